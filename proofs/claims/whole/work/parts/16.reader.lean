/-! links of the pools, as the walks ask for them -/
theorem l_PieceReader_40_PieceReader : lnk "StreamFilters$PieceReader" 40 F_PieceReader 12 5 := ⟨by decide, "StreamFilters$PieceReader", Or.inl rfl, Or.inl (tb 112 (by decide +kernel) rfl)⟩
theorem l_PieceReader_51_PieceReader : lnk "StreamFilters$PieceReader" 51 F_PieceReader 12 2 := ⟨by decide, "StreamFilters$PieceReader", Or.inl rfl, Or.inl (tb 109 (by decide +kernel) rfl)⟩
theorem l_PieceReader_61_PieceReader : lnk "StreamFilters$PieceReader" 61 F_PieceReader 12 1 := ⟨by decide, "StreamFilters$PieceReader", Or.inl rfl, Or.inl (tb 108 (by decide +kernel) rfl)⟩
theorem l_PieceReader_9_PieceReader : lnk "StreamFilters$PieceReader" 9 F_PieceReader 12 0 := ⟨by decide, "StreamFilters$PieceReader", Or.inl rfl, Or.inl (tb 107 (by decide +kernel) rfl)⟩
theorem cw_PieceReader_57 : cwk "StreamFilters$PieceReader" 57 y_Signs_at b_Signs_at 2 (some .int) 1 := ⟨Or.inl (tb 215 (by decide +kernel) rfl), (tb 218 (by decide +kernel) rfl), (tb 2 (by decide +kernel) rfl), by decide, by decide, by decide +kernel⟩
theorem cw_PieceReader_84 : cwk "StreamFilters$PieceReader" 84 y_Signs_hasWord b_Signs_hasWord 5 (some .boolean) 3 := ⟨Or.inl (tb 237 (by decide +kernel) rfl), (tb 240 (by decide +kernel) rfl), (tb 2 (by decide +kernel) rfl), by decide, by decide, by decide +kernel⟩
theorem se_Signs_hasWord : Cond.instanceMethod y_Signs_hasWord ∈ TB ∧ Cond.selects "StreamFilters$Signs" y_Signs_hasWord y_Signs_hasWord ∈ TB := ⟨(tb 238 (by decide +kernel) rfl), (tb 239 (by decide +kernel) rfl)⟩
/-! decode rows -/
theorem d_PieceReader_limitNamed_0 : decode b_PieceReader_limitNamed 0 = .ok (.aload_n 0, 1) := by decide +kernel
theorem d_PieceReader_limitNamed_1 : decode b_PieceReader_limitNamed 1 = .ok (.getfield 9, 3) := by decide +kernel
theorem d_PieceReader_limitNamed_4 : decode b_PieceReader_limitNamed 4 = .ok (.ldc 82, 2) := by decide +kernel
theorem d_PieceReader_limitNamed_6 : decode b_PieceReader_limitNamed 6 = .ok (.aload_n 0, 1) := by decide +kernel
theorem d_PieceReader_limitNamed_7 : decode b_PieceReader_limitNamed 7 = .ok (.getfield 61, 3) := by decide +kernel
theorem d_PieceReader_limitNamed_10 : decode b_PieceReader_limitNamed 10 = .ok (.iload_n 1, 1) := by decide +kernel
theorem d_PieceReader_limitNamed_11 : decode b_PieceReader_limitNamed 11 = .ok (.invokevirtual 84, 3) := by decide +kernel
theorem d_PieceReader_limitNamed_14 : decode b_PieceReader_limitNamed 14 = .ok (.ifCond .eq 5, 3) := by decide +kernel
theorem d_PieceReader_limitNamed_17 : decode b_PieceReader_limitNamed 17 = .ok (.iconst 0, 1) := by decide +kernel
theorem d_PieceReader_limitNamed_18 : decode b_PieceReader_limitNamed 18 = .ok (.ireturn, 1) := by decide +kernel
theorem d_PieceReader_limitNamed_19 : decode b_PieceReader_limitNamed 19 = .ok (.aload_n 0, 1) := by decide +kernel
theorem d_PieceReader_limitNamed_20 : decode b_PieceReader_limitNamed 20 = .ok (.getfield 9, 3) := by decide +kernel
theorem d_PieceReader_limitNamed_23 : decode b_PieceReader_limitNamed 23 = .ok (.ldc 88, 2) := by decide +kernel
theorem d_PieceReader_limitNamed_25 : decode b_PieceReader_limitNamed 25 = .ok (.aload_n 0, 1) := by decide +kernel
theorem d_PieceReader_limitNamed_26 : decode b_PieceReader_limitNamed 26 = .ok (.getfield 61, 3) := by decide +kernel
theorem d_PieceReader_limitNamed_29 : decode b_PieceReader_limitNamed 29 = .ok (.iload_n 1, 1) := by decide +kernel
theorem d_PieceReader_limitNamed_30 : decode b_PieceReader_limitNamed 30 = .ok (.invokevirtual 84, 3) := by decide +kernel
theorem d_PieceReader_limitNamed_33 : decode b_PieceReader_limitNamed 33 = .ok (.ifCond .eq 5, 3) := by decide +kernel
theorem d_PieceReader_limitNamed_36 : decode b_PieceReader_limitNamed 36 = .ok (.iconst 1, 1) := by decide +kernel
theorem d_PieceReader_limitNamed_37 : decode b_PieceReader_limitNamed 37 = .ok (.ireturn, 1) := by decide +kernel
theorem d_PieceReader_limitNamed_38 : decode b_PieceReader_limitNamed 38 = .ok (.aload_n 0, 1) := by decide +kernel
theorem d_PieceReader_limitNamed_39 : decode b_PieceReader_limitNamed 39 = .ok (.getfield 9, 3) := by decide +kernel
theorem d_PieceReader_limitNamed_42 : decode b_PieceReader_limitNamed 42 = .ok (.ldc 90, 2) := by decide +kernel
theorem d_PieceReader_limitNamed_44 : decode b_PieceReader_limitNamed 44 = .ok (.aload_n 0, 1) := by decide +kernel
theorem d_PieceReader_limitNamed_45 : decode b_PieceReader_limitNamed 45 = .ok (.getfield 61, 3) := by decide +kernel
theorem d_PieceReader_limitNamed_48 : decode b_PieceReader_limitNamed 48 = .ok (.iload_n 1, 1) := by decide +kernel
theorem d_PieceReader_limitNamed_49 : decode b_PieceReader_limitNamed 49 = .ok (.invokevirtual 84, 3) := by decide +kernel
theorem d_PieceReader_limitNamed_52 : decode b_PieceReader_limitNamed 52 = .ok (.ifCond .eq 5, 3) := by decide +kernel
theorem d_PieceReader_limitNamed_55 : decode b_PieceReader_limitNamed 55 = .ok (.iconst 2, 1) := by decide +kernel
theorem d_PieceReader_limitNamed_56 : decode b_PieceReader_limitNamed 56 = .ok (.ireturn, 1) := by decide +kernel
theorem d_PieceReader_limitNamed_57 : decode b_PieceReader_limitNamed 57 = .ok (.aload_n 0, 1) := by decide +kernel
theorem d_PieceReader_limitNamed_58 : decode b_PieceReader_limitNamed 58 = .ok (.getfield 9, 3) := by decide +kernel
theorem d_PieceReader_limitNamed_61 : decode b_PieceReader_limitNamed 61 = .ok (.ldc 92, 2) := by decide +kernel
theorem d_PieceReader_limitNamed_63 : decode b_PieceReader_limitNamed 63 = .ok (.aload_n 0, 1) := by decide +kernel
theorem d_PieceReader_limitNamed_64 : decode b_PieceReader_limitNamed 64 = .ok (.getfield 61, 3) := by decide +kernel
theorem d_PieceReader_limitNamed_67 : decode b_PieceReader_limitNamed 67 = .ok (.iload_n 1, 1) := by decide +kernel
theorem d_PieceReader_limitNamed_68 : decode b_PieceReader_limitNamed 68 = .ok (.invokevirtual 84, 3) := by decide +kernel
theorem d_PieceReader_limitNamed_71 : decode b_PieceReader_limitNamed 71 = .ok (.ifCond .eq 7, 3) := by decide +kernel
theorem d_PieceReader_limitNamed_74 : decode b_PieceReader_limitNamed 74 = .ok (.iconst 3, 1) := by decide +kernel
theorem d_PieceReader_limitNamed_75 : decode b_PieceReader_limitNamed 75 = .ok (.goto 5, 3) := by decide +kernel
theorem d_PieceReader_limitNamed_78 : decode b_PieceReader_limitNamed 78 = .ok (.bipush (-2), 2) := by decide +kernel
theorem d_PieceReader_limitNamed_80 : decode b_PieceReader_limitNamed 80 = .ok (.ireturn, 1) := by decide +kernel
theorem d_PieceReader_readNumber_0 : decode b_PieceReader_readNumber 0 = .ok (.aload_n 0, 1) := by decide +kernel
theorem d_PieceReader_readNumber_1 : decode b_PieceReader_readNumber 1 = .ok (.getfield 51, 3) := by decide +kernel
theorem d_PieceReader_readNumber_4 : decode b_PieceReader_readNumber 4 = .ok (.iload_n 1, 1) := by decide +kernel
theorem d_PieceReader_readNumber_5 : decode b_PieceReader_readNumber 5 = .ok (.isub, 1) := by decide +kernel
theorem d_PieceReader_readNumber_6 : decode b_PieceReader_readNumber 6 = .ok (.istore_n 2, 1) := by decide +kernel
theorem d_PieceReader_readNumber_7 : decode b_PieceReader_readNumber 7 = .ok (.iload_n 2, 1) := by decide +kernel
theorem d_PieceReader_readNumber_8 : decode b_PieceReader_readNumber 8 = .ok (.iconst 1, 1) := by decide +kernel
theorem d_PieceReader_readNumber_9 : decode b_PieceReader_readNumber 9 = .ok (.if_icmp .lt 9, 3) := by decide +kernel
theorem d_PieceReader_readNumber_12 : decode b_PieceReader_readNumber 12 = .ok (.iload_n 2, 1) := by decide +kernel
theorem d_PieceReader_readNumber_13 : decode b_PieceReader_readNumber 13 = .ok (.bipush 9, 2) := by decide +kernel
theorem d_PieceReader_readNumber_15 : decode b_PieceReader_readNumber 15 = .ok (.if_icmp .le 5, 3) := by decide +kernel
theorem d_PieceReader_readNumber_18 : decode b_PieceReader_readNumber 18 = .ok (.iconst 0, 1) := by decide +kernel
theorem d_PieceReader_readNumber_19 : decode b_PieceReader_readNumber 19 = .ok (.ireturn, 1) := by decide +kernel
theorem d_PieceReader_readNumber_20 : decode b_PieceReader_readNumber 20 = .ok (.aload_n 0, 1) := by decide +kernel
theorem d_PieceReader_readNumber_21 : decode b_PieceReader_readNumber 21 = .ok (.iconst 0, 1) := by decide +kernel
theorem d_PieceReader_readNumber_22 : decode b_PieceReader_readNumber 22 = .ok (.putfield 40, 3) := by decide +kernel
theorem d_PieceReader_readNumber_25 : decode b_PieceReader_readNumber 25 = .ok (.iload_n 1, 1) := by decide +kernel
theorem d_PieceReader_readNumber_26 : decode b_PieceReader_readNumber 26 = .ok (.istore_n 3, 1) := by decide +kernel
theorem d_PieceReader_readNumber_27 : decode b_PieceReader_readNumber 27 = .ok (.iload_n 3, 1) := by decide +kernel
theorem d_PieceReader_readNumber_28 : decode b_PieceReader_readNumber 28 = .ok (.aload_n 0, 1) := by decide +kernel
theorem d_PieceReader_readNumber_29 : decode b_PieceReader_readNumber 29 = .ok (.getfield 51, 3) := by decide +kernel
theorem d_PieceReader_readNumber_32 : decode b_PieceReader_readNumber 32 = .ok (.if_icmp .ge 52, 3) := by decide +kernel
theorem d_PieceReader_readNumber_35 : decode b_PieceReader_readNumber 35 = .ok (.aload_n 0, 1) := by decide +kernel
theorem d_PieceReader_readNumber_36 : decode b_PieceReader_readNumber 36 = .ok (.getfield 9, 3) := by decide +kernel
theorem d_PieceReader_readNumber_39 : decode b_PieceReader_readNumber 39 = .ok (.iload_n 3, 1) := by decide +kernel
theorem d_PieceReader_readNumber_40 : decode b_PieceReader_readNumber 40 = .ok (.invokevirtual 57, 3) := by decide +kernel
theorem d_PieceReader_readNumber_43 : decode b_PieceReader_readNumber 43 = .ok (.istore 4, 2) := by decide +kernel
theorem d_PieceReader_readNumber_45 : decode b_PieceReader_readNumber 45 = .ok (.iload 4, 2) := by decide +kernel
theorem d_PieceReader_readNumber_47 : decode b_PieceReader_readNumber 47 = .ok (.bipush 48, 2) := by decide +kernel
theorem d_PieceReader_readNumber_49 : decode b_PieceReader_readNumber 49 = .ok (.if_icmp .lt 10, 3) := by decide +kernel
theorem d_PieceReader_readNumber_52 : decode b_PieceReader_readNumber 52 = .ok (.iload 4, 2) := by decide +kernel
theorem d_PieceReader_readNumber_54 : decode b_PieceReader_readNumber 54 = .ok (.bipush 57, 2) := by decide +kernel
theorem d_PieceReader_readNumber_56 : decode b_PieceReader_readNumber 56 = .ok (.if_icmp .le 5, 3) := by decide +kernel
theorem d_PieceReader_readNumber_59 : decode b_PieceReader_readNumber 59 = .ok (.iconst 0, 1) := by decide +kernel
theorem d_PieceReader_readNumber_60 : decode b_PieceReader_readNumber 60 = .ok (.ireturn, 1) := by decide +kernel
theorem d_PieceReader_readNumber_61 : decode b_PieceReader_readNumber 61 = .ok (.aload_n 0, 1) := by decide +kernel
theorem d_PieceReader_readNumber_62 : decode b_PieceReader_readNumber 62 = .ok (.aload_n 0, 1) := by decide +kernel
theorem d_PieceReader_readNumber_63 : decode b_PieceReader_readNumber 63 = .ok (.getfield 40, 3) := by decide +kernel
theorem d_PieceReader_readNumber_66 : decode b_PieceReader_readNumber 66 = .ok (.bipush 10, 2) := by decide +kernel
theorem d_PieceReader_readNumber_68 : decode b_PieceReader_readNumber 68 = .ok (.imul, 1) := by decide +kernel
theorem d_PieceReader_readNumber_69 : decode b_PieceReader_readNumber 69 = .ok (.iload 4, 2) := by decide +kernel
theorem d_PieceReader_readNumber_71 : decode b_PieceReader_readNumber 71 = .ok (.bipush 48, 2) := by decide +kernel
theorem d_PieceReader_readNumber_73 : decode b_PieceReader_readNumber 73 = .ok (.isub, 1) := by decide +kernel
theorem d_PieceReader_readNumber_74 : decode b_PieceReader_readNumber 74 = .ok (.iadd, 1) := by decide +kernel
theorem d_PieceReader_readNumber_75 : decode b_PieceReader_readNumber 75 = .ok (.putfield 40, 3) := by decide +kernel
theorem d_PieceReader_readNumber_78 : decode b_PieceReader_readNumber 78 = .ok (.iinc 3 1, 3) := by decide +kernel
theorem d_PieceReader_readNumber_81 : decode b_PieceReader_readNumber 81 = .ok (.goto (-54), 3) := by decide +kernel
theorem d_PieceReader_readNumber_84 : decode b_PieceReader_readNumber 84 = .ok (.iconst 1, 1) := by decide +kernel
theorem d_PieceReader_readNumber_85 : decode b_PieceReader_readNumber 85 = .ok (.ireturn, 1) := by decide +kernel
set_option maxHeartbeats 4000000 in
set_option maxRecDepth 100000 in
/-- limitNamed(q) -/
theorem c_PieceReader_limitNamed (G : GG) (l : Launch) (sz : Nat) (f : Wd) {ra ta tr cap n : Nat} {t : Nat → Int32} {ven vpi vli vnu vrj vsh vmf vme vnf vne : Int32} {a q : Nat} (hR : f ra = some (.inr (3, [.ref ta, .int (nI a), .int ven, .int vpi, .int vli, .int vnu, .int vrj, .int vsh, .int vmf, .int vme, .int vnf, .int vne]))) (hT : sg G f ta tr cap n t) (h1 : a ≤ q) (h2 : q ≤ n) : Ci G l y_PieceReader_limitNamed b_PieceReader_limitNamed 2 (some .int) ({ frames := 5, cells := 0, slots := 0, locals := 111 }) sz f [.ref ra, .int (nI q)] (fun v f' => f = f' ∧ v = lmV t a q) := by
  refine ct_of (by decide) (Nat.le_of_ble_eq_true rfl) ?_
  intro p e s m below meth c ls H locs hEn
  obtain ⟨hc, hr, hlk, hin, hE, hw, hsz, hl⟩ := hEn
  have hx := hc.1
  have hb := hc.2.1
  have hl : lv_has ls 2 [(0, .ref ra), (1, .int (nI q))] := hl
  have hn9 : n ≤ 90 := by have := hT.2.2.1; have := hT.2.2.2.1; omega
  refine lv_aload_n hx hb d_PieceReader_limitNamed_0 rfl (lv_at hl 0 rfl) ?_
  refine m_get hc hE hw hR kc_PieceReader l_PieceReader_9_PieceReader rfl d_PieceReader_limitNamed_1 ?_
  refine m_ldc hc hE (k := 0) (tx := "maxdepth") (by decide) d_PieceReader_limitNamed_4 ?_
  refine lv_aload_n hx hb d_PieceReader_limitNamed_6 rfl (lv_at hl 0 rfl) ?_
  refine m_get hc hE hw hR kc_PieceReader l_PieceReader_61_PieceReader rfl d_PieceReader_limitNamed_7 ?_
  refine lv_iload_n hx hb d_PieceReader_limitNamed_10 rfl (lv_at hl 1 rfl) ?_
  refine m_calli hw (m_runV (As := [.ref (G.2.2.1 0), .int (nI a), .int (nI q)]) (rest := []) hc hE hw (c_Signs_hasWord G l H.size f hT (k := 0) (by decide) h1 h2) hT.1 rfl cw_PieceReader_84 se_Signs_hasWord rfl hl.1 rfl (Nat.le_of_ble_eq_true rfl) d_PieceReader_limitNamed_11 ⟨rfl, rfl, by decide, by decide⟩ ⟨by first | decide | (dsimp only; omega), by first | decide | (dsimp only; omega)⟩) (fun r3 g2 H locs p1 hw => ?_)
  obtain ⟨rfl, p1⟩ := p1
  refine lv_if_eq (tgt := 19) hx hb d_PieceReader_limitNamed_14 (by decide) (fun c4 => ?_) (fun c4 => ?_)
  · refine lv_aload_n hx hb d_PieceReader_limitNamed_19 rfl (lv_at hl 0 rfl) ?_
    refine m_get hc hE hw hR kc_PieceReader l_PieceReader_9_PieceReader rfl d_PieceReader_limitNamed_20 ?_
    refine m_ldc hc hE (k := 1) (tx := "maxrefs") (by decide) d_PieceReader_limitNamed_23 ?_
    refine lv_aload_n hx hb d_PieceReader_limitNamed_25 rfl (lv_at hl 0 rfl) ?_
    refine m_get hc hE hw hR kc_PieceReader l_PieceReader_61_PieceReader rfl d_PieceReader_limitNamed_26 ?_
    refine lv_iload_n hx hb d_PieceReader_limitNamed_29 rfl (lv_at hl 1 rfl) ?_
    refine m_calli hw (m_runV (As := [.ref (G.2.2.1 1), .int (nI a), .int (nI q)]) (rest := []) hc hE hw (c_Signs_hasWord G l H.size f hT (k := 1) (by decide) h1 h2) hT.1 rfl cw_PieceReader_84 se_Signs_hasWord rfl hl.1 rfl (Nat.le_of_ble_eq_true rfl) d_PieceReader_limitNamed_30 ⟨rfl, rfl, by decide, by decide⟩ ⟨by first | decide | (dsimp only; omega), by first | decide | (dsimp only; omega)⟩) (fun r7 g6 H locs p5 hw => ?_)
    obtain ⟨rfl, p5⟩ := p5
    refine lv_if_eq (tgt := 38) hx hb d_PieceReader_limitNamed_33 (by decide) (fun c8 => ?_) (fun c8 => ?_)
    · refine lv_aload_n hx hb d_PieceReader_limitNamed_38 rfl (lv_at hl 0 rfl) ?_
      refine m_get hc hE hw hR kc_PieceReader l_PieceReader_9_PieceReader rfl d_PieceReader_limitNamed_39 ?_
      refine m_ldc hc hE (k := 2) (tx := "maxbytes") (by decide) d_PieceReader_limitNamed_42 ?_
      refine lv_aload_n hx hb d_PieceReader_limitNamed_44 rfl (lv_at hl 0 rfl) ?_
      refine m_get hc hE hw hR kc_PieceReader l_PieceReader_61_PieceReader rfl d_PieceReader_limitNamed_45 ?_
      refine lv_iload_n hx hb d_PieceReader_limitNamed_48 rfl (lv_at hl 1 rfl) ?_
      refine m_calli hw (m_runV (As := [.ref (G.2.2.1 2), .int (nI a), .int (nI q)]) (rest := []) hc hE hw (c_Signs_hasWord G l H.size f hT (k := 2) (by decide) h1 h2) hT.1 rfl cw_PieceReader_84 se_Signs_hasWord rfl hl.1 rfl (Nat.le_of_ble_eq_true rfl) d_PieceReader_limitNamed_49 ⟨rfl, rfl, by decide, by decide⟩ ⟨by first | decide | (dsimp only; omega), by first | decide | (dsimp only; omega)⟩) (fun r11 g10 H locs p9 hw => ?_)
      obtain ⟨rfl, p9⟩ := p9
      refine lv_if_eq (tgt := 57) hx hb d_PieceReader_limitNamed_52 (by decide) (fun c12 => ?_) (fun c12 => ?_)
      · refine lv_aload_n hx hb d_PieceReader_limitNamed_57 rfl (lv_at hl 0 rfl) ?_
        refine m_get hc hE hw hR kc_PieceReader l_PieceReader_9_PieceReader rfl d_PieceReader_limitNamed_58 ?_
        refine m_ldc hc hE (k := 3) (tx := "maxarray") (by decide) d_PieceReader_limitNamed_61 ?_
        refine lv_aload_n hx hb d_PieceReader_limitNamed_63 rfl (lv_at hl 0 rfl) ?_
        refine m_get hc hE hw hR kc_PieceReader l_PieceReader_61_PieceReader rfl d_PieceReader_limitNamed_64 ?_
        refine lv_iload_n hx hb d_PieceReader_limitNamed_67 rfl (lv_at hl 1 rfl) ?_
        refine m_calli hw (m_runV (As := [.ref (G.2.2.1 3), .int (nI a), .int (nI q)]) (rest := []) hc hE hw (c_Signs_hasWord G l H.size f hT (k := 3) (by decide) h1 h2) hT.1 rfl cw_PieceReader_84 se_Signs_hasWord rfl hl.1 rfl (Nat.le_of_ble_eq_true rfl) d_PieceReader_limitNamed_68 ⟨rfl, rfl, by decide, by decide⟩ ⟨by first | decide | (dsimp only; omega), by first | decide | (dsimp only; omega)⟩) (fun r15 g14 H locs p13 hw => ?_)
        obtain ⟨rfl, p13⟩ := p13
        refine lv_if_eq (tgt := 78) hx hb d_PieceReader_limitNamed_71 (by decide) (fun c16 => ?_) (fun c16 => ?_)
        · refine lv_bipush (v := (-2)) hx hb d_PieceReader_limitNamed_78 (by decide) ?_
          exact m_iret hc hr hlk hw ⟨by first | decide | (dsimp only; omega), by first | decide | (dsimp only; omega)⟩ d_PieceReader_limitNamed_80 ⟨rfl, by unfold lmV; rw [pif_f (bI_0.mp (p1.symm.trans c4)), pif_f (bI_0.mp (p5.symm.trans c8)), pif_f (bI_0.mp (p9.symm.trans c12)), pif_f (bI_0.mp (p13.symm.trans c16))]⟩
        · refine lv_iconst (v := 3) hx hb d_PieceReader_limitNamed_74 (by decide) ?_
          refine lv_goto (tgt := 80) hx hb d_PieceReader_limitNamed_75 (by decide) ?_
          exact m_iret hc hr hlk hw ⟨by first | decide | (dsimp only; omega), by first | decide | (dsimp only; omega)⟩ d_PieceReader_limitNamed_80 ⟨rfl, by unfold lmV; rw [pif_f (bI_0.mp (p1.symm.trans c4)), pif_f (bI_0.mp (p5.symm.trans c8)), pif_f (bI_0.mp (p9.symm.trans c12)), pif_t (bI_n.mp (fun z => c16 (p13.trans z)))]⟩
      · refine lv_iconst (v := 2) hx hb d_PieceReader_limitNamed_55 (by decide) ?_
        exact m_iret hc hr hlk hw ⟨by first | decide | (dsimp only; omega), by first | decide | (dsimp only; omega)⟩ d_PieceReader_limitNamed_56 ⟨rfl, by unfold lmV; rw [pif_f (bI_0.mp (p1.symm.trans c4)), pif_f (bI_0.mp (p5.symm.trans c8)), pif_t (bI_n.mp (fun z => c12 (p9.trans z)))]⟩
    · refine lv_iconst (v := 1) hx hb d_PieceReader_limitNamed_36 (by decide) ?_
      exact m_iret hc hr hlk hw ⟨by first | decide | (dsimp only; omega), by first | decide | (dsimp only; omega)⟩ d_PieceReader_limitNamed_37 ⟨rfl, by unfold lmV; rw [pif_f (bI_0.mp (p1.symm.trans c4)), pif_t (bI_n.mp (fun z => c8 (p5.trans z)))]⟩
  · refine lv_iconst (v := 0) hx hb d_PieceReader_limitNamed_17 (by decide) ?_
    exact m_iret hc hr hlk hw ⟨by first | decide | (dsimp only; omega), by first | decide | (dsimp only; omega)⟩ d_PieceReader_limitNamed_18 ⟨rfl, by unfold lmV; rw [pif_t (bI_n.mp (fun z => c4 (p1.trans z)))]⟩

set_option maxHeartbeats 4000000 in
set_option maxRecDepth 100000 in
/-- readNumber(d) -/
theorem c_PieceReader_readNumber (G : GG) (l : Launch) (sz : Nat) (f : Wd) {ra ta tr cap n : Nat} {t : Nat → Int32} {vfr vpi vli vnu vrj vsh vmf vme vnf vne : Int32} {d e0 : Nat} (hR : f ra = some (.inr (3, [.ref ta, .int vfr, .int (nI e0), .int vpi, .int vli, .int vnu, .int vrj, .int vsh, .int vmf, .int vme, .int vnf, .int vne]))) (hT : sg G f ta tr cap n t) (h1 : d ≤ e0) (h2 : e0 ≤ n) : Ci G l y_PieceReader_readNumber b_PieceReader_readNumber 5 (some .boolean) ({ frames := 1, cells := 0, slots := 0, locals := 21 }) sz f [.ref ra, .int (nI d)] (fun v f' => ∃ nu : Int32, f' = va_up f ra (some (.inr (3, [.ref ta, .int vfr, .int (nI e0), .int vpi, .int vli, .int nu, .int vrj, .int vsh, .int vmf, .int vme, .int vnf, .int vne]))) ∧ v = bI (nok t d e0) ∧ (nok t d e0 → nu = nmb t d (e0 - d))) := by
  refine ct_of (by decide) (Nat.le_of_ble_eq_true rfl) ?_
  intro p e s m below meth c ls H locs hEn
  obtain ⟨hc, hr, hlk, hin, hE, hw, hsz, hl⟩ := hEn
  have hx := hc.1
  have hb := hc.2.1
  have hl : lv_has ls 5 [(0, .ref ra), (1, .int (nI d))] := hl
  have hn9 : n ≤ 90 := by have := hT.2.2.1; have := hT.2.2.2.1; omega
  refine lv_aload_n hx hb d_PieceReader_readNumber_0 rfl (lv_at hl 0 rfl) ?_
  refine m_get hc hE hw hR kc_PieceReader l_PieceReader_51_PieceReader rfl d_PieceReader_readNumber_1 ?_
  refine lv_iload_n hx hb d_PieceReader_readNumber_4 rfl (lv_at hl 1 rfl) ?_
  refine lv_isub hx hb d_PieceReader_readNumber_5 ?_
  refine m_top (y := (nI (e0 - d))) (pk_sub h1) ?_
  refine lv_istore_n (lv' := [(2, .int (nI (e0 - d))), (0, .ref ra), (1, .int (nI d))]) hx hb d_PieceReader_readNumber_6 rfl hl (by decide) rfl (fun ls hl => ?_)
  refine lv_iload_n hx hb d_PieceReader_readNumber_7 rfl (lv_at hl 0 rfl) ?_
  refine lv_iconst (v := 1) hx hb d_PieceReader_readNumber_8 (by decide) ?_
  refine lv_icmp_lt (tgt := 18) hx hb d_PieceReader_readNumber_9 (by decide) (fun c1 => ?_) (fun c1 => ?_)
  · refine lv_iconst (v := 0) hx hb d_PieceReader_readNumber_18 (by decide) ?_
    have hno : ¬ nok t d e0 := fun z => absurd ((nI_ltI (a := e0 - d) (b := 1) (by omega) (by decide)).mp c1) (by have := z.1; omega)
    exact m_zret hc hr hlk hw ⟨by first | decide | (dsimp only; omega), by first | decide | (dsimp only; omega)⟩ d_PieceReader_readNumber_19 (by decide) ⟨vnu, (up_id hR).symm, (bI_f hno).symm, fun z => absurd z hno⟩
  · refine lv_iload_n hx hb d_PieceReader_readNumber_12 rfl (lv_at hl 0 rfl) ?_
    refine lv_bipush (v := 9) hx hb d_PieceReader_readNumber_13 (by decide) ?_
    refine lv_icmp_le (tgt := 20) hx hb d_PieceReader_readNumber_15 (by decide) (fun c2 => ?_) (fun c2 => ?_)
    · refine lv_aload_n hx hb d_PieceReader_readNumber_20 rfl (lv_at hl 1 rfl) ?_
      refine lv_iconst (v := 0) hx hb d_PieceReader_readNumber_21 (by decide) ?_
      refine m_put hc hE hw hR kc_PieceReader l_PieceReader_40_PieceReader rfl ds_PieceReader_5 rfl rfl (Nat.le_of_ble_eq_true rfl) d_PieceReader_readNumber_22 (fun H locs hw => ?_)
      obtain ⟨f3, ef3⟩ : ∃ z : Wd, z = va_up f ra (some (.inr (3, [.ref ta, .int vfr, .int (nI e0), .int vpi, .int vli, .int 0, .int vrj, .int vsh, .int vmf, .int vme, .int vnf, .int vne]))) := ⟨_, rfl⟩
      replace hw : ms G.1 (Af f sz) f3 s H locs := by rw [ef3]; exact hw
      have h4 : f3 ta = some (.inr (1, [.ref tr, .int (nI n)])) := by rw [ef3, va_up_ne _ _ (wne hT.1 hR (wd_oo (by decide)))]; exact hT.1
      have h5 : f3 ra = some (.inr (3, [.ref ta, .int vfr, .int (nI e0), .int vpi, .int vli, .int 0, .int vrj, .int vsh, .int vmf, .int vme, .int vnf, .int vne])) := by rw [ef3, va_up_self]
      have hT6 : sg G f3 ta tr cap n t := by rw [ef3]; exact sg_up hT hR wd_x
      refine lv_iload_n hx hb d_PieceReader_readNumber_25 rfl (lv_at hl 2 rfl) ?_
      refine lv_istore_n (lv' := [(3, .int (nI d)), (2, .int (nI (e0 - d))), (0, .ref ra), (1, .int (nI d))]) hx hb d_PieceReader_readNumber_26 rfl hl (by decide) rfl (fun ls hl => ?_)
      have hd1 : 1 ≤ e0 - d := by have : ¬ e0 - d < 1 := fun z => c1 (nI_lt (a := e0 - d) (b := 1) z (by decide)); omega
      have hd2 : e0 - d ≤ 9 := (nI_leI (a := e0 - d) (b := 9) (by omega) (by decide)).mp c2
      have loop : ∀ (fu : Nat) (k0 : Nat) (fw : Wd) (ls : Array Slot) (H : Heap) (locs : List Loc), e0 - d - k0 < fu → k0 ≤ e0 - d → fw = va_up f ra (some (.inr (3, [.ref ta, .int vfr, .int (nI e0), .int vpi, .int vli, .int (nmb t d k0), .int vrj, .int vsh, .int vmf, .int vme, .int vnf, .int vne]))) → (∀ j, j < k0 → 48 ≤ t (d + j) ∧ t (d + j) ≤ 57) → ms G.1 (Af f sz) fw s H locs → lv_has ls 5 [(3, .int (nI (d + k0))), (0, .ref ra), (1, .int (nI d)), (2, .int (nI (e0 - d)))] → W p l e ({ frames := 1, cells := 0, slots := 0, locals := 21 }) s m ([.ref ra, .int (nI d)] : List Value).toArray below meth c H locs 0 0 (MQ below (va_Qi (fun v f' => ∃ nu : Int32, f' = va_up f ra (some (.inr (3, [.ref ta, .int vfr, .int (nI e0), .int vpi, .int vli, .int nu, .int vrj, .int vsh, .int vmf, .int vme, .int vnf, .int vne]))) ∧ v = bI (nok t d e0) ∧ (nok t d e0 → nu = nmb t d (e0 - d))) (Bw G f sz) (Af f sz)) ([.ref ra, .int (nI d)] : List Value).toArray s 0 0 (Af f sz)) (F0 m 27 ls []) := by
        intro fu
        induction fu with
        | zero => intro k0 fw ls H locs h0; exact absurd h0 (Nat.not_lt_zero _)
        | succ fu ih =>
          intro k0 fw ls H locs hfu hk0 hfw hm hw hl
          have hwr : fw ra = some (.inr (3, [.ref ta, .int vfr, .int (nI e0), .int vpi, .int vli, .int (nmb t d k0), .int vrj, .int vsh, .int vmf, .int vme, .int vnf, .int vne])) := by rw [hfw, va_up_self]
          have hwT : sg G fw ta tr cap n t := by rw [hfw]; exact sg_up hT hR wd_x
          refine lv_iload_n hx hb d_PieceReader_readNumber_27 rfl (lv_at hl 0 rfl) ?_
          refine lv_aload_n hx hb d_PieceReader_readNumber_28 rfl (lv_at hl 1 rfl) ?_
          refine m_get hc hE hw hwr kc_PieceReader l_PieceReader_51_PieceReader rfl d_PieceReader_readNumber_29 ?_
          refine lv_icmp_ge (tgt := 84) hx hb d_PieceReader_readNumber_32 (by decide) (fun c7 => ?_) (fun c7 => ?_)
          · refine lv_iconst (v := 1) hx hb d_PieceReader_readNumber_84 (by decide) ?_
            have hk9 : k0 = e0 - d := by have := (nI_leI (by omega) (by omega)).mp c7; omega
            have hok : nok t d e0 := ⟨hd1, hd2, fun j q => hm j (by omega)⟩
            exact m_zret hc hr hlk hw ⟨by first | decide | (dsimp only; omega), by first | decide | (dsimp only; omega)⟩ d_PieceReader_readNumber_85 (by decide) ⟨nmb t d k0, hfw, (bI_t hok).symm, fun _ => by rw [hk9]⟩
          · refine lv_aload_n hx hb d_PieceReader_readNumber_35 rfl (lv_at hl 1 rfl) ?_
            refine m_get hc hE hw hwr kc_PieceReader l_PieceReader_9_PieceReader rfl d_PieceReader_readNumber_36 ?_
            refine lv_iload_n hx hb d_PieceReader_readNumber_39 rfl (lv_at hl 0 rfl) ?_
            refine m_calli hw (m_runV (As := [.int (nI (d + k0))]) (rest := []) hc hE hw (c_Signs_at G l H.size fw hwT (nI (d + k0))) hwT.1 rfl cw_PieceReader_57 se_Signs_at rfl hl.1 rfl (Nat.le_of_ble_eq_true rfl) d_PieceReader_readNumber_40 ⟨rfl, rfl, by decide, by decide⟩ ⟨by first | decide | (dsimp only; omega), by first | decide | (dsimp only; omega)⟩) (fun r10 g9 H locs p8 hw => ?_)
            obtain ⟨rfl, p8⟩ := p8
            have hlt : k0 < e0 - d := by have : ¬ e0 ≤ d + k0 := fun z => c7 (nI_le z (by omega)); omega
            rw [atv_in (by omega) (by omega)] at p8
            subst p8
            refine lv_istore (lv' := [(4, .int (t (d + k0))), (3, .int (nI (d + k0))), (0, .ref ra), (1, .int (nI d)), (2, .int (nI (e0 - d)))]) hx hb d_PieceReader_readNumber_43 hl (by decide) rfl (fun ls hl => ?_)
            refine lv_iload hx hb d_PieceReader_readNumber_45 (lv_at hl 0 rfl) ?_
            refine lv_bipush (v := 48) hx hb d_PieceReader_readNumber_47 (by decide) ?_
            refine lv_icmp_lt (tgt := 59) hx hb d_PieceReader_readNumber_49 (by decide) (fun c11 => ?_) (fun c11 => ?_)
            · refine lv_iconst (v := 0) hx hb d_PieceReader_readNumber_59 (by decide) ?_
              have hno : ¬ nok t d e0 := fun z => absurd c11 (Int32.not_lt.mpr (z.2.2 k0 hlt).1)
              exact m_zret hc hr hlk hw ⟨by first | decide | (dsimp only; omega), by first | decide | (dsimp only; omega)⟩ d_PieceReader_readNumber_60 (by decide) ⟨nmb t d k0, hfw, (bI_f hno).symm, fun z => absurd z hno⟩
            · refine lv_iload hx hb d_PieceReader_readNumber_52 (lv_at hl 0 rfl) ?_
              refine lv_bipush (v := 57) hx hb d_PieceReader_readNumber_54 (by decide) ?_
              refine lv_icmp_le (tgt := 61) hx hb d_PieceReader_readNumber_56 (by decide) (fun c12 => ?_) (fun c12 => ?_)
              · refine lv_aload_n hx hb d_PieceReader_readNumber_61 rfl (lv_at hl 2 rfl) ?_
                refine lv_aload_n hx hb d_PieceReader_readNumber_62 rfl (lv_at hl 2 rfl) ?_
                refine m_get hc hE hw hwr kc_PieceReader l_PieceReader_40_PieceReader rfl d_PieceReader_readNumber_63 ?_
                refine lv_bipush (v := 10) hx hb d_PieceReader_readNumber_66 (by decide) ?_
                refine lv_imul hx hb d_PieceReader_readNumber_68 ?_
                refine lv_iload hx hb d_PieceReader_readNumber_69 (lv_at hl 0 rfl) ?_
                refine lv_bipush (v := 48) hx hb d_PieceReader_readNumber_71 (by decide) ?_
                refine lv_isub hx hb d_PieceReader_readNumber_73 ?_
                refine lv_iadd hx hb d_PieceReader_readNumber_74 ?_
                refine m_put hc hE hw hwr kc_PieceReader l_PieceReader_40_PieceReader rfl ds_PieceReader_5 rfl rfl (Nat.le_of_ble_eq_true rfl) d_PieceReader_readNumber_75 (fun H locs hw => ?_)
                obtain ⟨f13, ef13⟩ : ∃ z : Wd, z = va_up fw ra (some (.inr (3, [.ref ta, .int vfr, .int (nI e0), .int vpi, .int vli, .int (((nmb t d k0) * 10) + ((t (d + k0)) - 48)), .int vrj, .int vsh, .int vmf, .int vme, .int vnf, .int vne]))) := ⟨_, rfl⟩
                replace hw : ms G.1 (Af f sz) f13 s H locs := by rw [ef13]; exact hw
                have h14 : f13 ta = some (.inr (1, [.ref tr, .int (nI n)])) := by rw [ef13, va_up_ne _ _ (wne hwT.1 hwr (wd_oo (by decide)))]; exact hwT.1
                have h15 : f13 ra = some (.inr (3, [.ref ta, .int vfr, .int (nI e0), .int vpi, .int vli, .int (((nmb t d k0) * 10) + ((t (d + k0)) - 48)), .int vrj, .int vsh, .int vmf, .int vme, .int vnf, .int vne])) := by rw [ef13, va_up_self]
                have hT16 : sg G f13 ta tr cap n t := by rw [ef13]; exact sg_up hwT hwr wd_x
                refine lv_iinc (v := (nI (d + (k0 + 1)))) (lv' := [(3, .int (nI (d + (k0 + 1)))), (4, .int (t (d + k0))), (0, .ref ra), (1, .int (nI d)), (2, .int (nI (e0 - d)))]) hx hb d_PieceReader_readNumber_78 hl (k := 1) rfl (nI_1 (d + k0)) (by decide) rfl (fun ls hl => ?_)
                refine lv_goto (tgt := 27) hx hb d_PieceReader_readNumber_81 (by decide) ?_
                refine ih (k0 + 1) f13 ls H locs (by omega) (by omega) ?_ (fun j q => ?_) hw (lv_sub hl [0, 2, 3, 4] rfl)
                · rw [ef13, hfw, up_uu]; rfl
                · rcases Nat.lt_or_ge j k0 with q1 | q1
                  · exact hm j q1
                  · rw [show j = k0 by omega]; exact ⟨Int32.not_lt.mp c11, c12⟩
              · refine lv_iconst (v := 0) hx hb d_PieceReader_readNumber_59 (by decide) ?_
                have hno : ¬ nok t d e0 := fun z => c12 (z.2.2 k0 hlt).2
                exact m_zret hc hr hlk hw ⟨by first | decide | (dsimp only; omega), by first | decide | (dsimp only; omega)⟩ d_PieceReader_readNumber_60 (by decide) ⟨nmb t d k0, hfw, (bI_f hno).symm, fun z => absurd z hno⟩
      refine loop (e0 - d + 1) 0 f3 ls H locs (by omega) (Nat.zero_le _) ef3 (fun j q => absurd q (Nat.not_lt_zero _)) hw (lv_sub hl [0, 2, 3, 1] rfl)
    · refine lv_iconst (v := 0) hx hb d_PieceReader_readNumber_18 (by decide) ?_
      have hno : ¬ nok t d e0 := fun z => c2 (nI_le (a := e0 - d) (b := 9) z.2.1 (by decide))
      exact m_zret hc hr hlk hw ⟨by first | decide | (dsimp only; omega), by first | decide | (dsimp only; omega)⟩ d_PieceReader_readNumber_19 (by decide) ⟨vnu, (up_id hR).symm, (bI_f hno).symm, fun z => absurd z hno⟩
