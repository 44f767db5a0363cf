/-! links of the pools, as the walks ask for them -/
theorem l_PieceReader_101_PieceReader : lnk "StreamFilters$PieceReader" 101 F_PieceReader 12 9 := ⟨by decide, "StreamFilters$PieceReader", Or.inl rfl, Or.inl (tb 120 (by decide +kernel) rfl)⟩
theorem l_PieceReader_94_PieceReader : lnk "StreamFilters$PieceReader" 94 F_PieceReader 12 6 := ⟨by decide, "StreamFilters$PieceReader", Or.inl rfl, Or.inl (tb 114 (by decide +kernel) rfl)⟩
theorem l_PieceReader_98_PieceReader : lnk "StreamFilters$PieceReader" 98 F_PieceReader 12 8 := ⟨by decide, "StreamFilters$PieceReader", Or.inl rfl, Or.inl (tb 118 (by decide +kernel) rfl)⟩
theorem cw_PieceReader_107 : cwk "StreamFilters$PieceReader" 107 y_PieceReader_readName b_PieceReader_readName 1 (some .boolean) 0 := ⟨Or.inl (tb 300 (by decide +kernel) rfl), (tb 303 (by decide +kernel) rfl), (tb 4 (by decide +kernel) rfl), by decide, by decide, by decide +kernel⟩
theorem cw_PieceReader_64 : cwk "StreamFilters$PieceReader" 64 y_Signs_find b_Signs_find 5 (some .int) 3 := ⟨Or.inl (tb 223 (by decide +kernel) rfl), (tb 226 (by decide +kernel) rfl), (tb 2 (by decide +kernel) rfl), by decide, by decide, by decide +kernel⟩
theorem se_PieceReader_readName : Cond.instanceMethod y_PieceReader_readName ∈ TB ∧ Cond.selects "StreamFilters$PieceReader" y_PieceReader_readName y_PieceReader_readName ∈ TB := ⟨(tb 302 (by decide +kernel) rfl), (tbs 7 (by decide +kernel) rfl)⟩
/-! decode rows -/
theorem d_PieceReader_readClass_0 : decode b_PieceReader_readClass 0 = .ok (.aload_n 0, 1) := by decide +kernel
theorem d_PieceReader_readClass_1 : decode b_PieceReader_readClass 1 = .ok (.aload_n 0, 1) := by decide +kernel
theorem d_PieceReader_readClass_2 : decode b_PieceReader_readClass 2 = .ok (.getfield 9, 3) := by decide +kernel
theorem d_PieceReader_readClass_5 : decode b_PieceReader_readClass 5 = .ok (.aload_n 0, 1) := by decide +kernel
theorem d_PieceReader_readClass_6 : decode b_PieceReader_readClass 6 = .ok (.getfield 61, 3) := by decide +kernel
theorem d_PieceReader_readClass_9 : decode b_PieceReader_readClass 9 = .ok (.invokevirtual 57, 3) := by decide +kernel
theorem d_PieceReader_readClass_12 : decode b_PieceReader_readClass 12 = .ok (.bipush 33, 2) := by decide +kernel
theorem d_PieceReader_readClass_14 : decode b_PieceReader_readClass 14 = .ok (.if_icmp .ne 7, 3) := by decide +kernel
theorem d_PieceReader_readClass_17 : decode b_PieceReader_readClass 17 = .ok (.iconst 1, 1) := by decide +kernel
theorem d_PieceReader_readClass_18 : decode b_PieceReader_readClass 18 = .ok (.goto 4, 3) := by decide +kernel
theorem d_PieceReader_readClass_21 : decode b_PieceReader_readClass 21 = .ok (.iconst 0, 1) := by decide +kernel
theorem d_PieceReader_readClass_22 : decode b_PieceReader_readClass 22 = .ok (.putfield 94, 3) := by decide +kernel
theorem d_PieceReader_readClass_25 : decode b_PieceReader_readClass 25 = .ok (.aload_n 0, 1) := by decide +kernel
theorem d_PieceReader_readClass_26 : decode b_PieceReader_readClass 26 = .ok (.aload_n 0, 1) := by decide +kernel
theorem d_PieceReader_readClass_27 : decode b_PieceReader_readClass 27 = .ok (.getfield 94, 3) := by decide +kernel
theorem d_PieceReader_readClass_30 : decode b_PieceReader_readClass 30 = .ok (.ifCond .eq 12, 3) := by decide +kernel
theorem d_PieceReader_readClass_33 : decode b_PieceReader_readClass 33 = .ok (.aload_n 0, 1) := by decide +kernel
theorem d_PieceReader_readClass_34 : decode b_PieceReader_readClass 34 = .ok (.getfield 61, 3) := by decide +kernel
theorem d_PieceReader_readClass_37 : decode b_PieceReader_readClass 37 = .ok (.iconst 1, 1) := by decide +kernel
theorem d_PieceReader_readClass_38 : decode b_PieceReader_readClass 38 = .ok (.iadd, 1) := by decide +kernel
theorem d_PieceReader_readClass_39 : decode b_PieceReader_readClass 39 = .ok (.goto 7, 3) := by decide +kernel
theorem d_PieceReader_readClass_42 : decode b_PieceReader_readClass 42 = .ok (.aload_n 0, 1) := by decide +kernel
theorem d_PieceReader_readClass_43 : decode b_PieceReader_readClass 43 = .ok (.getfield 61, 3) := by decide +kernel
theorem d_PieceReader_readClass_46 : decode b_PieceReader_readClass 46 = .ok (.putfield 98, 3) := by decide +kernel
theorem d_PieceReader_readClass_49 : decode b_PieceReader_readClass 49 = .ok (.aload_n 0, 1) := by decide +kernel
theorem d_PieceReader_readClass_50 : decode b_PieceReader_readClass 50 = .ok (.getfield 9, 3) := by decide +kernel
theorem d_PieceReader_readClass_53 : decode b_PieceReader_readClass 53 = .ok (.bipush 47, 2) := by decide +kernel
theorem d_PieceReader_readClass_55 : decode b_PieceReader_readClass 55 = .ok (.aload_n 0, 1) := by decide +kernel
theorem d_PieceReader_readClass_56 : decode b_PieceReader_readClass 56 = .ok (.getfield 98, 3) := by decide +kernel
theorem d_PieceReader_readClass_59 : decode b_PieceReader_readClass 59 = .ok (.aload_n 0, 1) := by decide +kernel
theorem d_PieceReader_readClass_60 : decode b_PieceReader_readClass 60 = .ok (.getfield 51, 3) := by decide +kernel
theorem d_PieceReader_readClass_63 : decode b_PieceReader_readClass 63 = .ok (.invokevirtual 64, 3) := by decide +kernel
theorem d_PieceReader_readClass_66 : decode b_PieceReader_readClass 66 = .ok (.istore_n 1, 1) := by decide +kernel
theorem d_PieceReader_readClass_67 : decode b_PieceReader_readClass 67 = .ok (.iload_n 1, 1) := by decide +kernel
theorem d_PieceReader_readClass_68 : decode b_PieceReader_readClass 68 = .ok (.aload_n 0, 1) := by decide +kernel
theorem d_PieceReader_readClass_69 : decode b_PieceReader_readClass 69 = .ok (.getfield 51, 3) := by decide +kernel
theorem d_PieceReader_readClass_72 : decode b_PieceReader_readClass 72 = .ok (.if_icmp .ne 24, 3) := by decide +kernel
theorem d_PieceReader_readClass_75 : decode b_PieceReader_readClass 75 = .ok (.aload_n 0, 1) := by decide +kernel
theorem d_PieceReader_readClass_76 : decode b_PieceReader_readClass 76 = .ok (.aload_n 0, 1) := by decide +kernel
theorem d_PieceReader_readClass_77 : decode b_PieceReader_readClass 77 = .ok (.getfield 98, 3) := by decide +kernel
theorem d_PieceReader_readClass_80 : decode b_PieceReader_readClass 80 = .ok (.putfield 101, 3) := by decide +kernel
theorem d_PieceReader_readClass_83 : decode b_PieceReader_readClass 83 = .ok (.aload_n 0, 1) := by decide +kernel
theorem d_PieceReader_readClass_84 : decode b_PieceReader_readClass 84 = .ok (.aload_n 0, 1) := by decide +kernel
theorem d_PieceReader_readClass_85 : decode b_PieceReader_readClass 85 = .ok (.getfield 98, 3) := by decide +kernel
theorem d_PieceReader_readClass_88 : decode b_PieceReader_readClass 88 = .ok (.putfield 104, 3) := by decide +kernel
theorem d_PieceReader_readClass_91 : decode b_PieceReader_readClass 91 = .ok (.aload_n 0, 1) := by decide +kernel
theorem d_PieceReader_readClass_92 : decode b_PieceReader_readClass 92 = .ok (.invokevirtual 107, 3) := by decide +kernel
theorem d_PieceReader_readClass_95 : decode b_PieceReader_readClass 95 = .ok (.ireturn, 1) := by decide +kernel
theorem d_PieceReader_readClass_96 : decode b_PieceReader_readClass 96 = .ok (.aload_n 0, 1) := by decide +kernel
theorem d_PieceReader_readClass_97 : decode b_PieceReader_readClass 97 = .ok (.iload_n 1, 1) := by decide +kernel
theorem d_PieceReader_readClass_98 : decode b_PieceReader_readClass 98 = .ok (.putfield 101, 3) := by decide +kernel
theorem d_PieceReader_readClass_101 : decode b_PieceReader_readClass 101 = .ok (.aload_n 0, 1) := by decide +kernel
theorem d_PieceReader_readClass_102 : decode b_PieceReader_readClass 102 = .ok (.iload_n 1, 1) := by decide +kernel
theorem d_PieceReader_readClass_103 : decode b_PieceReader_readClass 103 = .ok (.iconst 1, 1) := by decide +kernel
theorem d_PieceReader_readClass_104 : decode b_PieceReader_readClass 104 = .ok (.iadd, 1) := by decide +kernel
theorem d_PieceReader_readClass_105 : decode b_PieceReader_readClass 105 = .ok (.putfield 104, 3) := by decide +kernel
theorem d_PieceReader_readClass_108 : decode b_PieceReader_readClass 108 = .ok (.aload_n 0, 1) := by decide +kernel
theorem d_PieceReader_readClass_109 : decode b_PieceReader_readClass 109 = .ok (.getfield 101, 3) := by decide +kernel
theorem d_PieceReader_readClass_112 : decode b_PieceReader_readClass 112 = .ok (.aload_n 0, 1) := by decide +kernel
theorem d_PieceReader_readClass_113 : decode b_PieceReader_readClass 113 = .ok (.getfield 98, 3) := by decide +kernel
theorem d_PieceReader_readClass_116 : decode b_PieceReader_readClass 116 = .ok (.if_icmp .le 14, 3) := by decide +kernel
theorem d_PieceReader_readClass_119 : decode b_PieceReader_readClass 119 = .ok (.aload_n 0, 1) := by decide +kernel
theorem d_PieceReader_readClass_120 : decode b_PieceReader_readClass 120 = .ok (.invokevirtual 107, 3) := by decide +kernel
theorem d_PieceReader_readClass_123 : decode b_PieceReader_readClass 123 = .ok (.ifCond .eq 7, 3) := by decide +kernel
theorem d_PieceReader_readClass_126 : decode b_PieceReader_readClass 126 = .ok (.iconst 1, 1) := by decide +kernel
theorem d_PieceReader_readClass_127 : decode b_PieceReader_readClass 127 = .ok (.goto 4, 3) := by decide +kernel
theorem d_PieceReader_readClass_130 : decode b_PieceReader_readClass 130 = .ok (.iconst 0, 1) := by decide +kernel
theorem d_PieceReader_readClass_131 : decode b_PieceReader_readClass 131 = .ok (.ireturn, 1) := by decide +kernel
set_option maxHeartbeats 4000000 in
set_option maxRecDepth 100000 in
/-- readClass() -/
theorem c_PieceReader_readClass (G : GG) (l : Launch) (sz : Nat) (f : Wd) {ra ta tr cap n : Nat} {t : Nat → Int32} {vpi vli vnu vrj vsh vmf vme vnf vne : Int32} {a e0 : Nat} (hR : f ra = some (.inr (3, [.ref ta, .int (nI a), .int (nI e0), .int vpi, .int vli, .int vnu, .int vrj, .int vsh, .int vmf, .int vme, .int vnf, .int vne]))) (hT : sg G f ta tr cap n t) (h1 : a < e0) (h3 : e0 ≤ n) : Ci G l y_PieceReader_readClass b_PieceReader_readClass 2 (some .boolean) ({ frames := 6, cells := 0, slots := 0, locals := 131 }) sz f [.ref ra] (fun v f' => ∃ rj sh mf me nf ne : Int32, f' = va_up f ra (some (.inr (3, [.ref ta, .int (nI a), .int (nI e0), .int vpi, .int vli, .int vnu, .int rj, .int sh, .int mf, .int me, .int nf, .int ne]))) ∧ v = bI (okC t a e0) ∧ (okC t a e0 → rj = bI (t a = 33) ∧ sh = nI (shp t (q0c t a e0) e0) ∧ mf = nI (m0c t a) ∧ me = nI (m1c t a e0) ∧ nf = nI (q0c t a e0) ∧ ne = nI (nmE t (q0c t a e0) e0))) := by
  refine ct_of (by decide) (Nat.le_of_ble_eq_true rfl) ?_
  intro p e s m below meth c ls H locs hEn
  obtain ⟨hc, hr, hlk, hin, hE, hw, hsz, hl⟩ := hEn
  have hx := hc.1
  have hb := hc.2.1
  have hl : lv_has ls 2 [(0, .ref ra)] := hl
  have hn9 : n ≤ 90 := by have := hT.2.2.1; have := hT.2.2.2.1; omega
  have hm0 := m0c_in (t := t) h1
  have hsl := slc_in (t := t) h1
  have hq0 := q0c_in (t := t) h1
  refine lv_aload_n hx hb d_PieceReader_readClass_0 rfl (lv_at hl 0 rfl) ?_
  refine lv_aload_n hx hb d_PieceReader_readClass_1 rfl (lv_at hl 0 rfl) ?_
  refine m_get hc hE hw hR kc_PieceReader l_PieceReader_9_PieceReader rfl d_PieceReader_readClass_2 ?_
  refine lv_aload_n hx hb d_PieceReader_readClass_5 rfl (lv_at hl 0 rfl) ?_
  refine m_get hc hE hw hR kc_PieceReader l_PieceReader_61_PieceReader rfl d_PieceReader_readClass_6 ?_
  refine m_calli hw (m_runV (As := [.int (nI a)]) (rest := [.ref ra]) hc hE hw (c_Signs_at G l H.size f hT (nI a)) hT.1 rfl cw_PieceReader_57 se_Signs_at rfl hl.1 rfl (Nat.le_of_ble_eq_true rfl) d_PieceReader_readClass_9 ⟨rfl, rfl, by decide, by decide⟩ ⟨by first | decide | (dsimp only; omega), by first | decide | (dsimp only; omega)⟩) (fun r3 g2 H locs p1 hw => ?_)
  obtain ⟨rfl, p1⟩ := p1
  rw [atv_in (by omega) (by omega)] at p1
  subst p1
  refine lv_bipush (v := 33) hx hb d_PieceReader_readClass_12 (by decide) ?_
  refine lv_icmp_ne (tgt := 21) hx hb d_PieceReader_readClass_14 (by decide) (fun c4 => ?_) (fun c4 => ?_)
  · refine lv_iconst (v := 0) hx hb d_PieceReader_readClass_21 (by decide) ?_
    refine m_top (y := bI (t a = 33)) (bI_f c4).symm ?_
    refine m_put hc hE hw hR kc_PieceReader l_PieceReader_94_PieceReader rfl ds_PieceReader_6 (bI_nar _) (bI_fit _) (Nat.le_of_ble_eq_true rfl) d_PieceReader_readClass_22 (fun H locs hw => ?_)
    obtain ⟨f5, ef5⟩ : ∃ z : Wd, z = va_up f ra (some (.inr (3, [.ref ta, .int (nI a), .int (nI e0), .int vpi, .int vli, .int vnu, .int (bI (t a = 33)), .int vsh, .int vmf, .int vme, .int vnf, .int vne]))) := ⟨_, rfl⟩
    replace hw : ms G.1 (Af f sz) f5 s H locs := by rw [ef5]; exact hw
    have h6 : f5 ta = some (.inr (1, [.ref tr, .int (nI n)])) := by rw [ef5, va_up_ne _ _ (wne hT.1 hR (wd_oo (by decide)))]; exact hT.1
    have h7 : f5 ra = some (.inr (3, [.ref ta, .int (nI a), .int (nI e0), .int vpi, .int vli, .int vnu, .int (bI (t a = 33)), .int vsh, .int vmf, .int vme, .int vnf, .int vne])) := by rw [ef5, va_up_self]
    have hT8 : sg G f5 ta tr cap n t := by rw [ef5]; exact sg_up hT hR wd_x
    refine lv_aload_n hx hb d_PieceReader_readClass_25 rfl (lv_at hl 0 rfl) ?_
    refine lv_aload_n hx hb d_PieceReader_readClass_26 rfl (lv_at hl 0 rfl) ?_
    refine m_get hc hE hw h7 kc_PieceReader l_PieceReader_94_PieceReader rfl d_PieceReader_readClass_27 ?_
    refine lv_if_eq (tgt := 42) hx hb d_PieceReader_readClass_30 (by decide) (fun c9 => ?_) (fun c9 => ?_)
    · refine lv_aload_n hx hb d_PieceReader_readClass_42 rfl (lv_at hl 0 rfl) ?_
      refine m_get hc hE hw h7 kc_PieceReader l_PieceReader_61_PieceReader rfl d_PieceReader_readClass_43 ?_
      refine m_top (y := nI (m0c t a)) (by unfold m0c; rw [pif_f c4]) ?_
      refine m_put hc hE hw h7 kc_PieceReader l_PieceReader_98_PieceReader rfl ds_PieceReader_8 rfl rfl (Nat.le_of_ble_eq_true rfl) d_PieceReader_readClass_46 (fun H locs hw => ?_)
      obtain ⟨f10, ef10⟩ : ∃ z : Wd, z = va_up f5 ra (some (.inr (3, [.ref ta, .int (nI a), .int (nI e0), .int vpi, .int vli, .int vnu, .int (bI (t a = 33)), .int vsh, .int (nI (m0c t a)), .int vme, .int vnf, .int vne]))) := ⟨_, rfl⟩
      replace hw : ms G.1 (Af f sz) f10 s H locs := by rw [ef10]; exact hw
      have h11 : f10 ta = some (.inr (1, [.ref tr, .int (nI n)])) := by rw [ef10, va_up_ne _ _ (wne hT8.1 h7 (wd_oo (by decide)))]; exact hT8.1
      have h12 : f10 ra = some (.inr (3, [.ref ta, .int (nI a), .int (nI e0), .int vpi, .int vli, .int vnu, .int (bI (t a = 33)), .int vsh, .int (nI (m0c t a)), .int vme, .int vnf, .int vne])) := by rw [ef10, va_up_self]
      have hT13 : sg G f10 ta tr cap n t := by rw [ef10]; exact sg_up hT8 h7 wd_x
      refine lv_aload_n hx hb d_PieceReader_readClass_49 rfl (lv_at hl 0 rfl) ?_
      refine m_get hc hE hw h12 kc_PieceReader l_PieceReader_9_PieceReader rfl d_PieceReader_readClass_50 ?_
      refine lv_bipush (v := 47) hx hb d_PieceReader_readClass_53 (by decide) ?_
      refine lv_aload_n hx hb d_PieceReader_readClass_55 rfl (lv_at hl 0 rfl) ?_
      refine m_get hc hE hw h12 kc_PieceReader l_PieceReader_98_PieceReader rfl d_PieceReader_readClass_56 ?_
      refine lv_aload_n hx hb d_PieceReader_readClass_59 rfl (lv_at hl 0 rfl) ?_
      refine m_get hc hE hw h12 kc_PieceReader l_PieceReader_51_PieceReader rfl d_PieceReader_readClass_60 ?_
      refine m_calli hw (m_runV (As := [.int 47, .int (nI (m0c t a)), .int (nI e0)]) (rest := []) hc hE hw (c_Signs_find G l H.size f10 hT13 47 (i0 := m0c t a) (i1 := e0) (by omega) h3) hT13.1 rfl cw_PieceReader_64 se_Signs_find rfl hl.1 rfl (Nat.le_of_ble_eq_true rfl) d_PieceReader_readClass_63 ⟨rfl, rfl, by decide, by decide⟩ ⟨by first | decide | (dsimp only; omega), by first | decide | (dsimp only; omega)⟩) (fun r16 g15 H locs p14 hw => ?_)
      obtain ⟨rfl, p14⟩ := p14
      replace p14 : r16 = nI (slc t a e0) := p14
      subst p14
      refine lv_istore_n (lv' := [(1, .int (nI (slc t a e0))), (0, .ref ra)]) hx hb d_PieceReader_readClass_66 rfl hl (by decide) rfl (fun ls hl => ?_)
      refine lv_iload_n hx hb d_PieceReader_readClass_67 rfl (lv_at hl 0 rfl) ?_
      refine lv_aload_n hx hb d_PieceReader_readClass_68 rfl (lv_at hl 1 rfl) ?_
      refine m_get hc hE hw h12 kc_PieceReader l_PieceReader_51_PieceReader rfl d_PieceReader_readClass_69 ?_
      refine lv_icmp_ne (tgt := 96) hx hb d_PieceReader_readClass_72 (by decide) (fun c17 => ?_) (fun c17 => ?_)
      · refine lv_aload_n hx hb d_PieceReader_readClass_96 rfl (lv_at hl 1 rfl) ?_
        refine lv_iload_n hx hb d_PieceReader_readClass_97 rfl (lv_at hl 0 rfl) ?_
        refine m_put hc hE hw h12 kc_PieceReader l_PieceReader_101_PieceReader rfl ds_PieceReader_9 rfl rfl (Nat.le_of_ble_eq_true rfl) d_PieceReader_readClass_98 (fun H locs hw => ?_)
        obtain ⟨f18, ef18⟩ : ∃ z : Wd, z = va_up f10 ra (some (.inr (3, [.ref ta, .int (nI a), .int (nI e0), .int vpi, .int vli, .int vnu, .int (bI (t a = 33)), .int vsh, .int (nI (m0c t a)), .int (nI (slc t a e0)), .int vnf, .int vne]))) := ⟨_, rfl⟩
        replace hw : ms G.1 (Af f sz) f18 s H locs := by rw [ef18]; exact hw
        have h19 : f18 ta = some (.inr (1, [.ref tr, .int (nI n)])) := by rw [ef18, va_up_ne _ _ (wne hT13.1 h12 (wd_oo (by decide)))]; exact hT13.1
        have h20 : f18 ra = some (.inr (3, [.ref ta, .int (nI a), .int (nI e0), .int vpi, .int vli, .int vnu, .int (bI (t a = 33)), .int vsh, .int (nI (m0c t a)), .int (nI (slc t a e0)), .int vnf, .int vne])) := by rw [ef18, va_up_self]
        have hT21 : sg G f18 ta tr cap n t := by rw [ef18]; exact sg_up hT13 h12 wd_x
        refine lv_aload_n hx hb d_PieceReader_readClass_101 rfl (lv_at hl 1 rfl) ?_
        refine lv_iload_n hx hb d_PieceReader_readClass_102 rfl (lv_at hl 0 rfl) ?_
        refine lv_iconst (v := 1) hx hb d_PieceReader_readClass_103 (by decide) ?_
        refine lv_iadd hx hb d_PieceReader_readClass_104 ?_
        refine m_top (y := (nI (slc t a e0 + 1))) (nI_1 _) ?_
        refine m_put hc hE hw h20 kc_PieceReader l_PieceReader_104_PieceReader rfl ds_PieceReader_10 rfl rfl (Nat.le_of_ble_eq_true rfl) d_PieceReader_readClass_105 (fun H locs hw => ?_)
        obtain ⟨f22, ef22⟩ : ∃ z : Wd, z = va_up f18 ra (some (.inr (3, [.ref ta, .int (nI a), .int (nI e0), .int vpi, .int vli, .int vnu, .int (bI (t a = 33)), .int vsh, .int (nI (m0c t a)), .int (nI (slc t a e0)), .int (nI (slc t a e0 + 1)), .int vne]))) := ⟨_, rfl⟩
        replace hw : ms G.1 (Af f sz) f22 s H locs := by rw [ef22]; exact hw
        have h23 : f22 ta = some (.inr (1, [.ref tr, .int (nI n)])) := by rw [ef22, va_up_ne _ _ (wne hT21.1 h20 (wd_oo (by decide)))]; exact hT21.1
        have h24 : f22 ra = some (.inr (3, [.ref ta, .int (nI a), .int (nI e0), .int vpi, .int vli, .int vnu, .int (bI (t a = 33)), .int vsh, .int (nI (m0c t a)), .int (nI (slc t a e0)), .int (nI (slc t a e0 + 1)), .int vne])) := by rw [ef22, va_up_self]
        have hT25 : sg G f22 ta tr cap n t := by rw [ef22]; exact sg_up hT21 h20 wd_x
        refine lv_aload_n hx hb d_PieceReader_readClass_108 rfl (lv_at hl 1 rfl) ?_
        refine m_get hc hE hw h24 kc_PieceReader l_PieceReader_101_PieceReader rfl d_PieceReader_readClass_109 ?_
        refine lv_aload_n hx hb d_PieceReader_readClass_112 rfl (lv_at hl 1 rfl) ?_
        refine m_get hc hE hw h24 kc_PieceReader l_PieceReader_98_PieceReader rfl d_PieceReader_readClass_113 ?_
        refine lv_icmp_le (tgt := 130) hx hb d_PieceReader_readClass_116 (by decide) (fun c26 => ?_) (fun c26 => ?_)
        · refine lv_iconst (v := 0) hx hb d_PieceReader_readClass_130 (by decide) ?_
          have hse : ¬ slc t a e0 = e0 := fun z => c17 (congrArg nI z)
          have hno : ¬ okC t a e0 := fun z => absurd ((nI_leI (by omega) (by omega)).mp c26) (by have := z.1 hse; omega)
          exact m_zret hc hr hlk hw ⟨by first | decide | (dsimp only; omega), by first | decide | (dsimp only; omega)⟩ d_PieceReader_readClass_131 (by decide) ⟨_, _, _, _, _, _, by rw [ef22, ef18, up_uu, ef10, up_uu, ef5, up_uu], (bI_f hno).symm, fun z => absurd z hno⟩
        · refine lv_aload_n hx hb d_PieceReader_readClass_119 rfl (lv_at hl 1 rfl) ?_
          have hse : ¬ slc t a e0 = e0 := fun z => c17 (congrArg nI z)
          refine m_calli hw (m_runV (As := []) (rest := []) hc hE hw (c_PieceReader_readName G l H.size f22 h24 hT25 (b := slc t a e0 + 1) (by omega) h3) h24 rfl cw_PieceReader_107 se_PieceReader_readName rfl hl.1 rfl (Nat.le_of_ble_eq_true rfl) d_PieceReader_readClass_120 ⟨rfl, rfl, by decide, by decide⟩ ⟨by first | decide | (dsimp only; omega), by first | decide | (dsimp only; omega)⟩) (fun r29 g28 H locs p27 hw => ?_)
          obtain ⟨hfe, hrv⟩ := p27
          refine lv_if_eq (tgt := 130) hx hb d_PieceReader_readClass_123 (by decide) (fun c30 => ?_) (fun c30 => ?_)
          · refine lv_iconst (v := 0) hx hb d_PieceReader_readClass_130 (by decide) ?_
            have hq : q0c t a e0 = slc t a e0 + 1 := by unfold q0c; rw [pif_f hse]
            have hm : m1c t a e0 = slc t a e0 := by unfold m1c; rw [pif_f hse]
            have hno : ¬ okC t a e0 := fun z => (bI_0.mp (hrv.symm.trans c30)) (by have := z.2; rw [hq] at this; exact this)
            exact m_zret hc hr hlk hw ⟨by first | decide | (dsimp only; omega), by first | decide | (dsimp only; omega)⟩ d_PieceReader_readClass_131 (by decide) ⟨_, _, _, _, _, _, by rw [hfe, ef22, up_uu, ef18, up_uu, ef10, up_uu, ef5, up_uu], (bI_f hno).symm, fun z => absurd z hno⟩
          · refine lv_iconst (v := 1) hx hb d_PieceReader_readClass_126 (by decide) ?_
            refine lv_goto (tgt := 131) hx hb d_PieceReader_readClass_127 (by decide) ?_
            have hq : q0c t a e0 = slc t a e0 + 1 := by unfold q0c; rw [pif_f hse]
            have hm : m1c t a e0 = slc t a e0 := by unfold m1c; rw [pif_f hse]
            have hok : okC t a e0 := ⟨fun _ => Nat.not_le.mp (fun z => c26 (nI_le z (by omega))), by rw [hq]; exact bI_n.mp (fun z => c30 (hrv.trans z))⟩
            exact m_zret hc hr hlk hw ⟨by first | decide | (dsimp only; omega), by first | decide | (dsimp only; omega)⟩ d_PieceReader_readClass_131 (by decide) ⟨_, _, _, _, _, _, by rw [hfe, ef22, up_uu, ef18, up_uu, ef10, up_uu, ef5, up_uu], (bI_t hok).symm, fun _ => by rw [hq, hm]; exact ⟨rfl, rfl, rfl, rfl, rfl, rfl⟩⟩
      · refine lv_aload_n hx hb d_PieceReader_readClass_75 rfl (lv_at hl 1 rfl) ?_
        refine lv_aload_n hx hb d_PieceReader_readClass_76 rfl (lv_at hl 1 rfl) ?_
        refine m_get hc hE hw h12 kc_PieceReader l_PieceReader_98_PieceReader rfl d_PieceReader_readClass_77 ?_
        refine m_put hc hE hw h12 kc_PieceReader l_PieceReader_101_PieceReader rfl ds_PieceReader_9 rfl rfl (Nat.le_of_ble_eq_true rfl) d_PieceReader_readClass_80 (fun H locs hw => ?_)
        obtain ⟨f31, ef31⟩ : ∃ z : Wd, z = va_up f10 ra (some (.inr (3, [.ref ta, .int (nI a), .int (nI e0), .int vpi, .int vli, .int vnu, .int (bI (t a = 33)), .int vsh, .int (nI (m0c t a)), .int (nI (m0c t a)), .int vnf, .int vne]))) := ⟨_, rfl⟩
        replace hw : ms G.1 (Af f sz) f31 s H locs := by rw [ef31]; exact hw
        have h32 : f31 ta = some (.inr (1, [.ref tr, .int (nI n)])) := by rw [ef31, va_up_ne _ _ (wne hT13.1 h12 (wd_oo (by decide)))]; exact hT13.1
        have h33 : f31 ra = some (.inr (3, [.ref ta, .int (nI a), .int (nI e0), .int vpi, .int vli, .int vnu, .int (bI (t a = 33)), .int vsh, .int (nI (m0c t a)), .int (nI (m0c t a)), .int vnf, .int vne])) := by rw [ef31, va_up_self]
        have hT34 : sg G f31 ta tr cap n t := by rw [ef31]; exact sg_up hT13 h12 wd_x
        refine lv_aload_n hx hb d_PieceReader_readClass_83 rfl (lv_at hl 1 rfl) ?_
        refine lv_aload_n hx hb d_PieceReader_readClass_84 rfl (lv_at hl 1 rfl) ?_
        refine m_get hc hE hw h33 kc_PieceReader l_PieceReader_98_PieceReader rfl d_PieceReader_readClass_85 ?_
        refine m_put hc hE hw h33 kc_PieceReader l_PieceReader_104_PieceReader rfl ds_PieceReader_10 rfl rfl (Nat.le_of_ble_eq_true rfl) d_PieceReader_readClass_88 (fun H locs hw => ?_)
        obtain ⟨f35, ef35⟩ : ∃ z : Wd, z = va_up f31 ra (some (.inr (3, [.ref ta, .int (nI a), .int (nI e0), .int vpi, .int vli, .int vnu, .int (bI (t a = 33)), .int vsh, .int (nI (m0c t a)), .int (nI (m0c t a)), .int (nI (m0c t a)), .int vne]))) := ⟨_, rfl⟩
        replace hw : ms G.1 (Af f sz) f35 s H locs := by rw [ef35]; exact hw
        have h36 : f35 ta = some (.inr (1, [.ref tr, .int (nI n)])) := by rw [ef35, va_up_ne _ _ (wne hT34.1 h33 (wd_oo (by decide)))]; exact hT34.1
        have h37 : f35 ra = some (.inr (3, [.ref ta, .int (nI a), .int (nI e0), .int vpi, .int vli, .int vnu, .int (bI (t a = 33)), .int vsh, .int (nI (m0c t a)), .int (nI (m0c t a)), .int (nI (m0c t a)), .int vne])) := by rw [ef35, va_up_self]
        have hT38 : sg G f35 ta tr cap n t := by rw [ef35]; exact sg_up hT34 h33 wd_x
        refine lv_aload_n hx hb d_PieceReader_readClass_91 rfl (lv_at hl 1 rfl) ?_
        refine m_calli hw (m_runV (As := []) (rest := []) hc hE hw (c_PieceReader_readName G l H.size f35 h37 hT38 (b := m0c t a) (by omega) h3) h37 rfl cw_PieceReader_107 se_PieceReader_readName rfl hl.1 rfl (Nat.le_of_ble_eq_true rfl) d_PieceReader_readClass_92 ⟨rfl, rfl, by decide, by decide⟩ ⟨by first | decide | (dsimp only; omega), by first | decide | (dsimp only; omega)⟩) (fun r41 g40 H locs p39 hw => ?_)
        obtain ⟨hfe, hrv⟩ := p39
        have hse : slc t a e0 = e0 := (nI_eq (by omega) (by omega)).mp c17
        have hq : q0c t a e0 = m0c t a := by unfold q0c; rw [pif_t hse]
        have hm : m1c t a e0 = m0c t a := by unfold m1c; rw [pif_t hse]
        exact m_zret hc hr hlk hw ⟨by decide, by decide⟩ d_PieceReader_readClass_95 (by rw [hrv]; exact bI_nar _) ⟨_, _, _, _, _, _, by rw [hfe, ef35, up_uu, ef31, up_uu, ef10, up_uu, ef5, up_uu], by rw [hrv]; exact bI_c ⟨fun z => ⟨fun y => absurd hse y, by rw [hq]; exact z⟩, fun z => by rw [← hq]; exact z.2⟩, fun _ => by rw [hq, hm]; exact ⟨rfl, rfl, rfl, rfl, rfl, rfl⟩⟩
    · refine lv_aload_n hx hb d_PieceReader_readClass_33 rfl (lv_at hl 0 rfl) ?_
      refine m_get hc hE hw h7 kc_PieceReader l_PieceReader_61_PieceReader rfl d_PieceReader_readClass_34 ?_
      refine lv_iconst (v := 1) hx hb d_PieceReader_readClass_37 (by decide) ?_
      refine lv_iadd hx hb d_PieceReader_readClass_38 ?_
      refine lv_goto (tgt := 46) hx hb d_PieceReader_readClass_39 (by decide) ?_
      exact absurd (bI_n.mp c9) c4
  · refine lv_iconst (v := 1) hx hb d_PieceReader_readClass_17 (by decide) ?_
    refine lv_goto (tgt := 22) hx hb d_PieceReader_readClass_18 (by decide) ?_
    refine m_top (y := bI (t a = 33)) (bI_t c4).symm ?_
    refine m_put hc hE hw hR kc_PieceReader l_PieceReader_94_PieceReader rfl ds_PieceReader_6 (bI_nar _) (bI_fit _) (Nat.le_of_ble_eq_true rfl) d_PieceReader_readClass_22 (fun H locs hw => ?_)
    obtain ⟨f42, ef42⟩ : ∃ z : Wd, z = va_up f ra (some (.inr (3, [.ref ta, .int (nI a), .int (nI e0), .int vpi, .int vli, .int vnu, .int (bI (t a = 33)), .int vsh, .int vmf, .int vme, .int vnf, .int vne]))) := ⟨_, rfl⟩
    replace hw : ms G.1 (Af f sz) f42 s H locs := by rw [ef42]; exact hw
    have h43 : f42 ta = some (.inr (1, [.ref tr, .int (nI n)])) := by rw [ef42, va_up_ne _ _ (wne hT.1 hR (wd_oo (by decide)))]; exact hT.1
    have h44 : f42 ra = some (.inr (3, [.ref ta, .int (nI a), .int (nI e0), .int vpi, .int vli, .int vnu, .int (bI (t a = 33)), .int vsh, .int vmf, .int vme, .int vnf, .int vne])) := by rw [ef42, va_up_self]
    have hT45 : sg G f42 ta tr cap n t := by rw [ef42]; exact sg_up hT hR wd_x
    refine lv_aload_n hx hb d_PieceReader_readClass_25 rfl (lv_at hl 0 rfl) ?_
    refine lv_aload_n hx hb d_PieceReader_readClass_26 rfl (lv_at hl 0 rfl) ?_
    refine m_get hc hE hw h44 kc_PieceReader l_PieceReader_94_PieceReader rfl d_PieceReader_readClass_27 ?_
    refine lv_if_eq (tgt := 42) hx hb d_PieceReader_readClass_30 (by decide) (fun c46 => ?_) (fun c46 => ?_)
    · refine lv_aload_n hx hb d_PieceReader_readClass_42 rfl (lv_at hl 0 rfl) ?_
      refine m_get hc hE hw h44 kc_PieceReader l_PieceReader_61_PieceReader rfl d_PieceReader_readClass_43 ?_
      exact absurd c4 (bI_0.mp c46)
    · refine lv_aload_n hx hb d_PieceReader_readClass_33 rfl (lv_at hl 0 rfl) ?_
      refine m_get hc hE hw h44 kc_PieceReader l_PieceReader_61_PieceReader rfl d_PieceReader_readClass_34 ?_
      refine lv_iconst (v := 1) hx hb d_PieceReader_readClass_37 (by decide) ?_
      refine lv_iadd hx hb d_PieceReader_readClass_38 ?_
      refine lv_goto (tgt := 46) hx hb d_PieceReader_readClass_39 (by decide) ?_
      refine m_top (y := nI (m0c t a)) (by unfold m0c; rw [pif_t c4]; exact nI_1 a) ?_
      refine m_put hc hE hw h44 kc_PieceReader l_PieceReader_98_PieceReader rfl ds_PieceReader_8 rfl rfl (Nat.le_of_ble_eq_true rfl) d_PieceReader_readClass_46 (fun H locs hw => ?_)
      obtain ⟨f47, ef47⟩ : ∃ z : Wd, z = va_up f42 ra (some (.inr (3, [.ref ta, .int (nI a), .int (nI e0), .int vpi, .int vli, .int vnu, .int (bI (t a = 33)), .int vsh, .int (nI (m0c t a)), .int vme, .int vnf, .int vne]))) := ⟨_, rfl⟩
      replace hw : ms G.1 (Af f sz) f47 s H locs := by rw [ef47]; exact hw
      have h48 : f47 ta = some (.inr (1, [.ref tr, .int (nI n)])) := by rw [ef47, va_up_ne _ _ (wne hT45.1 h44 (wd_oo (by decide)))]; exact hT45.1
      have h49 : f47 ra = some (.inr (3, [.ref ta, .int (nI a), .int (nI e0), .int vpi, .int vli, .int vnu, .int (bI (t a = 33)), .int vsh, .int (nI (m0c t a)), .int vme, .int vnf, .int vne])) := by rw [ef47, va_up_self]
      have hT50 : sg G f47 ta tr cap n t := by rw [ef47]; exact sg_up hT45 h44 wd_x
      refine lv_aload_n hx hb d_PieceReader_readClass_49 rfl (lv_at hl 0 rfl) ?_
      refine m_get hc hE hw h49 kc_PieceReader l_PieceReader_9_PieceReader rfl d_PieceReader_readClass_50 ?_
      refine lv_bipush (v := 47) hx hb d_PieceReader_readClass_53 (by decide) ?_
      refine lv_aload_n hx hb d_PieceReader_readClass_55 rfl (lv_at hl 0 rfl) ?_
      refine m_get hc hE hw h49 kc_PieceReader l_PieceReader_98_PieceReader rfl d_PieceReader_readClass_56 ?_
      refine lv_aload_n hx hb d_PieceReader_readClass_59 rfl (lv_at hl 0 rfl) ?_
      refine m_get hc hE hw h49 kc_PieceReader l_PieceReader_51_PieceReader rfl d_PieceReader_readClass_60 ?_
      refine m_calli hw (m_runV (As := [.int 47, .int (nI (m0c t a)), .int (nI e0)]) (rest := []) hc hE hw (c_Signs_find G l H.size f47 hT50 47 (i0 := m0c t a) (i1 := e0) (by omega) h3) hT50.1 rfl cw_PieceReader_64 se_Signs_find rfl hl.1 rfl (Nat.le_of_ble_eq_true rfl) d_PieceReader_readClass_63 ⟨rfl, rfl, by decide, by decide⟩ ⟨by first | decide | (dsimp only; omega), by first | decide | (dsimp only; omega)⟩) (fun r53 g52 H locs p51 hw => ?_)
      obtain ⟨rfl, p51⟩ := p51
      replace p51 : r53 = nI (slc t a e0) := p51
      subst p51
      refine lv_istore_n (lv' := [(1, .int (nI (slc t a e0))), (0, .ref ra)]) hx hb d_PieceReader_readClass_66 rfl hl (by decide) rfl (fun ls hl => ?_)
      refine lv_iload_n hx hb d_PieceReader_readClass_67 rfl (lv_at hl 0 rfl) ?_
      refine lv_aload_n hx hb d_PieceReader_readClass_68 rfl (lv_at hl 1 rfl) ?_
      refine m_get hc hE hw h49 kc_PieceReader l_PieceReader_51_PieceReader rfl d_PieceReader_readClass_69 ?_
      refine lv_icmp_ne (tgt := 96) hx hb d_PieceReader_readClass_72 (by decide) (fun c54 => ?_) (fun c54 => ?_)
      · refine lv_aload_n hx hb d_PieceReader_readClass_96 rfl (lv_at hl 1 rfl) ?_
        refine lv_iload_n hx hb d_PieceReader_readClass_97 rfl (lv_at hl 0 rfl) ?_
        refine m_put hc hE hw h49 kc_PieceReader l_PieceReader_101_PieceReader rfl ds_PieceReader_9 rfl rfl (Nat.le_of_ble_eq_true rfl) d_PieceReader_readClass_98 (fun H locs hw => ?_)
        obtain ⟨f55, ef55⟩ : ∃ z : Wd, z = va_up f47 ra (some (.inr (3, [.ref ta, .int (nI a), .int (nI e0), .int vpi, .int vli, .int vnu, .int (bI (t a = 33)), .int vsh, .int (nI (m0c t a)), .int (nI (slc t a e0)), .int vnf, .int vne]))) := ⟨_, rfl⟩
        replace hw : ms G.1 (Af f sz) f55 s H locs := by rw [ef55]; exact hw
        have h56 : f55 ta = some (.inr (1, [.ref tr, .int (nI n)])) := by rw [ef55, va_up_ne _ _ (wne hT50.1 h49 (wd_oo (by decide)))]; exact hT50.1
        have h57 : f55 ra = some (.inr (3, [.ref ta, .int (nI a), .int (nI e0), .int vpi, .int vli, .int vnu, .int (bI (t a = 33)), .int vsh, .int (nI (m0c t a)), .int (nI (slc t a e0)), .int vnf, .int vne])) := by rw [ef55, va_up_self]
        have hT58 : sg G f55 ta tr cap n t := by rw [ef55]; exact sg_up hT50 h49 wd_x
        refine lv_aload_n hx hb d_PieceReader_readClass_101 rfl (lv_at hl 1 rfl) ?_
        refine lv_iload_n hx hb d_PieceReader_readClass_102 rfl (lv_at hl 0 rfl) ?_
        refine lv_iconst (v := 1) hx hb d_PieceReader_readClass_103 (by decide) ?_
        refine lv_iadd hx hb d_PieceReader_readClass_104 ?_
        refine m_top (y := (nI (slc t a e0 + 1))) (nI_1 _) ?_
        refine m_put hc hE hw h57 kc_PieceReader l_PieceReader_104_PieceReader rfl ds_PieceReader_10 rfl rfl (Nat.le_of_ble_eq_true rfl) d_PieceReader_readClass_105 (fun H locs hw => ?_)
        obtain ⟨f59, ef59⟩ : ∃ z : Wd, z = va_up f55 ra (some (.inr (3, [.ref ta, .int (nI a), .int (nI e0), .int vpi, .int vli, .int vnu, .int (bI (t a = 33)), .int vsh, .int (nI (m0c t a)), .int (nI (slc t a e0)), .int (nI (slc t a e0 + 1)), .int vne]))) := ⟨_, rfl⟩
        replace hw : ms G.1 (Af f sz) f59 s H locs := by rw [ef59]; exact hw
        have h60 : f59 ta = some (.inr (1, [.ref tr, .int (nI n)])) := by rw [ef59, va_up_ne _ _ (wne hT58.1 h57 (wd_oo (by decide)))]; exact hT58.1
        have h61 : f59 ra = some (.inr (3, [.ref ta, .int (nI a), .int (nI e0), .int vpi, .int vli, .int vnu, .int (bI (t a = 33)), .int vsh, .int (nI (m0c t a)), .int (nI (slc t a e0)), .int (nI (slc t a e0 + 1)), .int vne])) := by rw [ef59, va_up_self]
        have hT62 : sg G f59 ta tr cap n t := by rw [ef59]; exact sg_up hT58 h57 wd_x
        refine lv_aload_n hx hb d_PieceReader_readClass_108 rfl (lv_at hl 1 rfl) ?_
        refine m_get hc hE hw h61 kc_PieceReader l_PieceReader_101_PieceReader rfl d_PieceReader_readClass_109 ?_
        refine lv_aload_n hx hb d_PieceReader_readClass_112 rfl (lv_at hl 1 rfl) ?_
        refine m_get hc hE hw h61 kc_PieceReader l_PieceReader_98_PieceReader rfl d_PieceReader_readClass_113 ?_
        refine lv_icmp_le (tgt := 130) hx hb d_PieceReader_readClass_116 (by decide) (fun c63 => ?_) (fun c63 => ?_)
        · refine lv_iconst (v := 0) hx hb d_PieceReader_readClass_130 (by decide) ?_
          have hse : ¬ slc t a e0 = e0 := fun z => c54 (congrArg nI z)
          have hno : ¬ okC t a e0 := fun z => absurd ((nI_leI (by omega) (by omega)).mp c63) (by have := z.1 hse; omega)
          exact m_zret hc hr hlk hw ⟨by first | decide | (dsimp only; omega), by first | decide | (dsimp only; omega)⟩ d_PieceReader_readClass_131 (by decide) ⟨_, _, _, _, _, _, by rw [ef59, ef55, up_uu, ef47, up_uu, ef42, up_uu], (bI_f hno).symm, fun z => absurd z hno⟩
        · refine lv_aload_n hx hb d_PieceReader_readClass_119 rfl (lv_at hl 1 rfl) ?_
          have hse : ¬ slc t a e0 = e0 := fun z => c54 (congrArg nI z)
          refine m_calli hw (m_runV (As := []) (rest := []) hc hE hw (c_PieceReader_readName G l H.size f59 h61 hT62 (b := slc t a e0 + 1) (by omega) h3) h61 rfl cw_PieceReader_107 se_PieceReader_readName rfl hl.1 rfl (Nat.le_of_ble_eq_true rfl) d_PieceReader_readClass_120 ⟨rfl, rfl, by decide, by decide⟩ ⟨by first | decide | (dsimp only; omega), by first | decide | (dsimp only; omega)⟩) (fun r66 g65 H locs p64 hw => ?_)
          obtain ⟨hfe, hrv⟩ := p64
          refine lv_if_eq (tgt := 130) hx hb d_PieceReader_readClass_123 (by decide) (fun c67 => ?_) (fun c67 => ?_)
          · refine lv_iconst (v := 0) hx hb d_PieceReader_readClass_130 (by decide) ?_
            have hq : q0c t a e0 = slc t a e0 + 1 := by unfold q0c; rw [pif_f hse]
            have hm : m1c t a e0 = slc t a e0 := by unfold m1c; rw [pif_f hse]
            have hno : ¬ okC t a e0 := fun z => (bI_0.mp (hrv.symm.trans c67)) (by have := z.2; rw [hq] at this; exact this)
            exact m_zret hc hr hlk hw ⟨by first | decide | (dsimp only; omega), by first | decide | (dsimp only; omega)⟩ d_PieceReader_readClass_131 (by decide) ⟨_, _, _, _, _, _, by rw [hfe, ef59, up_uu, ef55, up_uu, ef47, up_uu, ef42, up_uu], (bI_f hno).symm, fun z => absurd z hno⟩
          · refine lv_iconst (v := 1) hx hb d_PieceReader_readClass_126 (by decide) ?_
            refine lv_goto (tgt := 131) hx hb d_PieceReader_readClass_127 (by decide) ?_
            have hq : q0c t a e0 = slc t a e0 + 1 := by unfold q0c; rw [pif_f hse]
            have hm : m1c t a e0 = slc t a e0 := by unfold m1c; rw [pif_f hse]
            have hok : okC t a e0 := ⟨fun _ => Nat.not_le.mp (fun z => c63 (nI_le z (by omega))), by rw [hq]; exact bI_n.mp (fun z => c67 (hrv.trans z))⟩
            exact m_zret hc hr hlk hw ⟨by first | decide | (dsimp only; omega), by first | decide | (dsimp only; omega)⟩ d_PieceReader_readClass_131 (by decide) ⟨_, _, _, _, _, _, by rw [hfe, ef59, up_uu, ef55, up_uu, ef47, up_uu, ef42, up_uu], (bI_t hok).symm, fun _ => by rw [hq, hm]; exact ⟨rfl, rfl, rfl, rfl, rfl, rfl⟩⟩
      · refine lv_aload_n hx hb d_PieceReader_readClass_75 rfl (lv_at hl 1 rfl) ?_
        refine lv_aload_n hx hb d_PieceReader_readClass_76 rfl (lv_at hl 1 rfl) ?_
        refine m_get hc hE hw h49 kc_PieceReader l_PieceReader_98_PieceReader rfl d_PieceReader_readClass_77 ?_
        refine m_put hc hE hw h49 kc_PieceReader l_PieceReader_101_PieceReader rfl ds_PieceReader_9 rfl rfl (Nat.le_of_ble_eq_true rfl) d_PieceReader_readClass_80 (fun H locs hw => ?_)
        obtain ⟨f68, ef68⟩ : ∃ z : Wd, z = va_up f47 ra (some (.inr (3, [.ref ta, .int (nI a), .int (nI e0), .int vpi, .int vli, .int vnu, .int (bI (t a = 33)), .int vsh, .int (nI (m0c t a)), .int (nI (m0c t a)), .int vnf, .int vne]))) := ⟨_, rfl⟩
        replace hw : ms G.1 (Af f sz) f68 s H locs := by rw [ef68]; exact hw
        have h69 : f68 ta = some (.inr (1, [.ref tr, .int (nI n)])) := by rw [ef68, va_up_ne _ _ (wne hT50.1 h49 (wd_oo (by decide)))]; exact hT50.1
        have h70 : f68 ra = some (.inr (3, [.ref ta, .int (nI a), .int (nI e0), .int vpi, .int vli, .int vnu, .int (bI (t a = 33)), .int vsh, .int (nI (m0c t a)), .int (nI (m0c t a)), .int vnf, .int vne])) := by rw [ef68, va_up_self]
        have hT71 : sg G f68 ta tr cap n t := by rw [ef68]; exact sg_up hT50 h49 wd_x
        refine lv_aload_n hx hb d_PieceReader_readClass_83 rfl (lv_at hl 1 rfl) ?_
        refine lv_aload_n hx hb d_PieceReader_readClass_84 rfl (lv_at hl 1 rfl) ?_
        refine m_get hc hE hw h70 kc_PieceReader l_PieceReader_98_PieceReader rfl d_PieceReader_readClass_85 ?_
        refine m_put hc hE hw h70 kc_PieceReader l_PieceReader_104_PieceReader rfl ds_PieceReader_10 rfl rfl (Nat.le_of_ble_eq_true rfl) d_PieceReader_readClass_88 (fun H locs hw => ?_)
        obtain ⟨f72, ef72⟩ : ∃ z : Wd, z = va_up f68 ra (some (.inr (3, [.ref ta, .int (nI a), .int (nI e0), .int vpi, .int vli, .int vnu, .int (bI (t a = 33)), .int vsh, .int (nI (m0c t a)), .int (nI (m0c t a)), .int (nI (m0c t a)), .int vne]))) := ⟨_, rfl⟩
        replace hw : ms G.1 (Af f sz) f72 s H locs := by rw [ef72]; exact hw
        have h73 : f72 ta = some (.inr (1, [.ref tr, .int (nI n)])) := by rw [ef72, va_up_ne _ _ (wne hT71.1 h70 (wd_oo (by decide)))]; exact hT71.1
        have h74 : f72 ra = some (.inr (3, [.ref ta, .int (nI a), .int (nI e0), .int vpi, .int vli, .int vnu, .int (bI (t a = 33)), .int vsh, .int (nI (m0c t a)), .int (nI (m0c t a)), .int (nI (m0c t a)), .int vne])) := by rw [ef72, va_up_self]
        have hT75 : sg G f72 ta tr cap n t := by rw [ef72]; exact sg_up hT71 h70 wd_x
        refine lv_aload_n hx hb d_PieceReader_readClass_91 rfl (lv_at hl 1 rfl) ?_
        refine m_calli hw (m_runV (As := []) (rest := []) hc hE hw (c_PieceReader_readName G l H.size f72 h74 hT75 (b := m0c t a) (by omega) h3) h74 rfl cw_PieceReader_107 se_PieceReader_readName rfl hl.1 rfl (Nat.le_of_ble_eq_true rfl) d_PieceReader_readClass_92 ⟨rfl, rfl, by decide, by decide⟩ ⟨by first | decide | (dsimp only; omega), by first | decide | (dsimp only; omega)⟩) (fun r78 g77 H locs p76 hw => ?_)
        obtain ⟨hfe, hrv⟩ := p76
        have hse : slc t a e0 = e0 := (nI_eq (by omega) (by omega)).mp c54
        have hq : q0c t a e0 = m0c t a := by unfold q0c; rw [pif_t hse]
        have hm : m1c t a e0 = m0c t a := by unfold m1c; rw [pif_t hse]
        exact m_zret hc hr hlk hw ⟨by decide, by decide⟩ d_PieceReader_readClass_95 (by rw [hrv]; exact bI_nar _) ⟨_, _, _, _, _, _, by rw [hfe, ef72, up_uu, ef68, up_uu, ef47, up_uu, ef42, up_uu], by rw [hrv]; exact bI_c ⟨fun z => ⟨fun y => absurd hse y, by rw [hq]; exact z⟩, fun z => by rw [← hq]; exact z.2⟩, fun _ => by rw [hq, hm]; exact ⟨rfl, rfl, rfl, rfl, rfl, rfl⟩⟩
