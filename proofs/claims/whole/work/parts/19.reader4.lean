/-! links of the pools, as the walks ask for them -/
theorem l_PieceReader_22_PieceReader : lnk "StreamFilters$PieceReader" 22 F_PieceReader 12 3 := ⟨by decide, "StreamFilters$PieceReader", Or.inl rfl, Or.inl (tb 110 (by decide +kernel) rfl)⟩
theorem cw_PieceReader_54 : cwk "StreamFilters$PieceReader" 54 y_Signs_length b_Signs_length 1 (some .int) 0 := ⟨Or.inl (tb 214 (by decide +kernel) rfl), (tb 190 (by decide +kernel) rfl), (tb 2 (by decide +kernel) rfl), by decide, by decide, by decide +kernel⟩
theorem cw_PieceReader_68 : cwk "StreamFilters$PieceReader" 68 y_PieceReader_readLimit b_PieceReader_readLimit 2 (some .boolean) 1 := ⟨Or.inl (tb 228 (by decide +kernel) rfl), (tb 231 (by decide +kernel) rfl), (tb 4 (by decide +kernel) rfl), by decide, by decide, by decide +kernel⟩
theorem cw_PieceReader_72 : cwk "StreamFilters$PieceReader" 72 y_PieceReader_readClass b_PieceReader_readClass 2 (some .boolean) 0 := ⟨Or.inl (tb 296 (by decide +kernel) rfl), (tb 299 (by decide +kernel) rfl), (tb 4 (by decide +kernel) rfl), by decide, by decide, by decide +kernel⟩
theorem se_PieceReader_readClass : Cond.instanceMethod y_PieceReader_readClass ∈ TB ∧ Cond.selects "StreamFilters$PieceReader" y_PieceReader_readClass y_PieceReader_readClass ∈ TB := ⟨(tb 298 (by decide +kernel) rfl), (tbs 6 (by decide +kernel) rfl)⟩
theorem se_PieceReader_readLimit : Cond.instanceMethod y_PieceReader_readLimit ∈ TB ∧ Cond.selects "StreamFilters$PieceReader" y_PieceReader_readLimit y_PieceReader_readLimit ∈ TB := ⟨(tb 230 (by decide +kernel) rfl), (tbs 3 (by decide +kernel) rfl)⟩
/-! decode rows -/
theorem d_PieceReader_startOver_0 : decode b_PieceReader_startOver 0 = .ok (.aload_n 0, 1) := by decide +kernel
theorem d_PieceReader_startOver_1 : decode b_PieceReader_startOver 1 = .ok (.iconst (-1), 1) := by decide +kernel
theorem d_PieceReader_startOver_2 : decode b_PieceReader_startOver 2 = .ok (.putfield 51, 3) := by decide +kernel
theorem d_PieceReader_startOver_5 : decode b_PieceReader_startOver 5 = .ok (.iconst 1, 1) := by decide +kernel
theorem d_PieceReader_startOver_6 : decode b_PieceReader_startOver 6 = .ok (.istore_n 1, 1) := by decide +kernel
theorem d_PieceReader_startOver_7 : decode b_PieceReader_startOver 7 = .ok (.iconst 0, 1) := by decide +kernel
theorem d_PieceReader_startOver_8 : decode b_PieceReader_startOver 8 = .ok (.istore_n 2, 1) := by decide +kernel
theorem d_PieceReader_startOver_9 : decode b_PieceReader_startOver 9 = .ok (.iload_n 2, 1) := by decide +kernel
theorem d_PieceReader_startOver_10 : decode b_PieceReader_startOver 10 = .ok (.aload_n 0, 1) := by decide +kernel
theorem d_PieceReader_startOver_11 : decode b_PieceReader_startOver 11 = .ok (.getfield 9, 3) := by decide +kernel
theorem d_PieceReader_startOver_14 : decode b_PieceReader_startOver 14 = .ok (.invokevirtual 54, 3) := by decide +kernel
theorem d_PieceReader_startOver_17 : decode b_PieceReader_startOver 17 = .ok (.if_icmp .ge 25, 3) := by decide +kernel
theorem d_PieceReader_startOver_20 : decode b_PieceReader_startOver 20 = .ok (.aload_n 0, 1) := by decide +kernel
theorem d_PieceReader_startOver_21 : decode b_PieceReader_startOver 21 = .ok (.getfield 9, 3) := by decide +kernel
theorem d_PieceReader_startOver_24 : decode b_PieceReader_startOver 24 = .ok (.iload_n 2, 1) := by decide +kernel
theorem d_PieceReader_startOver_25 : decode b_PieceReader_startOver 25 = .ok (.invokevirtual 57, 3) := by decide +kernel
theorem d_PieceReader_startOver_28 : decode b_PieceReader_startOver 28 = .ok (.bipush 59, 2) := by decide +kernel
theorem d_PieceReader_startOver_30 : decode b_PieceReader_startOver 30 = .ok (.if_icmp .ne 6, 3) := by decide +kernel
theorem d_PieceReader_startOver_33 : decode b_PieceReader_startOver 33 = .ok (.iinc 1 1, 3) := by decide +kernel
theorem d_PieceReader_startOver_36 : decode b_PieceReader_startOver 36 = .ok (.iinc 2 1, 3) := by decide +kernel
theorem d_PieceReader_startOver_39 : decode b_PieceReader_startOver 39 = .ok (.goto (-30), 3) := by decide +kernel
theorem d_PieceReader_startOver_42 : decode b_PieceReader_startOver 42 = .ok (.iload_n 1, 1) := by decide +kernel
theorem d_PieceReader_startOver_43 : decode b_PieceReader_startOver 43 = .ok (.ireturn, 1) := by decide +kernel
theorem d_PieceReader_readNext_0 : decode b_PieceReader_readNext 0 = .ok (.aload_n 0, 1) := by decide +kernel
theorem d_PieceReader_readNext_1 : decode b_PieceReader_readNext 1 = .ok (.aload_n 0, 1) := by decide +kernel
theorem d_PieceReader_readNext_2 : decode b_PieceReader_readNext 2 = .ok (.getfield 51, 3) := by decide +kernel
theorem d_PieceReader_readNext_5 : decode b_PieceReader_readNext 5 = .ok (.iconst 1, 1) := by decide +kernel
theorem d_PieceReader_readNext_6 : decode b_PieceReader_readNext 6 = .ok (.iadd, 1) := by decide +kernel
theorem d_PieceReader_readNext_7 : decode b_PieceReader_readNext 7 = .ok (.putfield 61, 3) := by decide +kernel
theorem d_PieceReader_readNext_10 : decode b_PieceReader_readNext 10 = .ok (.aload_n 0, 1) := by decide +kernel
theorem d_PieceReader_readNext_11 : decode b_PieceReader_readNext 11 = .ok (.aload_n 0, 1) := by decide +kernel
theorem d_PieceReader_readNext_12 : decode b_PieceReader_readNext 12 = .ok (.getfield 9, 3) := by decide +kernel
theorem d_PieceReader_readNext_15 : decode b_PieceReader_readNext 15 = .ok (.bipush 59, 2) := by decide +kernel
theorem d_PieceReader_readNext_17 : decode b_PieceReader_readNext 17 = .ok (.aload_n 0, 1) := by decide +kernel
theorem d_PieceReader_readNext_18 : decode b_PieceReader_readNext 18 = .ok (.getfield 61, 3) := by decide +kernel
theorem d_PieceReader_readNext_21 : decode b_PieceReader_readNext 21 = .ok (.aload_n 0, 1) := by decide +kernel
theorem d_PieceReader_readNext_22 : decode b_PieceReader_readNext 22 = .ok (.getfield 9, 3) := by decide +kernel
theorem d_PieceReader_readNext_25 : decode b_PieceReader_readNext 25 = .ok (.invokevirtual 54, 3) := by decide +kernel
theorem d_PieceReader_readNext_28 : decode b_PieceReader_readNext 28 = .ok (.invokevirtual 64, 3) := by decide +kernel
theorem d_PieceReader_readNext_31 : decode b_PieceReader_readNext 31 = .ok (.putfield 51, 3) := by decide +kernel
theorem d_PieceReader_readNext_34 : decode b_PieceReader_readNext 34 = .ok (.aload_n 0, 1) := by decide +kernel
theorem d_PieceReader_readNext_35 : decode b_PieceReader_readNext 35 = .ok (.getfield 61, 3) := by decide +kernel
theorem d_PieceReader_readNext_38 : decode b_PieceReader_readNext 38 = .ok (.aload_n 0, 1) := by decide +kernel
theorem d_PieceReader_readNext_39 : decode b_PieceReader_readNext 39 = .ok (.getfield 51, 3) := by decide +kernel
theorem d_PieceReader_readNext_42 : decode b_PieceReader_readNext 42 = .ok (.if_icmp .ne 9, 3) := by decide +kernel
theorem d_PieceReader_readNext_45 : decode b_PieceReader_readNext 45 = .ok (.aload_n 0, 1) := by decide +kernel
theorem d_PieceReader_readNext_46 : decode b_PieceReader_readNext 46 = .ok (.iconst 0, 1) := by decide +kernel
theorem d_PieceReader_readNext_47 : decode b_PieceReader_readNext 47 = .ok (.putfield 22, 3) := by decide +kernel
theorem d_PieceReader_readNext_50 : decode b_PieceReader_readNext 50 = .ok (.return_, 1) := by decide +kernel
theorem d_PieceReader_readNext_51 : decode b_PieceReader_readNext 51 = .ok (.aload_n 0, 1) := by decide +kernel
theorem d_PieceReader_readNext_52 : decode b_PieceReader_readNext 52 = .ok (.getfield 9, 3) := by decide +kernel
theorem d_PieceReader_readNext_55 : decode b_PieceReader_readNext 55 = .ok (.bipush 61, 2) := by decide +kernel
theorem d_PieceReader_readNext_57 : decode b_PieceReader_readNext 57 = .ok (.aload_n 0, 1) := by decide +kernel
theorem d_PieceReader_readNext_58 : decode b_PieceReader_readNext 58 = .ok (.getfield 61, 3) := by decide +kernel
theorem d_PieceReader_readNext_61 : decode b_PieceReader_readNext 61 = .ok (.aload_n 0, 1) := by decide +kernel
theorem d_PieceReader_readNext_62 : decode b_PieceReader_readNext 62 = .ok (.getfield 51, 3) := by decide +kernel
theorem d_PieceReader_readNext_65 : decode b_PieceReader_readNext 65 = .ok (.invokevirtual 64, 3) := by decide +kernel
theorem d_PieceReader_readNext_68 : decode b_PieceReader_readNext 68 = .ok (.istore_n 1, 1) := by decide +kernel
theorem d_PieceReader_readNext_69 : decode b_PieceReader_readNext 69 = .ok (.iload_n 1, 1) := by decide +kernel
theorem d_PieceReader_readNext_70 : decode b_PieceReader_readNext 70 = .ok (.aload_n 0, 1) := by decide +kernel
theorem d_PieceReader_readNext_71 : decode b_PieceReader_readNext 71 = .ok (.getfield 51, 3) := by decide +kernel
theorem d_PieceReader_readNext_74 : decode b_PieceReader_readNext 74 = .ok (.if_icmp .ge 23, 3) := by decide +kernel
theorem d_PieceReader_readNext_77 : decode b_PieceReader_readNext 77 = .ok (.aload_n 0, 1) := by decide +kernel
theorem d_PieceReader_readNext_78 : decode b_PieceReader_readNext 78 = .ok (.aload_n 0, 1) := by decide +kernel
theorem d_PieceReader_readNext_79 : decode b_PieceReader_readNext 79 = .ok (.iload_n 1, 1) := by decide +kernel
theorem d_PieceReader_readNext_80 : decode b_PieceReader_readNext 80 = .ok (.invokevirtual 68, 3) := by decide +kernel
theorem d_PieceReader_readNext_83 : decode b_PieceReader_readNext 83 = .ok (.ifCond .eq 7, 3) := by decide +kernel
theorem d_PieceReader_readNext_86 : decode b_PieceReader_readNext 86 = .ok (.iconst 1, 1) := by decide +kernel
theorem d_PieceReader_readNext_87 : decode b_PieceReader_readNext 87 = .ok (.goto 4, 3) := by decide +kernel
theorem d_PieceReader_readNext_90 : decode b_PieceReader_readNext 90 = .ok (.iconst 3, 1) := by decide +kernel
theorem d_PieceReader_readNext_91 : decode b_PieceReader_readNext 91 = .ok (.putfield 22, 3) := by decide +kernel
theorem d_PieceReader_readNext_94 : decode b_PieceReader_readNext 94 = .ok (.goto 19, 3) := by decide +kernel
theorem d_PieceReader_readNext_97 : decode b_PieceReader_readNext 97 = .ok (.aload_n 0, 1) := by decide +kernel
theorem d_PieceReader_readNext_98 : decode b_PieceReader_readNext 98 = .ok (.aload_n 0, 1) := by decide +kernel
theorem d_PieceReader_readNext_99 : decode b_PieceReader_readNext 99 = .ok (.invokevirtual 72, 3) := by decide +kernel
theorem d_PieceReader_readNext_102 : decode b_PieceReader_readNext 102 = .ok (.ifCond .eq 7, 3) := by decide +kernel
theorem d_PieceReader_readNext_105 : decode b_PieceReader_readNext 105 = .ok (.iconst 2, 1) := by decide +kernel
theorem d_PieceReader_readNext_106 : decode b_PieceReader_readNext 106 = .ok (.goto 4, 3) := by decide +kernel
theorem d_PieceReader_readNext_109 : decode b_PieceReader_readNext 109 = .ok (.iconst 3, 1) := by decide +kernel
theorem d_PieceReader_readNext_110 : decode b_PieceReader_readNext 110 = .ok (.putfield 22, 3) := by decide +kernel
theorem d_PieceReader_readNext_113 : decode b_PieceReader_readNext 113 = .ok (.return_, 1) := by decide +kernel
set_option maxHeartbeats 4000000 in
set_option maxRecDepth 100000 in
/-- readNext() -/
theorem c_PieceReader_readNext (G : GG) (l : Launch) (sz : Nat) (f : Wd) {ra ta tr cap n : Nat} {t : Nat → Int32} {vfr ven vpi vli vnu vrj vsh vmf vme vnf vne : Int32} {a : Nat} (hR : f ra = some (.inr (3, [.ref ta, .int vfr, .int ven, .int vpi, .int vli, .int vnu, .int vrj, .int vsh, .int vmf, .int vme, .int vnf, .int vne]))) (hT : sg G f ta tr cap n t) (hv : ven + 1 = nI a) (h1 : a ≤ n) : Cv G l y_PieceReader_readNext b_PieceReader_readNext 2 none ({ frames := 7, cells := 0, slots := 0, locals := 153 }) sz f [.ref ra] (fun f' => ∃ li nu rj sh mf me nf ne : Int32, f' = va_up f ra (some (.inr (3, [.ref ta, .int (nI a), .int (nI (pnx t n a)), .int (nI (pkd t a (pnx t n a))), .int li, .int nu, .int rj, .int sh, .int mf, .int me, .int nf, .int ne]))) ∧ (pkd t a (pnx t n a) = 1 → li = lmV t a (eqc t a (pnx t n a)) ∧ nu = nmb t (eqc t a (pnx t n a) + 1) (pnx t n a - (eqc t a (pnx t n a) + 1))) ∧ (pkd t a (pnx t n a) = 2 → rj = bI (t a = 33) ∧ sh = nI (shp t (q0c t a (pnx t n a)) (pnx t n a)) ∧ mf = nI (m0c t a) ∧ me = nI (m1c t a (pnx t n a)) ∧ nf = nI (q0c t a (pnx t n a)) ∧ ne = nI (nmE t (q0c t a (pnx t n a)) (pnx t n a)))) := by
  refine ct_of (by decide) (Nat.le_of_ble_eq_true rfl) ?_
  intro p e s m below meth c ls H locs hEn
  obtain ⟨hc, hr, hlk, hin, hE, hw, hsz, hl⟩ := hEn
  have hx := hc.1
  have hb := hc.2.1
  have hl : lv_has ls 2 [(0, .ref ra)] := hl
  have hn9 : n ≤ 90 := by have := hT.2.2.1; have := hT.2.2.2.1; omega
  have hpn := pnx_in (t := t) h1
  refine lv_aload_n hx hb d_PieceReader_readNext_0 rfl (lv_at hl 0 rfl) ?_
  refine lv_aload_n hx hb d_PieceReader_readNext_1 rfl (lv_at hl 0 rfl) ?_
  refine m_get hc hE hw hR kc_PieceReader l_PieceReader_51_PieceReader rfl d_PieceReader_readNext_2 ?_
  refine lv_iconst (v := 1) hx hb d_PieceReader_readNext_5 (by decide) ?_
  refine lv_iadd hx hb d_PieceReader_readNext_6 ?_
  refine m_top (y := (nI a)) hv ?_
  refine m_put hc hE hw hR kc_PieceReader l_PieceReader_61_PieceReader rfl ds_PieceReader_1 rfl rfl (Nat.le_of_ble_eq_true rfl) d_PieceReader_readNext_7 (fun H locs hw => ?_)
  obtain ⟨f1, ef1⟩ : ∃ z : Wd, z = va_up f ra (some (.inr (3, [.ref ta, .int (nI a), .int ven, .int vpi, .int vli, .int vnu, .int vrj, .int vsh, .int vmf, .int vme, .int vnf, .int vne]))) := ⟨_, rfl⟩
  replace hw : ms G.1 (Af f sz) f1 s H locs := by rw [ef1]; exact hw
  have h2 : f1 ta = some (.inr (1, [.ref tr, .int (nI n)])) := by rw [ef1, va_up_ne _ _ (wne hT.1 hR (wd_oo (by decide)))]; exact hT.1
  have h3 : f1 ra = some (.inr (3, [.ref ta, .int (nI a), .int ven, .int vpi, .int vli, .int vnu, .int vrj, .int vsh, .int vmf, .int vme, .int vnf, .int vne])) := by rw [ef1, va_up_self]
  have hT4 : sg G f1 ta tr cap n t := by rw [ef1]; exact sg_up hT hR wd_x
  refine lv_aload_n hx hb d_PieceReader_readNext_10 rfl (lv_at hl 0 rfl) ?_
  refine lv_aload_n hx hb d_PieceReader_readNext_11 rfl (lv_at hl 0 rfl) ?_
  refine m_get hc hE hw h3 kc_PieceReader l_PieceReader_9_PieceReader rfl d_PieceReader_readNext_12 ?_
  refine lv_bipush (v := 59) hx hb d_PieceReader_readNext_15 (by decide) ?_
  refine lv_aload_n hx hb d_PieceReader_readNext_17 rfl (lv_at hl 0 rfl) ?_
  refine m_get hc hE hw h3 kc_PieceReader l_PieceReader_61_PieceReader rfl d_PieceReader_readNext_18 ?_
  refine lv_aload_n hx hb d_PieceReader_readNext_21 rfl (lv_at hl 0 rfl) ?_
  refine m_get hc hE hw h3 kc_PieceReader l_PieceReader_9_PieceReader rfl d_PieceReader_readNext_22 ?_
  refine m_calli hw (m_runV (As := []) (rest := [.int (nI a), .int 59, .ref ta, .ref ra]) hc hE hw (c_Signs_length G l H.size f1 hT4) hT4.1 rfl cw_PieceReader_54 se_Signs_length rfl hl.1 rfl (Nat.le_of_ble_eq_true rfl) d_PieceReader_readNext_25 ⟨rfl, rfl, by decide, by decide⟩ ⟨by first | decide | (dsimp only; omega), by first | decide | (dsimp only; omega)⟩) (fun r7 g6 H locs p5 hw => ?_)
  obtain ⟨rfl, p5⟩ := p5
  subst p5
  refine m_calli hw (m_runV (As := [.int 59, .int (nI a), .int (nI n)]) (rest := [.ref ra]) hc hE hw (c_Signs_find G l H.size f1 hT4 59 (i0 := a) (i1 := n) h1 (Nat.le_refl _)) hT4.1 rfl cw_PieceReader_64 se_Signs_find rfl hl.1 rfl (Nat.le_of_ble_eq_true rfl) d_PieceReader_readNext_28 ⟨rfl, rfl, by decide, by decide⟩ ⟨by first | decide | (dsimp only; omega), by first | decide | (dsimp only; omega)⟩) (fun r10 g9 H locs p8 hw => ?_)
  obtain ⟨rfl, p8⟩ := p8
  replace p8 : r10 = nI (pnx t n a) := p8
  subst p8
  refine m_put hc hE hw h3 kc_PieceReader l_PieceReader_51_PieceReader rfl ds_PieceReader_2 rfl rfl (Nat.le_of_ble_eq_true rfl) d_PieceReader_readNext_31 (fun H locs hw => ?_)
  obtain ⟨f11, ef11⟩ : ∃ z : Wd, z = va_up f1 ra (some (.inr (3, [.ref ta, .int (nI a), .int (nI (pnx t n a)), .int vpi, .int vli, .int vnu, .int vrj, .int vsh, .int vmf, .int vme, .int vnf, .int vne]))) := ⟨_, rfl⟩
  replace hw : ms G.1 (Af f sz) f11 s H locs := by rw [ef11]; exact hw
  have h12 : f11 ta = some (.inr (1, [.ref tr, .int (nI n)])) := by rw [ef11, va_up_ne _ _ (wne hT4.1 h3 (wd_oo (by decide)))]; exact hT4.1
  have h13 : f11 ra = some (.inr (3, [.ref ta, .int (nI a), .int (nI (pnx t n a)), .int vpi, .int vli, .int vnu, .int vrj, .int vsh, .int vmf, .int vme, .int vnf, .int vne])) := by rw [ef11, va_up_self]
  have hT14 : sg G f11 ta tr cap n t := by rw [ef11]; exact sg_up hT4 h3 wd_x
  refine lv_aload_n hx hb d_PieceReader_readNext_34 rfl (lv_at hl 0 rfl) ?_
  refine m_get hc hE hw h13 kc_PieceReader l_PieceReader_61_PieceReader rfl d_PieceReader_readNext_35 ?_
  refine lv_aload_n hx hb d_PieceReader_readNext_38 rfl (lv_at hl 0 rfl) ?_
  refine m_get hc hE hw h13 kc_PieceReader l_PieceReader_51_PieceReader rfl d_PieceReader_readNext_39 ?_
  refine lv_icmp_ne (tgt := 51) hx hb d_PieceReader_readNext_42 (by decide) (fun c15 => ?_) (fun c15 => ?_)
  · refine lv_aload_n hx hb d_PieceReader_readNext_51 rfl (lv_at hl 0 rfl) ?_
    refine m_get hc hE hw h13 kc_PieceReader l_PieceReader_9_PieceReader rfl d_PieceReader_readNext_52 ?_
    refine lv_bipush (v := 61) hx hb d_PieceReader_readNext_55 (by decide) ?_
    refine lv_aload_n hx hb d_PieceReader_readNext_57 rfl (lv_at hl 0 rfl) ?_
    refine m_get hc hE hw h13 kc_PieceReader l_PieceReader_61_PieceReader rfl d_PieceReader_readNext_58 ?_
    refine lv_aload_n hx hb d_PieceReader_readNext_61 rfl (lv_at hl 0 rfl) ?_
    refine m_get hc hE hw h13 kc_PieceReader l_PieceReader_51_PieceReader rfl d_PieceReader_readNext_62 ?_
    refine m_calli hw (m_runV (As := [.int 61, .int (nI a), .int (nI (pnx t n a))]) (rest := []) hc hE hw (c_Signs_find G l H.size f11 hT14 61 (i0 := a) (i1 := pnx t n a) hpn.1 hpn.2) hT14.1 rfl cw_PieceReader_64 se_Signs_find rfl hl.1 rfl (Nat.le_of_ble_eq_true rfl) d_PieceReader_readNext_65 ⟨rfl, rfl, by decide, by decide⟩ ⟨by first | decide | (dsimp only; omega), by first | decide | (dsimp only; omega)⟩) (fun r18 g17 H locs p16 hw => ?_)
    obtain ⟨rfl, p16⟩ := p16
    replace p16 : r18 = nI (eqc t a (pnx t n a)) := p16
    subst p16
    have hae : ¬ a = pnx t n a := fun z => c15 (congrArg nI z)
    have hqi : a ≤ eqc t a (pnx t n a) ∧ eqc t a (pnx t n a) ≤ pnx t n a := by have := fnd_in t 61 (pnx t n a - a) a; unfold eqc; omega
    refine lv_istore_n (lv' := [(1, .int (nI (eqc t a (pnx t n a)))), (0, .ref ra)]) hx hb d_PieceReader_readNext_68 rfl hl (by decide) rfl (fun ls hl => ?_)
    refine lv_iload_n hx hb d_PieceReader_readNext_69 rfl (lv_at hl 0 rfl) ?_
    refine lv_aload_n hx hb d_PieceReader_readNext_70 rfl (lv_at hl 1 rfl) ?_
    refine m_get hc hE hw h13 kc_PieceReader l_PieceReader_51_PieceReader rfl d_PieceReader_readNext_71 ?_
    refine lv_icmp_ge (tgt := 97) hx hb d_PieceReader_readNext_74 (by decide) (fun c19 => ?_) (fun c19 => ?_)
    · refine lv_aload_n hx hb d_PieceReader_readNext_97 rfl (lv_at hl 1 rfl) ?_
      refine lv_aload_n hx hb d_PieceReader_readNext_98 rfl (lv_at hl 1 rfl) ?_
      have hql : ¬ eqc t a (pnx t n a) < pnx t n a := fun z => absurd ((nI_leI (by omega) (by omega)).mp c19) (by omega)
      refine m_calli hw (m_runV (As := []) (rest := [.ref ra]) hc hE hw (c_PieceReader_readClass G l H.size f11 h13 hT14 (a := a) (e0 := pnx t n a) (by omega) hpn.2) h13 rfl cw_PieceReader_72 se_PieceReader_readClass rfl hl.1 rfl (Nat.le_of_ble_eq_true rfl) d_PieceReader_readNext_99 ⟨rfl, rfl, by decide, by decide⟩ ⟨by first | decide | (dsimp only; omega), by first | decide | (dsimp only; omega)⟩) (fun r22 g21 H locs p20 hw => ?_)
      obtain ⟨rj, sh, mf, me, nf, ne, hfe, hrv, hcl⟩ := p20
      have g21_r : g21 ra = some (.inr (3, [.ref ta, .int (nI a), .int (nI (pnx t n a)), .int vpi, .int vli, .int vnu, .int rj, .int sh, .int mf, .int me, .int nf, .int ne])) := by rw [hfe, va_up_self]
      have hT23 : sg G g21 ta tr cap n t := by rw [hfe]; exact sg_up hT14 h13 wd_x
      refine lv_if_eq (tgt := 109) hx hb d_PieceReader_readNext_102 (by decide) (fun c24 => ?_) (fun c24 => ?_)
      · refine lv_iconst (v := 3) hx hb d_PieceReader_readNext_109 (by decide) ?_
        refine m_put hc hE hw g21_r kc_PieceReader l_PieceReader_22_PieceReader rfl ds_PieceReader_3 rfl rfl (Nat.le_of_ble_eq_true rfl) d_PieceReader_readNext_110 (fun H locs hw => ?_)
        obtain ⟨f25, ef25⟩ : ∃ z : Wd, z = va_up g21 ra (some (.inr (3, [.ref ta, .int (nI a), .int (nI (pnx t n a)), .int 3, .int vli, .int vnu, .int rj, .int sh, .int mf, .int me, .int nf, .int ne]))) := ⟨_, rfl⟩
        replace hw : ms G.1 (Af f sz) f25 s H locs := by rw [ef25]; exact hw
        have h26 : f25 ta = some (.inr (1, [.ref tr, .int (nI n)])) := by rw [ef25, va_up_ne _ _ (wne hT23.1 g21_r (wd_oo (by decide)))]; exact hT23.1
        have h27 : f25 ra = some (.inr (3, [.ref ta, .int (nI a), .int (nI (pnx t n a)), .int 3, .int vli, .int vnu, .int rj, .int sh, .int mf, .int me, .int nf, .int ne])) := by rw [ef25, va_up_self]
        have hT28 : sg G f25 ta tr cap n t := by rw [ef25]; exact sg_up hT23 g21_r wd_x
        have hpk : pkd t a (pnx t n a) = 3 := by unfold pkd; rw [pif_f hae, pif_f hql, pif_f (bI_0.mp (hrv.symm.trans c24))]
        exact m_vret hc hr hlk hw ⟨by first | decide | (dsimp only; omega), by first | decide | (dsimp only; omega)⟩ d_PieceReader_readNext_113 ⟨_, _, _, _, _, _, _, _, by rw [ef25, hfe, up_uu, ef11, up_uu, ef1, up_uu, hpk]; rfl, fun z => absurd (hpk.symm.trans z) (by decide), fun z => absurd (hpk.symm.trans z) (by decide)⟩
      · refine lv_iconst (v := 2) hx hb d_PieceReader_readNext_105 (by decide) ?_
        refine lv_goto (tgt := 110) hx hb d_PieceReader_readNext_106 (by decide) ?_
        refine m_put hc hE hw g21_r kc_PieceReader l_PieceReader_22_PieceReader rfl ds_PieceReader_3 rfl rfl (Nat.le_of_ble_eq_true rfl) d_PieceReader_readNext_110 (fun H locs hw => ?_)
        obtain ⟨f29, ef29⟩ : ∃ z : Wd, z = va_up g21 ra (some (.inr (3, [.ref ta, .int (nI a), .int (nI (pnx t n a)), .int 2, .int vli, .int vnu, .int rj, .int sh, .int mf, .int me, .int nf, .int ne]))) := ⟨_, rfl⟩
        replace hw : ms G.1 (Af f sz) f29 s H locs := by rw [ef29]; exact hw
        have h30 : f29 ta = some (.inr (1, [.ref tr, .int (nI n)])) := by rw [ef29, va_up_ne _ _ (wne hT23.1 g21_r (wd_oo (by decide)))]; exact hT23.1
        have h31 : f29 ra = some (.inr (3, [.ref ta, .int (nI a), .int (nI (pnx t n a)), .int 2, .int vli, .int vnu, .int rj, .int sh, .int mf, .int me, .int nf, .int ne])) := by rw [ef29, va_up_self]
        have hT32 : sg G f29 ta tr cap n t := by rw [ef29]; exact sg_up hT23 g21_r wd_x
        have hok := bI_n.mp (fun z => c24 (hrv.trans z))
        have hpk : pkd t a (pnx t n a) = 2 := by unfold pkd; rw [pif_f hae, pif_f hql, pif_t hok]
        exact m_vret hc hr hlk hw ⟨by first | decide | (dsimp only; omega), by first | decide | (dsimp only; omega)⟩ d_PieceReader_readNext_113 ⟨_, _, _, _, _, _, _, _, by rw [ef29, hfe, up_uu, ef11, up_uu, ef1, up_uu, hpk]; rfl, fun z => absurd (hpk.symm.trans z) (by decide), fun _ => hcl hok⟩
    · refine lv_aload_n hx hb d_PieceReader_readNext_77 rfl (lv_at hl 1 rfl) ?_
      refine lv_aload_n hx hb d_PieceReader_readNext_78 rfl (lv_at hl 1 rfl) ?_
      refine lv_iload_n hx hb d_PieceReader_readNext_79 rfl (lv_at hl 0 rfl) ?_
      have hql : eqc t a (pnx t n a) < pnx t n a := Nat.not_le.mp (fun z => c19 (nI_le z (by omega)))
      refine m_calli hw (m_runV (As := [.int (nI (eqc t a (pnx t n a)))]) (rest := [.ref ra]) hc hE hw (c_PieceReader_readLimit G l H.size f11 h13 hT14 (a := a) (q := eqc t a (pnx t n a)) (e0 := pnx t n a) hqi.1 hql hpn.2) h13 rfl cw_PieceReader_68 se_PieceReader_readLimit rfl hl.1 rfl (Nat.le_of_ble_eq_true rfl) d_PieceReader_readNext_80 ⟨rfl, rfl, by decide, by decide⟩ ⟨by first | decide | (dsimp only; omega), by first | decide | (dsimp only; omega)⟩) (fun r35 g34 H locs p33 hw => ?_)
      obtain ⟨li, nu, hfe, hrv, hli⟩ := p33
      have g34_r : g34 ra = some (.inr (3, [.ref ta, .int (nI a), .int (nI (pnx t n a)), .int vpi, .int li, .int nu, .int vrj, .int vsh, .int vmf, .int vme, .int vnf, .int vne])) := by rw [hfe, va_up_self]
      have hT36 : sg G g34 ta tr cap n t := by rw [hfe]; exact sg_up hT14 h13 wd_x
      refine lv_if_eq (tgt := 90) hx hb d_PieceReader_readNext_83 (by decide) (fun c37 => ?_) (fun c37 => ?_)
      · refine lv_iconst (v := 3) hx hb d_PieceReader_readNext_90 (by decide) ?_
        refine m_put hc hE hw g34_r kc_PieceReader l_PieceReader_22_PieceReader rfl ds_PieceReader_3 rfl rfl (Nat.le_of_ble_eq_true rfl) d_PieceReader_readNext_91 (fun H locs hw => ?_)
        obtain ⟨f38, ef38⟩ : ∃ z : Wd, z = va_up g34 ra (some (.inr (3, [.ref ta, .int (nI a), .int (nI (pnx t n a)), .int 3, .int li, .int nu, .int vrj, .int vsh, .int vmf, .int vme, .int vnf, .int vne]))) := ⟨_, rfl⟩
        replace hw : ms G.1 (Af f sz) f38 s H locs := by rw [ef38]; exact hw
        have h39 : f38 ta = some (.inr (1, [.ref tr, .int (nI n)])) := by rw [ef38, va_up_ne _ _ (wne hT36.1 g34_r (wd_oo (by decide)))]; exact hT36.1
        have h40 : f38 ra = some (.inr (3, [.ref ta, .int (nI a), .int (nI (pnx t n a)), .int 3, .int li, .int nu, .int vrj, .int vsh, .int vmf, .int vme, .int vnf, .int vne])) := by rw [ef38, va_up_self]
        have hT41 : sg G f38 ta tr cap n t := by rw [ef38]; exact sg_up hT36 g34_r wd_x
        refine lv_goto (tgt := 113) hx hb d_PieceReader_readNext_94 (by decide) ?_
        have hpk : pkd t a (pnx t n a) = 3 := by unfold pkd; rw [pif_f hae, pif_t hql, pif_f (bI_0.mp (hrv.symm.trans c37))]
        exact m_vret hc hr hlk hw ⟨by first | decide | (dsimp only; omega), by first | decide | (dsimp only; omega)⟩ d_PieceReader_readNext_113 ⟨_, _, _, _, _, _, _, _, by rw [ef38, hfe, up_uu, ef11, up_uu, ef1, up_uu, hpk]; rfl, fun z => absurd (hpk.symm.trans z) (by decide), fun z => absurd (hpk.symm.trans z) (by decide)⟩
      · refine lv_iconst (v := 1) hx hb d_PieceReader_readNext_86 (by decide) ?_
        refine lv_goto (tgt := 91) hx hb d_PieceReader_readNext_87 (by decide) ?_
        refine m_put hc hE hw g34_r kc_PieceReader l_PieceReader_22_PieceReader rfl ds_PieceReader_3 rfl rfl (Nat.le_of_ble_eq_true rfl) d_PieceReader_readNext_91 (fun H locs hw => ?_)
        obtain ⟨f42, ef42⟩ : ∃ z : Wd, z = va_up g34 ra (some (.inr (3, [.ref ta, .int (nI a), .int (nI (pnx t n a)), .int 1, .int li, .int nu, .int vrj, .int vsh, .int vmf, .int vme, .int vnf, .int vne]))) := ⟨_, rfl⟩
        replace hw : ms G.1 (Af f sz) f42 s H locs := by rw [ef42]; exact hw
        have h43 : f42 ta = some (.inr (1, [.ref tr, .int (nI n)])) := by rw [ef42, va_up_ne _ _ (wne hT36.1 g34_r (wd_oo (by decide)))]; exact hT36.1
        have h44 : f42 ra = some (.inr (3, [.ref ta, .int (nI a), .int (nI (pnx t n a)), .int 1, .int li, .int nu, .int vrj, .int vsh, .int vmf, .int vme, .int vnf, .int vne])) := by rw [ef42, va_up_self]
        have hT45 : sg G f42 ta tr cap n t := by rw [ef42]; exact sg_up hT36 g34_r wd_x
        refine lv_goto (tgt := 113) hx hb d_PieceReader_readNext_94 (by decide) ?_
        have hok := bI_n.mp (fun z => c37 (hrv.trans z))
        have hpk : pkd t a (pnx t n a) = 1 := by unfold pkd; rw [pif_f hae, pif_t hql, pif_t hok]
        exact m_vret hc hr hlk hw ⟨by first | decide | (dsimp only; omega), by first | decide | (dsimp only; omega)⟩ d_PieceReader_readNext_113 ⟨_, _, _, _, _, _, _, _, by rw [ef42, hfe, up_uu, ef11, up_uu, ef1, up_uu, hpk]; rfl, fun _ => hli hok, fun z => absurd (hpk.symm.trans z) (by decide)⟩
  · refine lv_aload_n hx hb d_PieceReader_readNext_45 rfl (lv_at hl 0 rfl) ?_
    refine lv_iconst (v := 0) hx hb d_PieceReader_readNext_46 (by decide) ?_
    refine m_put hc hE hw h13 kc_PieceReader l_PieceReader_22_PieceReader rfl ds_PieceReader_3 rfl rfl (Nat.le_of_ble_eq_true rfl) d_PieceReader_readNext_47 (fun H locs hw => ?_)
    obtain ⟨f46, ef46⟩ : ∃ z : Wd, z = va_up f11 ra (some (.inr (3, [.ref ta, .int (nI a), .int (nI (pnx t n a)), .int 0, .int vli, .int vnu, .int vrj, .int vsh, .int vmf, .int vme, .int vnf, .int vne]))) := ⟨_, rfl⟩
    replace hw : ms G.1 (Af f sz) f46 s H locs := by rw [ef46]; exact hw
    have h47 : f46 ta = some (.inr (1, [.ref tr, .int (nI n)])) := by rw [ef46, va_up_ne _ _ (wne hT14.1 h13 (wd_oo (by decide)))]; exact hT14.1
    have h48 : f46 ra = some (.inr (3, [.ref ta, .int (nI a), .int (nI (pnx t n a)), .int 0, .int vli, .int vnu, .int vrj, .int vsh, .int vmf, .int vme, .int vnf, .int vne])) := by rw [ef46, va_up_self]
    have hT49 : sg G f46 ta tr cap n t := by rw [ef46]; exact sg_up hT14 h13 wd_x
    have hpk : pkd t a (pnx t n a) = 0 := by unfold pkd; rw [pif_t ((nI_eq (by omega) (by omega)).mp c15)]
    exact m_vret hc hr hlk hw ⟨by first | decide | (dsimp only; omega), by first | decide | (dsimp only; omega)⟩ d_PieceReader_readNext_50 ⟨_, _, _, _, _, _, _, _, by rw [ef46, ef11, up_uu, ef1, up_uu, hpk]; rfl, fun z => absurd (hpk.symm.trans z) (by decide), fun z => absurd (hpk.symm.trans z) (by decide)⟩

set_option maxHeartbeats 4000000 in
set_option maxRecDepth 100000 in
/-- startOver() -/
theorem c_PieceReader_startOver (G : GG) (l : Launch) (sz : Nat) (f : Wd) {ra ta tr cap n : Nat} {t : Nat → Int32} {vfr ven vpi vli vnu vrj vsh vmf vme vnf vne : Int32} (hR : f ra = some (.inr (3, [.ref ta, .int vfr, .int ven, .int vpi, .int vli, .int vnu, .int vrj, .int vsh, .int vmf, .int vme, .int vnf, .int vne]))) (hT : sg G f ta tr cap n t) : Ci G l y_PieceReader_startOver b_PieceReader_startOver 3 (some .int) ({ frames := 1, cells := 0, slots := 0, locals := 21 }) sz f [.ref ra] (fun v f' => f' = va_up f ra (some (.inr (3, [.ref ta, .int vfr, .int (-1), .int vpi, .int vli, .int vnu, .int vrj, .int vsh, .int vmf, .int vme, .int vnf, .int vne]))) ∧ v = nI (npc t n)) := by
  refine ct_of (by decide) (Nat.le_of_ble_eq_true rfl) ?_
  intro p e s m below meth c ls H locs hEn
  obtain ⟨hc, hr, hlk, hin, hE, hw, hsz, hl⟩ := hEn
  have hx := hc.1
  have hb := hc.2.1
  have hl : lv_has ls 3 [(0, .ref ra)] := hl
  have hn9 : n ≤ 90 := by have := hT.2.2.1; have := hT.2.2.2.1; omega
  refine lv_aload_n hx hb d_PieceReader_startOver_0 rfl (lv_at hl 0 rfl) ?_
  refine lv_iconst (v := (-1)) hx hb d_PieceReader_startOver_1 (by decide) ?_
  refine m_put hc hE hw hR kc_PieceReader l_PieceReader_51_PieceReader rfl ds_PieceReader_2 rfl rfl (Nat.le_of_ble_eq_true rfl) d_PieceReader_startOver_2 (fun H locs hw => ?_)
  obtain ⟨f1, ef1⟩ : ∃ z : Wd, z = va_up f ra (some (.inr (3, [.ref ta, .int vfr, .int (-1), .int vpi, .int vli, .int vnu, .int vrj, .int vsh, .int vmf, .int vme, .int vnf, .int vne]))) := ⟨_, rfl⟩
  replace hw : ms G.1 (Af f sz) f1 s H locs := by rw [ef1]; exact hw
  have h2 : f1 ta = some (.inr (1, [.ref tr, .int (nI n)])) := by rw [ef1, va_up_ne _ _ (wne hT.1 hR (wd_oo (by decide)))]; exact hT.1
  have h3 : f1 ra = some (.inr (3, [.ref ta, .int vfr, .int (-1), .int vpi, .int vli, .int vnu, .int vrj, .int vsh, .int vmf, .int vme, .int vnf, .int vne])) := by rw [ef1, va_up_self]
  have hT4 : sg G f1 ta tr cap n t := by rw [ef1]; exact sg_up hT hR wd_x
  refine lv_iconst (v := 1) hx hb d_PieceReader_startOver_5 (by decide) ?_
  refine lv_istore_n (lv' := [(1, .int 1), (0, .ref ra)]) hx hb d_PieceReader_startOver_6 rfl hl (by decide) rfl (fun ls hl => ?_)
  refine lv_iconst (v := 0) hx hb d_PieceReader_startOver_7 (by decide) ?_
  refine lv_istore_n (lv' := [(2, .int 0), (1, .int 1), (0, .ref ra)]) hx hb d_PieceReader_startOver_8 rfl hl (by decide) rfl (fun ls hl => ?_)
  have hcn := npc_le (t := t)
  have loop : ∀ (fu : Nat) (i : Nat) (ls : Array Slot) (H : Heap) (locs : List Loc), n - i < fu → i ≤ n → ms G.1 (Af f sz) f1 s H locs → lv_has ls 3 [(2, .int (nI i)), (1, .int (nI (npc t i))), (0, .ref ra)] → W p l e ({ frames := 1, cells := 0, slots := 0, locals := 21 }) s m ([.ref ra] : List Value).toArray below meth c H locs 0 0 (MQ below (va_Qi (fun v f' => f' = va_up f ra (some (.inr (3, [.ref ta, .int vfr, .int (-1), .int vpi, .int vli, .int vnu, .int vrj, .int vsh, .int vmf, .int vme, .int vnf, .int vne]))) ∧ v = nI (npc t n)) (Bw G f sz) (Af f sz)) ([.ref ra] : List Value).toArray s 0 0 (Af f sz)) (F0 m 9 ls []) := by
    intro fu
    induction fu with
    | zero => intro i ls H locs h0; exact absurd h0 (Nat.not_lt_zero _)
    | succ fu ih =>
      intro i ls H locs hfu hi hw hl
      refine lv_iload_n hx hb d_PieceReader_startOver_9 rfl (lv_at hl 0 rfl) ?_
      refine lv_aload_n hx hb d_PieceReader_startOver_10 rfl (lv_at hl 2 rfl) ?_
      refine m_get hc hE hw h3 kc_PieceReader l_PieceReader_9_PieceReader rfl d_PieceReader_startOver_11 ?_
      refine m_calli hw (m_runV (As := []) (rest := [.int (nI i)]) hc hE hw (c_Signs_length G l H.size f1 hT4) hT4.1 rfl cw_PieceReader_54 se_Signs_length rfl hl.1 rfl (Nat.le_of_ble_eq_true rfl) d_PieceReader_startOver_14 ⟨rfl, rfl, by decide, by decide⟩ ⟨by first | decide | (dsimp only; omega), by first | decide | (dsimp only; omega)⟩) (fun r7 g6 H locs p5 hw => ?_)
      obtain ⟨rfl, p5⟩ := p5
      subst p5
      refine lv_icmp_ge (tgt := 42) hx hb d_PieceReader_startOver_17 (by decide) (fun c8 => ?_) (fun c8 => ?_)
      · refine lv_iload_n hx hb d_PieceReader_startOver_42 rfl (lv_at hl 1 rfl) ?_
        have hin2 : i = n := by have := (nI_leI (by omega) (by omega)).mp c8; omega
        subst hin2
        exact m_iret hc hr hlk hw ⟨by first | decide | (dsimp only; omega), by first | decide | (dsimp only; omega)⟩ d_PieceReader_startOver_43 ⟨ef1, rfl⟩
      · refine lv_aload_n hx hb d_PieceReader_startOver_20 rfl (lv_at hl 2 rfl) ?_
        refine m_get hc hE hw h3 kc_PieceReader l_PieceReader_9_PieceReader rfl d_PieceReader_startOver_21 ?_
        refine lv_iload_n hx hb d_PieceReader_startOver_24 rfl (lv_at hl 0 rfl) ?_
        refine m_calli hw (m_runV (As := [.int (nI i)]) (rest := []) hc hE hw (c_Signs_at G l H.size f1 hT4 (nI i)) hT4.1 rfl cw_PieceReader_57 se_Signs_at rfl hl.1 rfl (Nat.le_of_ble_eq_true rfl) d_PieceReader_startOver_25 ⟨rfl, rfl, by decide, by decide⟩ ⟨by first | decide | (dsimp only; omega), by first | decide | (dsimp only; omega)⟩) (fun r11 g10 H locs p9 hw => ?_)
        obtain ⟨rfl, p9⟩ := p9
        have hlt : i < n := Nat.not_le.mp (fun z => c8 (nI_le z (by omega)))
        rw [atv_in hlt (by omega)] at p9
        subst p9
        refine lv_bipush (v := 59) hx hb d_PieceReader_startOver_28 (by decide) ?_
        refine lv_icmp_ne (tgt := 36) hx hb d_PieceReader_startOver_30 (by decide) (fun c12 => ?_) (fun c12 => ?_)
        · refine lv_iinc (v := (nI (i + 1))) (lv' := [(2, .int (nI (i + 1))), (1, .int (nI (npc t i))), (0, .ref ra)]) hx hb d_PieceReader_startOver_36 hl (k := 0) rfl (nI_1 _) (by decide) rfl (fun ls hl => ?_)
          refine lv_goto (tgt := 9) hx hb d_PieceReader_startOver_39 (by decide) ?_
          have hnp : npc t (i + 1) = npc t i := by unfold npc; show cntS t i + (if t i = 59 then 1 else 0) + 1 = _; rw [if_neg c12]
          exact ih (i + 1) ls H locs (by omega) (by omega) hw (by rw [hnp]; exact (lv_sub hl [0, 1, 2] rfl))
        · refine lv_iinc (v := (nI ((npc t i) + 1))) (lv' := [(1, .int (nI ((npc t i) + 1))), (2, .int (nI i)), (0, .ref ra)]) hx hb d_PieceReader_startOver_33 hl (k := 1) rfl (nI_1 _) (by decide) rfl (fun ls hl => ?_)
          refine lv_iinc (v := (nI (i + 1))) (lv' := [(2, .int (nI (i + 1))), (1, .int (nI ((npc t i) + 1))), (0, .ref ra)]) hx hb d_PieceReader_startOver_36 hl (k := 1) rfl (nI_1 _) (by decide) rfl (fun ls hl => ?_)
          refine lv_goto (tgt := 9) hx hb d_PieceReader_startOver_39 (by decide) ?_
          have hnp : npc t (i + 1) = npc t i + 1 := by unfold npc; show cntS t i + (if t i = 59 then 1 else 0) + 1 = _; rw [if_pos c12]
          exact ih (i + 1) ls H locs (by omega) (by omega) hw (by rw [hnp]; exact (lv_sub hl [0, 1, 2] rfl))
  exact loop (n + 1) 0 ls H locs (by omega) (Nat.zero_le _) hw (lv_sub hl [0, 1, 2] rfl)
