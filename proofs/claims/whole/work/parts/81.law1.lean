/-! links of the pools, as the walks ask for them -/
theorem cw_law_20 : cwk "StreamFiltersLaw" 20 y_SF_clear b_SF_clear 3 (some .int) 1 := ⟨Or.inl (tb 191 (by decide +kernel) rfl), (tb 194 (by decide +kernel) rfl), (tb 1 (by decide +kernel) rfl), by decide, by decide, by decide +kernel⟩
theorem cw_law_24 : cwk "StreamFiltersLaw" 24 y_SM_clear b_SM_clear 3 (some .int) 1 := ⟨Or.inl (tb 745 (by decide +kernel) rfl), (tb 748 (by decide +kernel) rfl), (tb 5 (by decide +kernel) rfl), by decide, by decide, by decide +kernel⟩
theorem cw_law_30 : cwk "StreamFiltersLaw" 30 y_SF_fault b_SF_fault 1 (some .int) 0 := ⟨Or.inl (tb 400 (by decide +kernel) rfl), (tb 403 (by decide +kernel) rfl), (tb 1 (by decide +kernel) rfl), by decide, by decide, by decide +kernel⟩
theorem cw_law_34 : cwk "StreamFiltersLaw" 34 y_SM_fault b_SM_fault 1 (some .int) 0 := ⟨Or.inl (tb 785 (by decide +kernel) rfl), (tb 788 (by decide +kernel) rfl), (tb 5 (by decide +kernel) rfl), by decide, by decide, by decide +kernel⟩
theorem cw_law_54 : cwk "StreamFiltersLaw" 54 y_SF_drop b_SF_drop 2 (some .int) 1 := ⟨Or.inl (tb 491 (by decide +kernel) rfl), (tb 494 (by decide +kernel) rfl), (tb 1 (by decide +kernel) rfl), by decide, by decide, by decide +kernel⟩
theorem cw_law_57 : cwk "StreamFiltersLaw" 57 y_SM_drop b_SM_drop 2 (some .int) 1 := ⟨Or.inl (tb 809 (by decide +kernel) rfl), (tb 812 (by decide +kernel) rfl), (tb 5 (by decide +kernel) rfl), by decide, by decide, by decide +kernel⟩
theorem cw_law_58 : cwk "StreamFiltersLaw" 58 y_SF_stream b_SF_stream 4 (some .int) 3 := ⟨Or.inl (tb 495 (by decide +kernel) rfl), (tb 498 (by decide +kernel) rfl), (tb 1 (by decide +kernel) rfl), by decide, by decide, by decide +kernel⟩
theorem cw_law_61 : cwk "StreamFiltersLaw" 61 y_SM_stream b_SM_stream 4 (some .int) 3 := ⟨Or.inl (tb 813 (by decide +kernel) rfl), (tb 816 (by decide +kernel) rfl), (tb 5 (by decide +kernel) rfl), by decide, by decide, by decide +kernel⟩
theorem cw_law_62 : cwk "StreamFiltersLaw" 62 y_SF_ask b_SF_ask 6 (some .int) 4 := ⟨Or.inl (tb 499 (by decide +kernel) rfl), (tb 502 (by decide +kernel) rfl), (tb 1 (by decide +kernel) rfl), by decide, by decide, by decide +kernel⟩
theorem cw_law_66 : cwk "StreamFiltersLaw" 66 y_SM_ask b_SM_ask 5 (some .int) 4 := ⟨Or.inl (tb 817 (by decide +kernel) rfl), (tb 820 (by decide +kernel) rfl), (tb 5 (by decide +kernel) rfl), by decide, by decide, by decide +kernel⟩
theorem cw_law_67 : cwk "StreamFiltersLaw" 67 y_SF_trace b_SF_trace 2 (some .int) 1 := ⟨Or.inl (tb 580 (by decide +kernel) rfl), (tb 583 (by decide +kernel) rfl), (tb 1 (by decide +kernel) rfl), by decide, by decide, by decide +kernel⟩
theorem cw_law_70 : cwk "StreamFiltersLaw" 70 y_SM_trace b_SM_trace 2 (some .int) 1 := ⟨Or.inl (tb 849 (by decide +kernel) rfl), (tb 852 (by decide +kernel) rfl), (tb 5 (by decide +kernel) rfl), by decide, by decide, by decide +kernel⟩
theorem cw_law_71 : cwk "StreamFiltersLaw" 71 y_SF_filter b_SF_filter 5 (some .int) 2 := ⟨Or.inl (tb 584 (by decide +kernel) rfl), (tb 587 (by decide +kernel) rfl), (tb 1 (by decide +kernel) rfl), by decide, by decide, by decide +kernel⟩
theorem cw_law_74 : cwk "StreamFiltersLaw" 74 y_SM_filter b_SM_filter 4 (some .int) 2 := ⟨Or.inl (tb 853 (by decide +kernel) rfl), (tb 856 (by decide +kernel) rfl), (tb 5 (by decide +kernel) rfl), by decide, by decide, by decide +kernel⟩
theorem cw_law_79 : cwk "StreamFiltersLaw" 79 y_SF_sign b_SF_sign 4 (some .int) 2 := ⟨Or.inl (tb 603 (by decide +kernel) rfl), (tb 606 (by decide +kernel) rfl), (tb 1 (by decide +kernel) rfl), by decide, by decide, by decide +kernel⟩
theorem cw_law_82 : cwk "StreamFiltersLaw" 82 y_SM_sign b_SM_sign 3 (some .int) 2 := ⟨Or.inl (tb 861 (by decide +kernel) rfl), (tb 864 (by decide +kernel) rfl), (tb 5 (by decide +kernel) rfl), by decide, by decide, by decide +kernel⟩
theorem se_SF_ask : Cond.instanceMethod y_SF_ask ∈ TB ∧ Cond.selects "StreamFilters" y_SF_ask y_SF_ask ∈ TB := ⟨(tb 500 (by decide +kernel) rfl), (tb 501 (by decide +kernel) rfl)⟩
theorem se_SF_clear : Cond.instanceMethod y_SF_clear ∈ TB ∧ Cond.selects "StreamFilters" y_SF_clear y_SF_clear ∈ TB := ⟨(tb 192 (by decide +kernel) rfl), (tb 193 (by decide +kernel) rfl)⟩
theorem se_SF_drop : Cond.instanceMethod y_SF_drop ∈ TB ∧ Cond.selects "StreamFilters" y_SF_drop y_SF_drop ∈ TB := ⟨(tb 492 (by decide +kernel) rfl), (tb 493 (by decide +kernel) rfl)⟩
theorem se_SF_fault : Cond.instanceMethod y_SF_fault ∈ TB ∧ Cond.selects "StreamFilters" y_SF_fault y_SF_fault ∈ TB := ⟨(tb 401 (by decide +kernel) rfl), (tb 402 (by decide +kernel) rfl)⟩
theorem se_SF_filter : Cond.instanceMethod y_SF_filter ∈ TB ∧ Cond.selects "StreamFilters" y_SF_filter y_SF_filter ∈ TB := ⟨(tb 585 (by decide +kernel) rfl), (tb 586 (by decide +kernel) rfl)⟩
theorem se_SF_sign : Cond.instanceMethod y_SF_sign ∈ TB ∧ Cond.selects "StreamFilters" y_SF_sign y_SF_sign ∈ TB := ⟨(tb 604 (by decide +kernel) rfl), (tb 605 (by decide +kernel) rfl)⟩
theorem se_SF_stream : Cond.instanceMethod y_SF_stream ∈ TB ∧ Cond.selects "StreamFilters" y_SF_stream y_SF_stream ∈ TB := ⟨(tb 496 (by decide +kernel) rfl), (tb 497 (by decide +kernel) rfl)⟩
theorem se_SF_trace : Cond.instanceMethod y_SF_trace ∈ TB ∧ Cond.selects "StreamFilters" y_SF_trace y_SF_trace ∈ TB := ⟨(tb 581 (by decide +kernel) rfl), (tb 582 (by decide +kernel) rfl)⟩
theorem se_SM_ask : Cond.instanceMethod y_SM_ask ∈ TB ∧ Cond.selects "StreamFiltersModel" y_SM_ask y_SM_ask ∈ TB := ⟨(tb 818 (by decide +kernel) rfl), (tb 819 (by decide +kernel) rfl)⟩
theorem se_SM_clear : Cond.instanceMethod y_SM_clear ∈ TB ∧ Cond.selects "StreamFiltersModel" y_SM_clear y_SM_clear ∈ TB := ⟨(tb 746 (by decide +kernel) rfl), (tb 747 (by decide +kernel) rfl)⟩
theorem se_SM_drop : Cond.instanceMethod y_SM_drop ∈ TB ∧ Cond.selects "StreamFiltersModel" y_SM_drop y_SM_drop ∈ TB := ⟨(tb 810 (by decide +kernel) rfl), (tb 811 (by decide +kernel) rfl)⟩
theorem se_SM_fault : Cond.instanceMethod y_SM_fault ∈ TB ∧ Cond.selects "StreamFiltersModel" y_SM_fault y_SM_fault ∈ TB := ⟨(tb 786 (by decide +kernel) rfl), (tb 787 (by decide +kernel) rfl)⟩
theorem se_SM_filter : Cond.instanceMethod y_SM_filter ∈ TB ∧ Cond.selects "StreamFiltersModel" y_SM_filter y_SM_filter ∈ TB := ⟨(tb 854 (by decide +kernel) rfl), (tb 855 (by decide +kernel) rfl)⟩
theorem se_SM_sign : Cond.instanceMethod y_SM_sign ∈ TB ∧ Cond.selects "StreamFiltersModel" y_SM_sign y_SM_sign ∈ TB := ⟨(tb 862 (by decide +kernel) rfl), (tb 863 (by decide +kernel) rfl)⟩
theorem se_SM_stream : Cond.instanceMethod y_SM_stream ∈ TB ∧ Cond.selects "StreamFiltersModel" y_SM_stream y_SM_stream ∈ TB := ⟨(tb 814 (by decide +kernel) rfl), (tb 815 (by decide +kernel) rfl)⟩
theorem se_SM_trace : Cond.instanceMethod y_SM_trace ∈ TB ∧ Cond.selects "StreamFiltersModel" y_SM_trace y_SM_trace ∈ TB := ⟨(tb 850 (by decide +kernel) rfl), (tb 851 (by decide +kernel) rfl)⟩
/-! decode rows -/
set_option maxHeartbeats 4000000 in
set_option maxRecDepth 100000 in
theorem law_1 {p : Program} {l : Launch} {e : Env} {s : State} {m : MethodId} {below : List Frame} {meth : Method} {c : Code} {G : GG} {b L : Nat} {xs : Nat → Int32} (hC : LawC p s m meth c G b L xs) {j : Nat} (hj : 5 * j + 5 ≤ L) (hnext : Hd p l e s m below meth c G b (j + 1)) {ad : Nat → Nat} {E : Nat → va_E} {g f : Wd} {root pn : Nat} {pt : Nat → Int32} {nn : Nat} {nt : Nat → Int32} {mn : Nat} {mt : Nat → Int32} {dp rf by_ co tx lx : Int32} {fl : Nat → Option FV} {ls : Array Slot} {H : Heap} {locs : List Loc} (hRg : Rg 25 ad E g f) (hSC : SC G ad E g root pn pt nn nt mn mt dp rf by_ co tx lx fl) (hR : MR G j (ad 9) (fun k => ad (10 + k)) f pn pt nn nt mn mt dp rf by_ co tx lx fl) (hw : ms G.1 (Al s) f s H locs) (hl : lv_has ls 4 [(3, .int (nI (5 * j))), (0, .ref b), (1, .ref root), (2, .ref (ad 9))]) : LG p l e s m below meth c b H locs (60 + 100 * j) (9600 + 900 * j) 171 ls [] := by
  obtain ⟨hc, hr, hlk, hXs, hbl, hE, hL⟩ := hC
  have hx := hc.1
  have hb := hc.2.1
  have hbA : ¬ Al s b := Nat.not_le.mpr hbl
  obtain ⟨a1, ha1⟩ : ∃ z, z = xs (5 * j + 1) := ⟨_, rfl⟩
  refine lv_aload_n hx hb d_law_171 rfl (lv_at hl 2 rfl) ?_
  refine lv_aload_n hx hb d_law_172 rfl (lv_at hl 1 rfl) ?_
  refine lv_iload_n hx hb d_law_173 rfl (lv_at hl 0 rfl) ?_
  refine lv_iconst (v := 1) hx hb d_law_174 (by decide) ?_
  refine lv_iadd hx hb d_law_175 ?_
  refine m_top (y := (nI ((5 * j) + 1))) (nI_add (5 * j) 1) ?_
  refine va_sld hx hb hXs hbl hbA hw.2.1 (vp_in_nI (by omega) (by omega)) d_law_176 ?_
  refine m_top (y := a1) ((congrArg xs (nI_clamp (by omega))).trans ha1.symm) ?_
  refine m_calli hw (m_runV (As := [.int a1]) (rest := []) hc hE hw (c_SF_clear G l H.size f (N := 25) (by decide) hRg hSC a1) (hRg.2.2.1 _ _ hSC.1) rfl cw_law_20 se_SF_clear rfl hl.1 rfl (Nat.le_of_ble_eq_true rfl) d_law_177 ⟨rfl, rfl, by decide, by decide⟩ ⟨by dsimp only [room_1]; omega, by dsimp only [room_1]; omega⟩) (fun r23 g22 H locs p21 hw => ?_)
  have hp1 := p21
  rcases cs_x a1 with h | h | h | ⟨q0, q1, q2⟩
  · obtain ⟨hv1, E1, g1, hRg1, hgl1, hk1, hSC1⟩ := hp1.1 h
    have hRk := hR.keep hRg hRg1 hk1
    obtain ⟨fsM, hmo⟩ := hRk.mo
    refine lv_aload_n hx hb d_law_180 rfl (lv_at hl 3 rfl) ?_
    refine lv_aload_n hx hb d_law_181 rfl (lv_at hl 1 rfl) ?_
    refine lv_iload_n hx hb d_law_182 rfl (lv_at hl 0 rfl) ?_
    refine lv_iconst (v := 1) hx hb d_law_183 (by decide) ?_
    refine lv_iadd hx hb d_law_184 ?_
    refine m_top (y := (nI ((5 * j) + 1))) (nI_add (5 * j) 1) ?_
    refine va_sld hx hb hXs hbl hbA hw.2.1 (vp_in_nI (by omega) (by omega)) d_law_185 ?_
    refine m_top (y := a1) ((congrArg xs (nI_clamp (by omega))).trans ha1.symm) ?_
    refine m_calli hw (m_runV (As := [.int a1]) (rest := [.int r23]) hc hE hw (c_SM_clear G l H.size g22 hRk (by omega) a1) hmo rfl cw_law_24 se_SM_clear rfl hl.1 rfl (Nat.le_of_ble_eq_true rfl) d_law_186 ⟨rfl, rfl, by decide, by decide⟩ ⟨by dsimp only [room_1]; omega, by dsimp only [room_1]; omega⟩) (fun r26 g25 H locs p24 hw => ?_)
    obtain ⟨hv2, hMR2, hX2⟩ := p24.1 h
    obtain ⟨E2, hRg2, hlo2⟩ := hRg1.mx hMR2 hX2
    refine lv_icmp_eq (tgt := 701) hx hb d_law_189 (by decide) (fun c27 => ?_) (fun c27 => ?_)
    · refine W.widen (k := 60 + 100 * (j + 1)) (n := 9600 + 900 * (j + 1)) (by dsimp only; omega) (by dsimp only; omega) ?_
      refine lv_iinc (v := (nI (5 * (j + 1)))) (lv' := [(3, .int (nI (5 * (j + 1)))), (0, .ref b), (1, .ref root), (2, .ref (ad 9))]) hx hb d_law_701 hl (k := 0) rfl (nI_add (5 * j) 5) (by decide) rfl (fun ls hl => ?_)
      refine lv_goto (tgt := 18) hx hb d_law_704 (by decide) ?_
      exact hnext ad E2 g1 g25 root 0 pt nn nt mn mt dp rf by_ co tx lx fl ls H locs hRg2 (hSC1.lo hlo2) hMR2 hw (lv_sub hl [0, 1, 2, 3] rfl)
    · refine lv_iconst (v := 0) hx hb d_law_192 (by decide) ?_
      exact absurd (hv1.trans hv2.symm) c27
  · obtain ⟨hv1, E1, g1, hRg1, hgl1, hk1, hSC1⟩ := hp1.2.1 h
    have hRk := hR.keep hRg hRg1 hk1
    obtain ⟨fsM, hmo⟩ := hRk.mo
    refine lv_aload_n hx hb d_law_180 rfl (lv_at hl 3 rfl) ?_
    refine lv_aload_n hx hb d_law_181 rfl (lv_at hl 1 rfl) ?_
    refine lv_iload_n hx hb d_law_182 rfl (lv_at hl 0 rfl) ?_
    refine lv_iconst (v := 1) hx hb d_law_183 (by decide) ?_
    refine lv_iadd hx hb d_law_184 ?_
    refine m_top (y := (nI ((5 * j) + 1))) (nI_add (5 * j) 1) ?_
    refine va_sld hx hb hXs hbl hbA hw.2.1 (vp_in_nI (by omega) (by omega)) d_law_185 ?_
    refine m_top (y := a1) ((congrArg xs (nI_clamp (by omega))).trans ha1.symm) ?_
    refine m_calli hw (m_runV (As := [.int a1]) (rest := [.int r23]) hc hE hw (c_SM_clear G l H.size g22 hRk (by omega) a1) hmo rfl cw_law_24 se_SM_clear rfl hl.1 rfl (Nat.le_of_ble_eq_true rfl) d_law_186 ⟨rfl, rfl, by decide, by decide⟩ ⟨by dsimp only [room_1]; omega, by dsimp only [room_1]; omega⟩) (fun r30 g29 H locs p28 hw => ?_)
    obtain ⟨hv2, hMR2, hX2⟩ := p28.2.1 h
    obtain ⟨E2, hRg2, hlo2⟩ := hRg1.mx hMR2 hX2
    refine lv_icmp_eq (tgt := 701) hx hb d_law_189 (by decide) (fun c31 => ?_) (fun c31 => ?_)
    · refine W.widen (k := 60 + 100 * (j + 1)) (n := 9600 + 900 * (j + 1)) (by dsimp only; omega) (by dsimp only; omega) ?_
      refine lv_iinc (v := (nI (5 * (j + 1)))) (lv' := [(3, .int (nI (5 * (j + 1)))), (0, .ref b), (1, .ref root), (2, .ref (ad 9))]) hx hb d_law_701 hl (k := 0) rfl (nI_add (5 * j) 5) (by decide) rfl (fun ls hl => ?_)
      refine lv_goto (tgt := 18) hx hb d_law_704 (by decide) ?_
      exact hnext ad E2 g1 g29 root pn pt 0 nt mn mt dp rf by_ co tx lx fl ls H locs hRg2 (hSC1.lo hlo2) hMR2 hw (lv_sub hl [0, 1, 2, 3] rfl)
    · refine lv_iconst (v := 0) hx hb d_law_192 (by decide) ?_
      exact absurd (hv1.trans hv2.symm) c31
  · obtain ⟨hv1, E1, g1, hRg1, hgl1, hk1, hSC1⟩ := hp1.2.2.1 h
    have hRk := hR.keep hRg hRg1 hk1
    obtain ⟨fsM, hmo⟩ := hRk.mo
    refine lv_aload_n hx hb d_law_180 rfl (lv_at hl 3 rfl) ?_
    refine lv_aload_n hx hb d_law_181 rfl (lv_at hl 1 rfl) ?_
    refine lv_iload_n hx hb d_law_182 rfl (lv_at hl 0 rfl) ?_
    refine lv_iconst (v := 1) hx hb d_law_183 (by decide) ?_
    refine lv_iadd hx hb d_law_184 ?_
    refine m_top (y := (nI ((5 * j) + 1))) (nI_add (5 * j) 1) ?_
    refine va_sld hx hb hXs hbl hbA hw.2.1 (vp_in_nI (by omega) (by omega)) d_law_185 ?_
    refine m_top (y := a1) ((congrArg xs (nI_clamp (by omega))).trans ha1.symm) ?_
    refine m_calli hw (m_runV (As := [.int a1]) (rest := [.int r23]) hc hE hw (c_SM_clear G l H.size g22 hRk (by omega) a1) hmo rfl cw_law_24 se_SM_clear rfl hl.1 rfl (Nat.le_of_ble_eq_true rfl) d_law_186 ⟨rfl, rfl, by decide, by decide⟩ ⟨by dsimp only [room_1]; omega, by dsimp only [room_1]; omega⟩) (fun r34 g33 H locs p32 hw => ?_)
    obtain ⟨hv2, hMR2, hX2⟩ := p32.2.2.1 h
    obtain ⟨E2, hRg2, hlo2⟩ := hRg1.mx hMR2 hX2
    refine lv_icmp_eq (tgt := 701) hx hb d_law_189 (by decide) (fun c35 => ?_) (fun c35 => ?_)
    · refine W.widen (k := 60 + 100 * (j + 1)) (n := 9600 + 900 * (j + 1)) (by dsimp only; omega) (by dsimp only; omega) ?_
      refine lv_iinc (v := (nI (5 * (j + 1)))) (lv' := [(3, .int (nI (5 * (j + 1)))), (0, .ref b), (1, .ref root), (2, .ref (ad 9))]) hx hb d_law_701 hl (k := 0) rfl (nI_add (5 * j) 5) (by decide) rfl (fun ls hl => ?_)
      refine lv_goto (tgt := 18) hx hb d_law_704 (by decide) ?_
      exact hnext ad E2 g1 g33 root pn pt nn nt 0 mt dp rf by_ co tx lx fl ls H locs hRg2 (hSC1.lo hlo2) hMR2 hw (lv_sub hl [0, 1, 2, 3] rfl)
    · refine lv_iconst (v := 0) hx hb d_law_192 (by decide) ?_
      exact absurd (hv1.trans hv2.symm) c35
  · obtain ⟨hv1, E1, g1, hRg1, hgl1, hk1, hSC1⟩ := hp1.2.2.2 q0 q1 q2
    have hRk := hR.keep hRg hRg1 hk1
    obtain ⟨fsM, hmo⟩ := hRk.mo
    refine lv_aload_n hx hb d_law_180 rfl (lv_at hl 3 rfl) ?_
    refine lv_aload_n hx hb d_law_181 rfl (lv_at hl 1 rfl) ?_
    refine lv_iload_n hx hb d_law_182 rfl (lv_at hl 0 rfl) ?_
    refine lv_iconst (v := 1) hx hb d_law_183 (by decide) ?_
    refine lv_iadd hx hb d_law_184 ?_
    refine m_top (y := (nI ((5 * j) + 1))) (nI_add (5 * j) 1) ?_
    refine va_sld hx hb hXs hbl hbA hw.2.1 (vp_in_nI (by omega) (by omega)) d_law_185 ?_
    refine m_top (y := a1) ((congrArg xs (nI_clamp (by omega))).trans ha1.symm) ?_
    refine m_calli hw (m_runV (As := [.int a1]) (rest := [.int r23]) hc hE hw (c_SM_clear G l H.size g22 hRk (by omega) a1) hmo rfl cw_law_24 se_SM_clear rfl hl.1 rfl (Nat.le_of_ble_eq_true rfl) d_law_186 ⟨rfl, rfl, by decide, by decide⟩ ⟨by dsimp only [room_1]; omega, by dsimp only [room_1]; omega⟩) (fun r38 g37 H locs p36 hw => ?_)
    obtain ⟨hv2, hMR2, hX2⟩ := p36.2.2.2 q0 q1 q2
    obtain ⟨E2, hRg2, hlo2⟩ := hRg1.mx hMR2 hX2
    refine lv_icmp_eq (tgt := 701) hx hb d_law_189 (by decide) (fun c39 => ?_) (fun c39 => ?_)
    · refine W.widen (k := 60 + 100 * (j + 1)) (n := 9600 + 900 * (j + 1)) (by dsimp only; omega) (by dsimp only; omega) ?_
      refine lv_iinc (v := (nI (5 * (j + 1)))) (lv' := [(3, .int (nI (5 * (j + 1)))), (0, .ref b), (1, .ref root), (2, .ref (ad 9))]) hx hb d_law_701 hl (k := 0) rfl (nI_add (5 * j) 5) (by decide) rfl (fun ls hl => ?_)
      refine lv_goto (tgt := 18) hx hb d_law_704 (by decide) ?_
      exact hnext ad E2 g1 g37 root pn pt nn nt mn mt dp rf by_ co tx lx fl ls H locs hRg2 (hSC1.lo hlo2) hMR2 hw (lv_sub hl [0, 1, 2, 3] rfl)
    · refine lv_iconst (v := 0) hx hb d_law_192 (by decide) ?_
      exact absurd (hv1.trans hv2.symm) c39

set_option maxHeartbeats 4000000 in
set_option maxRecDepth 100000 in
theorem law_3 {p : Program} {l : Launch} {e : Env} {s : State} {m : MethodId} {below : List Frame} {meth : Method} {c : Code} {G : GG} {b L : Nat} {xs : Nat → Int32} (hC : LawC p s m meth c G b L xs) {j : Nat} (hj : 5 * j + 5 ≤ L) (hnext : Hd p l e s m below meth c G b (j + 1)) {ad : Nat → Nat} {E : Nat → va_E} {g f : Wd} {root pn : Nat} {pt : Nat → Int32} {nn : Nat} {nt : Nat → Int32} {mn : Nat} {mt : Nat → Int32} {dp rf by_ co tx lx : Int32} {fl : Nat → Option FV} {ls : Array Slot} {H : Heap} {locs : List Loc} (hRg : Rg 25 ad E g f) (hSC : SC G ad E g root pn pt nn nt mn mt dp rf by_ co tx lx fl) (hR : MR G j (ad 9) (fun k => ad (10 + k)) f pn pt nn nt mn mt dp rf by_ co tx lx fl) (hw : ms G.1 (Al s) f s H locs) (hl : lv_has ls 4 [(3, .int (nI (5 * j))), (0, .ref b), (1, .ref root), (2, .ref (ad 9))]) : LG p l e s m below meth c b H locs (60 + 100 * j) (9600 + 900 * j) 243 ls [] := by
  obtain ⟨hc, hr, hlk, hXs, hbl, hE, hL⟩ := hC
  have hx := hc.1
  have hb := hc.2.1
  have hbA : ¬ Al s b := Nat.not_le.mpr hbl
  refine lv_aload_n hx hb d_law_243 rfl (lv_at hl 2 rfl) ?_
  refine m_calli hw (m_runV (As := []) (rest := []) hc hE hw (c_SF_fault G l H.size f (N := 25) (by decide) hRg hSC ) (hRg.2.2.1 _ _ hSC.1) rfl cw_law_30 se_SF_fault rfl hl.1 rfl (Nat.le_of_ble_eq_true rfl) d_law_244 ⟨rfl, rfl, by decide, by decide⟩ ⟨by dsimp only [room_1]; omega, by dsimp only [room_1]; omega⟩) (fun r23 g22 H locs p21 hw => ?_)
  have hp1 := p21
  obtain ⟨hv1, E1, g1, hRg1, hgl1, hk1, hSC1⟩ := hp1
  have hRk := hR.keep hRg hRg1 hk1
  obtain ⟨fsM, hmo⟩ := hRk.mo
  refine lv_aload_n hx hb d_law_247 rfl (lv_at hl 3 rfl) ?_
  refine m_calli hw (m_runV (As := []) (rest := [.int r23]) hc hE hw (c_SM_fault G l H.size g22 hRk (by omega) ) hmo rfl cw_law_34 se_SM_fault rfl hl.1 rfl (Nat.le_of_ble_eq_true rfl) d_law_248 ⟨rfl, rfl, by decide, by decide⟩ ⟨by dsimp only [room_1]; omega, by dsimp only [room_1]; omega⟩) (fun r26 g25 H locs p24 hw => ?_)
  obtain ⟨hv2, hMR2, hX2⟩ := p24
  obtain ⟨E2, hRg2, hlo2⟩ := hRg1.mx hMR2 hX2
  refine lv_icmp_eq (tgt := 701) hx hb d_law_251 (by decide) (fun c27 => ?_) (fun c27 => ?_)
  · refine W.widen (k := 60 + 100 * (j + 1)) (n := 9600 + 900 * (j + 1)) (by dsimp only; omega) (by dsimp only; omega) ?_
    refine lv_iinc (v := (nI (5 * (j + 1)))) (lv' := [(3, .int (nI (5 * (j + 1)))), (0, .ref b), (1, .ref root), (2, .ref (ad 9))]) hx hb d_law_701 hl (k := 0) rfl (nI_add (5 * j) 5) (by decide) rfl (fun ls hl => ?_)
    refine lv_goto (tgt := 18) hx hb d_law_704 (by decide) ?_
    exact hnext ad E2 g1 g25 root pn pt nn nt mn mt dp rf by_ co tx lx fl ls H locs hRg2 (hSC1.lo hlo2) hMR2 hw (lv_sub hl [0, 1, 2, 3] rfl)
  · refine lv_iconst (v := 0) hx hb d_law_254 (by decide) ?_
    exact absurd (hv1.trans hv2.symm) c27

set_option maxHeartbeats 4000000 in
set_option maxRecDepth 100000 in
theorem law_8 {p : Program} {l : Launch} {e : Env} {s : State} {m : MethodId} {below : List Frame} {meth : Method} {c : Code} {G : GG} {b L : Nat} {xs : Nat → Int32} (hC : LawC p s m meth c G b L xs) {j : Nat} (hj : 5 * j + 5 ≤ L) (hnext : Hd p l e s m below meth c G b (j + 1)) {ad : Nat → Nat} {E : Nat → va_E} {g f : Wd} {root pn : Nat} {pt : Nat → Int32} {nn : Nat} {nt : Nat → Int32} {mn : Nat} {mt : Nat → Int32} {dp rf by_ co tx lx : Int32} {fl : Nat → Option FV} {ls : Array Slot} {H : Heap} {locs : List Loc} (hRg : Rg 25 ad E g f) (hSC : SC G ad E g root pn pt nn nt mn mt dp rf by_ co tx lx fl) (hR : MR G j (ad 9) (fun k => ad (10 + k)) f pn pt nn nt mn mt dp rf by_ co tx lx fl) (hw : ms G.1 (Al s) f s H locs) (hl : lv_has ls 4 [(3, .int (nI (5 * j))), (0, .ref b), (1, .ref root), (2, .ref (ad 9))]) : LG p l e s m below meth c b H locs (60 + 100 * j) (9600 + 900 * j) 434 ls [] := by
  obtain ⟨hc, hr, hlk, hXs, hbl, hE, hL⟩ := hC
  have hx := hc.1
  have hb := hc.2.1
  have hbA : ¬ Al s b := Nat.not_le.mpr hbl
  obtain ⟨a1, ha1⟩ : ∃ z, z = xs (5 * j + 1) := ⟨_, rfl⟩
  refine lv_aload_n hx hb d_law_434 rfl (lv_at hl 2 rfl) ?_
  refine lv_aload_n hx hb d_law_435 rfl (lv_at hl 1 rfl) ?_
  refine lv_iload_n hx hb d_law_436 rfl (lv_at hl 0 rfl) ?_
  refine lv_iconst (v := 1) hx hb d_law_437 (by decide) ?_
  refine lv_iadd hx hb d_law_438 ?_
  refine m_top (y := (nI ((5 * j) + 1))) (nI_add (5 * j) 1) ?_
  refine va_sld hx hb hXs hbl hbA hw.2.1 (vp_in_nI (by omega) (by omega)) d_law_439 ?_
  refine m_top (y := a1) ((congrArg xs (nI_clamp (by omega))).trans ha1.symm) ?_
  refine m_calli hw (m_runV (As := [.int a1]) (rest := []) hc hE hw (c_SF_drop G l H.size f (N := 25) (by decide) hRg hSC a1) (hRg.2.2.1 _ _ hSC.1) rfl cw_law_54 se_SF_drop rfl hl.1 rfl (Nat.le_of_ble_eq_true rfl) d_law_440 ⟨rfl, rfl, by decide, by decide⟩ ⟨by dsimp only [room_1]; omega, by dsimp only [room_1]; omega⟩) (fun r23 g22 H locs p21 hw => ?_)
  have hp1 := p21
  rcases cs_drop fl a1 with h | ⟨k, vv, q1, q2, q3⟩
  · obtain ⟨hv1, E1, g1, hRg1, hgl1, hk1, hSC1⟩ := hp1.1 h
    have hRk := hR.keep hRg hRg1 hk1
    obtain ⟨fsM, hmo⟩ := hRk.mo
    refine lv_aload_n hx hb d_law_443 rfl (lv_at hl 3 rfl) ?_
    refine lv_aload_n hx hb d_law_444 rfl (lv_at hl 1 rfl) ?_
    refine lv_iload_n hx hb d_law_445 rfl (lv_at hl 0 rfl) ?_
    refine lv_iconst (v := 1) hx hb d_law_446 (by decide) ?_
    refine lv_iadd hx hb d_law_447 ?_
    refine m_top (y := (nI ((5 * j) + 1))) (nI_add (5 * j) 1) ?_
    refine va_sld hx hb hXs hbl hbA hw.2.1 (vp_in_nI (by omega) (by omega)) d_law_448 ?_
    refine m_top (y := a1) ((congrArg xs (nI_clamp (by omega))).trans ha1.symm) ?_
    refine m_calli hw (m_runV (As := [.int a1]) (rest := [.int r23]) hc hE hw (c_SM_drop G l H.size g22 hRk (by omega) a1) hmo rfl cw_law_57 se_SM_drop rfl hl.1 rfl (Nat.le_of_ble_eq_true rfl) d_law_449 ⟨rfl, rfl, by decide, by decide⟩ ⟨by dsimp only [room_1]; omega, by dsimp only [room_1]; omega⟩) (fun r26 g25 H locs p24 hw => ?_)
    obtain ⟨hv2, hMR2, hX2⟩ := p24.1 h
    obtain ⟨E2, hRg2, hlo2⟩ := hRg1.mx hMR2 hX2
    refine lv_icmp_eq (tgt := 701) hx hb d_law_452 (by decide) (fun c27 => ?_) (fun c27 => ?_)
    · refine W.widen (k := 60 + 100 * (j + 1)) (n := 9600 + 900 * (j + 1)) (by dsimp only; omega) (by dsimp only; omega) ?_
      refine lv_iinc (v := (nI (5 * (j + 1)))) (lv' := [(3, .int (nI (5 * (j + 1)))), (0, .ref b), (1, .ref root), (2, .ref (ad 9))]) hx hb d_law_701 hl (k := 0) rfl (nI_add (5 * j) 5) (by decide) rfl (fun ls hl => ?_)
      refine lv_goto (tgt := 18) hx hb d_law_704 (by decide) ?_
      exact hnext ad E2 g1 g25 root pn pt nn nt mn mt dp rf by_ co tx lx fl ls H locs hRg2 (hSC1.lo hlo2) hMR2 hw (lv_sub hl [0, 1, 2, 3] rfl)
    · refine lv_iconst (v := 0) hx hb d_law_455 (by decide) ?_
      exact absurd (hv1.trans hv2.symm) c27
  · obtain ⟨hv1, E1, g1, hRg1, hgl1, hk1, hSC1⟩ := hp1.2 k vv q1 q2 q3
    have hRk := hR.keep hRg hRg1 hk1
    obtain ⟨fsM, hmo⟩ := hRk.mo
    refine lv_aload_n hx hb d_law_443 rfl (lv_at hl 3 rfl) ?_
    refine lv_aload_n hx hb d_law_444 rfl (lv_at hl 1 rfl) ?_
    refine lv_iload_n hx hb d_law_445 rfl (lv_at hl 0 rfl) ?_
    refine lv_iconst (v := 1) hx hb d_law_446 (by decide) ?_
    refine lv_iadd hx hb d_law_447 ?_
    refine m_top (y := (nI ((5 * j) + 1))) (nI_add (5 * j) 1) ?_
    refine va_sld hx hb hXs hbl hbA hw.2.1 (vp_in_nI (by omega) (by omega)) d_law_448 ?_
    refine m_top (y := a1) ((congrArg xs (nI_clamp (by omega))).trans ha1.symm) ?_
    refine m_calli hw (m_runV (As := [.int a1]) (rest := [.int r23]) hc hE hw (c_SM_drop G l H.size g22 hRk (by omega) a1) hmo rfl cw_law_57 se_SM_drop rfl hl.1 rfl (Nat.le_of_ble_eq_true rfl) d_law_449 ⟨rfl, rfl, by decide, by decide⟩ ⟨by dsimp only [room_1]; omega, by dsimp only [room_1]; omega⟩) (fun r30 g29 H locs p28 hw => ?_)
    obtain ⟨hv2, hMR2, hX2⟩ := p28.2 k vv q1 q2 q3
    obtain ⟨E2, hRg2, hlo2⟩ := hRg1.mx hMR2 hX2
    refine lv_icmp_eq (tgt := 701) hx hb d_law_452 (by decide) (fun c31 => ?_) (fun c31 => ?_)
    · refine W.widen (k := 60 + 100 * (j + 1)) (n := 9600 + 900 * (j + 1)) (by dsimp only; omega) (by dsimp only; omega) ?_
      refine lv_iinc (v := (nI (5 * (j + 1)))) (lv' := [(3, .int (nI (5 * (j + 1)))), (0, .ref b), (1, .ref root), (2, .ref (ad 9))]) hx hb d_law_701 hl (k := 0) rfl (nI_add (5 * j) 5) (by decide) rfl (fun ls hl => ?_)
      refine lv_goto (tgt := 18) hx hb d_law_704 (by decide) ?_
      exact hnext ad E2 g1 g29 root pn pt nn nt mn mt dp rf by_ co tx lx (va_up fl k none) ls H locs hRg2 (hSC1.lo hlo2) hMR2 hw (lv_sub hl [0, 1, 2, 3] rfl)
    · refine lv_iconst (v := 0) hx hb d_law_455 (by decide) ?_
      exact absurd (hv1.trans hv2.symm) c31

set_option maxHeartbeats 4000000 in
set_option maxRecDepth 100000 in
theorem law_9 {p : Program} {l : Launch} {e : Env} {s : State} {m : MethodId} {below : List Frame} {meth : Method} {c : Code} {G : GG} {b L : Nat} {xs : Nat → Int32} (hC : LawC p s m meth c G b L xs) {j : Nat} (hj : 5 * j + 5 ≤ L) (hnext : Hd p l e s m below meth c G b (j + 1)) {ad : Nat → Nat} {E : Nat → va_E} {g f : Wd} {root pn : Nat} {pt : Nat → Int32} {nn : Nat} {nt : Nat → Int32} {mn : Nat} {mt : Nat → Int32} {dp rf by_ co tx lx : Int32} {fl : Nat → Option FV} {ls : Array Slot} {H : Heap} {locs : List Loc} (hRg : Rg 25 ad E g f) (hSC : SC G ad E g root pn pt nn nt mn mt dp rf by_ co tx lx fl) (hR : MR G j (ad 9) (fun k => ad (10 + k)) f pn pt nn nt mn mt dp rf by_ co tx lx fl) (hw : ms G.1 (Al s) f s H locs) (hl : lv_has ls 4 [(3, .int (nI (5 * j))), (0, .ref b), (1, .ref root), (2, .ref (ad 9))]) : LG p l e s m below meth c b H locs (60 + 100 * j) (9600 + 900 * j) 457 ls [] := by
  obtain ⟨hc, hr, hlk, hXs, hbl, hE, hL⟩ := hC
  have hx := hc.1
  have hb := hc.2.1
  have hbA : ¬ Al s b := Nat.not_le.mpr hbl
  obtain ⟨a1, ha1⟩ : ∃ z, z = xs (5 * j + 1) := ⟨_, rfl⟩
  obtain ⟨a2, ha2⟩ : ∃ z, z = xs (5 * j + 2) := ⟨_, rfl⟩
  obtain ⟨a3, ha3⟩ : ∃ z, z = xs (5 * j + 3) := ⟨_, rfl⟩
  refine lv_aload_n hx hb d_law_457 rfl (lv_at hl 2 rfl) ?_
  refine lv_aload_n hx hb d_law_458 rfl (lv_at hl 1 rfl) ?_
  refine lv_iload_n hx hb d_law_459 rfl (lv_at hl 0 rfl) ?_
  refine lv_iconst (v := 1) hx hb d_law_460 (by decide) ?_
  refine lv_iadd hx hb d_law_461 ?_
  refine m_top (y := (nI ((5 * j) + 1))) (nI_add (5 * j) 1) ?_
  refine va_sld hx hb hXs hbl hbA hw.2.1 (vp_in_nI (by omega) (by omega)) d_law_462 ?_
  refine m_top (y := a1) ((congrArg xs (nI_clamp (by omega))).trans ha1.symm) ?_
  refine lv_aload_n hx hb d_law_463 rfl (lv_at hl 1 rfl) ?_
  refine lv_iload_n hx hb d_law_464 rfl (lv_at hl 0 rfl) ?_
  refine lv_iconst (v := 2) hx hb d_law_465 (by decide) ?_
  refine lv_iadd hx hb d_law_466 ?_
  refine m_top (y := (nI ((5 * j) + 2))) (nI_add (5 * j) 2) ?_
  refine va_sld hx hb hXs hbl hbA hw.2.1 (vp_in_nI (by omega) (by omega)) d_law_467 ?_
  refine m_top (y := a2) ((congrArg xs (nI_clamp (by omega))).trans ha2.symm) ?_
  refine lv_aload_n hx hb d_law_468 rfl (lv_at hl 1 rfl) ?_
  refine lv_iload_n hx hb d_law_469 rfl (lv_at hl 0 rfl) ?_
  refine lv_iconst (v := 3) hx hb d_law_470 (by decide) ?_
  refine lv_iadd hx hb d_law_471 ?_
  refine m_top (y := (nI ((5 * j) + 3))) (nI_add (5 * j) 3) ?_
  refine va_sld hx hb hXs hbl hbA hw.2.1 (vp_in_nI (by omega) (by omega)) d_law_472 ?_
  refine m_top (y := a3) ((congrArg xs (nI_clamp (by omega))).trans ha3.symm) ?_
  refine m_calli hw (m_runV (As := [.int a1, .int a2, .int a3]) (rest := []) hc hE hw (c_SF_stream G l H.size f (N := 25) (by decide) hRg hSC a1 a2 a3) (hRg.2.2.1 _ _ hSC.1) rfl cw_law_58 se_SF_stream rfl hl.1 rfl (Nat.le_of_ble_eq_true rfl) d_law_473 ⟨rfl, rfl, by decide, by decide⟩ ⟨by dsimp only [room_1]; omega, by dsimp only [room_1]; omega⟩) (fun r23 g22 H locs p21 hw => ?_)
  have hp1 := p21
  rcases Classical.em (a1 < 0 ∨ a2 < 0 ∨ a3 < 0) with h | h
  · obtain ⟨hv1, E1, g1, hRg1, hgl1, hk1, hSC1⟩ := hp1.1 h
    have hRk := hR.keep hRg hRg1 hk1
    obtain ⟨fsM, hmo⟩ := hRk.mo
    refine lv_aload_n hx hb d_law_476 rfl (lv_at hl 3 rfl) ?_
    refine lv_aload_n hx hb d_law_477 rfl (lv_at hl 1 rfl) ?_
    refine lv_iload_n hx hb d_law_478 rfl (lv_at hl 0 rfl) ?_
    refine lv_iconst (v := 1) hx hb d_law_479 (by decide) ?_
    refine lv_iadd hx hb d_law_480 ?_
    refine m_top (y := (nI ((5 * j) + 1))) (nI_add (5 * j) 1) ?_
    refine va_sld hx hb hXs hbl hbA hw.2.1 (vp_in_nI (by omega) (by omega)) d_law_481 ?_
    refine m_top (y := a1) ((congrArg xs (nI_clamp (by omega))).trans ha1.symm) ?_
    refine lv_aload_n hx hb d_law_482 rfl (lv_at hl 1 rfl) ?_
    refine lv_iload_n hx hb d_law_483 rfl (lv_at hl 0 rfl) ?_
    refine lv_iconst (v := 2) hx hb d_law_484 (by decide) ?_
    refine lv_iadd hx hb d_law_485 ?_
    refine m_top (y := (nI ((5 * j) + 2))) (nI_add (5 * j) 2) ?_
    refine va_sld hx hb hXs hbl hbA hw.2.1 (vp_in_nI (by omega) (by omega)) d_law_486 ?_
    refine m_top (y := a2) ((congrArg xs (nI_clamp (by omega))).trans ha2.symm) ?_
    refine lv_aload_n hx hb d_law_487 rfl (lv_at hl 1 rfl) ?_
    refine lv_iload_n hx hb d_law_488 rfl (lv_at hl 0 rfl) ?_
    refine lv_iconst (v := 3) hx hb d_law_489 (by decide) ?_
    refine lv_iadd hx hb d_law_490 ?_
    refine m_top (y := (nI ((5 * j) + 3))) (nI_add (5 * j) 3) ?_
    refine va_sld hx hb hXs hbl hbA hw.2.1 (vp_in_nI (by omega) (by omega)) d_law_491 ?_
    refine m_top (y := a3) ((congrArg xs (nI_clamp (by omega))).trans ha3.symm) ?_
    refine m_calli hw (m_runV (As := [.int a1, .int a2, .int a3]) (rest := [.int r23]) hc hE hw (c_SM_stream G l H.size g22 hRk (by omega) a1 a2 a3) hmo rfl cw_law_61 se_SM_stream rfl hl.1 rfl (Nat.le_of_ble_eq_true rfl) d_law_492 ⟨rfl, rfl, by decide, by decide⟩ ⟨by dsimp only [room_1]; omega, by dsimp only [room_1]; omega⟩) (fun r26 g25 H locs p24 hw => ?_)
    obtain ⟨hv2, hMR2, hX2⟩ := p24.1 h
    obtain ⟨E2, hRg2, hlo2⟩ := hRg1.mx hMR2 hX2
    refine lv_icmp_eq (tgt := 701) hx hb d_law_495 (by decide) (fun c27 => ?_) (fun c27 => ?_)
    · refine W.widen (k := 60 + 100 * (j + 1)) (n := 9600 + 900 * (j + 1)) (by dsimp only; omega) (by dsimp only; omega) ?_
      refine lv_iinc (v := (nI (5 * (j + 1)))) (lv' := [(3, .int (nI (5 * (j + 1)))), (0, .ref b), (1, .ref root), (2, .ref (ad 9))]) hx hb d_law_701 hl (k := 0) rfl (nI_add (5 * j) 5) (by decide) rfl (fun ls hl => ?_)
      refine lv_goto (tgt := 18) hx hb d_law_704 (by decide) ?_
      exact hnext ad E2 g1 g25 root pn pt nn nt mn mt dp rf by_ co tx lx fl ls H locs hRg2 (hSC1.lo hlo2) hMR2 hw (lv_sub hl [0, 1, 2, 3] rfl)
    · refine lv_iconst (v := 0) hx hb d_law_498 (by decide) ?_
      exact absurd (hv1.trans hv2.symm) c27
  · obtain ⟨hv1, E1, g1, hRg1, hgl1, hk1, hSC1⟩ := hp1.2 h
    have hRk := hR.keep hRg hRg1 hk1
    obtain ⟨fsM, hmo⟩ := hRk.mo
    refine lv_aload_n hx hb d_law_476 rfl (lv_at hl 3 rfl) ?_
    refine lv_aload_n hx hb d_law_477 rfl (lv_at hl 1 rfl) ?_
    refine lv_iload_n hx hb d_law_478 rfl (lv_at hl 0 rfl) ?_
    refine lv_iconst (v := 1) hx hb d_law_479 (by decide) ?_
    refine lv_iadd hx hb d_law_480 ?_
    refine m_top (y := (nI ((5 * j) + 1))) (nI_add (5 * j) 1) ?_
    refine va_sld hx hb hXs hbl hbA hw.2.1 (vp_in_nI (by omega) (by omega)) d_law_481 ?_
    refine m_top (y := a1) ((congrArg xs (nI_clamp (by omega))).trans ha1.symm) ?_
    refine lv_aload_n hx hb d_law_482 rfl (lv_at hl 1 rfl) ?_
    refine lv_iload_n hx hb d_law_483 rfl (lv_at hl 0 rfl) ?_
    refine lv_iconst (v := 2) hx hb d_law_484 (by decide) ?_
    refine lv_iadd hx hb d_law_485 ?_
    refine m_top (y := (nI ((5 * j) + 2))) (nI_add (5 * j) 2) ?_
    refine va_sld hx hb hXs hbl hbA hw.2.1 (vp_in_nI (by omega) (by omega)) d_law_486 ?_
    refine m_top (y := a2) ((congrArg xs (nI_clamp (by omega))).trans ha2.symm) ?_
    refine lv_aload_n hx hb d_law_487 rfl (lv_at hl 1 rfl) ?_
    refine lv_iload_n hx hb d_law_488 rfl (lv_at hl 0 rfl) ?_
    refine lv_iconst (v := 3) hx hb d_law_489 (by decide) ?_
    refine lv_iadd hx hb d_law_490 ?_
    refine m_top (y := (nI ((5 * j) + 3))) (nI_add (5 * j) 3) ?_
    refine va_sld hx hb hXs hbl hbA hw.2.1 (vp_in_nI (by omega) (by omega)) d_law_491 ?_
    refine m_top (y := a3) ((congrArg xs (nI_clamp (by omega))).trans ha3.symm) ?_
    refine m_calli hw (m_runV (As := [.int a1, .int a2, .int a3]) (rest := [.int r23]) hc hE hw (c_SM_stream G l H.size g22 hRk (by omega) a1 a2 a3) hmo rfl cw_law_61 se_SM_stream rfl hl.1 rfl (Nat.le_of_ble_eq_true rfl) d_law_492 ⟨rfl, rfl, by decide, by decide⟩ ⟨by dsimp only [room_1]; omega, by dsimp only [room_1]; omega⟩) (fun r30 g29 H locs p28 hw => ?_)
    obtain ⟨hv2, hMR2, hX2⟩ := p28.2 h
    obtain ⟨E2, hRg2, hlo2⟩ := hRg1.mx hMR2 hX2
    refine lv_icmp_eq (tgt := 701) hx hb d_law_495 (by decide) (fun c31 => ?_) (fun c31 => ?_)
    · refine W.widen (k := 60 + 100 * (j + 1)) (n := 9600 + 900 * (j + 1)) (by dsimp only; omega) (by dsimp only; omega) ?_
      refine lv_iinc (v := (nI (5 * (j + 1)))) (lv' := [(3, .int (nI (5 * (j + 1)))), (0, .ref b), (1, .ref root), (2, .ref (ad 9))]) hx hb d_law_701 hl (k := 0) rfl (nI_add (5 * j) 5) (by decide) rfl (fun ls hl => ?_)
      refine lv_goto (tgt := 18) hx hb d_law_704 (by decide) ?_
      exact hnext ad E2 g1 g29 root pn pt nn nt mn mt a1 a2 a3 co tx lx fl ls H locs hRg2 (hSC1.lo hlo2) hMR2 hw (lv_sub hl [0, 1, 2, 3] rfl)
    · refine lv_iconst (v := 0) hx hb d_law_498 (by decide) ?_
      exact absurd (hv1.trans hv2.symm) c31

set_option maxHeartbeats 4000000 in
set_option maxRecDepth 100000 in
theorem law_11 {p : Program} {l : Launch} {e : Env} {s : State} {m : MethodId} {below : List Frame} {meth : Method} {c : Code} {G : GG} {b L : Nat} {xs : Nat → Int32} (hC : LawC p s m meth c G b L xs) {j : Nat} (hj : 5 * j + 5 ≤ L) (hnext : Hd p l e s m below meth c G b (j + 1)) {ad : Nat → Nat} {E : Nat → va_E} {g f : Wd} {root pn : Nat} {pt : Nat → Int32} {nn : Nat} {nt : Nat → Int32} {mn : Nat} {mt : Nat → Int32} {dp rf by_ co tx lx : Int32} {fl : Nat → Option FV} {ls : Array Slot} {H : Heap} {locs : List Loc} (hRg : Rg 25 ad E g f) (hSC : SC G ad E g root pn pt nn nt mn mt dp rf by_ co tx lx fl) (hR : MR G j (ad 9) (fun k => ad (10 + k)) f pn pt nn nt mn mt dp rf by_ co tx lx fl) (hw : ms G.1 (Al s) f s H locs) (hl : lv_has ls 4 [(3, .int (nI (5 * j))), (0, .ref b), (1, .ref root), (2, .ref (ad 9))]) : LG p l e s m below meth c b H locs (60 + 100 * j) (9600 + 900 * j) 553 ls [] := by
  obtain ⟨hc, hr, hlk, hXs, hbl, hE, hL⟩ := hC
  have hx := hc.1
  have hb := hc.2.1
  have hbA : ¬ Al s b := Nat.not_le.mpr hbl
  obtain ⟨a1, ha1⟩ : ∃ z, z = xs (5 * j + 1) := ⟨_, rfl⟩
  refine lv_aload_n hx hb d_law_553 rfl (lv_at hl 2 rfl) ?_
  refine lv_aload_n hx hb d_law_554 rfl (lv_at hl 1 rfl) ?_
  refine lv_iload_n hx hb d_law_555 rfl (lv_at hl 0 rfl) ?_
  refine lv_iconst (v := 1) hx hb d_law_556 (by decide) ?_
  refine lv_iadd hx hb d_law_557 ?_
  refine m_top (y := (nI ((5 * j) + 1))) (nI_add (5 * j) 1) ?_
  refine va_sld hx hb hXs hbl hbA hw.2.1 (vp_in_nI (by omega) (by omega)) d_law_558 ?_
  refine m_top (y := a1) ((congrArg xs (nI_clamp (by omega))).trans ha1.symm) ?_
  refine m_calli hw (m_runV (As := [.int a1]) (rest := []) hc hE hw (c_SF_trace G l H.size f (N := 25) (by decide) hRg hSC a1) (hRg.2.2.1 _ _ hSC.1) rfl cw_law_67 se_SF_trace rfl hl.1 rfl (Nat.le_of_ble_eq_true rfl) d_law_559 ⟨rfl, rfl, by decide, by decide⟩ ⟨by dsimp only [room_1]; omega, by dsimp only [room_1]; omega⟩) (fun r23 g22 H locs p21 hw => ?_)
  have hp1 := p21
  obtain ⟨hv1, E1, g1, hRg1, hgl1, hk1, hSC1⟩ := hp1
  have hRk := hR.keep hRg hRg1 hk1
  obtain ⟨fsM, hmo⟩ := hRk.mo
  refine lv_aload_n hx hb d_law_562 rfl (lv_at hl 3 rfl) ?_
  refine lv_aload_n hx hb d_law_563 rfl (lv_at hl 1 rfl) ?_
  refine lv_iload_n hx hb d_law_564 rfl (lv_at hl 0 rfl) ?_
  refine lv_iconst (v := 1) hx hb d_law_565 (by decide) ?_
  refine lv_iadd hx hb d_law_566 ?_
  refine m_top (y := (nI ((5 * j) + 1))) (nI_add (5 * j) 1) ?_
  refine va_sld hx hb hXs hbl hbA hw.2.1 (vp_in_nI (by omega) (by omega)) d_law_567 ?_
  refine m_top (y := a1) ((congrArg xs (nI_clamp (by omega))).trans ha1.symm) ?_
  refine m_calli hw (m_runV (As := [.int a1]) (rest := [.int r23]) hc hE hw (c_SM_trace G l H.size g22 hRk (by omega) a1) hmo rfl cw_law_70 se_SM_trace rfl hl.1 rfl (Nat.le_of_ble_eq_true rfl) d_law_568 ⟨rfl, rfl, by decide, by decide⟩ ⟨by dsimp only [room_1]; omega, by dsimp only [room_1]; omega⟩) (fun r26 g25 H locs p24 hw => ?_)
  obtain ⟨hv2, hMR2, hX2⟩ := p24
  obtain ⟨E2, hRg2, hlo2⟩ := hRg1.mx hMR2 hX2
  refine lv_icmp_eq (tgt := 701) hx hb d_law_571 (by decide) (fun c27 => ?_) (fun c27 => ?_)
  · refine W.widen (k := 60 + 100 * (j + 1)) (n := 9600 + 900 * (j + 1)) (by dsimp only; omega) (by dsimp only; omega) ?_
    refine lv_iinc (v := (nI (5 * (j + 1)))) (lv' := [(3, .int (nI (5 * (j + 1)))), (0, .ref b), (1, .ref root), (2, .ref (ad 9))]) hx hb d_law_701 hl (k := 0) rfl (nI_add (5 * j) 5) (by decide) rfl (fun ls hl => ?_)
    refine lv_goto (tgt := 18) hx hb d_law_704 (by decide) ?_
    exact hnext ad E2 g1 g25 root pn pt nn nt mn mt dp rf by_ co tx lx fl ls H locs hRg2 (hSC1.lo hlo2) hMR2 hw (lv_sub hl [0, 1, 2, 3] rfl)
  · refine lv_iconst (v := 0) hx hb d_law_574 (by decide) ?_
    exact absurd (hv1.trans hv2.symm) c27

set_option maxHeartbeats 4000000 in
set_option maxRecDepth 100000 in
theorem law_14 {p : Program} {l : Launch} {e : Env} {s : State} {m : MethodId} {below : List Frame} {meth : Method} {c : Code} {G : GG} {b L : Nat} {xs : Nat → Int32} (hC : LawC p s m meth c G b L xs) {j : Nat} (hj : 5 * j + 5 ≤ L) (hnext : Hd p l e s m below meth c G b (j + 1)) {ad : Nat → Nat} {E : Nat → va_E} {g f : Wd} {root pn : Nat} {pt : Nat → Int32} {nn : Nat} {nt : Nat → Int32} {mn : Nat} {mt : Nat → Int32} {dp rf by_ co tx lx : Int32} {fl : Nat → Option FV} {ls : Array Slot} {H : Heap} {locs : List Loc} (hRg : Rg 25 ad E g f) (hSC : SC G ad E g root pn pt nn nt mn mt dp rf by_ co tx lx fl) (hR : MR G j (ad 9) (fun k => ad (10 + k)) f pn pt nn nt mn mt dp rf by_ co tx lx fl) (hw : ms G.1 (Al s) f s H locs) (hl : lv_has ls 4 [(3, .int (nI (5 * j))), (0, .ref b), (1, .ref root), (2, .ref (ad 9))]) : LG p l e s m below meth c b H locs (60 + 100 * j) (9600 + 900 * j) 668 ls [] := by
  obtain ⟨hc, hr, hlk, hXs, hbl, hE, hL⟩ := hC
  have hx := hc.1
  have hb := hc.2.1
  have hbA : ¬ Al s b := Nat.not_le.mpr hbl
  obtain ⟨a1, ha1⟩ : ∃ z, z = xs (5 * j + 1) := ⟨_, rfl⟩
  obtain ⟨a2, ha2⟩ : ∃ z, z = xs (5 * j + 2) := ⟨_, rfl⟩
  refine lv_aload_n hx hb d_law_668 rfl (lv_at hl 2 rfl) ?_
  refine lv_aload_n hx hb d_law_669 rfl (lv_at hl 1 rfl) ?_
  refine lv_iload_n hx hb d_law_670 rfl (lv_at hl 0 rfl) ?_
  refine lv_iconst (v := 1) hx hb d_law_671 (by decide) ?_
  refine lv_iadd hx hb d_law_672 ?_
  refine m_top (y := (nI ((5 * j) + 1))) (nI_add (5 * j) 1) ?_
  refine va_sld hx hb hXs hbl hbA hw.2.1 (vp_in_nI (by omega) (by omega)) d_law_673 ?_
  refine m_top (y := a1) ((congrArg xs (nI_clamp (by omega))).trans ha1.symm) ?_
  refine lv_aload_n hx hb d_law_674 rfl (lv_at hl 1 rfl) ?_
  refine lv_iload_n hx hb d_law_675 rfl (lv_at hl 0 rfl) ?_
  refine lv_iconst (v := 2) hx hb d_law_676 (by decide) ?_
  refine lv_iadd hx hb d_law_677 ?_
  refine m_top (y := (nI ((5 * j) + 2))) (nI_add (5 * j) 2) ?_
  refine va_sld hx hb hXs hbl hbA hw.2.1 (vp_in_nI (by omega) (by omega)) d_law_678 ?_
  refine m_top (y := a2) ((congrArg xs (nI_clamp (by omega))).trans ha2.symm) ?_
  refine m_calli hw (m_runV (As := [.int a1, .int a2]) (rest := []) hc hE hw (c_SF_sign G l H.size f (N := 25) (by decide) hRg hSC a1 a2) (hRg.2.2.1 _ _ hSC.1) rfl cw_law_79 se_SF_sign rfl hl.1 rfl (Nat.le_of_ble_eq_true rfl) d_law_679 ⟨rfl, rfl, by decide, by decide⟩ ⟨by dsimp only [room_1]; omega, by dsimp only [room_1]; omega⟩) (fun r23 g22 H locs p21 hw => ?_)
  have hp1 := p21
  obtain ⟨hv1, E1, g1, hRg1, hgl1, hk1, hSC1⟩ := hp1
  have hRk := hR.keep hRg hRg1 hk1
  obtain ⟨fsM, hmo⟩ := hRk.mo
  refine lv_aload_n hx hb d_law_682 rfl (lv_at hl 3 rfl) ?_
  refine lv_aload_n hx hb d_law_683 rfl (lv_at hl 1 rfl) ?_
  refine lv_iload_n hx hb d_law_684 rfl (lv_at hl 0 rfl) ?_
  refine lv_iconst (v := 1) hx hb d_law_685 (by decide) ?_
  refine lv_iadd hx hb d_law_686 ?_
  refine m_top (y := (nI ((5 * j) + 1))) (nI_add (5 * j) 1) ?_
  refine va_sld hx hb hXs hbl hbA hw.2.1 (vp_in_nI (by omega) (by omega)) d_law_687 ?_
  refine m_top (y := a1) ((congrArg xs (nI_clamp (by omega))).trans ha1.symm) ?_
  refine lv_aload_n hx hb d_law_688 rfl (lv_at hl 1 rfl) ?_
  refine lv_iload_n hx hb d_law_689 rfl (lv_at hl 0 rfl) ?_
  refine lv_iconst (v := 2) hx hb d_law_690 (by decide) ?_
  refine lv_iadd hx hb d_law_691 ?_
  refine m_top (y := (nI ((5 * j) + 2))) (nI_add (5 * j) 2) ?_
  refine va_sld hx hb hXs hbl hbA hw.2.1 (vp_in_nI (by omega) (by omega)) d_law_692 ?_
  refine m_top (y := a2) ((congrArg xs (nI_clamp (by omega))).trans ha2.symm) ?_
  refine m_calli hw (m_runV (As := [.int a1, .int a2]) (rest := [.int r23]) hc hE hw (c_SM_sign G l H.size g22 hRk (by omega) a1 a2) hmo rfl cw_law_82 se_SM_sign rfl hl.1 rfl (Nat.le_of_ble_eq_true rfl) d_law_693 ⟨rfl, rfl, by decide, by decide⟩ ⟨by dsimp only [room_1]; omega, by dsimp only [room_1]; omega⟩) (fun r26 g25 H locs p24 hw => ?_)
  obtain ⟨hv2, hMR2, hX2⟩ := p24
  obtain ⟨E2, hRg2, hlo2⟩ := hRg1.mx hMR2 hX2
  refine lv_icmp_eq (tgt := 701) hx hb d_law_696 (by decide) (fun c27 => ?_) (fun c27 => ?_)
  · refine W.widen (k := 60 + 100 * (j + 1)) (n := 9600 + 900 * (j + 1)) (by dsimp only; omega) (by dsimp only; omega) ?_
    refine lv_iinc (v := (nI (5 * (j + 1)))) (lv' := [(3, .int (nI (5 * (j + 1)))), (0, .ref b), (1, .ref root), (2, .ref (ad 9))]) hx hb d_law_701 hl (k := 0) rfl (nI_add (5 * j) 5) (by decide) rfl (fun ls hl => ?_)
    refine lv_goto (tgt := 18) hx hb d_law_704 (by decide) ?_
    exact hnext ad E2 g1 g25 root pn pt nn nt mn mt dp rf by_ co tx lx fl ls H locs hRg2 (hSC1.lo hlo2) hMR2 hw (lv_sub hl [0, 1, 2, 3] rfl)
  · refine lv_iconst (v := 0) hx hb d_law_699 (by decide) ?_
    exact absurd (hv1.trans hv2.symm) c27

set_option maxHeartbeats 4000000 in
set_option maxRecDepth 100000 in
theorem law_12 {p : Program} {l : Launch} {e : Env} {s : State} {m : MethodId} {below : List Frame} {meth : Method} {c : Code} {G : GG} {b L : Nat} {xs : Nat → Int32} (hC : LawC p s m meth c G b L xs) {j : Nat} (hj : 5 * j + 5 ≤ L) (hnext : Hd p l e s m below meth c G b (j + 1)) {ad : Nat → Nat} {E : Nat → va_E} {g f : Wd} {root pn : Nat} {pt : Nat → Int32} {nn : Nat} {nt : Nat → Int32} {mn : Nat} {mt : Nat → Int32} {dp rf by_ co tx lx : Int32} {fl : Nat → Option FV} {ls : Array Slot} {H : Heap} {locs : List Loc} (hRg : Rg 25 ad E g f) (hSC : SC G ad E g root pn pt nn nt mn mt dp rf by_ co tx lx fl) (hR : MR G j (ad 9) (fun k => ad (10 + k)) f pn pt nn nt mn mt dp rf by_ co tx lx fl) (hw : ms G.1 (Al s) f s H locs) (hl : lv_has ls 4 [(3, .int (nI (5 * j))), (0, .ref b), (1, .ref root), (2, .ref (ad 9))]) : LG p l e s m below meth c b H locs (60 + 100 * j) (9600 + 900 * j) 576 ls [] := by
  obtain ⟨hc, hr, hlk, hXs, hbl, hE, hL⟩ := hC
  have hx := hc.1
  have hb := hc.2.1
  have hbA : ¬ Al s b := Nat.not_le.mpr hbl
  obtain ⟨a1, ha1⟩ : ∃ z, z = xs (5 * j + 1) := ⟨_, rfl⟩
  obtain ⟨a2, ha2⟩ : ∃ z, z = xs (5 * j + 2) := ⟨_, rfl⟩
  refine lv_aload_n hx hb d_law_576 rfl (lv_at hl 2 rfl) ?_
  refine lv_aload_n hx hb d_law_577 rfl (lv_at hl 1 rfl) ?_
  refine lv_iload_n hx hb d_law_578 rfl (lv_at hl 0 rfl) ?_
  refine lv_iconst (v := 1) hx hb d_law_579 (by decide) ?_
  refine lv_iadd hx hb d_law_580 ?_
  refine m_top (y := (nI ((5 * j) + 1))) (nI_add (5 * j) 1) ?_
  refine va_sld hx hb hXs hbl hbA hw.2.1 (vp_in_nI (by omega) (by omega)) d_law_581 ?_
  refine m_top (y := a1) ((congrArg xs (nI_clamp (by omega))).trans ha1.symm) ?_
  refine lv_aload_n hx hb d_law_582 rfl (lv_at hl 1 rfl) ?_
  refine lv_iload_n hx hb d_law_583 rfl (lv_at hl 0 rfl) ?_
  refine lv_iconst (v := 2) hx hb d_law_584 (by decide) ?_
  refine lv_iadd hx hb d_law_585 ?_
  refine m_top (y := (nI ((5 * j) + 2))) (nI_add (5 * j) 2) ?_
  refine va_sld hx hb hXs hbl hbA hw.2.1 (vp_in_nI (by omega) (by omega)) d_law_586 ?_
  refine m_top (y := a2) ((congrArg xs (nI_clamp (by omega))).trans ha2.symm) ?_
  refine m_calli hw (m_runV (As := [.int a1, .int a2]) (rest := []) hc hE hw (c_SF_filter G l H.size f (N := 25) (by decide) hRg hSC a1 a2) (hRg.2.2.1 _ _ hSC.1) rfl cw_law_71 se_SF_filter rfl hl.1 rfl (Nat.le_of_ble_eq_true rfl) d_law_587 ⟨rfl, rfl, by decide, by decide⟩ ⟨by dsimp only [room_1]; omega, by dsimp only [room_1]; omega⟩) (fun r23 g22 H locs p21 hw => ?_)
  have hp1 := p21
  obtain ⟨hv1, E1, g1, hRg1, hgl1, hk1, hSC1⟩ := (⟨rfl, hp1.2.2⟩ : r23 = r23 ∧ _)
  have hRk := hR.keep hRg hRg1 hk1
  obtain ⟨fsM, hmo⟩ := hRk.mo
  refine lv_aload_n hx hb d_law_590 rfl (lv_at hl 3 rfl) ?_
  refine lv_aload_n hx hb d_law_591 rfl (lv_at hl 1 rfl) ?_
  refine lv_iload_n hx hb d_law_592 rfl (lv_at hl 0 rfl) ?_
  refine lv_iconst (v := 1) hx hb d_law_593 (by decide) ?_
  refine lv_iadd hx hb d_law_594 ?_
  refine m_top (y := (nI ((5 * j) + 1))) (nI_add (5 * j) 1) ?_
  refine va_sld hx hb hXs hbl hbA hw.2.1 (vp_in_nI (by omega) (by omega)) d_law_595 ?_
  refine m_top (y := a1) ((congrArg xs (nI_clamp (by omega))).trans ha1.symm) ?_
  refine lv_aload_n hx hb d_law_596 rfl (lv_at hl 1 rfl) ?_
  refine lv_iload_n hx hb d_law_597 rfl (lv_at hl 0 rfl) ?_
  refine lv_iconst (v := 2) hx hb d_law_598 (by decide) ?_
  refine lv_iadd hx hb d_law_599 ?_
  refine m_top (y := (nI ((5 * j) + 2))) (nI_add (5 * j) 2) ?_
  refine va_sld hx hb hXs hbl hbA hw.2.1 (vp_in_nI (by omega) (by omega)) d_law_600 ?_
  refine m_top (y := a2) ((congrArg xs (nI_clamp (by omega))).trans ha2.symm) ?_
  refine m_calli hw (m_runV (As := [.int a1, .int a2]) (rest := [.int r23]) hc hE hw (c_SM_filter G l H.size g22 hRk (by omega) a1 a2) hmo rfl cw_law_74 se_SM_filter rfl hl.1 rfl (Nat.le_of_ble_eq_true rfl) d_law_601 ⟨rfl, rfl, by decide, by decide⟩ ⟨by dsimp only [room_1]; omega, by dsimp only [room_1]; omega⟩) (fun r26 g25 H locs p24 hw => ?_)
  obtain ⟨hv2, hMR2, hX2⟩ := (⟨eq_flt hp1.1 hp1.2.1 p24.1 p24.2.1, p24.2.2⟩ : _ = r23 ∧ _)
  obtain ⟨E2, hRg2, hlo2⟩ := hRg1.mx hMR2 hX2
  refine lv_icmp_eq (tgt := 701) hx hb d_law_604 (by decide) (fun c27 => ?_) (fun c27 => ?_)
  · refine W.widen (k := 60 + 100 * (j + 1)) (n := 9600 + 900 * (j + 1)) (by dsimp only; omega) (by dsimp only; omega) ?_
    refine lv_iinc (v := (nI (5 * (j + 1)))) (lv' := [(3, .int (nI (5 * (j + 1)))), (0, .ref b), (1, .ref root), (2, .ref (ad 9))]) hx hb d_law_701 hl (k := 0) rfl (nI_add (5 * j) 5) (by decide) rfl (fun ls hl => ?_)
    refine lv_goto (tgt := 18) hx hb d_law_704 (by decide) ?_
    exact hnext ad E2 g1 g25 root pn pt nn nt mn mt dp rf by_ co tx lx fl ls H locs hRg2 (hSC1.lo hlo2) hMR2 hw (lv_sub hl [0, 1, 2, 3] rfl)
  · refine lv_iconst (v := 0) hx hb d_law_607 (by decide) ?_
    exact absurd (hv1.trans hv2.symm) c27

set_option maxHeartbeats 4000000 in
set_option maxRecDepth 100000 in
theorem law_10 {p : Program} {l : Launch} {e : Env} {s : State} {m : MethodId} {below : List Frame} {meth : Method} {c : Code} {G : GG} {b L : Nat} {xs : Nat → Int32} (hC : LawC p s m meth c G b L xs) {j : Nat} (hj : 5 * j + 5 ≤ L) (hnext : Hd p l e s m below meth c G b (j + 1)) {ad : Nat → Nat} {E : Nat → va_E} {g f : Wd} {root pn : Nat} {pt : Nat → Int32} {nn : Nat} {nt : Nat → Int32} {mn : Nat} {mt : Nat → Int32} {dp rf by_ co tx lx : Int32} {fl : Nat → Option FV} {ls : Array Slot} {H : Heap} {locs : List Loc} (hRg : Rg 25 ad E g f) (hSC : SC G ad E g root pn pt nn nt mn mt dp rf by_ co tx lx fl) (hR : MR G j (ad 9) (fun k => ad (10 + k)) f pn pt nn nt mn mt dp rf by_ co tx lx fl) (hw : ms G.1 (Al s) f s H locs) (hl : lv_has ls 4 [(3, .int (nI (5 * j))), (0, .ref b), (1, .ref root), (2, .ref (ad 9))]) : LG p l e s m below meth c b H locs (60 + 100 * j) (9600 + 900 * j) 500 ls [] := by
  obtain ⟨hc, hr, hlk, hXs, hbl, hE, hL⟩ := hC
  have hx := hc.1
  have hb := hc.2.1
  have hbA : ¬ Al s b := Nat.not_le.mpr hbl
  obtain ⟨a1, ha1⟩ : ∃ z, z = xs (5 * j + 1) := ⟨_, rfl⟩
  obtain ⟨a2, ha2⟩ : ∃ z, z = xs (5 * j + 2) := ⟨_, rfl⟩
  obtain ⟨a3, ha3⟩ : ∃ z, z = xs (5 * j + 3) := ⟨_, rfl⟩
  obtain ⟨a4, ha4⟩ : ∃ z, z = xs (5 * j + 4) := ⟨_, rfl⟩
  refine lv_aload_n hx hb d_law_500 rfl (lv_at hl 2 rfl) ?_
  refine lv_aload_n hx hb d_law_501 rfl (lv_at hl 1 rfl) ?_
  refine lv_iload_n hx hb d_law_502 rfl (lv_at hl 0 rfl) ?_
  refine lv_iconst (v := 1) hx hb d_law_503 (by decide) ?_
  refine lv_iadd hx hb d_law_504 ?_
  refine m_top (y := (nI ((5 * j) + 1))) (nI_add (5 * j) 1) ?_
  refine va_sld hx hb hXs hbl hbA hw.2.1 (vp_in_nI (by omega) (by omega)) d_law_505 ?_
  refine m_top (y := a1) ((congrArg xs (nI_clamp (by omega))).trans ha1.symm) ?_
  refine lv_aload_n hx hb d_law_506 rfl (lv_at hl 1 rfl) ?_
  refine lv_iload_n hx hb d_law_507 rfl (lv_at hl 0 rfl) ?_
  refine lv_iconst (v := 2) hx hb d_law_508 (by decide) ?_
  refine lv_iadd hx hb d_law_509 ?_
  refine m_top (y := (nI ((5 * j) + 2))) (nI_add (5 * j) 2) ?_
  refine va_sld hx hb hXs hbl hbA hw.2.1 (vp_in_nI (by omega) (by omega)) d_law_510 ?_
  refine m_top (y := a2) ((congrArg xs (nI_clamp (by omega))).trans ha2.symm) ?_
  refine lv_aload_n hx hb d_law_511 rfl (lv_at hl 1 rfl) ?_
  refine lv_iload_n hx hb d_law_512 rfl (lv_at hl 0 rfl) ?_
  refine lv_iconst (v := 3) hx hb d_law_513 (by decide) ?_
  refine lv_iadd hx hb d_law_514 ?_
  refine m_top (y := (nI ((5 * j) + 3))) (nI_add (5 * j) 3) ?_
  refine va_sld hx hb hXs hbl hbA hw.2.1 (vp_in_nI (by omega) (by omega)) d_law_515 ?_
  refine m_top (y := a3) ((congrArg xs (nI_clamp (by omega))).trans ha3.symm) ?_
  refine lv_aload_n hx hb d_law_516 rfl (lv_at hl 1 rfl) ?_
  refine lv_iload_n hx hb d_law_517 rfl (lv_at hl 0 rfl) ?_
  refine lv_iconst (v := 4) hx hb d_law_518 (by decide) ?_
  refine lv_iadd hx hb d_law_519 ?_
  refine m_top (y := (nI ((5 * j) + 4))) (nI_add (5 * j) 4) ?_
  refine va_sld hx hb hXs hbl hbA hw.2.1 (vp_in_nI (by omega) (by omega)) d_law_520 ?_
  refine m_top (y := a4) ((congrArg xs (nI_clamp (by omega))).trans ha4.symm) ?_
  refine m_calli hw (m_runV (As := [.int a1, .int a2, .int a3, .int a4]) (rest := []) hc hE hw (c_SF_ask G l H.size f (N := 25) (by decide) hRg hSC a1 a2 a3 a4) (hRg.2.2.1 _ _ hSC.1) rfl cw_law_62 se_SF_ask rfl hl.1 rfl (Nat.le_of_ble_eq_true rfl) d_law_521 ⟨rfl, rfl, by decide, by decide⟩ ⟨by dsimp only [room_1]; omega, by dsimp only [room_1]; omega⟩) (fun r23 g22 H locs p21 hw => ?_)
  have hp1 := p21
  rcases cs_ask fl a1 a2 a3 with h | ⟨k, vv, q1, q2, q3, q4⟩
  · obtain ⟨hv1, E1, g1, hRg1, hgl1, hk1, hSC1⟩ := hp1.1 h
    have hRk := hR.keep hRg hRg1 hk1
    obtain ⟨fsM, hmo⟩ := hRk.mo
    refine lv_aload_n hx hb d_law_524 rfl (lv_at hl 3 rfl) ?_
    refine lv_aload_n hx hb d_law_525 rfl (lv_at hl 1 rfl) ?_
    refine lv_iload_n hx hb d_law_526 rfl (lv_at hl 0 rfl) ?_
    refine lv_iconst (v := 1) hx hb d_law_527 (by decide) ?_
    refine lv_iadd hx hb d_law_528 ?_
    refine m_top (y := (nI ((5 * j) + 1))) (nI_add (5 * j) 1) ?_
    refine va_sld hx hb hXs hbl hbA hw.2.1 (vp_in_nI (by omega) (by omega)) d_law_529 ?_
    refine m_top (y := a1) ((congrArg xs (nI_clamp (by omega))).trans ha1.symm) ?_
    refine lv_aload_n hx hb d_law_530 rfl (lv_at hl 1 rfl) ?_
    refine lv_iload_n hx hb d_law_531 rfl (lv_at hl 0 rfl) ?_
    refine lv_iconst (v := 2) hx hb d_law_532 (by decide) ?_
    refine lv_iadd hx hb d_law_533 ?_
    refine m_top (y := (nI ((5 * j) + 2))) (nI_add (5 * j) 2) ?_
    refine va_sld hx hb hXs hbl hbA hw.2.1 (vp_in_nI (by omega) (by omega)) d_law_534 ?_
    refine m_top (y := a2) ((congrArg xs (nI_clamp (by omega))).trans ha2.symm) ?_
    refine lv_aload_n hx hb d_law_535 rfl (lv_at hl 1 rfl) ?_
    refine lv_iload_n hx hb d_law_536 rfl (lv_at hl 0 rfl) ?_
    refine lv_iconst (v := 3) hx hb d_law_537 (by decide) ?_
    refine lv_iadd hx hb d_law_538 ?_
    refine m_top (y := (nI ((5 * j) + 3))) (nI_add (5 * j) 3) ?_
    refine va_sld hx hb hXs hbl hbA hw.2.1 (vp_in_nI (by omega) (by omega)) d_law_539 ?_
    refine m_top (y := a3) ((congrArg xs (nI_clamp (by omega))).trans ha3.symm) ?_
    refine lv_aload_n hx hb d_law_540 rfl (lv_at hl 1 rfl) ?_
    refine lv_iload_n hx hb d_law_541 rfl (lv_at hl 0 rfl) ?_
    refine lv_iconst (v := 4) hx hb d_law_542 (by decide) ?_
    refine lv_iadd hx hb d_law_543 ?_
    refine m_top (y := (nI ((5 * j) + 4))) (nI_add (5 * j) 4) ?_
    refine va_sld hx hb hXs hbl hbA hw.2.1 (vp_in_nI (by omega) (by omega)) d_law_544 ?_
    refine m_top (y := a4) ((congrArg xs (nI_clamp (by omega))).trans ha4.symm) ?_
    refine m_calli hw (m_runV (As := [.int a1, .int a2, .int a3, .int a4]) (rest := [.int r23]) hc hE hw (c_SM_ask G l H.size g22 hRk (by omega) a1 a2 a3 a4) hmo rfl cw_law_66 se_SM_ask rfl hl.1 rfl (Nat.le_of_ble_eq_true rfl) d_law_545 ⟨rfl, rfl, by decide, by decide⟩ ⟨by dsimp only [room_1]; omega, by dsimp only [room_1]; omega⟩) (fun r26 g25 H locs p24 hw => ?_)
    obtain ⟨hv2, hMR2, hX2⟩ := p24.1 h
    obtain ⟨E2, hRg2, hlo2⟩ := hRg1.mx hMR2 hX2
    refine lv_icmp_eq (tgt := 701) hx hb d_law_548 (by decide) (fun c27 => ?_) (fun c27 => ?_)
    · refine W.widen (k := 60 + 100 * (j + 1)) (n := 9600 + 900 * (j + 1)) (by dsimp only; omega) (by dsimp only; omega) ?_
      refine lv_iinc (v := (nI (5 * (j + 1)))) (lv' := [(3, .int (nI (5 * (j + 1)))), (0, .ref b), (1, .ref root), (2, .ref (ad 9))]) hx hb d_law_701 hl (k := 0) rfl (nI_add (5 * j) 5) (by decide) rfl (fun ls hl => ?_)
      refine lv_goto (tgt := 18) hx hb d_law_704 (by decide) ?_
      exact hnext ad E2 g1 g25 root pn pt nn nt mn mt dp rf by_ co tx lx fl ls H locs hRg2 (hSC1.lo hlo2) hMR2 hw (lv_sub hl [0, 1, 2, 3] rfl)
    · refine lv_iconst (v := 0) hx hb d_law_551 (by decide) ?_
      exact absurd (hv1.trans hv2.symm) c27
  · obtain ⟨hv1, E1, g1, hRg1, hgl1, hk1, hSC1⟩ := hp1.2 k vv q1 q2 q3 q4
    have hRk := hR.keep hRg hRg1 hk1
    obtain ⟨fsM, hmo⟩ := hRk.mo
    refine lv_aload_n hx hb d_law_524 rfl (lv_at hl 3 rfl) ?_
    refine lv_aload_n hx hb d_law_525 rfl (lv_at hl 1 rfl) ?_
    refine lv_iload_n hx hb d_law_526 rfl (lv_at hl 0 rfl) ?_
    refine lv_iconst (v := 1) hx hb d_law_527 (by decide) ?_
    refine lv_iadd hx hb d_law_528 ?_
    refine m_top (y := (nI ((5 * j) + 1))) (nI_add (5 * j) 1) ?_
    refine va_sld hx hb hXs hbl hbA hw.2.1 (vp_in_nI (by omega) (by omega)) d_law_529 ?_
    refine m_top (y := a1) ((congrArg xs (nI_clamp (by omega))).trans ha1.symm) ?_
    refine lv_aload_n hx hb d_law_530 rfl (lv_at hl 1 rfl) ?_
    refine lv_iload_n hx hb d_law_531 rfl (lv_at hl 0 rfl) ?_
    refine lv_iconst (v := 2) hx hb d_law_532 (by decide) ?_
    refine lv_iadd hx hb d_law_533 ?_
    refine m_top (y := (nI ((5 * j) + 2))) (nI_add (5 * j) 2) ?_
    refine va_sld hx hb hXs hbl hbA hw.2.1 (vp_in_nI (by omega) (by omega)) d_law_534 ?_
    refine m_top (y := a2) ((congrArg xs (nI_clamp (by omega))).trans ha2.symm) ?_
    refine lv_aload_n hx hb d_law_535 rfl (lv_at hl 1 rfl) ?_
    refine lv_iload_n hx hb d_law_536 rfl (lv_at hl 0 rfl) ?_
    refine lv_iconst (v := 3) hx hb d_law_537 (by decide) ?_
    refine lv_iadd hx hb d_law_538 ?_
    refine m_top (y := (nI ((5 * j) + 3))) (nI_add (5 * j) 3) ?_
    refine va_sld hx hb hXs hbl hbA hw.2.1 (vp_in_nI (by omega) (by omega)) d_law_539 ?_
    refine m_top (y := a3) ((congrArg xs (nI_clamp (by omega))).trans ha3.symm) ?_
    refine lv_aload_n hx hb d_law_540 rfl (lv_at hl 1 rfl) ?_
    refine lv_iload_n hx hb d_law_541 rfl (lv_at hl 0 rfl) ?_
    refine lv_iconst (v := 4) hx hb d_law_542 (by decide) ?_
    refine lv_iadd hx hb d_law_543 ?_
    refine m_top (y := (nI ((5 * j) + 4))) (nI_add (5 * j) 4) ?_
    refine va_sld hx hb hXs hbl hbA hw.2.1 (vp_in_nI (by omega) (by omega)) d_law_544 ?_
    refine m_top (y := a4) ((congrArg xs (nI_clamp (by omega))).trans ha4.symm) ?_
    refine m_calli hw (m_runV (As := [.int a1, .int a2, .int a3, .int a4]) (rest := [.int r23]) hc hE hw (c_SM_ask G l H.size g22 hRk (by omega) a1 a2 a3 a4) hmo rfl cw_law_66 se_SM_ask rfl hl.1 rfl (Nat.le_of_ble_eq_true rfl) d_law_545 ⟨rfl, rfl, by decide, by decide⟩ ⟨by dsimp only [room_1]; omega, by dsimp only [room_1]; omega⟩) (fun r30 g29 H locs p28 hw => ?_)
    obtain ⟨hv2, hMR2, hX2⟩ := p28.2 k vv q1 q2 q3 q4
    obtain ⟨E2, hRg2, hlo2⟩ := hRg1.mx hMR2 hX2
    refine lv_icmp_eq (tgt := 701) hx hb d_law_548 (by decide) (fun c31 => ?_) (fun c31 => ?_)
    · refine W.widen (k := 60 + 100 * (j + 1)) (n := 9600 + 900 * (j + 1)) (by dsimp only; omega) (by dsimp only; omega) ?_
      refine lv_iinc (v := (nI (5 * (j + 1)))) (lv' := [(3, .int (nI (5 * (j + 1)))), (0, .ref b), (1, .ref root), (2, .ref (ad 9))]) hx hb d_law_701 hl (k := 0) rfl (nI_add (5 * j) 5) (by decide) rfl (fun ls hl => ?_)
      refine lv_goto (tgt := 18) hx hb d_law_704 (by decide) ?_
      exact hnext ad E2 g1 g29 root pn pt nn nt mn mt dp rf by_ ((vv.2.2.2.1 (nn, nt, mn, mt, dp, rf, by_, a2, a3, a4) (0, 0, -2)).2.1) ((vv.2.2.2.1 (nn, nt, mn, mt, dp, rf, by_, a2, a3, a4) (0, 0, -2)).2.2.1) ((vv.2.2.2.1 (nn, nt, mn, mt, dp, rf, by_, a2, a3, a4) (0, 0, -2)).2.2.2) fl ls H locs hRg2 (hSC1.lo hlo2) hMR2 hw (lv_sub hl [0, 1, 2, 3] rfl)
    · refine lv_iconst (v := 0) hx hb d_law_551 (by decide) ?_
      exact absurd (hv1.trans hv2.symm) c31
