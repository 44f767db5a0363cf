/-! links of the pools, as the walks ask for them -/
theorem cw_law_25 : cwk "StreamFiltersLaw" 25 y_SF_read b_SF_read 4 (some .int) 2 := ⟨Or.inl (tb 199 (by decide +kernel) rfl), (tb 202 (by decide +kernel) rfl), (tb 1 (by decide +kernel) rfl), by decide, by decide, by decide +kernel⟩
theorem cw_law_29 : cwk "StreamFiltersLaw" 29 y_SM_read b_SM_read 3 (some .int) 2 := ⟨Or.inl (tb 749 (by decide +kernel) rfl), (tb 752 (by decide +kernel) rfl), (tb 5 (by decide +kernel) rfl), by decide, by decide, by decide +kernel⟩
theorem cw_law_35 : cwk "StreamFiltersLaw" 35 y_SF_join b_SF_join 6 (some .int) 3 := ⟨Or.inl (tb 404 (by decide +kernel) rfl), (tb 407 (by decide +kernel) rfl), (tb 1 (by decide +kernel) rfl), by decide, by decide, by decide +kernel⟩
theorem cw_law_39 : cwk "StreamFiltersLaw" 39 y_SM_join b_SM_join 4 (some .int) 3 := ⟨Or.inl (tb 789 (by decide +kernel) rfl), (tb 792 (by decide +kernel) rfl), (tb 5 (by decide +kernel) rfl), by decide, by decide, by decide +kernel⟩
theorem cw_law_40 : cwk "StreamFiltersLaw" 40 y_SF_strict b_SF_strict 5 (some .int) 3 := ⟨Or.inl (tb 430 (by decide +kernel) rfl), (tb 433 (by decide +kernel) rfl), (tb 1 (by decide +kernel) rfl), by decide, by decide, by decide +kernel⟩
theorem cw_law_44 : cwk "StreamFiltersLaw" 44 y_SM_strict b_SM_strict 4 (some .int) 3 := ⟨Or.inl (tb 797 (by decide +kernel) rfl), (tb 800 (by decide +kernel) rfl), (tb 5 (by decide +kernel) rfl), by decide, by decide, by decide +kernel⟩
theorem cw_law_45 : cwk "StreamFiltersLaw" 45 y_SF_otherwise b_SF_otherwise 5 (some .int) 3 := ⟨Or.inl (tb 450 (by decide +kernel) rfl), (tb 453 (by decide +kernel) rfl), (tb 1 (by decide +kernel) rfl), by decide, by decide, by decide +kernel⟩
theorem cw_law_48 : cwk "StreamFiltersLaw" 48 y_SM_otherwise b_SM_otherwise 4 (some .int) 3 := ⟨Or.inl (tb 801 (by decide +kernel) rfl), (tb 804 (by decide +kernel) rfl), (tb 5 (by decide +kernel) rfl), by decide, by decide, by decide +kernel⟩
theorem cw_law_49 : cwk "StreamFiltersLaw" 49 y_SF_only b_SF_only 4 (some .int) 2 := ⟨Or.inl (tb 470 (by decide +kernel) rfl), (tb 473 (by decide +kernel) rfl), (tb 1 (by decide +kernel) rfl), by decide, by decide, by decide +kernel⟩
theorem cw_law_53 : cwk "StreamFiltersLaw" 53 y_SM_only b_SM_only 3 (some .int) 2 := ⟨Or.inl (tb 805 (by decide +kernel) rfl), (tb 808 (by decide +kernel) rfl), (tb 5 (by decide +kernel) rfl), by decide, by decide, by decide +kernel⟩
theorem cw_law_75 : cwk "StreamFiltersLaw" 75 y_SF_pattern b_SF_pattern 6 (some .int) 3 := ⟨Or.inl (tb 593 (by decide +kernel) rfl), (tb 596 (by decide +kernel) rfl), (tb 1 (by decide +kernel) rfl), by decide, by decide, by decide +kernel⟩
theorem cw_law_78 : cwk "StreamFiltersLaw" 78 y_SM_pattern b_SM_pattern 8 (some .int) 3 := ⟨Or.inl (tb 857 (by decide +kernel) rfl), (tb 860 (by decide +kernel) rfl), (tb 5 (by decide +kernel) rfl), by decide, by decide, by decide +kernel⟩
theorem se_SF_join : Cond.instanceMethod y_SF_join ∈ TB ∧ Cond.selects "StreamFilters" y_SF_join y_SF_join ∈ TB := ⟨(tb 405 (by decide +kernel) rfl), (tb 406 (by decide +kernel) rfl)⟩
theorem se_SF_only : Cond.instanceMethod y_SF_only ∈ TB ∧ Cond.selects "StreamFilters" y_SF_only y_SF_only ∈ TB := ⟨(tb 471 (by decide +kernel) rfl), (tb 472 (by decide +kernel) rfl)⟩
theorem se_SF_otherwise : Cond.instanceMethod y_SF_otherwise ∈ TB ∧ Cond.selects "StreamFilters" y_SF_otherwise y_SF_otherwise ∈ TB := ⟨(tb 451 (by decide +kernel) rfl), (tb 452 (by decide +kernel) rfl)⟩
theorem se_SF_pattern : Cond.instanceMethod y_SF_pattern ∈ TB ∧ Cond.selects "StreamFilters" y_SF_pattern y_SF_pattern ∈ TB := ⟨(tb 594 (by decide +kernel) rfl), (tb 595 (by decide +kernel) rfl)⟩
theorem se_SF_read : Cond.instanceMethod y_SF_read ∈ TB ∧ Cond.selects "StreamFilters" y_SF_read y_SF_read ∈ TB := ⟨(tb 200 (by decide +kernel) rfl), (tb 201 (by decide +kernel) rfl)⟩
theorem se_SF_strict : Cond.instanceMethod y_SF_strict ∈ TB ∧ Cond.selects "StreamFilters" y_SF_strict y_SF_strict ∈ TB := ⟨(tb 431 (by decide +kernel) rfl), (tb 432 (by decide +kernel) rfl)⟩
theorem se_SM_join : Cond.instanceMethod y_SM_join ∈ TB ∧ Cond.selects "StreamFiltersModel" y_SM_join y_SM_join ∈ TB := ⟨(tb 790 (by decide +kernel) rfl), (tb 791 (by decide +kernel) rfl)⟩
theorem se_SM_only : Cond.instanceMethod y_SM_only ∈ TB ∧ Cond.selects "StreamFiltersModel" y_SM_only y_SM_only ∈ TB := ⟨(tb 806 (by decide +kernel) rfl), (tb 807 (by decide +kernel) rfl)⟩
theorem se_SM_otherwise : Cond.instanceMethod y_SM_otherwise ∈ TB ∧ Cond.selects "StreamFiltersModel" y_SM_otherwise y_SM_otherwise ∈ TB := ⟨(tb 802 (by decide +kernel) rfl), (tb 803 (by decide +kernel) rfl)⟩
theorem se_SM_pattern : Cond.instanceMethod y_SM_pattern ∈ TB ∧ Cond.selects "StreamFiltersModel" y_SM_pattern y_SM_pattern ∈ TB := ⟨(tb 858 (by decide +kernel) rfl), (tb 859 (by decide +kernel) rfl)⟩
theorem se_SM_read : Cond.instanceMethod y_SM_read ∈ TB ∧ Cond.selects "StreamFiltersModel" y_SM_read y_SM_read ∈ TB := ⟨(tb 750 (by decide +kernel) rfl), (tb 751 (by decide +kernel) rfl)⟩
theorem se_SM_strict : Cond.instanceMethod y_SM_strict ∈ TB ∧ Cond.selects "StreamFiltersModel" y_SM_strict y_SM_strict ∈ TB := ⟨(tb 798 (by decide +kernel) rfl), (tb 799 (by decide +kernel) rfl)⟩
/-! decode rows -/
set_option maxHeartbeats 4000000 in
set_option maxRecDepth 100000 in
theorem law_7 {p : Program} {l : Launch} {e : Env} {s : State} {m : MethodId} {below : List Frame} {meth : Method} {c : Code} {G : GG} {b L : Nat} {xs : Nat → Int32} (hC : LawC p s m meth c G b L xs) {j : Nat} (hj : 5 * j + 5 ≤ L) (hnext : Hd p l e s m below meth c G b (j + 1)) {ad : Nat → Nat} {E : Nat → va_E} {g f : Wd} {root pn : Nat} {pt : Nat → Int32} {nn : Nat} {nt : Nat → Int32} {mn : Nat} {mt : Nat → Int32} {dp rf by_ co tx lx : Int32} {fl : Nat → Option FV} {ls : Array Slot} {H : Heap} {locs : List Loc} (hRg : Rg 25 ad E g f) (hSC : SC G ad E g root pn pt nn nt mn mt dp rf by_ co tx lx fl) (hR : MR G j (ad 9) (fun k => ad (10 + k)) f pn pt nn nt mn mt dp rf by_ co tx lx fl) (hw : ms G.1 (Al s) f s H locs) (hl : lv_has ls 4 [(3, .int (nI (5 * j))), (0, .ref b), (1, .ref root), (2, .ref (ad 9))]) : LG p l e s m below meth c b H locs (60 + 100 * j) (9600 + 900 * j) 401 ls [] := by
  obtain ⟨hc, hr, hlk, hXs, hbl, hE, hL⟩ := hC
  have hx := hc.1
  have hb := hc.2.1
  have hbA : ¬ Al s b := Nat.not_le.mpr hbl
  obtain ⟨a1, ha1⟩ : ∃ z, z = xs (5 * j + 1) := ⟨_, rfl⟩
  obtain ⟨a2, ha2⟩ : ∃ z, z = xs (5 * j + 2) := ⟨_, rfl⟩
  refine lv_aload_n hx hb d_law_401 rfl (lv_at hl 2 rfl) ?_
  refine lv_aload_n hx hb d_law_402 rfl (lv_at hl 1 rfl) ?_
  refine lv_iload_n hx hb d_law_403 rfl (lv_at hl 0 rfl) ?_
  refine lv_iconst (v := 1) hx hb d_law_404 (by decide) ?_
  refine lv_iadd hx hb d_law_405 ?_
  refine m_top (y := (nI ((5 * j) + 1))) (nI_add (5 * j) 1) ?_
  refine va_sld hx hb hXs hbl hbA hw.2.1 (vp_in_nI (by omega) (by omega)) d_law_406 ?_
  refine m_top (y := a1) ((congrArg xs (nI_clamp (by omega))).trans ha1.symm) ?_
  refine lv_aload_n hx hb d_law_407 rfl (lv_at hl 1 rfl) ?_
  refine lv_iload_n hx hb d_law_408 rfl (lv_at hl 0 rfl) ?_
  refine lv_iconst (v := 2) hx hb d_law_409 (by decide) ?_
  refine lv_iadd hx hb d_law_410 ?_
  refine m_top (y := (nI ((5 * j) + 2))) (nI_add (5 * j) 2) ?_
  refine va_sld hx hb hXs hbl hbA hw.2.1 (vp_in_nI (by omega) (by omega)) d_law_411 ?_
  refine m_top (y := a2) ((congrArg xs (nI_clamp (by omega))).trans ha2.symm) ?_
  refine m_calli hw (m_runV (As := [.int a1, .int a2]) (rest := []) hc hE hw (c_SF_only G l H.size f (N := 25) (by decide) hRg hSC a1 a2) (hRg.2.2.1 _ _ hSC.1) rfl cw_law_49 se_SF_only rfl hl.1 rfl (Nat.le_of_ble_eq_true rfl) d_law_412 ⟨rfl, rfl, by decide, by decide⟩ ⟨by dsimp only [room_1]; omega, by dsimp only [room_1]; omega⟩) (fun r23 g22 H locs p21 hw => ?_)
  have hp1 := p21
  rcases cs_one fl a1 a2 with h | ⟨kt, k, vv, q1, q2, q3, q4, q5, h | h⟩
  · obtain ⟨hv1, E1, g1, hRg1, hgl1, hk1, hSC1⟩ := hp1.1 h
    have hRk := hR.keep hRg hRg1 hk1
    obtain ⟨fsM, hmo⟩ := hRk.mo
    refine lv_aload_n hx hb d_law_415 rfl (lv_at hl 3 rfl) ?_
    refine lv_aload_n hx hb d_law_416 rfl (lv_at hl 1 rfl) ?_
    refine lv_iload_n hx hb d_law_417 rfl (lv_at hl 0 rfl) ?_
    refine lv_iconst (v := 1) hx hb d_law_418 (by decide) ?_
    refine lv_iadd hx hb d_law_419 ?_
    refine m_top (y := (nI ((5 * j) + 1))) (nI_add (5 * j) 1) ?_
    refine va_sld hx hb hXs hbl hbA hw.2.1 (vp_in_nI (by omega) (by omega)) d_law_420 ?_
    refine m_top (y := a1) ((congrArg xs (nI_clamp (by omega))).trans ha1.symm) ?_
    refine lv_aload_n hx hb d_law_421 rfl (lv_at hl 1 rfl) ?_
    refine lv_iload_n hx hb d_law_422 rfl (lv_at hl 0 rfl) ?_
    refine lv_iconst (v := 2) hx hb d_law_423 (by decide) ?_
    refine lv_iadd hx hb d_law_424 ?_
    refine m_top (y := (nI ((5 * j) + 2))) (nI_add (5 * j) 2) ?_
    refine va_sld hx hb hXs hbl hbA hw.2.1 (vp_in_nI (by omega) (by omega)) d_law_425 ?_
    refine m_top (y := a2) ((congrArg xs (nI_clamp (by omega))).trans ha2.symm) ?_
    refine m_calli hw (m_runV (As := [.int a1, .int a2]) (rest := [.int r23]) hc hE hw (c_SM_only G l H.size g22 hRk (by omega) a1 a2) hmo rfl cw_law_53 se_SM_only rfl hl.1 rfl (Nat.le_of_ble_eq_true rfl) d_law_426 ⟨rfl, rfl, by decide, by decide⟩ ⟨by dsimp only [room_1]; omega, by dsimp only [room_1]; omega⟩) (fun r26 g25 H locs p24 hw => ?_)
    obtain ⟨hv2, hMR2, hX2⟩ := p24.1 h
    obtain ⟨E2, hRg2, hlo2⟩ := hRg1.mx hMR2 hX2
    refine lv_icmp_eq (tgt := 701) hx hb d_law_429 (by decide) (fun c27 => ?_) (fun c27 => ?_)
    · refine W.widen (k := 60 + 100 * (j + 1)) (n := 9600 + 900 * (j + 1)) (by dsimp only; omega) (by dsimp only; omega) ?_
      refine lv_iinc (v := (nI (5 * (j + 1)))) (lv' := [(3, .int (nI (5 * (j + 1)))), (0, .ref b), (1, .ref root), (2, .ref (ad 9))]) hx hb d_law_701 hl (k := 0) rfl (nI_add (5 * j) 5) (by decide) rfl (fun ls hl => ?_)
      refine lv_goto (tgt := 18) hx hb d_law_704 (by decide) ?_
      exact hnext ad E2 g1 g25 root pn pt nn nt mn mt dp rf by_ co tx lx fl ls H locs hRg2 (hSC1.lo hlo2) hMR2 hw (lv_sub hl [0, 1, 2, 3] rfl)
    · refine lv_iconst (v := 0) hx hb d_law_432 (by decide) ?_
      exact absurd (hv1.trans hv2.symm) c27
  · obtain ⟨hv1, E1, g1, hRg1, hgl1, hk1, hSC1⟩ := (hp1.2 kt k vv q1 q2 q3 q4 q5).1 h
    have hRk := hR.keep hRg hRg1 hk1
    obtain ⟨fsM, hmo⟩ := hRk.mo
    refine lv_aload_n hx hb d_law_415 rfl (lv_at hl 3 rfl) ?_
    refine lv_aload_n hx hb d_law_416 rfl (lv_at hl 1 rfl) ?_
    refine lv_iload_n hx hb d_law_417 rfl (lv_at hl 0 rfl) ?_
    refine lv_iconst (v := 1) hx hb d_law_418 (by decide) ?_
    refine lv_iadd hx hb d_law_419 ?_
    refine m_top (y := (nI ((5 * j) + 1))) (nI_add (5 * j) 1) ?_
    refine va_sld hx hb hXs hbl hbA hw.2.1 (vp_in_nI (by omega) (by omega)) d_law_420 ?_
    refine m_top (y := a1) ((congrArg xs (nI_clamp (by omega))).trans ha1.symm) ?_
    refine lv_aload_n hx hb d_law_421 rfl (lv_at hl 1 rfl) ?_
    refine lv_iload_n hx hb d_law_422 rfl (lv_at hl 0 rfl) ?_
    refine lv_iconst (v := 2) hx hb d_law_423 (by decide) ?_
    refine lv_iadd hx hb d_law_424 ?_
    refine m_top (y := (nI ((5 * j) + 2))) (nI_add (5 * j) 2) ?_
    refine va_sld hx hb hXs hbl hbA hw.2.1 (vp_in_nI (by omega) (by omega)) d_law_425 ?_
    refine m_top (y := a2) ((congrArg xs (nI_clamp (by omega))).trans ha2.symm) ?_
    refine m_calli hw (m_runV (As := [.int a1, .int a2]) (rest := [.int r23]) hc hE hw (c_SM_only G l H.size g22 hRk (by omega) a1 a2) hmo rfl cw_law_53 se_SM_only rfl hl.1 rfl (Nat.le_of_ble_eq_true rfl) d_law_426 ⟨rfl, rfl, by decide, by decide⟩ ⟨by dsimp only [room_1]; omega, by dsimp only [room_1]; omega⟩) (fun r30 g29 H locs p28 hw => ?_)
    obtain ⟨hv2, hMR2, hX2⟩ := (p28.2 kt k vv q1 q2 q3 q4 q5).1 h
    obtain ⟨E2, hRg2, hlo2⟩ := hRg1.mx hMR2 hX2
    refine lv_icmp_eq (tgt := 701) hx hb d_law_429 (by decide) (fun c31 => ?_) (fun c31 => ?_)
    · refine W.widen (k := 60 + 100 * (j + 1)) (n := 9600 + 900 * (j + 1)) (by dsimp only; omega) (by dsimp only; omega) ?_
      refine lv_iinc (v := (nI (5 * (j + 1)))) (lv' := [(3, .int (nI (5 * (j + 1)))), (0, .ref b), (1, .ref root), (2, .ref (ad 9))]) hx hb d_law_701 hl (k := 0) rfl (nI_add (5 * j) 5) (by decide) rfl (fun ls hl => ?_)
      refine lv_goto (tgt := 18) hx hb d_law_704 (by decide) ?_
      exact hnext ad E2 g1 g29 root pn pt nn nt mn mt dp rf by_ co tx lx fl ls H locs hRg2 (hSC1.lo hlo2) hMR2 hw (lv_sub hl [0, 1, 2, 3] rfl)
    · refine lv_iconst (v := 0) hx hb d_law_432 (by decide) ?_
      exact absurd (hv1.trans hv2.symm) c31
  · obtain ⟨hv1, E1, g1, hRg1, hgl1, hk1, hSC1⟩ := (hp1.2 kt k vv q1 q2 q3 q4 q5).2 h
    have hRk := hR.keep hRg hRg1 hk1
    obtain ⟨fsM, hmo⟩ := hRk.mo
    refine lv_aload_n hx hb d_law_415 rfl (lv_at hl 3 rfl) ?_
    refine lv_aload_n hx hb d_law_416 rfl (lv_at hl 1 rfl) ?_
    refine lv_iload_n hx hb d_law_417 rfl (lv_at hl 0 rfl) ?_
    refine lv_iconst (v := 1) hx hb d_law_418 (by decide) ?_
    refine lv_iadd hx hb d_law_419 ?_
    refine m_top (y := (nI ((5 * j) + 1))) (nI_add (5 * j) 1) ?_
    refine va_sld hx hb hXs hbl hbA hw.2.1 (vp_in_nI (by omega) (by omega)) d_law_420 ?_
    refine m_top (y := a1) ((congrArg xs (nI_clamp (by omega))).trans ha1.symm) ?_
    refine lv_aload_n hx hb d_law_421 rfl (lv_at hl 1 rfl) ?_
    refine lv_iload_n hx hb d_law_422 rfl (lv_at hl 0 rfl) ?_
    refine lv_iconst (v := 2) hx hb d_law_423 (by decide) ?_
    refine lv_iadd hx hb d_law_424 ?_
    refine m_top (y := (nI ((5 * j) + 2))) (nI_add (5 * j) 2) ?_
    refine va_sld hx hb hXs hbl hbA hw.2.1 (vp_in_nI (by omega) (by omega)) d_law_425 ?_
    refine m_top (y := a2) ((congrArg xs (nI_clamp (by omega))).trans ha2.symm) ?_
    refine m_calli hw (m_runV (As := [.int a1, .int a2]) (rest := [.int r23]) hc hE hw (c_SM_only G l H.size g22 hRk (by omega) a1 a2) hmo rfl cw_law_53 se_SM_only rfl hl.1 rfl (Nat.le_of_ble_eq_true rfl) d_law_426 ⟨rfl, rfl, by decide, by decide⟩ ⟨by dsimp only [room_1]; omega, by dsimp only [room_1]; omega⟩) (fun r34 g33 H locs p32 hw => ?_)
    obtain ⟨hv2, hMR2, hX2⟩ := (p32.2 kt k vv q1 q2 q3 q4 q5).2 h
    obtain ⟨E2, hRg2, hlo2⟩ := hRg1.mx hMR2 hX2
    refine lv_icmp_eq (tgt := 701) hx hb d_law_429 (by decide) (fun c35 => ?_) (fun c35 => ?_)
    · refine W.widen (k := 60 + 100 * (j + 1)) (n := 9600 + 900 * (j + 1)) (by dsimp only; omega) (by dsimp only; omega) ?_
      refine lv_iinc (v := (nI (5 * (j + 1)))) (lv' := [(3, .int (nI (5 * (j + 1)))), (0, .ref b), (1, .ref root), (2, .ref (ad 9))]) hx hb d_law_701 hl (k := 0) rfl (nI_add (5 * j) 5) (by decide) rfl (fun ls hl => ?_)
      refine lv_goto (tgt := 18) hx hb d_law_704 (by decide) ?_
      exact hnext ad E2 g1 g33 root pn pt nn nt mn mt dp rf by_ co tx lx (va_up fl kt (some ((5, vv.2.1, 1 + vv.2.2.1, anO pn pt vv.2.2.2.1, TI0) : FV))) ls H locs hRg2 (hSC1.lo hlo2) hMR2 hw (lv_sub hl [0, 1, 2, 3] rfl)
    · refine lv_iconst (v := 0) hx hb d_law_432 (by decide) ?_
      exact absurd (hv1.trans hv2.symm) c35

set_option maxHeartbeats 4000000 in
set_option maxRecDepth 100000 in
theorem law_6 {p : Program} {l : Launch} {e : Env} {s : State} {m : MethodId} {below : List Frame} {meth : Method} {c : Code} {G : GG} {b L : Nat} {xs : Nat → Int32} (hC : LawC p s m meth c G b L xs) {j : Nat} (hj : 5 * j + 5 ≤ L) (hnext : Hd p l e s m below meth c G b (j + 1)) {ad : Nat → Nat} {E : Nat → va_E} {g f : Wd} {root pn : Nat} {pt : Nat → Int32} {nn : Nat} {nt : Nat → Int32} {mn : Nat} {mt : Nat → Int32} {dp rf by_ co tx lx : Int32} {fl : Nat → Option FV} {ls : Array Slot} {H : Heap} {locs : List Loc} (hRg : Rg 25 ad E g f) (hSC : SC G ad E g root pn pt nn nt mn mt dp rf by_ co tx lx fl) (hR : MR G j (ad 9) (fun k => ad (10 + k)) f pn pt nn nt mn mt dp rf by_ co tx lx fl) (hw : ms G.1 (Al s) f s H locs) (hl : lv_has ls 4 [(3, .int (nI (5 * j))), (0, .ref b), (1, .ref root), (2, .ref (ad 9))]) : LG p l e s m below meth c b H locs (60 + 100 * j) (9600 + 900 * j) 358 ls [] := by
  obtain ⟨hc, hr, hlk, hXs, hbl, hE, hL⟩ := hC
  have hx := hc.1
  have hb := hc.2.1
  have hbA : ¬ Al s b := Nat.not_le.mpr hbl
  obtain ⟨a1, ha1⟩ : ∃ z, z = xs (5 * j + 1) := ⟨_, rfl⟩
  obtain ⟨a2, ha2⟩ : ∃ z, z = xs (5 * j + 2) := ⟨_, rfl⟩
  obtain ⟨a3, ha3⟩ : ∃ z, z = xs (5 * j + 3) := ⟨_, rfl⟩
  refine lv_aload_n hx hb d_law_358 rfl (lv_at hl 2 rfl) ?_
  refine lv_aload_n hx hb d_law_359 rfl (lv_at hl 1 rfl) ?_
  refine lv_iload_n hx hb d_law_360 rfl (lv_at hl 0 rfl) ?_
  refine lv_iconst (v := 1) hx hb d_law_361 (by decide) ?_
  refine lv_iadd hx hb d_law_362 ?_
  refine m_top (y := (nI ((5 * j) + 1))) (nI_add (5 * j) 1) ?_
  refine va_sld hx hb hXs hbl hbA hw.2.1 (vp_in_nI (by omega) (by omega)) d_law_363 ?_
  refine m_top (y := a1) ((congrArg xs (nI_clamp (by omega))).trans ha1.symm) ?_
  refine lv_aload_n hx hb d_law_364 rfl (lv_at hl 1 rfl) ?_
  refine lv_iload_n hx hb d_law_365 rfl (lv_at hl 0 rfl) ?_
  refine lv_iconst (v := 2) hx hb d_law_366 (by decide) ?_
  refine lv_iadd hx hb d_law_367 ?_
  refine m_top (y := (nI ((5 * j) + 2))) (nI_add (5 * j) 2) ?_
  refine va_sld hx hb hXs hbl hbA hw.2.1 (vp_in_nI (by omega) (by omega)) d_law_368 ?_
  refine m_top (y := a2) ((congrArg xs (nI_clamp (by omega))).trans ha2.symm) ?_
  refine lv_aload_n hx hb d_law_369 rfl (lv_at hl 1 rfl) ?_
  refine lv_iload_n hx hb d_law_370 rfl (lv_at hl 0 rfl) ?_
  refine lv_iconst (v := 3) hx hb d_law_371 (by decide) ?_
  refine lv_iadd hx hb d_law_372 ?_
  refine m_top (y := (nI ((5 * j) + 3))) (nI_add (5 * j) 3) ?_
  refine va_sld hx hb hXs hbl hbA hw.2.1 (vp_in_nI (by omega) (by omega)) d_law_373 ?_
  refine m_top (y := a3) ((congrArg xs (nI_clamp (by omega))).trans ha3.symm) ?_
  refine m_calli hw (m_runV (As := [.int a1, .int a2, .int a3]) (rest := []) hc hE hw (c_SF_otherwise G l H.size f (N := 25) (by decide) hRg hSC a1 a2 a3) (hRg.2.2.1 _ _ hSC.1) rfl cw_law_45 se_SF_otherwise rfl hl.1 rfl (Nat.le_of_ble_eq_true rfl) d_law_374 ⟨rfl, rfl, by decide, by decide⟩ ⟨by dsimp only [room_1]; omega, by dsimp only [room_1]; omega⟩) (fun r23 g22 H locs p21 hw => ?_)
  have hp1 := p21
  rcases cs_oth fl a1 a2 a3 with h | ⟨kt, k, vv, q1, q2, q3, q4, q5, q6, h | h⟩
  · obtain ⟨hv1, E1, g1, hRg1, hgl1, hk1, hSC1⟩ := hp1.1 h
    have hRk := hR.keep hRg hRg1 hk1
    obtain ⟨fsM, hmo⟩ := hRk.mo
    refine lv_aload_n hx hb d_law_377 rfl (lv_at hl 3 rfl) ?_
    refine lv_aload_n hx hb d_law_378 rfl (lv_at hl 1 rfl) ?_
    refine lv_iload_n hx hb d_law_379 rfl (lv_at hl 0 rfl) ?_
    refine lv_iconst (v := 1) hx hb d_law_380 (by decide) ?_
    refine lv_iadd hx hb d_law_381 ?_
    refine m_top (y := (nI ((5 * j) + 1))) (nI_add (5 * j) 1) ?_
    refine va_sld hx hb hXs hbl hbA hw.2.1 (vp_in_nI (by omega) (by omega)) d_law_382 ?_
    refine m_top (y := a1) ((congrArg xs (nI_clamp (by omega))).trans ha1.symm) ?_
    refine lv_aload_n hx hb d_law_383 rfl (lv_at hl 1 rfl) ?_
    refine lv_iload_n hx hb d_law_384 rfl (lv_at hl 0 rfl) ?_
    refine lv_iconst (v := 2) hx hb d_law_385 (by decide) ?_
    refine lv_iadd hx hb d_law_386 ?_
    refine m_top (y := (nI ((5 * j) + 2))) (nI_add (5 * j) 2) ?_
    refine va_sld hx hb hXs hbl hbA hw.2.1 (vp_in_nI (by omega) (by omega)) d_law_387 ?_
    refine m_top (y := a2) ((congrArg xs (nI_clamp (by omega))).trans ha2.symm) ?_
    refine lv_aload_n hx hb d_law_388 rfl (lv_at hl 1 rfl) ?_
    refine lv_iload_n hx hb d_law_389 rfl (lv_at hl 0 rfl) ?_
    refine lv_iconst (v := 3) hx hb d_law_390 (by decide) ?_
    refine lv_iadd hx hb d_law_391 ?_
    refine m_top (y := (nI ((5 * j) + 3))) (nI_add (5 * j) 3) ?_
    refine va_sld hx hb hXs hbl hbA hw.2.1 (vp_in_nI (by omega) (by omega)) d_law_392 ?_
    refine m_top (y := a3) ((congrArg xs (nI_clamp (by omega))).trans ha3.symm) ?_
    refine m_calli hw (m_runV (As := [.int a1, .int a2, .int a3]) (rest := [.int r23]) hc hE hw (c_SM_otherwise G l H.size g22 hRk (by omega) a1 a2 a3) hmo rfl cw_law_48 se_SM_otherwise rfl hl.1 rfl (Nat.le_of_ble_eq_true rfl) d_law_393 ⟨rfl, rfl, by decide, by decide⟩ ⟨by dsimp only [room_1]; omega, by dsimp only [room_1]; omega⟩) (fun r26 g25 H locs p24 hw => ?_)
    obtain ⟨hv2, hMR2, hX2⟩ := p24.1 h
    obtain ⟨E2, hRg2, hlo2⟩ := hRg1.mx hMR2 hX2
    refine lv_icmp_eq (tgt := 701) hx hb d_law_396 (by decide) (fun c27 => ?_) (fun c27 => ?_)
    · refine W.widen (k := 60 + 100 * (j + 1)) (n := 9600 + 900 * (j + 1)) (by dsimp only; omega) (by dsimp only; omega) ?_
      refine lv_iinc (v := (nI (5 * (j + 1)))) (lv' := [(3, .int (nI (5 * (j + 1)))), (0, .ref b), (1, .ref root), (2, .ref (ad 9))]) hx hb d_law_701 hl (k := 0) rfl (nI_add (5 * j) 5) (by decide) rfl (fun ls hl => ?_)
      refine lv_goto (tgt := 18) hx hb d_law_704 (by decide) ?_
      exact hnext ad E2 g1 g25 root pn pt nn nt mn mt dp rf by_ co tx lx fl ls H locs hRg2 (hSC1.lo hlo2) hMR2 hw (lv_sub hl [0, 1, 2, 3] rfl)
    · refine lv_iconst (v := 0) hx hb d_law_399 (by decide) ?_
      exact absurd (hv1.trans hv2.symm) c27
  · obtain ⟨hv1, E1, g1, hRg1, hgl1, hk1, hSC1⟩ := (hp1.2 kt k vv q1 q2 q3 q4 q5 q6).1 h
    have hRk := hR.keep hRg hRg1 hk1
    obtain ⟨fsM, hmo⟩ := hRk.mo
    refine lv_aload_n hx hb d_law_377 rfl (lv_at hl 3 rfl) ?_
    refine lv_aload_n hx hb d_law_378 rfl (lv_at hl 1 rfl) ?_
    refine lv_iload_n hx hb d_law_379 rfl (lv_at hl 0 rfl) ?_
    refine lv_iconst (v := 1) hx hb d_law_380 (by decide) ?_
    refine lv_iadd hx hb d_law_381 ?_
    refine m_top (y := (nI ((5 * j) + 1))) (nI_add (5 * j) 1) ?_
    refine va_sld hx hb hXs hbl hbA hw.2.1 (vp_in_nI (by omega) (by omega)) d_law_382 ?_
    refine m_top (y := a1) ((congrArg xs (nI_clamp (by omega))).trans ha1.symm) ?_
    refine lv_aload_n hx hb d_law_383 rfl (lv_at hl 1 rfl) ?_
    refine lv_iload_n hx hb d_law_384 rfl (lv_at hl 0 rfl) ?_
    refine lv_iconst (v := 2) hx hb d_law_385 (by decide) ?_
    refine lv_iadd hx hb d_law_386 ?_
    refine m_top (y := (nI ((5 * j) + 2))) (nI_add (5 * j) 2) ?_
    refine va_sld hx hb hXs hbl hbA hw.2.1 (vp_in_nI (by omega) (by omega)) d_law_387 ?_
    refine m_top (y := a2) ((congrArg xs (nI_clamp (by omega))).trans ha2.symm) ?_
    refine lv_aload_n hx hb d_law_388 rfl (lv_at hl 1 rfl) ?_
    refine lv_iload_n hx hb d_law_389 rfl (lv_at hl 0 rfl) ?_
    refine lv_iconst (v := 3) hx hb d_law_390 (by decide) ?_
    refine lv_iadd hx hb d_law_391 ?_
    refine m_top (y := (nI ((5 * j) + 3))) (nI_add (5 * j) 3) ?_
    refine va_sld hx hb hXs hbl hbA hw.2.1 (vp_in_nI (by omega) (by omega)) d_law_392 ?_
    refine m_top (y := a3) ((congrArg xs (nI_clamp (by omega))).trans ha3.symm) ?_
    refine m_calli hw (m_runV (As := [.int a1, .int a2, .int a3]) (rest := [.int r23]) hc hE hw (c_SM_otherwise G l H.size g22 hRk (by omega) a1 a2 a3) hmo rfl cw_law_48 se_SM_otherwise rfl hl.1 rfl (Nat.le_of_ble_eq_true rfl) d_law_393 ⟨rfl, rfl, by decide, by decide⟩ ⟨by dsimp only [room_1]; omega, by dsimp only [room_1]; omega⟩) (fun r30 g29 H locs p28 hw => ?_)
    obtain ⟨hv2, hMR2, hX2⟩ := (p28.2 kt k vv q1 q2 q3 q4 q5 q6).1 h
    obtain ⟨E2, hRg2, hlo2⟩ := hRg1.mx hMR2 hX2
    refine lv_icmp_eq (tgt := 701) hx hb d_law_396 (by decide) (fun c31 => ?_) (fun c31 => ?_)
    · refine W.widen (k := 60 + 100 * (j + 1)) (n := 9600 + 900 * (j + 1)) (by dsimp only; omega) (by dsimp only; omega) ?_
      refine lv_iinc (v := (nI (5 * (j + 1)))) (lv' := [(3, .int (nI (5 * (j + 1)))), (0, .ref b), (1, .ref root), (2, .ref (ad 9))]) hx hb d_law_701 hl (k := 0) rfl (nI_add (5 * j) 5) (by decide) rfl (fun ls hl => ?_)
      refine lv_goto (tgt := 18) hx hb d_law_704 (by decide) ?_
      exact hnext ad E2 g1 g29 root pn pt nn nt mn mt dp rf by_ co tx lx fl ls H locs hRg2 (hSC1.lo hlo2) hMR2 hw (lv_sub hl [0, 1, 2, 3] rfl)
    · refine lv_iconst (v := 0) hx hb d_law_399 (by decide) ?_
      exact absurd (hv1.trans hv2.symm) c31
  · obtain ⟨hv1, E1, g1, hRg1, hgl1, hk1, hSC1⟩ := (hp1.2 kt k vv q1 q2 q3 q4 q5 q6).2 h
    have hRk := hR.keep hRg hRg1 hk1
    obtain ⟨fsM, hmo⟩ := hRk.mo
    refine lv_aload_n hx hb d_law_377 rfl (lv_at hl 3 rfl) ?_
    refine lv_aload_n hx hb d_law_378 rfl (lv_at hl 1 rfl) ?_
    refine lv_iload_n hx hb d_law_379 rfl (lv_at hl 0 rfl) ?_
    refine lv_iconst (v := 1) hx hb d_law_380 (by decide) ?_
    refine lv_iadd hx hb d_law_381 ?_
    refine m_top (y := (nI ((5 * j) + 1))) (nI_add (5 * j) 1) ?_
    refine va_sld hx hb hXs hbl hbA hw.2.1 (vp_in_nI (by omega) (by omega)) d_law_382 ?_
    refine m_top (y := a1) ((congrArg xs (nI_clamp (by omega))).trans ha1.symm) ?_
    refine lv_aload_n hx hb d_law_383 rfl (lv_at hl 1 rfl) ?_
    refine lv_iload_n hx hb d_law_384 rfl (lv_at hl 0 rfl) ?_
    refine lv_iconst (v := 2) hx hb d_law_385 (by decide) ?_
    refine lv_iadd hx hb d_law_386 ?_
    refine m_top (y := (nI ((5 * j) + 2))) (nI_add (5 * j) 2) ?_
    refine va_sld hx hb hXs hbl hbA hw.2.1 (vp_in_nI (by omega) (by omega)) d_law_387 ?_
    refine m_top (y := a2) ((congrArg xs (nI_clamp (by omega))).trans ha2.symm) ?_
    refine lv_aload_n hx hb d_law_388 rfl (lv_at hl 1 rfl) ?_
    refine lv_iload_n hx hb d_law_389 rfl (lv_at hl 0 rfl) ?_
    refine lv_iconst (v := 3) hx hb d_law_390 (by decide) ?_
    refine lv_iadd hx hb d_law_391 ?_
    refine m_top (y := (nI ((5 * j) + 3))) (nI_add (5 * j) 3) ?_
    refine va_sld hx hb hXs hbl hbA hw.2.1 (vp_in_nI (by omega) (by omega)) d_law_392 ?_
    refine m_top (y := a3) ((congrArg xs (nI_clamp (by omega))).trans ha3.symm) ?_
    refine m_calli hw (m_runV (As := [.int a1, .int a2, .int a3]) (rest := [.int r23]) hc hE hw (c_SM_otherwise G l H.size g22 hRk (by omega) a1 a2 a3) hmo rfl cw_law_48 se_SM_otherwise rfl hl.1 rfl (Nat.le_of_ble_eq_true rfl) d_law_393 ⟨rfl, rfl, by decide, by decide⟩ ⟨by dsimp only [room_1]; omega, by dsimp only [room_1]; omega⟩) (fun r34 g33 H locs p32 hw => ?_)
    obtain ⟨hv2, hMR2, hX2⟩ := (p32.2 kt k vv q1 q2 q3 q4 q5 q6).2 h
    obtain ⟨E2, hRg2, hlo2⟩ := hRg1.mx hMR2 hX2
    refine lv_icmp_eq (tgt := 701) hx hb d_law_396 (by decide) (fun c35 => ?_) (fun c35 => ?_)
    · refine W.widen (k := 60 + 100 * (j + 1)) (n := 9600 + 900 * (j + 1)) (by dsimp only; omega) (by dsimp only; omega) ?_
      refine lv_iinc (v := (nI (5 * (j + 1)))) (lv' := [(3, .int (nI (5 * (j + 1)))), (0, .ref b), (1, .ref root), (2, .ref (ad 9))]) hx hb d_law_701 hl (k := 0) rfl (nI_add (5 * j) 5) (by decide) rfl (fun ls hl => ?_)
      refine lv_goto (tgt := 18) hx hb d_law_704 (by decide) ?_
      exact hnext ad E2 g1 g33 root pn pt nn nt mn mt dp rf by_ co tx lx (va_up fl kt (some ((4, vv.2.1, 1 + vv.2.2.1, anD a3 vv.2.2.2.1, TI0) : FV))) ls H locs hRg2 (hSC1.lo hlo2) hMR2 hw (lv_sub hl [0, 1, 2, 3] rfl)
    · refine lv_iconst (v := 0) hx hb d_law_399 (by decide) ?_
      exact absurd (hv1.trans hv2.symm) c35

set_option maxHeartbeats 4000000 in
set_option maxRecDepth 100000 in
theorem law_5 {p : Program} {l : Launch} {e : Env} {s : State} {m : MethodId} {below : List Frame} {meth : Method} {c : Code} {G : GG} {b L : Nat} {xs : Nat → Int32} (hC : LawC p s m meth c G b L xs) {j : Nat} (hj : 5 * j + 5 ≤ L) (hnext : Hd p l e s m below meth c G b (j + 1)) {ad : Nat → Nat} {E : Nat → va_E} {g f : Wd} {root pn : Nat} {pt : Nat → Int32} {nn : Nat} {nt : Nat → Int32} {mn : Nat} {mt : Nat → Int32} {dp rf by_ co tx lx : Int32} {fl : Nat → Option FV} {ls : Array Slot} {H : Heap} {locs : List Loc} (hRg : Rg 25 ad E g f) (hSC : SC G ad E g root pn pt nn nt mn mt dp rf by_ co tx lx fl) (hR : MR G j (ad 9) (fun k => ad (10 + k)) f pn pt nn nt mn mt dp rf by_ co tx lx fl) (hw : ms G.1 (Al s) f s H locs) (hl : lv_has ls 4 [(3, .int (nI (5 * j))), (0, .ref b), (1, .ref root), (2, .ref (ad 9))]) : LG p l e s m below meth c b H locs (60 + 100 * j) (9600 + 900 * j) 299 ls [] := by
  obtain ⟨hc, hr, hlk, hXs, hbl, hE, hL⟩ := hC
  have hx := hc.1
  have hb := hc.2.1
  have hbA : ¬ Al s b := Nat.not_le.mpr hbl
  obtain ⟨a1, ha1⟩ : ∃ z, z = xs (5 * j + 1) := ⟨_, rfl⟩
  obtain ⟨a2, ha2⟩ : ∃ z, z = xs (5 * j + 2) := ⟨_, rfl⟩
  obtain ⟨a3, ha3⟩ : ∃ z, z = xs (5 * j + 3) := ⟨_, rfl⟩
  refine lv_aload_n hx hb d_law_299 rfl (lv_at hl 2 rfl) ?_
  refine lv_aload_n hx hb d_law_300 rfl (lv_at hl 1 rfl) ?_
  refine lv_iload_n hx hb d_law_301 rfl (lv_at hl 0 rfl) ?_
  refine lv_iconst (v := 1) hx hb d_law_302 (by decide) ?_
  refine lv_iadd hx hb d_law_303 ?_
  refine m_top (y := (nI ((5 * j) + 1))) (nI_add (5 * j) 1) ?_
  refine va_sld hx hb hXs hbl hbA hw.2.1 (vp_in_nI (by omega) (by omega)) d_law_304 ?_
  refine m_top (y := a1) ((congrArg xs (nI_clamp (by omega))).trans ha1.symm) ?_
  refine lv_aload_n hx hb d_law_305 rfl (lv_at hl 1 rfl) ?_
  refine lv_iload_n hx hb d_law_306 rfl (lv_at hl 0 rfl) ?_
  refine lv_iconst (v := 2) hx hb d_law_307 (by decide) ?_
  refine lv_iadd hx hb d_law_308 ?_
  refine m_top (y := (nI ((5 * j) + 2))) (nI_add (5 * j) 2) ?_
  refine va_sld hx hb hXs hbl hbA hw.2.1 (vp_in_nI (by omega) (by omega)) d_law_309 ?_
  refine m_top (y := a2) ((congrArg xs (nI_clamp (by omega))).trans ha2.symm) ?_
  refine lv_aload_n hx hb d_law_310 rfl (lv_at hl 1 rfl) ?_
  refine lv_iload_n hx hb d_law_311 rfl (lv_at hl 0 rfl) ?_
  refine lv_iconst (v := 3) hx hb d_law_312 (by decide) ?_
  refine lv_iadd hx hb d_law_313 ?_
  refine m_top (y := (nI ((5 * j) + 3))) (nI_add (5 * j) 3) ?_
  refine va_sld hx hb hXs hbl hbA hw.2.1 (vp_in_nI (by omega) (by omega)) d_law_314 ?_
  refine m_top (y := a3) ((congrArg xs (nI_clamp (by omega))).trans ha3.symm) ?_
  refine lv_if_eq (tgt := 322) hx hb d_law_315 (by decide) (fun c21 => ?_) (fun c21 => ?_)
  · refine lv_iconst (v := 0) hx hb d_law_322 (by decide) ?_
    refine m_calli hw (m_runV (As := [.int a1, .int a2, .int 0]) (rest := []) hc hE hw (c_SF_strict G l H.size f (N := 25) (by decide) hRg hSC a1 a2 (al := 0) (by decide)) (hRg.2.2.1 _ _ hSC.1) rfl cw_law_40 se_SF_strict rfl hl.1 rfl (Nat.le_of_ble_eq_true rfl) d_law_323 ⟨rfl, rfl, by decide, by decide⟩ ⟨by dsimp only [room_1]; omega, by dsimp only [room_1]; omega⟩) (fun r24 g23 H locs p22 hw => ?_)
    have hp1 := p22
    rcases cs_one fl a1 a2 with h | ⟨kt, k, vv, q1, q2, q3, q4, q5, h | h⟩
    · obtain ⟨hv1, E1, g1, hRg1, hgl1, hk1, hSC1⟩ := hp1.1 h
      have hRk := hR.keep hRg hRg1 hk1
      obtain ⟨fsM, hmo⟩ := hRk.mo
      refine lv_aload_n hx hb d_law_326 rfl (lv_at hl 3 rfl) ?_
      refine lv_aload_n hx hb d_law_327 rfl (lv_at hl 1 rfl) ?_
      refine lv_iload_n hx hb d_law_328 rfl (lv_at hl 0 rfl) ?_
      refine lv_iconst (v := 1) hx hb d_law_329 (by decide) ?_
      refine lv_iadd hx hb d_law_330 ?_
      refine m_top (y := (nI ((5 * j) + 1))) (nI_add (5 * j) 1) ?_
      refine va_sld hx hb hXs hbl hbA hw.2.1 (vp_in_nI (by omega) (by omega)) d_law_331 ?_
      refine m_top (y := a1) ((congrArg xs (nI_clamp (by omega))).trans ha1.symm) ?_
      refine lv_aload_n hx hb d_law_332 rfl (lv_at hl 1 rfl) ?_
      refine lv_iload_n hx hb d_law_333 rfl (lv_at hl 0 rfl) ?_
      refine lv_iconst (v := 2) hx hb d_law_334 (by decide) ?_
      refine lv_iadd hx hb d_law_335 ?_
      refine m_top (y := (nI ((5 * j) + 2))) (nI_add (5 * j) 2) ?_
      refine va_sld hx hb hXs hbl hbA hw.2.1 (vp_in_nI (by omega) (by omega)) d_law_336 ?_
      refine m_top (y := a2) ((congrArg xs (nI_clamp (by omega))).trans ha2.symm) ?_
      refine lv_aload_n hx hb d_law_337 rfl (lv_at hl 1 rfl) ?_
      refine lv_iload_n hx hb d_law_338 rfl (lv_at hl 0 rfl) ?_
      refine lv_iconst (v := 3) hx hb d_law_339 (by decide) ?_
      refine lv_iadd hx hb d_law_340 ?_
      refine m_top (y := (nI ((5 * j) + 3))) (nI_add (5 * j) 3) ?_
      refine va_sld hx hb hXs hbl hbA hw.2.1 (vp_in_nI (by omega) (by omega)) d_law_341 ?_
      refine m_top (y := a3) ((congrArg xs (nI_clamp (by omega))).trans ha3.symm) ?_
      refine lv_if_eq (tgt := 349) hx hb d_law_342 (by decide) (fun c25 => ?_) (fun c25 => ?_)
      · refine lv_iconst (v := 0) hx hb d_law_349 (by decide) ?_
        refine m_calli hw (m_runV (As := [.int a1, .int a2, .int 0]) (rest := [.int r24]) hc hE hw (c_SM_strict G l H.size g23 hRk (by omega) a1 a2 (al := 0) (by decide)) hmo rfl cw_law_44 se_SM_strict rfl hl.1 rfl (Nat.le_of_ble_eq_true rfl) d_law_350 ⟨rfl, rfl, by decide, by decide⟩ ⟨by dsimp only [room_1]; omega, by dsimp only [room_1]; omega⟩) (fun r28 g27 H locs p26 hw => ?_)
        obtain ⟨hv2, hMR2, hX2⟩ := p26.1 h
        obtain ⟨E2, hRg2, hlo2⟩ := hRg1.mx hMR2 hX2
        refine lv_icmp_eq (tgt := 701) hx hb d_law_353 (by decide) (fun c29 => ?_) (fun c29 => ?_)
        · refine W.widen (k := 60 + 100 * (j + 1)) (n := 9600 + 900 * (j + 1)) (by dsimp only; omega) (by dsimp only; omega) ?_
          refine lv_iinc (v := (nI (5 * (j + 1)))) (lv' := [(3, .int (nI (5 * (j + 1)))), (0, .ref b), (1, .ref root), (2, .ref (ad 9))]) hx hb d_law_701 hl (k := 0) rfl (nI_add (5 * j) 5) (by decide) rfl (fun ls hl => ?_)
          refine lv_goto (tgt := 18) hx hb d_law_704 (by decide) ?_
          exact hnext ad E2 g1 g27 root pn pt nn nt mn mt dp rf by_ co tx lx fl ls H locs hRg2 (hSC1.lo hlo2) hMR2 hw (lv_sub hl [0, 1, 2, 3] rfl)
        · refine lv_iconst (v := 0) hx hb d_law_356 (by decide) ?_
          exact absurd (hv1.trans hv2.symm) c29
      · exact absurd c21 c25
    · obtain ⟨hv1, E1, g1, hRg1, hgl1, hk1, hSC1⟩ := (hp1.2 kt k vv q1 q2 q3 q4 q5).1 h
      have hRk := hR.keep hRg hRg1 hk1
      obtain ⟨fsM, hmo⟩ := hRk.mo
      refine lv_aload_n hx hb d_law_326 rfl (lv_at hl 3 rfl) ?_
      refine lv_aload_n hx hb d_law_327 rfl (lv_at hl 1 rfl) ?_
      refine lv_iload_n hx hb d_law_328 rfl (lv_at hl 0 rfl) ?_
      refine lv_iconst (v := 1) hx hb d_law_329 (by decide) ?_
      refine lv_iadd hx hb d_law_330 ?_
      refine m_top (y := (nI ((5 * j) + 1))) (nI_add (5 * j) 1) ?_
      refine va_sld hx hb hXs hbl hbA hw.2.1 (vp_in_nI (by omega) (by omega)) d_law_331 ?_
      refine m_top (y := a1) ((congrArg xs (nI_clamp (by omega))).trans ha1.symm) ?_
      refine lv_aload_n hx hb d_law_332 rfl (lv_at hl 1 rfl) ?_
      refine lv_iload_n hx hb d_law_333 rfl (lv_at hl 0 rfl) ?_
      refine lv_iconst (v := 2) hx hb d_law_334 (by decide) ?_
      refine lv_iadd hx hb d_law_335 ?_
      refine m_top (y := (nI ((5 * j) + 2))) (nI_add (5 * j) 2) ?_
      refine va_sld hx hb hXs hbl hbA hw.2.1 (vp_in_nI (by omega) (by omega)) d_law_336 ?_
      refine m_top (y := a2) ((congrArg xs (nI_clamp (by omega))).trans ha2.symm) ?_
      refine lv_aload_n hx hb d_law_337 rfl (lv_at hl 1 rfl) ?_
      refine lv_iload_n hx hb d_law_338 rfl (lv_at hl 0 rfl) ?_
      refine lv_iconst (v := 3) hx hb d_law_339 (by decide) ?_
      refine lv_iadd hx hb d_law_340 ?_
      refine m_top (y := (nI ((5 * j) + 3))) (nI_add (5 * j) 3) ?_
      refine va_sld hx hb hXs hbl hbA hw.2.1 (vp_in_nI (by omega) (by omega)) d_law_341 ?_
      refine m_top (y := a3) ((congrArg xs (nI_clamp (by omega))).trans ha3.symm) ?_
      refine lv_if_eq (tgt := 349) hx hb d_law_342 (by decide) (fun c30 => ?_) (fun c30 => ?_)
      · refine lv_iconst (v := 0) hx hb d_law_349 (by decide) ?_
        refine m_calli hw (m_runV (As := [.int a1, .int a2, .int 0]) (rest := [.int r24]) hc hE hw (c_SM_strict G l H.size g23 hRk (by omega) a1 a2 (al := 0) (by decide)) hmo rfl cw_law_44 se_SM_strict rfl hl.1 rfl (Nat.le_of_ble_eq_true rfl) d_law_350 ⟨rfl, rfl, by decide, by decide⟩ ⟨by dsimp only [room_1]; omega, by dsimp only [room_1]; omega⟩) (fun r33 g32 H locs p31 hw => ?_)
        obtain ⟨hv2, hMR2, hX2⟩ := (p31.2 kt k vv q1 q2 q3 q4 q5).1 h
        obtain ⟨E2, hRg2, hlo2⟩ := hRg1.mx hMR2 hX2
        refine lv_icmp_eq (tgt := 701) hx hb d_law_353 (by decide) (fun c34 => ?_) (fun c34 => ?_)
        · refine W.widen (k := 60 + 100 * (j + 1)) (n := 9600 + 900 * (j + 1)) (by dsimp only; omega) (by dsimp only; omega) ?_
          refine lv_iinc (v := (nI (5 * (j + 1)))) (lv' := [(3, .int (nI (5 * (j + 1)))), (0, .ref b), (1, .ref root), (2, .ref (ad 9))]) hx hb d_law_701 hl (k := 0) rfl (nI_add (5 * j) 5) (by decide) rfl (fun ls hl => ?_)
          refine lv_goto (tgt := 18) hx hb d_law_704 (by decide) ?_
          exact hnext ad E2 g1 g32 root pn pt nn nt mn mt dp rf by_ co tx lx fl ls H locs hRg2 (hSC1.lo hlo2) hMR2 hw (lv_sub hl [0, 1, 2, 3] rfl)
        · refine lv_iconst (v := 0) hx hb d_law_356 (by decide) ?_
          exact absurd (hv1.trans hv2.symm) c34
      · exact absurd c21 c30
    · obtain ⟨hv1, E1, g1, hRg1, hgl1, hk1, hSC1⟩ := (hp1.2 kt k vv q1 q2 q3 q4 q5).2 h
      have hRk := hR.keep hRg hRg1 hk1
      obtain ⟨fsM, hmo⟩ := hRk.mo
      refine lv_aload_n hx hb d_law_326 rfl (lv_at hl 3 rfl) ?_
      refine lv_aload_n hx hb d_law_327 rfl (lv_at hl 1 rfl) ?_
      refine lv_iload_n hx hb d_law_328 rfl (lv_at hl 0 rfl) ?_
      refine lv_iconst (v := 1) hx hb d_law_329 (by decide) ?_
      refine lv_iadd hx hb d_law_330 ?_
      refine m_top (y := (nI ((5 * j) + 1))) (nI_add (5 * j) 1) ?_
      refine va_sld hx hb hXs hbl hbA hw.2.1 (vp_in_nI (by omega) (by omega)) d_law_331 ?_
      refine m_top (y := a1) ((congrArg xs (nI_clamp (by omega))).trans ha1.symm) ?_
      refine lv_aload_n hx hb d_law_332 rfl (lv_at hl 1 rfl) ?_
      refine lv_iload_n hx hb d_law_333 rfl (lv_at hl 0 rfl) ?_
      refine lv_iconst (v := 2) hx hb d_law_334 (by decide) ?_
      refine lv_iadd hx hb d_law_335 ?_
      refine m_top (y := (nI ((5 * j) + 2))) (nI_add (5 * j) 2) ?_
      refine va_sld hx hb hXs hbl hbA hw.2.1 (vp_in_nI (by omega) (by omega)) d_law_336 ?_
      refine m_top (y := a2) ((congrArg xs (nI_clamp (by omega))).trans ha2.symm) ?_
      refine lv_aload_n hx hb d_law_337 rfl (lv_at hl 1 rfl) ?_
      refine lv_iload_n hx hb d_law_338 rfl (lv_at hl 0 rfl) ?_
      refine lv_iconst (v := 3) hx hb d_law_339 (by decide) ?_
      refine lv_iadd hx hb d_law_340 ?_
      refine m_top (y := (nI ((5 * j) + 3))) (nI_add (5 * j) 3) ?_
      refine va_sld hx hb hXs hbl hbA hw.2.1 (vp_in_nI (by omega) (by omega)) d_law_341 ?_
      refine m_top (y := a3) ((congrArg xs (nI_clamp (by omega))).trans ha3.symm) ?_
      refine lv_if_eq (tgt := 349) hx hb d_law_342 (by decide) (fun c35 => ?_) (fun c35 => ?_)
      · refine lv_iconst (v := 0) hx hb d_law_349 (by decide) ?_
        refine m_calli hw (m_runV (As := [.int a1, .int a2, .int 0]) (rest := [.int r24]) hc hE hw (c_SM_strict G l H.size g23 hRk (by omega) a1 a2 (al := 0) (by decide)) hmo rfl cw_law_44 se_SM_strict rfl hl.1 rfl (Nat.le_of_ble_eq_true rfl) d_law_350 ⟨rfl, rfl, by decide, by decide⟩ ⟨by dsimp only [room_1]; omega, by dsimp only [room_1]; omega⟩) (fun r38 g37 H locs p36 hw => ?_)
        obtain ⟨hv2, hMR2, hX2⟩ := (p36.2 kt k vv q1 q2 q3 q4 q5).2 h
        obtain ⟨E2, hRg2, hlo2⟩ := hRg1.mx hMR2 hX2
        refine lv_icmp_eq (tgt := 701) hx hb d_law_353 (by decide) (fun c39 => ?_) (fun c39 => ?_)
        · refine W.widen (k := 60 + 100 * (j + 1)) (n := 9600 + 900 * (j + 1)) (by dsimp only; omega) (by dsimp only; omega) ?_
          refine lv_iinc (v := (nI (5 * (j + 1)))) (lv' := [(3, .int (nI (5 * (j + 1)))), (0, .ref b), (1, .ref root), (2, .ref (ad 9))]) hx hb d_law_701 hl (k := 0) rfl (nI_add (5 * j) 5) (by decide) rfl (fun ls hl => ?_)
          refine lv_goto (tgt := 18) hx hb d_law_704 (by decide) ?_
          exact hnext ad E2 g1 g37 root pn pt nn nt mn mt dp rf by_ co tx lx (va_up fl kt (some ((3, vv.2.1, 1 + vv.2.2.1, anS 0 vv.2.2.2.1, TI0) : FV))) ls H locs hRg2 (hSC1.lo hlo2) hMR2 hw (lv_sub hl [0, 1, 2, 3] rfl)
        · refine lv_iconst (v := 0) hx hb d_law_356 (by decide) ?_
          exact absurd (hv1.trans hv2.symm) c39
      · exact absurd c21 c35
  · refine lv_iconst (v := 1) hx hb d_law_318 (by decide) ?_
    refine lv_goto (tgt := 323) hx hb d_law_319 (by decide) ?_
    refine m_calli hw (m_runV (As := [.int a1, .int a2, .int 1]) (rest := []) hc hE hw (c_SF_strict G l H.size f (N := 25) (by decide) hRg hSC a1 a2 (al := 1) (by decide)) (hRg.2.2.1 _ _ hSC.1) rfl cw_law_40 se_SF_strict rfl hl.1 rfl (Nat.le_of_ble_eq_true rfl) d_law_323 ⟨rfl, rfl, by decide, by decide⟩ ⟨by dsimp only [room_1]; omega, by dsimp only [room_1]; omega⟩) (fun r42 g41 H locs p40 hw => ?_)
    have hp1 := p40
    rcases cs_one fl a1 a2 with h | ⟨kt, k, vv, q1, q2, q3, q4, q5, h | h⟩
    · obtain ⟨hv1, E1, g1, hRg1, hgl1, hk1, hSC1⟩ := hp1.1 h
      have hRk := hR.keep hRg hRg1 hk1
      obtain ⟨fsM, hmo⟩ := hRk.mo
      refine lv_aload_n hx hb d_law_326 rfl (lv_at hl 3 rfl) ?_
      refine lv_aload_n hx hb d_law_327 rfl (lv_at hl 1 rfl) ?_
      refine lv_iload_n hx hb d_law_328 rfl (lv_at hl 0 rfl) ?_
      refine lv_iconst (v := 1) hx hb d_law_329 (by decide) ?_
      refine lv_iadd hx hb d_law_330 ?_
      refine m_top (y := (nI ((5 * j) + 1))) (nI_add (5 * j) 1) ?_
      refine va_sld hx hb hXs hbl hbA hw.2.1 (vp_in_nI (by omega) (by omega)) d_law_331 ?_
      refine m_top (y := a1) ((congrArg xs (nI_clamp (by omega))).trans ha1.symm) ?_
      refine lv_aload_n hx hb d_law_332 rfl (lv_at hl 1 rfl) ?_
      refine lv_iload_n hx hb d_law_333 rfl (lv_at hl 0 rfl) ?_
      refine lv_iconst (v := 2) hx hb d_law_334 (by decide) ?_
      refine lv_iadd hx hb d_law_335 ?_
      refine m_top (y := (nI ((5 * j) + 2))) (nI_add (5 * j) 2) ?_
      refine va_sld hx hb hXs hbl hbA hw.2.1 (vp_in_nI (by omega) (by omega)) d_law_336 ?_
      refine m_top (y := a2) ((congrArg xs (nI_clamp (by omega))).trans ha2.symm) ?_
      refine lv_aload_n hx hb d_law_337 rfl (lv_at hl 1 rfl) ?_
      refine lv_iload_n hx hb d_law_338 rfl (lv_at hl 0 rfl) ?_
      refine lv_iconst (v := 3) hx hb d_law_339 (by decide) ?_
      refine lv_iadd hx hb d_law_340 ?_
      refine m_top (y := (nI ((5 * j) + 3))) (nI_add (5 * j) 3) ?_
      refine va_sld hx hb hXs hbl hbA hw.2.1 (vp_in_nI (by omega) (by omega)) d_law_341 ?_
      refine m_top (y := a3) ((congrArg xs (nI_clamp (by omega))).trans ha3.symm) ?_
      refine lv_if_eq (tgt := 349) hx hb d_law_342 (by decide) (fun c43 => ?_) (fun c43 => ?_)
      · exact absurd c43 c21
      · refine lv_iconst (v := 1) hx hb d_law_345 (by decide) ?_
        refine lv_goto (tgt := 350) hx hb d_law_346 (by decide) ?_
        refine m_calli hw (m_runV (As := [.int a1, .int a2, .int 1]) (rest := [.int r42]) hc hE hw (c_SM_strict G l H.size g41 hRk (by omega) a1 a2 (al := 1) (by decide)) hmo rfl cw_law_44 se_SM_strict rfl hl.1 rfl (Nat.le_of_ble_eq_true rfl) d_law_350 ⟨rfl, rfl, by decide, by decide⟩ ⟨by dsimp only [room_1]; omega, by dsimp only [room_1]; omega⟩) (fun r46 g45 H locs p44 hw => ?_)
        obtain ⟨hv2, hMR2, hX2⟩ := p44.1 h
        obtain ⟨E2, hRg2, hlo2⟩ := hRg1.mx hMR2 hX2
        refine lv_icmp_eq (tgt := 701) hx hb d_law_353 (by decide) (fun c47 => ?_) (fun c47 => ?_)
        · refine W.widen (k := 60 + 100 * (j + 1)) (n := 9600 + 900 * (j + 1)) (by dsimp only; omega) (by dsimp only; omega) ?_
          refine lv_iinc (v := (nI (5 * (j + 1)))) (lv' := [(3, .int (nI (5 * (j + 1)))), (0, .ref b), (1, .ref root), (2, .ref (ad 9))]) hx hb d_law_701 hl (k := 0) rfl (nI_add (5 * j) 5) (by decide) rfl (fun ls hl => ?_)
          refine lv_goto (tgt := 18) hx hb d_law_704 (by decide) ?_
          exact hnext ad E2 g1 g45 root pn pt nn nt mn mt dp rf by_ co tx lx fl ls H locs hRg2 (hSC1.lo hlo2) hMR2 hw (lv_sub hl [0, 1, 2, 3] rfl)
        · refine lv_iconst (v := 0) hx hb d_law_356 (by decide) ?_
          exact absurd (hv1.trans hv2.symm) c47
    · obtain ⟨hv1, E1, g1, hRg1, hgl1, hk1, hSC1⟩ := (hp1.2 kt k vv q1 q2 q3 q4 q5).1 h
      have hRk := hR.keep hRg hRg1 hk1
      obtain ⟨fsM, hmo⟩ := hRk.mo
      refine lv_aload_n hx hb d_law_326 rfl (lv_at hl 3 rfl) ?_
      refine lv_aload_n hx hb d_law_327 rfl (lv_at hl 1 rfl) ?_
      refine lv_iload_n hx hb d_law_328 rfl (lv_at hl 0 rfl) ?_
      refine lv_iconst (v := 1) hx hb d_law_329 (by decide) ?_
      refine lv_iadd hx hb d_law_330 ?_
      refine m_top (y := (nI ((5 * j) + 1))) (nI_add (5 * j) 1) ?_
      refine va_sld hx hb hXs hbl hbA hw.2.1 (vp_in_nI (by omega) (by omega)) d_law_331 ?_
      refine m_top (y := a1) ((congrArg xs (nI_clamp (by omega))).trans ha1.symm) ?_
      refine lv_aload_n hx hb d_law_332 rfl (lv_at hl 1 rfl) ?_
      refine lv_iload_n hx hb d_law_333 rfl (lv_at hl 0 rfl) ?_
      refine lv_iconst (v := 2) hx hb d_law_334 (by decide) ?_
      refine lv_iadd hx hb d_law_335 ?_
      refine m_top (y := (nI ((5 * j) + 2))) (nI_add (5 * j) 2) ?_
      refine va_sld hx hb hXs hbl hbA hw.2.1 (vp_in_nI (by omega) (by omega)) d_law_336 ?_
      refine m_top (y := a2) ((congrArg xs (nI_clamp (by omega))).trans ha2.symm) ?_
      refine lv_aload_n hx hb d_law_337 rfl (lv_at hl 1 rfl) ?_
      refine lv_iload_n hx hb d_law_338 rfl (lv_at hl 0 rfl) ?_
      refine lv_iconst (v := 3) hx hb d_law_339 (by decide) ?_
      refine lv_iadd hx hb d_law_340 ?_
      refine m_top (y := (nI ((5 * j) + 3))) (nI_add (5 * j) 3) ?_
      refine va_sld hx hb hXs hbl hbA hw.2.1 (vp_in_nI (by omega) (by omega)) d_law_341 ?_
      refine m_top (y := a3) ((congrArg xs (nI_clamp (by omega))).trans ha3.symm) ?_
      refine lv_if_eq (tgt := 349) hx hb d_law_342 (by decide) (fun c48 => ?_) (fun c48 => ?_)
      · exact absurd c48 c21
      · refine lv_iconst (v := 1) hx hb d_law_345 (by decide) ?_
        refine lv_goto (tgt := 350) hx hb d_law_346 (by decide) ?_
        refine m_calli hw (m_runV (As := [.int a1, .int a2, .int 1]) (rest := [.int r42]) hc hE hw (c_SM_strict G l H.size g41 hRk (by omega) a1 a2 (al := 1) (by decide)) hmo rfl cw_law_44 se_SM_strict rfl hl.1 rfl (Nat.le_of_ble_eq_true rfl) d_law_350 ⟨rfl, rfl, by decide, by decide⟩ ⟨by dsimp only [room_1]; omega, by dsimp only [room_1]; omega⟩) (fun r51 g50 H locs p49 hw => ?_)
        obtain ⟨hv2, hMR2, hX2⟩ := (p49.2 kt k vv q1 q2 q3 q4 q5).1 h
        obtain ⟨E2, hRg2, hlo2⟩ := hRg1.mx hMR2 hX2
        refine lv_icmp_eq (tgt := 701) hx hb d_law_353 (by decide) (fun c52 => ?_) (fun c52 => ?_)
        · refine W.widen (k := 60 + 100 * (j + 1)) (n := 9600 + 900 * (j + 1)) (by dsimp only; omega) (by dsimp only; omega) ?_
          refine lv_iinc (v := (nI (5 * (j + 1)))) (lv' := [(3, .int (nI (5 * (j + 1)))), (0, .ref b), (1, .ref root), (2, .ref (ad 9))]) hx hb d_law_701 hl (k := 0) rfl (nI_add (5 * j) 5) (by decide) rfl (fun ls hl => ?_)
          refine lv_goto (tgt := 18) hx hb d_law_704 (by decide) ?_
          exact hnext ad E2 g1 g50 root pn pt nn nt mn mt dp rf by_ co tx lx fl ls H locs hRg2 (hSC1.lo hlo2) hMR2 hw (lv_sub hl [0, 1, 2, 3] rfl)
        · refine lv_iconst (v := 0) hx hb d_law_356 (by decide) ?_
          exact absurd (hv1.trans hv2.symm) c52
    · obtain ⟨hv1, E1, g1, hRg1, hgl1, hk1, hSC1⟩ := (hp1.2 kt k vv q1 q2 q3 q4 q5).2 h
      have hRk := hR.keep hRg hRg1 hk1
      obtain ⟨fsM, hmo⟩ := hRk.mo
      refine lv_aload_n hx hb d_law_326 rfl (lv_at hl 3 rfl) ?_
      refine lv_aload_n hx hb d_law_327 rfl (lv_at hl 1 rfl) ?_
      refine lv_iload_n hx hb d_law_328 rfl (lv_at hl 0 rfl) ?_
      refine lv_iconst (v := 1) hx hb d_law_329 (by decide) ?_
      refine lv_iadd hx hb d_law_330 ?_
      refine m_top (y := (nI ((5 * j) + 1))) (nI_add (5 * j) 1) ?_
      refine va_sld hx hb hXs hbl hbA hw.2.1 (vp_in_nI (by omega) (by omega)) d_law_331 ?_
      refine m_top (y := a1) ((congrArg xs (nI_clamp (by omega))).trans ha1.symm) ?_
      refine lv_aload_n hx hb d_law_332 rfl (lv_at hl 1 rfl) ?_
      refine lv_iload_n hx hb d_law_333 rfl (lv_at hl 0 rfl) ?_
      refine lv_iconst (v := 2) hx hb d_law_334 (by decide) ?_
      refine lv_iadd hx hb d_law_335 ?_
      refine m_top (y := (nI ((5 * j) + 2))) (nI_add (5 * j) 2) ?_
      refine va_sld hx hb hXs hbl hbA hw.2.1 (vp_in_nI (by omega) (by omega)) d_law_336 ?_
      refine m_top (y := a2) ((congrArg xs (nI_clamp (by omega))).trans ha2.symm) ?_
      refine lv_aload_n hx hb d_law_337 rfl (lv_at hl 1 rfl) ?_
      refine lv_iload_n hx hb d_law_338 rfl (lv_at hl 0 rfl) ?_
      refine lv_iconst (v := 3) hx hb d_law_339 (by decide) ?_
      refine lv_iadd hx hb d_law_340 ?_
      refine m_top (y := (nI ((5 * j) + 3))) (nI_add (5 * j) 3) ?_
      refine va_sld hx hb hXs hbl hbA hw.2.1 (vp_in_nI (by omega) (by omega)) d_law_341 ?_
      refine m_top (y := a3) ((congrArg xs (nI_clamp (by omega))).trans ha3.symm) ?_
      refine lv_if_eq (tgt := 349) hx hb d_law_342 (by decide) (fun c53 => ?_) (fun c53 => ?_)
      · exact absurd c53 c21
      · refine lv_iconst (v := 1) hx hb d_law_345 (by decide) ?_
        refine lv_goto (tgt := 350) hx hb d_law_346 (by decide) ?_
        refine m_calli hw (m_runV (As := [.int a1, .int a2, .int 1]) (rest := [.int r42]) hc hE hw (c_SM_strict G l H.size g41 hRk (by omega) a1 a2 (al := 1) (by decide)) hmo rfl cw_law_44 se_SM_strict rfl hl.1 rfl (Nat.le_of_ble_eq_true rfl) d_law_350 ⟨rfl, rfl, by decide, by decide⟩ ⟨by dsimp only [room_1]; omega, by dsimp only [room_1]; omega⟩) (fun r56 g55 H locs p54 hw => ?_)
        obtain ⟨hv2, hMR2, hX2⟩ := (p54.2 kt k vv q1 q2 q3 q4 q5).2 h
        obtain ⟨E2, hRg2, hlo2⟩ := hRg1.mx hMR2 hX2
        refine lv_icmp_eq (tgt := 701) hx hb d_law_353 (by decide) (fun c57 => ?_) (fun c57 => ?_)
        · refine W.widen (k := 60 + 100 * (j + 1)) (n := 9600 + 900 * (j + 1)) (by dsimp only; omega) (by dsimp only; omega) ?_
          refine lv_iinc (v := (nI (5 * (j + 1)))) (lv' := [(3, .int (nI (5 * (j + 1)))), (0, .ref b), (1, .ref root), (2, .ref (ad 9))]) hx hb d_law_701 hl (k := 0) rfl (nI_add (5 * j) 5) (by decide) rfl (fun ls hl => ?_)
          refine lv_goto (tgt := 18) hx hb d_law_704 (by decide) ?_
          exact hnext ad E2 g1 g55 root pn pt nn nt mn mt dp rf by_ co tx lx (va_up fl kt (some ((3, vv.2.1, 1 + vv.2.2.1, anS 1 vv.2.2.2.1, TI0) : FV))) ls H locs hRg2 (hSC1.lo hlo2) hMR2 hw (lv_sub hl [0, 1, 2, 3] rfl)
        · refine lv_iconst (v := 0) hx hb d_law_356 (by decide) ?_
          exact absurd (hv1.trans hv2.symm) c57

set_option maxHeartbeats 4000000 in
set_option maxRecDepth 100000 in
theorem law_4 {p : Program} {l : Launch} {e : Env} {s : State} {m : MethodId} {below : List Frame} {meth : Method} {c : Code} {G : GG} {b L : Nat} {xs : Nat → Int32} (hC : LawC p s m meth c G b L xs) {j : Nat} (hj : 5 * j + 5 ≤ L) (hnext : Hd p l e s m below meth c G b (j + 1)) {ad : Nat → Nat} {E : Nat → va_E} {g f : Wd} {root pn : Nat} {pt : Nat → Int32} {nn : Nat} {nt : Nat → Int32} {mn : Nat} {mt : Nat → Int32} {dp rf by_ co tx lx : Int32} {fl : Nat → Option FV} {ls : Array Slot} {H : Heap} {locs : List Loc} (hRg : Rg 25 ad E g f) (hSC : SC G ad E g root pn pt nn nt mn mt dp rf by_ co tx lx fl) (hR : MR G j (ad 9) (fun k => ad (10 + k)) f pn pt nn nt mn mt dp rf by_ co tx lx fl) (hw : ms G.1 (Al s) f s H locs) (hl : lv_has ls 4 [(3, .int (nI (5 * j))), (0, .ref b), (1, .ref root), (2, .ref (ad 9))]) : LG p l e s m below meth c b H locs (60 + 100 * j) (9600 + 900 * j) 256 ls [] := by
  obtain ⟨hc, hr, hlk, hXs, hbl, hE, hL⟩ := hC
  have hx := hc.1
  have hb := hc.2.1
  have hbA : ¬ Al s b := Nat.not_le.mpr hbl
  obtain ⟨a1, ha1⟩ : ∃ z, z = xs (5 * j + 1) := ⟨_, rfl⟩
  obtain ⟨a2, ha2⟩ : ∃ z, z = xs (5 * j + 2) := ⟨_, rfl⟩
  obtain ⟨a3, ha3⟩ : ∃ z, z = xs (5 * j + 3) := ⟨_, rfl⟩
  refine lv_aload_n hx hb d_law_256 rfl (lv_at hl 2 rfl) ?_
  refine lv_aload_n hx hb d_law_257 rfl (lv_at hl 1 rfl) ?_
  refine lv_iload_n hx hb d_law_258 rfl (lv_at hl 0 rfl) ?_
  refine lv_iconst (v := 1) hx hb d_law_259 (by decide) ?_
  refine lv_iadd hx hb d_law_260 ?_
  refine m_top (y := (nI ((5 * j) + 1))) (nI_add (5 * j) 1) ?_
  refine va_sld hx hb hXs hbl hbA hw.2.1 (vp_in_nI (by omega) (by omega)) d_law_261 ?_
  refine m_top (y := a1) ((congrArg xs (nI_clamp (by omega))).trans ha1.symm) ?_
  refine lv_aload_n hx hb d_law_262 rfl (lv_at hl 1 rfl) ?_
  refine lv_iload_n hx hb d_law_263 rfl (lv_at hl 0 rfl) ?_
  refine lv_iconst (v := 2) hx hb d_law_264 (by decide) ?_
  refine lv_iadd hx hb d_law_265 ?_
  refine m_top (y := (nI ((5 * j) + 2))) (nI_add (5 * j) 2) ?_
  refine va_sld hx hb hXs hbl hbA hw.2.1 (vp_in_nI (by omega) (by omega)) d_law_266 ?_
  refine m_top (y := a2) ((congrArg xs (nI_clamp (by omega))).trans ha2.symm) ?_
  refine lv_aload_n hx hb d_law_267 rfl (lv_at hl 1 rfl) ?_
  refine lv_iload_n hx hb d_law_268 rfl (lv_at hl 0 rfl) ?_
  refine lv_iconst (v := 3) hx hb d_law_269 (by decide) ?_
  refine lv_iadd hx hb d_law_270 ?_
  refine m_top (y := (nI ((5 * j) + 3))) (nI_add (5 * j) 3) ?_
  refine va_sld hx hb hXs hbl hbA hw.2.1 (vp_in_nI (by omega) (by omega)) d_law_271 ?_
  refine m_top (y := a3) ((congrArg xs (nI_clamp (by omega))).trans ha3.symm) ?_
  refine m_calli hw (m_runV (As := [.int a1, .int a2, .int a3]) (rest := []) hc hE hw (c_SF_join G l H.size f (N := 25) (by decide) hRg hSC a1 a2 a3) (hRg.2.2.1 _ _ hSC.1) rfl cw_law_35 se_SF_join rfl hl.1 rfl (Nat.le_of_ble_eq_true rfl) d_law_272 ⟨rfl, rfl, by decide, by decide⟩ ⟨by dsimp only [room_1]; omega, by dsimp only [room_1]; omega⟩) (fun r23 g22 H locs p21 hw => ?_)
  have hp1 := p21
  rcases cs_join fl a1 a2 a3 with h | ⟨kt, k, k2, vv, vw, q1, q2, q3, q4, q5, q6, q7, q8, h | h⟩
  · obtain ⟨hv1, E1, g1, hRg1, hgl1, hk1, hSC1⟩ := hp1.1 h
    have hRk := hR.keep hRg hRg1 hk1
    obtain ⟨fsM, hmo⟩ := hRk.mo
    refine lv_aload_n hx hb d_law_275 rfl (lv_at hl 3 rfl) ?_
    refine lv_aload_n hx hb d_law_276 rfl (lv_at hl 1 rfl) ?_
    refine lv_iload_n hx hb d_law_277 rfl (lv_at hl 0 rfl) ?_
    refine lv_iconst (v := 1) hx hb d_law_278 (by decide) ?_
    refine lv_iadd hx hb d_law_279 ?_
    refine m_top (y := (nI ((5 * j) + 1))) (nI_add (5 * j) 1) ?_
    refine va_sld hx hb hXs hbl hbA hw.2.1 (vp_in_nI (by omega) (by omega)) d_law_280 ?_
    refine m_top (y := a1) ((congrArg xs (nI_clamp (by omega))).trans ha1.symm) ?_
    refine lv_aload_n hx hb d_law_281 rfl (lv_at hl 1 rfl) ?_
    refine lv_iload_n hx hb d_law_282 rfl (lv_at hl 0 rfl) ?_
    refine lv_iconst (v := 2) hx hb d_law_283 (by decide) ?_
    refine lv_iadd hx hb d_law_284 ?_
    refine m_top (y := (nI ((5 * j) + 2))) (nI_add (5 * j) 2) ?_
    refine va_sld hx hb hXs hbl hbA hw.2.1 (vp_in_nI (by omega) (by omega)) d_law_285 ?_
    refine m_top (y := a2) ((congrArg xs (nI_clamp (by omega))).trans ha2.symm) ?_
    refine lv_aload_n hx hb d_law_286 rfl (lv_at hl 1 rfl) ?_
    refine lv_iload_n hx hb d_law_287 rfl (lv_at hl 0 rfl) ?_
    refine lv_iconst (v := 3) hx hb d_law_288 (by decide) ?_
    refine lv_iadd hx hb d_law_289 ?_
    refine m_top (y := (nI ((5 * j) + 3))) (nI_add (5 * j) 3) ?_
    refine va_sld hx hb hXs hbl hbA hw.2.1 (vp_in_nI (by omega) (by omega)) d_law_290 ?_
    refine m_top (y := a3) ((congrArg xs (nI_clamp (by omega))).trans ha3.symm) ?_
    refine m_calli hw (m_runV (As := [.int a1, .int a2, .int a3]) (rest := [.int r23]) hc hE hw (c_SM_join G l H.size g22 hRk (by omega) a1 a2 a3) hmo rfl cw_law_39 se_SM_join rfl hl.1 rfl (Nat.le_of_ble_eq_true rfl) d_law_291 ⟨rfl, rfl, by decide, by decide⟩ ⟨by dsimp only [room_1]; omega, by dsimp only [room_1]; omega⟩) (fun r26 g25 H locs p24 hw => ?_)
    obtain ⟨hv2, hMR2, hX2⟩ := p24.1 h
    obtain ⟨E2, hRg2, hlo2⟩ := hRg1.mx hMR2 hX2
    refine lv_icmp_eq (tgt := 701) hx hb d_law_294 (by decide) (fun c27 => ?_) (fun c27 => ?_)
    · refine W.widen (k := 60 + 100 * (j + 1)) (n := 9600 + 900 * (j + 1)) (by dsimp only; omega) (by dsimp only; omega) ?_
      refine lv_iinc (v := (nI (5 * (j + 1)))) (lv' := [(3, .int (nI (5 * (j + 1)))), (0, .ref b), (1, .ref root), (2, .ref (ad 9))]) hx hb d_law_701 hl (k := 0) rfl (nI_add (5 * j) 5) (by decide) rfl (fun ls hl => ?_)
      refine lv_goto (tgt := 18) hx hb d_law_704 (by decide) ?_
      exact hnext ad E2 g1 g25 root pn pt nn nt mn mt dp rf by_ co tx lx fl ls H locs hRg2 (hSC1.lo hlo2) hMR2 hw (lv_sub hl [0, 1, 2, 3] rfl)
    · refine lv_iconst (v := 0) hx hb d_law_297 (by decide) ?_
      exact absurd (hv1.trans hv2.symm) c27
  · obtain ⟨hv1, E1, g1, hRg1, hgl1, hk1, hSC1⟩ := (hp1.2 kt k k2 vv vw q1 q2 q3 q4 q5 q6 q7 q8).1 h
    have hRk := hR.keep hRg hRg1 hk1
    obtain ⟨fsM, hmo⟩ := hRk.mo
    refine lv_aload_n hx hb d_law_275 rfl (lv_at hl 3 rfl) ?_
    refine lv_aload_n hx hb d_law_276 rfl (lv_at hl 1 rfl) ?_
    refine lv_iload_n hx hb d_law_277 rfl (lv_at hl 0 rfl) ?_
    refine lv_iconst (v := 1) hx hb d_law_278 (by decide) ?_
    refine lv_iadd hx hb d_law_279 ?_
    refine m_top (y := (nI ((5 * j) + 1))) (nI_add (5 * j) 1) ?_
    refine va_sld hx hb hXs hbl hbA hw.2.1 (vp_in_nI (by omega) (by omega)) d_law_280 ?_
    refine m_top (y := a1) ((congrArg xs (nI_clamp (by omega))).trans ha1.symm) ?_
    refine lv_aload_n hx hb d_law_281 rfl (lv_at hl 1 rfl) ?_
    refine lv_iload_n hx hb d_law_282 rfl (lv_at hl 0 rfl) ?_
    refine lv_iconst (v := 2) hx hb d_law_283 (by decide) ?_
    refine lv_iadd hx hb d_law_284 ?_
    refine m_top (y := (nI ((5 * j) + 2))) (nI_add (5 * j) 2) ?_
    refine va_sld hx hb hXs hbl hbA hw.2.1 (vp_in_nI (by omega) (by omega)) d_law_285 ?_
    refine m_top (y := a2) ((congrArg xs (nI_clamp (by omega))).trans ha2.symm) ?_
    refine lv_aload_n hx hb d_law_286 rfl (lv_at hl 1 rfl) ?_
    refine lv_iload_n hx hb d_law_287 rfl (lv_at hl 0 rfl) ?_
    refine lv_iconst (v := 3) hx hb d_law_288 (by decide) ?_
    refine lv_iadd hx hb d_law_289 ?_
    refine m_top (y := (nI ((5 * j) + 3))) (nI_add (5 * j) 3) ?_
    refine va_sld hx hb hXs hbl hbA hw.2.1 (vp_in_nI (by omega) (by omega)) d_law_290 ?_
    refine m_top (y := a3) ((congrArg xs (nI_clamp (by omega))).trans ha3.symm) ?_
    refine m_calli hw (m_runV (As := [.int a1, .int a2, .int a3]) (rest := [.int r23]) hc hE hw (c_SM_join G l H.size g22 hRk (by omega) a1 a2 a3) hmo rfl cw_law_39 se_SM_join rfl hl.1 rfl (Nat.le_of_ble_eq_true rfl) d_law_291 ⟨rfl, rfl, by decide, by decide⟩ ⟨by dsimp only [room_1]; omega, by dsimp only [room_1]; omega⟩) (fun r30 g29 H locs p28 hw => ?_)
    obtain ⟨hv2, hMR2, hX2⟩ := (p28.2 kt k k2 vv vw q1 q2 q3 q4 q5 q6 q7 q8).1 h
    obtain ⟨E2, hRg2, hlo2⟩ := hRg1.mx hMR2 hX2
    refine lv_icmp_eq (tgt := 701) hx hb d_law_294 (by decide) (fun c31 => ?_) (fun c31 => ?_)
    · refine W.widen (k := 60 + 100 * (j + 1)) (n := 9600 + 900 * (j + 1)) (by dsimp only; omega) (by dsimp only; omega) ?_
      refine lv_iinc (v := (nI (5 * (j + 1)))) (lv' := [(3, .int (nI (5 * (j + 1)))), (0, .ref b), (1, .ref root), (2, .ref (ad 9))]) hx hb d_law_701 hl (k := 0) rfl (nI_add (5 * j) 5) (by decide) rfl (fun ls hl => ?_)
      refine lv_goto (tgt := 18) hx hb d_law_704 (by decide) ?_
      exact hnext ad E2 g1 g29 root pn pt nn nt mn mt dp rf by_ co tx lx fl ls H locs hRg2 (hSC1.lo hlo2) hMR2 hw (lv_sub hl [0, 1, 2, 3] rfl)
    · refine lv_iconst (v := 0) hx hb d_law_297 (by decide) ?_
      exact absurd (hv1.trans hv2.symm) c31
  · obtain ⟨hv1, E1, g1, hRg1, hgl1, hk1, hSC1⟩ := (hp1.2 kt k k2 vv vw q1 q2 q3 q4 q5 q6 q7 q8).2 h
    have hRk := hR.keep hRg hRg1 hk1
    obtain ⟨fsM, hmo⟩ := hRk.mo
    refine lv_aload_n hx hb d_law_275 rfl (lv_at hl 3 rfl) ?_
    refine lv_aload_n hx hb d_law_276 rfl (lv_at hl 1 rfl) ?_
    refine lv_iload_n hx hb d_law_277 rfl (lv_at hl 0 rfl) ?_
    refine lv_iconst (v := 1) hx hb d_law_278 (by decide) ?_
    refine lv_iadd hx hb d_law_279 ?_
    refine m_top (y := (nI ((5 * j) + 1))) (nI_add (5 * j) 1) ?_
    refine va_sld hx hb hXs hbl hbA hw.2.1 (vp_in_nI (by omega) (by omega)) d_law_280 ?_
    refine m_top (y := a1) ((congrArg xs (nI_clamp (by omega))).trans ha1.symm) ?_
    refine lv_aload_n hx hb d_law_281 rfl (lv_at hl 1 rfl) ?_
    refine lv_iload_n hx hb d_law_282 rfl (lv_at hl 0 rfl) ?_
    refine lv_iconst (v := 2) hx hb d_law_283 (by decide) ?_
    refine lv_iadd hx hb d_law_284 ?_
    refine m_top (y := (nI ((5 * j) + 2))) (nI_add (5 * j) 2) ?_
    refine va_sld hx hb hXs hbl hbA hw.2.1 (vp_in_nI (by omega) (by omega)) d_law_285 ?_
    refine m_top (y := a2) ((congrArg xs (nI_clamp (by omega))).trans ha2.symm) ?_
    refine lv_aload_n hx hb d_law_286 rfl (lv_at hl 1 rfl) ?_
    refine lv_iload_n hx hb d_law_287 rfl (lv_at hl 0 rfl) ?_
    refine lv_iconst (v := 3) hx hb d_law_288 (by decide) ?_
    refine lv_iadd hx hb d_law_289 ?_
    refine m_top (y := (nI ((5 * j) + 3))) (nI_add (5 * j) 3) ?_
    refine va_sld hx hb hXs hbl hbA hw.2.1 (vp_in_nI (by omega) (by omega)) d_law_290 ?_
    refine m_top (y := a3) ((congrArg xs (nI_clamp (by omega))).trans ha3.symm) ?_
    refine m_calli hw (m_runV (As := [.int a1, .int a2, .int a3]) (rest := [.int r23]) hc hE hw (c_SM_join G l H.size g22 hRk (by omega) a1 a2 a3) hmo rfl cw_law_39 se_SM_join rfl hl.1 rfl (Nat.le_of_ble_eq_true rfl) d_law_291 ⟨rfl, rfl, by decide, by decide⟩ ⟨by dsimp only [room_1]; omega, by dsimp only [room_1]; omega⟩) (fun r34 g33 H locs p32 hw => ?_)
    obtain ⟨hv2, hMR2, hX2⟩ := (p32.2 kt k k2 vv vw q1 q2 q3 q4 q5 q6 q7 q8).2 h
    obtain ⟨E2, hRg2, hlo2⟩ := hRg1.mx hMR2 hX2
    refine lv_icmp_eq (tgt := 701) hx hb d_law_294 (by decide) (fun c35 => ?_) (fun c35 => ?_)
    · refine W.widen (k := 60 + 100 * (j + 1)) (n := 9600 + 900 * (j + 1)) (by dsimp only; omega) (by dsimp only; omega) ?_
      refine lv_iinc (v := (nI (5 * (j + 1)))) (lv' := [(3, .int (nI (5 * (j + 1)))), (0, .ref b), (1, .ref root), (2, .ref (ad 9))]) hx hb d_law_701 hl (k := 0) rfl (nI_add (5 * j) 5) (by decide) rfl (fun ls hl => ?_)
      refine lv_goto (tgt := 18) hx hb d_law_704 (by decide) ?_
      exact hnext ad E2 g1 g33 root pn pt nn nt mn mt dp rf by_ co tx lx (va_up fl kt (some ((2, vv.2.1 + vw.2.1, 1 + mxh vv.2.2.1 vw.2.2.1, anJ vv.2.2.2.1 vw.2.2.2.1, TI0) : FV))) ls H locs hRg2 (hSC1.lo hlo2) hMR2 hw (lv_sub hl [0, 1, 2, 3] rfl)
    · refine lv_iconst (v := 0) hx hb d_law_297 (by decide) ?_
      exact absurd (hv1.trans hv2.symm) c35

set_option maxHeartbeats 4000000 in
set_option maxRecDepth 100000 in
theorem law_2 {p : Program} {l : Launch} {e : Env} {s : State} {m : MethodId} {below : List Frame} {meth : Method} {c : Code} {G : GG} {b L : Nat} {xs : Nat → Int32} (hC : LawC p s m meth c G b L xs) {j : Nat} (hj : 5 * j + 5 ≤ L) (hnext : Hd p l e s m below meth c G b (j + 1)) {ad : Nat → Nat} {E : Nat → va_E} {g f : Wd} {root pn : Nat} {pt : Nat → Int32} {nn : Nat} {nt : Nat → Int32} {mn : Nat} {mt : Nat → Int32} {dp rf by_ co tx lx : Int32} {fl : Nat → Option FV} {ls : Array Slot} {H : Heap} {locs : List Loc} (hRg : Rg 25 ad E g f) (hSC : SC G ad E g root pn pt nn nt mn mt dp rf by_ co tx lx fl) (hR : MR G j (ad 9) (fun k => ad (10 + k)) f pn pt nn nt mn mt dp rf by_ co tx lx fl) (hw : ms G.1 (Al s) f s H locs) (hl : lv_has ls 4 [(3, .int (nI (5 * j))), (0, .ref b), (1, .ref root), (2, .ref (ad 9))]) : LG p l e s m below meth c b H locs (60 + 100 * j) (9600 + 900 * j) 194 ls [] := by
  obtain ⟨hc, hr, hlk, hXs, hbl, hE, hL⟩ := hC
  have hx := hc.1
  have hb := hc.2.1
  have hbA : ¬ Al s b := Nat.not_le.mpr hbl
  obtain ⟨a1, ha1⟩ : ∃ z, z = xs (5 * j + 1) := ⟨_, rfl⟩
  obtain ⟨a2, ha2⟩ : ∃ z, z = xs (5 * j + 2) := ⟨_, rfl⟩
  refine lv_aload_n hx hb d_law_194 rfl (lv_at hl 2 rfl) ?_
  refine lv_aload_n hx hb d_law_195 rfl (lv_at hl 1 rfl) ?_
  refine lv_iload_n hx hb d_law_196 rfl (lv_at hl 0 rfl) ?_
  refine lv_iconst (v := 1) hx hb d_law_197 (by decide) ?_
  refine lv_iadd hx hb d_law_198 ?_
  refine m_top (y := (nI ((5 * j) + 1))) (nI_add (5 * j) 1) ?_
  refine va_sld hx hb hXs hbl hbA hw.2.1 (vp_in_nI (by omega) (by omega)) d_law_199 ?_
  refine m_top (y := a1) ((congrArg xs (nI_clamp (by omega))).trans ha1.symm) ?_
  refine lv_aload_n hx hb d_law_200 rfl (lv_at hl 1 rfl) ?_
  refine lv_iload_n hx hb d_law_201 rfl (lv_at hl 0 rfl) ?_
  refine lv_iconst (v := 2) hx hb d_law_202 (by decide) ?_
  refine lv_iadd hx hb d_law_203 ?_
  refine m_top (y := (nI ((5 * j) + 2))) (nI_add (5 * j) 2) ?_
  refine va_sld hx hb hXs hbl hbA hw.2.1 (vp_in_nI (by omega) (by omega)) d_law_204 ?_
  refine m_top (y := a2) ((congrArg xs (nI_clamp (by omega))).trans ha2.symm) ?_
  refine lv_if_eq (tgt := 212) hx hb d_law_205 (by decide) (fun c21 => ?_) (fun c21 => ?_)
  · refine lv_iconst (v := 0) hx hb d_law_212 (by decide) ?_
    refine m_calli hw (m_runV (As := [.int a1, .int 0]) (rest := []) hc hE hw (c_SF_read G l H.size f (N := 25) (by decide) hRg hSC a1 (bs := 0) (by decide)) (hRg.2.2.1 _ _ hSC.1) rfl cw_law_25 se_SF_read rfl hl.1 rfl (Nat.le_of_ble_eq_true rfl) d_law_213 ⟨rfl, rfl, by decide, by decide⟩ ⟨by dsimp only [room_1]; omega, by dsimp only [room_1]; omega⟩) (fun r24 g23 H locs p22 hw => ?_)
    have hp1 := p22
    rcases cs_read a1 (fbk pt pn (npc pt pn) 0) with h | ⟨h, q⟩ | ⟨kt, q1, q2, q3⟩
    · obtain ⟨hv1, E1, g1, hRg1, hgl1, hk1, hSC1⟩ := hp1.1 h
      have hRk := hR.keep hRg hRg1 hk1
      obtain ⟨fsM, hmo⟩ := hRk.mo
      refine lv_aload_n hx hb d_law_216 rfl (lv_at hl 3 rfl) ?_
      refine lv_aload_n hx hb d_law_217 rfl (lv_at hl 1 rfl) ?_
      refine lv_iload_n hx hb d_law_218 rfl (lv_at hl 0 rfl) ?_
      refine lv_iconst (v := 1) hx hb d_law_219 (by decide) ?_
      refine lv_iadd hx hb d_law_220 ?_
      refine m_top (y := (nI ((5 * j) + 1))) (nI_add (5 * j) 1) ?_
      refine va_sld hx hb hXs hbl hbA hw.2.1 (vp_in_nI (by omega) (by omega)) d_law_221 ?_
      refine m_top (y := a1) ((congrArg xs (nI_clamp (by omega))).trans ha1.symm) ?_
      refine lv_aload_n hx hb d_law_222 rfl (lv_at hl 1 rfl) ?_
      refine lv_iload_n hx hb d_law_223 rfl (lv_at hl 0 rfl) ?_
      refine lv_iconst (v := 2) hx hb d_law_224 (by decide) ?_
      refine lv_iadd hx hb d_law_225 ?_
      refine m_top (y := (nI ((5 * j) + 2))) (nI_add (5 * j) 2) ?_
      refine va_sld hx hb hXs hbl hbA hw.2.1 (vp_in_nI (by omega) (by omega)) d_law_226 ?_
      refine m_top (y := a2) ((congrArg xs (nI_clamp (by omega))).trans ha2.symm) ?_
      refine lv_if_eq (tgt := 234) hx hb d_law_227 (by decide) (fun c25 => ?_) (fun c25 => ?_)
      · refine lv_iconst (v := 0) hx hb d_law_234 (by decide) ?_
        refine m_calli hw (m_runV (As := [.int a1, .int 0]) (rest := [.int r24]) hc hE hw (c_SM_read G l H.size g23 hRk (by omega) a1 (bs := 0) (by decide)) hmo rfl cw_law_29 se_SM_read rfl hl.1 rfl (Nat.le_of_ble_eq_true rfl) d_law_235 ⟨rfl, rfl, by decide, by decide⟩ ⟨by dsimp only [room_1]; omega, by dsimp only [room_1]; omega⟩) (fun r28 g27 H locs p26 hw => ?_)
        obtain ⟨hv2, hMR2, hX2⟩ := p26.1 h
        obtain ⟨E2, hRg2, hlo2⟩ := hRg1.mx hMR2 hX2
        refine lv_icmp_eq (tgt := 701) hx hb d_law_238 (by decide) (fun c29 => ?_) (fun c29 => ?_)
        · refine W.widen (k := 60 + 100 * (j + 1)) (n := 9600 + 900 * (j + 1)) (by dsimp only; omega) (by dsimp only; omega) ?_
          refine lv_iinc (v := (nI (5 * (j + 1)))) (lv' := [(3, .int (nI (5 * (j + 1)))), (0, .ref b), (1, .ref root), (2, .ref (ad 9))]) hx hb d_law_701 hl (k := 0) rfl (nI_add (5 * j) 5) (by decide) rfl (fun ls hl => ?_)
          refine lv_goto (tgt := 18) hx hb d_law_704 (by decide) ?_
          exact hnext ad E2 g1 g27 root pn pt nn nt mn mt dp rf by_ co tx lx fl ls H locs hRg2 (hSC1.lo hlo2) hMR2 hw (lv_sub hl [0, 1, 2, 3] rfl)
        · refine lv_iconst (v := 0) hx hb d_law_241 (by decide) ?_
          exact absurd (hv1.trans hv2.symm) c29
      · exact absurd c21 c25
    · obtain ⟨hv1, E1, g1, hRg1, hgl1, hk1, hSC1⟩ := hp1.2.1 h q
      have hRk := hR.keep hRg hRg1 hk1
      obtain ⟨fsM, hmo⟩ := hRk.mo
      refine lv_aload_n hx hb d_law_216 rfl (lv_at hl 3 rfl) ?_
      refine lv_aload_n hx hb d_law_217 rfl (lv_at hl 1 rfl) ?_
      refine lv_iload_n hx hb d_law_218 rfl (lv_at hl 0 rfl) ?_
      refine lv_iconst (v := 1) hx hb d_law_219 (by decide) ?_
      refine lv_iadd hx hb d_law_220 ?_
      refine m_top (y := (nI ((5 * j) + 1))) (nI_add (5 * j) 1) ?_
      refine va_sld hx hb hXs hbl hbA hw.2.1 (vp_in_nI (by omega) (by omega)) d_law_221 ?_
      refine m_top (y := a1) ((congrArg xs (nI_clamp (by omega))).trans ha1.symm) ?_
      refine lv_aload_n hx hb d_law_222 rfl (lv_at hl 1 rfl) ?_
      refine lv_iload_n hx hb d_law_223 rfl (lv_at hl 0 rfl) ?_
      refine lv_iconst (v := 2) hx hb d_law_224 (by decide) ?_
      refine lv_iadd hx hb d_law_225 ?_
      refine m_top (y := (nI ((5 * j) + 2))) (nI_add (5 * j) 2) ?_
      refine va_sld hx hb hXs hbl hbA hw.2.1 (vp_in_nI (by omega) (by omega)) d_law_226 ?_
      refine m_top (y := a2) ((congrArg xs (nI_clamp (by omega))).trans ha2.symm) ?_
      refine lv_if_eq (tgt := 234) hx hb d_law_227 (by decide) (fun c30 => ?_) (fun c30 => ?_)
      · refine lv_iconst (v := 0) hx hb d_law_234 (by decide) ?_
        refine m_calli hw (m_runV (As := [.int a1, .int 0]) (rest := [.int r24]) hc hE hw (c_SM_read G l H.size g23 hRk (by omega) a1 (bs := 0) (by decide)) hmo rfl cw_law_29 se_SM_read rfl hl.1 rfl (Nat.le_of_ble_eq_true rfl) d_law_235 ⟨rfl, rfl, by decide, by decide⟩ ⟨by dsimp only [room_1]; omega, by dsimp only [room_1]; omega⟩) (fun r33 g32 H locs p31 hw => ?_)
        obtain ⟨hv2, hMR2, hX2⟩ := p31.2.1 h q
        obtain ⟨E2, hRg2, hlo2⟩ := hRg1.mx hMR2 hX2
        refine lv_icmp_eq (tgt := 701) hx hb d_law_238 (by decide) (fun c34 => ?_) (fun c34 => ?_)
        · refine W.widen (k := 60 + 100 * (j + 1)) (n := 9600 + 900 * (j + 1)) (by dsimp only; omega) (by dsimp only; omega) ?_
          refine lv_iinc (v := (nI (5 * (j + 1)))) (lv' := [(3, .int (nI (5 * (j + 1)))), (0, .ref b), (1, .ref root), (2, .ref (ad 9))]) hx hb d_law_701 hl (k := 0) rfl (nI_add (5 * j) 5) (by decide) rfl (fun ls hl => ?_)
          refine lv_goto (tgt := 18) hx hb d_law_704 (by decide) ?_
          exact hnext ad E2 g1 g32 root pn pt nn nt mn mt dp rf by_ co tx lx fl ls H locs hRg2 (hSC1.lo hlo2) hMR2 hw (lv_sub hl [0, 1, 2, 3] rfl)
        · refine lv_iconst (v := 0) hx hb d_law_241 (by decide) ?_
          exact absurd (hv1.trans hv2.symm) c34
      · exact absurd c21 c30
    · obtain ⟨lm, hlm, hv1, E1, g1, hRg1, hgl1, hk1, hSC1⟩ := hp1.2.2 kt q1 q2 q3
      have hlm2 := hlm
      have hRk := hR.keep hRg hRg1 hk1
      obtain ⟨fsM, hmo⟩ := hRk.mo
      refine lv_aload_n hx hb d_law_216 rfl (lv_at hl 3 rfl) ?_
      refine lv_aload_n hx hb d_law_217 rfl (lv_at hl 1 rfl) ?_
      refine lv_iload_n hx hb d_law_218 rfl (lv_at hl 0 rfl) ?_
      refine lv_iconst (v := 1) hx hb d_law_219 (by decide) ?_
      refine lv_iadd hx hb d_law_220 ?_
      refine m_top (y := (nI ((5 * j) + 1))) (nI_add (5 * j) 1) ?_
      refine va_sld hx hb hXs hbl hbA hw.2.1 (vp_in_nI (by omega) (by omega)) d_law_221 ?_
      refine m_top (y := a1) ((congrArg xs (nI_clamp (by omega))).trans ha1.symm) ?_
      refine lv_aload_n hx hb d_law_222 rfl (lv_at hl 1 rfl) ?_
      refine lv_iload_n hx hb d_law_223 rfl (lv_at hl 0 rfl) ?_
      refine lv_iconst (v := 2) hx hb d_law_224 (by decide) ?_
      refine lv_iadd hx hb d_law_225 ?_
      refine m_top (y := (nI ((5 * j) + 2))) (nI_add (5 * j) 2) ?_
      refine va_sld hx hb hXs hbl hbA hw.2.1 (vp_in_nI (by omega) (by omega)) d_law_226 ?_
      refine m_top (y := a2) ((congrArg xs (nI_clamp (by omega))).trans ha2.symm) ?_
      refine lv_if_eq (tgt := 234) hx hb d_law_227 (by decide) (fun c35 => ?_) (fun c35 => ?_)
      · refine lv_iconst (v := 0) hx hb d_law_234 (by decide) ?_
        refine m_calli hw (m_runV (As := [.int a1, .int 0]) (rest := [.int r24]) hc hE hw (c_SM_read G l H.size g23 hRk (by omega) a1 (bs := 0) (by decide)) hmo rfl cw_law_29 se_SM_read rfl hl.1 rfl (Nat.le_of_ble_eq_true rfl) d_law_235 ⟨rfl, rfl, by decide, by decide⟩ ⟨by dsimp only [room_1]; omega, by dsimp only [room_1]; omega⟩) (fun r38 g37 H locs p36 hw => ?_)
        obtain ⟨hv2, hMR2, hX2⟩ := p36.2.2 kt q1 q2 q3 lm hlm
        obtain ⟨E2, hRg2, hlo2⟩ := hRg1.mx hMR2 hX2
        refine lv_icmp_eq (tgt := 701) hx hb d_law_238 (by decide) (fun c39 => ?_) (fun c39 => ?_)
        · refine W.widen (k := 60 + 100 * (j + 1)) (n := 9600 + 900 * (j + 1)) (by dsimp only; omega) (by dsimp only; omega) ?_
          refine lv_iinc (v := (nI (5 * (j + 1)))) (lv' := [(3, .int (nI (5 * (j + 1)))), (0, .ref b), (1, .ref root), (2, .ref (ad 9))]) hx hb d_law_701 hl (k := 0) rfl (nI_add (5 * j) 5) (by decide) rfl (fun ls hl => ?_)
          refine lv_goto (tgt := 18) hx hb d_law_704 (by decide) ?_
          exact hnext ad E2 g1 g37 root pn pt nn nt mn mt dp rf by_ co tx lx (va_up fl kt (some ((1, 1, 1, anT 0 lm (clsU pt pn (npc pt pn)).length (Mt pt pn) (Vt pt pn), (clsU pt pn (npc pt pn)).length, lm, 0, Vt pt pn, Sht pt pn) : FV))) ls H locs hRg2 (hSC1.lo hlo2) hMR2 hw (lv_sub hl [0, 1, 2, 3] rfl)
        · refine lv_iconst (v := 0) hx hb d_law_241 (by decide) ?_
          exact absurd (hv1.trans hv2.symm) c39
      · exact absurd c21 c35
  · refine lv_iconst (v := 1) hx hb d_law_208 (by decide) ?_
    refine lv_goto (tgt := 213) hx hb d_law_209 (by decide) ?_
    refine m_calli hw (m_runV (As := [.int a1, .int 1]) (rest := []) hc hE hw (c_SF_read G l H.size f (N := 25) (by decide) hRg hSC a1 (bs := 1) (by decide)) (hRg.2.2.1 _ _ hSC.1) rfl cw_law_25 se_SF_read rfl hl.1 rfl (Nat.le_of_ble_eq_true rfl) d_law_213 ⟨rfl, rfl, by decide, by decide⟩ ⟨by dsimp only [room_1]; omega, by dsimp only [room_1]; omega⟩) (fun r42 g41 H locs p40 hw => ?_)
    have hp1 := p40
    rcases cs_read a1 (fbk pt pn (npc pt pn) 0) with h | ⟨h, q⟩ | ⟨kt, q1, q2, q3⟩
    · obtain ⟨hv1, E1, g1, hRg1, hgl1, hk1, hSC1⟩ := hp1.1 h
      have hRk := hR.keep hRg hRg1 hk1
      obtain ⟨fsM, hmo⟩ := hRk.mo
      refine lv_aload_n hx hb d_law_216 rfl (lv_at hl 3 rfl) ?_
      refine lv_aload_n hx hb d_law_217 rfl (lv_at hl 1 rfl) ?_
      refine lv_iload_n hx hb d_law_218 rfl (lv_at hl 0 rfl) ?_
      refine lv_iconst (v := 1) hx hb d_law_219 (by decide) ?_
      refine lv_iadd hx hb d_law_220 ?_
      refine m_top (y := (nI ((5 * j) + 1))) (nI_add (5 * j) 1) ?_
      refine va_sld hx hb hXs hbl hbA hw.2.1 (vp_in_nI (by omega) (by omega)) d_law_221 ?_
      refine m_top (y := a1) ((congrArg xs (nI_clamp (by omega))).trans ha1.symm) ?_
      refine lv_aload_n hx hb d_law_222 rfl (lv_at hl 1 rfl) ?_
      refine lv_iload_n hx hb d_law_223 rfl (lv_at hl 0 rfl) ?_
      refine lv_iconst (v := 2) hx hb d_law_224 (by decide) ?_
      refine lv_iadd hx hb d_law_225 ?_
      refine m_top (y := (nI ((5 * j) + 2))) (nI_add (5 * j) 2) ?_
      refine va_sld hx hb hXs hbl hbA hw.2.1 (vp_in_nI (by omega) (by omega)) d_law_226 ?_
      refine m_top (y := a2) ((congrArg xs (nI_clamp (by omega))).trans ha2.symm) ?_
      refine lv_if_eq (tgt := 234) hx hb d_law_227 (by decide) (fun c43 => ?_) (fun c43 => ?_)
      · exact absurd c43 c21
      · refine lv_iconst (v := 1) hx hb d_law_230 (by decide) ?_
        refine lv_goto (tgt := 235) hx hb d_law_231 (by decide) ?_
        refine m_calli hw (m_runV (As := [.int a1, .int 1]) (rest := [.int r42]) hc hE hw (c_SM_read G l H.size g41 hRk (by omega) a1 (bs := 1) (by decide)) hmo rfl cw_law_29 se_SM_read rfl hl.1 rfl (Nat.le_of_ble_eq_true rfl) d_law_235 ⟨rfl, rfl, by decide, by decide⟩ ⟨by dsimp only [room_1]; omega, by dsimp only [room_1]; omega⟩) (fun r46 g45 H locs p44 hw => ?_)
        obtain ⟨hv2, hMR2, hX2⟩ := p44.1 h
        obtain ⟨E2, hRg2, hlo2⟩ := hRg1.mx hMR2 hX2
        refine lv_icmp_eq (tgt := 701) hx hb d_law_238 (by decide) (fun c47 => ?_) (fun c47 => ?_)
        · refine W.widen (k := 60 + 100 * (j + 1)) (n := 9600 + 900 * (j + 1)) (by dsimp only; omega) (by dsimp only; omega) ?_
          refine lv_iinc (v := (nI (5 * (j + 1)))) (lv' := [(3, .int (nI (5 * (j + 1)))), (0, .ref b), (1, .ref root), (2, .ref (ad 9))]) hx hb d_law_701 hl (k := 0) rfl (nI_add (5 * j) 5) (by decide) rfl (fun ls hl => ?_)
          refine lv_goto (tgt := 18) hx hb d_law_704 (by decide) ?_
          exact hnext ad E2 g1 g45 root pn pt nn nt mn mt dp rf by_ co tx lx fl ls H locs hRg2 (hSC1.lo hlo2) hMR2 hw (lv_sub hl [0, 1, 2, 3] rfl)
        · refine lv_iconst (v := 0) hx hb d_law_241 (by decide) ?_
          exact absurd (hv1.trans hv2.symm) c47
    · obtain ⟨hv1, E1, g1, hRg1, hgl1, hk1, hSC1⟩ := hp1.2.1 h q
      have hRk := hR.keep hRg hRg1 hk1
      obtain ⟨fsM, hmo⟩ := hRk.mo
      refine lv_aload_n hx hb d_law_216 rfl (lv_at hl 3 rfl) ?_
      refine lv_aload_n hx hb d_law_217 rfl (lv_at hl 1 rfl) ?_
      refine lv_iload_n hx hb d_law_218 rfl (lv_at hl 0 rfl) ?_
      refine lv_iconst (v := 1) hx hb d_law_219 (by decide) ?_
      refine lv_iadd hx hb d_law_220 ?_
      refine m_top (y := (nI ((5 * j) + 1))) (nI_add (5 * j) 1) ?_
      refine va_sld hx hb hXs hbl hbA hw.2.1 (vp_in_nI (by omega) (by omega)) d_law_221 ?_
      refine m_top (y := a1) ((congrArg xs (nI_clamp (by omega))).trans ha1.symm) ?_
      refine lv_aload_n hx hb d_law_222 rfl (lv_at hl 1 rfl) ?_
      refine lv_iload_n hx hb d_law_223 rfl (lv_at hl 0 rfl) ?_
      refine lv_iconst (v := 2) hx hb d_law_224 (by decide) ?_
      refine lv_iadd hx hb d_law_225 ?_
      refine m_top (y := (nI ((5 * j) + 2))) (nI_add (5 * j) 2) ?_
      refine va_sld hx hb hXs hbl hbA hw.2.1 (vp_in_nI (by omega) (by omega)) d_law_226 ?_
      refine m_top (y := a2) ((congrArg xs (nI_clamp (by omega))).trans ha2.symm) ?_
      refine lv_if_eq (tgt := 234) hx hb d_law_227 (by decide) (fun c48 => ?_) (fun c48 => ?_)
      · exact absurd c48 c21
      · refine lv_iconst (v := 1) hx hb d_law_230 (by decide) ?_
        refine lv_goto (tgt := 235) hx hb d_law_231 (by decide) ?_
        refine m_calli hw (m_runV (As := [.int a1, .int 1]) (rest := [.int r42]) hc hE hw (c_SM_read G l H.size g41 hRk (by omega) a1 (bs := 1) (by decide)) hmo rfl cw_law_29 se_SM_read rfl hl.1 rfl (Nat.le_of_ble_eq_true rfl) d_law_235 ⟨rfl, rfl, by decide, by decide⟩ ⟨by dsimp only [room_1]; omega, by dsimp only [room_1]; omega⟩) (fun r51 g50 H locs p49 hw => ?_)
        obtain ⟨hv2, hMR2, hX2⟩ := p49.2.1 h q
        obtain ⟨E2, hRg2, hlo2⟩ := hRg1.mx hMR2 hX2
        refine lv_icmp_eq (tgt := 701) hx hb d_law_238 (by decide) (fun c52 => ?_) (fun c52 => ?_)
        · refine W.widen (k := 60 + 100 * (j + 1)) (n := 9600 + 900 * (j + 1)) (by dsimp only; omega) (by dsimp only; omega) ?_
          refine lv_iinc (v := (nI (5 * (j + 1)))) (lv' := [(3, .int (nI (5 * (j + 1)))), (0, .ref b), (1, .ref root), (2, .ref (ad 9))]) hx hb d_law_701 hl (k := 0) rfl (nI_add (5 * j) 5) (by decide) rfl (fun ls hl => ?_)
          refine lv_goto (tgt := 18) hx hb d_law_704 (by decide) ?_
          exact hnext ad E2 g1 g50 root pn pt nn nt mn mt dp rf by_ co tx lx fl ls H locs hRg2 (hSC1.lo hlo2) hMR2 hw (lv_sub hl [0, 1, 2, 3] rfl)
        · refine lv_iconst (v := 0) hx hb d_law_241 (by decide) ?_
          exact absurd (hv1.trans hv2.symm) c52
    · obtain ⟨lm, hlm, hv1, E1, g1, hRg1, hgl1, hk1, hSC1⟩ := hp1.2.2 kt q1 q2 q3
      have hlm2 := hlm
      have hRk := hR.keep hRg hRg1 hk1
      obtain ⟨fsM, hmo⟩ := hRk.mo
      refine lv_aload_n hx hb d_law_216 rfl (lv_at hl 3 rfl) ?_
      refine lv_aload_n hx hb d_law_217 rfl (lv_at hl 1 rfl) ?_
      refine lv_iload_n hx hb d_law_218 rfl (lv_at hl 0 rfl) ?_
      refine lv_iconst (v := 1) hx hb d_law_219 (by decide) ?_
      refine lv_iadd hx hb d_law_220 ?_
      refine m_top (y := (nI ((5 * j) + 1))) (nI_add (5 * j) 1) ?_
      refine va_sld hx hb hXs hbl hbA hw.2.1 (vp_in_nI (by omega) (by omega)) d_law_221 ?_
      refine m_top (y := a1) ((congrArg xs (nI_clamp (by omega))).trans ha1.symm) ?_
      refine lv_aload_n hx hb d_law_222 rfl (lv_at hl 1 rfl) ?_
      refine lv_iload_n hx hb d_law_223 rfl (lv_at hl 0 rfl) ?_
      refine lv_iconst (v := 2) hx hb d_law_224 (by decide) ?_
      refine lv_iadd hx hb d_law_225 ?_
      refine m_top (y := (nI ((5 * j) + 2))) (nI_add (5 * j) 2) ?_
      refine va_sld hx hb hXs hbl hbA hw.2.1 (vp_in_nI (by omega) (by omega)) d_law_226 ?_
      refine m_top (y := a2) ((congrArg xs (nI_clamp (by omega))).trans ha2.symm) ?_
      refine lv_if_eq (tgt := 234) hx hb d_law_227 (by decide) (fun c53 => ?_) (fun c53 => ?_)
      · exact absurd c53 c21
      · refine lv_iconst (v := 1) hx hb d_law_230 (by decide) ?_
        refine lv_goto (tgt := 235) hx hb d_law_231 (by decide) ?_
        refine m_calli hw (m_runV (As := [.int a1, .int 1]) (rest := [.int r42]) hc hE hw (c_SM_read G l H.size g41 hRk (by omega) a1 (bs := 1) (by decide)) hmo rfl cw_law_29 se_SM_read rfl hl.1 rfl (Nat.le_of_ble_eq_true rfl) d_law_235 ⟨rfl, rfl, by decide, by decide⟩ ⟨by dsimp only [room_1]; omega, by dsimp only [room_1]; omega⟩) (fun r56 g55 H locs p54 hw => ?_)
        obtain ⟨hv2, hMR2, hX2⟩ := p54.2.2 kt q1 q2 q3 lm hlm
        obtain ⟨E2, hRg2, hlo2⟩ := hRg1.mx hMR2 hX2
        refine lv_icmp_eq (tgt := 701) hx hb d_law_238 (by decide) (fun c57 => ?_) (fun c57 => ?_)
        · refine W.widen (k := 60 + 100 * (j + 1)) (n := 9600 + 900 * (j + 1)) (by dsimp only; omega) (by dsimp only; omega) ?_
          refine lv_iinc (v := (nI (5 * (j + 1)))) (lv' := [(3, .int (nI (5 * (j + 1)))), (0, .ref b), (1, .ref root), (2, .ref (ad 9))]) hx hb d_law_701 hl (k := 0) rfl (nI_add (5 * j) 5) (by decide) rfl (fun ls hl => ?_)
          refine lv_goto (tgt := 18) hx hb d_law_704 (by decide) ?_
          exact hnext ad E2 g1 g55 root pn pt nn nt mn mt dp rf by_ co tx lx (va_up fl kt (some ((1, 1, 1, anT 1 lm (clsU pt pn (npc pt pn)).length (Mt pt pn) (Vt pt pn), (clsU pt pn (npc pt pn)).length, lm, 1, Vt pt pn, Sht pt pn) : FV))) ls H locs hRg2 (hSC1.lo hlo2) hMR2 hw (lv_sub hl [0, 1, 2, 3] rfl)
        · refine lv_iconst (v := 0) hx hb d_law_241 (by decide) ?_
          exact absurd (hv1.trans hv2.symm) c57

set_option maxHeartbeats 4000000 in
set_option maxRecDepth 100000 in
theorem law_13 {p : Program} {l : Launch} {e : Env} {s : State} {m : MethodId} {below : List Frame} {meth : Method} {c : Code} {G : GG} {b L : Nat} {xs : Nat → Int32} (hC : LawC p s m meth c G b L xs) {j : Nat} (hj : 5 * j + 5 ≤ L) (hnext : Hd p l e s m below meth c G b (j + 1)) {ad : Nat → Nat} {E : Nat → va_E} {g f : Wd} {root pn : Nat} {pt : Nat → Int32} {nn : Nat} {nt : Nat → Int32} {mn : Nat} {mt : Nat → Int32} {dp rf by_ co tx lx : Int32} {fl : Nat → Option FV} {ls : Array Slot} {H : Heap} {locs : List Loc} (hRg : Rg 25 ad E g f) (hSC : SC G ad E g root pn pt nn nt mn mt dp rf by_ co tx lx fl) (hR : MR G j (ad 9) (fun k => ad (10 + k)) f pn pt nn nt mn mt dp rf by_ co tx lx fl) (hw : ms G.1 (Al s) f s H locs) (hl : lv_has ls 4 [(3, .int (nI (5 * j))), (0, .ref b), (1, .ref root), (2, .ref (ad 9))]) : LG p l e s m below meth c b H locs (60 + 100 * j) (9600 + 900 * j) 609 ls [] := by
  obtain ⟨hc, hr, hlk, hXs, hbl, hE, hL⟩ := hC
  have hx := hc.1
  have hb := hc.2.1
  have hbA : ¬ Al s b := Nat.not_le.mpr hbl
  obtain ⟨a1, ha1⟩ : ∃ z, z = xs (5 * j + 1) := ⟨_, rfl⟩
  obtain ⟨a2, ha2⟩ : ∃ z, z = xs (5 * j + 2) := ⟨_, rfl⟩
  obtain ⟨a3, ha3⟩ : ∃ z, z = xs (5 * j + 3) := ⟨_, rfl⟩
  refine lv_aload_n hx hb d_law_609 rfl (lv_at hl 2 rfl) ?_
  refine lv_aload_n hx hb d_law_610 rfl (lv_at hl 1 rfl) ?_
  refine lv_iload_n hx hb d_law_611 rfl (lv_at hl 0 rfl) ?_
  refine lv_iconst (v := 1) hx hb d_law_612 (by decide) ?_
  refine lv_iadd hx hb d_law_613 ?_
  refine m_top (y := (nI ((5 * j) + 1))) (nI_add (5 * j) 1) ?_
  refine va_sld hx hb hXs hbl hbA hw.2.1 (vp_in_nI (by omega) (by omega)) d_law_614 ?_
  refine m_top (y := a1) ((congrArg xs (nI_clamp (by omega))).trans ha1.symm) ?_
  refine lv_aload_n hx hb d_law_615 rfl (lv_at hl 1 rfl) ?_
  refine lv_iload_n hx hb d_law_616 rfl (lv_at hl 0 rfl) ?_
  refine lv_iconst (v := 2) hx hb d_law_617 (by decide) ?_
  refine lv_iadd hx hb d_law_618 ?_
  refine m_top (y := (nI ((5 * j) + 2))) (nI_add (5 * j) 2) ?_
  refine va_sld hx hb hXs hbl hbA hw.2.1 (vp_in_nI (by omega) (by omega)) d_law_619 ?_
  refine m_top (y := a2) ((congrArg xs (nI_clamp (by omega))).trans ha2.symm) ?_
  refine lv_aload_n hx hb d_law_620 rfl (lv_at hl 1 rfl) ?_
  refine lv_iload_n hx hb d_law_621 rfl (lv_at hl 0 rfl) ?_
  refine lv_iconst (v := 3) hx hb d_law_622 (by decide) ?_
  refine lv_iadd hx hb d_law_623 ?_
  refine m_top (y := (nI ((5 * j) + 3))) (nI_add (5 * j) 3) ?_
  refine va_sld hx hb hXs hbl hbA hw.2.1 (vp_in_nI (by omega) (by omega)) d_law_624 ?_
  refine m_top (y := a3) ((congrArg xs (nI_clamp (by omega))).trans ha3.symm) ?_
  refine lv_if_eq (tgt := 632) hx hb d_law_625 (by decide) (fun c21 => ?_) (fun c21 => ?_)
  · refine lv_iconst (v := 0) hx hb d_law_632 (by decide) ?_
    refine m_calli hw (m_runV (As := [.int a1, .int a2, .int 0]) (rest := []) hc hE hw (c_SF_pattern G l H.size f (N := 25) (by decide) hRg hSC a1 a2 (al := 0) (by decide)) (hRg.2.2.1 _ _ hSC.1) rfl cw_law_75 se_SF_pattern rfl hl.1 rfl (Nat.le_of_ble_eq_true rfl) d_law_633 ⟨rfl, rfl, by decide, by decide⟩ ⟨by dsimp only [room_1]; omega, by dsimp only [room_1]; omega⟩) (fun r24 g23 H locs p22 hw => ?_)
    have hp1 := p22
    obtain ⟨hv1, E1, g1, hRg1, hgl1, hk1, hSC1⟩ := (⟨rfl, hp1.2.2⟩ : r24 = r24 ∧ _)
    have hRk := hR.keep hRg hRg1 hk1
    obtain ⟨fsM, hmo⟩ := hRk.mo
    refine lv_aload_n hx hb d_law_636 rfl (lv_at hl 3 rfl) ?_
    refine lv_aload_n hx hb d_law_637 rfl (lv_at hl 1 rfl) ?_
    refine lv_iload_n hx hb d_law_638 rfl (lv_at hl 0 rfl) ?_
    refine lv_iconst (v := 1) hx hb d_law_639 (by decide) ?_
    refine lv_iadd hx hb d_law_640 ?_
    refine m_top (y := (nI ((5 * j) + 1))) (nI_add (5 * j) 1) ?_
    refine va_sld hx hb hXs hbl hbA hw.2.1 (vp_in_nI (by omega) (by omega)) d_law_641 ?_
    refine m_top (y := a1) ((congrArg xs (nI_clamp (by omega))).trans ha1.symm) ?_
    refine lv_aload_n hx hb d_law_642 rfl (lv_at hl 1 rfl) ?_
    refine lv_iload_n hx hb d_law_643 rfl (lv_at hl 0 rfl) ?_
    refine lv_iconst (v := 2) hx hb d_law_644 (by decide) ?_
    refine lv_iadd hx hb d_law_645 ?_
    refine m_top (y := (nI ((5 * j) + 2))) (nI_add (5 * j) 2) ?_
    refine va_sld hx hb hXs hbl hbA hw.2.1 (vp_in_nI (by omega) (by omega)) d_law_646 ?_
    refine m_top (y := a2) ((congrArg xs (nI_clamp (by omega))).trans ha2.symm) ?_
    refine lv_aload_n hx hb d_law_647 rfl (lv_at hl 1 rfl) ?_
    refine lv_iload_n hx hb d_law_648 rfl (lv_at hl 0 rfl) ?_
    refine lv_iconst (v := 3) hx hb d_law_649 (by decide) ?_
    refine lv_iadd hx hb d_law_650 ?_
    refine m_top (y := (nI ((5 * j) + 3))) (nI_add (5 * j) 3) ?_
    refine va_sld hx hb hXs hbl hbA hw.2.1 (vp_in_nI (by omega) (by omega)) d_law_651 ?_
    refine m_top (y := a3) ((congrArg xs (nI_clamp (by omega))).trans ha3.symm) ?_
    refine lv_if_eq (tgt := 659) hx hb d_law_652 (by decide) (fun c25 => ?_) (fun c25 => ?_)
    · refine lv_iconst (v := 0) hx hb d_law_659 (by decide) ?_
      refine m_calli hw (m_runV (As := [.int a1, .int a2, .int 0]) (rest := [.int r24]) hc hE hw (c_SM_pattern G l H.size g23 hRk (by omega) a1 a2 (al := 0) (by decide)) hmo rfl cw_law_78 se_SM_pattern rfl hl.1 rfl (Nat.le_of_ble_eq_true rfl) d_law_660 ⟨rfl, rfl, by decide, by decide⟩ ⟨by dsimp only [room_1]; omega, by dsimp only [room_1]; omega⟩) (fun r28 g27 H locs p26 hw => ?_)
      obtain ⟨hv2, hMR2, hX2⟩ := (⟨eq_pat hp1.1 hp1.2.1 p26.1 p26.2.1, p26.2.2⟩ : _ = r24 ∧ _)
      obtain ⟨E2, hRg2, hlo2⟩ := hRg1.mx hMR2 hX2
      refine lv_icmp_eq (tgt := 701) hx hb d_law_663 (by decide) (fun c29 => ?_) (fun c29 => ?_)
      · refine W.widen (k := 60 + 100 * (j + 1)) (n := 9600 + 900 * (j + 1)) (by dsimp only; omega) (by dsimp only; omega) ?_
        refine lv_iinc (v := (nI (5 * (j + 1)))) (lv' := [(3, .int (nI (5 * (j + 1)))), (0, .ref b), (1, .ref root), (2, .ref (ad 9))]) hx hb d_law_701 hl (k := 0) rfl (nI_add (5 * j) 5) (by decide) rfl (fun ls hl => ?_)
        refine lv_goto (tgt := 18) hx hb d_law_704 (by decide) ?_
        exact hnext ad E2 g1 g27 root pn pt nn nt mn mt dp rf by_ co tx lx fl ls H locs hRg2 (hSC1.lo hlo2) hMR2 hw (lv_sub hl [0, 1, 2, 3] rfl)
      · refine lv_iconst (v := 0) hx hb d_law_666 (by decide) ?_
        exact absurd (hv1.trans hv2.symm) c29
    · exact absurd c21 c25
  · refine lv_iconst (v := 1) hx hb d_law_628 (by decide) ?_
    refine lv_goto (tgt := 633) hx hb d_law_629 (by decide) ?_
    refine m_calli hw (m_runV (As := [.int a1, .int a2, .int 1]) (rest := []) hc hE hw (c_SF_pattern G l H.size f (N := 25) (by decide) hRg hSC a1 a2 (al := 1) (by decide)) (hRg.2.2.1 _ _ hSC.1) rfl cw_law_75 se_SF_pattern rfl hl.1 rfl (Nat.le_of_ble_eq_true rfl) d_law_633 ⟨rfl, rfl, by decide, by decide⟩ ⟨by dsimp only [room_1]; omega, by dsimp only [room_1]; omega⟩) (fun r32 g31 H locs p30 hw => ?_)
    have hp1 := p30
    obtain ⟨hv1, E1, g1, hRg1, hgl1, hk1, hSC1⟩ := (⟨rfl, hp1.2.2⟩ : r32 = r32 ∧ _)
    have hRk := hR.keep hRg hRg1 hk1
    obtain ⟨fsM, hmo⟩ := hRk.mo
    refine lv_aload_n hx hb d_law_636 rfl (lv_at hl 3 rfl) ?_
    refine lv_aload_n hx hb d_law_637 rfl (lv_at hl 1 rfl) ?_
    refine lv_iload_n hx hb d_law_638 rfl (lv_at hl 0 rfl) ?_
    refine lv_iconst (v := 1) hx hb d_law_639 (by decide) ?_
    refine lv_iadd hx hb d_law_640 ?_
    refine m_top (y := (nI ((5 * j) + 1))) (nI_add (5 * j) 1) ?_
    refine va_sld hx hb hXs hbl hbA hw.2.1 (vp_in_nI (by omega) (by omega)) d_law_641 ?_
    refine m_top (y := a1) ((congrArg xs (nI_clamp (by omega))).trans ha1.symm) ?_
    refine lv_aload_n hx hb d_law_642 rfl (lv_at hl 1 rfl) ?_
    refine lv_iload_n hx hb d_law_643 rfl (lv_at hl 0 rfl) ?_
    refine lv_iconst (v := 2) hx hb d_law_644 (by decide) ?_
    refine lv_iadd hx hb d_law_645 ?_
    refine m_top (y := (nI ((5 * j) + 2))) (nI_add (5 * j) 2) ?_
    refine va_sld hx hb hXs hbl hbA hw.2.1 (vp_in_nI (by omega) (by omega)) d_law_646 ?_
    refine m_top (y := a2) ((congrArg xs (nI_clamp (by omega))).trans ha2.symm) ?_
    refine lv_aload_n hx hb d_law_647 rfl (lv_at hl 1 rfl) ?_
    refine lv_iload_n hx hb d_law_648 rfl (lv_at hl 0 rfl) ?_
    refine lv_iconst (v := 3) hx hb d_law_649 (by decide) ?_
    refine lv_iadd hx hb d_law_650 ?_
    refine m_top (y := (nI ((5 * j) + 3))) (nI_add (5 * j) 3) ?_
    refine va_sld hx hb hXs hbl hbA hw.2.1 (vp_in_nI (by omega) (by omega)) d_law_651 ?_
    refine m_top (y := a3) ((congrArg xs (nI_clamp (by omega))).trans ha3.symm) ?_
    refine lv_if_eq (tgt := 659) hx hb d_law_652 (by decide) (fun c33 => ?_) (fun c33 => ?_)
    · exact absurd c33 c21
    · refine lv_iconst (v := 1) hx hb d_law_655 (by decide) ?_
      refine lv_goto (tgt := 660) hx hb d_law_656 (by decide) ?_
      refine m_calli hw (m_runV (As := [.int a1, .int a2, .int 1]) (rest := [.int r32]) hc hE hw (c_SM_pattern G l H.size g31 hRk (by omega) a1 a2 (al := 1) (by decide)) hmo rfl cw_law_78 se_SM_pattern rfl hl.1 rfl (Nat.le_of_ble_eq_true rfl) d_law_660 ⟨rfl, rfl, by decide, by decide⟩ ⟨by dsimp only [room_1]; omega, by dsimp only [room_1]; omega⟩) (fun r36 g35 H locs p34 hw => ?_)
      obtain ⟨hv2, hMR2, hX2⟩ := (⟨eq_pat hp1.1 hp1.2.1 p34.1 p34.2.1, p34.2.2⟩ : _ = r32 ∧ _)
      obtain ⟨E2, hRg2, hlo2⟩ := hRg1.mx hMR2 hX2
      refine lv_icmp_eq (tgt := 701) hx hb d_law_663 (by decide) (fun c37 => ?_) (fun c37 => ?_)
      · refine W.widen (k := 60 + 100 * (j + 1)) (n := 9600 + 900 * (j + 1)) (by dsimp only; omega) (by dsimp only; omega) ?_
        refine lv_iinc (v := (nI (5 * (j + 1)))) (lv' := [(3, .int (nI (5 * (j + 1)))), (0, .ref b), (1, .ref root), (2, .ref (ad 9))]) hx hb d_law_701 hl (k := 0) rfl (nI_add (5 * j) 5) (by decide) rfl (fun ls hl => ?_)
        refine lv_goto (tgt := 18) hx hb d_law_704 (by decide) ?_
        exact hnext ad E2 g1 g35 root pn pt nn nt mn mt dp rf by_ co tx lx fl ls H locs hRg2 (hSC1.lo hlo2) hMR2 hw (lv_sub hl [0, 1, 2, 3] rfl)
      · refine lv_iconst (v := 0) hx hb d_law_666 (by decide) ?_
        exact absurd (hv1.trans hv2.symm) c37
