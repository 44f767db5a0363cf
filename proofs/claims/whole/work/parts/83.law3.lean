/-! links of the pools, as the walks ask for them -/
theorem cw_law_15 : cwk "StreamFiltersLaw" 15 y_SF_type b_SF_type 8 (some .int) 2 := ⟨Or.inl (tb 165 (by decide +kernel) rfl), (tb 168 (by decide +kernel) rfl), (tb 1 (by decide +kernel) rfl), by decide, by decide, by decide +kernel⟩
theorem cw_law_19 : cwk "StreamFiltersLaw" 19 y_SM_type b_SM_type 7 (some .int) 2 := ⟨Or.inl (tb 729 (by decide +kernel) rfl), (tb 732 (by decide +kernel) rfl), (tb 5 (by decide +kernel) rfl), by decide, by decide, by decide +kernel⟩
theorem se_SF_type : Cond.instanceMethod y_SF_type ∈ TB ∧ Cond.selects "StreamFilters" y_SF_type y_SF_type ∈ TB := ⟨(tb 166 (by decide +kernel) rfl), (tb 167 (by decide +kernel) rfl)⟩
theorem se_SM_type : Cond.instanceMethod y_SM_type ∈ TB ∧ Cond.selects "StreamFiltersModel" y_SM_type y_SM_type ∈ TB := ⟨(tb 730 (by decide +kernel) rfl), (tb 731 (by decide +kernel) rfl)⟩
theorem wd_constantLong_StreamFiltersLaw_13_4294967295 : Cond.constantLong "StreamFiltersLaw" 13 4294967295 ∈ TB := (tb 865 (by decide +kernel) rfl)
/-! decode rows -/
set_option maxHeartbeats 4000000 in
set_option maxRecDepth 100000 in
theorem law_100 {p : Program} {l : Launch} {e : Env} {s : State} {m : MethodId} {below : List Frame} {meth : Method} {c : Code} {G : GG} {b L : Nat} {xs : Nat → Int32} (hC : LawC p s m meth c G b L xs) {j : Nat} (hj : 5 * j + 5 ≤ L) (hx1 : xs (5 * j + 1) = 0) (hnext : Hd p l e s m below meth c G b (j + 1)) {ad : Nat → Nat} {E : Nat → va_E} {g f : Wd} {root pn : Nat} {pt : Nat → Int32} {nn : Nat} {nt : Nat → Int32} {mn : Nat} {mt : Nat → Int32} {dp rf by_ co tx lx : Int32} {fl : Nat → Option FV} {ls : Array Slot} {H : Heap} {locs : List Loc} (hRg : Rg 25 ad E g f) (hSC : SC G ad E g root pn pt nn nt mn mt dp rf by_ co tx lx fl) (hR : MR G j (ad 9) (fun k => ad (10 + k)) f pn pt nn nt mn mt dp rf by_ co tx lx fl) (hw : ms G.1 (Al s) f s H locs) (hl : lv_has ls 4 [(3, .int (nI (5 * j))), (0, .ref b), (1, .ref root), (2, .ref (ad 9))]) : LG p l e s m below meth c b H locs (60 + 100 * j) (9600 + 900 * j) 108 ls [] := by
  obtain ⟨hc, hr, hlk, hXs, hbl, hE, hL⟩ := hC
  have hx := hc.1
  have hb := hc.2.1
  have hbA : ¬ Al s b := Nat.not_le.mpr hbl
  obtain ⟨a2, ha2⟩ : ∃ z, z = xs (5 * j + 2) := ⟨_, rfl⟩
  obtain ⟨a3, ha3⟩ : ∃ z, z = xs (5 * j + 3) := ⟨_, rfl⟩
  obtain ⟨sg, hsg⟩ : ∃ z, z = (a2.toInt64 <<< ((32 : Int32).toInt64 &&& 63)) ||| (a3.toInt64 &&& 4294967295) := ⟨_, rfl⟩
  have ha1 : (0 : Int32) = xs (5 * j + 1) := hx1.symm
  refine lv_aload_n hx hb d_law_108 rfl (lv_at hl 2 rfl) ?_
  refine lv_aload_n hx hb d_law_109 rfl (lv_at hl 1 rfl) ?_
  refine lv_iload_n hx hb d_law_110 rfl (lv_at hl 0 rfl) ?_
  refine lv_iconst (v := 1) hx hb d_law_111 (by decide) ?_
  refine lv_iadd hx hb d_law_112 ?_
  refine m_top (y := (nI ((5 * j) + 1))) (nI_add (5 * j) 1) ?_
  refine va_sld hx hb hXs hbl hbA hw.2.1 (vp_in_nI (by omega) (by omega)) d_law_113 ?_
  refine m_top (y := 0) ((congrArg xs (nI_clamp (by omega))).trans ha1.symm) ?_
  refine lv_aload_n hx hb d_law_114 rfl (lv_at hl 1 rfl) ?_
  refine lv_iload_n hx hb d_law_115 rfl (lv_at hl 0 rfl) ?_
  refine lv_iconst (v := 2) hx hb d_law_116 (by decide) ?_
  refine lv_iadd hx hb d_law_117 ?_
  refine m_top (y := (nI ((5 * j) + 2))) (nI_add (5 * j) 2) ?_
  refine va_sld hx hb hXs hbl hbA hw.2.1 (vp_in_nI (by omega) (by omega)) d_law_118 ?_
  refine m_top (y := a2) ((congrArg xs (nI_clamp (by omega))).trans ha2.symm) ?_
  refine lv_i2l hx hb d_law_119 rfl ?_
  refine lv_bipush (v := 32) hx hb d_law_120 (by decide) ?_
  refine lv_lshl hx hb d_law_122 rfl ?_
  refine lv_aload_n hx hb d_law_123 rfl (lv_at hl 1 rfl) ?_
  refine lv_iload_n hx hb d_law_124 rfl (lv_at hl 0 rfl) ?_
  refine lv_iconst (v := 3) hx hb d_law_125 (by decide) ?_
  refine lv_iadd hx hb d_law_126 ?_
  refine m_top (y := (nI ((5 * j) + 3))) (nI_add (5 * j) 3) ?_
  refine va_sld hx hb hXs hbl hbA hw.2.1 (vp_in_nI (by omega) (by omega)) d_law_127 ?_
  refine m_top (y := a3) ((congrArg xs (nI_clamp (by omega))).trans ha3.symm) ?_
  refine lv_i2l hx hb d_law_128 rfl ?_
  refine m_lc2 hc wd_constantLong_StreamFiltersLaw_13_4294967295 d_law_129 ?_
  refine lv_land hx hb d_law_132 ?_
  refine lv_lor hx hb d_law_133 ?_
  refine m_topL (y := sg) hsg.symm ?_
  refine m_calli hw (m_runV (As := [.int 0, .long sg]) (rest := []) hc hE hw (c_SF_type G l H.size f (N := 25) (by decide) hRg hSC 0 sg) (hRg.2.2.1 _ _ hSC.1) rfl cw_law_15 se_SF_type rfl hl.1 rfl (Nat.le_of_ble_eq_true rfl) d_law_134 ⟨rfl, rfl, by decide, by decide⟩ ⟨by dsimp only [room_1]; omega, by dsimp only [room_1]; omega⟩) (fun r23 g22 H locs p21 hw => ?_)
  have hp1 := p21
  rcases cs_2 (∀ k, k < 8 → okb (byt sg k)) (pn + cnT sg 8 ≤ 90) with h | ⟨h, q⟩ | ⟨h, q⟩
  · obtain ⟨hv1, E1, g1, hRg1, hgl1, hk1, hSC1⟩ := (hp1.1 rfl).1 h
    have hRk := hR.keep hRg hRg1 hk1
    obtain ⟨fsM, hmo⟩ := hRk.mo
    refine lv_aload_n hx hb d_law_137 rfl (lv_at hl 3 rfl) ?_
    refine lv_aload_n hx hb d_law_138 rfl (lv_at hl 1 rfl) ?_
    refine lv_iload_n hx hb d_law_139 rfl (lv_at hl 0 rfl) ?_
    refine lv_iconst (v := 1) hx hb d_law_140 (by decide) ?_
    refine lv_iadd hx hb d_law_141 ?_
    refine m_top (y := (nI ((5 * j) + 1))) (nI_add (5 * j) 1) ?_
    refine va_sld hx hb hXs hbl hbA hw.2.1 (vp_in_nI (by omega) (by omega)) d_law_142 ?_
    refine m_top (y := 0) ((congrArg xs (nI_clamp (by omega))).trans ha1.symm) ?_
    refine lv_aload_n hx hb d_law_143 rfl (lv_at hl 1 rfl) ?_
    refine lv_iload_n hx hb d_law_144 rfl (lv_at hl 0 rfl) ?_
    refine lv_iconst (v := 2) hx hb d_law_145 (by decide) ?_
    refine lv_iadd hx hb d_law_146 ?_
    refine m_top (y := (nI ((5 * j) + 2))) (nI_add (5 * j) 2) ?_
    refine va_sld hx hb hXs hbl hbA hw.2.1 (vp_in_nI (by omega) (by omega)) d_law_147 ?_
    refine m_top (y := a2) ((congrArg xs (nI_clamp (by omega))).trans ha2.symm) ?_
    refine lv_i2l hx hb d_law_148 rfl ?_
    refine lv_bipush (v := 32) hx hb d_law_149 (by decide) ?_
    refine lv_lshl hx hb d_law_151 rfl ?_
    refine lv_aload_n hx hb d_law_152 rfl (lv_at hl 1 rfl) ?_
    refine lv_iload_n hx hb d_law_153 rfl (lv_at hl 0 rfl) ?_
    refine lv_iconst (v := 3) hx hb d_law_154 (by decide) ?_
    refine lv_iadd hx hb d_law_155 ?_
    refine m_top (y := (nI ((5 * j) + 3))) (nI_add (5 * j) 3) ?_
    refine va_sld hx hb hXs hbl hbA hw.2.1 (vp_in_nI (by omega) (by omega)) d_law_156 ?_
    refine m_top (y := a3) ((congrArg xs (nI_clamp (by omega))).trans ha3.symm) ?_
    refine lv_i2l hx hb d_law_157 rfl ?_
    refine m_lc2 hc wd_constantLong_StreamFiltersLaw_13_4294967295 d_law_158 ?_
    refine lv_land hx hb d_law_161 ?_
    refine lv_lor hx hb d_law_162 ?_
    refine m_topL (y := sg) hsg.symm ?_
    refine m_calli hw (m_runV (As := [.int 0, .long sg]) (rest := [.int r23]) hc hE hw (c_SM_type0 G l H.size g22 hRk (by omega) sg) hmo rfl cw_law_19 se_SM_type rfl hl.1 rfl (Nat.le_of_ble_eq_true rfl) d_law_163 ⟨rfl, rfl, by decide, by decide⟩ ⟨by dsimp only [room_1]; omega, by dsimp only [room_1]; omega⟩) (fun r26 g25 H locs p24 hw => ?_)
    obtain ⟨hv2, hMR2, hX2⟩ := p24.1 h
    obtain ⟨E2, hRg2, hlo2⟩ := hRg1.mx hMR2 hX2
    refine lv_icmp_eq (tgt := 701) hx hb d_law_166 (by decide) (fun c27 => ?_) (fun c27 => ?_)
    · refine W.widen (k := 60 + 100 * (j + 1)) (n := 9600 + 900 * (j + 1)) (by dsimp only; omega) (by dsimp only; omega) ?_
      refine lv_iinc (v := (nI (5 * (j + 1)))) (lv' := [(3, .int (nI (5 * (j + 1)))), (0, .ref b), (1, .ref root), (2, .ref (ad 9))]) hx hb d_law_701 hl (k := 0) rfl (nI_add (5 * j) 5) (by decide) rfl (fun ls hl => ?_)
      refine lv_goto (tgt := 18) hx hb d_law_704 (by decide) ?_
      exact hnext ad E2 g1 g25 root pn pt nn nt mn mt dp rf by_ co tx lx fl ls H locs hRg2 (hSC1.lo hlo2) hMR2 hw (lv_sub hl [0, 1, 2, 3] rfl)
    · refine lv_iconst (v := 0) hx hb d_law_169 (by decide) ?_
      exact absurd (hv1.trans hv2.symm) c27
  · obtain ⟨hv1, E1, g1, hRg1, hgl1, hk1, hSC1⟩ := (hp1.1 rfl).2.1 h q
    have hRk := hR.keep hRg hRg1 hk1
    obtain ⟨fsM, hmo⟩ := hRk.mo
    refine lv_aload_n hx hb d_law_137 rfl (lv_at hl 3 rfl) ?_
    refine lv_aload_n hx hb d_law_138 rfl (lv_at hl 1 rfl) ?_
    refine lv_iload_n hx hb d_law_139 rfl (lv_at hl 0 rfl) ?_
    refine lv_iconst (v := 1) hx hb d_law_140 (by decide) ?_
    refine lv_iadd hx hb d_law_141 ?_
    refine m_top (y := (nI ((5 * j) + 1))) (nI_add (5 * j) 1) ?_
    refine va_sld hx hb hXs hbl hbA hw.2.1 (vp_in_nI (by omega) (by omega)) d_law_142 ?_
    refine m_top (y := 0) ((congrArg xs (nI_clamp (by omega))).trans ha1.symm) ?_
    refine lv_aload_n hx hb d_law_143 rfl (lv_at hl 1 rfl) ?_
    refine lv_iload_n hx hb d_law_144 rfl (lv_at hl 0 rfl) ?_
    refine lv_iconst (v := 2) hx hb d_law_145 (by decide) ?_
    refine lv_iadd hx hb d_law_146 ?_
    refine m_top (y := (nI ((5 * j) + 2))) (nI_add (5 * j) 2) ?_
    refine va_sld hx hb hXs hbl hbA hw.2.1 (vp_in_nI (by omega) (by omega)) d_law_147 ?_
    refine m_top (y := a2) ((congrArg xs (nI_clamp (by omega))).trans ha2.symm) ?_
    refine lv_i2l hx hb d_law_148 rfl ?_
    refine lv_bipush (v := 32) hx hb d_law_149 (by decide) ?_
    refine lv_lshl hx hb d_law_151 rfl ?_
    refine lv_aload_n hx hb d_law_152 rfl (lv_at hl 1 rfl) ?_
    refine lv_iload_n hx hb d_law_153 rfl (lv_at hl 0 rfl) ?_
    refine lv_iconst (v := 3) hx hb d_law_154 (by decide) ?_
    refine lv_iadd hx hb d_law_155 ?_
    refine m_top (y := (nI ((5 * j) + 3))) (nI_add (5 * j) 3) ?_
    refine va_sld hx hb hXs hbl hbA hw.2.1 (vp_in_nI (by omega) (by omega)) d_law_156 ?_
    refine m_top (y := a3) ((congrArg xs (nI_clamp (by omega))).trans ha3.symm) ?_
    refine lv_i2l hx hb d_law_157 rfl ?_
    refine m_lc2 hc wd_constantLong_StreamFiltersLaw_13_4294967295 d_law_158 ?_
    refine lv_land hx hb d_law_161 ?_
    refine lv_lor hx hb d_law_162 ?_
    refine m_topL (y := sg) hsg.symm ?_
    refine m_calli hw (m_runV (As := [.int 0, .long sg]) (rest := [.int r23]) hc hE hw (c_SM_type0 G l H.size g22 hRk (by omega) sg) hmo rfl cw_law_19 se_SM_type rfl hl.1 rfl (Nat.le_of_ble_eq_true rfl) d_law_163 ⟨rfl, rfl, by decide, by decide⟩ ⟨by dsimp only [room_1]; omega, by dsimp only [room_1]; omega⟩) (fun r30 g29 H locs p28 hw => ?_)
    obtain ⟨hv2, hMR2, hX2⟩ := p28.2.1 h q
    obtain ⟨E2, hRg2, hlo2⟩ := hRg1.mx hMR2 hX2
    refine lv_icmp_eq (tgt := 701) hx hb d_law_166 (by decide) (fun c31 => ?_) (fun c31 => ?_)
    · refine W.widen (k := 60 + 100 * (j + 1)) (n := 9600 + 900 * (j + 1)) (by dsimp only; omega) (by dsimp only; omega) ?_
      refine lv_iinc (v := (nI (5 * (j + 1)))) (lv' := [(3, .int (nI (5 * (j + 1)))), (0, .ref b), (1, .ref root), (2, .ref (ad 9))]) hx hb d_law_701 hl (k := 0) rfl (nI_add (5 * j) 5) (by decide) rfl (fun ls hl => ?_)
      refine lv_goto (tgt := 18) hx hb d_law_704 (by decide) ?_
      exact hnext ad E2 g1 g29 root pn pt nn nt mn mt dp rf by_ co tx lx fl ls H locs hRg2 (hSC1.lo hlo2) hMR2 hw (lv_sub hl [0, 1, 2, 3] rfl)
    · refine lv_iconst (v := 0) hx hb d_law_169 (by decide) ?_
      exact absurd (hv1.trans hv2.symm) c31
  · obtain ⟨hv1, E1, g1, hRg1, hgl1, hk1, hSC1⟩ := (hp1.1 rfl).2.2 h q
    have hRk := hR.keep hRg hRg1 hk1
    obtain ⟨fsM, hmo⟩ := hRk.mo
    refine lv_aload_n hx hb d_law_137 rfl (lv_at hl 3 rfl) ?_
    refine lv_aload_n hx hb d_law_138 rfl (lv_at hl 1 rfl) ?_
    refine lv_iload_n hx hb d_law_139 rfl (lv_at hl 0 rfl) ?_
    refine lv_iconst (v := 1) hx hb d_law_140 (by decide) ?_
    refine lv_iadd hx hb d_law_141 ?_
    refine m_top (y := (nI ((5 * j) + 1))) (nI_add (5 * j) 1) ?_
    refine va_sld hx hb hXs hbl hbA hw.2.1 (vp_in_nI (by omega) (by omega)) d_law_142 ?_
    refine m_top (y := 0) ((congrArg xs (nI_clamp (by omega))).trans ha1.symm) ?_
    refine lv_aload_n hx hb d_law_143 rfl (lv_at hl 1 rfl) ?_
    refine lv_iload_n hx hb d_law_144 rfl (lv_at hl 0 rfl) ?_
    refine lv_iconst (v := 2) hx hb d_law_145 (by decide) ?_
    refine lv_iadd hx hb d_law_146 ?_
    refine m_top (y := (nI ((5 * j) + 2))) (nI_add (5 * j) 2) ?_
    refine va_sld hx hb hXs hbl hbA hw.2.1 (vp_in_nI (by omega) (by omega)) d_law_147 ?_
    refine m_top (y := a2) ((congrArg xs (nI_clamp (by omega))).trans ha2.symm) ?_
    refine lv_i2l hx hb d_law_148 rfl ?_
    refine lv_bipush (v := 32) hx hb d_law_149 (by decide) ?_
    refine lv_lshl hx hb d_law_151 rfl ?_
    refine lv_aload_n hx hb d_law_152 rfl (lv_at hl 1 rfl) ?_
    refine lv_iload_n hx hb d_law_153 rfl (lv_at hl 0 rfl) ?_
    refine lv_iconst (v := 3) hx hb d_law_154 (by decide) ?_
    refine lv_iadd hx hb d_law_155 ?_
    refine m_top (y := (nI ((5 * j) + 3))) (nI_add (5 * j) 3) ?_
    refine va_sld hx hb hXs hbl hbA hw.2.1 (vp_in_nI (by omega) (by omega)) d_law_156 ?_
    refine m_top (y := a3) ((congrArg xs (nI_clamp (by omega))).trans ha3.symm) ?_
    refine lv_i2l hx hb d_law_157 rfl ?_
    refine m_lc2 hc wd_constantLong_StreamFiltersLaw_13_4294967295 d_law_158 ?_
    refine lv_land hx hb d_law_161 ?_
    refine lv_lor hx hb d_law_162 ?_
    refine m_topL (y := sg) hsg.symm ?_
    refine m_calli hw (m_runV (As := [.int 0, .long sg]) (rest := [.int r23]) hc hE hw (c_SM_type0 G l H.size g22 hRk (by omega) sg) hmo rfl cw_law_19 se_SM_type rfl hl.1 rfl (Nat.le_of_ble_eq_true rfl) d_law_163 ⟨rfl, rfl, by decide, by decide⟩ ⟨by dsimp only [room_1]; omega, by dsimp only [room_1]; omega⟩) (fun r34 g33 H locs p32 hw => ?_)
    obtain ⟨hv2, hMR2, hX2⟩ := p32.2.2 h q
    obtain ⟨E2, hRg2, hlo2⟩ := hRg1.mx hMR2 hX2
    refine lv_icmp_eq (tgt := 701) hx hb d_law_166 (by decide) (fun c35 => ?_) (fun c35 => ?_)
    · refine W.widen (k := 60 + 100 * (j + 1)) (n := 9600 + 900 * (j + 1)) (by dsimp only; omega) (by dsimp only; omega) ?_
      refine lv_iinc (v := (nI (5 * (j + 1)))) (lv' := [(3, .int (nI (5 * (j + 1)))), (0, .ref b), (1, .ref root), (2, .ref (ad 9))]) hx hb d_law_701 hl (k := 0) rfl (nI_add (5 * j) 5) (by decide) rfl (fun ls hl => ?_)
      refine lv_goto (tgt := 18) hx hb d_law_704 (by decide) ?_
      exact hnext ad E2 g1 g33 root (pn + cnT sg 8) (apT pt pn sg 8) nn nt mn mt dp rf by_ co tx lx fl ls H locs hRg2 (hSC1.lo hlo2) hMR2 hw (lv_sub hl [0, 1, 2, 3] rfl)
    · refine lv_iconst (v := 0) hx hb d_law_169 (by decide) ?_
      exact absurd (hv1.trans hv2.symm) c35

set_option maxHeartbeats 4000000 in
set_option maxRecDepth 100000 in
theorem law_101 {p : Program} {l : Launch} {e : Env} {s : State} {m : MethodId} {below : List Frame} {meth : Method} {c : Code} {G : GG} {b L : Nat} {xs : Nat → Int32} (hC : LawC p s m meth c G b L xs) {j : Nat} (hj : 5 * j + 5 ≤ L) (hx1 : xs (5 * j + 1) = 1) (hnext : Hd p l e s m below meth c G b (j + 1)) {ad : Nat → Nat} {E : Nat → va_E} {g f : Wd} {root pn : Nat} {pt : Nat → Int32} {nn : Nat} {nt : Nat → Int32} {mn : Nat} {mt : Nat → Int32} {dp rf by_ co tx lx : Int32} {fl : Nat → Option FV} {ls : Array Slot} {H : Heap} {locs : List Loc} (hRg : Rg 25 ad E g f) (hSC : SC G ad E g root pn pt nn nt mn mt dp rf by_ co tx lx fl) (hR : MR G j (ad 9) (fun k => ad (10 + k)) f pn pt nn nt mn mt dp rf by_ co tx lx fl) (hw : ms G.1 (Al s) f s H locs) (hl : lv_has ls 4 [(3, .int (nI (5 * j))), (0, .ref b), (1, .ref root), (2, .ref (ad 9))]) : LG p l e s m below meth c b H locs (60 + 100 * j) (9600 + 900 * j) 108 ls [] := by
  obtain ⟨hc, hr, hlk, hXs, hbl, hE, hL⟩ := hC
  have hx := hc.1
  have hb := hc.2.1
  have hbA : ¬ Al s b := Nat.not_le.mpr hbl
  obtain ⟨a2, ha2⟩ : ∃ z, z = xs (5 * j + 2) := ⟨_, rfl⟩
  obtain ⟨a3, ha3⟩ : ∃ z, z = xs (5 * j + 3) := ⟨_, rfl⟩
  obtain ⟨sg, hsg⟩ : ∃ z, z = (a2.toInt64 <<< ((32 : Int32).toInt64 &&& 63)) ||| (a3.toInt64 &&& 4294967295) := ⟨_, rfl⟩
  have ha1 : (1 : Int32) = xs (5 * j + 1) := hx1.symm
  refine lv_aload_n hx hb d_law_108 rfl (lv_at hl 2 rfl) ?_
  refine lv_aload_n hx hb d_law_109 rfl (lv_at hl 1 rfl) ?_
  refine lv_iload_n hx hb d_law_110 rfl (lv_at hl 0 rfl) ?_
  refine lv_iconst (v := 1) hx hb d_law_111 (by decide) ?_
  refine lv_iadd hx hb d_law_112 ?_
  refine m_top (y := (nI ((5 * j) + 1))) (nI_add (5 * j) 1) ?_
  refine va_sld hx hb hXs hbl hbA hw.2.1 (vp_in_nI (by omega) (by omega)) d_law_113 ?_
  refine m_top (y := 1) ((congrArg xs (nI_clamp (by omega))).trans ha1.symm) ?_
  refine lv_aload_n hx hb d_law_114 rfl (lv_at hl 1 rfl) ?_
  refine lv_iload_n hx hb d_law_115 rfl (lv_at hl 0 rfl) ?_
  refine lv_iconst (v := 2) hx hb d_law_116 (by decide) ?_
  refine lv_iadd hx hb d_law_117 ?_
  refine m_top (y := (nI ((5 * j) + 2))) (nI_add (5 * j) 2) ?_
  refine va_sld hx hb hXs hbl hbA hw.2.1 (vp_in_nI (by omega) (by omega)) d_law_118 ?_
  refine m_top (y := a2) ((congrArg xs (nI_clamp (by omega))).trans ha2.symm) ?_
  refine lv_i2l hx hb d_law_119 rfl ?_
  refine lv_bipush (v := 32) hx hb d_law_120 (by decide) ?_
  refine lv_lshl hx hb d_law_122 rfl ?_
  refine lv_aload_n hx hb d_law_123 rfl (lv_at hl 1 rfl) ?_
  refine lv_iload_n hx hb d_law_124 rfl (lv_at hl 0 rfl) ?_
  refine lv_iconst (v := 3) hx hb d_law_125 (by decide) ?_
  refine lv_iadd hx hb d_law_126 ?_
  refine m_top (y := (nI ((5 * j) + 3))) (nI_add (5 * j) 3) ?_
  refine va_sld hx hb hXs hbl hbA hw.2.1 (vp_in_nI (by omega) (by omega)) d_law_127 ?_
  refine m_top (y := a3) ((congrArg xs (nI_clamp (by omega))).trans ha3.symm) ?_
  refine lv_i2l hx hb d_law_128 rfl ?_
  refine m_lc2 hc wd_constantLong_StreamFiltersLaw_13_4294967295 d_law_129 ?_
  refine lv_land hx hb d_law_132 ?_
  refine lv_lor hx hb d_law_133 ?_
  refine m_topL (y := sg) hsg.symm ?_
  refine m_calli hw (m_runV (As := [.int 1, .long sg]) (rest := []) hc hE hw (c_SF_type G l H.size f (N := 25) (by decide) hRg hSC 1 sg) (hRg.2.2.1 _ _ hSC.1) rfl cw_law_15 se_SF_type rfl hl.1 rfl (Nat.le_of_ble_eq_true rfl) d_law_134 ⟨rfl, rfl, by decide, by decide⟩ ⟨by dsimp only [room_1]; omega, by dsimp only [room_1]; omega⟩) (fun r23 g22 H locs p21 hw => ?_)
  have hp1 := p21
  rcases cs_2 (∀ k, k < 8 → okb (byt sg k)) (nn + cnT sg 8 ≤ 40) with h | ⟨h, q⟩ | ⟨h, q⟩
  · obtain ⟨hv1, E1, g1, hRg1, hgl1, hk1, hSC1⟩ := (hp1.2.1 rfl).1 h
    have hRk := hR.keep hRg hRg1 hk1
    obtain ⟨fsM, hmo⟩ := hRk.mo
    refine lv_aload_n hx hb d_law_137 rfl (lv_at hl 3 rfl) ?_
    refine lv_aload_n hx hb d_law_138 rfl (lv_at hl 1 rfl) ?_
    refine lv_iload_n hx hb d_law_139 rfl (lv_at hl 0 rfl) ?_
    refine lv_iconst (v := 1) hx hb d_law_140 (by decide) ?_
    refine lv_iadd hx hb d_law_141 ?_
    refine m_top (y := (nI ((5 * j) + 1))) (nI_add (5 * j) 1) ?_
    refine va_sld hx hb hXs hbl hbA hw.2.1 (vp_in_nI (by omega) (by omega)) d_law_142 ?_
    refine m_top (y := 1) ((congrArg xs (nI_clamp (by omega))).trans ha1.symm) ?_
    refine lv_aload_n hx hb d_law_143 rfl (lv_at hl 1 rfl) ?_
    refine lv_iload_n hx hb d_law_144 rfl (lv_at hl 0 rfl) ?_
    refine lv_iconst (v := 2) hx hb d_law_145 (by decide) ?_
    refine lv_iadd hx hb d_law_146 ?_
    refine m_top (y := (nI ((5 * j) + 2))) (nI_add (5 * j) 2) ?_
    refine va_sld hx hb hXs hbl hbA hw.2.1 (vp_in_nI (by omega) (by omega)) d_law_147 ?_
    refine m_top (y := a2) ((congrArg xs (nI_clamp (by omega))).trans ha2.symm) ?_
    refine lv_i2l hx hb d_law_148 rfl ?_
    refine lv_bipush (v := 32) hx hb d_law_149 (by decide) ?_
    refine lv_lshl hx hb d_law_151 rfl ?_
    refine lv_aload_n hx hb d_law_152 rfl (lv_at hl 1 rfl) ?_
    refine lv_iload_n hx hb d_law_153 rfl (lv_at hl 0 rfl) ?_
    refine lv_iconst (v := 3) hx hb d_law_154 (by decide) ?_
    refine lv_iadd hx hb d_law_155 ?_
    refine m_top (y := (nI ((5 * j) + 3))) (nI_add (5 * j) 3) ?_
    refine va_sld hx hb hXs hbl hbA hw.2.1 (vp_in_nI (by omega) (by omega)) d_law_156 ?_
    refine m_top (y := a3) ((congrArg xs (nI_clamp (by omega))).trans ha3.symm) ?_
    refine lv_i2l hx hb d_law_157 rfl ?_
    refine m_lc2 hc wd_constantLong_StreamFiltersLaw_13_4294967295 d_law_158 ?_
    refine lv_land hx hb d_law_161 ?_
    refine lv_lor hx hb d_law_162 ?_
    refine m_topL (y := sg) hsg.symm ?_
    refine m_calli hw (m_runV (As := [.int 1, .long sg]) (rest := [.int r23]) hc hE hw (c_SM_type1 G l H.size g22 hRk (by omega) sg) hmo rfl cw_law_19 se_SM_type rfl hl.1 rfl (Nat.le_of_ble_eq_true rfl) d_law_163 ⟨rfl, rfl, by decide, by decide⟩ ⟨by dsimp only [room_1]; omega, by dsimp only [room_1]; omega⟩) (fun r26 g25 H locs p24 hw => ?_)
    obtain ⟨hv2, hMR2, hX2⟩ := p24.1 h
    obtain ⟨E2, hRg2, hlo2⟩ := hRg1.mx hMR2 hX2
    refine lv_icmp_eq (tgt := 701) hx hb d_law_166 (by decide) (fun c27 => ?_) (fun c27 => ?_)
    · refine W.widen (k := 60 + 100 * (j + 1)) (n := 9600 + 900 * (j + 1)) (by dsimp only; omega) (by dsimp only; omega) ?_
      refine lv_iinc (v := (nI (5 * (j + 1)))) (lv' := [(3, .int (nI (5 * (j + 1)))), (0, .ref b), (1, .ref root), (2, .ref (ad 9))]) hx hb d_law_701 hl (k := 0) rfl (nI_add (5 * j) 5) (by decide) rfl (fun ls hl => ?_)
      refine lv_goto (tgt := 18) hx hb d_law_704 (by decide) ?_
      exact hnext ad E2 g1 g25 root pn pt nn nt mn mt dp rf by_ co tx lx fl ls H locs hRg2 (hSC1.lo hlo2) hMR2 hw (lv_sub hl [0, 1, 2, 3] rfl)
    · refine lv_iconst (v := 0) hx hb d_law_169 (by decide) ?_
      exact absurd (hv1.trans hv2.symm) c27
  · obtain ⟨hv1, E1, g1, hRg1, hgl1, hk1, hSC1⟩ := (hp1.2.1 rfl).2.1 h q
    have hRk := hR.keep hRg hRg1 hk1
    obtain ⟨fsM, hmo⟩ := hRk.mo
    refine lv_aload_n hx hb d_law_137 rfl (lv_at hl 3 rfl) ?_
    refine lv_aload_n hx hb d_law_138 rfl (lv_at hl 1 rfl) ?_
    refine lv_iload_n hx hb d_law_139 rfl (lv_at hl 0 rfl) ?_
    refine lv_iconst (v := 1) hx hb d_law_140 (by decide) ?_
    refine lv_iadd hx hb d_law_141 ?_
    refine m_top (y := (nI ((5 * j) + 1))) (nI_add (5 * j) 1) ?_
    refine va_sld hx hb hXs hbl hbA hw.2.1 (vp_in_nI (by omega) (by omega)) d_law_142 ?_
    refine m_top (y := 1) ((congrArg xs (nI_clamp (by omega))).trans ha1.symm) ?_
    refine lv_aload_n hx hb d_law_143 rfl (lv_at hl 1 rfl) ?_
    refine lv_iload_n hx hb d_law_144 rfl (lv_at hl 0 rfl) ?_
    refine lv_iconst (v := 2) hx hb d_law_145 (by decide) ?_
    refine lv_iadd hx hb d_law_146 ?_
    refine m_top (y := (nI ((5 * j) + 2))) (nI_add (5 * j) 2) ?_
    refine va_sld hx hb hXs hbl hbA hw.2.1 (vp_in_nI (by omega) (by omega)) d_law_147 ?_
    refine m_top (y := a2) ((congrArg xs (nI_clamp (by omega))).trans ha2.symm) ?_
    refine lv_i2l hx hb d_law_148 rfl ?_
    refine lv_bipush (v := 32) hx hb d_law_149 (by decide) ?_
    refine lv_lshl hx hb d_law_151 rfl ?_
    refine lv_aload_n hx hb d_law_152 rfl (lv_at hl 1 rfl) ?_
    refine lv_iload_n hx hb d_law_153 rfl (lv_at hl 0 rfl) ?_
    refine lv_iconst (v := 3) hx hb d_law_154 (by decide) ?_
    refine lv_iadd hx hb d_law_155 ?_
    refine m_top (y := (nI ((5 * j) + 3))) (nI_add (5 * j) 3) ?_
    refine va_sld hx hb hXs hbl hbA hw.2.1 (vp_in_nI (by omega) (by omega)) d_law_156 ?_
    refine m_top (y := a3) ((congrArg xs (nI_clamp (by omega))).trans ha3.symm) ?_
    refine lv_i2l hx hb d_law_157 rfl ?_
    refine m_lc2 hc wd_constantLong_StreamFiltersLaw_13_4294967295 d_law_158 ?_
    refine lv_land hx hb d_law_161 ?_
    refine lv_lor hx hb d_law_162 ?_
    refine m_topL (y := sg) hsg.symm ?_
    refine m_calli hw (m_runV (As := [.int 1, .long sg]) (rest := [.int r23]) hc hE hw (c_SM_type1 G l H.size g22 hRk (by omega) sg) hmo rfl cw_law_19 se_SM_type rfl hl.1 rfl (Nat.le_of_ble_eq_true rfl) d_law_163 ⟨rfl, rfl, by decide, by decide⟩ ⟨by dsimp only [room_1]; omega, by dsimp only [room_1]; omega⟩) (fun r30 g29 H locs p28 hw => ?_)
    obtain ⟨hv2, hMR2, hX2⟩ := p28.2.1 h q
    obtain ⟨E2, hRg2, hlo2⟩ := hRg1.mx hMR2 hX2
    refine lv_icmp_eq (tgt := 701) hx hb d_law_166 (by decide) (fun c31 => ?_) (fun c31 => ?_)
    · refine W.widen (k := 60 + 100 * (j + 1)) (n := 9600 + 900 * (j + 1)) (by dsimp only; omega) (by dsimp only; omega) ?_
      refine lv_iinc (v := (nI (5 * (j + 1)))) (lv' := [(3, .int (nI (5 * (j + 1)))), (0, .ref b), (1, .ref root), (2, .ref (ad 9))]) hx hb d_law_701 hl (k := 0) rfl (nI_add (5 * j) 5) (by decide) rfl (fun ls hl => ?_)
      refine lv_goto (tgt := 18) hx hb d_law_704 (by decide) ?_
      exact hnext ad E2 g1 g29 root pn pt nn nt mn mt dp rf by_ co tx lx fl ls H locs hRg2 (hSC1.lo hlo2) hMR2 hw (lv_sub hl [0, 1, 2, 3] rfl)
    · refine lv_iconst (v := 0) hx hb d_law_169 (by decide) ?_
      exact absurd (hv1.trans hv2.symm) c31
  · obtain ⟨hv1, E1, g1, hRg1, hgl1, hk1, hSC1⟩ := (hp1.2.1 rfl).2.2 h q
    have hRk := hR.keep hRg hRg1 hk1
    obtain ⟨fsM, hmo⟩ := hRk.mo
    refine lv_aload_n hx hb d_law_137 rfl (lv_at hl 3 rfl) ?_
    refine lv_aload_n hx hb d_law_138 rfl (lv_at hl 1 rfl) ?_
    refine lv_iload_n hx hb d_law_139 rfl (lv_at hl 0 rfl) ?_
    refine lv_iconst (v := 1) hx hb d_law_140 (by decide) ?_
    refine lv_iadd hx hb d_law_141 ?_
    refine m_top (y := (nI ((5 * j) + 1))) (nI_add (5 * j) 1) ?_
    refine va_sld hx hb hXs hbl hbA hw.2.1 (vp_in_nI (by omega) (by omega)) d_law_142 ?_
    refine m_top (y := 1) ((congrArg xs (nI_clamp (by omega))).trans ha1.symm) ?_
    refine lv_aload_n hx hb d_law_143 rfl (lv_at hl 1 rfl) ?_
    refine lv_iload_n hx hb d_law_144 rfl (lv_at hl 0 rfl) ?_
    refine lv_iconst (v := 2) hx hb d_law_145 (by decide) ?_
    refine lv_iadd hx hb d_law_146 ?_
    refine m_top (y := (nI ((5 * j) + 2))) (nI_add (5 * j) 2) ?_
    refine va_sld hx hb hXs hbl hbA hw.2.1 (vp_in_nI (by omega) (by omega)) d_law_147 ?_
    refine m_top (y := a2) ((congrArg xs (nI_clamp (by omega))).trans ha2.symm) ?_
    refine lv_i2l hx hb d_law_148 rfl ?_
    refine lv_bipush (v := 32) hx hb d_law_149 (by decide) ?_
    refine lv_lshl hx hb d_law_151 rfl ?_
    refine lv_aload_n hx hb d_law_152 rfl (lv_at hl 1 rfl) ?_
    refine lv_iload_n hx hb d_law_153 rfl (lv_at hl 0 rfl) ?_
    refine lv_iconst (v := 3) hx hb d_law_154 (by decide) ?_
    refine lv_iadd hx hb d_law_155 ?_
    refine m_top (y := (nI ((5 * j) + 3))) (nI_add (5 * j) 3) ?_
    refine va_sld hx hb hXs hbl hbA hw.2.1 (vp_in_nI (by omega) (by omega)) d_law_156 ?_
    refine m_top (y := a3) ((congrArg xs (nI_clamp (by omega))).trans ha3.symm) ?_
    refine lv_i2l hx hb d_law_157 rfl ?_
    refine m_lc2 hc wd_constantLong_StreamFiltersLaw_13_4294967295 d_law_158 ?_
    refine lv_land hx hb d_law_161 ?_
    refine lv_lor hx hb d_law_162 ?_
    refine m_topL (y := sg) hsg.symm ?_
    refine m_calli hw (m_runV (As := [.int 1, .long sg]) (rest := [.int r23]) hc hE hw (c_SM_type1 G l H.size g22 hRk (by omega) sg) hmo rfl cw_law_19 se_SM_type rfl hl.1 rfl (Nat.le_of_ble_eq_true rfl) d_law_163 ⟨rfl, rfl, by decide, by decide⟩ ⟨by dsimp only [room_1]; omega, by dsimp only [room_1]; omega⟩) (fun r34 g33 H locs p32 hw => ?_)
    obtain ⟨hv2, hMR2, hX2⟩ := p32.2.2 h q
    obtain ⟨E2, hRg2, hlo2⟩ := hRg1.mx hMR2 hX2
    refine lv_icmp_eq (tgt := 701) hx hb d_law_166 (by decide) (fun c35 => ?_) (fun c35 => ?_)
    · refine W.widen (k := 60 + 100 * (j + 1)) (n := 9600 + 900 * (j + 1)) (by dsimp only; omega) (by dsimp only; omega) ?_
      refine lv_iinc (v := (nI (5 * (j + 1)))) (lv' := [(3, .int (nI (5 * (j + 1)))), (0, .ref b), (1, .ref root), (2, .ref (ad 9))]) hx hb d_law_701 hl (k := 0) rfl (nI_add (5 * j) 5) (by decide) rfl (fun ls hl => ?_)
      refine lv_goto (tgt := 18) hx hb d_law_704 (by decide) ?_
      exact hnext ad E2 g1 g33 root pn pt (nn + cnT sg 8) (apT nt nn sg 8) mn mt dp rf by_ co tx lx fl ls H locs hRg2 (hSC1.lo hlo2) hMR2 hw (lv_sub hl [0, 1, 2, 3] rfl)
    · refine lv_iconst (v := 0) hx hb d_law_169 (by decide) ?_
      exact absurd (hv1.trans hv2.symm) c35

set_option maxHeartbeats 4000000 in
set_option maxRecDepth 100000 in
theorem law_102 {p : Program} {l : Launch} {e : Env} {s : State} {m : MethodId} {below : List Frame} {meth : Method} {c : Code} {G : GG} {b L : Nat} {xs : Nat → Int32} (hC : LawC p s m meth c G b L xs) {j : Nat} (hj : 5 * j + 5 ≤ L) (hx1 : xs (5 * j + 1) = 2) (hnext : Hd p l e s m below meth c G b (j + 1)) {ad : Nat → Nat} {E : Nat → va_E} {g f : Wd} {root pn : Nat} {pt : Nat → Int32} {nn : Nat} {nt : Nat → Int32} {mn : Nat} {mt : Nat → Int32} {dp rf by_ co tx lx : Int32} {fl : Nat → Option FV} {ls : Array Slot} {H : Heap} {locs : List Loc} (hRg : Rg 25 ad E g f) (hSC : SC G ad E g root pn pt nn nt mn mt dp rf by_ co tx lx fl) (hR : MR G j (ad 9) (fun k => ad (10 + k)) f pn pt nn nt mn mt dp rf by_ co tx lx fl) (hw : ms G.1 (Al s) f s H locs) (hl : lv_has ls 4 [(3, .int (nI (5 * j))), (0, .ref b), (1, .ref root), (2, .ref (ad 9))]) : LG p l e s m below meth c b H locs (60 + 100 * j) (9600 + 900 * j) 108 ls [] := by
  obtain ⟨hc, hr, hlk, hXs, hbl, hE, hL⟩ := hC
  have hx := hc.1
  have hb := hc.2.1
  have hbA : ¬ Al s b := Nat.not_le.mpr hbl
  obtain ⟨a2, ha2⟩ : ∃ z, z = xs (5 * j + 2) := ⟨_, rfl⟩
  obtain ⟨a3, ha3⟩ : ∃ z, z = xs (5 * j + 3) := ⟨_, rfl⟩
  obtain ⟨sg, hsg⟩ : ∃ z, z = (a2.toInt64 <<< ((32 : Int32).toInt64 &&& 63)) ||| (a3.toInt64 &&& 4294967295) := ⟨_, rfl⟩
  have ha1 : (2 : Int32) = xs (5 * j + 1) := hx1.symm
  refine lv_aload_n hx hb d_law_108 rfl (lv_at hl 2 rfl) ?_
  refine lv_aload_n hx hb d_law_109 rfl (lv_at hl 1 rfl) ?_
  refine lv_iload_n hx hb d_law_110 rfl (lv_at hl 0 rfl) ?_
  refine lv_iconst (v := 1) hx hb d_law_111 (by decide) ?_
  refine lv_iadd hx hb d_law_112 ?_
  refine m_top (y := (nI ((5 * j) + 1))) (nI_add (5 * j) 1) ?_
  refine va_sld hx hb hXs hbl hbA hw.2.1 (vp_in_nI (by omega) (by omega)) d_law_113 ?_
  refine m_top (y := 2) ((congrArg xs (nI_clamp (by omega))).trans ha1.symm) ?_
  refine lv_aload_n hx hb d_law_114 rfl (lv_at hl 1 rfl) ?_
  refine lv_iload_n hx hb d_law_115 rfl (lv_at hl 0 rfl) ?_
  refine lv_iconst (v := 2) hx hb d_law_116 (by decide) ?_
  refine lv_iadd hx hb d_law_117 ?_
  refine m_top (y := (nI ((5 * j) + 2))) (nI_add (5 * j) 2) ?_
  refine va_sld hx hb hXs hbl hbA hw.2.1 (vp_in_nI (by omega) (by omega)) d_law_118 ?_
  refine m_top (y := a2) ((congrArg xs (nI_clamp (by omega))).trans ha2.symm) ?_
  refine lv_i2l hx hb d_law_119 rfl ?_
  refine lv_bipush (v := 32) hx hb d_law_120 (by decide) ?_
  refine lv_lshl hx hb d_law_122 rfl ?_
  refine lv_aload_n hx hb d_law_123 rfl (lv_at hl 1 rfl) ?_
  refine lv_iload_n hx hb d_law_124 rfl (lv_at hl 0 rfl) ?_
  refine lv_iconst (v := 3) hx hb d_law_125 (by decide) ?_
  refine lv_iadd hx hb d_law_126 ?_
  refine m_top (y := (nI ((5 * j) + 3))) (nI_add (5 * j) 3) ?_
  refine va_sld hx hb hXs hbl hbA hw.2.1 (vp_in_nI (by omega) (by omega)) d_law_127 ?_
  refine m_top (y := a3) ((congrArg xs (nI_clamp (by omega))).trans ha3.symm) ?_
  refine lv_i2l hx hb d_law_128 rfl ?_
  refine m_lc2 hc wd_constantLong_StreamFiltersLaw_13_4294967295 d_law_129 ?_
  refine lv_land hx hb d_law_132 ?_
  refine lv_lor hx hb d_law_133 ?_
  refine m_topL (y := sg) hsg.symm ?_
  refine m_calli hw (m_runV (As := [.int 2, .long sg]) (rest := []) hc hE hw (c_SF_type G l H.size f (N := 25) (by decide) hRg hSC 2 sg) (hRg.2.2.1 _ _ hSC.1) rfl cw_law_15 se_SF_type rfl hl.1 rfl (Nat.le_of_ble_eq_true rfl) d_law_134 ⟨rfl, rfl, by decide, by decide⟩ ⟨by dsimp only [room_1]; omega, by dsimp only [room_1]; omega⟩) (fun r23 g22 H locs p21 hw => ?_)
  have hp1 := p21
  rcases cs_2 (∀ k, k < 8 → okb (byt sg k)) (mn + cnT sg 8 ≤ 12) with h | ⟨h, q⟩ | ⟨h, q⟩
  · obtain ⟨hv1, E1, g1, hRg1, hgl1, hk1, hSC1⟩ := (hp1.2.2.1 rfl).1 h
    have hRk := hR.keep hRg hRg1 hk1
    obtain ⟨fsM, hmo⟩ := hRk.mo
    refine lv_aload_n hx hb d_law_137 rfl (lv_at hl 3 rfl) ?_
    refine lv_aload_n hx hb d_law_138 rfl (lv_at hl 1 rfl) ?_
    refine lv_iload_n hx hb d_law_139 rfl (lv_at hl 0 rfl) ?_
    refine lv_iconst (v := 1) hx hb d_law_140 (by decide) ?_
    refine lv_iadd hx hb d_law_141 ?_
    refine m_top (y := (nI ((5 * j) + 1))) (nI_add (5 * j) 1) ?_
    refine va_sld hx hb hXs hbl hbA hw.2.1 (vp_in_nI (by omega) (by omega)) d_law_142 ?_
    refine m_top (y := 2) ((congrArg xs (nI_clamp (by omega))).trans ha1.symm) ?_
    refine lv_aload_n hx hb d_law_143 rfl (lv_at hl 1 rfl) ?_
    refine lv_iload_n hx hb d_law_144 rfl (lv_at hl 0 rfl) ?_
    refine lv_iconst (v := 2) hx hb d_law_145 (by decide) ?_
    refine lv_iadd hx hb d_law_146 ?_
    refine m_top (y := (nI ((5 * j) + 2))) (nI_add (5 * j) 2) ?_
    refine va_sld hx hb hXs hbl hbA hw.2.1 (vp_in_nI (by omega) (by omega)) d_law_147 ?_
    refine m_top (y := a2) ((congrArg xs (nI_clamp (by omega))).trans ha2.symm) ?_
    refine lv_i2l hx hb d_law_148 rfl ?_
    refine lv_bipush (v := 32) hx hb d_law_149 (by decide) ?_
    refine lv_lshl hx hb d_law_151 rfl ?_
    refine lv_aload_n hx hb d_law_152 rfl (lv_at hl 1 rfl) ?_
    refine lv_iload_n hx hb d_law_153 rfl (lv_at hl 0 rfl) ?_
    refine lv_iconst (v := 3) hx hb d_law_154 (by decide) ?_
    refine lv_iadd hx hb d_law_155 ?_
    refine m_top (y := (nI ((5 * j) + 3))) (nI_add (5 * j) 3) ?_
    refine va_sld hx hb hXs hbl hbA hw.2.1 (vp_in_nI (by omega) (by omega)) d_law_156 ?_
    refine m_top (y := a3) ((congrArg xs (nI_clamp (by omega))).trans ha3.symm) ?_
    refine lv_i2l hx hb d_law_157 rfl ?_
    refine m_lc2 hc wd_constantLong_StreamFiltersLaw_13_4294967295 d_law_158 ?_
    refine lv_land hx hb d_law_161 ?_
    refine lv_lor hx hb d_law_162 ?_
    refine m_topL (y := sg) hsg.symm ?_
    refine m_calli hw (m_runV (As := [.int 2, .long sg]) (rest := [.int r23]) hc hE hw (c_SM_type2 G l H.size g22 hRk (by omega) sg) hmo rfl cw_law_19 se_SM_type rfl hl.1 rfl (Nat.le_of_ble_eq_true rfl) d_law_163 ⟨rfl, rfl, by decide, by decide⟩ ⟨by dsimp only [room_1]; omega, by dsimp only [room_1]; omega⟩) (fun r26 g25 H locs p24 hw => ?_)
    obtain ⟨hv2, hMR2, hX2⟩ := p24.1 h
    obtain ⟨E2, hRg2, hlo2⟩ := hRg1.mx hMR2 hX2
    refine lv_icmp_eq (tgt := 701) hx hb d_law_166 (by decide) (fun c27 => ?_) (fun c27 => ?_)
    · refine W.widen (k := 60 + 100 * (j + 1)) (n := 9600 + 900 * (j + 1)) (by dsimp only; omega) (by dsimp only; omega) ?_
      refine lv_iinc (v := (nI (5 * (j + 1)))) (lv' := [(3, .int (nI (5 * (j + 1)))), (0, .ref b), (1, .ref root), (2, .ref (ad 9))]) hx hb d_law_701 hl (k := 0) rfl (nI_add (5 * j) 5) (by decide) rfl (fun ls hl => ?_)
      refine lv_goto (tgt := 18) hx hb d_law_704 (by decide) ?_
      exact hnext ad E2 g1 g25 root pn pt nn nt mn mt dp rf by_ co tx lx fl ls H locs hRg2 (hSC1.lo hlo2) hMR2 hw (lv_sub hl [0, 1, 2, 3] rfl)
    · refine lv_iconst (v := 0) hx hb d_law_169 (by decide) ?_
      exact absurd (hv1.trans hv2.symm) c27
  · obtain ⟨hv1, E1, g1, hRg1, hgl1, hk1, hSC1⟩ := (hp1.2.2.1 rfl).2.1 h q
    have hRk := hR.keep hRg hRg1 hk1
    obtain ⟨fsM, hmo⟩ := hRk.mo
    refine lv_aload_n hx hb d_law_137 rfl (lv_at hl 3 rfl) ?_
    refine lv_aload_n hx hb d_law_138 rfl (lv_at hl 1 rfl) ?_
    refine lv_iload_n hx hb d_law_139 rfl (lv_at hl 0 rfl) ?_
    refine lv_iconst (v := 1) hx hb d_law_140 (by decide) ?_
    refine lv_iadd hx hb d_law_141 ?_
    refine m_top (y := (nI ((5 * j) + 1))) (nI_add (5 * j) 1) ?_
    refine va_sld hx hb hXs hbl hbA hw.2.1 (vp_in_nI (by omega) (by omega)) d_law_142 ?_
    refine m_top (y := 2) ((congrArg xs (nI_clamp (by omega))).trans ha1.symm) ?_
    refine lv_aload_n hx hb d_law_143 rfl (lv_at hl 1 rfl) ?_
    refine lv_iload_n hx hb d_law_144 rfl (lv_at hl 0 rfl) ?_
    refine lv_iconst (v := 2) hx hb d_law_145 (by decide) ?_
    refine lv_iadd hx hb d_law_146 ?_
    refine m_top (y := (nI ((5 * j) + 2))) (nI_add (5 * j) 2) ?_
    refine va_sld hx hb hXs hbl hbA hw.2.1 (vp_in_nI (by omega) (by omega)) d_law_147 ?_
    refine m_top (y := a2) ((congrArg xs (nI_clamp (by omega))).trans ha2.symm) ?_
    refine lv_i2l hx hb d_law_148 rfl ?_
    refine lv_bipush (v := 32) hx hb d_law_149 (by decide) ?_
    refine lv_lshl hx hb d_law_151 rfl ?_
    refine lv_aload_n hx hb d_law_152 rfl (lv_at hl 1 rfl) ?_
    refine lv_iload_n hx hb d_law_153 rfl (lv_at hl 0 rfl) ?_
    refine lv_iconst (v := 3) hx hb d_law_154 (by decide) ?_
    refine lv_iadd hx hb d_law_155 ?_
    refine m_top (y := (nI ((5 * j) + 3))) (nI_add (5 * j) 3) ?_
    refine va_sld hx hb hXs hbl hbA hw.2.1 (vp_in_nI (by omega) (by omega)) d_law_156 ?_
    refine m_top (y := a3) ((congrArg xs (nI_clamp (by omega))).trans ha3.symm) ?_
    refine lv_i2l hx hb d_law_157 rfl ?_
    refine m_lc2 hc wd_constantLong_StreamFiltersLaw_13_4294967295 d_law_158 ?_
    refine lv_land hx hb d_law_161 ?_
    refine lv_lor hx hb d_law_162 ?_
    refine m_topL (y := sg) hsg.symm ?_
    refine m_calli hw (m_runV (As := [.int 2, .long sg]) (rest := [.int r23]) hc hE hw (c_SM_type2 G l H.size g22 hRk (by omega) sg) hmo rfl cw_law_19 se_SM_type rfl hl.1 rfl (Nat.le_of_ble_eq_true rfl) d_law_163 ⟨rfl, rfl, by decide, by decide⟩ ⟨by dsimp only [room_1]; omega, by dsimp only [room_1]; omega⟩) (fun r30 g29 H locs p28 hw => ?_)
    obtain ⟨hv2, hMR2, hX2⟩ := p28.2.1 h q
    obtain ⟨E2, hRg2, hlo2⟩ := hRg1.mx hMR2 hX2
    refine lv_icmp_eq (tgt := 701) hx hb d_law_166 (by decide) (fun c31 => ?_) (fun c31 => ?_)
    · refine W.widen (k := 60 + 100 * (j + 1)) (n := 9600 + 900 * (j + 1)) (by dsimp only; omega) (by dsimp only; omega) ?_
      refine lv_iinc (v := (nI (5 * (j + 1)))) (lv' := [(3, .int (nI (5 * (j + 1)))), (0, .ref b), (1, .ref root), (2, .ref (ad 9))]) hx hb d_law_701 hl (k := 0) rfl (nI_add (5 * j) 5) (by decide) rfl (fun ls hl => ?_)
      refine lv_goto (tgt := 18) hx hb d_law_704 (by decide) ?_
      exact hnext ad E2 g1 g29 root pn pt nn nt mn mt dp rf by_ co tx lx fl ls H locs hRg2 (hSC1.lo hlo2) hMR2 hw (lv_sub hl [0, 1, 2, 3] rfl)
    · refine lv_iconst (v := 0) hx hb d_law_169 (by decide) ?_
      exact absurd (hv1.trans hv2.symm) c31
  · obtain ⟨hv1, E1, g1, hRg1, hgl1, hk1, hSC1⟩ := (hp1.2.2.1 rfl).2.2 h q
    have hRk := hR.keep hRg hRg1 hk1
    obtain ⟨fsM, hmo⟩ := hRk.mo
    refine lv_aload_n hx hb d_law_137 rfl (lv_at hl 3 rfl) ?_
    refine lv_aload_n hx hb d_law_138 rfl (lv_at hl 1 rfl) ?_
    refine lv_iload_n hx hb d_law_139 rfl (lv_at hl 0 rfl) ?_
    refine lv_iconst (v := 1) hx hb d_law_140 (by decide) ?_
    refine lv_iadd hx hb d_law_141 ?_
    refine m_top (y := (nI ((5 * j) + 1))) (nI_add (5 * j) 1) ?_
    refine va_sld hx hb hXs hbl hbA hw.2.1 (vp_in_nI (by omega) (by omega)) d_law_142 ?_
    refine m_top (y := 2) ((congrArg xs (nI_clamp (by omega))).trans ha1.symm) ?_
    refine lv_aload_n hx hb d_law_143 rfl (lv_at hl 1 rfl) ?_
    refine lv_iload_n hx hb d_law_144 rfl (lv_at hl 0 rfl) ?_
    refine lv_iconst (v := 2) hx hb d_law_145 (by decide) ?_
    refine lv_iadd hx hb d_law_146 ?_
    refine m_top (y := (nI ((5 * j) + 2))) (nI_add (5 * j) 2) ?_
    refine va_sld hx hb hXs hbl hbA hw.2.1 (vp_in_nI (by omega) (by omega)) d_law_147 ?_
    refine m_top (y := a2) ((congrArg xs (nI_clamp (by omega))).trans ha2.symm) ?_
    refine lv_i2l hx hb d_law_148 rfl ?_
    refine lv_bipush (v := 32) hx hb d_law_149 (by decide) ?_
    refine lv_lshl hx hb d_law_151 rfl ?_
    refine lv_aload_n hx hb d_law_152 rfl (lv_at hl 1 rfl) ?_
    refine lv_iload_n hx hb d_law_153 rfl (lv_at hl 0 rfl) ?_
    refine lv_iconst (v := 3) hx hb d_law_154 (by decide) ?_
    refine lv_iadd hx hb d_law_155 ?_
    refine m_top (y := (nI ((5 * j) + 3))) (nI_add (5 * j) 3) ?_
    refine va_sld hx hb hXs hbl hbA hw.2.1 (vp_in_nI (by omega) (by omega)) d_law_156 ?_
    refine m_top (y := a3) ((congrArg xs (nI_clamp (by omega))).trans ha3.symm) ?_
    refine lv_i2l hx hb d_law_157 rfl ?_
    refine m_lc2 hc wd_constantLong_StreamFiltersLaw_13_4294967295 d_law_158 ?_
    refine lv_land hx hb d_law_161 ?_
    refine lv_lor hx hb d_law_162 ?_
    refine m_topL (y := sg) hsg.symm ?_
    refine m_calli hw (m_runV (As := [.int 2, .long sg]) (rest := [.int r23]) hc hE hw (c_SM_type2 G l H.size g22 hRk (by omega) sg) hmo rfl cw_law_19 se_SM_type rfl hl.1 rfl (Nat.le_of_ble_eq_true rfl) d_law_163 ⟨rfl, rfl, by decide, by decide⟩ ⟨by dsimp only [room_1]; omega, by dsimp only [room_1]; omega⟩) (fun r34 g33 H locs p32 hw => ?_)
    obtain ⟨hv2, hMR2, hX2⟩ := p32.2.2 h q
    obtain ⟨E2, hRg2, hlo2⟩ := hRg1.mx hMR2 hX2
    refine lv_icmp_eq (tgt := 701) hx hb d_law_166 (by decide) (fun c35 => ?_) (fun c35 => ?_)
    · refine W.widen (k := 60 + 100 * (j + 1)) (n := 9600 + 900 * (j + 1)) (by dsimp only; omega) (by dsimp only; omega) ?_
      refine lv_iinc (v := (nI (5 * (j + 1)))) (lv' := [(3, .int (nI (5 * (j + 1)))), (0, .ref b), (1, .ref root), (2, .ref (ad 9))]) hx hb d_law_701 hl (k := 0) rfl (nI_add (5 * j) 5) (by decide) rfl (fun ls hl => ?_)
      refine lv_goto (tgt := 18) hx hb d_law_704 (by decide) ?_
      exact hnext ad E2 g1 g33 root pn pt nn nt (mn + cnT sg 8) (apT mt mn sg 8) dp rf by_ co tx lx fl ls H locs hRg2 (hSC1.lo hlo2) hMR2 hw (lv_sub hl [0, 1, 2, 3] rfl)
    · refine lv_iconst (v := 0) hx hb d_law_169 (by decide) ?_
      exact absurd (hv1.trans hv2.symm) c35

set_option maxHeartbeats 4000000 in
set_option maxRecDepth 100000 in
theorem law_103 {p : Program} {l : Launch} {e : Env} {s : State} {m : MethodId} {below : List Frame} {meth : Method} {c : Code} {G : GG} {b L : Nat} {xs : Nat → Int32} (hC : LawC p s m meth c G b L xs) {j : Nat} (hj : 5 * j + 5 ≤ L) (hn0 : ¬ xs (5 * j + 1) = 0) (hn1 : ¬ xs (5 * j + 1) = 1) (hn2 : ¬ xs (5 * j + 1) = 2) (hnext : Hd p l e s m below meth c G b (j + 1)) {ad : Nat → Nat} {E : Nat → va_E} {g f : Wd} {root pn : Nat} {pt : Nat → Int32} {nn : Nat} {nt : Nat → Int32} {mn : Nat} {mt : Nat → Int32} {dp rf by_ co tx lx : Int32} {fl : Nat → Option FV} {ls : Array Slot} {H : Heap} {locs : List Loc} (hRg : Rg 25 ad E g f) (hSC : SC G ad E g root pn pt nn nt mn mt dp rf by_ co tx lx fl) (hR : MR G j (ad 9) (fun k => ad (10 + k)) f pn pt nn nt mn mt dp rf by_ co tx lx fl) (hw : ms G.1 (Al s) f s H locs) (hl : lv_has ls 4 [(3, .int (nI (5 * j))), (0, .ref b), (1, .ref root), (2, .ref (ad 9))]) : LG p l e s m below meth c b H locs (60 + 100 * j) (9600 + 900 * j) 108 ls [] := by
  obtain ⟨hc, hr, hlk, hXs, hbl, hE, hL⟩ := hC
  have hx := hc.1
  have hb := hc.2.1
  have hbA : ¬ Al s b := Nat.not_le.mpr hbl
  obtain ⟨a1, ha1⟩ : ∃ z, z = xs (5 * j + 1) := ⟨_, rfl⟩
  obtain ⟨a2, ha2⟩ : ∃ z, z = xs (5 * j + 2) := ⟨_, rfl⟩
  obtain ⟨a3, ha3⟩ : ∃ z, z = xs (5 * j + 3) := ⟨_, rfl⟩
  obtain ⟨sg, hsg⟩ : ∃ z, z = (a2.toInt64 <<< ((32 : Int32).toInt64 &&& 63)) ||| (a3.toInt64 &&& 4294967295) := ⟨_, rfl⟩
  have q0 : ¬ a1 = 0 := by rw [ha1]; exact hn0
  have q1 : ¬ a1 = 1 := by rw [ha1]; exact hn1
  have q2 : ¬ a1 = 2 := by rw [ha1]; exact hn2
  refine lv_aload_n hx hb d_law_108 rfl (lv_at hl 2 rfl) ?_
  refine lv_aload_n hx hb d_law_109 rfl (lv_at hl 1 rfl) ?_
  refine lv_iload_n hx hb d_law_110 rfl (lv_at hl 0 rfl) ?_
  refine lv_iconst (v := 1) hx hb d_law_111 (by decide) ?_
  refine lv_iadd hx hb d_law_112 ?_
  refine m_top (y := (nI ((5 * j) + 1))) (nI_add (5 * j) 1) ?_
  refine va_sld hx hb hXs hbl hbA hw.2.1 (vp_in_nI (by omega) (by omega)) d_law_113 ?_
  refine m_top (y := a1) ((congrArg xs (nI_clamp (by omega))).trans ha1.symm) ?_
  refine lv_aload_n hx hb d_law_114 rfl (lv_at hl 1 rfl) ?_
  refine lv_iload_n hx hb d_law_115 rfl (lv_at hl 0 rfl) ?_
  refine lv_iconst (v := 2) hx hb d_law_116 (by decide) ?_
  refine lv_iadd hx hb d_law_117 ?_
  refine m_top (y := (nI ((5 * j) + 2))) (nI_add (5 * j) 2) ?_
  refine va_sld hx hb hXs hbl hbA hw.2.1 (vp_in_nI (by omega) (by omega)) d_law_118 ?_
  refine m_top (y := a2) ((congrArg xs (nI_clamp (by omega))).trans ha2.symm) ?_
  refine lv_i2l hx hb d_law_119 rfl ?_
  refine lv_bipush (v := 32) hx hb d_law_120 (by decide) ?_
  refine lv_lshl hx hb d_law_122 rfl ?_
  refine lv_aload_n hx hb d_law_123 rfl (lv_at hl 1 rfl) ?_
  refine lv_iload_n hx hb d_law_124 rfl (lv_at hl 0 rfl) ?_
  refine lv_iconst (v := 3) hx hb d_law_125 (by decide) ?_
  refine lv_iadd hx hb d_law_126 ?_
  refine m_top (y := (nI ((5 * j) + 3))) (nI_add (5 * j) 3) ?_
  refine va_sld hx hb hXs hbl hbA hw.2.1 (vp_in_nI (by omega) (by omega)) d_law_127 ?_
  refine m_top (y := a3) ((congrArg xs (nI_clamp (by omega))).trans ha3.symm) ?_
  refine lv_i2l hx hb d_law_128 rfl ?_
  refine m_lc2 hc wd_constantLong_StreamFiltersLaw_13_4294967295 d_law_129 ?_
  refine lv_land hx hb d_law_132 ?_
  refine lv_lor hx hb d_law_133 ?_
  refine m_topL (y := sg) hsg.symm ?_
  refine m_calli hw (m_runV (As := [.int a1, .long sg]) (rest := []) hc hE hw (c_SF_type G l H.size f (N := 25) (by decide) hRg hSC a1 sg) (hRg.2.2.1 _ _ hSC.1) rfl cw_law_15 se_SF_type rfl hl.1 rfl (Nat.le_of_ble_eq_true rfl) d_law_134 ⟨rfl, rfl, by decide, by decide⟩ ⟨by dsimp only [room_1]; omega, by dsimp only [room_1]; omega⟩) (fun r23 g22 H locs p21 hw => ?_)
  have hp1 := p21
  obtain ⟨hv1, E1, g1, hRg1, hgl1, hk1, hSC1⟩ := hp1.2.2.2 q0 q1 q2
  have hRk := hR.keep hRg hRg1 hk1
  obtain ⟨fsM, hmo⟩ := hRk.mo
  refine lv_aload_n hx hb d_law_137 rfl (lv_at hl 3 rfl) ?_
  refine lv_aload_n hx hb d_law_138 rfl (lv_at hl 1 rfl) ?_
  refine lv_iload_n hx hb d_law_139 rfl (lv_at hl 0 rfl) ?_
  refine lv_iconst (v := 1) hx hb d_law_140 (by decide) ?_
  refine lv_iadd hx hb d_law_141 ?_
  refine m_top (y := (nI ((5 * j) + 1))) (nI_add (5 * j) 1) ?_
  refine va_sld hx hb hXs hbl hbA hw.2.1 (vp_in_nI (by omega) (by omega)) d_law_142 ?_
  refine m_top (y := a1) ((congrArg xs (nI_clamp (by omega))).trans ha1.symm) ?_
  refine lv_aload_n hx hb d_law_143 rfl (lv_at hl 1 rfl) ?_
  refine lv_iload_n hx hb d_law_144 rfl (lv_at hl 0 rfl) ?_
  refine lv_iconst (v := 2) hx hb d_law_145 (by decide) ?_
  refine lv_iadd hx hb d_law_146 ?_
  refine m_top (y := (nI ((5 * j) + 2))) (nI_add (5 * j) 2) ?_
  refine va_sld hx hb hXs hbl hbA hw.2.1 (vp_in_nI (by omega) (by omega)) d_law_147 ?_
  refine m_top (y := a2) ((congrArg xs (nI_clamp (by omega))).trans ha2.symm) ?_
  refine lv_i2l hx hb d_law_148 rfl ?_
  refine lv_bipush (v := 32) hx hb d_law_149 (by decide) ?_
  refine lv_lshl hx hb d_law_151 rfl ?_
  refine lv_aload_n hx hb d_law_152 rfl (lv_at hl 1 rfl) ?_
  refine lv_iload_n hx hb d_law_153 rfl (lv_at hl 0 rfl) ?_
  refine lv_iconst (v := 3) hx hb d_law_154 (by decide) ?_
  refine lv_iadd hx hb d_law_155 ?_
  refine m_top (y := (nI ((5 * j) + 3))) (nI_add (5 * j) 3) ?_
  refine va_sld hx hb hXs hbl hbA hw.2.1 (vp_in_nI (by omega) (by omega)) d_law_156 ?_
  refine m_top (y := a3) ((congrArg xs (nI_clamp (by omega))).trans ha3.symm) ?_
  refine lv_i2l hx hb d_law_157 rfl ?_
  refine m_lc2 hc wd_constantLong_StreamFiltersLaw_13_4294967295 d_law_158 ?_
  refine lv_land hx hb d_law_161 ?_
  refine lv_lor hx hb d_law_162 ?_
  refine m_topL (y := sg) hsg.symm ?_
  refine m_calli hw (m_runV (As := [.int a1, .long sg]) (rest := [.int r23]) hc hE hw (c_SM_typeX G l H.size g22 hRk (by omega) a1 sg q0 q1 q2) hmo rfl cw_law_19 se_SM_type rfl hl.1 rfl (Nat.le_of_ble_eq_true rfl) d_law_163 ⟨rfl, rfl, by decide, by decide⟩ ⟨by dsimp only [room_1]; omega, by dsimp only [room_1]; omega⟩) (fun r26 g25 H locs p24 hw => ?_)
  obtain ⟨hv2, hMR2, hX2⟩ := p24
  obtain ⟨E2, hRg2, hlo2⟩ := hRg1.mx hMR2 hX2
  refine lv_icmp_eq (tgt := 701) hx hb d_law_166 (by decide) (fun c27 => ?_) (fun c27 => ?_)
  · refine W.widen (k := 60 + 100 * (j + 1)) (n := 9600 + 900 * (j + 1)) (by dsimp only; omega) (by dsimp only; omega) ?_
    refine lv_iinc (v := (nI (5 * (j + 1)))) (lv' := [(3, .int (nI (5 * (j + 1)))), (0, .ref b), (1, .ref root), (2, .ref (ad 9))]) hx hb d_law_701 hl (k := 0) rfl (nI_add (5 * j) 5) (by decide) rfl (fun ls hl => ?_)
    refine lv_goto (tgt := 18) hx hb d_law_704 (by decide) ?_
    exact hnext ad E2 g1 g25 root pn pt nn nt mn mt dp rf by_ co tx lx fl ls H locs hRg2 (hSC1.lo hlo2) hMR2 hw (lv_sub hl [0, 1, 2, 3] rfl)
  · refine lv_iconst (v := 0) hx hb d_law_169 (by decide) ?_
    exact absurd (hv1.trans hv2.symm) c27

theorem law_0 {p : Program} {l : Launch} {e : Env} {s : State} {m : MethodId} {below : List Frame} {meth : Method} {c : Code} {G : GG} {b L : Nat} {xs : Nat → Int32} (hC : LawC p s m meth c G b L xs) {j : Nat} (hj : 5 * j + 5 ≤ L) (hnext : Hd p l e s m below meth c G b (j + 1)) {ad : Nat → Nat} {E : Nat → va_E} {g f : Wd} {root pn : Nat} {pt : Nat → Int32} {nn : Nat} {nt : Nat → Int32} {mn : Nat} {mt : Nat → Int32} {dp rf by_ co tx lx : Int32} {fl : Nat → Option FV} {ls : Array Slot} {H : Heap} {locs : List Loc} (hRg : Rg 25 ad E g f) (hSC : SC G ad E g root pn pt nn nt mn mt dp rf by_ co tx lx fl) (hR : MR G j (ad 9) (fun k => ad (10 + k)) f pn pt nn nt mn mt dp rf by_ co tx lx fl) (hw : ms G.1 (Al s) f s H locs) (hl : lv_has ls 4 [(3, .int (nI (5 * j))), (0, .ref b), (1, .ref root), (2, .ref (ad 9))]) : LG p l e s m below meth c b H locs (60 + 100 * j) (9600 + 900 * j) 108 ls [] := by
  rcases cs_x (xs (5 * j + 1)) with h | h | h | ⟨h0, h1, h2⟩
  · exact law_100 hC hj h hnext hRg hSC hR hw hl
  · exact law_101 hC hj h hnext hRg hSC hR hw hl
  · exact law_102 hC hj h hnext hRg hSC hR hw hl
  · exact law_103 hC hj h0 h1 h2 hnext hRg hSC hR hw hl

theorem MR.suc {G : GG} {c mo : Nat} {ar : Nat → Nat} {f : Wd} {pn nn mn : Nat} {pt nt mt : Nat → Int32} {dp rf by_ co tx lx : Int32} {fl : Nat → Option FV} (h : MR G c mo ar f pn pt nn nt mn mt dp rf by_ co tx lx fl) : MR G (c + 1) mo ar f pn pt nn nt mn mt dp rf by_ co tx lx fl := by
  obtain ⟨sc, av, b, md, hM, hS⟩ := h
  exact ⟨sc, av, b, md, hM, hS.fr (fun _ _ => rfl)⟩
set_option maxHeartbeats 4000000 in
set_option maxRecDepth 100000 in
theorem law_loop {p : Program} {l : Launch} {e : Env} {s : State} {m : MethodId} {below : List Frame} {meth : Method} {c : Code} {G : GG} {b L : Nat} {xs : Nat → Int32} (hC : LawC p s m meth c G b L xs) : ∀ n j : Nat, 5 * j ≤ L → L + 1 ≤ 5 * j + n → Hd p l e s m below meth c G b j := by
  intro n
  induction n with
  | zero => intro j h1 h2; exact absurd h2 (by omega)
  | succ n ih =>
    intro j hjL hjn ad E g f root pn pt nn nt mn mt dp rf by_ co tx lx fl ls H locs hRg hSC hR hw hl
    have hC0 := hC
    obtain ⟨hc, hr, hlk, hXs, hbl, hE, hL⟩ := hC
    have hx := hc.1
    have hb := hc.2.1
    have hbA : ¬ Al s b := Nat.not_le.mpr hbl
    have hti : (Int32.ofNat L - 5).toInt = (L : Int) - 5 := pk_sub_toInt (a := L) (b := 5) (by omega) (by decide)
    refine lv_iload_n hx hb d_law_18 rfl (lv_at hl 0 rfl) ?_
    refine lv_aload_n hx hb d_law_19 rfl (lv_at hl 1 rfl) ?_
    refine va_slen hx hb hXs hbl hbA hw.2.1 d_law_20 ?_
    refine lv_iconst (v := 5) hx hb d_law_21 (by decide) ?_
    refine lv_isub hx hb d_law_22 ?_
    refine lv_icmp_gt (tgt := 707) hx hb d_law_23 (by decide) (fun c21 => ?_) (fun c21 => ?_)
    · refine lv_iconst (v := 1) hx hb d_law_707 (by decide) ?_
      refine va_forget (fun q hq => hw.2.1.2.2 q hq) ?_
      refine W.widen (k := 600000) (n := 7302250) (by omega) (by omega) ?_
      exact lw_ret hx hb hr hlk d_law_708
    · have hj : 5 * j + 5 ≤ L := by have h := c21; rw [Int32.lt_iff_toInt_lt, hti, nI_toInt (by omega)] at h; omega
      obtain ⟨a0, ha0⟩ : ∃ z, z = xs (5 * j) := ⟨_, rfl⟩
      refine lv_aload_n hx hb d_law_26 rfl (lv_at hl 1 rfl) ?_
      refine lv_iload_n hx hb d_law_27 rfl (lv_at hl 0 rfl) ?_
      refine va_sld hx hb hXs hbl hbA hw.2.1 (vp_in_nI (by omega) (by omega)) d_law_28 ?_
      refine m_top (y := a0) ((congrArg xs (nI_clamp (by omega))).trans ha0.symm) ?_
      refine lv_bipush (v := 15) hx hb d_law_29 (by decide) ?_
      refine lv_iand hx hb d_law_31 ?_
      by_cases k22 : (a0 &&& 15) = 0
      · refine lv_tableIn (tgt := 108) hx hb d_law_32 (off := 76) (by rw [k22]; decide) (by rw [k22]; decide) (by rw [k22] <;> rfl) (by decide) ?_
        exact law_0 hC0 hj (ih (j + 1) (by omega) (by omega)) hRg hSC hR hw (lv_sub hl [0, 1, 2, 3] rfl)
      by_cases k23 : (a0 &&& 15) = 1
      · refine lv_tableIn (tgt := 171) hx hb d_law_32 (off := 139) (by rw [k23]; decide) (by rw [k23]; decide) (by rw [k23] <;> rfl) (by decide) ?_
        exact law_1 hC0 hj (ih (j + 1) (by omega) (by omega)) hRg hSC hR hw (lv_sub hl [0, 1, 2, 3] rfl)
      by_cases k24 : (a0 &&& 15) = 2
      · refine lv_tableIn (tgt := 194) hx hb d_law_32 (off := 162) (by rw [k24]; decide) (by rw [k24]; decide) (by rw [k24] <;> rfl) (by decide) ?_
        exact law_2 hC0 hj (ih (j + 1) (by omega) (by omega)) hRg hSC hR hw (lv_sub hl [0, 1, 2, 3] rfl)
      by_cases k25 : (a0 &&& 15) = 3
      · refine lv_tableIn (tgt := 243) hx hb d_law_32 (off := 211) (by rw [k25]; decide) (by rw [k25]; decide) (by rw [k25] <;> rfl) (by decide) ?_
        exact law_3 hC0 hj (ih (j + 1) (by omega) (by omega)) hRg hSC hR hw (lv_sub hl [0, 1, 2, 3] rfl)
      by_cases k26 : (a0 &&& 15) = 4
      · refine lv_tableIn (tgt := 256) hx hb d_law_32 (off := 224) (by rw [k26]; decide) (by rw [k26]; decide) (by rw [k26] <;> rfl) (by decide) ?_
        exact law_4 hC0 hj (ih (j + 1) (by omega) (by omega)) hRg hSC hR hw (lv_sub hl [0, 1, 2, 3] rfl)
      by_cases k27 : (a0 &&& 15) = 5
      · refine lv_tableIn (tgt := 299) hx hb d_law_32 (off := 267) (by rw [k27]; decide) (by rw [k27]; decide) (by rw [k27] <;> rfl) (by decide) ?_
        exact law_5 hC0 hj (ih (j + 1) (by omega) (by omega)) hRg hSC hR hw (lv_sub hl [0, 1, 2, 3] rfl)
      by_cases k28 : (a0 &&& 15) = 6
      · refine lv_tableIn (tgt := 358) hx hb d_law_32 (off := 326) (by rw [k28]; decide) (by rw [k28]; decide) (by rw [k28] <;> rfl) (by decide) ?_
        exact law_6 hC0 hj (ih (j + 1) (by omega) (by omega)) hRg hSC hR hw (lv_sub hl [0, 1, 2, 3] rfl)
      by_cases k29 : (a0 &&& 15) = 7
      · refine lv_tableIn (tgt := 401) hx hb d_law_32 (off := 369) (by rw [k29]; decide) (by rw [k29]; decide) (by rw [k29] <;> rfl) (by decide) ?_
        exact law_7 hC0 hj (ih (j + 1) (by omega) (by omega)) hRg hSC hR hw (lv_sub hl [0, 1, 2, 3] rfl)
      by_cases k30 : (a0 &&& 15) = 8
      · refine lv_tableIn (tgt := 434) hx hb d_law_32 (off := 402) (by rw [k30]; decide) (by rw [k30]; decide) (by rw [k30] <;> rfl) (by decide) ?_
        exact law_8 hC0 hj (ih (j + 1) (by omega) (by omega)) hRg hSC hR hw (lv_sub hl [0, 1, 2, 3] rfl)
      by_cases k31 : (a0 &&& 15) = 9
      · refine lv_tableIn (tgt := 457) hx hb d_law_32 (off := 425) (by rw [k31]; decide) (by rw [k31]; decide) (by rw [k31] <;> rfl) (by decide) ?_
        exact law_9 hC0 hj (ih (j + 1) (by omega) (by omega)) hRg hSC hR hw (lv_sub hl [0, 1, 2, 3] rfl)
      by_cases k32 : (a0 &&& 15) = 10
      · refine lv_tableIn (tgt := 500) hx hb d_law_32 (off := 468) (by rw [k32]; decide) (by rw [k32]; decide) (by rw [k32] <;> rfl) (by decide) ?_
        exact law_10 hC0 hj (ih (j + 1) (by omega) (by omega)) hRg hSC hR hw (lv_sub hl [0, 1, 2, 3] rfl)
      by_cases k33 : (a0 &&& 15) = 11
      · refine lv_tableIn (tgt := 553) hx hb d_law_32 (off := 521) (by rw [k33]; decide) (by rw [k33]; decide) (by rw [k33] <;> rfl) (by decide) ?_
        exact law_11 hC0 hj (ih (j + 1) (by omega) (by omega)) hRg hSC hR hw (lv_sub hl [0, 1, 2, 3] rfl)
      by_cases k34 : (a0 &&& 15) = 12
      · refine lv_tableIn (tgt := 576) hx hb d_law_32 (off := 544) (by rw [k34]; decide) (by rw [k34]; decide) (by rw [k34] <;> rfl) (by decide) ?_
        exact law_12 hC0 hj (ih (j + 1) (by omega) (by omega)) hRg hSC hR hw (lv_sub hl [0, 1, 2, 3] rfl)
      by_cases k35 : (a0 &&& 15) = 13
      · refine lv_tableIn (tgt := 609) hx hb d_law_32 (off := 577) (by rw [k35]; decide) (by rw [k35]; decide) (by rw [k35] <;> rfl) (by decide) ?_
        exact law_13 hC0 hj (ih (j + 1) (by omega) (by omega)) hRg hSC hR hw (lv_sub hl [0, 1, 2, 3] rfl)
      by_cases k36 : (a0 &&& 15) = 14
      · refine lv_tableIn (tgt := 668) hx hb d_law_32 (off := 636) (by rw [k36]; decide) (by rw [k36]; decide) (by rw [k36] <;> rfl) (by decide) ?_
        exact law_14 hC0 hj (ih (j + 1) (by omega) (by omega)) hRg hSC hR hw (lv_sub hl [0, 1, 2, 3] rfl)
      refine lv_tableOut (tgt := 701) hx hb d_law_32 (by have := lv_neT k22 (show (0 : Int32).toInt = 0 by decide); have := lv_neT k23 (show (1 : Int32).toInt = 1 by decide); have := lv_neT k24 (show (2 : Int32).toInt = 2 by decide); have := lv_neT k25 (show (3 : Int32).toInt = 3 by decide); have := lv_neT k26 (show (4 : Int32).toInt = 4 by decide); have := lv_neT k27 (show (5 : Int32).toInt = 5 by decide); have := lv_neT k28 (show (6 : Int32).toInt = 6 by decide); have := lv_neT k29 (show (7 : Int32).toInt = 7 by decide); have := lv_neT k30 (show (8 : Int32).toInt = 8 by decide); have := lv_neT k31 (show (9 : Int32).toInt = 9 by decide); have := lv_neT k32 (show (10 : Int32).toInt = 10 by decide); have := lv_neT k33 (show (11 : Int32).toInt = 11 by decide); have := lv_neT k34 (show (12 : Int32).toInt = 12 by decide); have := lv_neT k35 (show (13 : Int32).toInt = 13 by decide); have := lv_neT k36 (show (14 : Int32).toInt = 14 by decide); omega) (by decide) ?_
      refine W.widen (k := 60 + 100 * (j + 1)) (n := 9600 + 900 * (j + 1)) (by omega) (by omega) ?_
      refine lv_iinc (v := (nI (5 * (j + 1)))) (lv' := [(3, .int (nI (5 * (j + 1)))), (0, .ref b), (1, .ref root), (2, .ref (ad 9))]) hx hb d_law_701 hl (k := 0) rfl (nI_add (5 * j) 5) (by decide) rfl (fun ls hl => ?_)
      refine lv_goto (tgt := 18) hx hb d_law_704 (by decide) ?_
      exact ih (j + 1) (by omega) (by omega) ad E g f root pn pt nn nt mn mt dp rf by_ co tx lx fl ls H locs hRg hSC hR.suc hw (lv_sub hl [0, 1, 2, 3] rfl)
