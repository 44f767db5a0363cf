/-! links of the pools, as the walks ask for them -/
theorem cw_SF_160 : cwk "StreamFilters" 160 y_TextFilter_patternAt b_TextFilter_patternAt 2 (some (.object "StreamFilters$ClassPattern")) 1 := ⟨Or.inl (tb 597 (by decide +kernel) rfl), (tb 548 (by decide +kernel) rfl), (tb 13 (by decide +kernel) rfl), by decide, by decide, by decide +kernel⟩
theorem cw_SF_164 : cwk "StreamFilters" 164 y_ClassPattern_fullShape b_ClassPattern_fullShape 1 (some .int) 0 := ⟨Or.inl (tb 598 (by decide +kernel) rfl), (tb 601 (by decide +kernel) rfl), (tb 11 (by decide +kernel) rfl), by decide, by decide, by decide +kernel⟩
theorem cw_SF_169 : cwk "StreamFilters" 169 y_ClassPattern_verdict b_ClassPattern_verdict 1 (some .int) 0 := ⟨Or.inl (tb 602 (by decide +kernel) rfl), (tb 575 (by decide +kernel) rfl), (tb 11 (by decide +kernel) rfl), by decide, by decide, by decide +kernel⟩
theorem se_ClassPattern_fullShape : Cond.instanceMethod y_ClassPattern_fullShape ∈ TB ∧ Cond.selects "StreamFilters$ClassPattern" y_ClassPattern_fullShape y_ClassPattern_fullShape ∈ TB := ⟨(tb 599 (by decide +kernel) rfl), (tb 600 (by decide +kernel) rfl)⟩
/-! decode rows -/
theorem d_SF_pattern_0 : decode b_SF_pattern 0 = .ok (.aload_n 0, 1) := by decide +kernel
theorem d_SF_pattern_1 : decode b_SF_pattern 1 = .ok (.iload_n 1, 1) := by decide +kernel
theorem d_SF_pattern_2 : decode b_SF_pattern 2 = .ok (.invokevirtual 82, 3) := by decide +kernel
theorem d_SF_pattern_5 : decode b_SF_pattern 5 = .ok (.astore 5, 2) := by decide +kernel
theorem d_SF_pattern_7 : decode b_SF_pattern 7 = .ok (.aload 5, 2) := by decide +kernel
theorem d_SF_pattern_9 : decode b_SF_pattern 9 = .ok (.instanceof 78, 3) := by decide +kernel
theorem d_SF_pattern_12 : decode b_SF_pattern 12 = .ok (.ifCond .eq 41, 3) := by decide +kernel
theorem d_SF_pattern_15 : decode b_SF_pattern 15 = .ok (.aload 5, 2) := by decide +kernel
theorem d_SF_pattern_17 : decode b_SF_pattern 17 = .ok (.checkcast 78, 3) := by decide +kernel
theorem d_SF_pattern_20 : decode b_SF_pattern 20 = .ok (.astore 4, 2) := by decide +kernel
theorem d_SF_pattern_22 : decode b_SF_pattern 22 = .ok (.aload 4, 2) := by decide +kernel
theorem d_SF_pattern_24 : decode b_SF_pattern 24 = .ok (.iload_n 2, 1) := by decide +kernel
theorem d_SF_pattern_25 : decode b_SF_pattern 25 = .ok (.invokevirtual 160, 3) := by decide +kernel
theorem d_SF_pattern_28 : decode b_SF_pattern 28 = .ok (.astore 5, 2) := by decide +kernel
theorem d_SF_pattern_30 : decode b_SF_pattern 30 = .ok (.aload 5, 2) := by decide +kernel
theorem d_SF_pattern_32 : decode b_SF_pattern 32 = .ok (.ifnull 21, 3) := by decide +kernel
theorem d_SF_pattern_35 : decode b_SF_pattern 35 = .ok (.iload_n 3, 1) := by decide +kernel
theorem d_SF_pattern_36 : decode b_SF_pattern 36 = .ok (.ifCond .eq 11, 3) := by decide +kernel
theorem d_SF_pattern_39 : decode b_SF_pattern 39 = .ok (.aload 5, 2) := by decide +kernel
theorem d_SF_pattern_41 : decode b_SF_pattern 41 = .ok (.invokevirtual 164, 3) := by decide +kernel
theorem d_SF_pattern_44 : decode b_SF_pattern 44 = .ok (.goto 8, 3) := by decide +kernel
theorem d_SF_pattern_47 : decode b_SF_pattern 47 = .ok (.aload 5, 2) := by decide +kernel
theorem d_SF_pattern_49 : decode b_SF_pattern 49 = .ok (.invokevirtual 169, 3) := by decide +kernel
theorem d_SF_pattern_52 : decode b_SF_pattern 52 = .ok (.ireturn, 1) := by decide +kernel
theorem d_SF_pattern_53 : decode b_SF_pattern 53 = .ok (.iconst (-1), 1) := by decide +kernel
theorem d_SF_pattern_54 : decode b_SF_pattern 54 = .ok (.ireturn, 1) := by decide +kernel
/-- what is told of a filter's pattern -/
noncomputable def ptv (v : FV) (y z : Int32) : Int32 := pif (v.1 = 1 ∧ 0 ≤ y ∧ y < nI v.2.2.2.2.1) (pif (z = 0) (v.2.2.2.2.2.2.2.1 y.toNatClampNeg) (v.2.2.2.2.2.2.2.2 y.toNatClampNeg)) (-1)
set_option maxHeartbeats 4000000 in
set_option maxRecDepth 100000 in
/-- pattern(x, y, al) -/
theorem c_SF_pattern (G : GG) (l : Launch) (sz : Nat) (f : Wd) {N root pn nn mn : Nat} {ad : Nat → Nat} {E : Nat → va_E} {g : Wd} {pt nt mt : Nat → Int32} {dp rf by_ co tx lx : Int32} {fl : Nat → Option FV} (hN : 9 ≤ N) (hRg : Rg N ad E g f) (hS : SC G ad E g root pn pt nn nt mn mt dp rf by_ co tx lx fl) (x y : Int32) {al : Int32} (h_al : al = 0 ∨ al = 1) : Ci G l y_SF_pattern b_SF_pattern 6 (some .int) ({ frames := 2, cells := 0, slots := 0, locals := 43 }) sz f [.ref root, .int x, .int y, .int al] (fun v f' => (noF fl x → v = -1) ∧ (∀ (k : Nat) (vv : FV), k < 10 → x = nI k → fl k = some vv → v = ptv vv y al) ∧ SCR G N ad E g root f' pn pt nn nt mn mt dp rf by_ co tx lx fl) := by
  refine ct_of (by decide) (Nat.le_of_ble_eq_true rfl) ?_
  intro p e s m below meth c ls H locs hEn
  obtain ⟨hc, hr, hlk, hin, hE, hw, hsz, hl⟩ := hEn
  have hx := hc.1
  have hb := hc.2.1
  have hl : lv_has ls 6 [(0, .ref root), (1, .int x), (2, .int y), (3, .int al)] := hl
  have hS0 := hS
  obtain ⟨hroot, hPB, hNB, hMB, ⟨so, di, le, hQ⟩, ⟨fr, en, pi, li, nu, rj, sh, mf, me, nf, ne, hRd⟩, fa, hF8, hFL⟩ := hS
  obtain ⟨A0, eA0⟩ : ∃ z, z = ad 0 := ⟨_, rfl⟩
  obtain ⟨A1, eA1⟩ : ∃ z, z = ad 1 := ⟨_, rfl⟩
  obtain ⟨A2, eA2⟩ : ∃ z, z = ad 2 := ⟨_, rfl⟩
  obtain ⟨A3, eA3⟩ : ∃ z, z = ad 3 := ⟨_, rfl⟩
  obtain ⟨A4, eA4⟩ : ∃ z, z = ad 4 := ⟨_, rfl⟩
  obtain ⟨A5, eA5⟩ : ∃ z, z = ad 5 := ⟨_, rfl⟩
  obtain ⟨A6, eA6⟩ : ∃ z, z = ad 6 := ⟨_, rfl⟩
  obtain ⟨A7, eA7⟩ : ∃ z, z = ad 7 := ⟨_, rfl⟩
  obtain ⟨A8, eA8⟩ : ∃ z, z = ad 8 := ⟨_, rfl⟩
  have hgf := hRg.2.2.1
  have h0 : f root = some (.inr (0, [.ref A0, .ref A2, .ref A7, .ref A8])) := by rw [eA0, eA2, eA7, eA8]; exact hgf _ _ hroot
  have h2 : f A2 = some (.inr (2, [.ref A3, .ref A5, .int dp, .int rf, .int by_, .int so, .int di, .int le, .int co, .int tx, .int lx])) := by rw [eA2, eA3, eA5]; exact hRg.get 2 (by omega) hQ
  have h8 : f A8 = some (.inl (G.2.1 2, 10, .inr (.inr (.inr (.inr fa))))) := by rw [eA8]; exact hRg.get 8 (by omega) hF8
  have hsP : sg G f A0 A1 90 pn pt := by rw [eA0, eA1]; exact hPB.sg hRg (by omega) (by omega)
  have hsN : sg G f A3 A4 40 nn nt := by rw [eA3, eA4]; exact hNB.sg hRg (by omega) (by omega)
  have hsM : sg G f A5 A6 12 mn mt := by rw [eA5, eA6]; exact hMB.sg hRg (by omega) (by omega)
  refine lv_aload_n hx hb d_SF_pattern_0 rfl (lv_at hl 0 rfl) ?_
  refine lv_iload_n hx hb d_SF_pattern_1 rfl (lv_at hl 1 rfl) ?_
  refine m_callq hw (m_runV (As := [.int x]) (rest := []) hc hE hw (c_SF_filterAt G l H.size f hN hRg hS0 x) h0 rfl cw_SF_82 se_SF_filterAt rfl hl.1 rfl (Nat.le_of_ble_eq_true rfl) d_SF_pattern_2 ⟨rfl, rfl, by decide, by decide⟩ ⟨by first | decide | (dsimp only; omega), by first | decide | (dsimp only; omega)⟩) (fun r3 g2 H locs p1 hw => ?_)
  obtain ⟨rfl, hfla⟩ := p1
  rcases hfla with ⟨hnoa, hva⟩ | ⟨ka, hka, hxka, ⟨hva, hnna⟩ | ⟨Fa, vva, hva, hsma, hrha⟩⟩
  · subst hva
    have hnfa : noF fl x := noF_out hnoa
    refine lv_astoreN (lv' := [(5, .null), (0, .ref root), (1, .int x), (2, .int y), (3, .int al)]) hx hb d_SF_pattern_5 hl (by decide) rfl (fun ls hl => ?_)
    refine lv_aloadN hx hb d_SF_pattern_7 (lv_at hl 0 rfl) ?_
    refine lv_instN hx hb d_SF_pattern_9 ?_
    refine lv_if_eq (tgt := 53) hx hb d_SF_pattern_12 (by decide) (fun _ => ?_) (fun z => absurd z (by decide))
    refine lv_iconst (v := (-1)) hx hb d_SF_pattern_53 (by decide) ?_
    exact m_iret hc hr hlk hw ⟨by first | decide | (dsimp only; omega), by first | decide | (dsimp only; omega)⟩ d_SF_pattern_54 ⟨fun _ => rfl, fun k vv h1 h2 h3 => absurd ((hnfa k h1 h2).symm.trans h3) (by intro z; cases z), ⟨E, g, hRg, gle.rf, fun _ _ => rfl, hS0⟩⟩
  · subst hva
    have hnfa : noF fl x := noF_in hka hxka hnna
    refine lv_astoreN (lv' := [(5, .null), (0, .ref root), (1, .int x), (2, .int y), (3, .int al)]) hx hb d_SF_pattern_5 hl (by decide) rfl (fun ls hl => ?_)
    refine lv_aloadN hx hb d_SF_pattern_7 (lv_at hl 0 rfl) ?_
    refine lv_instN hx hb d_SF_pattern_9 ?_
    refine lv_if_eq (tgt := 53) hx hb d_SF_pattern_12 (by decide) (fun _ => ?_) (fun z => absurd z (by decide))
    refine lv_iconst (v := (-1)) hx hb d_SF_pattern_53 (by decide) ?_
    exact m_iret hc hr hlk hw ⟨by first | decide | (dsimp only; omega), by first | decide | (dsimp only; omega)⟩ d_SF_pattern_54 ⟨fun _ => rfl, fun k vv h1 h2 h3 => absurd ((hnfa k h1 h2).symm.trans h3) (by intro z; cases z), ⟨E, g, hRg, gle.rf, fun _ _ => rfl, hS0⟩⟩
  · subst hva
    have hrhab := hrha
    obtain ⟨l0a, h0a, hl0a, hh0a, hl1a, hl2a, hh1a, hh2a, hrfa⟩ := hrha
    obtain ⟨cFa, rFa, fcFa, hcFa⟩ := RF.head hrfa
    obtain ⟨kFa, ekFa⟩ : ∃ z, z = vva.1 := ⟨_, rfl⟩
    obtain ⟨lFa, elFa⟩ : ∃ z, z = vva.2.1 := ⟨_, rfl⟩
    obtain ⟨gFa, egFa⟩ : ∃ z, z = vva.2.2.1 := ⟨_, rfl⟩
    have hcella : f Fa = some (.inr (cFa, .int kFa :: .int lFa :: .int gFa :: rFa)) := by rw [ekFa, elFa, egFa]; exact hgf _ _ hcFa
    refine lv_astore (lv' := [(5, .ref Fa), (0, .ref root), (1, .int x), (2, .int y), (3, .int al)]) hx hb d_SF_pattern_5 hl (by decide) rfl (fun ls hl => ?_)
    obtain ⟨da, eda⟩ : ∃ z, h0a = z + 1 := ⟨h0a - 1, by omega⟩
    have hrfax := hrfa
    rw [eda] at hrfax
    rcases hrfax with ⟨bs, lm, np, V, Sh, M, htf, evv⟩ | ⟨b1, b2, v1, v2, hcx, hr1, hr2, evv⟩ | ⟨b1, v1, al1, hcx, hr1, hal1, evv⟩ | ⟨b1, v1, gv1, hcx, hr1, evv⟩ | ⟨b1, sa1, sr1, scap1, bn1, bt1, v1, hcx, hsg1, hr1, evv⟩
    · have hkd : vva.1 = 1 := by rw [evv]
      have htf0 := htf.mono hgf
      obtain ⟨la, pa, pf, ht1, ht2, ht3, ht4, hbs, hpp⟩ := htf
      have hcf : f Fa = some (.inr (5, [.int 1, .int 1, .int 1, .int bs, .ref la, .ref pa])) := hgf _ _ ht1
      refine lv_aload hx hb d_SF_pattern_7 (lv_at hl 0 rfl) ?_
      refine m_instY hc hE hw hcf rfl cl_SF_78 (Or.inl rfl) d_SF_pattern_9 ?_
      refine lv_if_eq (tgt := 53) hx hb d_SF_pattern_12 (by decide) (fun z => absurd z (by decide)) (fun _ => ?_)
      refine lv_aload hx hb d_SF_pattern_15 (lv_at hl 0 rfl) ?_
      refine m_castY hc hE hw hcf rfl cl_SF_78 (Or.inl rfl) d_SF_pattern_17 ?_
      refine lv_astore (lv' := [(4, .ref Fa), (5, .ref Fa), (0, .ref root), (1, .int x), (2, .int y), (3, .int al)]) hx hb d_SF_pattern_20 hl (by decide) rfl (fun ls hl => ?_)
      refine lv_aload hx hb d_SF_pattern_22 (lv_at hl 0 rfl) ?_
      refine lv_iload_n hx hb d_SF_pattern_24 rfl (lv_at hl 4 rfl) ?_
      refine m_callq hw (m_runV (As := [.int y]) (rest := []) hc hE hw (c_TextFilter_patternAt G l H.size f hcf (hgf _ _ ht3) ht4 y) hcf rfl cw_SF_160 se_TextFilter_patternAt rfl hl.1 rfl (Nat.le_of_ble_eq_true rfl) d_SF_pattern_25 ⟨rfl, rfl, by decide, by decide⟩ ⟨by first | decide | (dsimp only; omega), by first | decide | (dsimp only; omega)⟩) (fun r6 g5 H locs p4 hw => ?_)
      obtain ⟨rfl, hv9⟩ := p4
      by_cases hin9 : 0 ≤ y ∧ y < nI np
      · rw [pif_t hin9] at hv9
        obtain ⟨j9, hj9, hyj9⟩ : ∃ j : Nat, j < np ∧ y = nI j := vp_in_of (vin (n := np) (Int32.not_lt.mpr hin9.1) (Int32.not_le.mpr hin9.2) (Nat.le_refl np) (by omega)) (by omega)
        have hyc : y.toNatClampNeg = j9 := by rw [hyj9]; exact nI_clamp (by omega)
        rw [hyc] at hv9
        obtain ⟨pk9, ta9, tr9, tcap9, tn9, t9, rj9, sh9, m09, m19, n09, n19, e1, e2, e3, e4, e5⟩ := hpp j9 hj9
        rw [e1] at hv9; subst hv9
        have hcp9 := e2.mono hgf
        refine lv_astore (lv' := [(5, .ref pk9), (4, .ref Fa), (0, .ref root), (1, .int x), (2, .int y), (3, .int al)]) hx hb d_SF_pattern_28 hl (by decide) rfl (fun ls hl => ?_)
        refine lv_aload hx hb d_SF_pattern_30 (lv_at hl 0 rfl) ?_
        refine lv_ifnull hx hb d_SF_pattern_32 ?_
        refine lv_iload_n hx hb d_SF_pattern_35 rfl (lv_at hl 5 rfl) ?_
        refine lv_if_eq (tgt := 47) hx hb d_SF_pattern_36 (by decide) (fun c7 => ?_) (fun c7 => ?_)
        · refine lv_aload hx hb d_SF_pattern_47 (lv_at hl 0 rfl) ?_
          refine m_calli hw (m_runV (As := []) (rest := []) hc hE hw (c_ClassPattern_verdict G l H.size f hcp9) hcp9.1 rfl cw_SF_169 se_ClassPattern_verdict rfl hl.1 rfl (Nat.le_of_ble_eq_true rfl) d_SF_pattern_49 ⟨rfl, rfl, by decide, by decide⟩ ⟨by first | decide | (dsimp only; omega), by first | decide | (dsimp only; omega)⟩) (fun r10 g9 H locs p8 hw => ?_)
          obtain ⟨rfl, p8⟩ := p8
          exact m_iret hc hr hlk hw ⟨by first | decide | (dsimp only; omega), by first | decide | (dsimp only; omega)⟩ d_SF_pattern_52 ⟨fun z => absurd ((z ka hka hxka).symm.trans hsma) (by intro z; cases z), fun k vv h1 h2 h3 => by have ek : ka = k := (nI_eq (by omega) (by omega)).mp (hxka.symm.trans h2); subst ek; have ev2 : vva = vv := Option.some.inj (hsma.symm.trans h3); subst ev2; unfold ptv; rw [pif_t ⟨hkd, by rw [evv]; exact hin9⟩, pif_t c7, evv, hyc]; exact p8.trans e3.symm, ⟨E, g, hRg, gle.rf, fun _ _ => rfl, hS0⟩⟩
        · refine lv_aload hx hb d_SF_pattern_39 (lv_at hl 0 rfl) ?_
          refine m_calli hw (m_runV (As := []) (rest := []) hc hE hw (c_ClassPattern_fullShape G l H.size f hcp9) hcp9.1 rfl cw_SF_164 se_ClassPattern_fullShape rfl hl.1 rfl (Nat.le_of_ble_eq_true rfl) d_SF_pattern_41 ⟨rfl, rfl, by decide, by decide⟩ ⟨by first | decide | (dsimp only; omega), by first | decide | (dsimp only; omega)⟩) (fun r13 g12 H locs p11 hw => ?_)
          obtain ⟨rfl, p11⟩ := p11
          refine lv_goto (tgt := 52) hx hb d_SF_pattern_44 (by decide) ?_
          exact m_iret hc hr hlk hw ⟨by first | decide | (dsimp only; omega), by first | decide | (dsimp only; omega)⟩ d_SF_pattern_52 ⟨fun z => absurd ((z ka hka hxka).symm.trans hsma) (by intro z; cases z), fun k vv h1 h2 h3 => by have ek : ka = k := (nI_eq (by omega) (by omega)).mp (hxka.symm.trans h2); subst ek; have ev2 : vva = vv := Option.some.inj (hsma.symm.trans h3); subst ev2; unfold ptv; rw [pif_t ⟨hkd, by rw [evv]; exact hin9⟩, pif_f c7, evv, hyc]; exact p11.trans e4.symm, ⟨E, g, hRg, gle.rf, fun _ _ => rfl, hS0⟩⟩
      · rw [pif_f hin9] at hv9; subst hv9
        refine lv_astoreN (lv' := [(5, .null), (4, .ref Fa), (0, .ref root), (1, .int x), (2, .int y), (3, .int al)]) hx hb d_SF_pattern_28 hl (by decide) rfl (fun ls hl => ?_)
        refine lv_aloadN hx hb d_SF_pattern_30 (lv_at hl 0 rfl) ?_
        refine lv_ifnullN (tgt := 53) hx hb d_SF_pattern_32 (by decide) ?_
        refine lv_iconst (v := (-1)) hx hb d_SF_pattern_53 (by decide) ?_
        exact m_iret hc hr hlk hw ⟨by first | decide | (dsimp only; omega), by first | decide | (dsimp only; omega)⟩ d_SF_pattern_54 ⟨fun z => absurd ((z ka hka hxka).symm.trans hsma) (by intro z; cases z), fun k vv h1 h2 h3 => by have ek : ka = k := (nI_eq (by omega) (by omega)).mp (hxka.symm.trans h2); subst ek; have ev2 : vva = vv := Option.some.inj (hsma.symm.trans h3); subst ev2; exact (pif_f (fun z => hin9 (by rw [evv] at z; exact z.2))).symm, ⟨E, g, hRg, gle.rf, fun _ _ => rfl, hS0⟩⟩
    · have hkd : vva.1 = 2 := by rw [evv]
      have hcf : f Fa = some (.inr (6, [.int 2, .int (v1.2.1 + v2.2.1), .int (1 + (if v1.2.2.1 < v2.2.2.1 then v2.2.2.1 else v1.2.2.1)), .ref b1, .ref b2])) := hgf _ _ hcx
      refine lv_aload hx hb d_SF_pattern_7 (lv_at hl 0 rfl) ?_
      refine m_instN hc hE hw hcf rfl cl_SF_78 nc_JoinedFilter_TextFilter d_SF_pattern_9 ?_
      refine lv_if_eq (tgt := 53) hx hb d_SF_pattern_12 (by decide) (fun _ => ?_) (fun z => absurd z (by decide))
      refine lv_iconst (v := (-1)) hx hb d_SF_pattern_53 (by decide) ?_
      exact m_iret hc hr hlk hw ⟨by first | decide | (dsimp only; omega), by first | decide | (dsimp only; omega)⟩ d_SF_pattern_54 ⟨fun z => absurd ((z ka hka hxka).symm.trans hsma) (by intro z; cases z), fun k vv h1 h2 h3 => by have ek : ka = k := (nI_eq (by omega) (by omega)).mp (hxka.symm.trans h2); subst ek; have ev2 : vva = vv := Option.some.inj (hsma.symm.trans h3); subst ev2; exact (pif_f (fun z => absurd (hkd.symm.trans z.1) (by decide))).symm, ⟨E, g, hRg, gle.rf, fun _ _ => rfl, hS0⟩⟩
    · have hkd : vva.1 = 3 := by rw [evv]
      have hcf : f Fa = some (.inr (7, [.int 3, .int v1.2.1, .int (1 + v1.2.2.1), .ref b1, .int al1])) := hgf _ _ hcx
      refine lv_aload hx hb d_SF_pattern_7 (lv_at hl 0 rfl) ?_
      refine m_instN hc hE hw hcf rfl cl_SF_78 nc_StrictFilter_TextFilter d_SF_pattern_9 ?_
      refine lv_if_eq (tgt := 53) hx hb d_SF_pattern_12 (by decide) (fun _ => ?_) (fun z => absurd z (by decide))
      refine lv_iconst (v := (-1)) hx hb d_SF_pattern_53 (by decide) ?_
      exact m_iret hc hr hlk hw ⟨by first | decide | (dsimp only; omega), by first | decide | (dsimp only; omega)⟩ d_SF_pattern_54 ⟨fun z => absurd ((z ka hka hxka).symm.trans hsma) (by intro z; cases z), fun k vv h1 h2 h3 => by have ek : ka = k := (nI_eq (by omega) (by omega)).mp (hxka.symm.trans h2); subst ek; have ev2 : vva = vv := Option.some.inj (hsma.symm.trans h3); subst ev2; exact (pif_f (fun z => absurd (hkd.symm.trans z.1) (by decide))).symm, ⟨E, g, hRg, gle.rf, fun _ _ => rfl, hS0⟩⟩
    · have hkd : vva.1 = 4 := by rw [evv]
      have hcf : f Fa = some (.inr (8, [.int 4, .int v1.2.1, .int (1 + v1.2.2.1), .ref b1, .int gv1])) := hgf _ _ hcx
      refine lv_aload hx hb d_SF_pattern_7 (lv_at hl 0 rfl) ?_
      refine m_instN hc hE hw hcf rfl cl_SF_78 nc_DefaultFilter_TextFilter d_SF_pattern_9 ?_
      refine lv_if_eq (tgt := 53) hx hb d_SF_pattern_12 (by decide) (fun _ => ?_) (fun z => absurd z (by decide))
      refine lv_iconst (v := (-1)) hx hb d_SF_pattern_53 (by decide) ?_
      exact m_iret hc hr hlk hw ⟨by first | decide | (dsimp only; omega), by first | decide | (dsimp only; omega)⟩ d_SF_pattern_54 ⟨fun z => absurd ((z ka hka hxka).symm.trans hsma) (by intro z; cases z), fun k vv h1 h2 h3 => by have ek : ka = k := (nI_eq (by omega) (by omega)).mp (hxka.symm.trans h2); subst ek; have ev2 : vva = vv := Option.some.inj (hsma.symm.trans h3); subst ev2; exact (pif_f (fun z => absurd (hkd.symm.trans z.1) (by decide))).symm, ⟨E, g, hRg, gle.rf, fun _ _ => rfl, hS0⟩⟩
    · have hkd : vva.1 = 5 := by rw [evv]
      have hcf : f Fa = some (.inr (9, [.int 5, .int v1.2.1, .int (1 + v1.2.2.1), .ref b1, .ref sa1])) := hgf _ _ hcx
      refine lv_aload hx hb d_SF_pattern_7 (lv_at hl 0 rfl) ?_
      refine m_instN hc hE hw hcf rfl cl_SF_78 nc_OnlyFilter_TextFilter d_SF_pattern_9 ?_
      refine lv_if_eq (tgt := 53) hx hb d_SF_pattern_12 (by decide) (fun _ => ?_) (fun z => absurd z (by decide))
      refine lv_iconst (v := (-1)) hx hb d_SF_pattern_53 (by decide) ?_
      exact m_iret hc hr hlk hw ⟨by first | decide | (dsimp only; omega), by first | decide | (dsimp only; omega)⟩ d_SF_pattern_54 ⟨fun z => absurd ((z ka hka hxka).symm.trans hsma) (by intro z; cases z), fun k vv h1 h2 h3 => by have ek : ka = k := (nI_eq (by omega) (by omega)).mp (hxka.symm.trans h2); subst ek; have ev2 : vva = vv := Option.some.inj (hsma.symm.trans h3); subst ev2; exact (pif_f (fun z => absurd (hkd.symm.trans z.1) (by decide))).symm, ⟨E, g, hRg, gle.rf, fun _ _ => rfl, hS0⟩⟩
