/-! links of the pools, as the walks ask for them -/
theorem nw_SF_104 : nwk "StreamFilters" 104 R_StrictFilter 5 := ⟨(tb 434 (by decide +kernel) rfl), (tb 435 (by decide +kernel) rfl), (tb 15 (by decide +kernel) rfl)⟩
theorem cw_SF_106 : cwk "StreamFilters" 106 y_StrictFilter_init b_StrictFilter_init 3 none 2 := ⟨Or.inl (tb 436 (by decide +kernel) rfl), (tb 438 (by decide +kernel) rfl), (tb 15 (by decide +kernel) rfl), by decide, by decide, by decide +kernel⟩
theorem si_StrictFilter_init : Cond.instanceMethod y_StrictFilter_init ∈ TB := (tb 437 (by decide +kernel) rfl)
theorem ca_StrictFilter_Filter : Cond.castable R_StrictFilter "StreamFilters$Filter" ∈ EB := (eb 870 (by decide +kernel) rfl)
theorem l5_SF_90 : lnk "StreamFilters" 90 F_TextFilter 6 2 ∧ lnk "StreamFilters" 90 F_JoinedFilter 5 2 ∧ lnk "StreamFilters" 90 F_StrictFilter 5 2 ∧ lnk "StreamFilters" 90 F_DefaultFilter 5 2 ∧ lnk "StreamFilters" 90 F_OnlyFilter 5 2 := ⟨⟨by decide, "StreamFilters$Filter", Or.inl rfl, Or.inl (tb 382 (by decide +kernel) rfl)⟩, ⟨by decide, "StreamFilters$Filter", Or.inl rfl, Or.inl (tb 382 (by decide +kernel) rfl)⟩, ⟨by decide, "StreamFilters$Filter", Or.inl rfl, Or.inl (tb 382 (by decide +kernel) rfl)⟩, ⟨by decide, "StreamFilters$Filter", Or.inl rfl, Or.inl (tb 382 (by decide +kernel) rfl)⟩, ⟨by decide, "StreamFilters$Filter", Or.inl rfl, Or.inl (tb 382 (by decide +kernel) rfl)⟩⟩
/-! decode rows -/
theorem d_SF_strict_0 : decode b_SF_strict 0 = .ok (.aload_n 0, 1) := by decide +kernel
theorem d_SF_strict_1 : decode b_SF_strict 1 = .ok (.iload_n 2, 1) := by decide +kernel
theorem d_SF_strict_2 : decode b_SF_strict 2 = .ok (.invokevirtual 82, 3) := by decide +kernel
theorem d_SF_strict_5 : decode b_SF_strict 5 = .ok (.astore 4, 2) := by decide +kernel
theorem d_SF_strict_7 : decode b_SF_strict 7 = .ok (.iload_n 1, 1) := by decide +kernel
theorem d_SF_strict_8 : decode b_SF_strict 8 = .ok (.invokestatic 67, 3) := by decide +kernel
theorem d_SF_strict_11 : decode b_SF_strict 11 = .ok (.ifCond .eq 8, 3) := by decide +kernel
theorem d_SF_strict_14 : decode b_SF_strict 14 = .ok (.aload 4, 2) := by decide +kernel
theorem d_SF_strict_16 : decode b_SF_strict 16 = .ok (.ifnonnull 5, 3) := by decide +kernel
theorem d_SF_strict_19 : decode b_SF_strict 19 = .ok (.iconst (-1), 1) := by decide +kernel
theorem d_SF_strict_20 : decode b_SF_strict 20 = .ok (.ireturn, 1) := by decide +kernel
theorem d_SF_strict_21 : decode b_SF_strict 21 = .ok (.aload 4, 2) := by decide +kernel
theorem d_SF_strict_23 : decode b_SF_strict 23 = .ok (.getfield 90, 3) := by decide +kernel
theorem d_SF_strict_26 : decode b_SF_strict 26 = .ok (.bipush 8, 2) := by decide +kernel
theorem d_SF_strict_28 : decode b_SF_strict 28 = .ok (.if_icmp .lt 6, 3) := by decide +kernel
theorem d_SF_strict_31 : decode b_SF_strict 31 = .ok (.bipush (-3), 2) := by decide +kernel
theorem d_SF_strict_33 : decode b_SF_strict 33 = .ok (.ireturn, 1) := by decide +kernel
theorem d_SF_strict_34 : decode b_SF_strict 34 = .ok (.aload_n 0, 1) := by decide +kernel
theorem d_SF_strict_35 : decode b_SF_strict 35 = .ok (.getfield 36, 3) := by decide +kernel
theorem d_SF_strict_38 : decode b_SF_strict 38 = .ok (.iload_n 1, 1) := by decide +kernel
theorem d_SF_strict_39 : decode b_SF_strict 39 = .ok (.new 104, 3) := by decide +kernel
theorem d_SF_strict_42 : decode b_SF_strict 42 = .ok (.dup, 1) := by decide +kernel
theorem d_SF_strict_43 : decode b_SF_strict 43 = .ok (.aload 4, 2) := by decide +kernel
theorem d_SF_strict_45 : decode b_SF_strict 45 = .ok (.iload_n 3, 1) := by decide +kernel
theorem d_SF_strict_46 : decode b_SF_strict 46 = .ok (.invokespecial 106, 3) := by decide +kernel
theorem d_SF_strict_49 : decode b_SF_strict 49 = .ok (.aastore, 1) := by decide +kernel
theorem d_SF_strict_50 : decode b_SF_strict 50 = .ok (.iconst 0, 1) := by decide +kernel
theorem d_SF_strict_51 : decode b_SF_strict 51 = .ok (.ireturn, 1) := by decide +kernel
set_option maxHeartbeats 4000000 in
set_option maxRecDepth 100000 in
/-- strict(xt, x, al) -/
theorem c_SF_strict (G : GG) (l : Launch) (sz : Nat) (f : Wd) {N root pn nn mn : Nat} {ad : Nat → Nat} {E : Nat → va_E} {g : Wd} {pt nt mt : Nat → Int32} {dp rf by_ co tx lx : Int32} {fl : Nat → Option FV} (hN : 9 ≤ N) (hRg : Rg N ad E g f) (hS : SC G ad E g root pn pt nn nt mn mt dp rf by_ co tx lx fl) (xt x : Int32) {al : Int32} (h_al : al = 0 ∨ al = 1) : Ci G l y_SF_strict b_SF_strict 5 (some .int) ({ frames := 3, cells := 1, slots := 5, locals := 57 }) sz f [.ref root, .int xt, .int x, .int al] (fun v f' => ((¬ (¬ xt < 0 ∧ ¬ 10 ≤ xt) ∨ noF fl x) → v = -1 ∧ SCR G N ad E g root f' pn pt nn nt mn mt dp rf by_ co tx lx fl) ∧ ∀ (kt k : Nat) (vv : FV), kt < 10 → xt = nI kt → k < 10 → x = nI k → fl k = some vv → (8 ≤ vv.2.2.1 → v = -3 ∧ SCR G N ad E g root f' pn pt nn nt mn mt dp rf by_ co tx lx fl) ∧ (¬ 8 ≤ vv.2.2.1 → v = 0 ∧ SCR G N ad E g root f' pn pt nn nt mn mt dp rf by_ co tx lx (va_up fl kt (some ((3, vv.2.1, 1 + vv.2.2.1, anS al vv.2.2.2.1, TI0) : FV))))) := by
  refine ct_of (by decide) (Nat.le_of_ble_eq_true rfl) ?_
  intro p e s m below meth c ls H locs hEn
  obtain ⟨hc, hr, hlk, hin, hE, hw, hsz, hl⟩ := hEn
  have hx := hc.1
  have hb := hc.2.1
  have hl : lv_has ls 5 [(0, .ref root), (1, .int xt), (2, .int x), (3, .int al)] := hl
  have hS0 := hS
  obtain ⟨hroot, hPB, hNB, hMB, ⟨so, di, le, hQ⟩, ⟨fr, en, pi, li, nu, rj, sh, mf, me, nf, ne, hRd⟩, fa, hF8, hFL⟩ := hS
  obtain ⟨A0, eA0⟩ : ∃ z, z = ad 0 := ⟨_, rfl⟩
  obtain ⟨A1, eA1⟩ : ∃ z, z = ad 1 := ⟨_, rfl⟩
  obtain ⟨A2, eA2⟩ : ∃ z, z = ad 2 := ⟨_, rfl⟩
  obtain ⟨A3, eA3⟩ : ∃ z, z = ad 3 := ⟨_, rfl⟩
  obtain ⟨A4, eA4⟩ : ∃ z, z = ad 4 := ⟨_, rfl⟩
  obtain ⟨A5, eA5⟩ : ∃ z, z = ad 5 := ⟨_, rfl⟩
  obtain ⟨A6, eA6⟩ : ∃ z, z = ad 6 := ⟨_, rfl⟩
  obtain ⟨A7, eA7⟩ : ∃ z, z = ad 7 := ⟨_, rfl⟩
  obtain ⟨A8, eA8⟩ : ∃ z, z = ad 8 := ⟨_, rfl⟩
  have hgf := hRg.2.2.1
  have h0 : f root = some (.inr (0, [.ref A0, .ref A2, .ref A7, .ref A8])) := by rw [eA0, eA2, eA7, eA8]; exact hgf _ _ hroot
  have h2 : f A2 = some (.inr (2, [.ref A3, .ref A5, .int dp, .int rf, .int by_, .int so, .int di, .int le, .int co, .int tx, .int lx])) := by rw [eA2, eA3, eA5]; exact hRg.get 2 (by omega) hQ
  have h8 : f A8 = some (.inl (G.2.1 2, 10, .inr (.inr (.inr (.inr fa))))) := by rw [eA8]; exact hRg.get 8 (by omega) hF8
  have hsP : sg G f A0 A1 90 pn pt := by rw [eA0, eA1]; exact hPB.sg hRg (by omega) (by omega)
  have hsN : sg G f A3 A4 40 nn nt := by rw [eA3, eA4]; exact hNB.sg hRg (by omega) (by omega)
  have hsM : sg G f A5 A6 12 mn mt := by rw [eA5, eA6]; exact hMB.sg hRg (by omega) (by omega)
  refine lv_aload_n hx hb d_SF_strict_0 rfl (lv_at hl 0 rfl) ?_
  refine lv_iload_n hx hb d_SF_strict_1 rfl (lv_at hl 2 rfl) ?_
  refine m_callq hw (m_runV (As := [.int x]) (rest := []) hc hE hw (c_SF_filterAt G l H.size f hN hRg hS0 x) h0 rfl cw_SF_82 se_SF_filterAt rfl hl.1 rfl (Nat.le_of_ble_eq_true rfl) d_SF_strict_2 ⟨rfl, rfl, by decide, by decide⟩ ⟨by first | decide | (dsimp only; omega), by first | decide | (dsimp only; omega)⟩) (fun r3 g2 H locs p1 hw => ?_)
  obtain ⟨rfl, hfla⟩ := p1
  rcases hfla with ⟨hnoa, hva⟩ | ⟨ka, hka, hxka, ⟨hva, hnna⟩ | ⟨Fa, vva, hva, hsma, hrha⟩⟩
  · subst hva
    have hnfa : noF fl x := noF_out hnoa
    refine lv_astoreN (lv' := [(4, .null), (0, .ref root), (1, .int xt), (2, .int x), (3, .int al)]) hx hb d_SF_strict_5 hl (by decide) rfl (fun ls hl => ?_)
    refine lv_iload_n hx hb d_SF_strict_7 rfl (lv_at hl 2 rfl) ?_
    refine m_calli hw (m_runS (As := [.int xt]) (rest := []) hc hE hw (c_SF_isPlace G l H.size f xt) cw_SF_67 ss_SF_isPlace rfl hl.1 rfl (Nat.le_of_ble_eq_true rfl) d_SF_strict_8 ⟨rfl, rfl, by decide, by decide⟩ ⟨by first | decide | (dsimp only; omega), by first | decide | (dsimp only; omega)⟩) (fun r6 g5 H locs p4 hw => ?_)
    obtain ⟨rfl, p4⟩ := p4
    refine lv_if_eq (tgt := 19) hx hb d_SF_strict_11 (by decide) (fun c7 => ?_) (fun c7 => ?_)
    · refine lv_iconst (v := (-1)) hx hb d_SF_strict_19 (by decide) ?_
      exact m_iret hc hr hlk hw ⟨by first | decide | (dsimp only; omega), by first | decide | (dsimp only; omega)⟩ d_SF_strict_20 ⟨fun _ => ⟨rfl, ⟨E, g, hRg, gle.rf, fun _ _ => rfl, hS0⟩⟩, fun kt k vv h1 h2 h3 h4 h5 => absurd (by rw [h2]; exact plc h1) (bI_0.mp (p4.symm.trans c7))⟩
    · have hpl := bI_n.mp (fun z => c7 (p4.trans z))
      obtain ⟨kt, hkt, hxt⟩ : ∃ k : Nat, k < 10 ∧ xt = nI k := vp_in_of (vin (n := 10) hpl.1 hpl.2 (Nat.le_refl 10) (by decide)) (by decide)
      refine lv_aloadN hx hb d_SF_strict_14 (lv_at hl 0 rfl) ?_
      refine lv_ifnonnullN hx hb d_SF_strict_16 ?_
      refine lv_iconst (v := (-1)) hx hb d_SF_strict_19 (by decide) ?_
      exact m_iret hc hr hlk hw ⟨by first | decide | (dsimp only; omega), by first | decide | (dsimp only; omega)⟩ d_SF_strict_20 ⟨fun _ => ⟨rfl, ⟨E, g, hRg, gle.rf, fun _ _ => rfl, hS0⟩⟩, fun kt k vv h1 h2 h3 h4 h5 => absurd ((hnfa k h3 h4).symm.trans h5) (by intro z; cases z)⟩
  · subst hva
    have hnfa : noF fl x := noF_in hka hxka hnna
    refine lv_astoreN (lv' := [(4, .null), (0, .ref root), (1, .int xt), (2, .int x), (3, .int al)]) hx hb d_SF_strict_5 hl (by decide) rfl (fun ls hl => ?_)
    refine lv_iload_n hx hb d_SF_strict_7 rfl (lv_at hl 2 rfl) ?_
    refine m_calli hw (m_runS (As := [.int xt]) (rest := []) hc hE hw (c_SF_isPlace G l H.size f xt) cw_SF_67 ss_SF_isPlace rfl hl.1 rfl (Nat.le_of_ble_eq_true rfl) d_SF_strict_8 ⟨rfl, rfl, by decide, by decide⟩ ⟨by first | decide | (dsimp only; omega), by first | decide | (dsimp only; omega)⟩) (fun r10 g9 H locs p8 hw => ?_)
    obtain ⟨rfl, p8⟩ := p8
    refine lv_if_eq (tgt := 19) hx hb d_SF_strict_11 (by decide) (fun c11 => ?_) (fun c11 => ?_)
    · refine lv_iconst (v := (-1)) hx hb d_SF_strict_19 (by decide) ?_
      exact m_iret hc hr hlk hw ⟨by first | decide | (dsimp only; omega), by first | decide | (dsimp only; omega)⟩ d_SF_strict_20 ⟨fun _ => ⟨rfl, ⟨E, g, hRg, gle.rf, fun _ _ => rfl, hS0⟩⟩, fun kt k vv h1 h2 h3 h4 h5 => absurd (by rw [h2]; exact plc h1) (bI_0.mp (p8.symm.trans c11))⟩
    · have hpl := bI_n.mp (fun z => c11 (p8.trans z))
      obtain ⟨kt, hkt, hxt⟩ : ∃ k : Nat, k < 10 ∧ xt = nI k := vp_in_of (vin (n := 10) hpl.1 hpl.2 (Nat.le_refl 10) (by decide)) (by decide)
      refine lv_aloadN hx hb d_SF_strict_14 (lv_at hl 0 rfl) ?_
      refine lv_ifnonnullN hx hb d_SF_strict_16 ?_
      refine lv_iconst (v := (-1)) hx hb d_SF_strict_19 (by decide) ?_
      exact m_iret hc hr hlk hw ⟨by first | decide | (dsimp only; omega), by first | decide | (dsimp only; omega)⟩ d_SF_strict_20 ⟨fun _ => ⟨rfl, ⟨E, g, hRg, gle.rf, fun _ _ => rfl, hS0⟩⟩, fun kt k vv h1 h2 h3 h4 h5 => absurd ((hnfa k h3 h4).symm.trans h5) (by intro z; cases z)⟩
  · subst hva
    have hrhab := hrha
    obtain ⟨l0a, h0a, hl0a, hh0a, hl1a, hl2a, hh1a, hh2a, hrfa⟩ := hrha
    obtain ⟨cFa, rFa, fcFa, hcFa⟩ := RF.head hrfa
    obtain ⟨kFa, ekFa⟩ : ∃ z, z = vva.1 := ⟨_, rfl⟩
    obtain ⟨lFa, elFa⟩ : ∃ z, z = vva.2.1 := ⟨_, rfl⟩
    obtain ⟨gFa, egFa⟩ : ∃ z, z = vva.2.2.1 := ⟨_, rfl⟩
    have hcella : f Fa = some (.inr (cFa, .int kFa :: .int lFa :: .int gFa :: rFa)) := by rw [ekFa, elFa, egFa]; exact hgf _ _ hcFa
    refine lv_astore (lv' := [(4, .ref Fa), (0, .ref root), (1, .int xt), (2, .int x), (3, .int al)]) hx hb d_SF_strict_5 hl (by decide) rfl (fun ls hl => ?_)
    refine lv_iload_n hx hb d_SF_strict_7 rfl (lv_at hl 2 rfl) ?_
    refine m_calli hw (m_runS (As := [.int xt]) (rest := []) hc hE hw (c_SF_isPlace G l H.size f xt) cw_SF_67 ss_SF_isPlace rfl hl.1 rfl (Nat.le_of_ble_eq_true rfl) d_SF_strict_8 ⟨rfl, rfl, by decide, by decide⟩ ⟨by first | decide | (dsimp only; omega), by first | decide | (dsimp only; omega)⟩) (fun r14 g13 H locs p12 hw => ?_)
    obtain ⟨rfl, p12⟩ := p12
    refine lv_if_eq (tgt := 19) hx hb d_SF_strict_11 (by decide) (fun c15 => ?_) (fun c15 => ?_)
    · refine lv_iconst (v := (-1)) hx hb d_SF_strict_19 (by decide) ?_
      exact m_iret hc hr hlk hw ⟨by first | decide | (dsimp only; omega), by first | decide | (dsimp only; omega)⟩ d_SF_strict_20 ⟨fun _ => ⟨rfl, ⟨E, g, hRg, gle.rf, fun _ _ => rfl, hS0⟩⟩, fun kt k vv h1 h2 h3 h4 h5 => absurd (by rw [h2]; exact plc h1) (bI_0.mp (p12.symm.trans c15))⟩
    · have hpl := bI_n.mp (fun z => c15 (p12.trans z))
      obtain ⟨kt, hkt, hxt⟩ : ∃ k : Nat, k < 10 ∧ xt = nI k := vp_in_of (vin (n := 10) hpl.1 hpl.2 (Nat.le_refl 10) (by decide)) (by decide)
      refine lv_aload hx hb d_SF_strict_14 (lv_at hl 0 rfl) ?_
      refine lv_ifnonnull (tgt := 21) hx hb d_SF_strict_16 (by decide) ?_
      refine lv_aload hx hb d_SF_strict_21 (lv_at hl 0 rfl) ?_
      refine m_getF hc hE hw hcella fcFa l5_SF_90 rfl d_SF_strict_23 ?_
      refine lv_bipush (v := 8) hx hb d_SF_strict_26 (by decide) ?_
      refine lv_icmp_lt (tgt := 34) hx hb d_SF_strict_28 (by decide) (fun c16 => ?_) (fun c16 => ?_)
      · refine lv_aload_n hx hb d_SF_strict_34 rfl (lv_at hl 1 rfl) ?_
        refine m_get hc hE hw h0 kc_SF l_SF_36_SF rfl d_SF_strict_35 ?_
        refine lv_iload_n hx hb d_SF_strict_38 rfl (lv_at hl 2 rfl) ?_
        refine m_new hc hE hw (fs := [.int 0, .int 0, .int 0, .null, .int 0]) kc_StrictFilter nw_SF_104 bl_StrictFilter (by first | decide | (dsimp only; omega)) (by first | decide | (dsimp only; omega)) d_SF_strict_39 (fun q17 H u18 hw => ?_)
        obtain ⟨f19, ef19⟩ : ∃ z : Wd, z = va_up f q17 (some (.inr (7, [.int 0, .int 0, .int 0, .null, .int 0]))) := ⟨_, rfl⟩
        replace hw : ms G.1 (Af f sz) f19 s H locs := by rw [ef19]; exact hw
        have n_root_q17 : root ≠ q17 := wnf h0 u18
        have h20 : f19 root = some (.inr (0, [.ref A0, .ref A2, .ref A7, .ref A8])) := by rw [ef19, va_up_ne _ _ n_root_q17]; exact h0
        have n_A8_q17 : A8 ≠ q17 := wnf h8 u18
        have h21 : f19 A8 = some (.inl (G.2.1 2, 10, .inr (.inr (.inr (.inr fa))))) := by rw [ef19, va_up_ne _ _ n_A8_q17]; exact h8
        have n_Fa_q17 : Fa ≠ q17 := wnf hcella u18
        have h22 : f19 Fa = some (.inr (cFa, .int kFa :: .int lFa :: .int gFa :: rFa)) := by rw [ef19, va_up_ne _ _ n_Fa_q17]; exact hcella
        have h23 : f19 q17 = some (.inr (7, [.int 0, .int 0, .int 0, .null, .int 0])) := by rw [ef19, va_up_self]
        refine lv_dup hx hb d_SF_strict_42 rfl ?_
        refine lv_aload hx hb d_SF_strict_43 (lv_at hl 0 rfl) ?_
        refine lv_iload_n hx hb d_SF_strict_45 rfl (lv_at hl 4 rfl) ?_
        refine m_callv hw (m_runI (As := [.ref Fa, .int al]) (rest := [.ref q17, .int xt, .ref A8]) hc hE hw (c_StrictFilter_init G l H.size f19 h23 h22 fcFa h_al) cw_SF_106 ⟨rfl, si_StrictFilter_init⟩ rfl hl.1 rfl (Nat.le_of_ble_eq_true rfl) d_SF_strict_46 ⟨rfl, rfl, by decide, by decide⟩ ⟨by first | decide | (dsimp only; omega), by first | decide | (dsimp only; omega)⟩) (fun g25 H locs p24 hw => ?_)
        have h26 : g25 root = some (.inr (0, [.ref A0, .ref A2, .ref A7, .ref A8])) := by rw [p24, va_up_ne _ _ n_root_q17]; exact h20
        have h27 : g25 A8 = some (.inl (G.2.1 2, 10, .inr (.inr (.inr (.inr fa))))) := by rw [p24, va_up_ne _ _ n_A8_q17]; exact h21
        have h28 : g25 Fa = some (.inr (cFa, .int kFa :: .int lFa :: .int gFa :: rFa)) := by rw [p24, va_up_ne _ _ n_Fa_q17]; exact h22
        have h29 : g25 q17 = some (.inr (7, [.int 3, .int lFa, .int (1 + gFa), .ref Fa, .int al])) := by rw [p24, va_up_self]
        refine m_aast hc hE hw 2 h27 rfl h29 rfl (Or.inr ca_StrictFilter_Filter) (by rw [hxt]; exact vp_in_nI hkt (by decide)) d_SF_strict_49 (fun H locs hw => ?_)
        obtain ⟨f30, ef30⟩ : ∃ z : Wd, z = va_up g25 A8 (some (.inl (G.2.1 2, 10, .inr (.inr (.inr (.inr (va_up fa xt.toNatClampNeg (some q17)))))))) := ⟨_, rfl⟩
        replace hw : ms G.1 (Af f sz) f30 s H locs := by rw [ef30]; exact hw
        have h31 : f30 root = some (.inr (0, [.ref A0, .ref A2, .ref A7, .ref A8])) := by rw [ef30, va_up_ne _ _ (wne h26 h27 wd_oa)]; exact h26
        have h32 : f30 Fa = some (.inr (cFa, .int kFa :: .int lFa :: .int gFa :: rFa)) := by rw [ef30, va_up_ne _ _ (wne h28 h27 wd_oa)]; exact h28
        have h33 : f30 q17 = some (.inr (7, [.int 3, .int lFa, .int (1 + gFa), .ref Fa, .int al])) := by rw [ef30, va_up_ne _ _ (Ne.symm n_A8_q17)]; exact h29
        have h34 : f30 A8 = some (.inl (G.2.1 2, 10, .inr (.inr (.inr (.inr (va_up fa xt.toNatClampNeg (some q17))))))) := by rw [ef30, va_up_self]
        refine lv_iconst (v := 0) hx hb d_SF_strict_50 (by decide) ?_
        have hbad : ¬ (¬ (¬ xt < 0 ∧ ¬ 10 ≤ xt) ∨ noF fl x) := fun z => z.elim (fun z => z hpl) (fun z => absurd ((z ka hka hxka).symm.trans hsma) (by intro z; cases z))
        have hcl : xt.toNatClampNeg = kt := by rw [hxt]; exact nI_clamp (by omega)
        have hfx : f30 = va_up (va_up f q17 (some (.inr (7, [.int 3, .int lFa, .int (1 + gFa), .ref Fa, .int al])))) (ad 8) (some (.inl (G.2.1 2, 10, .inr (.inr (.inr (.inr (va_up fa kt (some q17)))))))) := by rw [ef30, p24, ef19, up_uu, eA8, hcl]
        have hgl : gle g (va_up g q17 (some (.inr (7, [.int 3, .int lFa, .int (1 + gFa), .ref Fa, .int al])))) := gle.up (hRg.non u18)
        have hlt8 : ¬ 8 ≤ vva.2.2.1 := by rw [← egFa]; exact Int32.not_le.mpr c16
        have hh8 : h0a < 8 := Nat.not_le.mp (fun z => hlt8 (by rw [hh0a]; exact nI_le (a := 8) z (by omega)))
        have hrh9 : RH G (va_up g q17 (some (.inr (7, [.int 3, .int lFa, .int (1 + gFa), .ref Fa, .int al])))) q17 ((3, vva.2.1, 1 + vva.2.2.1, anS al vva.2.2.2.1, TI0) : FV) := ⟨l0a, h0a + 1, hl0a, by show 1 + vva.2.2.1 = _; rw [hh0a, Int32.add_comm]; exact nI_1 h0a, hl1a, hl2a, by omega, by omega, Or.inr (Or.inr (Or.inl ⟨Fa, vva, al, by rw [va_up_self, elFa, egFa], RF.mono hgl _ _ _ hrfa, h_al, rfl⟩))⟩
        exact m_iret hc hr hlk hw ⟨by first | decide | (dsimp only; omega), by first | decide | (dsimp only; omega)⟩ d_SF_strict_51 ⟨fun z => absurd z hbad, fun kt2 k vv h1 h2 h3 h4 h5 => by have ek : ka = k := (nI_eq (by omega) (by omega)).mp (hxka.symm.trans h4); subst ek; have ev2 : vva = vv := Option.some.inj (hsma.symm.trans h5); subst ev2; have et : kt = kt2 := (nI_eq (by omega) (by omega)).mp (hxt.symm.trans h2); subst et; exact ⟨fun z => absurd z hlt8, fun _ => ⟨rfl, _, _, by rw [hfx]; exact (hRg.new _ u18).up 8 (by omega) _, hgl, fun k hk => va_up_ne _ _ (by omega), hS0.f hgl _ _ ((hFL.mono hgl).put hrh9)⟩⟩⟩
      · refine lv_bipush (v := (-3)) hx hb d_SF_strict_31 (by decide) ?_
        have hbad : ¬ (¬ (¬ xt < 0 ∧ ¬ 10 ≤ xt) ∨ noF fl x) := fun z => z.elim (fun z => z hpl) (fun z => absurd ((z ka hka hxka).symm.trans hsma) (by intro z; cases z))
        exact m_iret hc hr hlk hw ⟨by first | decide | (dsimp only; omega), by first | decide | (dsimp only; omega)⟩ d_SF_strict_33 ⟨fun z => absurd z hbad, fun kt2 k vv h1 h2 h3 h4 h5 => by have ek : ka = k := (nI_eq (by omega) (by omega)).mp (hxka.symm.trans h4); subst ek; have ev2 : vva = vv := Option.some.inj (hsma.symm.trans h5); subst ev2; exact ⟨fun _ => ⟨rfl, ⟨E, g, hRg, gle.rf, fun _ _ => rfl, hS0⟩⟩, fun z => absurd (by rw [← egFa]; exact Int32.not_lt.mp c16) z⟩⟩
