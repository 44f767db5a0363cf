/-! links of the pools, as the walks ask for them -/
theorem nw_SF_114 : nwk "StreamFilters" 114 R_OnlyFilter 5 := ⟨(tb 474 (by decide +kernel) rfl), (tb 475 (by decide +kernel) rfl), (tb 17 (by decide +kernel) rfl)⟩
theorem cw_SF_116 : cwk "StreamFilters" 116 y_Signs_copy b_Signs_copy 3 (some (.object "StreamFilters$Signs")) 0 := ⟨Or.inl (tb 476 (by decide +kernel) rfl), (tb 323 (by decide +kernel) rfl), (tb 2 (by decide +kernel) rfl), by decide, by decide, by decide +kernel⟩
theorem cw_SF_120 : cwk "StreamFilters" 120 y_OnlyFilter_init b_OnlyFilter_init 3 none 2 := ⟨Or.inl (tb 477 (by decide +kernel) rfl), (tb 479 (by decide +kernel) rfl), (tb 17 (by decide +kernel) rfl), by decide, by decide, by decide +kernel⟩
theorem si_OnlyFilter_init : Cond.instanceMethod y_OnlyFilter_init ∈ TB := (tb 478 (by decide +kernel) rfl)
theorem ca_OnlyFilter_Filter : Cond.castable R_OnlyFilter "StreamFilters$Filter" ∈ EB := (eb 869 (by decide +kernel) rfl)
/-! decode rows -/
theorem d_SF_only_0 : decode b_SF_only 0 = .ok (.aload_n 0, 1) := by decide +kernel
theorem d_SF_only_1 : decode b_SF_only 1 = .ok (.iload_n 2, 1) := by decide +kernel
theorem d_SF_only_2 : decode b_SF_only 2 = .ok (.invokevirtual 82, 3) := by decide +kernel
theorem d_SF_only_5 : decode b_SF_only 5 = .ok (.astore_n 3, 1) := by decide +kernel
theorem d_SF_only_6 : decode b_SF_only 6 = .ok (.iload_n 1, 1) := by decide +kernel
theorem d_SF_only_7 : decode b_SF_only 7 = .ok (.invokestatic 67, 3) := by decide +kernel
theorem d_SF_only_10 : decode b_SF_only 10 = .ok (.ifCond .eq 7, 3) := by decide +kernel
theorem d_SF_only_13 : decode b_SF_only 13 = .ok (.aload_n 3, 1) := by decide +kernel
theorem d_SF_only_14 : decode b_SF_only 14 = .ok (.ifnonnull 5, 3) := by decide +kernel
theorem d_SF_only_17 : decode b_SF_only 17 = .ok (.iconst (-1), 1) := by decide +kernel
theorem d_SF_only_18 : decode b_SF_only 18 = .ok (.ireturn, 1) := by decide +kernel
theorem d_SF_only_19 : decode b_SF_only 19 = .ok (.aload_n 3, 1) := by decide +kernel
theorem d_SF_only_20 : decode b_SF_only 20 = .ok (.getfield 90, 3) := by decide +kernel
theorem d_SF_only_23 : decode b_SF_only 23 = .ok (.bipush 8, 2) := by decide +kernel
theorem d_SF_only_25 : decode b_SF_only 25 = .ok (.if_icmp .lt 6, 3) := by decide +kernel
theorem d_SF_only_28 : decode b_SF_only 28 = .ok (.bipush (-3), 2) := by decide +kernel
theorem d_SF_only_30 : decode b_SF_only 30 = .ok (.ireturn, 1) := by decide +kernel
theorem d_SF_only_31 : decode b_SF_only 31 = .ok (.aload_n 0, 1) := by decide +kernel
theorem d_SF_only_32 : decode b_SF_only 32 = .ok (.getfield 36, 3) := by decide +kernel
theorem d_SF_only_35 : decode b_SF_only 35 = .ok (.iload_n 1, 1) := by decide +kernel
theorem d_SF_only_36 : decode b_SF_only 36 = .ok (.new 114, 3) := by decide +kernel
theorem d_SF_only_39 : decode b_SF_only 39 = .ok (.dup, 1) := by decide +kernel
theorem d_SF_only_40 : decode b_SF_only 40 = .ok (.aload_n 3, 1) := by decide +kernel
theorem d_SF_only_41 : decode b_SF_only 41 = .ok (.aload_n 0, 1) := by decide +kernel
theorem d_SF_only_42 : decode b_SF_only 42 = .ok (.getfield 14, 3) := by decide +kernel
theorem d_SF_only_45 : decode b_SF_only 45 = .ok (.invokevirtual 116, 3) := by decide +kernel
theorem d_SF_only_48 : decode b_SF_only 48 = .ok (.invokespecial 120, 3) := by decide +kernel
theorem d_SF_only_51 : decode b_SF_only 51 = .ok (.aastore, 1) := by decide +kernel
theorem d_SF_only_52 : decode b_SF_only 52 = .ok (.iconst 0, 1) := by decide +kernel
theorem d_SF_only_53 : decode b_SF_only 53 = .ok (.ireturn, 1) := by decide +kernel
theorem anO_congr {n : Nat} {u t : Nat → Int32} {a : An} (h : ∀ j, j < n → u j = t j) : anO n u a = anO n t a := by
  funext Q tr
  obtain ⟨nn, nt, mn, mt, dp, rf, by_, so, di, le⟩ := Q
  show pif (so = 1 ∧ bgn nn nt u 0 n) _ _ = pif (so = 1 ∧ bgn nn nt t 0 n) _ _
  rw [propext (bgn_congr (nn := nn) (nt := nt) h (Nat.zero_le n))]
set_option maxHeartbeats 4000000 in
set_option maxRecDepth 100000 in
/-- only(xt, x) -/
theorem c_SF_only (G : GG) (l : Launch) (sz : Nat) (f : Wd) {N root pn nn mn : Nat} {ad : Nat → Nat} {E : Nat → va_E} {g : Wd} {pt nt mt : Nat → Int32} {dp rf by_ co tx lx : Int32} {fl : Nat → Option FV} (hN : 9 ≤ N) (hRg : Rg N ad E g f) (hS : SC G ad E g root pn pt nn nt mn mt dp rf by_ co tx lx fl) (xt x : Int32)  : Ci G l y_SF_only b_SF_only 4 (some .int) ({ frames := 3, cells := 3, slots := 97, locals := 57 }) sz f [.ref root, .int xt, .int x] (fun v f' => ((¬ (¬ xt < 0 ∧ ¬ 10 ≤ xt) ∨ noF fl x) → v = -1 ∧ SCR G N ad E g root f' pn pt nn nt mn mt dp rf by_ co tx lx fl) ∧ ∀ (kt k : Nat) (vv : FV), kt < 10 → xt = nI kt → k < 10 → x = nI k → fl k = some vv → (8 ≤ vv.2.2.1 → v = -3 ∧ SCR G N ad E g root f' pn pt nn nt mn mt dp rf by_ co tx lx fl) ∧ (¬ 8 ≤ vv.2.2.1 → v = 0 ∧ SCR G N ad E g root f' pn pt nn nt mn mt dp rf by_ co tx lx (va_up fl kt (some ((5, vv.2.1, 1 + vv.2.2.1, anO pn pt vv.2.2.2.1, TI0) : FV))))) := by
  refine ct_of (by decide) (Nat.le_of_ble_eq_true rfl) ?_
  intro p e s m below meth c ls H locs hEn
  obtain ⟨hc, hr, hlk, hin, hE, hw, hsz, hl⟩ := hEn
  have hx := hc.1
  have hb := hc.2.1
  have hl : lv_has ls 4 [(0, .ref root), (1, .int xt), (2, .int x)] := hl
  have hS0 := hS
  obtain ⟨hroot, hPB, hNB, hMB, ⟨so, di, le, hQ⟩, ⟨fr, en, pi, li, nu, rj, sh, mf, me, nf, ne, hRd⟩, fa, hF8, hFL⟩ := hS
  obtain ⟨A0, eA0⟩ : ∃ z, z = ad 0 := ⟨_, rfl⟩
  obtain ⟨A1, eA1⟩ : ∃ z, z = ad 1 := ⟨_, rfl⟩
  obtain ⟨A2, eA2⟩ : ∃ z, z = ad 2 := ⟨_, rfl⟩
  obtain ⟨A3, eA3⟩ : ∃ z, z = ad 3 := ⟨_, rfl⟩
  obtain ⟨A4, eA4⟩ : ∃ z, z = ad 4 := ⟨_, rfl⟩
  obtain ⟨A5, eA5⟩ : ∃ z, z = ad 5 := ⟨_, rfl⟩
  obtain ⟨A6, eA6⟩ : ∃ z, z = ad 6 := ⟨_, rfl⟩
  obtain ⟨A7, eA7⟩ : ∃ z, z = ad 7 := ⟨_, rfl⟩
  obtain ⟨A8, eA8⟩ : ∃ z, z = ad 8 := ⟨_, rfl⟩
  have hgf := hRg.2.2.1
  have h0 : f root = some (.inr (0, [.ref A0, .ref A2, .ref A7, .ref A8])) := by rw [eA0, eA2, eA7, eA8]; exact hgf _ _ hroot
  have h2 : f A2 = some (.inr (2, [.ref A3, .ref A5, .int dp, .int rf, .int by_, .int so, .int di, .int le, .int co, .int tx, .int lx])) := by rw [eA2, eA3, eA5]; exact hRg.get 2 (by omega) hQ
  have h8 : f A8 = some (.inl (G.2.1 2, 10, .inr (.inr (.inr (.inr fa))))) := by rw [eA8]; exact hRg.get 8 (by omega) hF8
  have hsP : sg G f A0 A1 90 pn pt := by rw [eA0, eA1]; exact hPB.sg hRg (by omega) (by omega)
  have hsN : sg G f A3 A4 40 nn nt := by rw [eA3, eA4]; exact hNB.sg hRg (by omega) (by omega)
  have hsM : sg G f A5 A6 12 mn mt := by rw [eA5, eA6]; exact hMB.sg hRg (by omega) (by omega)
  refine lv_aload_n hx hb d_SF_only_0 rfl (lv_at hl 0 rfl) ?_
  refine lv_iload_n hx hb d_SF_only_1 rfl (lv_at hl 2 rfl) ?_
  refine m_callq hw (m_runV (As := [.int x]) (rest := []) hc hE hw (c_SF_filterAt G l H.size f hN hRg hS0 x) h0 rfl cw_SF_82 se_SF_filterAt rfl hl.1 rfl (Nat.le_of_ble_eq_true rfl) d_SF_only_2 ⟨rfl, rfl, by decide, by decide⟩ ⟨by first | decide | (dsimp only; omega), by first | decide | (dsimp only; omega)⟩) (fun r3 g2 H locs p1 hw => ?_)
  obtain ⟨rfl, hfla⟩ := p1
  rcases hfla with ⟨hnoa, hva⟩ | ⟨ka, hka, hxka, ⟨hva, hnna⟩ | ⟨Fa, vva, hva, hsma, hrha⟩⟩
  · subst hva
    have hnfa : noF fl x := noF_out hnoa
    refine lv_astore_nN (lv' := [(3, .null), (0, .ref root), (1, .int xt), (2, .int x)]) hx hb d_SF_only_5 rfl hl (by decide) rfl (fun ls hl => ?_)
    refine lv_iload_n hx hb d_SF_only_6 rfl (lv_at hl 2 rfl) ?_
    refine m_calli hw (m_runS (As := [.int xt]) (rest := []) hc hE hw (c_SF_isPlace G l H.size f xt) cw_SF_67 ss_SF_isPlace rfl hl.1 rfl (Nat.le_of_ble_eq_true rfl) d_SF_only_7 ⟨rfl, rfl, by decide, by decide⟩ ⟨by first | decide | (dsimp only; omega), by first | decide | (dsimp only; omega)⟩) (fun r6 g5 H locs p4 hw => ?_)
    obtain ⟨rfl, p4⟩ := p4
    refine lv_if_eq (tgt := 17) hx hb d_SF_only_10 (by decide) (fun c7 => ?_) (fun c7 => ?_)
    · refine lv_iconst (v := (-1)) hx hb d_SF_only_17 (by decide) ?_
      exact m_iret hc hr hlk hw ⟨by first | decide | (dsimp only; omega), by first | decide | (dsimp only; omega)⟩ d_SF_only_18 ⟨fun _ => ⟨rfl, ⟨E, g, hRg, gle.rf, fun _ _ => rfl, hS0⟩⟩, fun kt k vv h1 h2 h3 h4 h5 => absurd (by rw [h2]; exact plc h1) (bI_0.mp (p4.symm.trans c7))⟩
    · have hpl := bI_n.mp (fun z => c7 (p4.trans z))
      obtain ⟨kt, hkt, hxt⟩ : ∃ k : Nat, k < 10 ∧ xt = nI k := vp_in_of (vin (n := 10) hpl.1 hpl.2 (Nat.le_refl 10) (by decide)) (by decide)
      refine lv_aload_nN hx hb d_SF_only_13 rfl (lv_at hl 0 rfl) ?_
      refine lv_ifnonnullN hx hb d_SF_only_14 ?_
      refine lv_iconst (v := (-1)) hx hb d_SF_only_17 (by decide) ?_
      exact m_iret hc hr hlk hw ⟨by first | decide | (dsimp only; omega), by first | decide | (dsimp only; omega)⟩ d_SF_only_18 ⟨fun _ => ⟨rfl, ⟨E, g, hRg, gle.rf, fun _ _ => rfl, hS0⟩⟩, fun kt k vv h1 h2 h3 h4 h5 => absurd ((hnfa k h3 h4).symm.trans h5) (by intro z; cases z)⟩
  · subst hva
    have hnfa : noF fl x := noF_in hka hxka hnna
    refine lv_astore_nN (lv' := [(3, .null), (0, .ref root), (1, .int xt), (2, .int x)]) hx hb d_SF_only_5 rfl hl (by decide) rfl (fun ls hl => ?_)
    refine lv_iload_n hx hb d_SF_only_6 rfl (lv_at hl 2 rfl) ?_
    refine m_calli hw (m_runS (As := [.int xt]) (rest := []) hc hE hw (c_SF_isPlace G l H.size f xt) cw_SF_67 ss_SF_isPlace rfl hl.1 rfl (Nat.le_of_ble_eq_true rfl) d_SF_only_7 ⟨rfl, rfl, by decide, by decide⟩ ⟨by first | decide | (dsimp only; omega), by first | decide | (dsimp only; omega)⟩) (fun r10 g9 H locs p8 hw => ?_)
    obtain ⟨rfl, p8⟩ := p8
    refine lv_if_eq (tgt := 17) hx hb d_SF_only_10 (by decide) (fun c11 => ?_) (fun c11 => ?_)
    · refine lv_iconst (v := (-1)) hx hb d_SF_only_17 (by decide) ?_
      exact m_iret hc hr hlk hw ⟨by first | decide | (dsimp only; omega), by first | decide | (dsimp only; omega)⟩ d_SF_only_18 ⟨fun _ => ⟨rfl, ⟨E, g, hRg, gle.rf, fun _ _ => rfl, hS0⟩⟩, fun kt k vv h1 h2 h3 h4 h5 => absurd (by rw [h2]; exact plc h1) (bI_0.mp (p8.symm.trans c11))⟩
    · have hpl := bI_n.mp (fun z => c11 (p8.trans z))
      obtain ⟨kt, hkt, hxt⟩ : ∃ k : Nat, k < 10 ∧ xt = nI k := vp_in_of (vin (n := 10) hpl.1 hpl.2 (Nat.le_refl 10) (by decide)) (by decide)
      refine lv_aload_nN hx hb d_SF_only_13 rfl (lv_at hl 0 rfl) ?_
      refine lv_ifnonnullN hx hb d_SF_only_14 ?_
      refine lv_iconst (v := (-1)) hx hb d_SF_only_17 (by decide) ?_
      exact m_iret hc hr hlk hw ⟨by first | decide | (dsimp only; omega), by first | decide | (dsimp only; omega)⟩ d_SF_only_18 ⟨fun _ => ⟨rfl, ⟨E, g, hRg, gle.rf, fun _ _ => rfl, hS0⟩⟩, fun kt k vv h1 h2 h3 h4 h5 => absurd ((hnfa k h3 h4).symm.trans h5) (by intro z; cases z)⟩
  · subst hva
    have hrhab := hrha
    obtain ⟨l0a, h0a, hl0a, hh0a, hl1a, hl2a, hh1a, hh2a, hrfa⟩ := hrha
    obtain ⟨cFa, rFa, fcFa, hcFa⟩ := RF.head hrfa
    obtain ⟨kFa, ekFa⟩ : ∃ z, z = vva.1 := ⟨_, rfl⟩
    obtain ⟨lFa, elFa⟩ : ∃ z, z = vva.2.1 := ⟨_, rfl⟩
    obtain ⟨gFa, egFa⟩ : ∃ z, z = vva.2.2.1 := ⟨_, rfl⟩
    have hcella : f Fa = some (.inr (cFa, .int kFa :: .int lFa :: .int gFa :: rFa)) := by rw [ekFa, elFa, egFa]; exact hgf _ _ hcFa
    refine lv_astore_n (lv' := [(3, .ref Fa), (0, .ref root), (1, .int xt), (2, .int x)]) hx hb d_SF_only_5 rfl hl (by decide) rfl (fun ls hl => ?_)
    refine lv_iload_n hx hb d_SF_only_6 rfl (lv_at hl 2 rfl) ?_
    refine m_calli hw (m_runS (As := [.int xt]) (rest := []) hc hE hw (c_SF_isPlace G l H.size f xt) cw_SF_67 ss_SF_isPlace rfl hl.1 rfl (Nat.le_of_ble_eq_true rfl) d_SF_only_7 ⟨rfl, rfl, by decide, by decide⟩ ⟨by first | decide | (dsimp only; omega), by first | decide | (dsimp only; omega)⟩) (fun r14 g13 H locs p12 hw => ?_)
    obtain ⟨rfl, p12⟩ := p12
    refine lv_if_eq (tgt := 17) hx hb d_SF_only_10 (by decide) (fun c15 => ?_) (fun c15 => ?_)
    · refine lv_iconst (v := (-1)) hx hb d_SF_only_17 (by decide) ?_
      exact m_iret hc hr hlk hw ⟨by first | decide | (dsimp only; omega), by first | decide | (dsimp only; omega)⟩ d_SF_only_18 ⟨fun _ => ⟨rfl, ⟨E, g, hRg, gle.rf, fun _ _ => rfl, hS0⟩⟩, fun kt k vv h1 h2 h3 h4 h5 => absurd (by rw [h2]; exact plc h1) (bI_0.mp (p12.symm.trans c15))⟩
    · have hpl := bI_n.mp (fun z => c15 (p12.trans z))
      obtain ⟨kt, hkt, hxt⟩ : ∃ k : Nat, k < 10 ∧ xt = nI k := vp_in_of (vin (n := 10) hpl.1 hpl.2 (Nat.le_refl 10) (by decide)) (by decide)
      refine lv_aload_n hx hb d_SF_only_13 rfl (lv_at hl 0 rfl) ?_
      refine lv_ifnonnull (tgt := 19) hx hb d_SF_only_14 (by decide) ?_
      refine lv_aload_n hx hb d_SF_only_19 rfl (lv_at hl 0 rfl) ?_
      refine m_getF hc hE hw hcella fcFa l5_SF_90 rfl d_SF_only_20 ?_
      refine lv_bipush (v := 8) hx hb d_SF_only_23 (by decide) ?_
      refine lv_icmp_lt (tgt := 31) hx hb d_SF_only_25 (by decide) (fun c16 => ?_) (fun c16 => ?_)
      · refine lv_aload_n hx hb d_SF_only_31 rfl (lv_at hl 1 rfl) ?_
        refine m_get hc hE hw h0 kc_SF l_SF_36_SF rfl d_SF_only_32 ?_
        refine lv_iload_n hx hb d_SF_only_35 rfl (lv_at hl 2 rfl) ?_
        refine m_new hc hE hw (fs := [.int 0, .int 0, .int 0, .null, .null]) kc_OnlyFilter nw_SF_114 bl_OnlyFilter (by first | decide | (dsimp only; omega)) (by first | decide | (dsimp only; omega)) d_SF_only_36 (fun q17 H u18 hw => ?_)
        obtain ⟨f19, ef19⟩ : ∃ z : Wd, z = va_up f q17 (some (.inr (9, [.int 0, .int 0, .int 0, .null, .null]))) := ⟨_, rfl⟩
        replace hw : ms G.1 (Af f sz) f19 s H locs := by rw [ef19]; exact hw
        have n_root_q17 : root ≠ q17 := wnf h0 u18
        have h20 : f19 root = some (.inr (0, [.ref A0, .ref A2, .ref A7, .ref A8])) := by rw [ef19, va_up_ne _ _ n_root_q17]; exact h0
        have n_A8_q17 : A8 ≠ q17 := wnf h8 u18
        have h21 : f19 A8 = some (.inl (G.2.1 2, 10, .inr (.inr (.inr (.inr fa))))) := by rw [ef19, va_up_ne _ _ n_A8_q17]; exact h8
        have n_A0_q17 : A0 ≠ q17 := wnf hsP.1 u18
        have h22 : f19 A0 = some (.inr (1, [.ref A1, .int (nI pn)])) := by rw [ef19, va_up_ne _ _ n_A0_q17]; exact hsP.1
        have n_A1_q17 : A1 ≠ q17 := wnf hsP.2.1 u18
        have h23 : f19 A1 = some (.inl (G.2.1 1, 90, .inl pt)) := by rw [ef19, va_up_ne _ _ n_A1_q17]; exact hsP.2.1
        have n_Fa_q17 : Fa ≠ q17 := wnf hcella u18
        have h24 : f19 Fa = some (.inr (cFa, .int kFa :: .int lFa :: .int gFa :: rFa)) := by rw [ef19, va_up_ne _ _ n_Fa_q17]; exact hcella
        have h25 : f19 q17 = some (.inr (9, [.int 0, .int 0, .int 0, .null, .null])) := by rw [ef19, va_up_self]
        refine lv_dup hx hb d_SF_only_39 rfl ?_
        refine lv_aload_n hx hb d_SF_only_40 rfl (lv_at hl 0 rfl) ?_
        refine lv_aload_n hx hb d_SF_only_41 rfl (lv_at hl 1 rfl) ?_
        refine m_get hc hE hw h20 kc_SF l_SF_14_SF rfl d_SF_only_42 ?_
        refine m_callq hw (m_runV (As := []) (rest := [.ref Fa, .ref q17, .ref q17, .int xt, .ref A8]) hc hE hw (c_Signs_copy G l H.size f19 ⟨h22, h23, hsP.2.2⟩) h22 rfl cw_SF_116 se_Signs_copy rfl hl.1 rfl (Nat.le_of_ble_eq_true rfl) d_SF_only_45 ⟨rfl, rfl, by decide, by decide⟩ ⟨by first | decide | (dsimp only; omega), by first | decide | (dsimp only; omega)⟩) (fun r28 g27 H locs p26 hw => ?_)
        obtain ⟨ks, kr, u, p26, hks, hkr, n_ks_kr, hfk, hu⟩ := p26
        subst p26
        have n_root_ks : root ≠ ks := wnf h20 hks
        have n_root_kr : root ≠ kr := wnf h20 hkr
        have h29 : g27 root = some (.inr (0, [.ref A0, .ref A2, .ref A7, .ref A8])) := by rw [hfk, va_up_ne _ _ n_root_ks, va_up_ne _ _ n_root_kr]; exact h20
        have n_A8_ks : A8 ≠ ks := wnf h21 hks
        have n_A8_kr : A8 ≠ kr := wnf h21 hkr
        have h30 : g27 A8 = some (.inl (G.2.1 2, 10, .inr (.inr (.inr (.inr fa))))) := by rw [hfk, va_up_ne _ _ n_A8_ks, va_up_ne _ _ n_A8_kr]; exact h21
        have n_A0_ks : A0 ≠ ks := wnf h22 hks
        have n_A0_kr : A0 ≠ kr := wnf h22 hkr
        have h31 : g27 A0 = some (.inr (1, [.ref A1, .int (nI pn)])) := by rw [hfk, va_up_ne _ _ n_A0_ks, va_up_ne _ _ n_A0_kr]; exact h22
        have n_A1_ks : A1 ≠ ks := wnf h23 hks
        have n_A1_kr : A1 ≠ kr := wnf h23 hkr
        have h32 : g27 A1 = some (.inl (G.2.1 1, 90, .inl pt)) := by rw [hfk, va_up_ne _ _ n_A1_ks, va_up_ne _ _ n_A1_kr]; exact h23
        have n_Fa_ks : Fa ≠ ks := wnf h24 hks
        have n_Fa_kr : Fa ≠ kr := wnf h24 hkr
        have h33 : g27 Fa = some (.inr (cFa, .int kFa :: .int lFa :: .int gFa :: rFa)) := by rw [hfk, va_up_ne _ _ n_Fa_ks, va_up_ne _ _ n_Fa_kr]; exact h24
        have n_q17_ks : q17 ≠ ks := wnf h25 hks
        have n_q17_kr : q17 ≠ kr := wnf h25 hkr
        have h34 : g27 q17 = some (.inr (9, [.int 0, .int 0, .int 0, .null, .null])) := by rw [hfk, va_up_ne _ _ n_q17_ks, va_up_ne _ _ n_q17_kr]; exact h25
        have h35 : g27 kr = some (.inl (G.2.1 1, pn, .inl u)) := by rw [hfk, va_up_ne _ _ (Ne.symm n_ks_kr), va_up_self]
        have h36 : g27 ks = some (.inr (1, [.ref kr, .int (nI pn)])) := by rw [hfk, va_up_self]
        refine m_callv hw (m_runI (As := [.ref Fa, .ref ks]) (rest := [.ref q17, .int xt, .ref A8]) hc hE hw (c_OnlyFilter_init G l H.size g27 h34 h33 fcFa ks) cw_SF_120 ⟨rfl, si_OnlyFilter_init⟩ rfl hl.1 rfl (Nat.le_of_ble_eq_true rfl) d_SF_only_48 ⟨rfl, rfl, by decide, by decide⟩ ⟨by first | decide | (dsimp only; omega), by first | decide | (dsimp only; omega)⟩) (fun g38 H locs p37 hw => ?_)
        have h39 : g38 root = some (.inr (0, [.ref A0, .ref A2, .ref A7, .ref A8])) := by rw [p37, va_up_ne _ _ n_root_q17]; exact h29
        have h40 : g38 A8 = some (.inl (G.2.1 2, 10, .inr (.inr (.inr (.inr fa))))) := by rw [p37, va_up_ne _ _ n_A8_q17]; exact h30
        have h41 : g38 A0 = some (.inr (1, [.ref A1, .int (nI pn)])) := by rw [p37, va_up_ne _ _ n_A0_q17]; exact h31
        have h42 : g38 A1 = some (.inl (G.2.1 1, 90, .inl pt)) := by rw [p37, va_up_ne _ _ n_A1_q17]; exact h32
        have h43 : g38 Fa = some (.inr (cFa, .int kFa :: .int lFa :: .int gFa :: rFa)) := by rw [p37, va_up_ne _ _ n_Fa_q17]; exact h33
        have h44 : g38 kr = some (.inl (G.2.1 1, pn, .inl u)) := by rw [p37, va_up_ne _ _ (Ne.symm n_q17_kr)]; exact h35
        have h45 : g38 ks = some (.inr (1, [.ref kr, .int (nI pn)])) := by rw [p37, va_up_ne _ _ (Ne.symm n_q17_ks)]; exact h36
        have h46 : g38 q17 = some (.inr (9, [.int 5, .int lFa, .int (1 + gFa), .ref Fa, .ref ks])) := by rw [p37, va_up_self]
        refine m_aast hc hE hw 2 h40 rfl h46 rfl (Or.inr ca_OnlyFilter_Filter) (by rw [hxt]; exact vp_in_nI hkt (by decide)) d_SF_only_51 (fun H locs hw => ?_)
        obtain ⟨f47, ef47⟩ : ∃ z : Wd, z = va_up g38 A8 (some (.inl (G.2.1 2, 10, .inr (.inr (.inr (.inr (va_up fa xt.toNatClampNeg (some q17)))))))) := ⟨_, rfl⟩
        replace hw : ms G.1 (Af f sz) f47 s H locs := by rw [ef47]; exact hw
        have h48 : f47 q17 = some (.inr (9, [.int 5, .int lFa, .int (1 + gFa), .ref Fa, .ref ks])) := by rw [ef47, va_up_ne _ _ (Ne.symm n_A8_q17)]; exact h46
        have h49 : f47 A8 = some (.inl (G.2.1 2, 10, .inr (.inr (.inr (.inr (va_up fa xt.toNatClampNeg (some q17))))))) := by rw [ef47, va_up_self]
        refine lv_iconst (v := 0) hx hb d_SF_only_52 (by decide) ?_
        have hbad : ¬ (¬ (¬ xt < 0 ∧ ¬ 10 ≤ xt) ∨ noF fl x) := fun z => z.elim (fun z => z hpl) (fun z => absurd ((z ka hka hxka).symm.trans hsma) (by intro z; cases z))
        have hcl : xt.toNatClampNeg = kt := by rw [hxt]; exact nI_clamp (by omega)
        have hR1 := hRg.new (.inr (9, [.int 0, .int 0, .int 0, .null, .null])) u18
        rw [← ef19] at hR1
        have hR2 := (hR1.new (.inl (G.2.1 1, pn, .inl u)) hkr).new (.inr (1, [.ref kr, .int (nI pn)])) (show va_up _ kr _ ks = none by rw [va_up_ne _ _ n_ks_kr]; exact hks)
        rw [← hfk] at hR2
        have n_ks_q : ks ≠ q17 := Ne.symm (wnf (show f19 q17 = some (.inr (9, [.int 0, .int 0, .int 0, .null, .null])) by rw [ef19, va_up_self]) hks)
        have n_kr_q : kr ≠ q17 := Ne.symm (wnf (show f19 q17 = some (.inr (9, [.int 0, .int 0, .int 0, .null, .null])) by rw [ef19, va_up_self]) hkr)
        obtain ⟨g3, eg3⟩ : ∃ z : Wd, z = va_up (va_up (va_up g q17 (some (.inr (9, [.int 0, .int 0, .int 0, .null, .null])))) kr (some (.inl (G.2.1 1, pn, .inl u)))) ks (some (.inr (1, [.ref kr, .int (nI pn)]))) := ⟨_, rfl⟩
        rw [← eg3] at hR2
        have hg3q : g3 q17 = some (.inr (9, [.int 0, .int 0, .int 0, .null, .null])) := by rw [eg3, va_up_ne _ _ (Ne.symm n_ks_q), va_up_ne _ _ (Ne.symm n_kr_q), va_up_self]
        have hg3s : g3 ks = some (.inr (1, [.ref kr, .int (nI pn)])) := by rw [eg3, va_up_self]
        have hg3r : g3 kr = some (.inl (G.2.1 1, pn, .inl u)) := by rw [eg3, va_up_ne _ _ (Ne.symm n_ks_kr), va_up_self]
        have hR3 := hR2.upG (.inr (9, [.int 5, .int lFa, .int (1 + gFa), .ref Fa, .ref ks])) hg3q
        rw [← p37] at hR3
        have hgq := hRg.non u18
        have hg1r : va_up g q17 (some (.inr (9, [.int 0, .int 0, .int 0, .null, .null]))) kr = none := hR1.non hkr
        have hg1s : va_up g q17 (some (.inr (9, [.int 0, .int 0, .int 0, .null, .null]))) ks = none := hR1.non hks
        have hgl3 : gle g g3 := by rw [eg3]; exact (gle.up hgq).tr ((gle.up hg1r).tr (gle.up (by rw [va_up_ne _ _ n_ks_kr]; exact hg1s)))
        have hgl : gle g (va_up g3 q17 (some (.inr (9, [.int 5, .int lFa, .int (1 + gFa), .ref Fa, .ref ks])))) := hgl3.upf hgq
        have hsgk : sg G (va_up g3 q17 (some (.inr (9, [.int 5, .int lFa, .int (1 + gFa), .ref Fa, .ref ks])))) ks kr pn pn u := ⟨by rw [va_up_ne _ _ n_ks_q]; exact hg3s, by rw [va_up_ne _ _ n_kr_q]; exact hg3r, Nat.le_refl _, Nat.le_trans hPB.2.2.1 (Nat.le_refl _), fun j q => by rw [hu j q]; exact hPB.2.2.2 j q⟩
        have hlt8 : ¬ 8 ≤ vva.2.2.1 := by rw [← egFa]; exact Int32.not_le.mpr c16
        have hh8 : h0a < 8 := Nat.not_le.mp (fun z => hlt8 (by rw [hh0a]; exact nI_le (a := 8) z (by omega)))
        have hrh9 : RH G (va_up g3 q17 (some (.inr (9, [.int 5, .int lFa, .int (1 + gFa), .ref Fa, .ref ks])))) q17 ((5, vva.2.1, 1 + vva.2.2.1, anO pn pt vva.2.2.2.1, TI0) : FV) := ⟨l0a, h0a + 1, hl0a, by show 1 + vva.2.2.1 = _; rw [hh0a, Int32.add_comm]; exact nI_1 h0a, hl1a, hl2a, by omega, by omega, Or.inr (Or.inr (Or.inr (Or.inr ⟨Fa, ks, kr, pn, pn, u, vva, by rw [va_up_self, elFa, egFa], hsgk, RF.mono hgl _ _ _ hrfa, by rw [anO_congr hu]⟩)))⟩
        have hR4 := hR3.up 8 (by omega) (.inl (G.2.1 2, 10, .inr (.inr (.inr (.inr (va_up fa kt (some q17)))))))
        have hfx : f47 = va_up g38 (ad 8) (some (.inl (G.2.1 2, 10, .inr (.inr (.inr (.inr (va_up fa kt (some q17)))))))) := by rw [ef47, eA8, hcl]
        exact m_iret hc hr hlk hw ⟨by first | decide | (dsimp only; omega), by first | decide | (dsimp only; omega)⟩ d_SF_only_53 ⟨fun z => absurd z hbad, fun kt2 k vv h1 h2 h3 h4 h5 => by have ek : ka = k := (nI_eq (by omega) (by omega)).mp (hxka.symm.trans h4); subst ek; have ev2 : vva = vv := Option.some.inj (hsma.symm.trans h5); subst ev2; have et : kt = kt2 := (nI_eq (by omega) (by omega)).mp (hxt.symm.trans h2); subst et; exact ⟨fun z => absurd z hlt8, fun _ => ⟨rfl, _, _, by rw [hfx]; exact hR4, hgl, fun k hk => va_up_ne _ _ (by omega), hS0.f hgl _ _ ((hFL.mono hgl).put hrh9)⟩⟩⟩
      · refine lv_bipush (v := (-3)) hx hb d_SF_only_28 (by decide) ?_
        have hbad : ¬ (¬ (¬ xt < 0 ∧ ¬ 10 ≤ xt) ∨ noF fl x) := fun z => z.elim (fun z => z hpl) (fun z => absurd ((z ka hka hxka).symm.trans hsma) (by intro z; cases z))
        exact m_iret hc hr hlk hw ⟨by first | decide | (dsimp only; omega), by first | decide | (dsimp only; omega)⟩ d_SF_only_30 ⟨fun z => absurd z hbad, fun kt2 k vv h1 h2 h3 h4 h5 => by have ek : ka = k := (nI_eq (by omega) (by omega)).mp (hxka.symm.trans h4); subst ek; have ev2 : vva = vv := Option.some.inj (hsma.symm.trans h5); subst ev2; exact ⟨fun _ => ⟨rfl, ⟨E, g, hRg, gle.rf, fun _ _ => rfl, hS0⟩⟩, fun z => absurd (by rw [← egFa]; exact Int32.not_lt.mp c16) z⟩⟩
