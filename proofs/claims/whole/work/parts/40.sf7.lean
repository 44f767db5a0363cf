/-! links of the pools, as the walks ask for them -/
theorem nw_SF_109 : nwk "StreamFilters" 109 R_DefaultFilter 5 := ⟨(tb 454 (by decide +kernel) rfl), (tb 455 (by decide +kernel) rfl), (tb 16 (by decide +kernel) rfl)⟩
theorem cw_SF_111 : cwk "StreamFilters" 111 y_DefaultFilter_init b_DefaultFilter_init 3 none 2 := ⟨Or.inl (tb 456 (by decide +kernel) rfl), (tb 458 (by decide +kernel) rfl), (tb 16 (by decide +kernel) rfl), by decide, by decide, by decide +kernel⟩
theorem si_DefaultFilter_init : Cond.instanceMethod y_DefaultFilter_init ∈ TB := (tb 457 (by decide +kernel) rfl)
theorem ca_DefaultFilter_Filter : Cond.castable R_DefaultFilter "StreamFilters$Filter" ∈ EB := (eb 867 (by decide +kernel) rfl)
/-! decode rows -/
theorem d_SF_otherwise_0 : decode b_SF_otherwise 0 = .ok (.aload_n 0, 1) := by decide +kernel
theorem d_SF_otherwise_1 : decode b_SF_otherwise 1 = .ok (.iload_n 2, 1) := by decide +kernel
theorem d_SF_otherwise_2 : decode b_SF_otherwise 2 = .ok (.invokevirtual 82, 3) := by decide +kernel
theorem d_SF_otherwise_5 : decode b_SF_otherwise 5 = .ok (.astore 4, 2) := by decide +kernel
theorem d_SF_otherwise_7 : decode b_SF_otherwise 7 = .ok (.iload_n 1, 1) := by decide +kernel
theorem d_SF_otherwise_8 : decode b_SF_otherwise 8 = .ok (.invokestatic 67, 3) := by decide +kernel
theorem d_SF_otherwise_11 : decode b_SF_otherwise 11 = .ok (.ifCond .eq 17, 3) := by decide +kernel
theorem d_SF_otherwise_14 : decode b_SF_otherwise 14 = .ok (.aload 4, 2) := by decide +kernel
theorem d_SF_otherwise_16 : decode b_SF_otherwise 16 = .ok (.ifnull 12, 3) := by decide +kernel
theorem d_SF_otherwise_19 : decode b_SF_otherwise 19 = .ok (.iload_n 3, 1) := by decide +kernel
theorem d_SF_otherwise_20 : decode b_SF_otherwise 20 = .ok (.ifCond .lt 8, 3) := by decide +kernel
theorem d_SF_otherwise_23 : decode b_SF_otherwise 23 = .ok (.iload_n 3, 1) := by decide +kernel
theorem d_SF_otherwise_24 : decode b_SF_otherwise 24 = .ok (.iconst 2, 1) := by decide +kernel
theorem d_SF_otherwise_25 : decode b_SF_otherwise 25 = .ok (.if_icmp .le 5, 3) := by decide +kernel
theorem d_SF_otherwise_28 : decode b_SF_otherwise 28 = .ok (.iconst (-1), 1) := by decide +kernel
theorem d_SF_otherwise_29 : decode b_SF_otherwise 29 = .ok (.ireturn, 1) := by decide +kernel
theorem d_SF_otherwise_30 : decode b_SF_otherwise 30 = .ok (.aload 4, 2) := by decide +kernel
theorem d_SF_otherwise_32 : decode b_SF_otherwise 32 = .ok (.getfield 90, 3) := by decide +kernel
theorem d_SF_otherwise_35 : decode b_SF_otherwise 35 = .ok (.bipush 8, 2) := by decide +kernel
theorem d_SF_otherwise_37 : decode b_SF_otherwise 37 = .ok (.if_icmp .lt 6, 3) := by decide +kernel
theorem d_SF_otherwise_40 : decode b_SF_otherwise 40 = .ok (.bipush (-3), 2) := by decide +kernel
theorem d_SF_otherwise_42 : decode b_SF_otherwise 42 = .ok (.ireturn, 1) := by decide +kernel
theorem d_SF_otherwise_43 : decode b_SF_otherwise 43 = .ok (.aload_n 0, 1) := by decide +kernel
theorem d_SF_otherwise_44 : decode b_SF_otherwise 44 = .ok (.getfield 36, 3) := by decide +kernel
theorem d_SF_otherwise_47 : decode b_SF_otherwise 47 = .ok (.iload_n 1, 1) := by decide +kernel
theorem d_SF_otherwise_48 : decode b_SF_otherwise 48 = .ok (.new 109, 3) := by decide +kernel
theorem d_SF_otherwise_51 : decode b_SF_otherwise 51 = .ok (.dup, 1) := by decide +kernel
theorem d_SF_otherwise_52 : decode b_SF_otherwise 52 = .ok (.aload 4, 2) := by decide +kernel
theorem d_SF_otherwise_54 : decode b_SF_otherwise 54 = .ok (.iload_n 3, 1) := by decide +kernel
theorem d_SF_otherwise_55 : decode b_SF_otherwise 55 = .ok (.invokespecial 111, 3) := by decide +kernel
theorem d_SF_otherwise_58 : decode b_SF_otherwise 58 = .ok (.aastore, 1) := by decide +kernel
theorem d_SF_otherwise_59 : decode b_SF_otherwise 59 = .ok (.iconst 0, 1) := by decide +kernel
theorem d_SF_otherwise_60 : decode b_SF_otherwise 60 = .ok (.ireturn, 1) := by decide +kernel
set_option maxHeartbeats 4000000 in
set_option maxRecDepth 100000 in
/-- otherwise(xt, x, gv) -/
theorem c_SF_otherwise (G : GG) (l : Launch) (sz : Nat) (f : Wd) {N root pn nn mn : Nat} {ad : Nat → Nat} {E : Nat → va_E} {g : Wd} {pt nt mt : Nat → Int32} {dp rf by_ co tx lx : Int32} {fl : Nat → Option FV} (hN : 9 ≤ N) (hRg : Rg N ad E g f) (hS : SC G ad E g root pn pt nn nt mn mt dp rf by_ co tx lx fl) (xt x : Int32) (gv : Int32) : Ci G l y_SF_otherwise b_SF_otherwise 5 (some .int) ({ frames := 3, cells := 1, slots := 5, locals := 57 }) sz f [.ref root, .int xt, .int x, .int gv] (fun v f' => ((¬ (¬ xt < 0 ∧ ¬ 10 ≤ xt) ∨ noF fl x ∨ gv < 0 ∨ ¬ gv ≤ 2) → v = -1 ∧ SCR G N ad E g root f' pn pt nn nt mn mt dp rf by_ co tx lx fl) ∧ ∀ (kt k : Nat) (vv : FV), kt < 10 → xt = nI kt → k < 10 → x = nI k → fl k = some vv → ¬ (gv < 0 ∨ ¬ gv ≤ 2) → (8 ≤ vv.2.2.1 → v = -3 ∧ SCR G N ad E g root f' pn pt nn nt mn mt dp rf by_ co tx lx fl) ∧ (¬ 8 ≤ vv.2.2.1 → v = 0 ∧ SCR G N ad E g root f' pn pt nn nt mn mt dp rf by_ co tx lx (va_up fl kt (some ((4, vv.2.1, 1 + vv.2.2.1, anD gv vv.2.2.2.1, TI0) : FV))))) := by
  refine ct_of (by decide) (Nat.le_of_ble_eq_true rfl) ?_
  intro p e s m below meth c ls H locs hEn
  obtain ⟨hc, hr, hlk, hin, hE, hw, hsz, hl⟩ := hEn
  have hx := hc.1
  have hb := hc.2.1
  have hl : lv_has ls 5 [(0, .ref root), (1, .int xt), (2, .int x), (3, .int gv)] := hl
  have hS0 := hS
  obtain ⟨hroot, hPB, hNB, hMB, ⟨so, di, le, hQ⟩, ⟨fr, en, pi, li, nu, rj, sh, mf, me, nf, ne, hRd⟩, fa, hF8, hFL⟩ := hS
  obtain ⟨A0, eA0⟩ : ∃ z, z = ad 0 := ⟨_, rfl⟩
  obtain ⟨A1, eA1⟩ : ∃ z, z = ad 1 := ⟨_, rfl⟩
  obtain ⟨A2, eA2⟩ : ∃ z, z = ad 2 := ⟨_, rfl⟩
  obtain ⟨A3, eA3⟩ : ∃ z, z = ad 3 := ⟨_, rfl⟩
  obtain ⟨A4, eA4⟩ : ∃ z, z = ad 4 := ⟨_, rfl⟩
  obtain ⟨A5, eA5⟩ : ∃ z, z = ad 5 := ⟨_, rfl⟩
  obtain ⟨A6, eA6⟩ : ∃ z, z = ad 6 := ⟨_, rfl⟩
  obtain ⟨A7, eA7⟩ : ∃ z, z = ad 7 := ⟨_, rfl⟩
  obtain ⟨A8, eA8⟩ : ∃ z, z = ad 8 := ⟨_, rfl⟩
  have hgf := hRg.2.2.1
  have h0 : f root = some (.inr (0, [.ref A0, .ref A2, .ref A7, .ref A8])) := by rw [eA0, eA2, eA7, eA8]; exact hgf _ _ hroot
  have h2 : f A2 = some (.inr (2, [.ref A3, .ref A5, .int dp, .int rf, .int by_, .int so, .int di, .int le, .int co, .int tx, .int lx])) := by rw [eA2, eA3, eA5]; exact hRg.get 2 (by omega) hQ
  have h8 : f A8 = some (.inl (G.2.1 2, 10, .inr (.inr (.inr (.inr fa))))) := by rw [eA8]; exact hRg.get 8 (by omega) hF8
  have hsP : sg G f A0 A1 90 pn pt := by rw [eA0, eA1]; exact hPB.sg hRg (by omega) (by omega)
  have hsN : sg G f A3 A4 40 nn nt := by rw [eA3, eA4]; exact hNB.sg hRg (by omega) (by omega)
  have hsM : sg G f A5 A6 12 mn mt := by rw [eA5, eA6]; exact hMB.sg hRg (by omega) (by omega)
  refine lv_aload_n hx hb d_SF_otherwise_0 rfl (lv_at hl 0 rfl) ?_
  refine lv_iload_n hx hb d_SF_otherwise_1 rfl (lv_at hl 2 rfl) ?_
  refine m_callq hw (m_runV (As := [.int x]) (rest := []) hc hE hw (c_SF_filterAt G l H.size f hN hRg hS0 x) h0 rfl cw_SF_82 se_SF_filterAt rfl hl.1 rfl (Nat.le_of_ble_eq_true rfl) d_SF_otherwise_2 ⟨rfl, rfl, by decide, by decide⟩ ⟨by first | decide | (dsimp only; omega), by first | decide | (dsimp only; omega)⟩) (fun r3 g2 H locs p1 hw => ?_)
  obtain ⟨rfl, hfla⟩ := p1
  rcases hfla with ⟨hnoa, hva⟩ | ⟨ka, hka, hxka, ⟨hva, hnna⟩ | ⟨Fa, vva, hva, hsma, hrha⟩⟩
  · subst hva
    have hnfa : noF fl x := noF_out hnoa
    refine lv_astoreN (lv' := [(4, .null), (0, .ref root), (1, .int xt), (2, .int x), (3, .int gv)]) hx hb d_SF_otherwise_5 hl (by decide) rfl (fun ls hl => ?_)
    refine lv_iload_n hx hb d_SF_otherwise_7 rfl (lv_at hl 2 rfl) ?_
    refine m_calli hw (m_runS (As := [.int xt]) (rest := []) hc hE hw (c_SF_isPlace G l H.size f xt) cw_SF_67 ss_SF_isPlace rfl hl.1 rfl (Nat.le_of_ble_eq_true rfl) d_SF_otherwise_8 ⟨rfl, rfl, by decide, by decide⟩ ⟨by first | decide | (dsimp only; omega), by first | decide | (dsimp only; omega)⟩) (fun r6 g5 H locs p4 hw => ?_)
    obtain ⟨rfl, p4⟩ := p4
    refine lv_if_eq (tgt := 28) hx hb d_SF_otherwise_11 (by decide) (fun c7 => ?_) (fun c7 => ?_)
    · refine lv_iconst (v := (-1)) hx hb d_SF_otherwise_28 (by decide) ?_
      exact m_iret hc hr hlk hw ⟨by first | decide | (dsimp only; omega), by first | decide | (dsimp only; omega)⟩ d_SF_otherwise_29 ⟨fun _ => ⟨rfl, ⟨E, g, hRg, gle.rf, fun _ _ => rfl, hS0⟩⟩, fun kt k vv h1 h2 h3 h4 h5 => absurd (by rw [h2]; exact plc h1) (bI_0.mp (p4.symm.trans c7))⟩
    · have hpl := bI_n.mp (fun z => c7 (p4.trans z))
      obtain ⟨kt, hkt, hxt⟩ : ∃ k : Nat, k < 10 ∧ xt = nI k := vp_in_of (vin (n := 10) hpl.1 hpl.2 (Nat.le_refl 10) (by decide)) (by decide)
      refine lv_aloadN hx hb d_SF_otherwise_14 (lv_at hl 0 rfl) ?_
      refine lv_ifnullN (tgt := 28) hx hb d_SF_otherwise_16 (by decide) ?_
      refine lv_iconst (v := (-1)) hx hb d_SF_otherwise_28 (by decide) ?_
      exact m_iret hc hr hlk hw ⟨by first | decide | (dsimp only; omega), by first | decide | (dsimp only; omega)⟩ d_SF_otherwise_29 ⟨fun _ => ⟨rfl, ⟨E, g, hRg, gle.rf, fun _ _ => rfl, hS0⟩⟩, fun kt k vv h1 h2 h3 h4 h5 => absurd ((hnfa k h3 h4).symm.trans h5) (by intro z; cases z)⟩
  · subst hva
    have hnfa : noF fl x := noF_in hka hxka hnna
    refine lv_astoreN (lv' := [(4, .null), (0, .ref root), (1, .int xt), (2, .int x), (3, .int gv)]) hx hb d_SF_otherwise_5 hl (by decide) rfl (fun ls hl => ?_)
    refine lv_iload_n hx hb d_SF_otherwise_7 rfl (lv_at hl 2 rfl) ?_
    refine m_calli hw (m_runS (As := [.int xt]) (rest := []) hc hE hw (c_SF_isPlace G l H.size f xt) cw_SF_67 ss_SF_isPlace rfl hl.1 rfl (Nat.le_of_ble_eq_true rfl) d_SF_otherwise_8 ⟨rfl, rfl, by decide, by decide⟩ ⟨by first | decide | (dsimp only; omega), by first | decide | (dsimp only; omega)⟩) (fun r10 g9 H locs p8 hw => ?_)
    obtain ⟨rfl, p8⟩ := p8
    refine lv_if_eq (tgt := 28) hx hb d_SF_otherwise_11 (by decide) (fun c11 => ?_) (fun c11 => ?_)
    · refine lv_iconst (v := (-1)) hx hb d_SF_otherwise_28 (by decide) ?_
      exact m_iret hc hr hlk hw ⟨by first | decide | (dsimp only; omega), by first | decide | (dsimp only; omega)⟩ d_SF_otherwise_29 ⟨fun _ => ⟨rfl, ⟨E, g, hRg, gle.rf, fun _ _ => rfl, hS0⟩⟩, fun kt k vv h1 h2 h3 h4 h5 => absurd (by rw [h2]; exact plc h1) (bI_0.mp (p8.symm.trans c11))⟩
    · have hpl := bI_n.mp (fun z => c11 (p8.trans z))
      obtain ⟨kt, hkt, hxt⟩ : ∃ k : Nat, k < 10 ∧ xt = nI k := vp_in_of (vin (n := 10) hpl.1 hpl.2 (Nat.le_refl 10) (by decide)) (by decide)
      refine lv_aloadN hx hb d_SF_otherwise_14 (lv_at hl 0 rfl) ?_
      refine lv_ifnullN (tgt := 28) hx hb d_SF_otherwise_16 (by decide) ?_
      refine lv_iconst (v := (-1)) hx hb d_SF_otherwise_28 (by decide) ?_
      exact m_iret hc hr hlk hw ⟨by first | decide | (dsimp only; omega), by first | decide | (dsimp only; omega)⟩ d_SF_otherwise_29 ⟨fun _ => ⟨rfl, ⟨E, g, hRg, gle.rf, fun _ _ => rfl, hS0⟩⟩, fun kt k vv h1 h2 h3 h4 h5 => absurd ((hnfa k h3 h4).symm.trans h5) (by intro z; cases z)⟩
  · subst hva
    have hrhab := hrha
    obtain ⟨l0a, h0a, hl0a, hh0a, hl1a, hl2a, hh1a, hh2a, hrfa⟩ := hrha
    obtain ⟨cFa, rFa, fcFa, hcFa⟩ := RF.head hrfa
    obtain ⟨kFa, ekFa⟩ : ∃ z, z = vva.1 := ⟨_, rfl⟩
    obtain ⟨lFa, elFa⟩ : ∃ z, z = vva.2.1 := ⟨_, rfl⟩
    obtain ⟨gFa, egFa⟩ : ∃ z, z = vva.2.2.1 := ⟨_, rfl⟩
    have hcella : f Fa = some (.inr (cFa, .int kFa :: .int lFa :: .int gFa :: rFa)) := by rw [ekFa, elFa, egFa]; exact hgf _ _ hcFa
    refine lv_astore (lv' := [(4, .ref Fa), (0, .ref root), (1, .int xt), (2, .int x), (3, .int gv)]) hx hb d_SF_otherwise_5 hl (by decide) rfl (fun ls hl => ?_)
    refine lv_iload_n hx hb d_SF_otherwise_7 rfl (lv_at hl 2 rfl) ?_
    refine m_calli hw (m_runS (As := [.int xt]) (rest := []) hc hE hw (c_SF_isPlace G l H.size f xt) cw_SF_67 ss_SF_isPlace rfl hl.1 rfl (Nat.le_of_ble_eq_true rfl) d_SF_otherwise_8 ⟨rfl, rfl, by decide, by decide⟩ ⟨by first | decide | (dsimp only; omega), by first | decide | (dsimp only; omega)⟩) (fun r14 g13 H locs p12 hw => ?_)
    obtain ⟨rfl, p12⟩ := p12
    refine lv_if_eq (tgt := 28) hx hb d_SF_otherwise_11 (by decide) (fun c15 => ?_) (fun c15 => ?_)
    · refine lv_iconst (v := (-1)) hx hb d_SF_otherwise_28 (by decide) ?_
      exact m_iret hc hr hlk hw ⟨by first | decide | (dsimp only; omega), by first | decide | (dsimp only; omega)⟩ d_SF_otherwise_29 ⟨fun _ => ⟨rfl, ⟨E, g, hRg, gle.rf, fun _ _ => rfl, hS0⟩⟩, fun kt k vv h1 h2 h3 h4 h5 => absurd (by rw [h2]; exact plc h1) (bI_0.mp (p12.symm.trans c15))⟩
    · have hpl := bI_n.mp (fun z => c15 (p12.trans z))
      obtain ⟨kt, hkt, hxt⟩ : ∃ k : Nat, k < 10 ∧ xt = nI k := vp_in_of (vin (n := 10) hpl.1 hpl.2 (Nat.le_refl 10) (by decide)) (by decide)
      refine lv_aload hx hb d_SF_otherwise_14 (lv_at hl 0 rfl) ?_
      refine lv_ifnull hx hb d_SF_otherwise_16 ?_
      refine lv_iload_n hx hb d_SF_otherwise_19 rfl (lv_at hl 4 rfl) ?_
      refine lv_if_lt (tgt := 28) hx hb d_SF_otherwise_20 (by decide) (fun c16 => ?_) (fun c16 => ?_)
      · refine lv_iconst (v := (-1)) hx hb d_SF_otherwise_28 (by decide) ?_
        exact m_iret hc hr hlk hw ⟨by first | decide | (dsimp only; omega), by first | decide | (dsimp only; omega)⟩ d_SF_otherwise_29 ⟨fun _ => ⟨rfl, ⟨E, g, hRg, gle.rf, fun _ _ => rfl, hS0⟩⟩, fun kt k vv h1 h2 h3 h4 h5 => fun hr => absurd (Or.inl c16) hr⟩
      · refine lv_iload_n hx hb d_SF_otherwise_23 rfl (lv_at hl 4 rfl) ?_
        refine lv_iconst (v := 2) hx hb d_SF_otherwise_24 (by decide) ?_
        refine lv_icmp_le (tgt := 30) hx hb d_SF_otherwise_25 (by decide) (fun c17 => ?_) (fun c17 => ?_)
        · refine lv_aload hx hb d_SF_otherwise_30 (lv_at hl 0 rfl) ?_
          refine m_getF hc hE hw hcella fcFa l5_SF_90 rfl d_SF_otherwise_32 ?_
          refine lv_bipush (v := 8) hx hb d_SF_otherwise_35 (by decide) ?_
          refine lv_icmp_lt (tgt := 43) hx hb d_SF_otherwise_37 (by decide) (fun c18 => ?_) (fun c18 => ?_)
          · refine lv_aload_n hx hb d_SF_otherwise_43 rfl (lv_at hl 1 rfl) ?_
            refine m_get hc hE hw h0 kc_SF l_SF_36_SF rfl d_SF_otherwise_44 ?_
            refine lv_iload_n hx hb d_SF_otherwise_47 rfl (lv_at hl 2 rfl) ?_
            refine m_new hc hE hw (fs := [.int 0, .int 0, .int 0, .null, .int 0]) kc_DefaultFilter nw_SF_109 bl_DefaultFilter (by first | decide | (dsimp only; omega)) (by first | decide | (dsimp only; omega)) d_SF_otherwise_48 (fun q19 H u20 hw => ?_)
            obtain ⟨f21, ef21⟩ : ∃ z : Wd, z = va_up f q19 (some (.inr (8, [.int 0, .int 0, .int 0, .null, .int 0]))) := ⟨_, rfl⟩
            replace hw : ms G.1 (Af f sz) f21 s H locs := by rw [ef21]; exact hw
            have n_root_q19 : root ≠ q19 := wnf h0 u20
            have h22 : f21 root = some (.inr (0, [.ref A0, .ref A2, .ref A7, .ref A8])) := by rw [ef21, va_up_ne _ _ n_root_q19]; exact h0
            have n_A8_q19 : A8 ≠ q19 := wnf h8 u20
            have h23 : f21 A8 = some (.inl (G.2.1 2, 10, .inr (.inr (.inr (.inr fa))))) := by rw [ef21, va_up_ne _ _ n_A8_q19]; exact h8
            have n_Fa_q19 : Fa ≠ q19 := wnf hcella u20
            have h24 : f21 Fa = some (.inr (cFa, .int kFa :: .int lFa :: .int gFa :: rFa)) := by rw [ef21, va_up_ne _ _ n_Fa_q19]; exact hcella
            have h25 : f21 q19 = some (.inr (8, [.int 0, .int 0, .int 0, .null, .int 0])) := by rw [ef21, va_up_self]
            refine lv_dup hx hb d_SF_otherwise_51 rfl ?_
            refine lv_aload hx hb d_SF_otherwise_52 (lv_at hl 0 rfl) ?_
            refine lv_iload_n hx hb d_SF_otherwise_54 rfl (lv_at hl 4 rfl) ?_
            refine m_callv hw (m_runI (As := [.ref Fa, .int gv]) (rest := [.ref q19, .int xt, .ref A8]) hc hE hw (c_DefaultFilter_init G l H.size f21 h25 h24 fcFa gv) cw_SF_111 ⟨rfl, si_DefaultFilter_init⟩ rfl hl.1 rfl (Nat.le_of_ble_eq_true rfl) d_SF_otherwise_55 ⟨rfl, rfl, by decide, by decide⟩ ⟨by first | decide | (dsimp only; omega), by first | decide | (dsimp only; omega)⟩) (fun g27 H locs p26 hw => ?_)
            have h28 : g27 root = some (.inr (0, [.ref A0, .ref A2, .ref A7, .ref A8])) := by rw [p26, va_up_ne _ _ n_root_q19]; exact h22
            have h29 : g27 A8 = some (.inl (G.2.1 2, 10, .inr (.inr (.inr (.inr fa))))) := by rw [p26, va_up_ne _ _ n_A8_q19]; exact h23
            have h30 : g27 Fa = some (.inr (cFa, .int kFa :: .int lFa :: .int gFa :: rFa)) := by rw [p26, va_up_ne _ _ n_Fa_q19]; exact h24
            have h31 : g27 q19 = some (.inr (8, [.int 4, .int lFa, .int (1 + gFa), .ref Fa, .int gv])) := by rw [p26, va_up_self]
            refine m_aast hc hE hw 2 h29 rfl h31 rfl (Or.inr ca_DefaultFilter_Filter) (by rw [hxt]; exact vp_in_nI hkt (by decide)) d_SF_otherwise_58 (fun H locs hw => ?_)
            obtain ⟨f32, ef32⟩ : ∃ z : Wd, z = va_up g27 A8 (some (.inl (G.2.1 2, 10, .inr (.inr (.inr (.inr (va_up fa xt.toNatClampNeg (some q19)))))))) := ⟨_, rfl⟩
            replace hw : ms G.1 (Af f sz) f32 s H locs := by rw [ef32]; exact hw
            have h33 : f32 root = some (.inr (0, [.ref A0, .ref A2, .ref A7, .ref A8])) := by rw [ef32, va_up_ne _ _ (wne h28 h29 wd_oa)]; exact h28
            have h34 : f32 Fa = some (.inr (cFa, .int kFa :: .int lFa :: .int gFa :: rFa)) := by rw [ef32, va_up_ne _ _ (wne h30 h29 wd_oa)]; exact h30
            have h35 : f32 q19 = some (.inr (8, [.int 4, .int lFa, .int (1 + gFa), .ref Fa, .int gv])) := by rw [ef32, va_up_ne _ _ (Ne.symm n_A8_q19)]; exact h31
            have h36 : f32 A8 = some (.inl (G.2.1 2, 10, .inr (.inr (.inr (.inr (va_up fa xt.toNatClampNeg (some q19))))))) := by rw [ef32, va_up_self]
            refine lv_iconst (v := 0) hx hb d_SF_otherwise_59 (by decide) ?_
            have hbad : ¬ (¬ (¬ xt < 0 ∧ ¬ 10 ≤ xt) ∨ noF fl x ∨ gv < 0 ∨ ¬ gv ≤ 2) := fun z => z.elim (fun z => z hpl) (fun z => z.elim (fun z => absurd ((z ka hka hxka).symm.trans hsma) (by intro z; cases z)) (fun z => z.elim c16 (fun z => z c17)))
            have hcl : xt.toNatClampNeg = kt := by rw [hxt]; exact nI_clamp (by omega)
            have hfx : f32 = va_up (va_up f q19 (some (.inr (8, [.int 4, .int lFa, .int (1 + gFa), .ref Fa, .int gv])))) (ad 8) (some (.inl (G.2.1 2, 10, .inr (.inr (.inr (.inr (va_up fa kt (some q19)))))))) := by rw [ef32, p26, ef21, up_uu, eA8, hcl]
            have hgl : gle g (va_up g q19 (some (.inr (8, [.int 4, .int lFa, .int (1 + gFa), .ref Fa, .int gv])))) := gle.up (hRg.non u20)
            have hlt8 : ¬ 8 ≤ vva.2.2.1 := by rw [← egFa]; exact Int32.not_le.mpr c18
            have hh8 : h0a < 8 := Nat.not_le.mp (fun z => hlt8 (by rw [hh0a]; exact nI_le (a := 8) z (by omega)))
            have hrh9 : RH G (va_up g q19 (some (.inr (8, [.int 4, .int lFa, .int (1 + gFa), .ref Fa, .int gv])))) q19 ((4, vva.2.1, 1 + vva.2.2.1, anD gv vva.2.2.2.1, TI0) : FV) := ⟨l0a, h0a + 1, hl0a, by show 1 + vva.2.2.1 = _; rw [hh0a, Int32.add_comm]; exact nI_1 h0a, hl1a, hl2a, by omega, by omega, Or.inr (Or.inr (Or.inr (Or.inl ⟨Fa, vva, gv, by rw [va_up_self, elFa, egFa], RF.mono hgl _ _ _ hrfa, rfl⟩)))⟩
            exact m_iret hc hr hlk hw ⟨by first | decide | (dsimp only; omega), by first | decide | (dsimp only; omega)⟩ d_SF_otherwise_60 ⟨fun z => absurd z hbad, fun kt2 k vv h1 h2 h3 h4 h5 _ => by have ek : ka = k := (nI_eq (by omega) (by omega)).mp (hxka.symm.trans h4); subst ek; have ev2 : vva = vv := Option.some.inj (hsma.symm.trans h5); subst ev2; have et : kt = kt2 := (nI_eq (by omega) (by omega)).mp (hxt.symm.trans h2); subst et; exact ⟨fun z => absurd z hlt8, fun _ => ⟨rfl, _, _, by rw [hfx]; exact (hRg.new _ u20).up 8 (by omega) _, hgl, fun k hk => va_up_ne _ _ (by omega), hS0.f hgl _ _ ((hFL.mono hgl).put hrh9)⟩⟩⟩
          · refine lv_bipush (v := (-3)) hx hb d_SF_otherwise_40 (by decide) ?_
            have hbad : ¬ (¬ (¬ xt < 0 ∧ ¬ 10 ≤ xt) ∨ noF fl x ∨ gv < 0 ∨ ¬ gv ≤ 2) := fun z => z.elim (fun z => z hpl) (fun z => z.elim (fun z => absurd ((z ka hka hxka).symm.trans hsma) (by intro z; cases z)) (fun z => z.elim c16 (fun z => z c17)))
            exact m_iret hc hr hlk hw ⟨by first | decide | (dsimp only; omega), by first | decide | (dsimp only; omega)⟩ d_SF_otherwise_42 ⟨fun z => absurd z hbad, fun kt2 k vv h1 h2 h3 h4 h5 _ => by have ek : ka = k := (nI_eq (by omega) (by omega)).mp (hxka.symm.trans h4); subst ek; have ev2 : vva = vv := Option.some.inj (hsma.symm.trans h5); subst ev2; exact ⟨fun _ => ⟨rfl, ⟨E, g, hRg, gle.rf, fun _ _ => rfl, hS0⟩⟩, fun z => absurd (by rw [← egFa]; exact Int32.not_lt.mp c18) z⟩⟩
        · refine lv_iconst (v := (-1)) hx hb d_SF_otherwise_28 (by decide) ?_
          exact m_iret hc hr hlk hw ⟨by first | decide | (dsimp only; omega), by first | decide | (dsimp only; omega)⟩ d_SF_otherwise_29 ⟨fun _ => ⟨rfl, ⟨E, g, hRg, gle.rf, fun _ _ => rfl, hS0⟩⟩, fun kt k vv h1 h2 h3 h4 h5 => fun hr => absurd (Or.inr c17) hr⟩
