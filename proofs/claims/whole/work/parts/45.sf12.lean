/-! links of the pools, as the walks ask for them -/
theorem cw_SF_132 : cwk "StreamFilters" 132 y_SF_isQuestion b_SF_isQuestion 2 (some .boolean) 2 := ⟨Or.inl (tb 503 (by decide +kernel) rfl), (tb 505 (by decide +kernel) rfl), (tb 1 (by decide +kernel) rfl), by decide, by decide, by decide +kernel⟩
theorem cw_SF_136 : cwk "StreamFilters" 136 y_Question_begin b_Question_begin 4 none 3 := ⟨Or.inl (tb 506 (by decide +kernel) rfl), (tb 509 (by decide +kernel) rfl), (tb 3 (by decide +kernel) rfl), by decide, by decide, by decide +kernel⟩
theorem se_Question_begin : Cond.instanceMethod y_Question_begin ∈ TB ∧ Cond.selects "StreamFilters$Question" y_Question_begin y_Question_begin ∈ TB := ⟨(tb 507 (by decide +kernel) rfl), (tb 508 (by decide +kernel) rfl)⟩
theorem ss_SF_isQuestion : Cond.static y_SF_isQuestion ∈ TB := (tb 504 (by decide +kernel) rfl)
theorem al_SF_140 : Cond.methodLink "StreamFilters" 140 y_Filter_answer ∈ TB := (tb 510 (by decide +kernel) rfl)
/-! decode rows -/
theorem d_SF_ask_0 : decode b_SF_ask 0 = .ok (.aload_n 0, 1) := by decide +kernel
theorem d_SF_ask_1 : decode b_SF_ask 1 = .ok (.iload_n 1, 1) := by decide +kernel
theorem d_SF_ask_2 : decode b_SF_ask 2 = .ok (.invokevirtual 82, 3) := by decide +kernel
theorem d_SF_ask_5 : decode b_SF_ask 5 = .ok (.astore 5, 2) := by decide +kernel
theorem d_SF_ask_7 : decode b_SF_ask 7 = .ok (.aload 5, 2) := by decide +kernel
theorem d_SF_ask_9 : decode b_SF_ask 9 = .ok (.ifnull 11, 3) := by decide +kernel
theorem d_SF_ask_12 : decode b_SF_ask 12 = .ok (.iload_n 2, 1) := by decide +kernel
theorem d_SF_ask_13 : decode b_SF_ask 13 = .ok (.iload_n 3, 1) := by decide +kernel
theorem d_SF_ask_14 : decode b_SF_ask 14 = .ok (.invokestatic 132, 3) := by decide +kernel
theorem d_SF_ask_17 : decode b_SF_ask 17 = .ok (.ifCond .ne 5, 3) := by decide +kernel
theorem d_SF_ask_20 : decode b_SF_ask 20 = .ok (.iconst (-1), 1) := by decide +kernel
theorem d_SF_ask_21 : decode b_SF_ask 21 = .ok (.ireturn, 1) := by decide +kernel
theorem d_SF_ask_22 : decode b_SF_ask 22 = .ok (.aload_n 0, 1) := by decide +kernel
theorem d_SF_ask_23 : decode b_SF_ask 23 = .ok (.getfield 21, 3) := by decide +kernel
theorem d_SF_ask_26 : decode b_SF_ask 26 = .ok (.iload_n 2, 1) := by decide +kernel
theorem d_SF_ask_27 : decode b_SF_ask 27 = .ok (.iload_n 3, 1) := by decide +kernel
theorem d_SF_ask_28 : decode b_SF_ask 28 = .ok (.iload 4, 2) := by decide +kernel
theorem d_SF_ask_30 : decode b_SF_ask 30 = .ok (.invokevirtual 136, 3) := by decide +kernel
theorem d_SF_ask_33 : decode b_SF_ask 33 = .ok (.aload 5, 2) := by decide +kernel
theorem d_SF_ask_35 : decode b_SF_ask 35 = .ok (.aload_n 0, 1) := by decide +kernel
theorem d_SF_ask_36 : decode b_SF_ask 36 = .ok (.getfield 21, 3) := by decide +kernel
theorem d_SF_ask_39 : decode b_SF_ask 39 = .ok (.invokevirtual 140, 3) := by decide +kernel
theorem d_SF_ask_42 : decode b_SF_ask 42 = .ok (.ireturn, 1) := by decide +kernel
set_option maxHeartbeats 4000000 in
set_option maxRecDepth 100000 in
/-- ask(x, so1, di1, le1) -/
theorem c_SF_ask (G : GG) (l : Launch) (sz : Nat) (f : Wd) {N root pn nn mn : Nat} {ad : Nat → Nat} {E : Nat → va_E} {g : Wd} {pt nt mt : Nat → Int32} {dp rf by_ co tx lx : Int32} {fl : Nat → Option FV} (hN : 9 ≤ N) (hRg : Rg N ad E g f) (hS : SC G ad E g root pn pt nn nt mn mt dp rf by_ co tx lx fl) (x so1 di1 le1 : Int32) : Ci G l y_SF_ask b_SF_ask 6 (some .int) ({ frames := 14, cells := 0, slots := 0, locals := 381 }) sz f [.ref root, .int x, .int so1, .int di1, .int le1] (fun v f' => (noF fl x ∨ ¬ isQ so1 di1 → v = -1 ∧ SCR G N ad E g root f' pn pt nn nt mn mt dp rf by_ co tx lx fl) ∧ ∀ (k : Nat) (vv : FV), k < 10 → x = nI k → fl k = some vv → isQ so1 di1 → v = (vv.2.2.2.1 (nn, nt, mn, mt, dp, rf, by_, so1, di1, le1) (0, 0, -2)).1 ∧ SCR G N ad E g root f' pn pt nn nt mn mt dp rf by_ ((vv.2.2.2.1 (nn, nt, mn, mt, dp, rf, by_, so1, di1, le1) (0, 0, -2)).2.1) ((vv.2.2.2.1 (nn, nt, mn, mt, dp, rf, by_, so1, di1, le1) (0, 0, -2)).2.2.1) ((vv.2.2.2.1 (nn, nt, mn, mt, dp, rf, by_, so1, di1, le1) (0, 0, -2)).2.2.2) fl) := by
  refine ct_of (by decide) (Nat.le_of_ble_eq_true rfl) ?_
  intro p e s m below meth c ls H locs hEn
  obtain ⟨hc, hr, hlk, hin, hE, hw, hsz, hl⟩ := hEn
  have hx := hc.1
  have hb := hc.2.1
  have hl : lv_has ls 6 [(0, .ref root), (1, .int x), (2, .int so1), (3, .int di1), (4, .int le1)] := hl
  have hS0 := hS
  obtain ⟨hroot, hPB, hNB, hMB, ⟨so, di, le, hQ⟩, ⟨fr, en, pi, li, nu, rj, sh, mf, me, nf, ne, hRd⟩, fa, hF8, hFL⟩ := hS
  obtain ⟨A0, eA0⟩ : ∃ z, z = ad 0 := ⟨_, rfl⟩
  obtain ⟨A1, eA1⟩ : ∃ z, z = ad 1 := ⟨_, rfl⟩
  obtain ⟨A2, eA2⟩ : ∃ z, z = ad 2 := ⟨_, rfl⟩
  obtain ⟨A3, eA3⟩ : ∃ z, z = ad 3 := ⟨_, rfl⟩
  obtain ⟨A4, eA4⟩ : ∃ z, z = ad 4 := ⟨_, rfl⟩
  obtain ⟨A5, eA5⟩ : ∃ z, z = ad 5 := ⟨_, rfl⟩
  obtain ⟨A6, eA6⟩ : ∃ z, z = ad 6 := ⟨_, rfl⟩
  obtain ⟨A7, eA7⟩ : ∃ z, z = ad 7 := ⟨_, rfl⟩
  obtain ⟨A8, eA8⟩ : ∃ z, z = ad 8 := ⟨_, rfl⟩
  have hgf := hRg.2.2.1
  have h0 : f root = some (.inr (0, [.ref A0, .ref A2, .ref A7, .ref A8])) := by rw [eA0, eA2, eA7, eA8]; exact hgf _ _ hroot
  have h2 : f A2 = some (.inr (2, [.ref A3, .ref A5, .int dp, .int rf, .int by_, .int so, .int di, .int le, .int co, .int tx, .int lx])) := by rw [eA2, eA3, eA5]; exact hRg.get 2 (by omega) hQ
  have h8 : f A8 = some (.inl (G.2.1 2, 10, .inr (.inr (.inr (.inr fa))))) := by rw [eA8]; exact hRg.get 8 (by omega) hF8
  have hsP : sg G f A0 A1 90 pn pt := by rw [eA0, eA1]; exact hPB.sg hRg (by omega) (by omega)
  have hsN : sg G f A3 A4 40 nn nt := by rw [eA3, eA4]; exact hNB.sg hRg (by omega) (by omega)
  have hsM : sg G f A5 A6 12 mn mt := by rw [eA5, eA6]; exact hMB.sg hRg (by omega) (by omega)
  refine lv_aload_n hx hb d_SF_ask_0 rfl (lv_at hl 0 rfl) ?_
  refine lv_iload_n hx hb d_SF_ask_1 rfl (lv_at hl 1 rfl) ?_
  refine m_callq hw (m_runV (As := [.int x]) (rest := []) hc hE hw (c_SF_filterAt G l H.size f hN hRg hS0 x) h0 rfl cw_SF_82 se_SF_filterAt rfl hl.1 rfl (Nat.le_of_ble_eq_true rfl) d_SF_ask_2 ⟨rfl, rfl, by decide, by decide⟩ ⟨by first | decide | (dsimp only; omega), by first | decide | (dsimp only; omega)⟩) (fun r3 g2 H locs p1 hw => ?_)
  obtain ⟨rfl, hfla⟩ := p1
  rcases hfla with ⟨hnoa, hva⟩ | ⟨ka, hka, hxka, ⟨hva, hnna⟩ | ⟨Fa, vva, hva, hsma, hrha⟩⟩
  · subst hva
    have hnfa : noF fl x := noF_out hnoa
    refine lv_astoreN (lv' := [(5, .null), (0, .ref root), (1, .int x), (2, .int so1), (3, .int di1), (4, .int le1)]) hx hb d_SF_ask_5 hl (by decide) rfl (fun ls hl => ?_)
    refine lv_aloadN hx hb d_SF_ask_7 (lv_at hl 0 rfl) ?_
    refine lv_ifnullN (tgt := 20) hx hb d_SF_ask_9 (by decide) ?_
    refine lv_iconst (v := (-1)) hx hb d_SF_ask_20 (by decide) ?_
    exact m_iret hc hr hlk hw ⟨by first | decide | (dsimp only; omega), by first | decide | (dsimp only; omega)⟩ d_SF_ask_21 ⟨fun _ => ⟨rfl, ⟨E, g, hRg, gle.rf, fun _ _ => rfl, hS0⟩⟩, fun k vv h1 h2 h3 => absurd ((hnfa k h1 h2).symm.trans h3) (by intro z; cases z)⟩
  · subst hva
    have hnfa : noF fl x := noF_in hka hxka hnna
    refine lv_astoreN (lv' := [(5, .null), (0, .ref root), (1, .int x), (2, .int so1), (3, .int di1), (4, .int le1)]) hx hb d_SF_ask_5 hl (by decide) rfl (fun ls hl => ?_)
    refine lv_aloadN hx hb d_SF_ask_7 (lv_at hl 0 rfl) ?_
    refine lv_ifnullN (tgt := 20) hx hb d_SF_ask_9 (by decide) ?_
    refine lv_iconst (v := (-1)) hx hb d_SF_ask_20 (by decide) ?_
    exact m_iret hc hr hlk hw ⟨by first | decide | (dsimp only; omega), by first | decide | (dsimp only; omega)⟩ d_SF_ask_21 ⟨fun _ => ⟨rfl, ⟨E, g, hRg, gle.rf, fun _ _ => rfl, hS0⟩⟩, fun k vv h1 h2 h3 => absurd ((hnfa k h1 h2).symm.trans h3) (by intro z; cases z)⟩
  · subst hva
    have hrhab := hrha
    obtain ⟨l0a, h0a, hl0a, hh0a, hl1a, hl2a, hh1a, hh2a, hrfa⟩ := hrha
    obtain ⟨cFa, rFa, fcFa, hcFa⟩ := RF.head hrfa
    obtain ⟨kFa, ekFa⟩ : ∃ z, z = vva.1 := ⟨_, rfl⟩
    obtain ⟨lFa, elFa⟩ : ∃ z, z = vva.2.1 := ⟨_, rfl⟩
    obtain ⟨gFa, egFa⟩ : ∃ z, z = vva.2.2.1 := ⟨_, rfl⟩
    have hcella : f Fa = some (.inr (cFa, .int kFa :: .int lFa :: .int gFa :: rFa)) := by rw [ekFa, elFa, egFa]; exact hgf _ _ hcFa
    refine lv_astore (lv' := [(5, .ref Fa), (0, .ref root), (1, .int x), (2, .int so1), (3, .int di1), (4, .int le1)]) hx hb d_SF_ask_5 hl (by decide) rfl (fun ls hl => ?_)
    refine lv_aload hx hb d_SF_ask_7 (lv_at hl 0 rfl) ?_
    refine lv_ifnull hx hb d_SF_ask_9 ?_
    refine lv_iload_n hx hb d_SF_ask_12 rfl (lv_at hl 3 rfl) ?_
    refine lv_iload_n hx hb d_SF_ask_13 rfl (lv_at hl 4 rfl) ?_
    refine m_calli hw (m_runS (As := [.int so1, .int di1]) (rest := []) hc hE hw (c_SF_isQuestion G l H.size f so1 di1) cw_SF_132 ss_SF_isQuestion rfl hl.1 rfl (Nat.le_of_ble_eq_true rfl) d_SF_ask_14 ⟨rfl, rfl, by decide, by decide⟩ ⟨by first | decide | (dsimp only; omega), by first | decide | (dsimp only; omega)⟩) (fun r6 g5 H locs p4 hw => ?_)
    obtain ⟨rfl, p4⟩ := p4
    refine lv_if_ne (tgt := 22) hx hb d_SF_ask_17 (by decide) (fun c7 => ?_) (fun c7 => ?_)
    · have hnq : g A2 = none := by rw [eA2]; exact hRg.2.2.2 2 (by omega)
      have hiq : isQ so1 di1 := bI_n.mp (fun z => c7 (p4.trans z))
      refine lv_aload_n hx hb d_SF_ask_22 rfl (lv_at hl 1 rfl) ?_
      refine m_get hc hE hw h0 kc_SF l_SF_21_SF rfl d_SF_ask_23 ?_
      refine lv_iload_n hx hb d_SF_ask_26 rfl (lv_at hl 3 rfl) ?_
      refine lv_iload_n hx hb d_SF_ask_27 rfl (lv_at hl 4 rfl) ?_
      refine lv_iload hx hb d_SF_ask_28 (lv_at hl 5 rfl) ?_
      refine m_callv hw (m_runV (As := [.int so1, .int di1, .int le1]) (rest := []) hc hE hw (c_Question_begin G l H.size f h2 so1 di1 le1) h2 rfl cw_SF_136 se_Question_begin rfl hl.1 rfl (Nat.le_of_ble_eq_true rfl) d_SF_ask_30 ⟨rfl, rfl, by decide, by decide⟩ ⟨by first | decide | (dsimp only; omega), by first | decide | (dsimp only; omega)⟩) (fun g9 H locs p8 hw => ?_)
      have hsN2 := sg_up (e := .inr (2, [.ref A3, .ref A5, .int dp, .int rf, .int by_, .int so1, .int di1, .int le1, .int 0, .int 0, .int (-2)])) hsN h2 wd_x
      have hsM2 := sg_up (e := .inr (2, [.ref A3, .ref A5, .int dp, .int rf, .int by_, .int so1, .int di1, .int le1, .int 0, .int 0, .int (-2)])) hsM h2 wd_x
      rw [← p8] at hsN2 hsM2
      have hgf2 : gle g g9 := by rw [p8]; exact hgf.upf hnq
      have h10 : g9 root = some (.inr (0, [.ref A0, .ref A2, .ref A7, .ref A8])) := by rw [p8, va_up_ne _ _ (wne h0 h2 (wd_oo (by decide)))]; exact h0
      have h11 : g9 A2 = some (.inr (2, [.ref A3, .ref A5, .int dp, .int rf, .int by_, .int so1, .int di1, .int le1, .int 0, .int 0, .int (-2)])) := by rw [p8, va_up_self]
      refine lv_aload hx hb d_SF_ask_33 (lv_at hl 0 rfl) ?_
      refine lv_aload_n hx hb d_SF_ask_35 rfl (lv_at hl 1 rfl) ?_
      refine m_get hc hE hw h10 kc_SF l_SF_21_SF rfl d_SF_ask_36 ?_
      refine m_calli hw (run_ans (rest := []) (fun d' _ => ans_all G l d') hc hE hw hrfa ⟨h11, hsN2, hsM2⟩ hgf2 hnq al_SF_140 hl.1 (Nat.le_of_ble_eq_true rfl) d_SF_ask_39 ⟨by dsimp only; omega, by dsimp only; omega⟩ ⟨by decide, by decide⟩) (fun r14 g13 H locs p12 hw => ?_)
      obtain ⟨p12, hfa9⟩ := p12
      have hfx : g13 = va_up f (ad 2) (some (.inr (2, [.ref (ad 3), .ref (ad 5), .int dp, .int rf, .int by_, .int so1, .int di1, .int le1, .int ((vva.2.2.2.1 (nn, nt, mn, mt, dp, rf, by_, so1, di1, le1) (0, 0, -2)).2.1), .int ((vva.2.2.2.1 (nn, nt, mn, mt, dp, rf, by_, so1, di1, le1) (0, 0, -2)).2.2.1), .int ((vva.2.2.2.1 (nn, nt, mn, mt, dp, rf, by_, so1, di1, le1) (0, 0, -2)).2.2.2)]))) := by rw [hfa9, p8, up_uu, eA2, eA3, eA5]
      exact m_iret hc hr hlk hw ⟨by first | decide | (dsimp only; omega), by first | decide | (dsimp only; omega)⟩ d_SF_ask_42 ⟨fun z => z.elim (fun z => absurd ((z ka hka hxka).symm.trans hsma) (by intro z; cases z)) (fun z => absurd hiq z), fun k vv h1 h2 h3 h4 => by have ek : ka = k := (nI_eq (by omega) (by omega)).mp (hxka.symm.trans h2); subst ek; have ev2 : vva = vv := Option.some.inj (hsma.symm.trans h3); subst ev2; exact ⟨p12, _, g, by rw [hfx]; exact hRg.up 2 (by omega) _, gle.rf, fun k hk => va_up_ne _ _ (by omega), hS0.q dp rf by_ so1 di1 le1 _ _ _⟩⟩
    · refine lv_iconst (v := (-1)) hx hb d_SF_ask_20 (by decide) ?_
      exact m_iret hc hr hlk hw ⟨by first | decide | (dsimp only; omega), by first | decide | (dsimp only; omega)⟩ d_SF_ask_21 ⟨fun _ => ⟨rfl, ⟨E, g, hRg, gle.rf, fun _ _ => rfl, hS0⟩⟩, fun k vv h1 h2 h3 h4 => absurd h4 (bI_0.mp (p4.symm.trans c7))⟩
