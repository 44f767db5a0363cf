/-! links of the pools, as the walks ask for them -/
theorem l_SF_30_SF : lnk "StreamFilters" 30 F_SF 4 2 := ⟨by decide, "StreamFilters", Or.inl rfl, Or.inl (tb 154 (by decide +kernel) rfl)⟩
theorem cw_SF_64 : cwk "StreamFilters" 64 y_Signs_takeAll b_Signs_takeAll 2 (some .int) 0 := ⟨Or.inl (tb 195 (by decide +kernel) rfl), (tb 198 (by decide +kernel) rfl), (tb 2 (by decide +kernel) rfl), by decide, by decide, by decide +kernel⟩
theorem cw_SF_70 : cwk "StreamFilters" 70 y_PieceReader_firstBroken b_PieceReader_firstBroken 3 (some .int) 0 := ⟨Or.inl (tb 206 (by decide +kernel) rfl), (tb 209 (by decide +kernel) rfl), (tb 4 (by decide +kernel) rfl), by decide, by decide, by decide +kernel⟩
theorem se_PieceReader_firstBroken : Cond.instanceMethod y_PieceReader_firstBroken ∈ TB ∧ Cond.selects "StreamFilters$PieceReader" y_PieceReader_firstBroken y_PieceReader_firstBroken ∈ TB := ⟨(tb 207 (by decide +kernel) rfl), (tb 208 (by decide +kernel) rfl)⟩
theorem se_Signs_takeAll : Cond.instanceMethod y_Signs_takeAll ∈ TB ∧ Cond.selects "StreamFilters$Signs" y_Signs_takeAll y_Signs_takeAll ∈ TB := ⟨(tb 196 (by decide +kernel) rfl), (tb 197 (by decide +kernel) rfl)⟩
/-! decode rows -/
theorem d_SF_clear_0 : decode b_SF_clear 0 = .ok (.aload_n 0, 1) := by decide +kernel
theorem d_SF_clear_1 : decode b_SF_clear 1 = .ok (.iload_n 1, 1) := by decide +kernel
theorem d_SF_clear_2 : decode b_SF_clear 2 = .ok (.invokevirtual 40, 3) := by decide +kernel
theorem d_SF_clear_5 : decode b_SF_clear 5 = .ok (.astore_n 2, 1) := by decide +kernel
theorem d_SF_clear_6 : decode b_SF_clear 6 = .ok (.aload_n 2, 1) := by decide +kernel
theorem d_SF_clear_7 : decode b_SF_clear 7 = .ok (.ifnonnull 7, 3) := by decide +kernel
theorem d_SF_clear_10 : decode b_SF_clear 10 = .ok (.iconst (-1), 1) := by decide +kernel
theorem d_SF_clear_11 : decode b_SF_clear 11 = .ok (.goto 7, 3) := by decide +kernel
theorem d_SF_clear_14 : decode b_SF_clear 14 = .ok (.aload_n 2, 1) := by decide +kernel
theorem d_SF_clear_15 : decode b_SF_clear 15 = .ok (.invokevirtual 64, 3) := by decide +kernel
theorem d_SF_clear_18 : decode b_SF_clear 18 = .ok (.ireturn, 1) := by decide +kernel
theorem d_SF_fault_0 : decode b_SF_fault 0 = .ok (.aload_n 0, 1) := by decide +kernel
theorem d_SF_fault_1 : decode b_SF_fault 1 = .ok (.getfield 30, 3) := by decide +kernel
theorem d_SF_fault_4 : decode b_SF_fault 4 = .ok (.invokevirtual 70, 3) := by decide +kernel
theorem d_SF_fault_7 : decode b_SF_fault 7 = .ok (.ireturn, 1) := by decide +kernel
set_option maxHeartbeats 4000000 in
set_option maxRecDepth 100000 in
/-- clear(x) -/
theorem c_SF_clear (G : GG) (l : Launch) (sz : Nat) (f : Wd) {N root pn nn mn : Nat} {ad : Nat → Nat} {E : Nat → va_E} {g : Wd} {pt nt mt : Nat → Int32} {dp rf by_ co tx lx : Int32} {fl : Nat → Option FV} (hN : 9 ≤ N) (hRg : Rg N ad E g f) (hS : SC G ad E g root pn pt nn nt mn mt dp rf by_ co tx lx fl) (x : Int32) : Ci G l y_SF_clear b_SF_clear 3 (some .int) ({ frames := 1, cells := 0, slots := 0, locals := 21 }) sz f [.ref root, .int x] (fun v f' => (x = 0 → v = nI pn ∧ SCR G N ad E g root f' 0 pt nn nt mn mt dp rf by_ co tx lx fl) ∧ (x = 1 → v = nI nn ∧ SCR G N ad E g root f' pn pt 0 nt mn mt dp rf by_ co tx lx fl) ∧ (x = 2 → v = nI mn ∧ SCR G N ad E g root f' pn pt nn nt 0 mt dp rf by_ co tx lx fl) ∧ (¬ x = 0 → ¬ x = 1 → ¬ x = 2 → v = -1 ∧ SCR G N ad E g root f' pn pt nn nt mn mt dp rf by_ co tx lx fl)) := by
  refine ct_of (by decide) (Nat.le_of_ble_eq_true rfl) ?_
  intro p e s m below meth c ls H locs hEn
  obtain ⟨hc, hr, hlk, hin, hE, hw, hsz, hl⟩ := hEn
  have hx := hc.1
  have hb := hc.2.1
  have hl : lv_has ls 3 [(0, .ref root), (1, .int x)] := hl
  have hS0 := hS
  obtain ⟨hroot, hPB, hNB, hMB, ⟨so, di, le, hQ⟩, ⟨fr, en, pi, li, nu, rj, sh, mf, me, nf, ne, hRd⟩, fa, hF8, hFL⟩ := hS
  obtain ⟨A0, eA0⟩ : ∃ z, z = ad 0 := ⟨_, rfl⟩
  obtain ⟨A1, eA1⟩ : ∃ z, z = ad 1 := ⟨_, rfl⟩
  obtain ⟨A2, eA2⟩ : ∃ z, z = ad 2 := ⟨_, rfl⟩
  obtain ⟨A3, eA3⟩ : ∃ z, z = ad 3 := ⟨_, rfl⟩
  obtain ⟨A4, eA4⟩ : ∃ z, z = ad 4 := ⟨_, rfl⟩
  obtain ⟨A5, eA5⟩ : ∃ z, z = ad 5 := ⟨_, rfl⟩
  obtain ⟨A6, eA6⟩ : ∃ z, z = ad 6 := ⟨_, rfl⟩
  obtain ⟨A7, eA7⟩ : ∃ z, z = ad 7 := ⟨_, rfl⟩
  obtain ⟨A8, eA8⟩ : ∃ z, z = ad 8 := ⟨_, rfl⟩
  have hgf := hRg.2.2.1
  have h0 : f root = some (.inr (0, [.ref A0, .ref A2, .ref A7, .ref A8])) := by rw [eA0, eA2, eA7, eA8]; exact hgf _ _ hroot
  have h2 : f A2 = some (.inr (2, [.ref A3, .ref A5, .int dp, .int rf, .int by_, .int so, .int di, .int le, .int co, .int tx, .int lx])) := by rw [eA2, eA3, eA5]; exact hRg.get 2 (by omega) hQ
  have h8 : f A8 = some (.inl (G.2.1 2, 10, .inr (.inr (.inr (.inr fa))))) := by rw [eA8]; exact hRg.get 8 (by omega) hF8
  have hsP : sg G f A0 A1 90 pn pt := by rw [eA0, eA1]; exact hPB.sg hRg (by omega) (by omega)
  have hsN : sg G f A3 A4 40 nn nt := by rw [eA3, eA4]; exact hNB.sg hRg (by omega) (by omega)
  have hsM : sg G f A5 A6 12 mn mt := by rw [eA5, eA6]; exact hMB.sg hRg (by omega) (by omega)
  refine lv_aload_n hx hb d_SF_clear_0 rfl (lv_at hl 0 rfl) ?_
  refine lv_iload_n hx hb d_SF_clear_1 rfl (lv_at hl 1 rfl) ?_
  refine m_callq hw (m_runV (As := [.int x]) (rest := []) hc hE hw (c_SF_bufferAt G l H.size f hN hRg hS0 x) h0 rfl cw_SF_40 se_SF_bufferAt rfl hl.1 rfl (Nat.le_of_ble_eq_true rfl) d_SF_clear_2 ⟨rfl, rfl, by decide, by decide⟩ ⟨by first | decide | (dsimp only; omega), by first | decide | (dsimp only; omega)⟩) (fun r3 g2 H locs p1 hw => ?_)
  obtain ⟨rfl, hbf⟩ := p1
  rcases hbf with ⟨hbx, hv⟩ | ⟨hbx, hv⟩ | ⟨hbx, hv⟩ | ⟨hx0, hx1, hx2, hv⟩
  · rw [← eA0] at hv; subst hv
    refine lv_astore_n (lv' := [(2, .ref A0), (0, .ref root), (1, .int x)]) hx hb d_SF_clear_5 rfl hl (by decide) rfl (fun ls hl => ?_)
    refine lv_aload_n hx hb d_SF_clear_6 rfl (lv_at hl 0 rfl) ?_
    refine lv_ifnonnull (tgt := 14) hx hb d_SF_clear_7 (by decide) ?_
    refine lv_aload_n hx hb d_SF_clear_14 rfl (lv_at hl 0 rfl) ?_
    refine m_calli hw (m_runV (As := []) (rest := []) hc hE hw (c_Signs_takeAll G l H.size f hsP) hsP.1 rfl cw_SF_64 se_Signs_takeAll rfl hl.1 rfl (Nat.le_of_ble_eq_true rfl) d_SF_clear_15 ⟨rfl, rfl, by decide, by decide⟩ ⟨by first | decide | (dsimp only; omega), by first | decide | (dsimp only; omega)⟩) (fun r6 g5 H locs p4 hw => ?_)
    obtain ⟨p4, hft⟩ := p4
    subst p4
    have hfx : g5 = va_up f (ad 0) (some (.inr (1, [.ref (ad 1), .int 0]))) := by rw [hft, eA0, eA1]
    have hsc : SCR G N ad E g root g5 0 pt nn nt mn mt dp rf by_ co tx lx fl := ⟨va_up E 0 (.inr (1, [.ref (ad 1), .int 0])), g, by rw [hfx]; exact hRg.up 0 (by omega) _, gle.rf, fun k hk => va_up_ne _ _ (by omega), hS0.p 0 pt ⟨rfl, hPB.2.1, Nat.zero_le _, fun j q => absurd q (Nat.not_lt_zero _)⟩ (fun k h1 h2 => va_up_ne _ _ h1)⟩
    exact m_iret hc hr hlk hw ⟨by first | decide | (dsimp only; omega), by first | decide | (dsimp only; omega)⟩ d_SF_clear_18 ⟨fun _ => ⟨rfl, hsc⟩, fun z => absurd (hbx.symm.trans z) (by decide), fun z => absurd (hbx.symm.trans z) (by decide), fun z0 z1 z2 => absurd hbx z0⟩
  · rw [← eA3] at hv; subst hv
    refine lv_astore_n (lv' := [(2, .ref A3), (0, .ref root), (1, .int x)]) hx hb d_SF_clear_5 rfl hl (by decide) rfl (fun ls hl => ?_)
    refine lv_aload_n hx hb d_SF_clear_6 rfl (lv_at hl 0 rfl) ?_
    refine lv_ifnonnull (tgt := 14) hx hb d_SF_clear_7 (by decide) ?_
    refine lv_aload_n hx hb d_SF_clear_14 rfl (lv_at hl 0 rfl) ?_
    refine m_calli hw (m_runV (As := []) (rest := []) hc hE hw (c_Signs_takeAll G l H.size f hsN) hsN.1 rfl cw_SF_64 se_Signs_takeAll rfl hl.1 rfl (Nat.le_of_ble_eq_true rfl) d_SF_clear_15 ⟨rfl, rfl, by decide, by decide⟩ ⟨by first | decide | (dsimp only; omega), by first | decide | (dsimp only; omega)⟩) (fun r9 g8 H locs p7 hw => ?_)
    obtain ⟨p7, hft⟩ := p7
    subst p7
    have hfx : g8 = va_up f (ad 3) (some (.inr (1, [.ref (ad 4), .int 0]))) := by rw [hft, eA3, eA4]
    have hsc : SCR G N ad E g root g8 pn pt 0 nt mn mt dp rf by_ co tx lx fl := ⟨va_up E 3 (.inr (1, [.ref (ad 4), .int 0])), g, by rw [hfx]; exact hRg.up 3 (by omega) _, gle.rf, fun k hk => va_up_ne _ _ (by omega), hS0.n 0 nt ⟨rfl, hNB.2.1, Nat.zero_le _, fun j q => absurd q (Nat.not_lt_zero _)⟩ (fun k h1 h2 => va_up_ne _ _ h1)⟩
    exact m_iret hc hr hlk hw ⟨by first | decide | (dsimp only; omega), by first | decide | (dsimp only; omega)⟩ d_SF_clear_18 ⟨fun z => absurd (hbx.symm.trans z) (by decide), fun _ => ⟨rfl, hsc⟩, fun z => absurd (hbx.symm.trans z) (by decide), fun z0 z1 z2 => absurd hbx z1⟩
  · rw [← eA5] at hv; subst hv
    refine lv_astore_n (lv' := [(2, .ref A5), (0, .ref root), (1, .int x)]) hx hb d_SF_clear_5 rfl hl (by decide) rfl (fun ls hl => ?_)
    refine lv_aload_n hx hb d_SF_clear_6 rfl (lv_at hl 0 rfl) ?_
    refine lv_ifnonnull (tgt := 14) hx hb d_SF_clear_7 (by decide) ?_
    refine lv_aload_n hx hb d_SF_clear_14 rfl (lv_at hl 0 rfl) ?_
    refine m_calli hw (m_runV (As := []) (rest := []) hc hE hw (c_Signs_takeAll G l H.size f hsM) hsM.1 rfl cw_SF_64 se_Signs_takeAll rfl hl.1 rfl (Nat.le_of_ble_eq_true rfl) d_SF_clear_15 ⟨rfl, rfl, by decide, by decide⟩ ⟨by first | decide | (dsimp only; omega), by first | decide | (dsimp only; omega)⟩) (fun r12 g11 H locs p10 hw => ?_)
    obtain ⟨p10, hft⟩ := p10
    subst p10
    have hfx : g11 = va_up f (ad 5) (some (.inr (1, [.ref (ad 6), .int 0]))) := by rw [hft, eA5, eA6]
    have hsc : SCR G N ad E g root g11 pn pt nn nt 0 mt dp rf by_ co tx lx fl := ⟨va_up E 5 (.inr (1, [.ref (ad 6), .int 0])), g, by rw [hfx]; exact hRg.up 5 (by omega) _, gle.rf, fun k hk => va_up_ne _ _ (by omega), hS0.m 0 mt ⟨rfl, hMB.2.1, Nat.zero_le _, fun j q => absurd q (Nat.not_lt_zero _)⟩ (fun k h1 h2 => va_up_ne _ _ h1)⟩
    exact m_iret hc hr hlk hw ⟨by first | decide | (dsimp only; omega), by first | decide | (dsimp only; omega)⟩ d_SF_clear_18 ⟨fun z => absurd (hbx.symm.trans z) (by decide), fun z => absurd (hbx.symm.trans z) (by decide), fun _ => ⟨rfl, hsc⟩, fun z0 z1 z2 => absurd hbx z2⟩
  · subst hv
    refine lv_astore_nN (lv' := [(2, .null), (0, .ref root), (1, .int x)]) hx hb d_SF_clear_5 rfl hl (by decide) rfl (fun ls hl => ?_)
    refine lv_aload_nN hx hb d_SF_clear_6 rfl (lv_at hl 0 rfl) ?_
    refine lv_ifnonnullN hx hb d_SF_clear_7 ?_
    refine lv_iconst (v := (-1)) hx hb d_SF_clear_10 (by decide) ?_
    refine lv_goto (tgt := 18) hx hb d_SF_clear_11 (by decide) ?_
    exact m_iret hc hr hlk hw ⟨by first | decide | (dsimp only; omega), by first | decide | (dsimp only; omega)⟩ d_SF_clear_18 ⟨fun z => absurd z hx0, fun z => absurd z hx1, fun z => absurd z hx2, fun _ _ _ => ⟨rfl, ⟨E, g, hRg, gle.rf, fun _ _ => rfl, hS0⟩⟩⟩

set_option maxHeartbeats 4000000 in
set_option maxRecDepth 100000 in
/-- fault() -/
theorem c_SF_fault (G : GG) (l : Launch) (sz : Nat) (f : Wd) {N root pn nn mn : Nat} {ad : Nat → Nat} {E : Nat → va_E} {g : Wd} {pt nt mt : Nat → Int32} {dp rf by_ co tx lx : Int32} {fl : Nat → Option FV} (hN : 9 ≤ N) (hRg : Rg N ad E g f) (hS : SC G ad E g root pn pt nn nt mn mt dp rf by_ co tx lx fl) : Ci G l y_SF_fault b_SF_fault 1 (some .int) ({ frames := 9, cells := 0, slots := 0, locals := 196 }) sz f [.ref root] (fun v f' => v = fbk pt pn (npc pt pn) 0 ∧ SCR G N ad E g root f' pn pt nn nt mn mt dp rf by_ co tx lx fl) := by
  refine ct_of (by decide) (Nat.le_of_ble_eq_true rfl) ?_
  intro p e s m below meth c ls H locs hEn
  obtain ⟨hc, hr, hlk, hin, hE, hw, hsz, hl⟩ := hEn
  have hx := hc.1
  have hb := hc.2.1
  have hl : lv_has ls 1 [(0, .ref root)] := hl
  have hS0 := hS
  obtain ⟨hroot, hPB, hNB, hMB, ⟨so, di, le, hQ⟩, ⟨fr, en, pi, li, nu, rj, sh, mf, me, nf, ne, hRd⟩, fa, hF8, hFL⟩ := hS
  obtain ⟨A0, eA0⟩ : ∃ z, z = ad 0 := ⟨_, rfl⟩
  obtain ⟨A1, eA1⟩ : ∃ z, z = ad 1 := ⟨_, rfl⟩
  obtain ⟨A2, eA2⟩ : ∃ z, z = ad 2 := ⟨_, rfl⟩
  obtain ⟨A3, eA3⟩ : ∃ z, z = ad 3 := ⟨_, rfl⟩
  obtain ⟨A4, eA4⟩ : ∃ z, z = ad 4 := ⟨_, rfl⟩
  obtain ⟨A5, eA5⟩ : ∃ z, z = ad 5 := ⟨_, rfl⟩
  obtain ⟨A6, eA6⟩ : ∃ z, z = ad 6 := ⟨_, rfl⟩
  obtain ⟨A7, eA7⟩ : ∃ z, z = ad 7 := ⟨_, rfl⟩
  obtain ⟨A8, eA8⟩ : ∃ z, z = ad 8 := ⟨_, rfl⟩
  have hgf := hRg.2.2.1
  have h0 : f root = some (.inr (0, [.ref A0, .ref A2, .ref A7, .ref A8])) := by rw [eA0, eA2, eA7, eA8]; exact hgf _ _ hroot
  have h2 : f A2 = some (.inr (2, [.ref A3, .ref A5, .int dp, .int rf, .int by_, .int so, .int di, .int le, .int co, .int tx, .int lx])) := by rw [eA2, eA3, eA5]; exact hRg.get 2 (by omega) hQ
  have h8 : f A8 = some (.inl (G.2.1 2, 10, .inr (.inr (.inr (.inr fa))))) := by rw [eA8]; exact hRg.get 8 (by omega) hF8
  have hsP : sg G f A0 A1 90 pn pt := by rw [eA0, eA1]; exact hPB.sg hRg (by omega) (by omega)
  have hsN : sg G f A3 A4 40 nn nt := by rw [eA3, eA4]; exact hNB.sg hRg (by omega) (by omega)
  have hsM : sg G f A5 A6 12 mn mt := by rw [eA5, eA6]; exact hMB.sg hRg (by omega) (by omega)
  have h7 : f A7 = some (.inr (3, [.ref A0, .int fr, .int en, .int pi, .int li, .int nu, .int rj, .int sh, .int mf, .int me, .int nf, .int ne])) := by rw [eA7, eA0]; exact hRg.get 7 (by omega) hRd
  refine lv_aload_n hx hb d_SF_fault_0 rfl (lv_at hl 0 rfl) ?_
  refine m_get hc hE hw h0 kc_SF l_SF_30_SF rfl d_SF_fault_1 ?_
  refine m_calli hw (m_runV (As := []) (rest := []) hc hE hw (c_PieceReader_firstBroken G l H.size f h7 hsP) h7 rfl cw_SF_70 se_PieceReader_firstBroken rfl hl.1 rfl (Nat.le_of_ble_eq_true rfl) d_SF_fault_4 ⟨rfl, rfl, by decide, by decide⟩ ⟨by first | decide | (dsimp only; omega), by first | decide | (dsimp only; omega)⟩) (fun r3 g2 H locs p1 hw => ?_)
  obtain ⟨fr2, en2, pi2, li2, nu2, rj2, sh2, mf2, me2, nf2, ne2, hff, p1⟩ := p1
  have hfx : g2 = va_up f (ad 7) (some (.inr (3, [.ref (ad 0), .int fr2, .int en2, .int pi2, .int li2, .int nu2, .int rj2, .int sh2, .int mf2, .int me2, .int nf2, .int ne2]))) := by rw [hff, eA7, eA0]
  exact m_iret hc hr hlk hw ⟨by first | decide | (dsimp only; omega), by first | decide | (dsimp only; omega)⟩ d_SF_fault_7 ⟨p1, _, g, by rw [hfx]; exact hRg.up 7 (by omega) _, gle.rf, fun k hk => va_up_ne _ _ (by omega), hS0.r fr2 en2 pi2 li2 nu2 rj2 sh2 mf2 me2 nf2 ne2⟩
