/-! links of the pools, as the walks ask for them -/
theorem cw_SF_82 : cwk "StreamFilters" 82 y_SF_filterAt b_SF_filterAt 2 (some (.object "StreamFilters$Filter")) 1 := ⟨Or.inl (tb 408 (by decide +kernel) rfl), (tb 411 (by decide +kernel) rfl), (tb 1 (by decide +kernel) rfl), by decide, by decide, by decide +kernel⟩
theorem se_SF_filterAt : Cond.instanceMethod y_SF_filterAt ∈ TB ∧ Cond.selects "StreamFilters" y_SF_filterAt y_SF_filterAt ∈ TB := ⟨(tb 410 (by decide +kernel) rfl), (tbs 9 (by decide +kernel) rfl)⟩
/-! decode rows -/
theorem d_SF_drop_0 : decode b_SF_drop 0 = .ok (.aload_n 0, 1) := by decide +kernel
theorem d_SF_drop_1 : decode b_SF_drop 1 = .ok (.iload_n 1, 1) := by decide +kernel
theorem d_SF_drop_2 : decode b_SF_drop 2 = .ok (.invokevirtual 82, 3) := by decide +kernel
theorem d_SF_drop_5 : decode b_SF_drop 5 = .ok (.ifnonnull 5, 3) := by decide +kernel
theorem d_SF_drop_8 : decode b_SF_drop 8 = .ok (.iconst (-1), 1) := by decide +kernel
theorem d_SF_drop_9 : decode b_SF_drop 9 = .ok (.ireturn, 1) := by decide +kernel
theorem d_SF_drop_10 : decode b_SF_drop 10 = .ok (.aload_n 0, 1) := by decide +kernel
theorem d_SF_drop_11 : decode b_SF_drop 11 = .ok (.getfield 36, 3) := by decide +kernel
theorem d_SF_drop_14 : decode b_SF_drop 14 = .ok (.iload_n 1, 1) := by decide +kernel
theorem d_SF_drop_15 : decode b_SF_drop 15 = .ok (.aconst_null, 1) := by decide +kernel
theorem d_SF_drop_16 : decode b_SF_drop 16 = .ok (.aastore, 1) := by decide +kernel
theorem d_SF_drop_17 : decode b_SF_drop 17 = .ok (.iconst 0, 1) := by decide +kernel
theorem d_SF_drop_18 : decode b_SF_drop 18 = .ok (.ireturn, 1) := by decide +kernel
set_option maxHeartbeats 4000000 in
set_option maxRecDepth 100000 in
/-- drop(x) -/
theorem c_SF_drop (G : GG) (l : Launch) (sz : Nat) (f : Wd) {N root pn nn mn : Nat} {ad : Nat → Nat} {E : Nat → va_E} {g : Wd} {pt nt mt : Nat → Int32} {dp rf by_ co tx lx : Int32} {fl : Nat → Option FV} (hN : 9 ≤ N) (hRg : Rg N ad E g f) (hS : SC G ad E g root pn pt nn nt mn mt dp rf by_ co tx lx fl) (x : Int32) : Ci G l y_SF_drop b_SF_drop 2 (some .int) ({ frames := 2, cells := 0, slots := 0, locals := 41 }) sz f [.ref root, .int x] (fun v f' => (noF fl x → v = -1 ∧ SCR G N ad E g root f' pn pt nn nt mn mt dp rf by_ co tx lx fl) ∧ ∀ (k : Nat) (vv : FV), k < 10 → x = nI k → fl k = some vv → v = 0 ∧ SCR G N ad E g root f' pn pt nn nt mn mt dp rf by_ co tx lx (va_up fl k none)) := by
  refine ct_of (by decide) (Nat.le_of_ble_eq_true rfl) ?_
  intro p e s m below meth c ls H locs hEn
  obtain ⟨hc, hr, hlk, hin, hE, hw, hsz, hl⟩ := hEn
  have hx := hc.1
  have hb := hc.2.1
  have hl : lv_has ls 2 [(0, .ref root), (1, .int x)] := hl
  have hS0 := hS
  obtain ⟨hroot, hPB, hNB, hMB, ⟨so, di, le, hQ⟩, ⟨fr, en, pi, li, nu, rj, sh, mf, me, nf, ne, hRd⟩, fa, hF8, hFL⟩ := hS
  obtain ⟨A0, eA0⟩ : ∃ z, z = ad 0 := ⟨_, rfl⟩
  obtain ⟨A1, eA1⟩ : ∃ z, z = ad 1 := ⟨_, rfl⟩
  obtain ⟨A2, eA2⟩ : ∃ z, z = ad 2 := ⟨_, rfl⟩
  obtain ⟨A3, eA3⟩ : ∃ z, z = ad 3 := ⟨_, rfl⟩
  obtain ⟨A4, eA4⟩ : ∃ z, z = ad 4 := ⟨_, rfl⟩
  obtain ⟨A5, eA5⟩ : ∃ z, z = ad 5 := ⟨_, rfl⟩
  obtain ⟨A6, eA6⟩ : ∃ z, z = ad 6 := ⟨_, rfl⟩
  obtain ⟨A7, eA7⟩ : ∃ z, z = ad 7 := ⟨_, rfl⟩
  obtain ⟨A8, eA8⟩ : ∃ z, z = ad 8 := ⟨_, rfl⟩
  have hgf := hRg.2.2.1
  have h0 : f root = some (.inr (0, [.ref A0, .ref A2, .ref A7, .ref A8])) := by rw [eA0, eA2, eA7, eA8]; exact hgf _ _ hroot
  have h2 : f A2 = some (.inr (2, [.ref A3, .ref A5, .int dp, .int rf, .int by_, .int so, .int di, .int le, .int co, .int tx, .int lx])) := by rw [eA2, eA3, eA5]; exact hRg.get 2 (by omega) hQ
  have h8 : f A8 = some (.inl (G.2.1 2, 10, .inr (.inr (.inr (.inr fa))))) := by rw [eA8]; exact hRg.get 8 (by omega) hF8
  have hsP : sg G f A0 A1 90 pn pt := by rw [eA0, eA1]; exact hPB.sg hRg (by omega) (by omega)
  have hsN : sg G f A3 A4 40 nn nt := by rw [eA3, eA4]; exact hNB.sg hRg (by omega) (by omega)
  have hsM : sg G f A5 A6 12 mn mt := by rw [eA5, eA6]; exact hMB.sg hRg (by omega) (by omega)
  refine lv_aload_n hx hb d_SF_drop_0 rfl (lv_at hl 0 rfl) ?_
  refine lv_iload_n hx hb d_SF_drop_1 rfl (lv_at hl 1 rfl) ?_
  refine m_callq hw (m_runV (As := [.int x]) (rest := []) hc hE hw (c_SF_filterAt G l H.size f hN hRg hS0 x) h0 rfl cw_SF_82 se_SF_filterAt rfl hl.1 rfl (Nat.le_of_ble_eq_true rfl) d_SF_drop_2 ⟨rfl, rfl, by decide, by decide⟩ ⟨by first | decide | (dsimp only; omega), by first | decide | (dsimp only; omega)⟩) (fun r3 g2 H locs p1 hw => ?_)
  obtain ⟨rfl, hfla⟩ := p1
  rcases hfla with ⟨hnoa, hva⟩ | ⟨ka, hka, hxka, ⟨hva, hnna⟩ | ⟨Fa, vva, hva, hsma, hrha⟩⟩
  · subst hva
    have hnfa : noF fl x := noF_out hnoa
    refine lv_ifnonnullN hx hb d_SF_drop_5 ?_
    refine lv_iconst (v := (-1)) hx hb d_SF_drop_8 (by decide) ?_
    exact m_iret hc hr hlk hw ⟨by first | decide | (dsimp only; omega), by first | decide | (dsimp only; omega)⟩ d_SF_drop_9 ⟨fun _ => ⟨rfl, ⟨E, g, hRg, gle.rf, fun _ _ => rfl, hS0⟩⟩, fun k vv h1 h2 h3 => absurd ((hnfa k h1 h2).symm.trans h3) (by intro z; cases z)⟩
  · subst hva
    have hnfa : noF fl x := noF_in hka hxka hnna
    refine lv_ifnonnullN hx hb d_SF_drop_5 ?_
    refine lv_iconst (v := (-1)) hx hb d_SF_drop_8 (by decide) ?_
    exact m_iret hc hr hlk hw ⟨by first | decide | (dsimp only; omega), by first | decide | (dsimp only; omega)⟩ d_SF_drop_9 ⟨fun _ => ⟨rfl, ⟨E, g, hRg, gle.rf, fun _ _ => rfl, hS0⟩⟩, fun k vv h1 h2 h3 => absurd ((hnfa k h1 h2).symm.trans h3) (by intro z; cases z)⟩
  · subst hva
    have hrhab := hrha
    refine lv_ifnonnull (tgt := 10) hx hb d_SF_drop_5 (by decide) ?_
    refine lv_aload_n hx hb d_SF_drop_10 rfl (lv_at hl 0 rfl) ?_
    refine m_get hc hE hw h0 kc_SF l_SF_36_SF rfl d_SF_drop_11 ?_
    refine lv_iload_n hx hb d_SF_drop_14 rfl (lv_at hl 1 rfl) ?_
    refine lv_null hx hb d_SF_drop_15 ?_
    refine m_aastN hc hE hw 2 h8 rfl (by rw [hxka]; exact vp_in_nI hka (by decide)) d_SF_drop_16 (fun H locs hw => ?_)
    obtain ⟨f4, ef4⟩ : ∃ z : Wd, z = va_up f A8 (some (.inl (G.2.1 2, 10, .inr (.inr (.inr (.inr (va_up fa x.toNatClampNeg none))))))) := ⟨_, rfl⟩
    replace hw : ms G.1 (Af f sz) f4 s H locs := by rw [ef4]; exact hw
    have h5 : f4 A8 = some (.inl (G.2.1 2, 10, .inr (.inr (.inr (.inr (va_up fa x.toNatClampNeg none)))))) := by rw [ef4, va_up_self]
    refine lv_iconst (v := 0) hx hb d_SF_drop_17 (by decide) ?_
    have hcl : x.toNatClampNeg = ka := by rw [hxka]; exact nI_clamp (by omega)
    have hfx : f4 = va_up f (ad 8) (some (.inl (G.2.1 2, 10, .inr (.inr (.inr (.inr (va_up fa ka none))))))) := by rw [ef4, eA8, hcl]
    exact m_iret hc hr hlk hw ⟨by first | decide | (dsimp only; omega), by first | decide | (dsimp only; omega)⟩ d_SF_drop_18 ⟨fun z => absurd ((z ka hka hxka).symm.trans hsma) (by intro z; cases z), fun k vv h1 h2 h3 => ⟨rfl, by have ek : ka = k := (nI_eq (by omega) (by omega)).mp (hxka.symm.trans h2); subst ek; exact ⟨_, g, by rw [hfx]; exact hRg.up 8 (by omega) _, gle.rf, fun k hk => va_up_ne _ _ (by omega), hS0.f gle.rf _ _ hFL.del⟩⟩⟩
