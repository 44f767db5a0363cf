/-! links of the pools, as the walks ask for them -/
theorem l_SF_14_SF : lnk "StreamFilters" 14 F_SF 4 0 := ⟨by decide, "StreamFilters", Or.inl rfl, Or.inl (tb 152 (by decide +kernel) rfl)⟩
theorem l_SF_176_Question : lnk "StreamFilters" 176 F_Question 11 0 := ⟨by decide, "StreamFilters$Question", Or.inl rfl, Or.inl (tb 51 (by decide +kernel) rfl)⟩
theorem l_SF_179_Question : lnk "StreamFilters" 179 F_Question 11 1 := ⟨by decide, "StreamFilters$Question", Or.inl rfl, Or.inl (tb 54 (by decide +kernel) rfl)⟩
theorem l_SF_21_SF : lnk "StreamFilters" 21 F_SF 4 1 := ⟨by decide, "StreamFilters", Or.inl rfl, Or.inl (tb 153 (by decide +kernel) rfl)⟩
theorem l_SF_36_SF : lnk "StreamFilters" 36 F_SF 4 3 := ⟨by decide, "StreamFilters", Or.inl rfl, Or.inl (tb 155 (by decide +kernel) rfl)⟩
theorem cw_SF_67 : cwk "StreamFilters" 67 y_SF_isPlace b_SF_isPlace 1 (some .boolean) 1 := ⟨Or.inl (tb 203 (by decide +kernel) rfl), (tb 205 (by decide +kernel) rfl), (tb 1 (by decide +kernel) rfl), by decide, by decide, by decide +kernel⟩
theorem ss_SF_isPlace : Cond.static y_SF_isPlace ∈ TB := (tb 204 (by decide +kernel) rfl)
/-! decode rows -/
theorem d_SF_bufferAt_0 : decode b_SF_bufferAt 0 = .ok (.iload_n 1, 1) := by decide +kernel
theorem d_SF_bufferAt_1 : decode b_SF_bufferAt 1 = .ok (.tableswitch 48 0 2 #[27, 32, 40], 27) := by decide +kernel
theorem d_SF_bufferAt_28 : decode b_SF_bufferAt 28 = .ok (.aload_n 0, 1) := by decide +kernel
theorem d_SF_bufferAt_29 : decode b_SF_bufferAt 29 = .ok (.getfield 14, 3) := by decide +kernel
theorem d_SF_bufferAt_32 : decode b_SF_bufferAt 32 = .ok (.areturn, 1) := by decide +kernel
theorem d_SF_bufferAt_33 : decode b_SF_bufferAt 33 = .ok (.aload_n 0, 1) := by decide +kernel
theorem d_SF_bufferAt_34 : decode b_SF_bufferAt 34 = .ok (.getfield 21, 3) := by decide +kernel
theorem d_SF_bufferAt_37 : decode b_SF_bufferAt 37 = .ok (.getfield 176, 3) := by decide +kernel
theorem d_SF_bufferAt_40 : decode b_SF_bufferAt 40 = .ok (.areturn, 1) := by decide +kernel
theorem d_SF_bufferAt_41 : decode b_SF_bufferAt 41 = .ok (.aload_n 0, 1) := by decide +kernel
theorem d_SF_bufferAt_42 : decode b_SF_bufferAt 42 = .ok (.getfield 21, 3) := by decide +kernel
theorem d_SF_bufferAt_45 : decode b_SF_bufferAt 45 = .ok (.getfield 179, 3) := by decide +kernel
theorem d_SF_bufferAt_48 : decode b_SF_bufferAt 48 = .ok (.areturn, 1) := by decide +kernel
theorem d_SF_bufferAt_49 : decode b_SF_bufferAt 49 = .ok (.aconst_null, 1) := by decide +kernel
theorem d_SF_bufferAt_50 : decode b_SF_bufferAt 50 = .ok (.areturn, 1) := by decide +kernel
theorem d_SF_filterAt_0 : decode b_SF_filterAt 0 = .ok (.iload_n 1, 1) := by decide +kernel
theorem d_SF_filterAt_1 : decode b_SF_filterAt 1 = .ok (.invokestatic 67, 3) := by decide +kernel
theorem d_SF_filterAt_4 : decode b_SF_filterAt 4 = .ok (.ifCond .eq 12, 3) := by decide +kernel
theorem d_SF_filterAt_7 : decode b_SF_filterAt 7 = .ok (.aload_n 0, 1) := by decide +kernel
theorem d_SF_filterAt_8 : decode b_SF_filterAt 8 = .ok (.getfield 36, 3) := by decide +kernel
theorem d_SF_filterAt_11 : decode b_SF_filterAt 11 = .ok (.iload_n 1, 1) := by decide +kernel
theorem d_SF_filterAt_12 : decode b_SF_filterAt 12 = .ok (.aaload, 1) := by decide +kernel
theorem d_SF_filterAt_13 : decode b_SF_filterAt 13 = .ok (.goto 4, 3) := by decide +kernel
theorem d_SF_filterAt_16 : decode b_SF_filterAt 16 = .ok (.aconst_null, 1) := by decide +kernel
theorem d_SF_filterAt_17 : decode b_SF_filterAt 17 = .ok (.areturn, 1) := by decide +kernel
set_option maxHeartbeats 4000000 in
set_option maxRecDepth 100000 in
/-- bufferAt(x) -/
theorem c_SF_bufferAt (G : GG) (l : Launch) (sz : Nat) (f : Wd) {N root pn nn mn : Nat} {ad : Nat → Nat} {E : Nat → va_E} {g : Wd} {pt nt mt : Nat → Int32} {dp rf by_ co tx lx : Int32} {fl : Nat → Option FV} (hN : 9 ≤ N) (hRg : Rg N ad E g f) (hS : SC G ad E g root pn pt nn nt mn mt dp rf by_ co tx lx fl) (x : Int32) : Cq G l y_SF_bufferAt b_SF_bufferAt 2 (some (.object "StreamFilters$Signs")) ({ frames := 0, cells := 0, slots := 0, locals := 0 }) sz f [.ref root, .int x] (fun v f' => f = f' ∧ ((x = 0 ∧ v = some (ad 0)) ∨ (x = 1 ∧ v = some (ad 3)) ∨ (x = 2 ∧ v = some (ad 5)) ∨ (¬ x = 0 ∧ ¬ x = 1 ∧ ¬ x = 2 ∧ v = none))) := by
  refine ct_of (by decide) (Nat.le_of_ble_eq_true rfl) ?_
  intro p e s m below meth c ls H locs hEn
  obtain ⟨hc, hr, hlk, hin, hE, hw, hsz, hl⟩ := hEn
  have hx := hc.1
  have hb := hc.2.1
  have hl : lv_has ls 2 [(0, .ref root), (1, .int x)] := hl
  obtain ⟨hroot, hPB, hNB, hMB, ⟨so, di, le, hQ⟩, ⟨fr, en, pi, li, nu, rj, sh, mf, me, nf, ne, hRd⟩, fa, hF8, hFL⟩ := hS
  obtain ⟨A0, eA0⟩ : ∃ z, z = ad 0 := ⟨_, rfl⟩
  obtain ⟨A1, eA1⟩ : ∃ z, z = ad 1 := ⟨_, rfl⟩
  obtain ⟨A2, eA2⟩ : ∃ z, z = ad 2 := ⟨_, rfl⟩
  obtain ⟨A3, eA3⟩ : ∃ z, z = ad 3 := ⟨_, rfl⟩
  obtain ⟨A4, eA4⟩ : ∃ z, z = ad 4 := ⟨_, rfl⟩
  obtain ⟨A5, eA5⟩ : ∃ z, z = ad 5 := ⟨_, rfl⟩
  obtain ⟨A6, eA6⟩ : ∃ z, z = ad 6 := ⟨_, rfl⟩
  obtain ⟨A7, eA7⟩ : ∃ z, z = ad 7 := ⟨_, rfl⟩
  obtain ⟨A8, eA8⟩ : ∃ z, z = ad 8 := ⟨_, rfl⟩
  have hgf := hRg.2.2.1
  have h0 : f root = some (.inr (0, [.ref A0, .ref A2, .ref A7, .ref A8])) := by rw [eA0, eA2, eA7, eA8]; exact hgf _ _ hroot
  have h2 : f A2 = some (.inr (2, [.ref A3, .ref A5, .int dp, .int rf, .int by_, .int so, .int di, .int le, .int co, .int tx, .int lx])) := by rw [eA2, eA3, eA5]; exact hRg.get 2 (by omega) hQ
  have h8 : f A8 = some (.inl (G.2.1 2, 10, .inr (.inr (.inr (.inr fa))))) := by rw [eA8]; exact hRg.get 8 (by omega) hF8
  have hsP : sg G f A0 A1 90 pn pt := by rw [eA0, eA1]; exact hPB.sg hRg (by omega) (by omega)
  have hsN : sg G f A3 A4 40 nn nt := by rw [eA3, eA4]; exact hNB.sg hRg (by omega) (by omega)
  have hsM : sg G f A5 A6 12 mn mt := by rw [eA5, eA6]; exact hMB.sg hRg (by omega) (by omega)
  refine lv_iload_n hx hb d_SF_bufferAt_0 rfl (lv_at hl 1 rfl) ?_
  by_cases k1 : x = 0
  · refine lv_tableIn (tgt := 28) hx hb d_SF_bufferAt_1 (off := 27) (by rw [k1]; decide) (by rw [k1]; decide) (by rw [k1] <;> rfl) (by decide) ?_
    refine lv_aload_n hx hb d_SF_bufferAt_28 rfl (lv_at hl 0 rfl) ?_
    refine m_get hc hE hw h0 kc_SF l_SF_14_SF rfl d_SF_bufferAt_29 ?_
    exact m_aret (r := (some A0)) hc hr hlk hw ⟨by first | decide | (dsimp only; omega), by first | decide | (dsimp only; omega)⟩ d_SF_bufferAt_32 ⟨rfl, Or.inl ⟨k1, congrArg some eA0⟩⟩
  by_cases k2 : x = 1
  · refine lv_tableIn (tgt := 33) hx hb d_SF_bufferAt_1 (off := 32) (by rw [k2]; decide) (by rw [k2]; decide) (by rw [k2] <;> rfl) (by decide) ?_
    refine lv_aload_n hx hb d_SF_bufferAt_33 rfl (lv_at hl 0 rfl) ?_
    refine m_get hc hE hw h0 kc_SF l_SF_21_SF rfl d_SF_bufferAt_34 ?_
    refine m_get hc hE hw h2 kc_Question l_SF_176_Question rfl d_SF_bufferAt_37 ?_
    exact m_aret (r := (some A3)) hc hr hlk hw ⟨by first | decide | (dsimp only; omega), by first | decide | (dsimp only; omega)⟩ d_SF_bufferAt_40 ⟨rfl, Or.inr (Or.inl ⟨k2, congrArg some eA3⟩)⟩
  by_cases k3 : x = 2
  · refine lv_tableIn (tgt := 41) hx hb d_SF_bufferAt_1 (off := 40) (by rw [k3]; decide) (by rw [k3]; decide) (by rw [k3] <;> rfl) (by decide) ?_
    refine lv_aload_n hx hb d_SF_bufferAt_41 rfl (lv_at hl 0 rfl) ?_
    refine m_get hc hE hw h0 kc_SF l_SF_21_SF rfl d_SF_bufferAt_42 ?_
    refine m_get hc hE hw h2 kc_Question l_SF_179_Question rfl d_SF_bufferAt_45 ?_
    exact m_aret (r := (some A5)) hc hr hlk hw ⟨by first | decide | (dsimp only; omega), by first | decide | (dsimp only; omega)⟩ d_SF_bufferAt_48 ⟨rfl, Or.inr (Or.inr (Or.inl ⟨k3, congrArg some eA5⟩))⟩
  refine lv_tableOut (tgt := 49) hx hb d_SF_bufferAt_1 (by have := lv_neT k1 (show (0 : Int32).toInt = 0 by decide); have := lv_neT k2 (show (1 : Int32).toInt = 1 by decide); have := lv_neT k3 (show (2 : Int32).toInt = 2 by decide); omega) (by decide) ?_
  refine lv_null hx hb d_SF_bufferAt_49 ?_
  exact m_aret (r := none) hc hr hlk hw ⟨by first | decide | (dsimp only; omega), by first | decide | (dsimp only; omega)⟩ d_SF_bufferAt_50 ⟨rfl, Or.inr (Or.inr (Or.inr ⟨k1, k2, k3, rfl⟩))⟩

set_option maxHeartbeats 4000000 in
set_option maxRecDepth 100000 in
/-- filterAt(x) -/
theorem c_SF_filterAt (G : GG) (l : Launch) (sz : Nat) (f : Wd) {N root pn nn mn : Nat} {ad : Nat → Nat} {E : Nat → va_E} {g : Wd} {pt nt mt : Nat → Int32} {dp rf by_ co tx lx : Int32} {fl : Nat → Option FV} (hN : 9 ≤ N) (hRg : Rg N ad E g f) (hS : SC G ad E g root pn pt nn nt mn mt dp rf by_ co tx lx fl) (x : Int32) : Cq G l y_SF_filterAt b_SF_filterAt 2 (some (.object "StreamFilters$Filter")) ({ frames := 1, cells := 0, slots := 0, locals := 20 }) sz f [.ref root, .int x] (fun v f' => f = f' ∧ ((¬ (¬ x < 0 ∧ ¬ 10 ≤ x) ∧ v = none) ∨ ∃ k : Nat, k < 10 ∧ x = nI k ∧ ((v = none ∧ fl k = none) ∨ ∃ (a : Nat) (vv : FV), v = some a ∧ fl k = some vv ∧ RH G g a vv))) := by
  refine ct_of (by decide) (Nat.le_of_ble_eq_true rfl) ?_
  intro p e s m below meth c ls H locs hEn
  obtain ⟨hc, hr, hlk, hin, hE, hw, hsz, hl⟩ := hEn
  have hx := hc.1
  have hb := hc.2.1
  have hl : lv_has ls 2 [(0, .ref root), (1, .int x)] := hl
  obtain ⟨hroot, hPB, hNB, hMB, ⟨so, di, le, hQ⟩, ⟨fr, en, pi, li, nu, rj, sh, mf, me, nf, ne, hRd⟩, fa, hF8, hFL⟩ := hS
  obtain ⟨A0, eA0⟩ : ∃ z, z = ad 0 := ⟨_, rfl⟩
  obtain ⟨A1, eA1⟩ : ∃ z, z = ad 1 := ⟨_, rfl⟩
  obtain ⟨A2, eA2⟩ : ∃ z, z = ad 2 := ⟨_, rfl⟩
  obtain ⟨A3, eA3⟩ : ∃ z, z = ad 3 := ⟨_, rfl⟩
  obtain ⟨A4, eA4⟩ : ∃ z, z = ad 4 := ⟨_, rfl⟩
  obtain ⟨A5, eA5⟩ : ∃ z, z = ad 5 := ⟨_, rfl⟩
  obtain ⟨A6, eA6⟩ : ∃ z, z = ad 6 := ⟨_, rfl⟩
  obtain ⟨A7, eA7⟩ : ∃ z, z = ad 7 := ⟨_, rfl⟩
  obtain ⟨A8, eA8⟩ : ∃ z, z = ad 8 := ⟨_, rfl⟩
  have hgf := hRg.2.2.1
  have h0 : f root = some (.inr (0, [.ref A0, .ref A2, .ref A7, .ref A8])) := by rw [eA0, eA2, eA7, eA8]; exact hgf _ _ hroot
  have h2 : f A2 = some (.inr (2, [.ref A3, .ref A5, .int dp, .int rf, .int by_, .int so, .int di, .int le, .int co, .int tx, .int lx])) := by rw [eA2, eA3, eA5]; exact hRg.get 2 (by omega) hQ
  have h8 : f A8 = some (.inl (G.2.1 2, 10, .inr (.inr (.inr (.inr fa))))) := by rw [eA8]; exact hRg.get 8 (by omega) hF8
  have hsP : sg G f A0 A1 90 pn pt := by rw [eA0, eA1]; exact hPB.sg hRg (by omega) (by omega)
  have hsN : sg G f A3 A4 40 nn nt := by rw [eA3, eA4]; exact hNB.sg hRg (by omega) (by omega)
  have hsM : sg G f A5 A6 12 mn mt := by rw [eA5, eA6]; exact hMB.sg hRg (by omega) (by omega)
  refine lv_iload_n hx hb d_SF_filterAt_0 rfl (lv_at hl 1 rfl) ?_
  refine m_calli hw (m_runS (As := [.int x]) (rest := []) hc hE hw (c_SF_isPlace G l H.size f x) cw_SF_67 ss_SF_isPlace rfl hl.1 rfl (Nat.le_of_ble_eq_true rfl) d_SF_filterAt_1 ⟨rfl, rfl, by decide, by decide⟩ ⟨by first | decide | (dsimp only; omega), by first | decide | (dsimp only; omega)⟩) (fun r3 g2 H locs p1 hw => ?_)
  obtain ⟨rfl, p1⟩ := p1
  refine lv_if_eq (tgt := 16) hx hb d_SF_filterAt_4 (by decide) (fun c4 => ?_) (fun c4 => ?_)
  · refine lv_null hx hb d_SF_filterAt_16 ?_
    exact m_aret (r := none) hc hr hlk hw ⟨by first | decide | (dsimp only; omega), by first | decide | (dsimp only; omega)⟩ d_SF_filterAt_17 ⟨rfl, Or.inl ⟨bI_0.mp (p1.symm.trans c4), rfl⟩⟩
  · have hpl := bI_n.mp (fun z => c4 (p1.trans z))
    obtain ⟨k, hk, hxk⟩ : ∃ k : Nat, k < 10 ∧ x = nI k := vp_in_of (vin (n := 10) hpl.1 hpl.2 (Nat.le_refl 10) (by decide)) (by decide)
    refine lv_aload_n hx hb d_SF_filterAt_7 rfl (lv_at hl 0 rfl) ?_
    refine m_get hc hE hw h0 kc_SF l_SF_36_SF rfl d_SF_filterAt_8 ?_
    refine lv_iload_n hx hb d_SF_filterAt_11 rfl (lv_at hl 1 rfl) ?_
    refine m_aald hc hE hw 2 h8 rfl (vin (n := 10) hpl.1 hpl.2 (Nat.le_refl 10) (by decide)) d_SF_filterAt_12 ?_
    refine lv_goto (tgt := 17) hx hb d_SF_filterAt_13 (by decide) ?_
    have hcl : x.toNatClampNeg = k := by rw [hxk]; exact nI_clamp (by omega)
    exact m_aret (r := (fa x.toNatClampNeg)) hc hr hlk hw ⟨by first | decide | (dsimp only; omega), by first | decide | (dsimp only; omega)⟩ d_SF_filterAt_17 ⟨rfl, Or.inr ⟨k, hk, hxk, by rw [hcl]; exact hFL k hk⟩⟩
