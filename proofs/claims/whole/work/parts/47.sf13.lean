/-! links of the pools, as the walks ask for them -/
theorem cw_SF_44 : cwk "StreamFilters" 44 y_SF_countSigns b_SF_countSigns 5 (some .int) 1 := ⟨Or.inl (tb 173 (by decide +kernel) rfl), (tb 175 (by decide +kernel) rfl), (tb 1 (by decide +kernel) rfl), by decide, by decide, by decide +kernel⟩
theorem cw_SF_48 : cwk "StreamFilters" 48 y_Signs_hasRoomFor b_Signs_hasRoomFor 2 (some .boolean) 1 := ⟨Or.inl (tb 179 (by decide +kernel) rfl), (tb 182 (by decide +kernel) rfl), (tb 2 (by decide +kernel) rfl), by decide, by decide, by decide +kernel⟩
theorem cw_SF_56 : cwk "StreamFilters" 56 y_Signs_append b_Signs_append 2 none 1 := ⟨Or.inl (tb 183 (by decide +kernel) rfl), (tb 186 (by decide +kernel) rfl), (tb 2 (by decide +kernel) rfl), by decide, by decide, by decide +kernel⟩
theorem cw_SF_60 : cwk "StreamFilters" 60 y_Signs_length b_Signs_length 1 (some .int) 0 := ⟨Or.inl (tb 187 (by decide +kernel) rfl), (tb 190 (by decide +kernel) rfl), (tb 2 (by decide +kernel) rfl), by decide, by decide, by decide +kernel⟩
theorem se_Signs_hasRoomFor : Cond.instanceMethod y_Signs_hasRoomFor ∈ TB ∧ Cond.selects "StreamFilters$Signs" y_Signs_hasRoomFor y_Signs_hasRoomFor ∈ TB := ⟨(tb 180 (by decide +kernel) rfl), (tb 181 (by decide +kernel) rfl)⟩
theorem ss_SF_countSigns : Cond.static y_SF_countSigns ∈ TB := (tb 174 (by decide +kernel) rfl)
/-! decode rows -/
theorem d_SF_type_0 : decode b_SF_type 0 = .ok (.aload_n 0, 1) := by decide +kernel
theorem d_SF_type_1 : decode b_SF_type 1 = .ok (.iload_n 1, 1) := by decide +kernel
theorem d_SF_type_2 : decode b_SF_type 2 = .ok (.invokevirtual 40, 3) := by decide +kernel
theorem d_SF_type_5 : decode b_SF_type 5 = .ok (.astore 4, 2) := by decide +kernel
theorem d_SF_type_7 : decode b_SF_type 7 = .ok (.aload 4, 2) := by decide +kernel
theorem d_SF_type_9 : decode b_SF_type 9 = .ok (.ifnonnull 5, 3) := by decide +kernel
theorem d_SF_type_12 : decode b_SF_type 12 = .ok (.iconst (-1), 1) := by decide +kernel
theorem d_SF_type_13 : decode b_SF_type 13 = .ok (.ireturn, 1) := by decide +kernel
theorem d_SF_type_14 : decode b_SF_type 14 = .ok (.lload_n 2, 1) := by decide +kernel
theorem d_SF_type_15 : decode b_SF_type 15 = .ok (.invokestatic 44, 3) := by decide +kernel
theorem d_SF_type_18 : decode b_SF_type 18 = .ok (.istore 5, 2) := by decide +kernel
theorem d_SF_type_20 : decode b_SF_type 20 = .ok (.iload 5, 2) := by decide +kernel
theorem d_SF_type_22 : decode b_SF_type 22 = .ok (.ifCond .ge 5, 3) := by decide +kernel
theorem d_SF_type_25 : decode b_SF_type 25 = .ok (.iconst (-1), 1) := by decide +kernel
theorem d_SF_type_26 : decode b_SF_type 26 = .ok (.ireturn, 1) := by decide +kernel
theorem d_SF_type_27 : decode b_SF_type 27 = .ok (.aload 4, 2) := by decide +kernel
theorem d_SF_type_29 : decode b_SF_type 29 = .ok (.iload 5, 2) := by decide +kernel
theorem d_SF_type_31 : decode b_SF_type 31 = .ok (.invokevirtual 48, 3) := by decide +kernel
theorem d_SF_type_34 : decode b_SF_type 34 = .ok (.ifCond .ne 6, 3) := by decide +kernel
theorem d_SF_type_37 : decode b_SF_type 37 = .ok (.bipush (-3), 2) := by decide +kernel
theorem d_SF_type_39 : decode b_SF_type 39 = .ok (.ireturn, 1) := by decide +kernel
theorem d_SF_type_40 : decode b_SF_type 40 = .ok (.bipush 56, 2) := by decide +kernel
theorem d_SF_type_42 : decode b_SF_type 42 = .ok (.istore 6, 2) := by decide +kernel
theorem d_SF_type_44 : decode b_SF_type 44 = .ok (.iload 6, 2) := by decide +kernel
theorem d_SF_type_46 : decode b_SF_type 46 = .ok (.ifCond .lt 30, 3) := by decide +kernel
theorem d_SF_type_49 : decode b_SF_type 49 = .ok (.lload_n 2, 1) := by decide +kernel
theorem d_SF_type_50 : decode b_SF_type 50 = .ok (.iload 6, 2) := by decide +kernel
theorem d_SF_type_52 : decode b_SF_type 52 = .ok (.invokestatic 52, 3) := by decide +kernel
theorem d_SF_type_55 : decode b_SF_type 55 = .ok (.istore 7, 2) := by decide +kernel
theorem d_SF_type_57 : decode b_SF_type 57 = .ok (.iload 7, 2) := by decide +kernel
theorem d_SF_type_59 : decode b_SF_type 59 = .ok (.ifCond .eq 11, 3) := by decide +kernel
theorem d_SF_type_62 : decode b_SF_type 62 = .ok (.aload 4, 2) := by decide +kernel
theorem d_SF_type_64 : decode b_SF_type 64 = .ok (.iload 7, 2) := by decide +kernel
theorem d_SF_type_66 : decode b_SF_type 66 = .ok (.i2c, 1) := by decide +kernel
theorem d_SF_type_67 : decode b_SF_type 67 = .ok (.invokevirtual 56, 3) := by decide +kernel
theorem d_SF_type_70 : decode b_SF_type 70 = .ok (.iinc 6 (-8), 3) := by decide +kernel
theorem d_SF_type_73 : decode b_SF_type 73 = .ok (.goto (-29), 3) := by decide +kernel
theorem d_SF_type_76 : decode b_SF_type 76 = .ok (.aload 4, 2) := by decide +kernel
theorem d_SF_type_78 : decode b_SF_type 78 = .ok (.invokevirtual 60, 3) := by decide +kernel
theorem d_SF_type_81 : decode b_SF_type 81 = .ok (.ireturn, 1) := by decide +kernel
set_option maxHeartbeats 4000000 in
set_option maxRecDepth 100000 in
/-- type(x, sg0) -/
theorem c_SF_type (G : GG) (l : Launch) (sz : Nat) (f : Wd) {N root pn nn mn : Nat} {ad : Nat → Nat} {E : Nat → va_E} {g : Wd} {pt nt mt : Nat → Int32} {dp rf by_ co tx lx : Int32} {fl : Nat → Option FV} (hN : 9 ≤ N) (hRg : Rg N ad E g f) (hS : SC G ad E g root pn pt nn nt mn mt dp rf by_ co tx lx fl) (x : Int32) (sg0 : Int64) : Ci G l y_SF_type b_SF_type 8 (some .int) ({ frames := 2, cells := 0, slots := 0, locals := 47 }) sz f [.ref root, .int x, .long sg0] (fun v f' => (x = 0 → (¬ (∀ k, k < 8 → okb (byt sg0 k)) → v = -1 ∧ SCR G N ad E g root f' pn pt nn nt mn mt dp rf by_ co tx lx fl) ∧ ((∀ k, k < 8 → okb (byt sg0 k)) → ¬ pn + cnT sg0 8 ≤ 90 → v = -3 ∧ SCR G N ad E g root f' pn pt nn nt mn mt dp rf by_ co tx lx fl) ∧ ((∀ k, k < 8 → okb (byt sg0 k)) → pn + cnT sg0 8 ≤ 90 → v = nI (pn + cnT sg0 8) ∧ SCR G N ad E g root f' (pn + cnT sg0 8) (apT pt pn sg0 8) nn nt mn mt dp rf by_ co tx lx fl)) ∧ (x = 1 → (¬ (∀ k, k < 8 → okb (byt sg0 k)) → v = -1 ∧ SCR G N ad E g root f' pn pt nn nt mn mt dp rf by_ co tx lx fl) ∧ ((∀ k, k < 8 → okb (byt sg0 k)) → ¬ nn + cnT sg0 8 ≤ 40 → v = -3 ∧ SCR G N ad E g root f' pn pt nn nt mn mt dp rf by_ co tx lx fl) ∧ ((∀ k, k < 8 → okb (byt sg0 k)) → nn + cnT sg0 8 ≤ 40 → v = nI (nn + cnT sg0 8) ∧ SCR G N ad E g root f' pn pt (nn + cnT sg0 8) (apT nt nn sg0 8) mn mt dp rf by_ co tx lx fl)) ∧ (x = 2 → (¬ (∀ k, k < 8 → okb (byt sg0 k)) → v = -1 ∧ SCR G N ad E g root f' pn pt nn nt mn mt dp rf by_ co tx lx fl) ∧ ((∀ k, k < 8 → okb (byt sg0 k)) → ¬ mn + cnT sg0 8 ≤ 12 → v = -3 ∧ SCR G N ad E g root f' pn pt nn nt mn mt dp rf by_ co tx lx fl) ∧ ((∀ k, k < 8 → okb (byt sg0 k)) → mn + cnT sg0 8 ≤ 12 → v = nI (mn + cnT sg0 8) ∧ SCR G N ad E g root f' pn pt nn nt (mn + cnT sg0 8) (apT mt mn sg0 8) dp rf by_ co tx lx fl)) ∧ (¬ x = 0 → ¬ x = 1 → ¬ x = 2 → v = -1 ∧ SCR G N ad E g root f' pn pt nn nt mn mt dp rf by_ co tx lx fl)) := by
  refine ct_of (by decide) (Nat.le_of_ble_eq_true rfl) ?_
  intro p e s m below meth c ls H locs hEn
  obtain ⟨hc, hr, hlk, hin, hE, hw, hsz, hl⟩ := hEn
  have hx := hc.1
  have hb := hc.2.1
  have hl : lv_has ls 8 [(0, .ref root), (1, .int x), (2, .long sg0)] := hl
  have hS0 := hS
  obtain ⟨hroot, hPB, hNB, hMB, ⟨so, di, le, hQ⟩, ⟨fr, en, pi, li, nu, rj, sh, mf, me, nf, ne, hRd⟩, fa, hF8, hFL⟩ := hS
  obtain ⟨A0, eA0⟩ : ∃ z, z = ad 0 := ⟨_, rfl⟩
  obtain ⟨A1, eA1⟩ : ∃ z, z = ad 1 := ⟨_, rfl⟩
  obtain ⟨A2, eA2⟩ : ∃ z, z = ad 2 := ⟨_, rfl⟩
  obtain ⟨A3, eA3⟩ : ∃ z, z = ad 3 := ⟨_, rfl⟩
  obtain ⟨A4, eA4⟩ : ∃ z, z = ad 4 := ⟨_, rfl⟩
  obtain ⟨A5, eA5⟩ : ∃ z, z = ad 5 := ⟨_, rfl⟩
  obtain ⟨A6, eA6⟩ : ∃ z, z = ad 6 := ⟨_, rfl⟩
  obtain ⟨A7, eA7⟩ : ∃ z, z = ad 7 := ⟨_, rfl⟩
  obtain ⟨A8, eA8⟩ : ∃ z, z = ad 8 := ⟨_, rfl⟩
  have hgf := hRg.2.2.1
  have h0 : f root = some (.inr (0, [.ref A0, .ref A2, .ref A7, .ref A8])) := by rw [eA0, eA2, eA7, eA8]; exact hgf _ _ hroot
  have h2 : f A2 = some (.inr (2, [.ref A3, .ref A5, .int dp, .int rf, .int by_, .int so, .int di, .int le, .int co, .int tx, .int lx])) := by rw [eA2, eA3, eA5]; exact hRg.get 2 (by omega) hQ
  have h8 : f A8 = some (.inl (G.2.1 2, 10, .inr (.inr (.inr (.inr fa))))) := by rw [eA8]; exact hRg.get 8 (by omega) hF8
  have hsP : sg G f A0 A1 90 pn pt := by rw [eA0, eA1]; exact hPB.sg hRg (by omega) (by omega)
  have hsN : sg G f A3 A4 40 nn nt := by rw [eA3, eA4]; exact hNB.sg hRg (by omega) (by omega)
  have hsM : sg G f A5 A6 12 mn mt := by rw [eA5, eA6]; exact hMB.sg hRg (by omega) (by omega)
  refine lv_aload_n hx hb d_SF_type_0 rfl (lv_at hl 0 rfl) ?_
  refine lv_iload_n hx hb d_SF_type_1 rfl (lv_at hl 1 rfl) ?_
  refine m_callq hw (m_runV (As := [.int x]) (rest := []) hc hE hw (c_SF_bufferAt G l H.size f hN hRg hS0 x) h0 rfl cw_SF_40 se_SF_bufferAt rfl hl.1 rfl (Nat.le_of_ble_eq_true rfl) d_SF_type_2 ⟨rfl, rfl, by decide, by decide⟩ ⟨by first | decide | (dsimp only; omega), by first | decide | (dsimp only; omega)⟩) (fun r3 g2 H locs p1 hw => ?_)
  obtain ⟨rfl, hbf⟩ := p1
  rcases hbf with ⟨hbx, hv⟩ | ⟨hbx, hv⟩ | ⟨hbx, hv⟩ | ⟨hx0, hx1, hx2, hv⟩
  · rw [← eA0] at hv; subst hv
    refine lv_astore (lv' := [(4, .ref A0), (0, .ref root), (1, .int x), (2, .long sg0)]) hx hb d_SF_type_5 hl (by decide) rfl (fun ls hl => ?_)
    refine lv_aload hx hb d_SF_type_7 (lv_at hl 0 rfl) ?_
    refine lv_ifnonnull (tgt := 14) hx hb d_SF_type_9 (by decide) ?_
    refine lv_lload_n hx hb d_SF_type_14 rfl (lv_at hl 3 rfl) ?_
    refine m_calli hw (m_runS (As := [.long sg0]) (rest := []) hc hE hw (c_SF_countSigns G l H.size f sg0) cw_SF_44 ss_SF_countSigns rfl hl.1 rfl (Nat.le_of_ble_eq_true rfl) d_SF_type_15 ⟨rfl, rfl, by decide, by decide⟩ ⟨by first | decide | (dsimp only; omega), by first | decide | (dsimp only; omega)⟩) (fun r6 g5 H locs p4 hw => ?_)
    obtain ⟨rfl, hv8⟩ := p4
    by_cases hok8 : (∀ k, k < 8 → okb (byt sg0 k))
    · rw [pif_t hok8] at hv8; subst hv8
      have hc8 := cnT_le sg0 8
      refine lv_istore (lv' := [(5, .int (nI (cnT sg0 8))), (4, .ref A0), (0, .ref root), (1, .int x), (2, .long sg0)]) hx hb d_SF_type_18 hl (by decide) rfl (fun ls hl => ?_)
      refine lv_iload hx hb d_SF_type_20 (lv_at hl 0 rfl) ?_
      refine lv_if_ge (tgt := 27) hx hb d_SF_type_22 (by decide) (fun c7 => ?_) (fun c7 => ?_)
      · refine lv_aload hx hb d_SF_type_27 (lv_at hl 1 rfl) ?_
        refine lv_iload hx hb d_SF_type_29 (lv_at hl 0 rfl) ?_
        refine m_calli hw (m_runV (As := [.int (nI (cnT sg0 8))]) (rest := []) hc hE hw (c_Signs_hasRoomFor G l H.size f hsP (nI (cnT sg0 8))) hsP.1 rfl cw_SF_48 se_Signs_hasRoomFor rfl hl.1 rfl (Nat.le_of_ble_eq_true rfl) d_SF_type_31 ⟨rfl, rfl, by decide, by decide⟩ ⟨by first | decide | (dsimp only; omega), by first | decide | (dsimp only; omega)⟩) (fun r10 g9 H locs p8 hw => ?_)
        obtain ⟨rfl, p8⟩ := p8
        refine lv_if_ne (tgt := 40) hx hb d_SF_type_34 (by decide) (fun c11 => ?_) (fun c11 => ?_)
        · refine lv_bipush (v := 56) hx hb d_SF_type_40 (by decide) ?_
          refine lv_istore (lv' := [(6, .int 56), (5, .int (nI (cnT sg0 8))), (4, .ref A0), (0, .ref root), (1, .int x), (2, .long sg0)]) hx hb d_SF_type_42 hl (by decide) rfl (fun ls hl => ?_)
          have hrm8 : pn + cnT sg0 8 ≤ 90 := by
            have h1 := bI_n.mp (fun z => c11 (p8.trans z))
            have := hPB.2.2.1
            rw [pk_sub (by omega), nI_leI (by omega) (by omega)] at h1; omega
          have loop : ∀ (fu : Nat) (m0 : Nat) (fw : Wd) (Ew : Nat → va_E) (ls : Array Slot) (H : Heap) (locs : List Loc), 8 - m0 < fu → m0 ≤ 8 → Rg N ad Ew g fw → BF G ad Ew 0 90 (pn + cnT sg0 m0) (apT pt pn sg0 m0) → (∀ k, k ≠ 0 → k ≠ 1 → Ew k = E k) → ms G.1 (Af f sz) fw s H locs → lv_has ls 8 [(6, .int (shv m0)), (5, .int (nI (cnT sg0 8))), (4, .ref A0), (0, .ref root), (1, .int x), (2, .long sg0)] → W p l e ({ frames := 2, cells := 0, slots := 0, locals := 47 }) s m ([.ref root, .int x, .long sg0] : List Value).toArray below meth c H locs 0 0 (MQ below (va_Qi (fun v f' => (x = 0 → (¬ (∀ k, k < 8 → okb (byt sg0 k)) → v = -1 ∧ SCR G N ad E g root f' pn pt nn nt mn mt dp rf by_ co tx lx fl) ∧ ((∀ k, k < 8 → okb (byt sg0 k)) → ¬ pn + cnT sg0 8 ≤ 90 → v = -3 ∧ SCR G N ad E g root f' pn pt nn nt mn mt dp rf by_ co tx lx fl) ∧ ((∀ k, k < 8 → okb (byt sg0 k)) → pn + cnT sg0 8 ≤ 90 → v = nI (pn + cnT sg0 8) ∧ SCR G N ad E g root f' (pn + cnT sg0 8) (apT pt pn sg0 8) nn nt mn mt dp rf by_ co tx lx fl)) ∧ (x = 1 → (¬ (∀ k, k < 8 → okb (byt sg0 k)) → v = -1 ∧ SCR G N ad E g root f' pn pt nn nt mn mt dp rf by_ co tx lx fl) ∧ ((∀ k, k < 8 → okb (byt sg0 k)) → ¬ nn + cnT sg0 8 ≤ 40 → v = -3 ∧ SCR G N ad E g root f' pn pt nn nt mn mt dp rf by_ co tx lx fl) ∧ ((∀ k, k < 8 → okb (byt sg0 k)) → nn + cnT sg0 8 ≤ 40 → v = nI (nn + cnT sg0 8) ∧ SCR G N ad E g root f' pn pt (nn + cnT sg0 8) (apT nt nn sg0 8) mn mt dp rf by_ co tx lx fl)) ∧ (x = 2 → (¬ (∀ k, k < 8 → okb (byt sg0 k)) → v = -1 ∧ SCR G N ad E g root f' pn pt nn nt mn mt dp rf by_ co tx lx fl) ∧ ((∀ k, k < 8 → okb (byt sg0 k)) → ¬ mn + cnT sg0 8 ≤ 12 → v = -3 ∧ SCR G N ad E g root f' pn pt nn nt mn mt dp rf by_ co tx lx fl) ∧ ((∀ k, k < 8 → okb (byt sg0 k)) → mn + cnT sg0 8 ≤ 12 → v = nI (mn + cnT sg0 8) ∧ SCR G N ad E g root f' pn pt nn nt (mn + cnT sg0 8) (apT mt mn sg0 8) dp rf by_ co tx lx fl)) ∧ (¬ x = 0 → ¬ x = 1 → ¬ x = 2 → v = -1 ∧ SCR G N ad E g root f' pn pt nn nt mn mt dp rf by_ co tx lx fl)) (Bw G f sz) (Af f sz)) ([.ref root, .int x, .long sg0] : List Value).toArray s 0 0 (Af f sz)) (F0 m 44 ls []) := by
            intro fu
            induction fu with
            | zero => intro m0 fw Ew ls H locs h0; exact absurd h0 (Nat.not_lt_zero _)
            | succ fu ih =>
              intro m0 fw Ew ls H locs hfu hm hRw hBw hEw hw hl
              have hsw : sg G fw A0 A1 90 (pn + cnT sg0 m0) (apT pt pn sg0 m0) := by rw [eA0, eA1]; exact hBw.sg hRw (by omega) (by omega)
              refine lv_iload hx hb d_SF_type_44 (lv_at hl 0 rfl) ?_
              refine lv_if_lt (tgt := 76) hx hb d_SF_type_46 (by decide) (fun c12 => ?_) (fun c12 => ?_)
              · refine lv_aload hx hb d_SF_type_76 (lv_at hl 2 rfl) ?_
                refine m_calli hw (m_runV (As := []) (rest := []) hc hE hw (c_Signs_length G l H.size fw hsw) hsw.1 rfl cw_SF_60 se_Signs_length rfl hl.1 rfl (Nat.le_of_ble_eq_true rfl) d_SF_type_78 ⟨rfl, rfl, by decide, by decide⟩ ⟨by first | decide | (dsimp only; omega), by first | decide | (dsimp only; omega)⟩) (fun r15 g14 H locs p13 hw => ?_)
                obtain ⟨rfl, p13⟩ := p13
                subst p13
                have hm9 : m0 = 8 := by
                  rcases Nat.lt_or_ge m0 8 with z | z
                  · exact absurd c12 (shv_p m0 z)
                  · omega
                subst hm9
                exact m_iret hc hr hlk hw ⟨by first | decide | (dsimp only; omega), by first | decide | (dsimp only; omega)⟩ d_SF_type_81 ⟨fun _ => ⟨fun z => absurd hok8 z, fun _ z => absurd hrm8 z, fun _ _ => ⟨rfl, Ew, g, hRw, gle.rf, fun k hk => hEw k (by omega) (by omega), hS0.p _ _ hBw hEw⟩⟩, fun z => absurd (hbx.symm.trans z) (by decide), fun z => absurd (hbx.symm.trans z) (by decide), fun z0 z1 z2 => absurd hbx z0⟩
              · have hm8 : m0 < 8 := by
                  rcases Nat.lt_or_ge m0 8 with z | z
                  · exact z
                  · exact absurd (by rw [show m0 = 8 by omega]; decide) c12
                refine lv_lload_n hx hb d_SF_type_49 rfl (lv_at hl 5 rfl) ?_
                refine lv_iload hx hb d_SF_type_50 (lv_at hl 0 rfl) ?_
                refine m_top (y := nI (8 * (7 - m0))) (shv_e m0 hm8) ?_
                refine m_calli hw (m_runS (As := [.long sg0, .int (nI (8 * (7 - m0)))]) (rest := []) hc hE hw (c_SF_byteAt G l H.size fw sg0 (k := 7 - m0) (by omega)) cw_SF_52 ss_SF_byteAt rfl hl.1 rfl (Nat.le_of_ble_eq_true rfl) d_SF_type_52 ⟨rfl, rfl, by decide, by decide⟩ ⟨by first | decide | (dsimp only; omega), by first | decide | (dsimp only; omega)⟩) (fun r18 g17 H locs p16 hw => ?_)
                obtain ⟨rfl, p16⟩ := p16
                subst p16
                have hbl := byt_lt sg0 (7 - m0)
                refine lv_istore (lv' := [(7, .int (nI (byt sg0 (7 - m0)))), (6, .int (shv m0)), (5, .int (nI (cnT sg0 8))), (4, .ref A0), (0, .ref root), (1, .int x), (2, .long sg0)]) hx hb d_SF_type_55 hl (by decide) rfl (fun ls hl => ?_)
                refine lv_iload hx hb d_SF_type_57 (lv_at hl 0 rfl) ?_
                refine lv_if_eq (tgt := 70) hx hb d_SF_type_59 (by decide) (fun c19 => ?_) (fun c19 => ?_)
                · refine lv_iinc (v := (shv (m0 + 1))) (lv' := [(6, .int (shv (m0 + 1))), (7, .int (nI (byt sg0 (7 - m0)))), (5, .int (nI (cnT sg0 8))), (4, .ref A0), (0, .ref root), (1, .int x), (2, .long sg0)]) hx hb d_SF_type_70 hl (k := 1) rfl (shv_n m0 hm8) (by decide) rfl (fun ls hl => ?_)
                  refine lv_goto (tgt := 44) hx hb d_SF_type_73 (by decide) ?_
                  have hz : byt sg0 (7 - m0) = 0 := (nI_eq (b := 0) (by omega) (by decide)).mp c19
                  exact ih (m0 + 1) fw Ew ls H locs (by omega) (by omega) hRw (by rw [cnT_z hz, apT_z hz]; exact hBw) hEw hw (lv_sub hl [0, 2, 3, 4, 5, 6] rfl)
                · have hz : ¬ byt sg0 (7 - m0) = 0 := fun z => c19 (by rw [z]; rfl)
                  have hcc := cnT_n hz
                  have hc9 := cnT_mono sg0 (m0 + 1) (7 - m0)
                  rw [show m0 + 1 + (7 - m0) = 8 by omega] at hc9
                  have hroom : pn + cnT sg0 m0 < 90 := by omega
                  refine lv_aload hx hb d_SF_type_62 (lv_at hl 3 rfl) ?_
                  refine lv_iload hx hb d_SF_type_64 (lv_at hl 0 rfl) ?_
                  refine lv_i2c hx hb d_SF_type_66 rfl ?_
                  refine m_callv hw (m_runV (As := [.int (((nI (byt sg0 (7 - m0))).toUInt32 % 65536).toInt32)]) (rest := []) hc hE hw (c_Signs_append G l H.size fw hsw (((nI (byt sg0 (7 - m0))).toUInt32 % 65536).toInt32)) hsw.1 rfl cw_SF_56 se_Signs_append rfl hl.1 rfl (Nat.le_of_ble_eq_true rfl) d_SF_type_67 ⟨rfl, rfl, by decide, by decide⟩ ⟨by first | decide | (dsimp only; omega), by first | decide | (dsimp only; omega)⟩) (fun g21 H locs p20 hw => ?_)
                  have hfn := p20.1 hroom
                  rw [i2c_b _ hbl] at hfn
                  refine lv_iinc (v := (shv (m0 + 1))) (lv' := [(6, .int (shv (m0 + 1))), (7, .int (nI (byt sg0 (7 - m0)))), (5, .int (nI (cnT sg0 8))), (4, .ref A0), (0, .ref root), (1, .int x), (2, .long sg0)]) hx hb d_SF_type_70 hl (k := 1) rfl (shv_n m0 hm8) (by decide) rfl (fun ls hl => ?_)
                  refine lv_goto (tgt := 44) hx hb d_SF_type_73 (by decide) ?_
                  have hRn := (hRw.up 1 (by omega) (.inl (G.2.1 1, 90, .inl (upd (apT pt pn sg0 m0) (pn + cnT sg0 m0) (nI (byt sg0 (7 - m0))))))).up 0 (by omega) (.inr (CI_Signs, [.ref (ad 1), .int (nI (pn + cnT sg0 m0 + 1))]))
                  rw [← eA0, ← eA1] at hRn
                  have hBn := hBw.app (N := N) hroom _ (nar_b _ hbl)
                  exact ih (m0 + 1) _ _ ls H locs (by omega) (by omega) (by rw [hfn]; exact hRn) (by rw [apT_n hz, show pn + cnT sg0 (m0 + 1) = pn + cnT sg0 m0 + 1 by rw [hcc]; rfl, eA1]; exact hBn) (fun k h1 h2 => by rw [va_up_ne _ _ h1, va_up_ne _ _ h2]; exact hEw k h1 h2) hw (lv_sub hl [0, 2, 3, 4, 5, 6] rfl)
          exact loop 9 0 f E ls H locs (by decide) (by decide) hRg hPB (fun _ _ _ => rfl) hw (lv_sub hl [0, 1, 2, 3, 4, 5] rfl)
        · refine lv_bipush (v := (-3)) hx hb d_SF_type_37 (by decide) ?_
          have hle8 : nI (cnT sg0 8) ≤ nI 90 - nI pn ↔ pn + cnT sg0 8 ≤ 90 := by
            have := hPB.2.2.1
            rw [pk_sub (by omega), nI_leI (by omega) (by omega)]; omega
          have hno8 : ¬ pn + cnT sg0 8 ≤ 90 := fun z => (bI_0.mp (p8.symm.trans c11)) (hle8.mpr z)
          exact m_iret hc hr hlk hw ⟨by first | decide | (dsimp only; omega), by first | decide | (dsimp only; omega)⟩ d_SF_type_39 ⟨fun _ => ⟨fun z => absurd hok8 z, fun _ _ => ⟨rfl, ⟨E, g, hRg, gle.rf, fun _ _ => rfl, hS0⟩⟩, fun _ z => absurd z hno8⟩, fun z => absurd (hbx.symm.trans z) (by decide), fun z => absurd (hbx.symm.trans z) (by decide), fun z0 z1 z2 => absurd hbx z0⟩
      · refine lv_iconst (v := (-1)) hx hb d_SF_type_25 (by decide) ?_
        exact absurd (nI_pos' (by omega)) c7
    · rw [pif_f hok8] at hv8; subst hv8
      refine lv_istore (lv' := [(5, .int (-1)), (4, .ref A0), (0, .ref root), (1, .int x), (2, .long sg0)]) hx hb d_SF_type_18 hl (by decide) rfl (fun ls hl => ?_)
      refine lv_iload hx hb d_SF_type_20 (lv_at hl 0 rfl) ?_
      refine lv_if_ge (tgt := 27) hx hb d_SF_type_22 (by decide) (fun z => absurd z (by decide)) (fun _ => ?_)
      refine lv_iconst (v := (-1)) hx hb d_SF_type_25 (by decide) ?_
      exact m_iret hc hr hlk hw ⟨by first | decide | (dsimp only; omega), by first | decide | (dsimp only; omega)⟩ d_SF_type_26 ⟨fun _ => ⟨fun _ => ⟨rfl, ⟨E, g, hRg, gle.rf, fun _ _ => rfl, hS0⟩⟩, fun z => absurd z hok8, fun z => absurd z hok8⟩, fun z => absurd (hbx.symm.trans z) (by decide), fun z => absurd (hbx.symm.trans z) (by decide), fun z0 z1 z2 => absurd hbx z0⟩
  · rw [← eA3] at hv; subst hv
    refine lv_astore (lv' := [(4, .ref A3), (0, .ref root), (1, .int x), (2, .long sg0)]) hx hb d_SF_type_5 hl (by decide) rfl (fun ls hl => ?_)
    refine lv_aload hx hb d_SF_type_7 (lv_at hl 0 rfl) ?_
    refine lv_ifnonnull (tgt := 14) hx hb d_SF_type_9 (by decide) ?_
    refine lv_lload_n hx hb d_SF_type_14 rfl (lv_at hl 3 rfl) ?_
    refine m_calli hw (m_runS (As := [.long sg0]) (rest := []) hc hE hw (c_SF_countSigns G l H.size f sg0) cw_SF_44 ss_SF_countSigns rfl hl.1 rfl (Nat.le_of_ble_eq_true rfl) d_SF_type_15 ⟨rfl, rfl, by decide, by decide⟩ ⟨by first | decide | (dsimp only; omega), by first | decide | (dsimp only; omega)⟩) (fun r24 g23 H locs p22 hw => ?_)
    obtain ⟨rfl, hv8⟩ := p22
    by_cases hok8 : (∀ k, k < 8 → okb (byt sg0 k))
    · rw [pif_t hok8] at hv8; subst hv8
      have hc8 := cnT_le sg0 8
      refine lv_istore (lv' := [(5, .int (nI (cnT sg0 8))), (4, .ref A3), (0, .ref root), (1, .int x), (2, .long sg0)]) hx hb d_SF_type_18 hl (by decide) rfl (fun ls hl => ?_)
      refine lv_iload hx hb d_SF_type_20 (lv_at hl 0 rfl) ?_
      refine lv_if_ge (tgt := 27) hx hb d_SF_type_22 (by decide) (fun c25 => ?_) (fun c25 => ?_)
      · refine lv_aload hx hb d_SF_type_27 (lv_at hl 1 rfl) ?_
        refine lv_iload hx hb d_SF_type_29 (lv_at hl 0 rfl) ?_
        refine m_calli hw (m_runV (As := [.int (nI (cnT sg0 8))]) (rest := []) hc hE hw (c_Signs_hasRoomFor G l H.size f hsN (nI (cnT sg0 8))) hsN.1 rfl cw_SF_48 se_Signs_hasRoomFor rfl hl.1 rfl (Nat.le_of_ble_eq_true rfl) d_SF_type_31 ⟨rfl, rfl, by decide, by decide⟩ ⟨by first | decide | (dsimp only; omega), by first | decide | (dsimp only; omega)⟩) (fun r28 g27 H locs p26 hw => ?_)
        obtain ⟨rfl, p26⟩ := p26
        refine lv_if_ne (tgt := 40) hx hb d_SF_type_34 (by decide) (fun c29 => ?_) (fun c29 => ?_)
        · refine lv_bipush (v := 56) hx hb d_SF_type_40 (by decide) ?_
          refine lv_istore (lv' := [(6, .int 56), (5, .int (nI (cnT sg0 8))), (4, .ref A3), (0, .ref root), (1, .int x), (2, .long sg0)]) hx hb d_SF_type_42 hl (by decide) rfl (fun ls hl => ?_)
          have hrm8 : nn + cnT sg0 8 ≤ 40 := by
            have h1 := bI_n.mp (fun z => c29 (p26.trans z))
            have := hNB.2.2.1
            rw [pk_sub (by omega), nI_leI (by omega) (by omega)] at h1; omega
          have loop : ∀ (fu : Nat) (m0 : Nat) (fw : Wd) (Ew : Nat → va_E) (ls : Array Slot) (H : Heap) (locs : List Loc), 8 - m0 < fu → m0 ≤ 8 → Rg N ad Ew g fw → BF G ad Ew 3 40 (nn + cnT sg0 m0) (apT nt nn sg0 m0) → (∀ k, k ≠ 3 → k ≠ 4 → Ew k = E k) → ms G.1 (Af f sz) fw s H locs → lv_has ls 8 [(6, .int (shv m0)), (5, .int (nI (cnT sg0 8))), (4, .ref A3), (0, .ref root), (1, .int x), (2, .long sg0)] → W p l e ({ frames := 2, cells := 0, slots := 0, locals := 47 }) s m ([.ref root, .int x, .long sg0] : List Value).toArray below meth c H locs 0 0 (MQ below (va_Qi (fun v f' => (x = 0 → (¬ (∀ k, k < 8 → okb (byt sg0 k)) → v = -1 ∧ SCR G N ad E g root f' pn pt nn nt mn mt dp rf by_ co tx lx fl) ∧ ((∀ k, k < 8 → okb (byt sg0 k)) → ¬ pn + cnT sg0 8 ≤ 90 → v = -3 ∧ SCR G N ad E g root f' pn pt nn nt mn mt dp rf by_ co tx lx fl) ∧ ((∀ k, k < 8 → okb (byt sg0 k)) → pn + cnT sg0 8 ≤ 90 → v = nI (pn + cnT sg0 8) ∧ SCR G N ad E g root f' (pn + cnT sg0 8) (apT pt pn sg0 8) nn nt mn mt dp rf by_ co tx lx fl)) ∧ (x = 1 → (¬ (∀ k, k < 8 → okb (byt sg0 k)) → v = -1 ∧ SCR G N ad E g root f' pn pt nn nt mn mt dp rf by_ co tx lx fl) ∧ ((∀ k, k < 8 → okb (byt sg0 k)) → ¬ nn + cnT sg0 8 ≤ 40 → v = -3 ∧ SCR G N ad E g root f' pn pt nn nt mn mt dp rf by_ co tx lx fl) ∧ ((∀ k, k < 8 → okb (byt sg0 k)) → nn + cnT sg0 8 ≤ 40 → v = nI (nn + cnT sg0 8) ∧ SCR G N ad E g root f' pn pt (nn + cnT sg0 8) (apT nt nn sg0 8) mn mt dp rf by_ co tx lx fl)) ∧ (x = 2 → (¬ (∀ k, k < 8 → okb (byt sg0 k)) → v = -1 ∧ SCR G N ad E g root f' pn pt nn nt mn mt dp rf by_ co tx lx fl) ∧ ((∀ k, k < 8 → okb (byt sg0 k)) → ¬ mn + cnT sg0 8 ≤ 12 → v = -3 ∧ SCR G N ad E g root f' pn pt nn nt mn mt dp rf by_ co tx lx fl) ∧ ((∀ k, k < 8 → okb (byt sg0 k)) → mn + cnT sg0 8 ≤ 12 → v = nI (mn + cnT sg0 8) ∧ SCR G N ad E g root f' pn pt nn nt (mn + cnT sg0 8) (apT mt mn sg0 8) dp rf by_ co tx lx fl)) ∧ (¬ x = 0 → ¬ x = 1 → ¬ x = 2 → v = -1 ∧ SCR G N ad E g root f' pn pt nn nt mn mt dp rf by_ co tx lx fl)) (Bw G f sz) (Af f sz)) ([.ref root, .int x, .long sg0] : List Value).toArray s 0 0 (Af f sz)) (F0 m 44 ls []) := by
            intro fu
            induction fu with
            | zero => intro m0 fw Ew ls H locs h0; exact absurd h0 (Nat.not_lt_zero _)
            | succ fu ih =>
              intro m0 fw Ew ls H locs hfu hm hRw hBw hEw hw hl
              have hsw : sg G fw A3 A4 40 (nn + cnT sg0 m0) (apT nt nn sg0 m0) := by rw [eA3, eA4]; exact hBw.sg hRw (by omega) (by omega)
              refine lv_iload hx hb d_SF_type_44 (lv_at hl 0 rfl) ?_
              refine lv_if_lt (tgt := 76) hx hb d_SF_type_46 (by decide) (fun c30 => ?_) (fun c30 => ?_)
              · refine lv_aload hx hb d_SF_type_76 (lv_at hl 2 rfl) ?_
                refine m_calli hw (m_runV (As := []) (rest := []) hc hE hw (c_Signs_length G l H.size fw hsw) hsw.1 rfl cw_SF_60 se_Signs_length rfl hl.1 rfl (Nat.le_of_ble_eq_true rfl) d_SF_type_78 ⟨rfl, rfl, by decide, by decide⟩ ⟨by first | decide | (dsimp only; omega), by first | decide | (dsimp only; omega)⟩) (fun r33 g32 H locs p31 hw => ?_)
                obtain ⟨rfl, p31⟩ := p31
                subst p31
                have hm9 : m0 = 8 := by
                  rcases Nat.lt_or_ge m0 8 with z | z
                  · exact absurd c30 (shv_p m0 z)
                  · omega
                subst hm9
                exact m_iret hc hr hlk hw ⟨by first | decide | (dsimp only; omega), by first | decide | (dsimp only; omega)⟩ d_SF_type_81 ⟨fun z => absurd (hbx.symm.trans z) (by decide), fun _ => ⟨fun z => absurd hok8 z, fun _ z => absurd hrm8 z, fun _ _ => ⟨rfl, Ew, g, hRw, gle.rf, fun k hk => hEw k (by omega) (by omega), hS0.n _ _ hBw hEw⟩⟩, fun z => absurd (hbx.symm.trans z) (by decide), fun z0 z1 z2 => absurd hbx z1⟩
              · have hm8 : m0 < 8 := by
                  rcases Nat.lt_or_ge m0 8 with z | z
                  · exact z
                  · exact absurd (by rw [show m0 = 8 by omega]; decide) c30
                refine lv_lload_n hx hb d_SF_type_49 rfl (lv_at hl 5 rfl) ?_
                refine lv_iload hx hb d_SF_type_50 (lv_at hl 0 rfl) ?_
                refine m_top (y := nI (8 * (7 - m0))) (shv_e m0 hm8) ?_
                refine m_calli hw (m_runS (As := [.long sg0, .int (nI (8 * (7 - m0)))]) (rest := []) hc hE hw (c_SF_byteAt G l H.size fw sg0 (k := 7 - m0) (by omega)) cw_SF_52 ss_SF_byteAt rfl hl.1 rfl (Nat.le_of_ble_eq_true rfl) d_SF_type_52 ⟨rfl, rfl, by decide, by decide⟩ ⟨by first | decide | (dsimp only; omega), by first | decide | (dsimp only; omega)⟩) (fun r36 g35 H locs p34 hw => ?_)
                obtain ⟨rfl, p34⟩ := p34
                subst p34
                have hbl := byt_lt sg0 (7 - m0)
                refine lv_istore (lv' := [(7, .int (nI (byt sg0 (7 - m0)))), (6, .int (shv m0)), (5, .int (nI (cnT sg0 8))), (4, .ref A3), (0, .ref root), (1, .int x), (2, .long sg0)]) hx hb d_SF_type_55 hl (by decide) rfl (fun ls hl => ?_)
                refine lv_iload hx hb d_SF_type_57 (lv_at hl 0 rfl) ?_
                refine lv_if_eq (tgt := 70) hx hb d_SF_type_59 (by decide) (fun c37 => ?_) (fun c37 => ?_)
                · refine lv_iinc (v := (shv (m0 + 1))) (lv' := [(6, .int (shv (m0 + 1))), (7, .int (nI (byt sg0 (7 - m0)))), (5, .int (nI (cnT sg0 8))), (4, .ref A3), (0, .ref root), (1, .int x), (2, .long sg0)]) hx hb d_SF_type_70 hl (k := 1) rfl (shv_n m0 hm8) (by decide) rfl (fun ls hl => ?_)
                  refine lv_goto (tgt := 44) hx hb d_SF_type_73 (by decide) ?_
                  have hz : byt sg0 (7 - m0) = 0 := (nI_eq (b := 0) (by omega) (by decide)).mp c37
                  exact ih (m0 + 1) fw Ew ls H locs (by omega) (by omega) hRw (by rw [cnT_z hz, apT_z hz]; exact hBw) hEw hw (lv_sub hl [0, 2, 3, 4, 5, 6] rfl)
                · have hz : ¬ byt sg0 (7 - m0) = 0 := fun z => c37 (by rw [z]; rfl)
                  have hcc := cnT_n hz
                  have hc9 := cnT_mono sg0 (m0 + 1) (7 - m0)
                  rw [show m0 + 1 + (7 - m0) = 8 by omega] at hc9
                  have hroom : nn + cnT sg0 m0 < 40 := by omega
                  refine lv_aload hx hb d_SF_type_62 (lv_at hl 3 rfl) ?_
                  refine lv_iload hx hb d_SF_type_64 (lv_at hl 0 rfl) ?_
                  refine lv_i2c hx hb d_SF_type_66 rfl ?_
                  refine m_callv hw (m_runV (As := [.int (((nI (byt sg0 (7 - m0))).toUInt32 % 65536).toInt32)]) (rest := []) hc hE hw (c_Signs_append G l H.size fw hsw (((nI (byt sg0 (7 - m0))).toUInt32 % 65536).toInt32)) hsw.1 rfl cw_SF_56 se_Signs_append rfl hl.1 rfl (Nat.le_of_ble_eq_true rfl) d_SF_type_67 ⟨rfl, rfl, by decide, by decide⟩ ⟨by first | decide | (dsimp only; omega), by first | decide | (dsimp only; omega)⟩) (fun g39 H locs p38 hw => ?_)
                  have hfn := p38.1 hroom
                  rw [i2c_b _ hbl] at hfn
                  refine lv_iinc (v := (shv (m0 + 1))) (lv' := [(6, .int (shv (m0 + 1))), (7, .int (nI (byt sg0 (7 - m0)))), (5, .int (nI (cnT sg0 8))), (4, .ref A3), (0, .ref root), (1, .int x), (2, .long sg0)]) hx hb d_SF_type_70 hl (k := 1) rfl (shv_n m0 hm8) (by decide) rfl (fun ls hl => ?_)
                  refine lv_goto (tgt := 44) hx hb d_SF_type_73 (by decide) ?_
                  have hRn := (hRw.up 4 (by omega) (.inl (G.2.1 1, 40, .inl (upd (apT nt nn sg0 m0) (nn + cnT sg0 m0) (nI (byt sg0 (7 - m0))))))).up 3 (by omega) (.inr (CI_Signs, [.ref (ad 4), .int (nI (nn + cnT sg0 m0 + 1))]))
                  rw [← eA3, ← eA4] at hRn
                  have hBn := hBw.app (N := N) hroom _ (nar_b _ hbl)
                  exact ih (m0 + 1) _ _ ls H locs (by omega) (by omega) (by rw [hfn]; exact hRn) (by rw [apT_n hz, show nn + cnT sg0 (m0 + 1) = nn + cnT sg0 m0 + 1 by rw [hcc]; rfl, eA4]; exact hBn) (fun k h1 h2 => by rw [va_up_ne _ _ h1, va_up_ne _ _ h2]; exact hEw k h1 h2) hw (lv_sub hl [0, 2, 3, 4, 5, 6] rfl)
          exact loop 9 0 f E ls H locs (by decide) (by decide) hRg hNB (fun _ _ _ => rfl) hw (lv_sub hl [0, 1, 2, 3, 4, 5] rfl)
        · refine lv_bipush (v := (-3)) hx hb d_SF_type_37 (by decide) ?_
          have hle8 : nI (cnT sg0 8) ≤ nI 40 - nI nn ↔ nn + cnT sg0 8 ≤ 40 := by
            have := hNB.2.2.1
            rw [pk_sub (by omega), nI_leI (by omega) (by omega)]; omega
          have hno8 : ¬ nn + cnT sg0 8 ≤ 40 := fun z => (bI_0.mp (p26.symm.trans c29)) (hle8.mpr z)
          exact m_iret hc hr hlk hw ⟨by first | decide | (dsimp only; omega), by first | decide | (dsimp only; omega)⟩ d_SF_type_39 ⟨fun z => absurd (hbx.symm.trans z) (by decide), fun _ => ⟨fun z => absurd hok8 z, fun _ _ => ⟨rfl, ⟨E, g, hRg, gle.rf, fun _ _ => rfl, hS0⟩⟩, fun _ z => absurd z hno8⟩, fun z => absurd (hbx.symm.trans z) (by decide), fun z0 z1 z2 => absurd hbx z1⟩
      · refine lv_iconst (v := (-1)) hx hb d_SF_type_25 (by decide) ?_
        exact absurd (nI_pos' (by omega)) c25
    · rw [pif_f hok8] at hv8; subst hv8
      refine lv_istore (lv' := [(5, .int (-1)), (4, .ref A3), (0, .ref root), (1, .int x), (2, .long sg0)]) hx hb d_SF_type_18 hl (by decide) rfl (fun ls hl => ?_)
      refine lv_iload hx hb d_SF_type_20 (lv_at hl 0 rfl) ?_
      refine lv_if_ge (tgt := 27) hx hb d_SF_type_22 (by decide) (fun z => absurd z (by decide)) (fun _ => ?_)
      refine lv_iconst (v := (-1)) hx hb d_SF_type_25 (by decide) ?_
      exact m_iret hc hr hlk hw ⟨by first | decide | (dsimp only; omega), by first | decide | (dsimp only; omega)⟩ d_SF_type_26 ⟨fun z => absurd (hbx.symm.trans z) (by decide), fun _ => ⟨fun _ => ⟨rfl, ⟨E, g, hRg, gle.rf, fun _ _ => rfl, hS0⟩⟩, fun z => absurd z hok8, fun z => absurd z hok8⟩, fun z => absurd (hbx.symm.trans z) (by decide), fun z0 z1 z2 => absurd hbx z1⟩
  · rw [← eA5] at hv; subst hv
    refine lv_astore (lv' := [(4, .ref A5), (0, .ref root), (1, .int x), (2, .long sg0)]) hx hb d_SF_type_5 hl (by decide) rfl (fun ls hl => ?_)
    refine lv_aload hx hb d_SF_type_7 (lv_at hl 0 rfl) ?_
    refine lv_ifnonnull (tgt := 14) hx hb d_SF_type_9 (by decide) ?_
    refine lv_lload_n hx hb d_SF_type_14 rfl (lv_at hl 3 rfl) ?_
    refine m_calli hw (m_runS (As := [.long sg0]) (rest := []) hc hE hw (c_SF_countSigns G l H.size f sg0) cw_SF_44 ss_SF_countSigns rfl hl.1 rfl (Nat.le_of_ble_eq_true rfl) d_SF_type_15 ⟨rfl, rfl, by decide, by decide⟩ ⟨by first | decide | (dsimp only; omega), by first | decide | (dsimp only; omega)⟩) (fun r42 g41 H locs p40 hw => ?_)
    obtain ⟨rfl, hv8⟩ := p40
    by_cases hok8 : (∀ k, k < 8 → okb (byt sg0 k))
    · rw [pif_t hok8] at hv8; subst hv8
      have hc8 := cnT_le sg0 8
      refine lv_istore (lv' := [(5, .int (nI (cnT sg0 8))), (4, .ref A5), (0, .ref root), (1, .int x), (2, .long sg0)]) hx hb d_SF_type_18 hl (by decide) rfl (fun ls hl => ?_)
      refine lv_iload hx hb d_SF_type_20 (lv_at hl 0 rfl) ?_
      refine lv_if_ge (tgt := 27) hx hb d_SF_type_22 (by decide) (fun c43 => ?_) (fun c43 => ?_)
      · refine lv_aload hx hb d_SF_type_27 (lv_at hl 1 rfl) ?_
        refine lv_iload hx hb d_SF_type_29 (lv_at hl 0 rfl) ?_
        refine m_calli hw (m_runV (As := [.int (nI (cnT sg0 8))]) (rest := []) hc hE hw (c_Signs_hasRoomFor G l H.size f hsM (nI (cnT sg0 8))) hsM.1 rfl cw_SF_48 se_Signs_hasRoomFor rfl hl.1 rfl (Nat.le_of_ble_eq_true rfl) d_SF_type_31 ⟨rfl, rfl, by decide, by decide⟩ ⟨by first | decide | (dsimp only; omega), by first | decide | (dsimp only; omega)⟩) (fun r46 g45 H locs p44 hw => ?_)
        obtain ⟨rfl, p44⟩ := p44
        refine lv_if_ne (tgt := 40) hx hb d_SF_type_34 (by decide) (fun c47 => ?_) (fun c47 => ?_)
        · refine lv_bipush (v := 56) hx hb d_SF_type_40 (by decide) ?_
          refine lv_istore (lv' := [(6, .int 56), (5, .int (nI (cnT sg0 8))), (4, .ref A5), (0, .ref root), (1, .int x), (2, .long sg0)]) hx hb d_SF_type_42 hl (by decide) rfl (fun ls hl => ?_)
          have hrm8 : mn + cnT sg0 8 ≤ 12 := by
            have h1 := bI_n.mp (fun z => c47 (p44.trans z))
            have := hMB.2.2.1
            rw [pk_sub (by omega), nI_leI (by omega) (by omega)] at h1; omega
          have loop : ∀ (fu : Nat) (m0 : Nat) (fw : Wd) (Ew : Nat → va_E) (ls : Array Slot) (H : Heap) (locs : List Loc), 8 - m0 < fu → m0 ≤ 8 → Rg N ad Ew g fw → BF G ad Ew 5 12 (mn + cnT sg0 m0) (apT mt mn sg0 m0) → (∀ k, k ≠ 5 → k ≠ 6 → Ew k = E k) → ms G.1 (Af f sz) fw s H locs → lv_has ls 8 [(6, .int (shv m0)), (5, .int (nI (cnT sg0 8))), (4, .ref A5), (0, .ref root), (1, .int x), (2, .long sg0)] → W p l e ({ frames := 2, cells := 0, slots := 0, locals := 47 }) s m ([.ref root, .int x, .long sg0] : List Value).toArray below meth c H locs 0 0 (MQ below (va_Qi (fun v f' => (x = 0 → (¬ (∀ k, k < 8 → okb (byt sg0 k)) → v = -1 ∧ SCR G N ad E g root f' pn pt nn nt mn mt dp rf by_ co tx lx fl) ∧ ((∀ k, k < 8 → okb (byt sg0 k)) → ¬ pn + cnT sg0 8 ≤ 90 → v = -3 ∧ SCR G N ad E g root f' pn pt nn nt mn mt dp rf by_ co tx lx fl) ∧ ((∀ k, k < 8 → okb (byt sg0 k)) → pn + cnT sg0 8 ≤ 90 → v = nI (pn + cnT sg0 8) ∧ SCR G N ad E g root f' (pn + cnT sg0 8) (apT pt pn sg0 8) nn nt mn mt dp rf by_ co tx lx fl)) ∧ (x = 1 → (¬ (∀ k, k < 8 → okb (byt sg0 k)) → v = -1 ∧ SCR G N ad E g root f' pn pt nn nt mn mt dp rf by_ co tx lx fl) ∧ ((∀ k, k < 8 → okb (byt sg0 k)) → ¬ nn + cnT sg0 8 ≤ 40 → v = -3 ∧ SCR G N ad E g root f' pn pt nn nt mn mt dp rf by_ co tx lx fl) ∧ ((∀ k, k < 8 → okb (byt sg0 k)) → nn + cnT sg0 8 ≤ 40 → v = nI (nn + cnT sg0 8) ∧ SCR G N ad E g root f' pn pt (nn + cnT sg0 8) (apT nt nn sg0 8) mn mt dp rf by_ co tx lx fl)) ∧ (x = 2 → (¬ (∀ k, k < 8 → okb (byt sg0 k)) → v = -1 ∧ SCR G N ad E g root f' pn pt nn nt mn mt dp rf by_ co tx lx fl) ∧ ((∀ k, k < 8 → okb (byt sg0 k)) → ¬ mn + cnT sg0 8 ≤ 12 → v = -3 ∧ SCR G N ad E g root f' pn pt nn nt mn mt dp rf by_ co tx lx fl) ∧ ((∀ k, k < 8 → okb (byt sg0 k)) → mn + cnT sg0 8 ≤ 12 → v = nI (mn + cnT sg0 8) ∧ SCR G N ad E g root f' pn pt nn nt (mn + cnT sg0 8) (apT mt mn sg0 8) dp rf by_ co tx lx fl)) ∧ (¬ x = 0 → ¬ x = 1 → ¬ x = 2 → v = -1 ∧ SCR G N ad E g root f' pn pt nn nt mn mt dp rf by_ co tx lx fl)) (Bw G f sz) (Af f sz)) ([.ref root, .int x, .long sg0] : List Value).toArray s 0 0 (Af f sz)) (F0 m 44 ls []) := by
            intro fu
            induction fu with
            | zero => intro m0 fw Ew ls H locs h0; exact absurd h0 (Nat.not_lt_zero _)
            | succ fu ih =>
              intro m0 fw Ew ls H locs hfu hm hRw hBw hEw hw hl
              have hsw : sg G fw A5 A6 12 (mn + cnT sg0 m0) (apT mt mn sg0 m0) := by rw [eA5, eA6]; exact hBw.sg hRw (by omega) (by omega)
              refine lv_iload hx hb d_SF_type_44 (lv_at hl 0 rfl) ?_
              refine lv_if_lt (tgt := 76) hx hb d_SF_type_46 (by decide) (fun c48 => ?_) (fun c48 => ?_)
              · refine lv_aload hx hb d_SF_type_76 (lv_at hl 2 rfl) ?_
                refine m_calli hw (m_runV (As := []) (rest := []) hc hE hw (c_Signs_length G l H.size fw hsw) hsw.1 rfl cw_SF_60 se_Signs_length rfl hl.1 rfl (Nat.le_of_ble_eq_true rfl) d_SF_type_78 ⟨rfl, rfl, by decide, by decide⟩ ⟨by first | decide | (dsimp only; omega), by first | decide | (dsimp only; omega)⟩) (fun r51 g50 H locs p49 hw => ?_)
                obtain ⟨rfl, p49⟩ := p49
                subst p49
                have hm9 : m0 = 8 := by
                  rcases Nat.lt_or_ge m0 8 with z | z
                  · exact absurd c48 (shv_p m0 z)
                  · omega
                subst hm9
                exact m_iret hc hr hlk hw ⟨by first | decide | (dsimp only; omega), by first | decide | (dsimp only; omega)⟩ d_SF_type_81 ⟨fun z => absurd (hbx.symm.trans z) (by decide), fun z => absurd (hbx.symm.trans z) (by decide), fun _ => ⟨fun z => absurd hok8 z, fun _ z => absurd hrm8 z, fun _ _ => ⟨rfl, Ew, g, hRw, gle.rf, fun k hk => hEw k (by omega) (by omega), hS0.m _ _ hBw hEw⟩⟩, fun z0 z1 z2 => absurd hbx z2⟩
              · have hm8 : m0 < 8 := by
                  rcases Nat.lt_or_ge m0 8 with z | z
                  · exact z
                  · exact absurd (by rw [show m0 = 8 by omega]; decide) c48
                refine lv_lload_n hx hb d_SF_type_49 rfl (lv_at hl 5 rfl) ?_
                refine lv_iload hx hb d_SF_type_50 (lv_at hl 0 rfl) ?_
                refine m_top (y := nI (8 * (7 - m0))) (shv_e m0 hm8) ?_
                refine m_calli hw (m_runS (As := [.long sg0, .int (nI (8 * (7 - m0)))]) (rest := []) hc hE hw (c_SF_byteAt G l H.size fw sg0 (k := 7 - m0) (by omega)) cw_SF_52 ss_SF_byteAt rfl hl.1 rfl (Nat.le_of_ble_eq_true rfl) d_SF_type_52 ⟨rfl, rfl, by decide, by decide⟩ ⟨by first | decide | (dsimp only; omega), by first | decide | (dsimp only; omega)⟩) (fun r54 g53 H locs p52 hw => ?_)
                obtain ⟨rfl, p52⟩ := p52
                subst p52
                have hbl := byt_lt sg0 (7 - m0)
                refine lv_istore (lv' := [(7, .int (nI (byt sg0 (7 - m0)))), (6, .int (shv m0)), (5, .int (nI (cnT sg0 8))), (4, .ref A5), (0, .ref root), (1, .int x), (2, .long sg0)]) hx hb d_SF_type_55 hl (by decide) rfl (fun ls hl => ?_)
                refine lv_iload hx hb d_SF_type_57 (lv_at hl 0 rfl) ?_
                refine lv_if_eq (tgt := 70) hx hb d_SF_type_59 (by decide) (fun c55 => ?_) (fun c55 => ?_)
                · refine lv_iinc (v := (shv (m0 + 1))) (lv' := [(6, .int (shv (m0 + 1))), (7, .int (nI (byt sg0 (7 - m0)))), (5, .int (nI (cnT sg0 8))), (4, .ref A5), (0, .ref root), (1, .int x), (2, .long sg0)]) hx hb d_SF_type_70 hl (k := 1) rfl (shv_n m0 hm8) (by decide) rfl (fun ls hl => ?_)
                  refine lv_goto (tgt := 44) hx hb d_SF_type_73 (by decide) ?_
                  have hz : byt sg0 (7 - m0) = 0 := (nI_eq (b := 0) (by omega) (by decide)).mp c55
                  exact ih (m0 + 1) fw Ew ls H locs (by omega) (by omega) hRw (by rw [cnT_z hz, apT_z hz]; exact hBw) hEw hw (lv_sub hl [0, 2, 3, 4, 5, 6] rfl)
                · have hz : ¬ byt sg0 (7 - m0) = 0 := fun z => c55 (by rw [z]; rfl)
                  have hcc := cnT_n hz
                  have hc9 := cnT_mono sg0 (m0 + 1) (7 - m0)
                  rw [show m0 + 1 + (7 - m0) = 8 by omega] at hc9
                  have hroom : mn + cnT sg0 m0 < 12 := by omega
                  refine lv_aload hx hb d_SF_type_62 (lv_at hl 3 rfl) ?_
                  refine lv_iload hx hb d_SF_type_64 (lv_at hl 0 rfl) ?_
                  refine lv_i2c hx hb d_SF_type_66 rfl ?_
                  refine m_callv hw (m_runV (As := [.int (((nI (byt sg0 (7 - m0))).toUInt32 % 65536).toInt32)]) (rest := []) hc hE hw (c_Signs_append G l H.size fw hsw (((nI (byt sg0 (7 - m0))).toUInt32 % 65536).toInt32)) hsw.1 rfl cw_SF_56 se_Signs_append rfl hl.1 rfl (Nat.le_of_ble_eq_true rfl) d_SF_type_67 ⟨rfl, rfl, by decide, by decide⟩ ⟨by first | decide | (dsimp only; omega), by first | decide | (dsimp only; omega)⟩) (fun g57 H locs p56 hw => ?_)
                  have hfn := p56.1 hroom
                  rw [i2c_b _ hbl] at hfn
                  refine lv_iinc (v := (shv (m0 + 1))) (lv' := [(6, .int (shv (m0 + 1))), (7, .int (nI (byt sg0 (7 - m0)))), (5, .int (nI (cnT sg0 8))), (4, .ref A5), (0, .ref root), (1, .int x), (2, .long sg0)]) hx hb d_SF_type_70 hl (k := 1) rfl (shv_n m0 hm8) (by decide) rfl (fun ls hl => ?_)
                  refine lv_goto (tgt := 44) hx hb d_SF_type_73 (by decide) ?_
                  have hRn := (hRw.up 6 (by omega) (.inl (G.2.1 1, 12, .inl (upd (apT mt mn sg0 m0) (mn + cnT sg0 m0) (nI (byt sg0 (7 - m0))))))).up 5 (by omega) (.inr (CI_Signs, [.ref (ad 6), .int (nI (mn + cnT sg0 m0 + 1))]))
                  rw [← eA5, ← eA6] at hRn
                  have hBn := hBw.app (N := N) hroom _ (nar_b _ hbl)
                  exact ih (m0 + 1) _ _ ls H locs (by omega) (by omega) (by rw [hfn]; exact hRn) (by rw [apT_n hz, show mn + cnT sg0 (m0 + 1) = mn + cnT sg0 m0 + 1 by rw [hcc]; rfl, eA6]; exact hBn) (fun k h1 h2 => by rw [va_up_ne _ _ h1, va_up_ne _ _ h2]; exact hEw k h1 h2) hw (lv_sub hl [0, 2, 3, 4, 5, 6] rfl)
          exact loop 9 0 f E ls H locs (by decide) (by decide) hRg hMB (fun _ _ _ => rfl) hw (lv_sub hl [0, 1, 2, 3, 4, 5] rfl)
        · refine lv_bipush (v := (-3)) hx hb d_SF_type_37 (by decide) ?_
          have hle8 : nI (cnT sg0 8) ≤ nI 12 - nI mn ↔ mn + cnT sg0 8 ≤ 12 := by
            have := hMB.2.2.1
            rw [pk_sub (by omega), nI_leI (by omega) (by omega)]; omega
          have hno8 : ¬ mn + cnT sg0 8 ≤ 12 := fun z => (bI_0.mp (p44.symm.trans c47)) (hle8.mpr z)
          exact m_iret hc hr hlk hw ⟨by first | decide | (dsimp only; omega), by first | decide | (dsimp only; omega)⟩ d_SF_type_39 ⟨fun z => absurd (hbx.symm.trans z) (by decide), fun z => absurd (hbx.symm.trans z) (by decide), fun _ => ⟨fun z => absurd hok8 z, fun _ _ => ⟨rfl, ⟨E, g, hRg, gle.rf, fun _ _ => rfl, hS0⟩⟩, fun _ z => absurd z hno8⟩, fun z0 z1 z2 => absurd hbx z2⟩
      · refine lv_iconst (v := (-1)) hx hb d_SF_type_25 (by decide) ?_
        exact absurd (nI_pos' (by omega)) c43
    · rw [pif_f hok8] at hv8; subst hv8
      refine lv_istore (lv' := [(5, .int (-1)), (4, .ref A5), (0, .ref root), (1, .int x), (2, .long sg0)]) hx hb d_SF_type_18 hl (by decide) rfl (fun ls hl => ?_)
      refine lv_iload hx hb d_SF_type_20 (lv_at hl 0 rfl) ?_
      refine lv_if_ge (tgt := 27) hx hb d_SF_type_22 (by decide) (fun z => absurd z (by decide)) (fun _ => ?_)
      refine lv_iconst (v := (-1)) hx hb d_SF_type_25 (by decide) ?_
      exact m_iret hc hr hlk hw ⟨by first | decide | (dsimp only; omega), by first | decide | (dsimp only; omega)⟩ d_SF_type_26 ⟨fun z => absurd (hbx.symm.trans z) (by decide), fun z => absurd (hbx.symm.trans z) (by decide), fun _ => ⟨fun _ => ⟨rfl, ⟨E, g, hRg, gle.rf, fun _ _ => rfl, hS0⟩⟩, fun z => absurd z hok8, fun z => absurd z hok8⟩, fun z0 z1 z2 => absurd hbx z2⟩
  · subst hv
    refine lv_astoreN (lv' := [(4, .null), (0, .ref root), (1, .int x), (2, .long sg0)]) hx hb d_SF_type_5 hl (by decide) rfl (fun ls hl => ?_)
    refine lv_aloadN hx hb d_SF_type_7 (lv_at hl 0 rfl) ?_
    refine lv_ifnonnullN hx hb d_SF_type_9 ?_
    refine lv_iconst (v := (-1)) hx hb d_SF_type_12 (by decide) ?_
    exact m_iret hc hr hlk hw ⟨by first | decide | (dsimp only; omega), by first | decide | (dsimp only; omega)⟩ d_SF_type_13 ⟨fun z => absurd z hx0, fun z => absurd z hx1, fun z => absurd z hx2, fun _ _ _ => ⟨rfl, ⟨E, g, hRg, gle.rf, fun _ _ => rfl, hS0⟩⟩⟩
