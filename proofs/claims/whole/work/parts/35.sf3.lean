/-! links of the pools, as the walks ask for them -/
theorem l_SF_123_Question : lnk "StreamFilters" 123 F_Question 11 2 := ⟨by decide, "StreamFilters$Question", Or.inl rfl, Or.inl (tb 56 (by decide +kernel) rfl)⟩
theorem l_SF_126_Question : lnk "StreamFilters" 126 F_Question 11 3 := ⟨by decide, "StreamFilters$Question", Or.inl rfl, Or.inl (tb 58 (by decide +kernel) rfl)⟩
theorem l_SF_129_Question : lnk "StreamFilters" 129 F_Question 11 4 := ⟨by decide, "StreamFilters$Question", Or.inl rfl, Or.inl (tb 60 (by decide +kernel) rfl)⟩
theorem l_SF_144_Question : lnk "StreamFilters" 144 F_Question 11 8 := ⟨by decide, "StreamFilters$Question", Or.inl rfl, Or.inl (tb 71 (by decide +kernel) rfl)⟩
theorem l_SF_147_Question : lnk "StreamFilters" 147 F_Question 11 9 := ⟨by decide, "StreamFilters$Question", Or.inl rfl, Or.inl (tb 74 (by decide +kernel) rfl)⟩
theorem l_SF_150_Question : lnk "StreamFilters" 150 F_Question 11 10 := ⟨by decide, "StreamFilters$Question", Or.inl rfl, Or.inl (tb 77 (by decide +kernel) rfl)⟩
theorem cw_SF_172 : cwk "StreamFilters" 172 y_Signs_at b_Signs_at 2 (some .int) 1 := ⟨Or.inl (tb 607 (by decide +kernel) rfl), (tb 218 (by decide +kernel) rfl), (tb 2 (by decide +kernel) rfl), by decide, by decide, by decide +kernel⟩
theorem cw_SF_40 : cwk "StreamFilters" 40 y_SF_bufferAt b_SF_bufferAt 2 (some (.object "StreamFilters$Signs")) 1 := ⟨Or.inl (tb 169 (by decide +kernel) rfl), (tb 172 (by decide +kernel) rfl), (tb 1 (by decide +kernel) rfl), by decide, by decide, by decide +kernel⟩
theorem se_SF_bufferAt : Cond.instanceMethod y_SF_bufferAt ∈ TB ∧ Cond.selects "StreamFilters" y_SF_bufferAt y_SF_bufferAt ∈ TB := ⟨(tb 171 (by decide +kernel) rfl), (tbs 0 (by decide +kernel) rfl)⟩
/-! decode rows -/
theorem d_SF_stream_0 : decode b_SF_stream 0 = .ok (.iload_n 1, 1) := by decide +kernel
theorem d_SF_stream_1 : decode b_SF_stream 1 = .ok (.ifCond .lt 11, 3) := by decide +kernel
theorem d_SF_stream_4 : decode b_SF_stream 4 = .ok (.iload_n 2, 1) := by decide +kernel
theorem d_SF_stream_5 : decode b_SF_stream 5 = .ok (.ifCond .lt 7, 3) := by decide +kernel
theorem d_SF_stream_8 : decode b_SF_stream 8 = .ok (.iload_n 3, 1) := by decide +kernel
theorem d_SF_stream_9 : decode b_SF_stream 9 = .ok (.ifCond .ge 5, 3) := by decide +kernel
theorem d_SF_stream_12 : decode b_SF_stream 12 = .ok (.iconst (-1), 1) := by decide +kernel
theorem d_SF_stream_13 : decode b_SF_stream 13 = .ok (.ireturn, 1) := by decide +kernel
theorem d_SF_stream_14 : decode b_SF_stream 14 = .ok (.aload_n 0, 1) := by decide +kernel
theorem d_SF_stream_15 : decode b_SF_stream 15 = .ok (.getfield 21, 3) := by decide +kernel
theorem d_SF_stream_18 : decode b_SF_stream 18 = .ok (.iload_n 1, 1) := by decide +kernel
theorem d_SF_stream_19 : decode b_SF_stream 19 = .ok (.putfield 123, 3) := by decide +kernel
theorem d_SF_stream_22 : decode b_SF_stream 22 = .ok (.aload_n 0, 1) := by decide +kernel
theorem d_SF_stream_23 : decode b_SF_stream 23 = .ok (.getfield 21, 3) := by decide +kernel
theorem d_SF_stream_26 : decode b_SF_stream 26 = .ok (.iload_n 2, 1) := by decide +kernel
theorem d_SF_stream_27 : decode b_SF_stream 27 = .ok (.putfield 126, 3) := by decide +kernel
theorem d_SF_stream_30 : decode b_SF_stream 30 = .ok (.aload_n 0, 1) := by decide +kernel
theorem d_SF_stream_31 : decode b_SF_stream 31 = .ok (.getfield 21, 3) := by decide +kernel
theorem d_SF_stream_34 : decode b_SF_stream 34 = .ok (.iload_n 3, 1) := by decide +kernel
theorem d_SF_stream_35 : decode b_SF_stream 35 = .ok (.putfield 129, 3) := by decide +kernel
theorem d_SF_stream_38 : decode b_SF_stream 38 = .ok (.iconst 0, 1) := by decide +kernel
theorem d_SF_stream_39 : decode b_SF_stream 39 = .ok (.ireturn, 1) := by decide +kernel
theorem d_SF_trace_0 : decode b_SF_trace 0 = .ok (.iload_n 1, 1) := by decide +kernel
theorem d_SF_trace_1 : decode b_SF_trace 1 = .ok (.tableswitch 51 0 2 #[27, 35, 43], 27) := by decide +kernel
theorem d_SF_trace_28 : decode b_SF_trace 28 = .ok (.aload_n 0, 1) := by decide +kernel
theorem d_SF_trace_29 : decode b_SF_trace 29 = .ok (.getfield 21, 3) := by decide +kernel
theorem d_SF_trace_32 : decode b_SF_trace 32 = .ok (.getfield 144, 3) := by decide +kernel
theorem d_SF_trace_35 : decode b_SF_trace 35 = .ok (.ireturn, 1) := by decide +kernel
theorem d_SF_trace_36 : decode b_SF_trace 36 = .ok (.aload_n 0, 1) := by decide +kernel
theorem d_SF_trace_37 : decode b_SF_trace 37 = .ok (.getfield 21, 3) := by decide +kernel
theorem d_SF_trace_40 : decode b_SF_trace 40 = .ok (.getfield 147, 3) := by decide +kernel
theorem d_SF_trace_43 : decode b_SF_trace 43 = .ok (.ireturn, 1) := by decide +kernel
theorem d_SF_trace_44 : decode b_SF_trace 44 = .ok (.aload_n 0, 1) := by decide +kernel
theorem d_SF_trace_45 : decode b_SF_trace 45 = .ok (.getfield 21, 3) := by decide +kernel
theorem d_SF_trace_48 : decode b_SF_trace 48 = .ok (.getfield 150, 3) := by decide +kernel
theorem d_SF_trace_51 : decode b_SF_trace 51 = .ok (.ireturn, 1) := by decide +kernel
theorem d_SF_trace_52 : decode b_SF_trace 52 = .ok (.iconst (-1), 1) := by decide +kernel
theorem d_SF_trace_53 : decode b_SF_trace 53 = .ok (.ireturn, 1) := by decide +kernel
theorem d_SF_sign_0 : decode b_SF_sign 0 = .ok (.aload_n 0, 1) := by decide +kernel
theorem d_SF_sign_1 : decode b_SF_sign 1 = .ok (.iload_n 1, 1) := by decide +kernel
theorem d_SF_sign_2 : decode b_SF_sign 2 = .ok (.invokevirtual 40, 3) := by decide +kernel
theorem d_SF_sign_5 : decode b_SF_sign 5 = .ok (.astore_n 3, 1) := by decide +kernel
theorem d_SF_sign_6 : decode b_SF_sign 6 = .ok (.aload_n 3, 1) := by decide +kernel
theorem d_SF_sign_7 : decode b_SF_sign 7 = .ok (.ifnonnull 7, 3) := by decide +kernel
theorem d_SF_sign_10 : decode b_SF_sign 10 = .ok (.iconst (-1), 1) := by decide +kernel
theorem d_SF_sign_11 : decode b_SF_sign 11 = .ok (.goto 8, 3) := by decide +kernel
theorem d_SF_sign_14 : decode b_SF_sign 14 = .ok (.aload_n 3, 1) := by decide +kernel
theorem d_SF_sign_15 : decode b_SF_sign 15 = .ok (.iload_n 2, 1) := by decide +kernel
theorem d_SF_sign_16 : decode b_SF_sign 16 = .ok (.invokevirtual 172, 3) := by decide +kernel
theorem d_SF_sign_19 : decode b_SF_sign 19 = .ok (.ireturn, 1) := by decide +kernel
set_option maxHeartbeats 4000000 in
set_option maxRecDepth 100000 in
/-- sign(x, i0) -/
theorem c_SF_sign (G : GG) (l : Launch) (sz : Nat) (f : Wd) {N root pn nn mn : Nat} {ad : Nat → Nat} {E : Nat → va_E} {g : Wd} {pt nt mt : Nat → Int32} {dp rf by_ co tx lx : Int32} {fl : Nat → Option FV} (hN : 9 ≤ N) (hRg : Rg N ad E g f) (hS : SC G ad E g root pn pt nn nt mn mt dp rf by_ co tx lx fl) (x i0 : Int32) : Ci G l y_SF_sign b_SF_sign 4 (some .int) ({ frames := 1, cells := 0, slots := 0, locals := 21 }) sz f [.ref root, .int x, .int i0] (fun v f' => v = pif (x = 0) (atv pn pt i0) (pif (x = 1) (atv nn nt i0) (pif (x = 2) (atv mn mt i0) (-1))) ∧ SCR G N ad E g root f' pn pt nn nt mn mt dp rf by_ co tx lx fl) := by
  refine ct_of (by decide) (Nat.le_of_ble_eq_true rfl) ?_
  intro p e s m below meth c ls H locs hEn
  obtain ⟨hc, hr, hlk, hin, hE, hw, hsz, hl⟩ := hEn
  have hx := hc.1
  have hb := hc.2.1
  have hl : lv_has ls 4 [(0, .ref root), (1, .int x), (2, .int i0)] := hl
  have hS0 := hS
  obtain ⟨hroot, hPB, hNB, hMB, ⟨so, di, le, hQ⟩, ⟨fr, en, pi, li, nu, rj, sh, mf, me, nf, ne, hRd⟩, fa, hF8, hFL⟩ := hS
  obtain ⟨A0, eA0⟩ : ∃ z, z = ad 0 := ⟨_, rfl⟩
  obtain ⟨A1, eA1⟩ : ∃ z, z = ad 1 := ⟨_, rfl⟩
  obtain ⟨A2, eA2⟩ : ∃ z, z = ad 2 := ⟨_, rfl⟩
  obtain ⟨A3, eA3⟩ : ∃ z, z = ad 3 := ⟨_, rfl⟩
  obtain ⟨A4, eA4⟩ : ∃ z, z = ad 4 := ⟨_, rfl⟩
  obtain ⟨A5, eA5⟩ : ∃ z, z = ad 5 := ⟨_, rfl⟩
  obtain ⟨A6, eA6⟩ : ∃ z, z = ad 6 := ⟨_, rfl⟩
  obtain ⟨A7, eA7⟩ : ∃ z, z = ad 7 := ⟨_, rfl⟩
  obtain ⟨A8, eA8⟩ : ∃ z, z = ad 8 := ⟨_, rfl⟩
  have hgf := hRg.2.2.1
  have h0 : f root = some (.inr (0, [.ref A0, .ref A2, .ref A7, .ref A8])) := by rw [eA0, eA2, eA7, eA8]; exact hgf _ _ hroot
  have h2 : f A2 = some (.inr (2, [.ref A3, .ref A5, .int dp, .int rf, .int by_, .int so, .int di, .int le, .int co, .int tx, .int lx])) := by rw [eA2, eA3, eA5]; exact hRg.get 2 (by omega) hQ
  have h8 : f A8 = some (.inl (G.2.1 2, 10, .inr (.inr (.inr (.inr fa))))) := by rw [eA8]; exact hRg.get 8 (by omega) hF8
  have hsP : sg G f A0 A1 90 pn pt := by rw [eA0, eA1]; exact hPB.sg hRg (by omega) (by omega)
  have hsN : sg G f A3 A4 40 nn nt := by rw [eA3, eA4]; exact hNB.sg hRg (by omega) (by omega)
  have hsM : sg G f A5 A6 12 mn mt := by rw [eA5, eA6]; exact hMB.sg hRg (by omega) (by omega)
  refine lv_aload_n hx hb d_SF_sign_0 rfl (lv_at hl 0 rfl) ?_
  refine lv_iload_n hx hb d_SF_sign_1 rfl (lv_at hl 1 rfl) ?_
  refine m_callq hw (m_runV (As := [.int x]) (rest := []) hc hE hw (c_SF_bufferAt G l H.size f hN hRg hS0 x) h0 rfl cw_SF_40 se_SF_bufferAt rfl hl.1 rfl (Nat.le_of_ble_eq_true rfl) d_SF_sign_2 ⟨rfl, rfl, by decide, by decide⟩ ⟨by first | decide | (dsimp only; omega), by first | decide | (dsimp only; omega)⟩) (fun r3 g2 H locs p1 hw => ?_)
  obtain ⟨rfl, hbf⟩ := p1
  rcases hbf with ⟨hbx, hv⟩ | ⟨hbx, hv⟩ | ⟨hbx, hv⟩ | ⟨hx0, hx1, hx2, hv⟩
  · rw [← eA0] at hv; subst hv
    refine lv_astore_n (lv' := [(3, .ref A0), (0, .ref root), (1, .int x), (2, .int i0)]) hx hb d_SF_sign_5 rfl hl (by decide) rfl (fun ls hl => ?_)
    refine lv_aload_n hx hb d_SF_sign_6 rfl (lv_at hl 0 rfl) ?_
    refine lv_ifnonnull (tgt := 14) hx hb d_SF_sign_7 (by decide) ?_
    refine lv_aload_n hx hb d_SF_sign_14 rfl (lv_at hl 0 rfl) ?_
    refine lv_iload_n hx hb d_SF_sign_15 rfl (lv_at hl 3 rfl) ?_
    refine m_calli hw (m_runV (As := [.int i0]) (rest := []) hc hE hw (c_Signs_at G l H.size f hsP i0) hsP.1 rfl cw_SF_172 se_Signs_at rfl hl.1 rfl (Nat.le_of_ble_eq_true rfl) d_SF_sign_16 ⟨rfl, rfl, by decide, by decide⟩ ⟨by first | decide | (dsimp only; omega), by first | decide | (dsimp only; omega)⟩) (fun r6 g5 H locs p4 hw => ?_)
    obtain ⟨rfl, p4⟩ := p4
    exact m_iret hc hr hlk hw ⟨by first | decide | (dsimp only; omega), by first | decide | (dsimp only; omega)⟩ d_SF_sign_19 ⟨by rw [pif_t hbx]; exact p4, ⟨E, g, hRg, gle.rf, fun _ _ => rfl, hS0⟩⟩
  · rw [← eA3] at hv; subst hv
    refine lv_astore_n (lv' := [(3, .ref A3), (0, .ref root), (1, .int x), (2, .int i0)]) hx hb d_SF_sign_5 rfl hl (by decide) rfl (fun ls hl => ?_)
    refine lv_aload_n hx hb d_SF_sign_6 rfl (lv_at hl 0 rfl) ?_
    refine lv_ifnonnull (tgt := 14) hx hb d_SF_sign_7 (by decide) ?_
    refine lv_aload_n hx hb d_SF_sign_14 rfl (lv_at hl 0 rfl) ?_
    refine lv_iload_n hx hb d_SF_sign_15 rfl (lv_at hl 3 rfl) ?_
    refine m_calli hw (m_runV (As := [.int i0]) (rest := []) hc hE hw (c_Signs_at G l H.size f hsN i0) hsN.1 rfl cw_SF_172 se_Signs_at rfl hl.1 rfl (Nat.le_of_ble_eq_true rfl) d_SF_sign_16 ⟨rfl, rfl, by decide, by decide⟩ ⟨by first | decide | (dsimp only; omega), by first | decide | (dsimp only; omega)⟩) (fun r9 g8 H locs p7 hw => ?_)
    obtain ⟨rfl, p7⟩ := p7
    exact m_iret hc hr hlk hw ⟨by first | decide | (dsimp only; omega), by first | decide | (dsimp only; omega)⟩ d_SF_sign_19 ⟨by rw [pif_f (by rw [hbx]; decide), pif_t hbx]; exact p7, ⟨E, g, hRg, gle.rf, fun _ _ => rfl, hS0⟩⟩
  · rw [← eA5] at hv; subst hv
    refine lv_astore_n (lv' := [(3, .ref A5), (0, .ref root), (1, .int x), (2, .int i0)]) hx hb d_SF_sign_5 rfl hl (by decide) rfl (fun ls hl => ?_)
    refine lv_aload_n hx hb d_SF_sign_6 rfl (lv_at hl 0 rfl) ?_
    refine lv_ifnonnull (tgt := 14) hx hb d_SF_sign_7 (by decide) ?_
    refine lv_aload_n hx hb d_SF_sign_14 rfl (lv_at hl 0 rfl) ?_
    refine lv_iload_n hx hb d_SF_sign_15 rfl (lv_at hl 3 rfl) ?_
    refine m_calli hw (m_runV (As := [.int i0]) (rest := []) hc hE hw (c_Signs_at G l H.size f hsM i0) hsM.1 rfl cw_SF_172 se_Signs_at rfl hl.1 rfl (Nat.le_of_ble_eq_true rfl) d_SF_sign_16 ⟨rfl, rfl, by decide, by decide⟩ ⟨by first | decide | (dsimp only; omega), by first | decide | (dsimp only; omega)⟩) (fun r12 g11 H locs p10 hw => ?_)
    obtain ⟨rfl, p10⟩ := p10
    exact m_iret hc hr hlk hw ⟨by first | decide | (dsimp only; omega), by first | decide | (dsimp only; omega)⟩ d_SF_sign_19 ⟨by rw [pif_f (by rw [hbx]; decide), pif_f (by rw [hbx]; decide), pif_t hbx]; exact p10, ⟨E, g, hRg, gle.rf, fun _ _ => rfl, hS0⟩⟩
  · subst hv
    refine lv_astore_nN (lv' := [(3, .null), (0, .ref root), (1, .int x), (2, .int i0)]) hx hb d_SF_sign_5 rfl hl (by decide) rfl (fun ls hl => ?_)
    refine lv_aload_nN hx hb d_SF_sign_6 rfl (lv_at hl 0 rfl) ?_
    refine lv_ifnonnullN hx hb d_SF_sign_7 ?_
    refine lv_iconst (v := (-1)) hx hb d_SF_sign_10 (by decide) ?_
    refine lv_goto (tgt := 19) hx hb d_SF_sign_11 (by decide) ?_
    exact m_iret hc hr hlk hw ⟨by first | decide | (dsimp only; omega), by first | decide | (dsimp only; omega)⟩ d_SF_sign_19 ⟨by rw [pif_f hx0, pif_f hx1, pif_f hx2], ⟨E, g, hRg, gle.rf, fun _ _ => rfl, hS0⟩⟩

set_option maxHeartbeats 4000000 in
set_option maxRecDepth 100000 in
/-- trace(x) -/
theorem c_SF_trace (G : GG) (l : Launch) (sz : Nat) (f : Wd) {N root pn nn mn : Nat} {ad : Nat → Nat} {E : Nat → va_E} {g : Wd} {pt nt mt : Nat → Int32} {dp rf by_ co tx lx : Int32} {fl : Nat → Option FV} (hN : 9 ≤ N) (hRg : Rg N ad E g f) (hS : SC G ad E g root pn pt nn nt mn mt dp rf by_ co tx lx fl) (x : Int32) : Ci G l y_SF_trace b_SF_trace 2 (some .int) ({ frames := 0, cells := 0, slots := 0, locals := 0 }) sz f [.ref root, .int x] (fun v f' => v = pif (x = 0) co (pif (x = 1) tx (pif (x = 2) lx (-1))) ∧ SCR G N ad E g root f' pn pt nn nt mn mt dp rf by_ co tx lx fl) := by
  refine ct_of (by decide) (Nat.le_of_ble_eq_true rfl) ?_
  intro p e s m below meth c ls H locs hEn
  obtain ⟨hc, hr, hlk, hin, hE, hw, hsz, hl⟩ := hEn
  have hx := hc.1
  have hb := hc.2.1
  have hl : lv_has ls 2 [(0, .ref root), (1, .int x)] := hl
  have hS0 := hS
  obtain ⟨hroot, hPB, hNB, hMB, ⟨so, di, le, hQ⟩, ⟨fr, en, pi, li, nu, rj, sh, mf, me, nf, ne, hRd⟩, fa, hF8, hFL⟩ := hS
  obtain ⟨A0, eA0⟩ : ∃ z, z = ad 0 := ⟨_, rfl⟩
  obtain ⟨A1, eA1⟩ : ∃ z, z = ad 1 := ⟨_, rfl⟩
  obtain ⟨A2, eA2⟩ : ∃ z, z = ad 2 := ⟨_, rfl⟩
  obtain ⟨A3, eA3⟩ : ∃ z, z = ad 3 := ⟨_, rfl⟩
  obtain ⟨A4, eA4⟩ : ∃ z, z = ad 4 := ⟨_, rfl⟩
  obtain ⟨A5, eA5⟩ : ∃ z, z = ad 5 := ⟨_, rfl⟩
  obtain ⟨A6, eA6⟩ : ∃ z, z = ad 6 := ⟨_, rfl⟩
  obtain ⟨A7, eA7⟩ : ∃ z, z = ad 7 := ⟨_, rfl⟩
  obtain ⟨A8, eA8⟩ : ∃ z, z = ad 8 := ⟨_, rfl⟩
  have hgf := hRg.2.2.1
  have h0 : f root = some (.inr (0, [.ref A0, .ref A2, .ref A7, .ref A8])) := by rw [eA0, eA2, eA7, eA8]; exact hgf _ _ hroot
  have h2 : f A2 = some (.inr (2, [.ref A3, .ref A5, .int dp, .int rf, .int by_, .int so, .int di, .int le, .int co, .int tx, .int lx])) := by rw [eA2, eA3, eA5]; exact hRg.get 2 (by omega) hQ
  have h8 : f A8 = some (.inl (G.2.1 2, 10, .inr (.inr (.inr (.inr fa))))) := by rw [eA8]; exact hRg.get 8 (by omega) hF8
  have hsP : sg G f A0 A1 90 pn pt := by rw [eA0, eA1]; exact hPB.sg hRg (by omega) (by omega)
  have hsN : sg G f A3 A4 40 nn nt := by rw [eA3, eA4]; exact hNB.sg hRg (by omega) (by omega)
  have hsM : sg G f A5 A6 12 mn mt := by rw [eA5, eA6]; exact hMB.sg hRg (by omega) (by omega)
  refine lv_iload_n hx hb d_SF_trace_0 rfl (lv_at hl 1 rfl) ?_
  by_cases k1 : x = 0
  · refine lv_tableIn (tgt := 28) hx hb d_SF_trace_1 (off := 27) (by rw [k1]; decide) (by rw [k1]; decide) (by rw [k1] <;> rfl) (by decide) ?_
    refine lv_aload_n hx hb d_SF_trace_28 rfl (lv_at hl 0 rfl) ?_
    refine m_get hc hE hw h0 kc_SF l_SF_21_SF rfl d_SF_trace_29 ?_
    refine m_get hc hE hw h2 kc_Question l_SF_144_Question rfl d_SF_trace_32 ?_
    exact m_iret hc hr hlk hw ⟨by first | decide | (dsimp only; omega), by first | decide | (dsimp only; omega)⟩ d_SF_trace_35 ⟨by rw [pif_t k1], ⟨E, g, hRg, gle.rf, fun _ _ => rfl, hS0⟩⟩
  by_cases k2 : x = 1
  · refine lv_tableIn (tgt := 36) hx hb d_SF_trace_1 (off := 35) (by rw [k2]; decide) (by rw [k2]; decide) (by rw [k2] <;> rfl) (by decide) ?_
    refine lv_aload_n hx hb d_SF_trace_36 rfl (lv_at hl 0 rfl) ?_
    refine m_get hc hE hw h0 kc_SF l_SF_21_SF rfl d_SF_trace_37 ?_
    refine m_get hc hE hw h2 kc_Question l_SF_147_Question rfl d_SF_trace_40 ?_
    exact m_iret hc hr hlk hw ⟨by first | decide | (dsimp only; omega), by first | decide | (dsimp only; omega)⟩ d_SF_trace_43 ⟨by rw [pif_f k1, pif_t k2], ⟨E, g, hRg, gle.rf, fun _ _ => rfl, hS0⟩⟩
  by_cases k3 : x = 2
  · refine lv_tableIn (tgt := 44) hx hb d_SF_trace_1 (off := 43) (by rw [k3]; decide) (by rw [k3]; decide) (by rw [k3] <;> rfl) (by decide) ?_
    refine lv_aload_n hx hb d_SF_trace_44 rfl (lv_at hl 0 rfl) ?_
    refine m_get hc hE hw h0 kc_SF l_SF_21_SF rfl d_SF_trace_45 ?_
    refine m_get hc hE hw h2 kc_Question l_SF_150_Question rfl d_SF_trace_48 ?_
    exact m_iret hc hr hlk hw ⟨by first | decide | (dsimp only; omega), by first | decide | (dsimp only; omega)⟩ d_SF_trace_51 ⟨by rw [pif_f k1, pif_f k2, pif_t k3], ⟨E, g, hRg, gle.rf, fun _ _ => rfl, hS0⟩⟩
  refine lv_tableOut (tgt := 52) hx hb d_SF_trace_1 (by have := lv_neT k1 (show (0 : Int32).toInt = 0 by decide); have := lv_neT k2 (show (1 : Int32).toInt = 1 by decide); have := lv_neT k3 (show (2 : Int32).toInt = 2 by decide); omega) (by decide) ?_
  refine lv_iconst (v := (-1)) hx hb d_SF_trace_52 (by decide) ?_
  exact m_iret hc hr hlk hw ⟨by first | decide | (dsimp only; omega), by first | decide | (dsimp only; omega)⟩ d_SF_trace_53 ⟨by rw [pif_f k1, pif_f k2, pif_f k3], ⟨E, g, hRg, gle.rf, fun _ _ => rfl, hS0⟩⟩

set_option maxHeartbeats 4000000 in
set_option maxRecDepth 100000 in
/-- stream(d1, r1, b1) -/
theorem c_SF_stream (G : GG) (l : Launch) (sz : Nat) (f : Wd) {N root pn nn mn : Nat} {ad : Nat → Nat} {E : Nat → va_E} {g : Wd} {pt nt mt : Nat → Int32} {dp rf by_ co tx lx : Int32} {fl : Nat → Option FV} (hN : 9 ≤ N) (hRg : Rg N ad E g f) (hS : SC G ad E g root pn pt nn nt mn mt dp rf by_ co tx lx fl) (d1 r1 b1 : Int32) : Ci G l y_SF_stream b_SF_stream 4 (some .int) ({ frames := 0, cells := 0, slots := 0, locals := 0 }) sz f [.ref root, .int d1, .int r1, .int b1] (fun v f' => (((d1 < 0 ∨ r1 < 0 ∨ b1 < 0) → v = -1 ∧ SCR G N ad E g root f' pn pt nn nt mn mt dp rf by_ co tx lx fl) ∧ (¬ (d1 < 0 ∨ r1 < 0 ∨ b1 < 0) → v = 0 ∧ SCR G N ad E g root f' pn pt nn nt mn mt d1 r1 b1 co tx lx fl))) := by
  refine ct_of (by decide) (Nat.le_of_ble_eq_true rfl) ?_
  intro p e s m below meth c ls H locs hEn
  obtain ⟨hc, hr, hlk, hin, hE, hw, hsz, hl⟩ := hEn
  have hx := hc.1
  have hb := hc.2.1
  have hl : lv_has ls 4 [(0, .ref root), (1, .int d1), (2, .int r1), (3, .int b1)] := hl
  have hS0 := hS
  obtain ⟨hroot, hPB, hNB, hMB, ⟨so, di, le, hQ⟩, ⟨fr, en, pi, li, nu, rj, sh, mf, me, nf, ne, hRd⟩, fa, hF8, hFL⟩ := hS
  obtain ⟨A0, eA0⟩ : ∃ z, z = ad 0 := ⟨_, rfl⟩
  obtain ⟨A1, eA1⟩ : ∃ z, z = ad 1 := ⟨_, rfl⟩
  obtain ⟨A2, eA2⟩ : ∃ z, z = ad 2 := ⟨_, rfl⟩
  obtain ⟨A3, eA3⟩ : ∃ z, z = ad 3 := ⟨_, rfl⟩
  obtain ⟨A4, eA4⟩ : ∃ z, z = ad 4 := ⟨_, rfl⟩
  obtain ⟨A5, eA5⟩ : ∃ z, z = ad 5 := ⟨_, rfl⟩
  obtain ⟨A6, eA6⟩ : ∃ z, z = ad 6 := ⟨_, rfl⟩
  obtain ⟨A7, eA7⟩ : ∃ z, z = ad 7 := ⟨_, rfl⟩
  obtain ⟨A8, eA8⟩ : ∃ z, z = ad 8 := ⟨_, rfl⟩
  have hgf := hRg.2.2.1
  have h0 : f root = some (.inr (0, [.ref A0, .ref A2, .ref A7, .ref A8])) := by rw [eA0, eA2, eA7, eA8]; exact hgf _ _ hroot
  have h2 : f A2 = some (.inr (2, [.ref A3, .ref A5, .int dp, .int rf, .int by_, .int so, .int di, .int le, .int co, .int tx, .int lx])) := by rw [eA2, eA3, eA5]; exact hRg.get 2 (by omega) hQ
  have h8 : f A8 = some (.inl (G.2.1 2, 10, .inr (.inr (.inr (.inr fa))))) := by rw [eA8]; exact hRg.get 8 (by omega) hF8
  have hsP : sg G f A0 A1 90 pn pt := by rw [eA0, eA1]; exact hPB.sg hRg (by omega) (by omega)
  have hsN : sg G f A3 A4 40 nn nt := by rw [eA3, eA4]; exact hNB.sg hRg (by omega) (by omega)
  have hsM : sg G f A5 A6 12 mn mt := by rw [eA5, eA6]; exact hMB.sg hRg (by omega) (by omega)
  refine lv_iload_n hx hb d_SF_stream_0 rfl (lv_at hl 1 rfl) ?_
  refine lv_if_lt (tgt := 12) hx hb d_SF_stream_1 (by decide) (fun c1 => ?_) (fun c1 => ?_)
  · refine lv_iconst (v := (-1)) hx hb d_SF_stream_12 (by decide) ?_
    exact m_iret hc hr hlk hw ⟨by first | decide | (dsimp only; omega), by first | decide | (dsimp only; omega)⟩ d_SF_stream_13 ⟨fun _ => ⟨rfl, ⟨E, g, hRg, gle.rf, fun _ _ => rfl, hS0⟩⟩, fun z => absurd (Or.inl c1) z⟩
  · refine lv_iload_n hx hb d_SF_stream_4 rfl (lv_at hl 2 rfl) ?_
    refine lv_if_lt (tgt := 12) hx hb d_SF_stream_5 (by decide) (fun c2 => ?_) (fun c2 => ?_)
    · refine lv_iconst (v := (-1)) hx hb d_SF_stream_12 (by decide) ?_
      exact m_iret hc hr hlk hw ⟨by first | decide | (dsimp only; omega), by first | decide | (dsimp only; omega)⟩ d_SF_stream_13 ⟨fun _ => ⟨rfl, ⟨E, g, hRg, gle.rf, fun _ _ => rfl, hS0⟩⟩, fun z => absurd (Or.inr (Or.inl c2)) z⟩
    · refine lv_iload_n hx hb d_SF_stream_8 rfl (lv_at hl 3 rfl) ?_
      refine lv_if_ge (tgt := 14) hx hb d_SF_stream_9 (by decide) (fun c3 => ?_) (fun c3 => ?_)
      · refine lv_aload_n hx hb d_SF_stream_14 rfl (lv_at hl 0 rfl) ?_
        refine m_get hc hE hw h0 kc_SF l_SF_21_SF rfl d_SF_stream_15 ?_
        refine lv_iload_n hx hb d_SF_stream_18 rfl (lv_at hl 1 rfl) ?_
        refine m_put hc hE hw h2 kc_Question l_SF_123_Question rfl ds_Question_2 rfl rfl (Nat.le_of_ble_eq_true rfl) d_SF_stream_19 (fun H locs hw => ?_)
        obtain ⟨f4, ef4⟩ : ∃ z : Wd, z = va_up f A2 (some (.inr (2, [.ref A3, .ref A5, .int d1, .int rf, .int by_, .int so, .int di, .int le, .int co, .int tx, .int lx]))) := ⟨_, rfl⟩
        replace hw : ms G.1 (Af f sz) f4 s H locs := by rw [ef4]; exact hw
        have h5 : f4 root = some (.inr (0, [.ref A0, .ref A2, .ref A7, .ref A8])) := by rw [ef4, va_up_ne _ _ (wne h0 h2 (wd_oo (by decide)))]; exact h0
        have h6 : f4 A2 = some (.inr (2, [.ref A3, .ref A5, .int d1, .int rf, .int by_, .int so, .int di, .int le, .int co, .int tx, .int lx])) := by rw [ef4, va_up_self]
        refine lv_aload_n hx hb d_SF_stream_22 rfl (lv_at hl 0 rfl) ?_
        refine m_get hc hE hw h5 kc_SF l_SF_21_SF rfl d_SF_stream_23 ?_
        refine lv_iload_n hx hb d_SF_stream_26 rfl (lv_at hl 2 rfl) ?_
        refine m_put hc hE hw h6 kc_Question l_SF_126_Question rfl ds_Question_3 rfl rfl (Nat.le_of_ble_eq_true rfl) d_SF_stream_27 (fun H locs hw => ?_)
        obtain ⟨f7, ef7⟩ : ∃ z : Wd, z = va_up f4 A2 (some (.inr (2, [.ref A3, .ref A5, .int d1, .int r1, .int by_, .int so, .int di, .int le, .int co, .int tx, .int lx]))) := ⟨_, rfl⟩
        replace hw : ms G.1 (Af f sz) f7 s H locs := by rw [ef7]; exact hw
        have h8 : f7 root = some (.inr (0, [.ref A0, .ref A2, .ref A7, .ref A8])) := by rw [ef7, va_up_ne _ _ (wne h5 h6 (wd_oo (by decide)))]; exact h5
        have h9 : f7 A2 = some (.inr (2, [.ref A3, .ref A5, .int d1, .int r1, .int by_, .int so, .int di, .int le, .int co, .int tx, .int lx])) := by rw [ef7, va_up_self]
        refine lv_aload_n hx hb d_SF_stream_30 rfl (lv_at hl 0 rfl) ?_
        refine m_get hc hE hw h8 kc_SF l_SF_21_SF rfl d_SF_stream_31 ?_
        refine lv_iload_n hx hb d_SF_stream_34 rfl (lv_at hl 3 rfl) ?_
        refine m_put hc hE hw h9 kc_Question l_SF_129_Question rfl ds_Question_4 rfl rfl (Nat.le_of_ble_eq_true rfl) d_SF_stream_35 (fun H locs hw => ?_)
        obtain ⟨f10, ef10⟩ : ∃ z : Wd, z = va_up f7 A2 (some (.inr (2, [.ref A3, .ref A5, .int d1, .int r1, .int b1, .int so, .int di, .int le, .int co, .int tx, .int lx]))) := ⟨_, rfl⟩
        replace hw : ms G.1 (Af f sz) f10 s H locs := by rw [ef10]; exact hw
        have h11 : f10 root = some (.inr (0, [.ref A0, .ref A2, .ref A7, .ref A8])) := by rw [ef10, va_up_ne _ _ (wne h8 h9 (wd_oo (by decide)))]; exact h8
        have h12 : f10 A2 = some (.inr (2, [.ref A3, .ref A5, .int d1, .int r1, .int b1, .int so, .int di, .int le, .int co, .int tx, .int lx])) := by rw [ef10, va_up_self]
        refine lv_iconst (v := 0) hx hb d_SF_stream_38 (by decide) ?_
        have hno : ¬ (d1 < 0 ∨ r1 < 0 ∨ b1 < 0) := fun z => z.elim c1 (fun z => z.elim c2 (Int32.not_lt.mpr c3))
        have hfx : f10 = va_up f (ad 2) (some (.inr (2, [.ref (ad 3), .ref (ad 5), .int d1, .int r1, .int b1, .int so, .int di, .int le, .int co, .int tx, .int lx]))) := by rw [ef10, ef7, up_uu, ef4, up_uu, eA2, eA3, eA5]
        exact m_iret hc hr hlk hw ⟨by first | decide | (dsimp only; omega), by first | decide | (dsimp only; omega)⟩ d_SF_stream_39 ⟨fun z => absurd z hno, fun _ => ⟨rfl, _, g, by rw [hfx]; exact hRg.up 2 (by omega) _, gle.rf, fun k hk => va_up_ne _ _ (by omega), hS0.q d1 r1 b1 so di le co tx lx⟩⟩
      · refine lv_iconst (v := (-1)) hx hb d_SF_stream_12 (by decide) ?_
        exact m_iret hc hr hlk hw ⟨by first | decide | (dsimp only; omega), by first | decide | (dsimp only; omega)⟩ d_SF_stream_13 ⟨fun _ => ⟨rfl, ⟨E, g, hRg, gle.rf, fun _ _ => rfl, hS0⟩⟩, fun z => absurd (Or.inr (Or.inr (Int32.not_le.mp c3))) z⟩
