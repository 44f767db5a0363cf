/-! links of the pools, as the walks ask for them -/
theorem cw_Signs_34 : cwk "StreamFilters$Signs" 34 y_String_length b_String_length 1 (some .int) 0 := ⟨Or.inl (tb 241 (by decide +kernel) rfl), (tb 244 (by decide +kernel) rfl), (tb 6 (by decide +kernel) rfl), by decide, by decide, by decide +kernel⟩
theorem cw_Signs_39 : cwk "StreamFilters$Signs" 39 y_String_charAt b_String_charAt 2 (some .char) 1 := ⟨Or.inl (tb 251 (by decide +kernel) rfl), (tb 254 (by decide +kernel) rfl), (tb 6 (by decide +kernel) rfl), by decide, by decide, by decide +kernel⟩
theorem se_String_charAt : Cond.instanceMethod y_String_charAt ∈ TB ∧ Cond.selects "java/lang/String" y_String_charAt y_String_charAt ∈ TB := ⟨(tb 252 (by decide +kernel) rfl), (tb 253 (by decide +kernel) rfl)⟩
theorem se_String_length : Cond.instanceMethod y_String_length ∈ TB ∧ Cond.selects "java/lang/String" y_String_length y_String_length ∈ TB := ⟨(tb 242 (by decide +kernel) rfl), (tb 243 (by decide +kernel) rfl)⟩
/-! decode rows -/
theorem d_Signs_hasWord_0 : decode b_Signs_hasWord 0 = .ok (.aload_n 1, 1) := by decide +kernel
theorem d_Signs_hasWord_1 : decode b_Signs_hasWord 1 = .ok (.invokevirtual 34, 3) := by decide +kernel
theorem d_Signs_hasWord_4 : decode b_Signs_hasWord 4 = .ok (.iload_n 3, 1) := by decide +kernel
theorem d_Signs_hasWord_5 : decode b_Signs_hasWord 5 = .ok (.iload_n 2, 1) := by decide +kernel
theorem d_Signs_hasWord_6 : decode b_Signs_hasWord 6 = .ok (.isub, 1) := by decide +kernel
theorem d_Signs_hasWord_7 : decode b_Signs_hasWord 7 = .ok (.if_icmp .eq 5, 3) := by decide +kernel
theorem d_Signs_hasWord_10 : decode b_Signs_hasWord 10 = .ok (.iconst 0, 1) := by decide +kernel
theorem d_Signs_hasWord_11 : decode b_Signs_hasWord 11 = .ok (.ireturn, 1) := by decide +kernel
theorem d_Signs_hasWord_12 : decode b_Signs_hasWord 12 = .ok (.iconst 0, 1) := by decide +kernel
theorem d_Signs_hasWord_13 : decode b_Signs_hasWord 13 = .ok (.istore 4, 2) := by decide +kernel
theorem d_Signs_hasWord_15 : decode b_Signs_hasWord 15 = .ok (.iload 4, 2) := by decide +kernel
theorem d_Signs_hasWord_17 : decode b_Signs_hasWord 17 = .ok (.aload_n 1, 1) := by decide +kernel
theorem d_Signs_hasWord_18 : decode b_Signs_hasWord 18 = .ok (.invokevirtual 34, 3) := by decide +kernel
theorem d_Signs_hasWord_21 : decode b_Signs_hasWord 21 = .ok (.if_icmp .ge 28, 3) := by decide +kernel
theorem d_Signs_hasWord_24 : decode b_Signs_hasWord 24 = .ok (.aload_n 0, 1) := by decide +kernel
theorem d_Signs_hasWord_25 : decode b_Signs_hasWord 25 = .ok (.iload_n 2, 1) := by decide +kernel
theorem d_Signs_hasWord_26 : decode b_Signs_hasWord 26 = .ok (.iload 4, 2) := by decide +kernel
theorem d_Signs_hasWord_28 : decode b_Signs_hasWord 28 = .ok (.iadd, 1) := by decide +kernel
theorem d_Signs_hasWord_29 : decode b_Signs_hasWord 29 = .ok (.invokevirtual 26, 3) := by decide +kernel
theorem d_Signs_hasWord_32 : decode b_Signs_hasWord 32 = .ok (.aload_n 1, 1) := by decide +kernel
theorem d_Signs_hasWord_33 : decode b_Signs_hasWord 33 = .ok (.iload 4, 2) := by decide +kernel
theorem d_Signs_hasWord_35 : decode b_Signs_hasWord 35 = .ok (.invokevirtual 39, 3) := by decide +kernel
theorem d_Signs_hasWord_38 : decode b_Signs_hasWord 38 = .ok (.if_icmp .eq 5, 3) := by decide +kernel
theorem d_Signs_hasWord_41 : decode b_Signs_hasWord 41 = .ok (.iconst 0, 1) := by decide +kernel
theorem d_Signs_hasWord_42 : decode b_Signs_hasWord 42 = .ok (.ireturn, 1) := by decide +kernel
theorem d_Signs_hasWord_43 : decode b_Signs_hasWord 43 = .ok (.iinc 4 1, 3) := by decide +kernel
theorem d_Signs_hasWord_46 : decode b_Signs_hasWord 46 = .ok (.goto (-31), 3) := by decide +kernel
theorem d_Signs_hasWord_49 : decode b_Signs_hasWord 49 = .ok (.iconst 1, 1) := by decide +kernel
theorem d_Signs_hasWord_50 : decode b_Signs_hasWord 50 = .ok (.ireturn, 1) := by decide +kernel
set_option maxHeartbeats 4000000 in
set_option maxRecDepth 100000 in
/-- hasWord(text k, i0, i1) -/
theorem c_Signs_hasWord (G : GG) (l : Launch) (sz : Nat) (f : Wd) {a r cap n : Nat} {t : Nat → Int32} (h : sg G f a r cap n t) {k : Nat} (hk : k < nTx) {i0 i1 : Nat} (h1 : i0 ≤ i1) (h2 : i1 ≤ n) : Ci G l y_Signs_hasWord b_Signs_hasWord 5 (some .boolean) ({ frames := 4, cells := 0, slots := 0, locals := 87 }) sz f [.ref a, .ref (G.2.2.1 k), .int (nI i0), .int (nI i1)] (fun v f' => f = f' ∧ v = bI (isw t i0 i1 (bytTx.getD k []))) := by
  refine ct_of (by decide) (Nat.le_of_ble_eq_true rfl) ?_
  intro p e s m below meth c ls H locs hEn
  obtain ⟨hc, hr, hlk, hin, hE, hw, hsz, hl⟩ := hEn
  have hx := hc.1
  have hb := hc.2.1
  have hl : lv_has ls 5 [(0, .ref a), (1, .ref (G.2.2.1 k)), (2, .int (nI i0)), (3, .int (nI i1))] := hl
  obtain ⟨ha, hrw, hn, hcap, hch⟩ := h
  obtain ⟨htl, htb, htc⟩ := tx_ok k hk
  have loop : ∀ (fu : Nat) (i : Nat) (ls : Array Slot) (H : Heap) (locs : List Loc), i1 - i0 - i < fu → lenTx.getD k 0 = i1 - i0 → i ≤ i1 - i0 → (∀ j, j < i → t (i0 + j) = (bytTx.getD k []).getD j 0) → ms G.1 (Af f sz) f s H locs → lv_has ls 5 [(4, .int (nI i)), (0, .ref a), (1, .ref (G.2.2.1 k)), (2, .int (nI i0)), (3, .int (nI i1))] → W p l e ({ frames := 4, cells := 0, slots := 0, locals := 87 }) s m ([.ref a, .ref (G.2.2.1 k), .int (nI i0), .int (nI i1)] : List Value).toArray below meth c H locs 0 0 (MQ below (va_Qi (fun v f' => f = f' ∧ v = bI (isw t i0 i1 (bytTx.getD k []))) (Bw G f sz) (Af f sz)) ([.ref a, .ref (G.2.2.1 k), .int (nI i0), .int (nI i1)] : List Value).toArray s 0 0 (Af f sz)) (F0 m 15 ls []) := by
    intro fu
    induction fu with
    | zero => intro i ls H locs h0; exact absurd h0 (Nat.not_lt_zero _)
    | succ fu ih =>
      intro i ls H locs hfu hle hi hm hw hl
      have hb1 : i1 ≤ 90 := by omega
      refine lv_iload hx hb d_Signs_hasWord_15 (lv_at hl 0 rfl) ?_
      refine lv_aload_n hx hb d_Signs_hasWord_17 rfl (lv_at hl 2 rfl) ?_
      refine m_calli hw (m_runV0 (As := []) (rest := [.int (nI i)]) hc hE hw (c_String_length G l H.size f hk) (m_strecv hE hw hk) cw_Signs_34 se_String_length rfl hl.1 rfl (Nat.le_of_ble_eq_true rfl) d_Signs_hasWord_18 ⟨rfl, rfl, by decide, by decide⟩ ⟨by first | decide | (dsimp only; omega), by first | decide | (dsimp only; omega)⟩) (fun r3 g2 H locs p1 hw => ?_)
      obtain ⟨rfl, p1⟩ := p1
      subst p1
      refine lv_icmp_ge (tgt := 49) hx hb d_Signs_hasWord_21 (by decide) (fun c4 => ?_) (fun c4 => ?_)
      · refine lv_iconst (v := 1) hx hb d_Signs_hasWord_49 (by decide) ?_
        exact m_zret hc hr hlk hw ⟨by first | decide | (dsimp only; omega), by first | decide | (dsimp only; omega)⟩ d_Signs_hasWord_50 (by decide) ⟨rfl, (bI_t ⟨by omega, fun j q => hm j (by have := (nI_leI (by omega) (by omega)).mp c4; omega)⟩).symm⟩
      · refine lv_aload_n hx hb d_Signs_hasWord_24 rfl (lv_at hl 1 rfl) ?_
        refine lv_iload_n hx hb d_Signs_hasWord_25 rfl (lv_at hl 3 rfl) ?_
        refine lv_iload hx hb d_Signs_hasWord_26 (lv_at hl 0 rfl) ?_
        refine lv_iadd hx hb d_Signs_hasWord_28 ?_
        refine m_top (y := (nI (i0 + i))) (nI_add i0 i) ?_
        refine m_calli hw (m_runV (As := [.int (nI (i0 + i))]) (rest := []) hc hE hw (c_Signs_at G l H.size f ⟨ha, hrw, hn, hcap, hch⟩ (nI (i0 + i))) ha rfl cw_Signs_26 se_Signs_at rfl hl.1 rfl (Nat.le_of_ble_eq_true rfl) d_Signs_hasWord_29 ⟨rfl, rfl, by decide, by decide⟩ ⟨by first | decide | (dsimp only; omega), by first | decide | (dsimp only; omega)⟩) (fun r7 g6 H locs p5 hw => ?_)
        obtain ⟨rfl, p5⟩ := p5
        refine lv_aload_n hx hb d_Signs_hasWord_32 rfl (lv_at hl 2 rfl) ?_
        refine lv_iload hx hb d_Signs_hasWord_33 (lv_at hl 0 rfl) ?_
        have hlt : i < lenTx.getD k 0 := Nat.not_le.mp (fun z => c4 (nI_le z (by omega)))
        refine m_calli hw (m_runV0 (As := [.int (nI i)]) (rest := [.int r7]) hc hE hw (c_String_charAt G l H.size f hk hlt htb) (m_strecv hE hw hk) cw_Signs_39 se_String_charAt rfl hl.1 rfl (Nat.le_of_ble_eq_true rfl) d_Signs_hasWord_35 ⟨rfl, rfl, by decide, by decide⟩ ⟨by first | decide | (dsimp only; omega), by first | decide | (dsimp only; omega)⟩) (fun r10 g9 H locs p8 hw => ?_)
        obtain ⟨rfl, p8⟩ := p8
        refine lv_icmp_eq (tgt := 43) hx hb d_Signs_hasWord_38 (by decide) (fun c11 => ?_) (fun c11 => ?_)
        · refine lv_iinc (v := (nI (i + 1))) (lv' := [(4, .int (nI (i + 1))), (0, .ref a), (1, .ref (G.2.2.1 k)), (2, .int (nI i0)), (3, .int (nI i1))]) hx hb d_Signs_hasWord_43 hl (k := 0) rfl (nI_1 _) (by decide) rfl (fun ls hl => ?_)
          refine lv_goto (tgt := 15) hx hb d_Signs_hasWord_46 (by decide) ?_
          have heq : t (i0 + i) = (bytTx.getD k []).getD i 0 := by have z := c11; rw [p5, p8, atv_in (by omega) (by omega), htc i hlt] at z; exact z
          exact ih (i + 1) ls H locs (by omega) hle (by omega) (fun j q => by rcases Nat.lt_or_ge j i with q1 | q1; exact hm j q1; rw [show j = i by omega]; exact heq) hw (lv_sub hl [0, 1, 2, 3, 4] rfl)
        · refine lv_iconst (v := 0) hx hb d_Signs_hasWord_41 (by decide) ?_
          have hne : ¬ t (i0 + i) = (bytTx.getD k []).getD i 0 := fun z => c11 (by rw [p5, p8, atv_in (by omega) (by omega), htc i hlt]; exact z)
          exact m_zret hc hr hlk hw ⟨by first | decide | (dsimp only; omega), by first | decide | (dsimp only; omega)⟩ d_Signs_hasWord_42 (by decide) ⟨rfl, (bI_f (fun z => hne (z.2 i (by omega)))).symm⟩
  refine lv_aload_n hx hb d_Signs_hasWord_0 rfl (lv_at hl 1 rfl) ?_
  refine m_calli hw (m_runV0 (As := []) (rest := []) hc hE hw (c_String_length G l H.size f hk) (m_strecv hE hw hk) cw_Signs_34 se_String_length rfl hl.1 rfl (Nat.le_of_ble_eq_true rfl) d_Signs_hasWord_1 ⟨rfl, rfl, by decide, by decide⟩ ⟨by first | decide | (dsimp only; omega), by first | decide | (dsimp only; omega)⟩) (fun r14 g13 H locs p12 hw => ?_)
  obtain ⟨rfl, p12⟩ := p12
  subst p12
  refine lv_iload_n hx hb d_Signs_hasWord_4 rfl (lv_at hl 3 rfl) ?_
  refine lv_iload_n hx hb d_Signs_hasWord_5 rfl (lv_at hl 2 rfl) ?_
  refine lv_isub hx hb d_Signs_hasWord_6 ?_
  refine m_top (y := (nI (i1 - i0))) (pk_sub h1) ?_
  refine lv_icmp_eq (tgt := 12) hx hb d_Signs_hasWord_7 (by decide) (fun c15 => ?_) (fun c15 => ?_)
  · refine lv_iconst (v := 0) hx hb d_Signs_hasWord_12 (by decide) ?_
    refine lv_istore (lv' := [(4, .int 0), (0, .ref a), (1, .ref (G.2.2.1 k)), (2, .int (nI i0)), (3, .int (nI i1))]) hx hb d_Signs_hasWord_13 hl (by decide) rfl (fun ls hl => ?_)
    exact loop (i1 - i0 + 1) 0 ls H locs (by omega) ((nI_eq (by omega) (by omega)).mp c15) (Nat.zero_le _) (fun j q => absurd q (Nat.not_lt_zero _)) hw (lv_sub hl [0, 1, 2, 3, 4] rfl)
  · refine lv_iconst (v := 0) hx hb d_Signs_hasWord_10 (by decide) ?_
    exact m_zret hc hr hlk hw ⟨by first | decide | (dsimp only; omega), by first | decide | (dsimp only; omega)⟩ d_Signs_hasWord_11 (by decide) ⟨rfl, (bI_f (fun z => c15 (congrArg nI (htl.trans z.1.symm)))).symm⟩
