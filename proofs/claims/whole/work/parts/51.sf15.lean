/-! links of the pools, as the walks ask for them -/
theorem lf_Question_14_Question : 0 < 11 ∧ Cond.fieldLink "StreamFilters$Question" 14 "StreamFilters$Question" (F_Question 0).2.1 (F_Question 0).2.2.1 ∈ TB := ⟨by decide, (tb 48 (by decide +kernel) rfl)⟩
theorem lf_Question_20_Question : 1 < 11 ∧ Cond.fieldLink "StreamFilters$Question" 20 "StreamFilters$Question" (F_Question 1).2.1 (F_Question 1).2.2.1 ∈ TB := ⟨by decide, (tb 52 (by decide +kernel) rfl)⟩
theorem lf_SF_14_SF : 0 < 4 ∧ Cond.fieldLink "StreamFilters" 14 "StreamFilters" (F_SF 0).2.1 (F_SF 0).2.2.1 ∈ TB := ⟨by decide, (tb 152 (by decide +kernel) rfl)⟩
theorem lf_SF_21_SF : 1 < 4 ∧ Cond.fieldLink "StreamFilters" 21 "StreamFilters" (F_SF 1).2.1 (F_SF 1).2.2.1 ∈ TB := ⟨by decide, (tb 153 (by decide +kernel) rfl)⟩
theorem lf_SF_30_SF : 2 < 4 ∧ Cond.fieldLink "StreamFilters" 30 "StreamFilters" (F_SF 2).2.1 (F_SF 2).2.2.1 ∈ TB := ⟨by decide, (tb 154 (by decide +kernel) rfl)⟩
theorem lf_SF_36_SF : 3 < 4 ∧ Cond.fieldLink "StreamFilters" 36 "StreamFilters" (F_SF 3).2.1 (F_SF 3).2.2.1 ∈ TB := ⟨by decide, (tb 155 (by decide +kernel) rfl)⟩
theorem nw_Question_9 : nwk "StreamFilters$Question" 9 R_Signs 2 := ⟨(tb 46 (by decide +kernel) rfl), (tb 27 (by decide +kernel) rfl), (tb 2 (by decide +kernel) rfl)⟩
theorem nw_SF_18 : nwk "StreamFilters" 18 R_Question 11 := ⟨(tb 40 (by decide +kernel) rfl), (tb 41 (by decide +kernel) rfl), (tb 3 (by decide +kernel) rfl)⟩
theorem nw_SF_25 : nwk "StreamFilters" 25 R_PieceReader 12 := ⟨(tb 101 (by decide +kernel) rfl), (tb 102 (by decide +kernel) rfl), (tb 4 (by decide +kernel) rfl)⟩
theorem nw_SF_7 : nwk "StreamFilters" 7 R_Signs 2 := ⟨(tb 26 (by decide +kernel) rfl), (tb 27 (by decide +kernel) rfl), (tb 2 (by decide +kernel) rfl)⟩
theorem cl_SF_34 : Cond.classLink "StreamFilters" 34 "StreamFilters$Filter" ∈ TB := (tb 150 (by decide +kernel) rfl)
theorem cw_Question_11 : cwk "StreamFilters$Question" 11 y_Signs_init b_Signs_init 2 none 1 := ⟨Or.inl (tb 47 (by decide +kernel) rfl), (tb 30 (by decide +kernel) rfl), (tb 2 (by decide +kernel) rfl), by decide, by decide, by decide +kernel⟩
theorem cw_SF_11 : cwk "StreamFilters" 11 y_Signs_init b_Signs_init 2 none 1 := ⟨Or.inl (tb 28 (by decide +kernel) rfl), (tb 30 (by decide +kernel) rfl), (tb 2 (by decide +kernel) rfl), by decide, by decide, by decide +kernel⟩
theorem cw_SF_20 : cwk "StreamFilters" 20 y_Question_init b_Question_init 1 none 0 := ⟨Or.inl (tb 42 (by decide +kernel) rfl), (tb 44 (by decide +kernel) rfl), (tb 3 (by decide +kernel) rfl), by decide, by decide, by decide +kernel⟩
theorem cw_SF_27 : cwk "StreamFilters" 27 y_PieceReader_init b_PieceReader_init 2 none 1 := ⟨Or.inl (tb 103 (by decide +kernel) rfl), (tb 105 (by decide +kernel) rfl), (tb 4 (by decide +kernel) rfl), by decide, by decide, by decide +kernel⟩
theorem si_PieceReader_init : Cond.instanceMethod y_PieceReader_init ∈ TB := (tb 104 (by decide +kernel) rfl)
theorem si_Question_init : Cond.instanceMethod y_Question_init ∈ TB := (tb 43 (by decide +kernel) rfl)
theorem oi_Question_3 : Cond.methodLink "StreamFilters$Question" 3 Lib.objectInit ∈ TB := (tb 45 (by decide +kernel) rfl)
theorem oi_SF_1 : Cond.methodLink "StreamFilters" 1 Lib.objectInit ∈ TB := (tb 23 (by decide +kernel) rfl)
theorem ao_Filter : "StreamFilters$Filter" ∈ AOs := by decide
/-! decode rows -/
theorem d_SF_init_0 : decode b_SF_init 0 = .ok (.aload_n 0, 1) := by decide +kernel
theorem d_SF_init_1 : decode b_SF_init 1 = .ok (.invokespecial 1, 3) := by decide +kernel
theorem d_SF_init_4 : decode b_SF_init 4 = .ok (.aload_n 0, 1) := by decide +kernel
theorem d_SF_init_5 : decode b_SF_init 5 = .ok (.new 7, 3) := by decide +kernel
theorem d_SF_init_8 : decode b_SF_init 8 = .ok (.dup, 1) := by decide +kernel
theorem d_SF_init_9 : decode b_SF_init 9 = .ok (.bipush 90, 2) := by decide +kernel
theorem d_SF_init_11 : decode b_SF_init 11 = .ok (.invokespecial 11, 3) := by decide +kernel
theorem d_SF_init_14 : decode b_SF_init 14 = .ok (.putfield 14, 3) := by decide +kernel
theorem d_SF_init_17 : decode b_SF_init 17 = .ok (.aload_n 0, 1) := by decide +kernel
theorem d_SF_init_18 : decode b_SF_init 18 = .ok (.new 18, 3) := by decide +kernel
theorem d_SF_init_21 : decode b_SF_init 21 = .ok (.dup, 1) := by decide +kernel
theorem d_SF_init_22 : decode b_SF_init 22 = .ok (.invokespecial 20, 3) := by decide +kernel
theorem d_SF_init_25 : decode b_SF_init 25 = .ok (.putfield 21, 3) := by decide +kernel
theorem d_SF_init_28 : decode b_SF_init 28 = .ok (.aload_n 0, 1) := by decide +kernel
theorem d_SF_init_29 : decode b_SF_init 29 = .ok (.new 25, 3) := by decide +kernel
theorem d_SF_init_32 : decode b_SF_init 32 = .ok (.dup, 1) := by decide +kernel
theorem d_SF_init_33 : decode b_SF_init 33 = .ok (.aload_n 0, 1) := by decide +kernel
theorem d_SF_init_34 : decode b_SF_init 34 = .ok (.getfield 14, 3) := by decide +kernel
theorem d_SF_init_37 : decode b_SF_init 37 = .ok (.invokespecial 27, 3) := by decide +kernel
theorem d_SF_init_40 : decode b_SF_init 40 = .ok (.putfield 30, 3) := by decide +kernel
theorem d_SF_init_43 : decode b_SF_init 43 = .ok (.aload_n 0, 1) := by decide +kernel
theorem d_SF_init_44 : decode b_SF_init 44 = .ok (.bipush 10, 2) := by decide +kernel
theorem d_SF_init_46 : decode b_SF_init 46 = .ok (.anewarray 34, 3) := by decide +kernel
theorem d_SF_init_49 : decode b_SF_init 49 = .ok (.putfield 36, 3) := by decide +kernel
theorem d_SF_init_52 : decode b_SF_init 52 = .ok (.return_, 1) := by decide +kernel
theorem d_Question_init_0 : decode b_Question_init 0 = .ok (.aload_n 0, 1) := by decide +kernel
theorem d_Question_init_1 : decode b_Question_init 1 = .ok (.invokespecial 3, 3) := by decide +kernel
theorem d_Question_init_4 : decode b_Question_init 4 = .ok (.aload_n 0, 1) := by decide +kernel
theorem d_Question_init_5 : decode b_Question_init 5 = .ok (.new 9, 3) := by decide +kernel
theorem d_Question_init_8 : decode b_Question_init 8 = .ok (.dup, 1) := by decide +kernel
theorem d_Question_init_9 : decode b_Question_init 9 = .ok (.bipush 40, 2) := by decide +kernel
theorem d_Question_init_11 : decode b_Question_init 11 = .ok (.invokespecial 11, 3) := by decide +kernel
theorem d_Question_init_14 : decode b_Question_init 14 = .ok (.putfield 14, 3) := by decide +kernel
theorem d_Question_init_17 : decode b_Question_init 17 = .ok (.aload_n 0, 1) := by decide +kernel
theorem d_Question_init_18 : decode b_Question_init 18 = .ok (.new 9, 3) := by decide +kernel
theorem d_Question_init_21 : decode b_Question_init 21 = .ok (.dup, 1) := by decide +kernel
theorem d_Question_init_22 : decode b_Question_init 22 = .ok (.bipush 12, 2) := by decide +kernel
theorem d_Question_init_24 : decode b_Question_init 24 = .ok (.invokespecial 11, 3) := by decide +kernel
theorem d_Question_init_27 : decode b_Question_init 27 = .ok (.putfield 20, 3) := by decide +kernel
theorem d_Question_init_30 : decode b_Question_init 30 = .ok (.aload_n 0, 1) := by decide +kernel
theorem d_Question_init_31 : decode b_Question_init 31 = .ok (.bipush (-2), 2) := by decide +kernel
theorem d_Question_init_33 : decode b_Question_init 33 = .ok (.putfield 23, 3) := by decide +kernel
theorem d_Question_init_36 : decode b_Question_init 36 = .ok (.return_, 1) := by decide +kernel
set_option maxHeartbeats 4000000 in
set_option maxRecDepth 100000 in
/-- Question.<init> -/
theorem c_Question_init (G : GG) (l : Launch) (sz : Nat) (f : Wd) {ad : Nat → Nat} {E : Nat → va_E} {g : Wd} {a : Nat} (ha : a = ad 2) (hR : Rg 3 ad E g f) (hE2 : E 2 = .inr (2, [.null, .null, .int 0, .int 0, .int 0, .int 0, .int 0, .int 0, .int 0, .int 0, .int 0])) : Cv G l y_Question_init b_Question_init 1 none ({ frames := 2, cells := 4, slots := 184, locals := 40 }) sz f [.ref a] (fun f' => ∃ (q1 r1 q2 r2 : Nat) (E' : Nat → va_E), Rg 7 (va_up (va_up (va_up (va_up ad 3 q1) 4 r1) 5 q2) 6 r2) E' g f' ∧ E' 0 = E 0 ∧ E' 1 = E 1 ∧ E' 2 = .inr (2, [.ref q1, .ref q2, .int 0, .int 0, .int 0, .int 0, .int 0, .int 0, .int 0, .int 0, .int (-2)]) ∧ E' 3 = .inr (1, [.ref r1, .int 0]) ∧ E' 4 = .inl (G.2.1 1, 40, .inl (fun _ => 0)) ∧ E' 5 = .inr (1, [.ref r2, .int 0]) ∧ E' 6 = .inl (G.2.1 1, 12, .inl (fun _ => 0))) := by
  refine ct_of (by decide) (Nat.le_of_ble_eq_true rfl) ?_
  intro p e s m below meth c ls H locs hEn
  obtain ⟨hc, hr, hlk, hin, hE, hw, hsz, hl⟩ := hEn
  have hx := hc.1
  have hb := hc.2.1
  have hl : lv_has ls 1 [(0, .ref a)] := hl
  have h2 : f a = some (.inr (2, [.null, .null, .int 0, .int 0, .int 0, .int 0, .int 0, .int 0, .int 0, .int 0, .int 0])) := by rw [ha]; exact hR.get 2 (by decide) hE2
  refine lv_aload_n hx hb d_Question_init_0 rfl (lv_at hl 0 rfl) ?_
  refine m_objInit hc oi_Question_3 oi_w hl.1 d_Question_init_1 (Nat.le_of_ble_eq_true rfl) (Nat.le_of_ble_eq_true rfl) ?_
  refine lv_aload_n hx hb d_Question_init_4 rfl (lv_at hl 0 rfl) ?_
  refine m_new hc hE hw (fs := [.null, .int 0]) kc_Signs nw_Question_9 bl_Signs (by first | decide | (dsimp only; omega)) (by first | decide | (dsimp only; omega)) d_Question_init_5 (fun q1 H u2 hw => ?_)
  obtain ⟨f3, ef3⟩ : ∃ z : Wd, z = va_up f q1 (some (.inr (1, [.null, .int 0]))) := ⟨_, rfl⟩
  replace hw : ms G.1 (Af f sz) f3 s H locs := by rw [ef3]; exact hw
  have n_a_q1 : a ≠ q1 := wnf h2 u2
  have h4 : f3 a = some (.inr (2, [.null, .null, .int 0, .int 0, .int 0, .int 0, .int 0, .int 0, .int 0, .int 0, .int 0])) := by rw [ef3, va_up_ne _ _ n_a_q1]; exact h2
  have h5 : f3 q1 = some (.inr (1, [.null, .int 0])) := by rw [ef3, va_up_self]
  obtain ⟨E6, eE6⟩ : ∃ z, z = va_up E 3 (.inr (1, [.null, .int 0])) := ⟨_, rfl⟩
  have hR7 : Rg 4 (va_up ad 3 q1) E6 g f3 := by rw [ef3, eE6]; exact hR.add _ u2
  refine lv_dup hx hb d_Question_init_8 rfl ?_
  refine lv_bipush (v := 40) hx hb d_Question_init_9 (by decide) ?_
  refine m_callv hw (m_runI (As := [.int 40]) (rest := [.ref q1, .ref a]) hc hE hw (c_Signs_init G l H.size f3 h5 (N := 40) (by decide)) cw_Question_11 ⟨rfl, si_Signs_init⟩ rfl hl.1 rfl (Nat.le_of_ble_eq_true rfl) d_Question_init_11 ⟨rfl, rfl, by decide, by decide⟩ ⟨by first | decide | (dsimp only; omega), by first | decide | (dsimp only; omega)⟩) (fun g9 H locs p8 hw => ?_)
  obtain ⟨r10, u11, e12⟩ := p8
  have n_q1_r10 : q1 ≠ r10 := wnf h5 u11
  have n_a_r10 : a ≠ r10 := wnf h4 u11
  have h13 : g9 a = some (.inr (2, [.null, .null, .int 0, .int 0, .int 0, .int 0, .int 0, .int 0, .int 0, .int 0, .int 0])) := by rw [e12, va_up_ne _ _ n_a_q1, va_up_ne _ _ n_a_r10]; exact h4
  have h14 : g9 r10 = some (.inl (G.2.1 1, 40, .inl (fun _ => 0))) := by rw [e12, va_up_ne _ _ (Ne.symm n_q1_r10), va_up_self]
  have h15 : g9 q1 = some (.inr (1, [.ref r10, .int 0])) := by rw [e12, va_up_self]
  obtain ⟨E16, eE16⟩ : ∃ z, z = va_up (va_up E6 4 (.inl (G.2.1 1, 40, .inl (fun _ => 0)))) 3 (.inr (1, [.ref r10, .int 0])) := ⟨_, rfl⟩
  have hR17 : Rg 5 (va_up (va_up ad 3 q1) 4 r10) E16 g g9 := by rw [e12, eE16]; exact (hR7.add _ u11).up 3 (by decide) _
  refine m_putF hc hE hw hin h13 kc_Question lf_Question_14_Question rfl rfl ds_Question_0 rfl rfl (Nat.le_of_ble_eq_true rfl) d_Question_init_14 (fun H locs hw => ?_)
  obtain ⟨f18, ef18⟩ : ∃ z : Wd, z = va_up g9 a (some (.inr (2, [.ref q1, .null, .int 0, .int 0, .int 0, .int 0, .int 0, .int 0, .int 0, .int 0, .int 0]))) := ⟨_, rfl⟩
  replace hw : ms G.1 (Af f sz) f18 s H locs := by rw [ef18]; exact hw
  have h19 : f18 q1 = some (.inr (1, [.ref r10, .int 0])) := by rw [ef18, va_up_ne _ _ (Ne.symm n_a_q1)]; exact h15
  have h20 : f18 r10 = some (.inl (G.2.1 1, 40, .inl (fun _ => 0))) := by rw [ef18, va_up_ne _ _ (Ne.symm n_a_r10)]; exact h14
  have h21 : f18 a = some (.inr (2, [.ref q1, .null, .int 0, .int 0, .int 0, .int 0, .int 0, .int 0, .int 0, .int 0, .int 0])) := by rw [ef18, va_up_self]
  obtain ⟨E22, eE22⟩ : ∃ z, z = va_up E16 2 (.inr (2, [.ref q1, .null, .int 0, .int 0, .int 0, .int 0, .int 0, .int 0, .int 0, .int 0, .int 0])) := ⟨_, rfl⟩
  have hR23 : Rg 5 (va_up (va_up ad 3 q1) 4 r10) E22 g f18 := by rw [ef18, eE22, ha]; exact hR17.up 2 (by decide) _
  refine lv_aload_n hx hb d_Question_init_17 rfl (lv_at hl 0 rfl) ?_
  refine m_new hc hE hw (fs := [.null, .int 0]) kc_Signs nw_Question_9 bl_Signs (by first | decide | (dsimp only; omega)) (by first | decide | (dsimp only; omega)) d_Question_init_18 (fun q24 H u25 hw => ?_)
  obtain ⟨f26, ef26⟩ : ∃ z : Wd, z = va_up f18 q24 (some (.inr (1, [.null, .int 0]))) := ⟨_, rfl⟩
  replace hw : ms G.1 (Af f sz) f26 s H locs := by rw [ef26]; exact hw
  have n_a_q24 : a ≠ q24 := wnf h21 u25
  have h27 : f26 a = some (.inr (2, [.ref q1, .null, .int 0, .int 0, .int 0, .int 0, .int 0, .int 0, .int 0, .int 0, .int 0])) := by rw [ef26, va_up_ne _ _ n_a_q24]; exact h21
  have n_q1_q24 : q1 ≠ q24 := wnf h19 u25
  have h28 : f26 q1 = some (.inr (1, [.ref r10, .int 0])) := by rw [ef26, va_up_ne _ _ n_q1_q24]; exact h19
  have n_r10_q24 : r10 ≠ q24 := wnf h20 u25
  have h29 : f26 r10 = some (.inl (G.2.1 1, 40, .inl (fun _ => 0))) := by rw [ef26, va_up_ne _ _ n_r10_q24]; exact h20
  have h30 : f26 q24 = some (.inr (1, [.null, .int 0])) := by rw [ef26, va_up_self]
  obtain ⟨E31, eE31⟩ : ∃ z, z = va_up E22 5 (.inr (1, [.null, .int 0])) := ⟨_, rfl⟩
  have hR32 : Rg 6 (va_up (va_up (va_up ad 3 q1) 4 r10) 5 q24) E31 g f26 := by rw [ef26, eE31]; exact hR23.add _ u25
  refine lv_dup hx hb d_Question_init_21 rfl ?_
  refine lv_bipush (v := 12) hx hb d_Question_init_22 (by decide) ?_
  refine m_callv hw (m_runI (As := [.int 12]) (rest := [.ref q24, .ref a]) hc hE hw (c_Signs_init G l H.size f26 h30 (N := 12) (by decide)) cw_Question_11 ⟨rfl, si_Signs_init⟩ rfl hl.1 rfl (Nat.le_of_ble_eq_true rfl) d_Question_init_24 ⟨rfl, rfl, by decide, by decide⟩ ⟨by first | decide | (dsimp only; omega), by first | decide | (dsimp only; omega)⟩) (fun g34 H locs p33 hw => ?_)
  obtain ⟨r35, u36, e37⟩ := p33
  have n_q24_r35 : q24 ≠ r35 := wnf h30 u36
  have n_a_r35 : a ≠ r35 := wnf h27 u36
  have h38 : g34 a = some (.inr (2, [.ref q1, .null, .int 0, .int 0, .int 0, .int 0, .int 0, .int 0, .int 0, .int 0, .int 0])) := by rw [e37, va_up_ne _ _ n_a_q24, va_up_ne _ _ n_a_r35]; exact h27
  have n_q1_r35 : q1 ≠ r35 := wnf h28 u36
  have h39 : g34 q1 = some (.inr (1, [.ref r10, .int 0])) := by rw [e37, va_up_ne _ _ n_q1_q24, va_up_ne _ _ n_q1_r35]; exact h28
  have n_r10_r35 : r10 ≠ r35 := wnf h29 u36
  have h40 : g34 r10 = some (.inl (G.2.1 1, 40, .inl (fun _ => 0))) := by rw [e37, va_up_ne _ _ n_r10_q24, va_up_ne _ _ n_r10_r35]; exact h29
  have h41 : g34 r35 = some (.inl (G.2.1 1, 12, .inl (fun _ => 0))) := by rw [e37, va_up_ne _ _ (Ne.symm n_q24_r35), va_up_self]
  have h42 : g34 q24 = some (.inr (1, [.ref r35, .int 0])) := by rw [e37, va_up_self]
  obtain ⟨E43, eE43⟩ : ∃ z, z = va_up (va_up E31 6 (.inl (G.2.1 1, 12, .inl (fun _ => 0)))) 5 (.inr (1, [.ref r35, .int 0])) := ⟨_, rfl⟩
  have hR44 : Rg 7 (va_up (va_up (va_up (va_up ad 3 q1) 4 r10) 5 q24) 6 r35) E43 g g34 := by rw [e37, eE43]; exact (hR32.add _ u36).up 5 (by decide) _
  refine m_putF hc hE hw hin h38 kc_Question lf_Question_20_Question rfl rfl ds_Question_1 rfl rfl (Nat.le_of_ble_eq_true rfl) d_Question_init_27 (fun H locs hw => ?_)
  obtain ⟨f45, ef45⟩ : ∃ z : Wd, z = va_up g34 a (some (.inr (2, [.ref q1, .ref q24, .int 0, .int 0, .int 0, .int 0, .int 0, .int 0, .int 0, .int 0, .int 0]))) := ⟨_, rfl⟩
  replace hw : ms G.1 (Af f sz) f45 s H locs := by rw [ef45]; exact hw
  have h46 : f45 q1 = some (.inr (1, [.ref r10, .int 0])) := by rw [ef45, va_up_ne _ _ (Ne.symm n_a_q1)]; exact h39
  have h47 : f45 r10 = some (.inl (G.2.1 1, 40, .inl (fun _ => 0))) := by rw [ef45, va_up_ne _ _ (Ne.symm n_a_r10)]; exact h40
  have h48 : f45 q24 = some (.inr (1, [.ref r35, .int 0])) := by rw [ef45, va_up_ne _ _ (Ne.symm n_a_q24)]; exact h42
  have h49 : f45 r35 = some (.inl (G.2.1 1, 12, .inl (fun _ => 0))) := by rw [ef45, va_up_ne _ _ (Ne.symm n_a_r35)]; exact h41
  have h50 : f45 a = some (.inr (2, [.ref q1, .ref q24, .int 0, .int 0, .int 0, .int 0, .int 0, .int 0, .int 0, .int 0, .int 0])) := by rw [ef45, va_up_self]
  obtain ⟨E51, eE51⟩ : ∃ z, z = va_up E43 2 (.inr (2, [.ref q1, .ref q24, .int 0, .int 0, .int 0, .int 0, .int 0, .int 0, .int 0, .int 0, .int 0])) := ⟨_, rfl⟩
  have hR52 : Rg 7 (va_up (va_up (va_up (va_up ad 3 q1) 4 r10) 5 q24) 6 r35) E51 g f45 := by rw [ef45, eE51, ha]; exact hR44.up 2 (by decide) _
  refine lv_aload_n hx hb d_Question_init_30 rfl (lv_at hl 0 rfl) ?_
  refine lv_bipush (v := (-2)) hx hb d_Question_init_31 (by decide) ?_
  refine m_put hc hE hw h50 kc_Question l_Question_23_Question rfl ds_Question_10 rfl rfl (Nat.le_of_ble_eq_true rfl) d_Question_init_33 (fun H locs hw => ?_)
  obtain ⟨f53, ef53⟩ : ∃ z : Wd, z = va_up f45 a (some (.inr (2, [.ref q1, .ref q24, .int 0, .int 0, .int 0, .int 0, .int 0, .int 0, .int 0, .int 0, .int (-2)]))) := ⟨_, rfl⟩
  replace hw : ms G.1 (Af f sz) f53 s H locs := by rw [ef53]; exact hw
  have h54 : f53 q1 = some (.inr (1, [.ref r10, .int 0])) := by rw [ef53, va_up_ne _ _ (Ne.symm n_a_q1)]; exact h46
  have h55 : f53 r10 = some (.inl (G.2.1 1, 40, .inl (fun _ => 0))) := by rw [ef53, va_up_ne _ _ (Ne.symm n_a_r10)]; exact h47
  have h56 : f53 q24 = some (.inr (1, [.ref r35, .int 0])) := by rw [ef53, va_up_ne _ _ (Ne.symm n_a_q24)]; exact h48
  have h57 : f53 r35 = some (.inl (G.2.1 1, 12, .inl (fun _ => 0))) := by rw [ef53, va_up_ne _ _ (Ne.symm n_a_r35)]; exact h49
  have h58 : f53 a = some (.inr (2, [.ref q1, .ref q24, .int 0, .int 0, .int 0, .int 0, .int 0, .int 0, .int 0, .int 0, .int (-2)])) := by rw [ef53, va_up_self]
  obtain ⟨E59, eE59⟩ : ∃ z, z = va_up E51 2 (.inr (2, [.ref q1, .ref q24, .int 0, .int 0, .int 0, .int 0, .int 0, .int 0, .int 0, .int 0, .int (-2)])) := ⟨_, rfl⟩
  have hR60 : Rg 7 (va_up (va_up (va_up (va_up ad 3 q1) 4 r10) 5 q24) 6 r35) E59 g f53 := by rw [ef53, eE59, ha]; exact hR52.up 2 (by decide) _
  subst eE59 eE51 eE43 eE31 eE22 eE16 eE6
  exact m_vret hc hr hlk hw ⟨by first | decide | (dsimp only; omega), by first | decide | (dsimp only; omega)⟩ d_Question_init_36 ⟨q1, r10, q24, r35, _, hR60, rfl, rfl, rfl, rfl, rfl, rfl, rfl⟩

set_option maxHeartbeats 4000000 in
set_option maxRecDepth 100000 in
/-- StreamFilters.<init> -/
theorem c_SF_init (G : GG) (l : Launch) (sz : Nat) (f : Wd) {root : Nat} (h0 : f root = some (.inr (0, [.null, .null, .null, .null]))) : Cv G l y_SF_init b_SF_init 1 none ({ frames := 3, cells := 10, slots := 400, locals := 70 }) sz f [.ref root] (fun f' => ∃ (ad : Nat → Nat) (E : Nat → va_E) (g : Wd), Rg 9 ad E g f' ∧ SC G ad E g root 0 (fun _ => 0) 0 (fun _ => 0) 0 (fun _ => 0) 0 0 0 0 0 (-2) (fun _ => none) ∧ ∀ (q : Nat) (e : va_E), f q = some e → q ≠ root → g q = some e) := by
  refine ct_of (by decide) (Nat.le_of_ble_eq_true rfl) ?_
  intro p e s m below meth c ls H locs hEn
  obtain ⟨hc, hr, hlk, hin, hE, hw, hsz, hl⟩ := hEn
  have hx := hc.1
  have hb := hc.2.1
  have hl : lv_has ls 1 [(0, .ref root)] := hl
  have hR0 : Rg 0 (fun _ => 0) (fun _ => (.inr (0, []) : va_E)) f f := Rg.zero
  refine lv_aload_n hx hb d_SF_init_0 rfl (lv_at hl 0 rfl) ?_
  refine m_objInit hc oi_SF_1 oi_w hl.1 d_SF_init_1 (Nat.le_of_ble_eq_true rfl) (Nat.le_of_ble_eq_true rfl) ?_
  refine lv_aload_n hx hb d_SF_init_4 rfl (lv_at hl 0 rfl) ?_
  refine m_new hc hE hw (fs := [.null, .int 0]) kc_Signs nw_SF_7 bl_Signs (by first | decide | (dsimp only; omega)) (by first | decide | (dsimp only; omega)) d_SF_init_5 (fun q1 H u2 hw => ?_)
  obtain ⟨f3, ef3⟩ : ∃ z : Wd, z = va_up f q1 (some (.inr (1, [.null, .int 0]))) := ⟨_, rfl⟩
  replace hw : ms G.1 (Af f sz) f3 s H locs := by rw [ef3]; exact hw
  have n_root_q1 : root ≠ q1 := wnf h0 u2
  have h4 : f3 root = some (.inr (0, [.null, .null, .null, .null])) := by rw [ef3, va_up_ne _ _ n_root_q1]; exact h0
  have h5 : f3 q1 = some (.inr (1, [.null, .int 0])) := by rw [ef3, va_up_self]
  obtain ⟨E6, eE6⟩ : ∃ z, z = va_up (fun _ => (.inr (0, []) : va_E)) 0 (.inr (1, [.null, .int 0])) := ⟨_, rfl⟩
  have hR7 : Rg 1 (va_up (fun _ => 0) 0 q1) E6 f f3 := by rw [ef3, eE6]; exact hR0.add _ u2
  refine lv_dup hx hb d_SF_init_8 rfl ?_
  refine lv_bipush (v := 90) hx hb d_SF_init_9 (by decide) ?_
  refine m_callv hw (m_runI (As := [.int 90]) (rest := [.ref q1, .ref root]) hc hE hw (c_Signs_init G l H.size f3 h5 (N := 90) (by decide)) cw_SF_11 ⟨rfl, si_Signs_init⟩ rfl hl.1 rfl (Nat.le_of_ble_eq_true rfl) d_SF_init_11 ⟨rfl, rfl, by decide, by decide⟩ ⟨by first | decide | (dsimp only; omega), by first | decide | (dsimp only; omega)⟩) (fun g9 H locs p8 hw => ?_)
  obtain ⟨r10, u11, e12⟩ := p8
  have n_q1_r10 : q1 ≠ r10 := wnf h5 u11
  have n_root_r10 : root ≠ r10 := wnf h4 u11
  have h13 : g9 root = some (.inr (0, [.null, .null, .null, .null])) := by rw [e12, va_up_ne _ _ n_root_q1, va_up_ne _ _ n_root_r10]; exact h4
  have h14 : g9 r10 = some (.inl (G.2.1 1, 90, .inl (fun _ => 0))) := by rw [e12, va_up_ne _ _ (Ne.symm n_q1_r10), va_up_self]
  have h15 : g9 q1 = some (.inr (1, [.ref r10, .int 0])) := by rw [e12, va_up_self]
  obtain ⟨E16, eE16⟩ : ∃ z, z = va_up (va_up E6 1 (.inl (G.2.1 1, 90, .inl (fun _ => 0)))) 0 (.inr (1, [.ref r10, .int 0])) := ⟨_, rfl⟩
  have hR17 : Rg 2 (va_up (va_up (fun _ => 0) 0 q1) 1 r10) E16 f g9 := by rw [e12, eE16]; exact (hR7.add _ u11).up 0 (by decide) _
  refine m_putF hc hE hw hin h13 kc_SF lf_SF_14_SF rfl rfl ds_SF_0 rfl rfl (Nat.le_of_ble_eq_true rfl) d_SF_init_14 (fun H locs hw => ?_)
  obtain ⟨f18, ef18⟩ : ∃ z : Wd, z = va_up g9 root (some (.inr (0, [.ref q1, .null, .null, .null]))) := ⟨_, rfl⟩
  replace hw : ms G.1 (Af f sz) f18 s H locs := by rw [ef18]; exact hw
  have h19 : f18 q1 = some (.inr (1, [.ref r10, .int 0])) := by rw [ef18, va_up_ne _ _ (Ne.symm n_root_q1)]; exact h15
  have h20 : f18 r10 = some (.inl (G.2.1 1, 90, .inl (fun _ => 0))) := by rw [ef18, va_up_ne _ _ (Ne.symm n_root_r10)]; exact h14
  have h21 : f18 root = some (.inr (0, [.ref q1, .null, .null, .null])) := by rw [ef18, va_up_self]
  have hR22 : Rg 2 (va_up (va_up (fun _ => 0) 0 q1) 1 r10) E16 (va_up f root (some (.inr (0, [.ref q1, .null, .null, .null])))) f18 := by rw [ef18]; exact hR17.upG _ h0
  refine lv_aload_n hx hb d_SF_init_17 rfl (lv_at hl 0 rfl) ?_
  refine m_new hc hE hw (fs := [.null, .null, .int 0, .int 0, .int 0, .int 0, .int 0, .int 0, .int 0, .int 0, .int 0]) kc_Question nw_SF_18 bl_Question (by first | decide | (dsimp only; omega)) (by first | decide | (dsimp only; omega)) d_SF_init_18 (fun q23 H u24 hw => ?_)
  obtain ⟨f25, ef25⟩ : ∃ z : Wd, z = va_up f18 q23 (some (.inr (2, [.null, .null, .int 0, .int 0, .int 0, .int 0, .int 0, .int 0, .int 0, .int 0, .int 0]))) := ⟨_, rfl⟩
  replace hw : ms G.1 (Af f sz) f25 s H locs := by rw [ef25]; exact hw
  have n_root_q23 : root ≠ q23 := wnf h21 u24
  have h26 : f25 root = some (.inr (0, [.ref q1, .null, .null, .null])) := by rw [ef25, va_up_ne _ _ n_root_q23]; exact h21
  have n_q1_q23 : q1 ≠ q23 := wnf h19 u24
  have h27 : f25 q1 = some (.inr (1, [.ref r10, .int 0])) := by rw [ef25, va_up_ne _ _ n_q1_q23]; exact h19
  have n_r10_q23 : r10 ≠ q23 := wnf h20 u24
  have h28 : f25 r10 = some (.inl (G.2.1 1, 90, .inl (fun _ => 0))) := by rw [ef25, va_up_ne _ _ n_r10_q23]; exact h20
  have h29 : f25 q23 = some (.inr (2, [.null, .null, .int 0, .int 0, .int 0, .int 0, .int 0, .int 0, .int 0, .int 0, .int 0])) := by rw [ef25, va_up_self]
  obtain ⟨E30, eE30⟩ : ∃ z, z = va_up E16 2 (.inr (2, [.null, .null, .int 0, .int 0, .int 0, .int 0, .int 0, .int 0, .int 0, .int 0, .int 0])) := ⟨_, rfl⟩
  have hR31 : Rg 3 (va_up (va_up (va_up (fun _ => 0) 0 q1) 1 r10) 2 q23) E30 (va_up f root (some (.inr (0, [.ref q1, .null, .null, .null])))) f25 := by rw [ef25, eE30]; exact hR22.add _ u24
  refine lv_dup hx hb d_SF_init_21 rfl ?_
  refine m_callv hw (m_runI (As := []) (rest := [.ref q23, .ref root]) hc hE hw (c_Question_init G l H.size f25 (ad := (va_up (va_up (va_up (fun _ => 0) 0 q1) 1 r10) 2 q23)) (E := E30) (g := (va_up f root (some (.inr (0, [.ref q1, .null, .null, .null]))))) rfl hR31 (by rw [eE30, va_up_self])) cw_SF_20 ⟨rfl, si_Question_init⟩ rfl hl.1 rfl (Nat.le_of_ble_eq_true rfl) d_SF_init_22 ⟨rfl, rfl, by decide, by decide⟩ ⟨by first | decide | (dsimp only; omega), by first | decide | (dsimp only; omega)⟩) (fun g33 H locs p32 hw => ?_)
  obtain ⟨q3, r4, q5, r6, E9, hR9, c0, c1, c2, c3, c4, c5, c6⟩ := p32
  have hro9 : g33 root = some (.inr (0, [.ref q1, .null, .null, .null])) := hR9.2.2.1 _ _ (va_up_self _ _ _)
  refine m_putF hc hE hw hin hro9 kc_SF lf_SF_21_SF rfl rfl ds_SF_1 rfl rfl (Nat.le_of_ble_eq_true rfl) d_SF_init_25 (fun H locs hw => ?_)
  obtain ⟨f34, ef34⟩ : ∃ z : Wd, z = va_up g33 root (some (.inr (0, [.ref q1, .ref q23, .null, .null]))) := ⟨_, rfl⟩
  replace hw : ms G.1 (Af f sz) f34 s H locs := by rw [ef34]; exact hw
  have h35 : f34 root = some (.inr (0, [.ref q1, .ref q23, .null, .null])) := by rw [ef34, va_up_self]
  have hR36 : Rg 7 (va_up (va_up (va_up (va_up (va_up (va_up (va_up (fun _ => 0) 0 q1) 1 r10) 2 q23) 3 q3) 4 r4) 5 q5) 6 r6) E9 (va_up (va_up f root (some (.inr (0, [.ref q1, .null, .null, .null])))) root (some (.inr (0, [.ref q1, .ref q23, .null, .null])))) f34 := by rw [ef34]; exact hR9.upG _ (va_up_self _ _ _)
  refine lv_aload_n hx hb d_SF_init_28 rfl (lv_at hl 0 rfl) ?_
  refine m_new hc hE hw (fs := [.null, .int 0, .int 0, .int 0, .int 0, .int 0, .int 0, .int 0, .int 0, .int 0, .int 0, .int 0]) kc_PieceReader nw_SF_25 bl_PieceReader (by first | decide | (dsimp only; omega)) (by first | decide | (dsimp only; omega)) d_SF_init_29 (fun q37 H u38 hw => ?_)
  obtain ⟨f39, ef39⟩ : ∃ z : Wd, z = va_up f34 q37 (some (.inr (3, [.null, .int 0, .int 0, .int 0, .int 0, .int 0, .int 0, .int 0, .int 0, .int 0, .int 0, .int 0]))) := ⟨_, rfl⟩
  replace hw : ms G.1 (Af f sz) f39 s H locs := by rw [ef39]; exact hw
  have n_root_q37 : root ≠ q37 := wnf h35 u38
  have h40 : f39 root = some (.inr (0, [.ref q1, .ref q23, .null, .null])) := by rw [ef39, va_up_ne _ _ n_root_q37]; exact h35
  have h41 : f39 q37 = some (.inr (3, [.null, .int 0, .int 0, .int 0, .int 0, .int 0, .int 0, .int 0, .int 0, .int 0, .int 0, .int 0])) := by rw [ef39, va_up_self]
  obtain ⟨E42, eE42⟩ : ∃ z, z = va_up E9 7 (.inr (3, [.null, .int 0, .int 0, .int 0, .int 0, .int 0, .int 0, .int 0, .int 0, .int 0, .int 0, .int 0])) := ⟨_, rfl⟩
  have hR43 : Rg 8 (va_up (va_up (va_up (va_up (va_up (va_up (va_up (va_up (fun _ => 0) 0 q1) 1 r10) 2 q23) 3 q3) 4 r4) 5 q5) 6 r6) 7 q37) E42 (va_up (va_up f root (some (.inr (0, [.ref q1, .null, .null, .null])))) root (some (.inr (0, [.ref q1, .ref q23, .null, .null])))) f39 := by rw [ef39, eE42]; exact hR36.add _ u38
  refine lv_dup hx hb d_SF_init_32 rfl ?_
  refine lv_aload_n hx hb d_SF_init_33 rfl (lv_at hl 0 rfl) ?_
  refine m_get hc hE hw h40 kc_SF l_SF_14_SF rfl d_SF_init_34 ?_
  refine m_callv hw (m_runI (As := [.ref q1]) (rest := [.ref q37, .ref root]) hc hE hw (c_PieceReader_init G l H.size f39 h41 q1) cw_SF_27 ⟨rfl, si_PieceReader_init⟩ rfl hl.1 rfl (Nat.le_of_ble_eq_true rfl) d_SF_init_37 ⟨rfl, rfl, by decide, by decide⟩ ⟨by first | decide | (dsimp only; omega), by first | decide | (dsimp only; omega)⟩) (fun g45 H locs p44 hw => ?_)
  have h46 : g45 root = some (.inr (0, [.ref q1, .ref q23, .null, .null])) := by rw [p44, va_up_ne _ _ n_root_q37]; exact h40
  have h47 : g45 q37 = some (.inr (3, [.ref q1, .int 0, .int 0, .int 0, .int 0, .int 0, .int 0, .int 0, .int 0, .int 0, .int 0, .int 0])) := by rw [p44, va_up_self]
  obtain ⟨E48, eE48⟩ : ∃ z, z = va_up E42 7 (.inr (3, [.ref q1, .int 0, .int 0, .int 0, .int 0, .int 0, .int 0, .int 0, .int 0, .int 0, .int 0, .int 0])) := ⟨_, rfl⟩
  have hR49 : Rg 8 (va_up (va_up (va_up (va_up (va_up (va_up (va_up (va_up (fun _ => 0) 0 q1) 1 r10) 2 q23) 3 q3) 4 r4) 5 q5) 6 r6) 7 q37) E48 (va_up (va_up f root (some (.inr (0, [.ref q1, .null, .null, .null])))) root (some (.inr (0, [.ref q1, .ref q23, .null, .null])))) g45 := by rw [p44, eE48]; exact hR43.up 7 (by decide) _
  refine m_putF hc hE hw hin h46 kc_SF lf_SF_30_SF rfl rfl ds_SF_2 rfl rfl (Nat.le_of_ble_eq_true rfl) d_SF_init_40 (fun H locs hw => ?_)
  obtain ⟨f50, ef50⟩ : ∃ z : Wd, z = va_up g45 root (some (.inr (0, [.ref q1, .ref q23, .ref q37, .null]))) := ⟨_, rfl⟩
  replace hw : ms G.1 (Af f sz) f50 s H locs := by rw [ef50]; exact hw
  have h51 : f50 q37 = some (.inr (3, [.ref q1, .int 0, .int 0, .int 0, .int 0, .int 0, .int 0, .int 0, .int 0, .int 0, .int 0, .int 0])) := by rw [ef50, va_up_ne _ _ (Ne.symm n_root_q37)]; exact h47
  have h52 : f50 root = some (.inr (0, [.ref q1, .ref q23, .ref q37, .null])) := by rw [ef50, va_up_self]
  have hR53 : Rg 8 (va_up (va_up (va_up (va_up (va_up (va_up (va_up (va_up (fun _ => 0) 0 q1) 1 r10) 2 q23) 3 q3) 4 r4) 5 q5) 6 r6) 7 q37) E48 (va_up (va_up (va_up f root (some (.inr (0, [.ref q1, .null, .null, .null])))) root (some (.inr (0, [.ref q1, .ref q23, .null, .null])))) root (some (.inr (0, [.ref q1, .ref q23, .ref q37, .null])))) f50 := by rw [ef50]; exact hR49.upG _ (va_up_self _ _ _)
  refine lv_aload_n hx hb d_SF_init_43 rfl (lv_at hl 0 rfl) ?_
  refine lv_bipush (v := 10) hx hb d_SF_init_44 (by decide) ?_
  refine m_newq hc hE hw (N' := 10) cl_SF_34 ao_Filter 2 rfl (by decide) (by decide) (by decide) (by first | decide | (dsimp only; omega)) (by first | decide | (dsimp only; omega)) d_SF_init_46 (fun q54 H u55 hw => ?_)
  obtain ⟨f56, ef56⟩ : ∃ z : Wd, z = va_up f50 q54 (some (.inl (G.2.1 2, 10, .inr (.inr (.inr (.inr (fun _ => none))))))) := ⟨_, rfl⟩
  replace hw : ms G.1 (Af f sz) f56 s H locs := by rw [ef56]; exact hw
  have n_root_q54 : root ≠ q54 := wnf h52 u55
  have h57 : f56 root = some (.inr (0, [.ref q1, .ref q23, .ref q37, .null])) := by rw [ef56, va_up_ne _ _ n_root_q54]; exact h52
  have n_q37_q54 : q37 ≠ q54 := wnf h51 u55
  have h58 : f56 q37 = some (.inr (3, [.ref q1, .int 0, .int 0, .int 0, .int 0, .int 0, .int 0, .int 0, .int 0, .int 0, .int 0, .int 0])) := by rw [ef56, va_up_ne _ _ n_q37_q54]; exact h51
  have h59 : f56 q54 = some (.inl (G.2.1 2, 10, .inr (.inr (.inr (.inr (fun _ => none)))))) := by rw [ef56, va_up_self]
  obtain ⟨E60, eE60⟩ : ∃ z, z = va_up E48 8 (.inl (G.2.1 2, 10, .inr (.inr (.inr (.inr (fun _ => none)))))) := ⟨_, rfl⟩
  have hR61 : Rg 9 (va_up (va_up (va_up (va_up (va_up (va_up (va_up (va_up (va_up (fun _ => 0) 0 q1) 1 r10) 2 q23) 3 q3) 4 r4) 5 q5) 6 r6) 7 q37) 8 q54) E60 (va_up (va_up (va_up f root (some (.inr (0, [.ref q1, .null, .null, .null])))) root (some (.inr (0, [.ref q1, .ref q23, .null, .null])))) root (some (.inr (0, [.ref q1, .ref q23, .ref q37, .null])))) f56 := by rw [ef56, eE60]; exact hR53.add _ u55
  refine m_putF hc hE hw hin h57 kc_SF lf_SF_36_SF rfl rfl ds_SF_3 rfl rfl (Nat.le_of_ble_eq_true rfl) d_SF_init_49 (fun H locs hw => ?_)
  obtain ⟨f62, ef62⟩ : ∃ z : Wd, z = va_up f56 root (some (.inr (0, [.ref q1, .ref q23, .ref q37, .ref q54]))) := ⟨_, rfl⟩
  replace hw : ms G.1 (Af f sz) f62 s H locs := by rw [ef62]; exact hw
  have h63 : f62 q37 = some (.inr (3, [.ref q1, .int 0, .int 0, .int 0, .int 0, .int 0, .int 0, .int 0, .int 0, .int 0, .int 0, .int 0])) := by rw [ef62, va_up_ne _ _ (Ne.symm n_root_q37)]; exact h58
  have h64 : f62 q54 = some (.inl (G.2.1 2, 10, .inr (.inr (.inr (.inr (fun _ => none)))))) := by rw [ef62, va_up_ne _ _ (Ne.symm n_root_q54)]; exact h59
  have h65 : f62 root = some (.inr (0, [.ref q1, .ref q23, .ref q37, .ref q54])) := by rw [ef62, va_up_self]
  have hR66 : Rg 9 (va_up (va_up (va_up (va_up (va_up (va_up (va_up (va_up (va_up (fun _ => 0) 0 q1) 1 r10) 2 q23) 3 q3) 4 r4) 5 q5) 6 r6) 7 q37) 8 q54) E60 (va_up (va_up (va_up (va_up f root (some (.inr (0, [.ref q1, .null, .null, .null])))) root (some (.inr (0, [.ref q1, .ref q23, .null, .null])))) root (some (.inr (0, [.ref q1, .ref q23, .ref q37, .null])))) root (some (.inr (0, [.ref q1, .ref q23, .ref q37, .ref q54])))) f62 := by rw [ef62]; exact hR61.upG _ (va_up_self _ _ _)
  subst eE60 eE48 eE42 eE30 eE16 eE6
  exact m_vret hc hr hlk hw ⟨by first | decide | (dsimp only; omega), by first | decide | (dsimp only; omega)⟩ d_SF_init_52 ⟨_, _, _, hR66, ⟨va_up_self _ _ _, ⟨c0, c1, Nat.zero_le _, fun j q => absurd q (Nat.not_lt_zero _)⟩, ⟨c3, c4, Nat.zero_le _, fun j q => absurd q (Nat.not_lt_zero _)⟩, ⟨c5, c6, Nat.zero_le _, fun j q => absurd q (Nat.not_lt_zero _)⟩, ⟨0, 0, 0, c2⟩, ⟨0, 0, 0, 0, 0, 0, 0, 0, 0, 0, 0, rfl⟩, fun _ => none, rfl, fun k hk => Or.inl ⟨rfl, rfl⟩⟩, fun q e h1 h2 => by rw [va_up_ne _ _ h2, va_up_ne _ _ h2, va_up_ne _ _ h2, va_up_ne _ _ h2]; exact h1⟩
