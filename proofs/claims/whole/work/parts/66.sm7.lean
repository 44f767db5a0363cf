/-! links of the pools, as the walks ask for them -/
theorem cw_SM_140 : cwk "StreamFiltersModel" 140 y_SM_firstBad b_SM_firstBad 5 (some .int) 2 := ⟨Or.inl (tb 753 (by decide +kernel) rfl), (tb 756 (by decide +kernel) rfl), (tb 5 (by decide +kernel) rfl), by decide, by decide, by decide +kernel⟩
theorem cw_SM_150 : cwk "StreamFiltersModel" 150 y_SM_none b_SM_none 2 (some .boolean) 1 := ⟨Or.inl (tb 793 (by decide +kernel) rfl), (tb 796 (by decide +kernel) rfl), (tb 5 (by decide +kernel) rfl), by decide, by decide, by decide +kernel⟩
theorem cw_SM_75 : cwk "StreamFiltersModel" 75 y_SM_lengthOf b_SM_lengthOf 2 (some .int) 1 := ⟨Or.inl (tb 737 (by decide +kernel) rfl), (tb 740 (by decide +kernel) rfl), (tb 5 (by decide +kernel) rfl), by decide, by decide, by decide +kernel⟩
theorem se_SM_firstBad : Cond.instanceMethod y_SM_firstBad ∈ TB ∧ Cond.selects "StreamFiltersModel" y_SM_firstBad y_SM_firstBad ∈ TB := ⟨(tb 755 (by decide +kernel) rfl), (tbs 17 (by decide +kernel) rfl)⟩
theorem se_SM_lengthOf : Cond.instanceMethod y_SM_lengthOf ∈ TB ∧ Cond.selects "StreamFiltersModel" y_SM_lengthOf y_SM_lengthOf ∈ TB := ⟨(tb 739 (by decide +kernel) rfl), (tbs 15 (by decide +kernel) rfl)⟩
theorem se_SM_none : Cond.instanceMethod y_SM_none ∈ TB ∧ Cond.selects "StreamFiltersModel" y_SM_none y_SM_none ∈ TB := ⟨(tb 795 (by decide +kernel) rfl), (tbs 24 (by decide +kernel) rfl)⟩
/-! decode rows -/
theorem d_SM_clear_0 : decode b_SM_clear 0 = .ok (.aload_n 0, 1) := by decide +kernel
theorem d_SM_clear_1 : decode b_SM_clear 1 = .ok (.iload_n 1, 1) := by decide +kernel
theorem d_SM_clear_2 : decode b_SM_clear 2 = .ok (.iconst 3, 1) := by decide +kernel
theorem d_SM_clear_3 : decode b_SM_clear 3 = .ok (.invokevirtual 71, 3) := by decide +kernel
theorem d_SM_clear_6 : decode b_SM_clear 6 = .ok (.ifCond .eq 5, 3) := by decide +kernel
theorem d_SM_clear_9 : decode b_SM_clear 9 = .ok (.iconst (-1), 1) := by decide +kernel
theorem d_SM_clear_10 : decode b_SM_clear 10 = .ok (.ireturn, 1) := by decide +kernel
theorem d_SM_clear_11 : decode b_SM_clear 11 = .ok (.aload_n 0, 1) := by decide +kernel
theorem d_SM_clear_12 : decode b_SM_clear 12 = .ok (.iload_n 1, 1) := by decide +kernel
theorem d_SM_clear_13 : decode b_SM_clear 13 = .ok (.invokevirtual 75, 3) := by decide +kernel
theorem d_SM_clear_16 : decode b_SM_clear 16 = .ok (.istore_n 2, 1) := by decide +kernel
theorem d_SM_clear_17 : decode b_SM_clear 17 = .ok (.iload_n 1, 1) := by decide +kernel
theorem d_SM_clear_18 : decode b_SM_clear 18 = .ok (.ifCond .ne 14, 3) := by decide +kernel
theorem d_SM_clear_21 : decode b_SM_clear 21 = .ok (.aload_n 0, 1) := by decide +kernel
theorem d_SM_clear_22 : decode b_SM_clear 22 = .ok (.aload_n 0, 1) := by decide +kernel
theorem d_SM_clear_23 : decode b_SM_clear 23 = .ok (.getfield 59, 3) := by decide +kernel
theorem d_SM_clear_26 : decode b_SM_clear 26 = .ok (.putfield 62, 3) := by decide +kernel
theorem d_SM_clear_29 : decode b_SM_clear 29 = .ok (.goto 21, 3) := by decide +kernel
theorem d_SM_clear_32 : decode b_SM_clear 32 = .ok (.iload_n 1, 1) := by decide +kernel
theorem d_SM_clear_33 : decode b_SM_clear 33 = .ok (.iconst 1, 1) := by decide +kernel
theorem d_SM_clear_34 : decode b_SM_clear 34 = .ok (.if_icmp .ne 11, 3) := by decide +kernel
theorem d_SM_clear_37 : decode b_SM_clear 37 = .ok (.aload_n 0, 1) := by decide +kernel
theorem d_SM_clear_38 : decode b_SM_clear 38 = .ok (.iconst 0, 1) := by decide +kernel
theorem d_SM_clear_39 : decode b_SM_clear 39 = .ok (.putfield 65, 3) := by decide +kernel
theorem d_SM_clear_42 : decode b_SM_clear 42 = .ok (.goto 8, 3) := by decide +kernel
theorem d_SM_clear_45 : decode b_SM_clear 45 = .ok (.aload_n 0, 1) := by decide +kernel
theorem d_SM_clear_46 : decode b_SM_clear 46 = .ok (.iconst 0, 1) := by decide +kernel
theorem d_SM_clear_47 : decode b_SM_clear 47 = .ok (.putfield 68, 3) := by decide +kernel
theorem d_SM_clear_50 : decode b_SM_clear 50 = .ok (.iload_n 2, 1) := by decide +kernel
theorem d_SM_clear_51 : decode b_SM_clear 51 = .ok (.ireturn, 1) := by decide +kernel
theorem d_SM_fault_0 : decode b_SM_fault 0 = .ok (.aload_n 0, 1) := by decide +kernel
theorem d_SM_fault_1 : decode b_SM_fault 1 = .ok (.aload_n 0, 1) := by decide +kernel
theorem d_SM_fault_2 : decode b_SM_fault 2 = .ok (.getfield 62, 3) := by decide +kernel
theorem d_SM_fault_5 : decode b_SM_fault 5 = .ok (.aload_n 0, 1) := by decide +kernel
theorem d_SM_fault_6 : decode b_SM_fault 6 = .ok (.getfield 59, 3) := by decide +kernel
theorem d_SM_fault_9 : decode b_SM_fault 9 = .ok (.invokevirtual 140, 3) := by decide +kernel
theorem d_SM_fault_12 : decode b_SM_fault 12 = .ok (.ireturn, 1) := by decide +kernel
theorem d_SM_drop_0 : decode b_SM_drop 0 = .ok (.aload_n 0, 1) := by decide +kernel
theorem d_SM_drop_1 : decode b_SM_drop 1 = .ok (.iload_n 1, 1) := by decide +kernel
theorem d_SM_drop_2 : decode b_SM_drop 2 = .ok (.invokevirtual 150, 3) := by decide +kernel
theorem d_SM_drop_5 : decode b_SM_drop 5 = .ok (.ifCond .eq 5, 3) := by decide +kernel
theorem d_SM_drop_8 : decode b_SM_drop 8 = .ok (.iconst (-1), 1) := by decide +kernel
theorem d_SM_drop_9 : decode b_SM_drop 9 = .ok (.ireturn, 1) := by decide +kernel
theorem d_SM_drop_10 : decode b_SM_drop 10 = .ok (.aload_n 0, 1) := by decide +kernel
theorem d_SM_drop_11 : decode b_SM_drop 11 = .ok (.getfield 43, 3) := by decide +kernel
theorem d_SM_drop_14 : decode b_SM_drop 14 = .ok (.iload_n 1, 1) := by decide +kernel
theorem d_SM_drop_15 : decode b_SM_drop 15 = .ok (.iconst (-1), 1) := by decide +kernel
theorem d_SM_drop_16 : decode b_SM_drop 16 = .ok (.iastore, 1) := by decide +kernel
theorem d_SM_drop_17 : decode b_SM_drop 17 = .ok (.iconst 0, 1) := by decide +kernel
theorem d_SM_drop_18 : decode b_SM_drop 18 = .ok (.ireturn, 1) := by decide +kernel
theorem d_SM_stream_0 : decode b_SM_stream 0 = .ok (.iload_n 1, 1) := by decide +kernel
theorem d_SM_stream_1 : decode b_SM_stream 1 = .ok (.ifCond .lt 11, 3) := by decide +kernel
theorem d_SM_stream_4 : decode b_SM_stream 4 = .ok (.iload_n 2, 1) := by decide +kernel
theorem d_SM_stream_5 : decode b_SM_stream 5 = .ok (.ifCond .lt 7, 3) := by decide +kernel
theorem d_SM_stream_8 : decode b_SM_stream 8 = .ok (.iload_n 3, 1) := by decide +kernel
theorem d_SM_stream_9 : decode b_SM_stream 9 = .ok (.ifCond .ge 5, 3) := by decide +kernel
theorem d_SM_stream_12 : decode b_SM_stream 12 = .ok (.iconst (-1), 1) := by decide +kernel
theorem d_SM_stream_13 : decode b_SM_stream 13 = .ok (.ireturn, 1) := by decide +kernel
theorem d_SM_stream_14 : decode b_SM_stream 14 = .ok (.aload_n 0, 1) := by decide +kernel
theorem d_SM_stream_15 : decode b_SM_stream 15 = .ok (.iload_n 1, 1) := by decide +kernel
theorem d_SM_stream_16 : decode b_SM_stream 16 = .ok (.putfield 154, 3) := by decide +kernel
theorem d_SM_stream_19 : decode b_SM_stream 19 = .ok (.aload_n 0, 1) := by decide +kernel
theorem d_SM_stream_20 : decode b_SM_stream 20 = .ok (.iload_n 2, 1) := by decide +kernel
theorem d_SM_stream_21 : decode b_SM_stream 21 = .ok (.putfield 157, 3) := by decide +kernel
theorem d_SM_stream_24 : decode b_SM_stream 24 = .ok (.aload_n 0, 1) := by decide +kernel
theorem d_SM_stream_25 : decode b_SM_stream 25 = .ok (.iload_n 3, 1) := by decide +kernel
theorem d_SM_stream_26 : decode b_SM_stream 26 = .ok (.putfield 160, 3) := by decide +kernel
theorem d_SM_stream_29 : decode b_SM_stream 29 = .ok (.iconst 0, 1) := by decide +kernel
theorem d_SM_stream_30 : decode b_SM_stream 30 = .ok (.ireturn, 1) := by decide +kernel
theorem d_SM_trace_0 : decode b_SM_trace 0 = .ok (.iload_n 1, 1) := by decide +kernel
theorem d_SM_trace_1 : decode b_SM_trace 1 = .ok (.ifCond .ne 10, 3) := by decide +kernel
theorem d_SM_trace_4 : decode b_SM_trace 4 = .ok (.aload_n 0, 1) := by decide +kernel
theorem d_SM_trace_5 : decode b_SM_trace 5 = .ok (.getfield 175, 3) := by decide +kernel
theorem d_SM_trace_8 : decode b_SM_trace 8 = .ok (.goto 28, 3) := by decide +kernel
theorem d_SM_trace_11 : decode b_SM_trace 11 = .ok (.iload_n 1, 1) := by decide +kernel
theorem d_SM_trace_12 : decode b_SM_trace 12 = .ok (.iconst 1, 1) := by decide +kernel
theorem d_SM_trace_13 : decode b_SM_trace 13 = .ok (.if_icmp .ne 10, 3) := by decide +kernel
theorem d_SM_trace_16 : decode b_SM_trace 16 = .ok (.aload_n 0, 1) := by decide +kernel
theorem d_SM_trace_17 : decode b_SM_trace 17 = .ok (.getfield 169, 3) := by decide +kernel
theorem d_SM_trace_20 : decode b_SM_trace 20 = .ok (.goto 16, 3) := by decide +kernel
theorem d_SM_trace_23 : decode b_SM_trace 23 = .ok (.iload_n 1, 1) := by decide +kernel
theorem d_SM_trace_24 : decode b_SM_trace 24 = .ok (.iconst 2, 1) := by decide +kernel
theorem d_SM_trace_25 : decode b_SM_trace 25 = .ok (.if_icmp .ne 10, 3) := by decide +kernel
theorem d_SM_trace_28 : decode b_SM_trace 28 = .ok (.aload_n 0, 1) := by decide +kernel
theorem d_SM_trace_29 : decode b_SM_trace 29 = .ok (.getfield 46, 3) := by decide +kernel
theorem d_SM_trace_32 : decode b_SM_trace 32 = .ok (.goto 4, 3) := by decide +kernel
theorem d_SM_trace_35 : decode b_SM_trace 35 = .ok (.iconst (-1), 1) := by decide +kernel
theorem d_SM_trace_36 : decode b_SM_trace 36 = .ok (.ireturn, 1) := by decide +kernel
theorem d_SM_sign_0 : decode b_SM_sign 0 = .ok (.aload_n 0, 1) := by decide +kernel
theorem d_SM_sign_1 : decode b_SM_sign 1 = .ok (.iload_n 1, 1) := by decide +kernel
theorem d_SM_sign_2 : decode b_SM_sign 2 = .ok (.iconst 3, 1) := by decide +kernel
theorem d_SM_sign_3 : decode b_SM_sign 3 = .ok (.invokevirtual 71, 3) := by decide +kernel
theorem d_SM_sign_6 : decode b_SM_sign 6 = .ok (.ifCond .ne 16, 3) := by decide +kernel
theorem d_SM_sign_9 : decode b_SM_sign 9 = .ok (.aload_n 0, 1) := by decide +kernel
theorem d_SM_sign_10 : decode b_SM_sign 10 = .ok (.iload_n 2, 1) := by decide +kernel
theorem d_SM_sign_11 : decode b_SM_sign 11 = .ok (.aload_n 0, 1) := by decide +kernel
theorem d_SM_sign_12 : decode b_SM_sign 12 = .ok (.iload_n 1, 1) := by decide +kernel
theorem d_SM_sign_13 : decode b_SM_sign 13 = .ok (.invokevirtual 75, 3) := by decide +kernel
theorem d_SM_sign_16 : decode b_SM_sign 16 = .ok (.invokevirtual 71, 3) := by decide +kernel
theorem d_SM_sign_19 : decode b_SM_sign 19 = .ok (.ifCond .eq 5, 3) := by decide +kernel
theorem d_SM_sign_22 : decode b_SM_sign 22 = .ok (.iconst (-1), 1) := by decide +kernel
theorem d_SM_sign_23 : decode b_SM_sign 23 = .ok (.ireturn, 1) := by decide +kernel
theorem d_SM_sign_24 : decode b_SM_sign 24 = .ok (.iload_n 1, 1) := by decide +kernel
theorem d_SM_sign_25 : decode b_SM_sign 25 = .ok (.ifCond .ne 17, 3) := by decide +kernel
theorem d_SM_sign_28 : decode b_SM_sign 28 = .ok (.aload_n 0, 1) := by decide +kernel
theorem d_SM_sign_29 : decode b_SM_sign 29 = .ok (.getfield 7, 3) := by decide +kernel
theorem d_SM_sign_32 : decode b_SM_sign 32 = .ok (.aload_n 0, 1) := by decide +kernel
theorem d_SM_sign_33 : decode b_SM_sign 33 = .ok (.getfield 62, 3) := by decide +kernel
theorem d_SM_sign_36 : decode b_SM_sign 36 = .ok (.iload_n 2, 1) := by decide +kernel
theorem d_SM_sign_37 : decode b_SM_sign 37 = .ok (.iadd, 1) := by decide +kernel
theorem d_SM_sign_38 : decode b_SM_sign 38 = .ok (.iaload, 1) := by decide +kernel
theorem d_SM_sign_39 : decode b_SM_sign 39 = .ok (.goto 23, 3) := by decide +kernel
theorem d_SM_sign_42 : decode b_SM_sign 42 = .ok (.iload_n 1, 1) := by decide +kernel
theorem d_SM_sign_43 : decode b_SM_sign 43 = .ok (.iconst 1, 1) := by decide +kernel
theorem d_SM_sign_44 : decode b_SM_sign 44 = .ok (.if_icmp .ne 12, 3) := by decide +kernel
theorem d_SM_sign_47 : decode b_SM_sign 47 = .ok (.aload_n 0, 1) := by decide +kernel
theorem d_SM_sign_48 : decode b_SM_sign 48 = .ok (.getfield 13, 3) := by decide +kernel
theorem d_SM_sign_51 : decode b_SM_sign 51 = .ok (.iload_n 2, 1) := by decide +kernel
theorem d_SM_sign_52 : decode b_SM_sign 52 = .ok (.iaload, 1) := by decide +kernel
theorem d_SM_sign_53 : decode b_SM_sign 53 = .ok (.goto 9, 3) := by decide +kernel
theorem d_SM_sign_56 : decode b_SM_sign 56 = .ok (.aload_n 0, 1) := by decide +kernel
theorem d_SM_sign_57 : decode b_SM_sign 57 = .ok (.getfield 16, 3) := by decide +kernel
theorem d_SM_sign_60 : decode b_SM_sign 60 = .ok (.iload_n 2, 1) := by decide +kernel
theorem d_SM_sign_61 : decode b_SM_sign 61 = .ok (.iaload, 1) := by decide +kernel
theorem d_SM_sign_62 : decode b_SM_sign 62 = .ok (.ireturn, 1) := by decide +kernel
set_option maxHeartbeats 4000000 in
set_option maxRecDepth 100000 in
/-- trace -/
theorem c_SM_trace (G : GG) (l : Launch) (sz : Nat) (f : Wd) {mo c0 pn nn mn : Nat} {ar : Nat → Nat} {pt nt mt : Nat → Int32} {dp rf by_ co tx lx : Int32} {fl : Nat → Option FV} (hR : MR G c0 mo ar f pn pt nn nt mn mt dp rf by_ co tx lx fl) (hc0 : c0 < 512) (x : Int32) : Ci G l y_SM_trace b_SM_trace 2 (some .int) ({ frames := 0, cells := 0, slots := 0, locals := 0 }) sz f [.ref mo, .int x] (fun v f' => v = pif (x = 0) co (pif (x = 1) tx (pif (x = 2) lx (-1))) ∧ MRR G c0 mo ar f f' pn pt nn nt mn mt dp rf by_ co tx lx fl) := by
  refine ct_of (by decide) (Nat.le_of_ble_eq_true rfl) ?_
  intro p e s m below meth c ls H locs hEn
  obtain ⟨hc, hr, hlk, hin, hE, hw, hsz, hl⟩ := hEn
  have hx := hc.1
  have hb := hc.2.1
  have hl : lv_has ls 2 [(0, .ref mo), (1, .int x)] := hl
  have hX : Mx mo ar f f := Mx.rf
  obtain ⟨sc, av, b, md, hM, hMS⟩ := hR
  have hMS0 := hMS
  obtain ⟨⟨h0, h1, h2, h3, h4⟩, ⟨h5, h6, h7⟩, ⟨h8, h9, h10⟩, ⟨hA, hnt, hmt, hS⟩, ⟨hbc, hmd, hpn, hnn, hmn⟩, hSL⟩ := hMS
  have hbn : b + pn ≤ 4200 := by omega
  refine lv_iload_n hx hb d_SM_trace_0 rfl (lv_at hl 1 rfl) ?_
  refine lv_if_ne (tgt := 11) hx hb d_SM_trace_1 (by decide) (fun c21 => ?_) (fun c21 => ?_)
  · refine lv_iload_n hx hb d_SM_trace_11 rfl (lv_at hl 1 rfl) ?_
    refine lv_iconst (v := 1) hx hb d_SM_trace_12 (by decide) ?_
    refine lv_icmp_ne (tgt := 23) hx hb d_SM_trace_13 (by decide) (fun c22 => ?_) (fun c22 => ?_)
    · refine lv_iload_n hx hb d_SM_trace_23 rfl (lv_at hl 1 rfl) ?_
      refine lv_iconst (v := 2) hx hb d_SM_trace_24 (by decide) ?_
      refine lv_icmp_ne (tgt := 35) hx hb d_SM_trace_25 (by decide) (fun c23 => ?_) (fun c23 => ?_)
      · refine lv_iconst (v := (-1)) hx hb d_SM_trace_35 (by decide) ?_
        exact m_iret hc hr hlk hw ⟨by first | decide | (dsimp only; omega), by first | decide | (dsimp only; omega)⟩ d_SM_trace_36 ⟨by rw [pif_f c21, pif_f c22, pif_f c23], ⟨⟨_, av, b, md, hM, hMS0.fr (fun _ _ => rfl)⟩, hX⟩⟩
      · refine lv_aload_n hx hb d_SM_trace_28 rfl (lv_at hl 0 rfl) ?_
        refine m_mget (v := .int (sc 10)) hc hE hw hM l_SM_46_SM rfl d_SM_trace_29 ?_
        refine lv_goto (tgt := 36) hx hb d_SM_trace_32 (by decide) ?_
        exact m_iret hc hr hlk hw ⟨by first | decide | (dsimp only; omega), by first | decide | (dsimp only; omega)⟩ d_SM_trace_36 ⟨by rw [pif_f c21, pif_f c22, pif_t c23]; exact h10, ⟨⟨_, av, b, md, hM, hMS0.fr (fun _ _ => rfl)⟩, hX⟩⟩
    · refine lv_aload_n hx hb d_SM_trace_16 rfl (lv_at hl 0 rfl) ?_
      refine m_mget (v := .int (sc 9)) hc hE hw hM l_SM_169_SM rfl d_SM_trace_17 ?_
      refine lv_goto (tgt := 36) hx hb d_SM_trace_20 (by decide) ?_
      exact m_iret hc hr hlk hw ⟨by first | decide | (dsimp only; omega), by first | decide | (dsimp only; omega)⟩ d_SM_trace_36 ⟨by rw [pif_f c21, pif_t c22]; exact h9, ⟨⟨_, av, b, md, hM, hMS0.fr (fun _ _ => rfl)⟩, hX⟩⟩
  · refine lv_aload_n hx hb d_SM_trace_4 rfl (lv_at hl 0 rfl) ?_
    refine m_mget (v := .int (sc 8)) hc hE hw hM l_SM_175_SM rfl d_SM_trace_5 ?_
    refine lv_goto (tgt := 36) hx hb d_SM_trace_8 (by decide) ?_
    exact m_iret hc hr hlk hw ⟨by first | decide | (dsimp only; omega), by first | decide | (dsimp only; omega)⟩ d_SM_trace_36 ⟨by rw [pif_t c21]; exact h8, ⟨⟨_, av, b, md, hM, hMS0.fr (fun _ _ => rfl)⟩, hX⟩⟩

set_option maxHeartbeats 4000000 in
set_option maxRecDepth 100000 in
/-- stream -/
theorem c_SM_stream (G : GG) (l : Launch) (sz : Nat) (f : Wd) {mo c0 pn nn mn : Nat} {ar : Nat → Nat} {pt nt mt : Nat → Int32} {dp rf by_ co tx lx : Int32} {fl : Nat → Option FV} (hR : MR G c0 mo ar f pn pt nn nt mn mt dp rf by_ co tx lx fl) (hc0 : c0 < 512) (d1 r1 b1 : Int32) : Ci G l y_SM_stream b_SM_stream 4 (some .int) ({ frames := 0, cells := 0, slots := 0, locals := 0 }) sz f [.ref mo, .int d1, .int r1, .int b1] (fun v f' => (((d1 < 0 ∨ r1 < 0 ∨ b1 < 0) → v = -1 ∧ MRR G c0 mo ar f f' pn pt nn nt mn mt dp rf by_ co tx lx fl) ∧ (¬ (d1 < 0 ∨ r1 < 0 ∨ b1 < 0) → v = 0 ∧ MRR G c0 mo ar f f' pn pt nn nt mn mt d1 r1 b1 co tx lx fl))) := by
  refine ct_of (by decide) (Nat.le_of_ble_eq_true rfl) ?_
  intro p e s m below meth c ls H locs hEn
  obtain ⟨hc, hr, hlk, hin, hE, hw, hsz, hl⟩ := hEn
  have hx := hc.1
  have hb := hc.2.1
  have hl : lv_has ls 4 [(0, .ref mo), (1, .int d1), (2, .int r1), (3, .int b1)] := hl
  have hX : Mx mo ar f f := Mx.rf
  obtain ⟨sc, av, b, md, hM, hMS⟩ := hR
  have hMS0 := hMS
  obtain ⟨⟨h0, h1, h2, h3, h4⟩, ⟨h5, h6, h7⟩, ⟨h8, h9, h10⟩, ⟨hA, hnt, hmt, hS⟩, ⟨hbc, hmd, hpn, hnn, hmn⟩, hSL⟩ := hMS
  have hbn : b + pn ≤ 4200 := by omega
  refine lv_iload_n hx hb d_SM_stream_0 rfl (lv_at hl 1 rfl) ?_
  refine lv_if_lt (tgt := 12) hx hb d_SM_stream_1 (by decide) (fun c21 => ?_) (fun c21 => ?_)
  · refine lv_iconst (v := (-1)) hx hb d_SM_stream_12 (by decide) ?_
    exact m_iret hc hr hlk hw ⟨by first | decide | (dsimp only; omega), by first | decide | (dsimp only; omega)⟩ d_SM_stream_13 ⟨fun _ => ⟨rfl, ⟨⟨_, av, b, md, hM, hMS0.fr (fun _ _ => rfl)⟩, hX⟩⟩, fun z => absurd (Or.inl c21) z⟩
  · refine lv_iload_n hx hb d_SM_stream_4 rfl (lv_at hl 2 rfl) ?_
    refine lv_if_lt (tgt := 12) hx hb d_SM_stream_5 (by decide) (fun c22 => ?_) (fun c22 => ?_)
    · refine lv_iconst (v := (-1)) hx hb d_SM_stream_12 (by decide) ?_
      exact m_iret hc hr hlk hw ⟨by first | decide | (dsimp only; omega), by first | decide | (dsimp only; omega)⟩ d_SM_stream_13 ⟨fun _ => ⟨rfl, ⟨⟨_, av, b, md, hM, hMS0.fr (fun _ _ => rfl)⟩, hX⟩⟩, fun z => absurd (Or.inr (Or.inl c22)) z⟩
    · refine lv_iload_n hx hb d_SM_stream_8 rfl (lv_at hl 3 rfl) ?_
      refine lv_if_ge (tgt := 14) hx hb d_SM_stream_9 (by decide) (fun c23 => ?_) (fun c23 => ?_)
      · refine lv_aload_n hx hb d_SM_stream_14 rfl (lv_at hl 0 rfl) ?_
        refine lv_iload_n hx hb d_SM_stream_15 rfl (lv_at hl 1 rfl) ?_
        refine m_mput (sc' := (upd sc 5 d1)) hc hE hw hM hX l_SM_154_SM rfl ds_SM_17 rfl rfl rfl d_SM_stream_16 (fun H locs f24 hM25 hX26 hw => ?_)
        refine lv_aload_n hx hb d_SM_stream_19 rfl (lv_at hl 0 rfl) ?_
        refine lv_iload_n hx hb d_SM_stream_20 rfl (lv_at hl 2 rfl) ?_
        refine m_mput (sc' := (upd (upd sc 5 d1) 6 r1)) hc hE hw hM25 hX26 l_SM_157_SM rfl ds_SM_18 rfl rfl rfl d_SM_stream_21 (fun H locs f27 hM28 hX29 hw => ?_)
        refine lv_aload_n hx hb d_SM_stream_24 rfl (lv_at hl 0 rfl) ?_
        refine lv_iload_n hx hb d_SM_stream_25 rfl (lv_at hl 3 rfl) ?_
        refine m_mput (sc' := (upd (upd (upd sc 5 d1) 6 r1) 7 b1)) hc hE hw hM28 hX29 l_SM_160_SM rfl ds_SM_19 rfl rfl rfl d_SM_stream_26 (fun H locs f30 hM31 hX32 hw => ?_)
        refine lv_iconst (v := 0) hx hb d_SM_stream_29 (by decide) ?_
        have hno : ¬ (d1 < 0 ∨ r1 < 0 ∨ b1 < 0) := fun z => z.elim c21 (fun z => z.elim c22 (Int32.not_lt.mpr c23))
        exact m_iret hc hr hlk hw ⟨by first | decide | (dsimp only; omega), by first | decide | (dsimp only; omega)⟩ d_SM_stream_30 ⟨fun z => absurd z hno, fun _ => ⟨rfl, ⟨_, av, b, md, hM31, ⟨h0, h1, h2, h3, h4⟩, ⟨rfl, rfl, rfl⟩, ⟨h8, h9, h10⟩, ⟨hA, hnt, hmt, hS⟩, ⟨by omega, by omega, hpn, hnn, hmn⟩, hSL⟩, hX32⟩⟩
      · refine lv_iconst (v := (-1)) hx hb d_SM_stream_12 (by decide) ?_
        exact m_iret hc hr hlk hw ⟨by first | decide | (dsimp only; omega), by first | decide | (dsimp only; omega)⟩ d_SM_stream_13 ⟨fun _ => ⟨rfl, ⟨⟨_, av, b, md, hM, hMS0.fr (fun _ _ => rfl)⟩, hX⟩⟩, fun z => absurd (Or.inr (Or.inr (Int32.not_le.mp c23))) z⟩

theorem x3_of {x : Int32} (h : ¬ (x < 0 ∨ 3 ≤ x)) : x = 0 ∨ x = 1 ∨ x = 2 := by
  obtain ⟨k, hk, e⟩ := vp_in_of (vin (n := 3) (cap := 3) (fun z => h (Or.inl z)) (fun z => h (Or.inr z)) (Nat.le_refl 3) (by decide)) (by decide)
  subst e
  rcases (show k = 0 ∨ k = 1 ∨ k = 2 by omega) with rfl | rfl | rfl
  · exact Or.inl rfl
  · exact Or.inr (Or.inl rfl)
  · exact Or.inr (Or.inr rfl)
set_option maxHeartbeats 4000000 in
set_option maxRecDepth 100000 in
/-- clear -/
theorem c_SM_clear (G : GG) (l : Launch) (sz : Nat) (f : Wd) {mo c0 pn nn mn : Nat} {ar : Nat → Nat} {pt nt mt : Nat → Int32} {dp rf by_ co tx lx : Int32} {fl : Nat → Option FV} (hR : MR G c0 mo ar f pn pt nn nt mn mt dp rf by_ co tx lx fl) (hc0 : c0 < 512) (x : Int32) : Ci G l y_SM_clear b_SM_clear 3 (some .int) ({ frames := 1, cells := 0, slots := 0, locals := 22 }) sz f [.ref mo, .int x] (fun v f' => (x = 0 → v = nI pn ∧ MRR G c0 mo ar f f' 0 pt nn nt mn mt dp rf by_ co tx lx fl) ∧ (x = 1 → v = nI nn ∧ MRR G c0 mo ar f f' pn pt 0 nt mn mt dp rf by_ co tx lx fl) ∧ (x = 2 → v = nI mn ∧ MRR G c0 mo ar f f' pn pt nn nt 0 mt dp rf by_ co tx lx fl) ∧ (¬ x = 0 → ¬ x = 1 → ¬ x = 2 → v = -1 ∧ MRR G c0 mo ar f f' pn pt nn nt mn mt dp rf by_ co tx lx fl)) := by
  refine ct_of (by decide) (Nat.le_of_ble_eq_true rfl) ?_
  intro p e s m below meth c ls H locs hEn
  obtain ⟨hc, hr, hlk, hin, hE, hw, hsz, hl⟩ := hEn
  have hx := hc.1
  have hb := hc.2.1
  have hl : lv_has ls 3 [(0, .ref mo), (1, .int x)] := hl
  have hX : Mx mo ar f f := Mx.rf
  obtain ⟨sc, av, b, md, hM, hMS⟩ := hR
  have hMS0 := hMS
  obtain ⟨⟨h0, h1, h2, h3, h4⟩, ⟨h5, h6, h7⟩, ⟨h8, h9, h10⟩, ⟨hA, hnt, hmt, hS⟩, ⟨hbc, hmd, hpn, hnn, hmn⟩, hSL⟩ := hMS
  have hbn : b + pn ≤ 4200 := by omega
  refine lv_aload_n hx hb d_SM_clear_0 rfl (lv_at hl 0 rfl) ?_
  refine lv_iload_n hx hb d_SM_clear_1 rfl (lv_at hl 1 rfl) ?_
  refine lv_iconst (v := 3) hx hb d_SM_clear_2 (by decide) ?_
  refine m_calli hw (m_runV (As := [.int x, .int 3]) (rest := []) hc hE hw (c_SM_out G l H.size f hM x 3) hM.1 rfl cw_SM_71 se_SM_out rfl hl.1 rfl (Nat.le_of_ble_eq_true rfl) d_SM_clear_3 ⟨rfl, rfl, by decide, by decide⟩ ⟨by first | decide | (dsimp only; omega), by first | decide | (dsimp only; omega)⟩) (fun r23 g22 H locs p21 hw => ?_)
  obtain ⟨rfl, p21⟩ := p21
  subst p21
  refine lv_if_eq (tgt := 11) hx hb d_SM_clear_6 (by decide) (fun c24 => ?_) (fun c24 => ?_)
  · have c24n : ¬ (x < 0 ∨ 3 ≤ x) := bI_0.mp c24
    refine lv_aload_n hx hb d_SM_clear_11 rfl (lv_at hl 0 rfl) ?_
    refine lv_iload_n hx hb d_SM_clear_12 rfl (lv_at hl 1 rfl) ?_
    refine m_calli hw (m_runV (As := [.int x]) (rest := []) hc hE hw (c_SM_lengthOf G l H.size f hM x) hM.1 rfl cw_SM_75 se_SM_lengthOf rfl hl.1 rfl (Nat.le_of_ble_eq_true rfl) d_SM_clear_13 ⟨rfl, rfl, by decide, by decide⟩ ⟨by first | decide | (dsimp only; omega), by first | decide | (dsimp only; omega)⟩) (fun r27 g26 H locs p25 hw => ?_)
    obtain ⟨rfl, p25⟩ := p25
    subst p25
    refine lv_istore_n (lv' := [(2, .int (lnO sc x)), (0, .ref mo), (1, .int x)]) hx hb d_SM_clear_16 rfl hl (by decide) rfl (fun ls hl => ?_)
    refine lv_iload_n hx hb d_SM_clear_17 rfl (lv_at hl 2 rfl) ?_
    refine lv_if_ne (tgt := 32) hx hb d_SM_clear_18 (by decide) (fun c28 => ?_) (fun c28 => ?_)
    · refine lv_iload_n hx hb d_SM_clear_32 rfl (lv_at hl 2 rfl) ?_
      refine lv_iconst (v := 1) hx hb d_SM_clear_33 (by decide) ?_
      refine lv_icmp_ne (tgt := 45) hx hb d_SM_clear_34 (by decide) (fun c29 => ?_) (fun c29 => ?_)
      · refine lv_aload_n hx hb d_SM_clear_45 rfl (lv_at hl 1 rfl) ?_
        refine lv_iconst (v := 0) hx hb d_SM_clear_46 (by decide) ?_
        refine m_mput (sc' := (upd sc 3 0)) hc hE hw hM hX l_SM_68_SM rfl ds_SM_6 rfl rfl rfl d_SM_clear_47 (fun H locs f30 hM31 hX32 hw => ?_)
        refine lv_iload_n hx hb d_SM_clear_50 rfl (lv_at hl 0 rfl) ?_
        have hx3 := x3_of c24n
        have hxk : x = 2 := (hx3.resolve_left c28).resolve_left c29
        exact m_iret hc hr hlk hw ⟨by first | decide | (dsimp only; omega), by first | decide | (dsimp only; omega)⟩ d_SM_clear_51 ⟨fun z => absurd (hxk.symm.trans z) (by decide), fun z => absurd (hxk.symm.trans z) (by decide), fun _ => ⟨((pif_f (by rw [hxk]; decide)).trans (pif_f (by rw [hxk]; decide))).trans h3, ⟨_, av, b, md, hM31, ⟨h0, h1, h2, rfl, h4⟩, ⟨h5, h6, h7⟩, ⟨h8, h9, h10⟩, ⟨hA, hnt, hmt, hS⟩, ⟨by omega, by omega, hpn, hnn, by omega⟩, hSL⟩, hX32⟩, fun z0 z1 z2 => absurd hxk z2⟩
      · refine lv_aload_n hx hb d_SM_clear_37 rfl (lv_at hl 1 rfl) ?_
        refine lv_iconst (v := 0) hx hb d_SM_clear_38 (by decide) ?_
        refine m_mput (sc' := (upd sc 2 0)) hc hE hw hM hX l_SM_65_SM rfl ds_SM_4 rfl rfl rfl d_SM_clear_39 (fun H locs f33 hM34 hX35 hw => ?_)
        refine lv_goto (tgt := 50) hx hb d_SM_clear_42 (by decide) ?_
        refine lv_iload_n hx hb d_SM_clear_50 rfl (lv_at hl 0 rfl) ?_
        have hx3 := x3_of c24n
        have hxk : x = 1 := c29
        exact m_iret hc hr hlk hw ⟨by first | decide | (dsimp only; omega), by first | decide | (dsimp only; omega)⟩ d_SM_clear_51 ⟨fun z => absurd (hxk.symm.trans z) (by decide), fun _ => ⟨((pif_f (by rw [hxk]; decide)).trans (pif_t hxk)).trans h2, ⟨_, av, b, md, hM34, ⟨h0, h1, rfl, h3, h4⟩, ⟨h5, h6, h7⟩, ⟨h8, h9, h10⟩, ⟨hA, hnt, hmt, hS⟩, ⟨by omega, by omega, hpn, by omega, hmn⟩, hSL⟩, hX35⟩, fun z => absurd (hxk.symm.trans z) (by decide), fun z0 z1 z2 => absurd hxk z1⟩
    · refine lv_aload_n hx hb d_SM_clear_21 rfl (lv_at hl 1 rfl) ?_
      refine lv_aload_n hx hb d_SM_clear_22 rfl (lv_at hl 1 rfl) ?_
      refine m_mget (v := .int (sc 0)) hc hE hw hM l_SM_59_SM rfl d_SM_clear_23 ?_
      refine m_top (y := nI (b + pn)) h0 ?_
      refine m_mput (sc' := (upd sc 1 (nI (b + pn)))) hc hE hw hM hX l_SM_62_SM rfl ds_SM_2 rfl rfl rfl d_SM_clear_26 (fun H locs f36 hM37 hX38 hw => ?_)
      refine lv_goto (tgt := 50) hx hb d_SM_clear_29 (by decide) ?_
      refine lv_iload_n hx hb d_SM_clear_50 rfl (lv_at hl 0 rfl) ?_
      have hx3 := x3_of c24n
      have hxk : x = 0 := c28
      exact m_iret hc hr hlk hw ⟨by first | decide | (dsimp only; omega), by first | decide | (dsimp only; omega)⟩ d_SM_clear_51 ⟨fun _ => ⟨(pif_t hxk).trans (by rw [h0, h1, pk_sub (by omega)]; congr 1; omega), ⟨_, av, b + pn, md, hM37, ⟨h0, rfl, h2, h3, h4⟩, ⟨h5, h6, h7⟩, ⟨h8, h9, h10⟩, ⟨fun j hj => absurd hj (Nat.not_lt_zero _), hnt, hmt, hS⟩, ⟨by omega, by omega, by omega, hnn, hmn⟩, hSL⟩, hX38⟩, fun z => absurd (hxk.symm.trans z) (by decide), fun z => absurd (hxk.symm.trans z) (by decide), fun z0 z1 z2 => absurd hxk z0⟩
  · have c24n : (x < 0 ∨ 3 ≤ x) := bI_n.mp c24
    refine lv_iconst (v := (-1)) hx hb d_SM_clear_9 (by decide) ?_
    exact m_iret hc hr hlk hw ⟨by first | decide | (dsimp only; omega), by first | decide | (dsimp only; omega)⟩ d_SM_clear_10 ⟨fun z => absurd c24n (by rw [z]; decide), fun z => absurd c24n (by rw [z]; decide), fun z => absurd c24n (by rw [z]; decide), fun _ _ _ => ⟨rfl, ⟨⟨_, av, b, md, hM, hMS0.fr (fun _ _ => rfl)⟩, hX⟩⟩⟩

set_option maxHeartbeats 4000000 in
set_option maxRecDepth 100000 in
/-- fault -/
theorem c_SM_fault (G : GG) (l : Launch) (sz : Nat) (f : Wd) {mo c0 pn nn mn : Nat} {ar : Nat → Nat} {pt nt mt : Nat → Int32} {dp rf by_ co tx lx : Int32} {fl : Nat → Option FV} (hR : MR G c0 mo ar f pn pt nn nt mn mt dp rf by_ co tx lx fl) (hc0 : c0 < 512)  : Ci G l y_SM_fault b_SM_fault 1 (some .int) ({ frames := 4, cells := 0, slots := 0, locals := 104 }) sz f [.ref mo] (fun v f' => v = fbk pt pn (npc pt pn) 0 ∧ MRR G c0 mo ar f f' pn pt nn nt mn mt dp rf by_ co tx lx fl) := by
  refine ct_of (by decide) (Nat.le_of_ble_eq_true rfl) ?_
  intro p e s m below meth c ls H locs hEn
  obtain ⟨hc, hr, hlk, hin, hE, hw, hsz, hl⟩ := hEn
  have hx := hc.1
  have hb := hc.2.1
  have hl : lv_has ls 1 [(0, .ref mo)] := hl
  have hX : Mx mo ar f f := Mx.rf
  obtain ⟨sc, av, b, md, hM, hMS⟩ := hR
  have hMS0 := hMS
  obtain ⟨⟨h0, h1, h2, h3, h4⟩, ⟨h5, h6, h7⟩, ⟨h8, h9, h10⟩, ⟨hA, hnt, hmt, hS⟩, ⟨hbc, hmd, hpn, hnn, hmn⟩, hSL⟩ := hMS
  have hbn : b + pn ≤ 4200 := by omega
  refine lv_aload_n hx hb d_SM_fault_0 rfl (lv_at hl 0 rfl) ?_
  refine lv_aload_n hx hb d_SM_fault_1 rfl (lv_at hl 0 rfl) ?_
  refine m_mget (v := .int (sc 1)) hc hE hw hM l_SM_62_SM rfl d_SM_fault_2 ?_
  refine m_top (y := nI b) h1 ?_
  refine lv_aload_n hx hb d_SM_fault_5 rfl (lv_at hl 0 rfl) ?_
  refine m_mget (v := .int (sc 0)) hc hE hw hM l_SM_59_SM rfl d_SM_fault_6 ?_
  refine m_top (y := nI (b + pn)) h0 ?_
  refine m_calli hw (m_runV (As := [.int (nI b), .int (nI (b + pn))]) (rest := []) hc hE hw (c_SM_firstBad G l H.size f hM hA hbn hS) hM.1 rfl cw_SM_140 se_SM_firstBad rfl hl.1 rfl (Nat.le_of_ble_eq_true rfl) d_SM_fault_9 ⟨rfl, rfl, by decide, by decide⟩ ⟨by first | decide | (dsimp only; omega), by first | decide | (dsimp only; omega)⟩) (fun r23 g22 H locs p21 hw => ?_)
  obtain ⟨sc2, hM2, hX2, hf2, hv2⟩ := p21
  exact m_iret hc hr hlk hw ⟨by first | decide | (dsimp only; omega), by first | decide | (dsimp only; omega)⟩ d_SM_fault_12 ⟨hv2, ⟨⟨_, av, b, md, hM2, hMS0.fr (fun k hk => hf2 k (by omega))⟩, (hX.tr hX2)⟩⟩

set_option maxHeartbeats 4000000 in
set_option maxRecDepth 100000 in
/-- drop -/
theorem c_SM_drop (G : GG) (l : Launch) (sz : Nat) (f : Wd) {mo c0 pn nn mn : Nat} {ar : Nat → Nat} {pt nt mt : Nat → Int32} {dp rf by_ co tx lx : Int32} {fl : Nat → Option FV} (hR : MR G c0 mo ar f pn pt nn nt mn mt dp rf by_ co tx lx fl) (hc0 : c0 < 512) (x : Int32) : Ci G l y_SM_drop b_SM_drop 2 (some .int) ({ frames := 2, cells := 0, slots := 0, locals := 43 }) sz f [.ref mo, .int x] (fun v f' => (noF fl x → v = -1 ∧ MRR G c0 mo ar f f' pn pt nn nt mn mt dp rf by_ co tx lx fl) ∧ ∀ (k : Nat) (vv : FV), k < 10 → x = nI k → fl k = some vv → v = 0 ∧ MRR G c0 mo ar f f' pn pt nn nt mn mt dp rf by_ co tx lx (va_up fl k none)) := by
  refine ct_of (by decide) (Nat.le_of_ble_eq_true rfl) ?_
  intro p e s m below meth c ls H locs hEn
  obtain ⟨hc, hr, hlk, hin, hE, hw, hsz, hl⟩ := hEn
  have hx := hc.1
  have hb := hc.2.1
  have hl : lv_has ls 2 [(0, .ref mo), (1, .int x)] := hl
  have hX : Mx mo ar f f := Mx.rf
  obtain ⟨sc, av, b, md, hM, hMS⟩ := hR
  have hMS0 := hMS
  obtain ⟨⟨h0, h1, h2, h3, h4⟩, ⟨h5, h6, h7⟩, ⟨h8, h9, h10⟩, ⟨hA, hnt, hmt, hS⟩, ⟨hbc, hmd, hpn, hnn, hmn⟩, hSL⟩ := hMS
  have hbn : b + pn ≤ 4200 := by omega
  refine lv_aload_n hx hb d_SM_drop_0 rfl (lv_at hl 0 rfl) ?_
  refine lv_iload_n hx hb d_SM_drop_1 rfl (lv_at hl 1 rfl) ?_
  refine m_calli hw (m_runV (As := [.int x]) (rest := []) hc hE hw (c_SM_none G l H.size f hM x) hM.1 rfl cw_SM_150 se_SM_none rfl hl.1 rfl (Nat.le_of_ble_eq_true rfl) d_SM_drop_2 ⟨rfl, rfl, by decide, by decide⟩ ⟨by first | decide | (dsimp only; omega), by first | decide | (dsimp only; omega)⟩) (fun r23 g22 H locs p21 hw => ?_)
  obtain ⟨rfl, p21⟩ := p21
  subst p21
  refine lv_if_eq (tgt := 10) hx hb d_SM_drop_5 (by decide) (fun c24 => ?_) (fun c24 => ?_)
  · have c24n : ¬ (noS (av 11) x) := bI_0.mp c24
    obtain ⟨k0, hk0, hxk0⟩ := plc_of (x := x) (fun z => c24n (noS_out z))
    refine lv_aload_n hx hb d_SM_drop_10 rfl (lv_at hl 0 rfl) ?_
    refine m_mget (v := .ref (ar 11)) hc hE hw hM l_SM_43_SM rfl d_SM_drop_11 ?_
    refine lv_iload_n hx hb d_SM_drop_14 rfl (lv_at hl 1 rfl) ?_
    refine lv_iconst (v := (-1)) hx hb d_SM_drop_15 (by decide) ?_
    refine m_mast (k := 11) (j := k0) hc hE hw hM hX (by decide) (by rw [hxk0]; exact nI_clamp (by omega)) (by rw [hxk0]; exact vp_in_nI hk0 (by decide)) d_SM_drop_16 (fun H locs f25 hM26 hX27 hw => ?_)
    replace hM26 : Mw G mo ar sc (va_up av 11 (upd (av 11) k0 (-1))) f25 := hM26
    refine lv_iconst (v := 0) hx hb d_SM_drop_17 (by decide) ?_
    exact m_iret hc hr hlk hw ⟨by first | decide | (dsimp only; omega), by first | decide | (dsimp only; omega)⟩ d_SM_drop_18 ⟨fun z => absurd ((hSL.no (by omega)).mpr z) c24n, fun k vv g1 g2 g3 => ⟨rfl, ⟨_, _, b, md, hM26, by have ek : k0 = k := (nI_eq (by omega) (by omega)).mp (hxk0.symm.trans g2); subst ek; exact ⟨⟨h0, h1, h2, h3, h4⟩, ⟨h5, h6, h7⟩, ⟨h8, h9, h10⟩, ⟨hA, hnt, hmt, hS⟩, ⟨by omega, by omega, hpn, hnn, hmn⟩, hSL.del⟩⟩, hX27⟩⟩
  · have c24n : (noS (av 11) x) := bI_n.mp c24
    refine lv_iconst (v := (-1)) hx hb d_SM_drop_8 (by decide) ?_
    exact m_iret hc hr hlk hw ⟨by first | decide | (dsimp only; omega), by first | decide | (dsimp only; omega)⟩ d_SM_drop_9 ⟨fun _ => ⟨rfl, ⟨⟨_, av, b, md, hM, hMS0.fr (fun _ _ => rfl)⟩, hX⟩⟩, fun k vv h1 h2 h3 => absurd (((hSL.no (by omega)).mp c24n k h1 h2).symm.trans h3) (by intro z; cases z)⟩

set_option maxHeartbeats 4000000 in
set_option maxRecDepth 100000 in
/-- sign -/
theorem c_SM_sign (G : GG) (l : Launch) (sz : Nat) (f : Wd) {mo c0 pn nn mn : Nat} {ar : Nat → Nat} {pt nt mt : Nat → Int32} {dp rf by_ co tx lx : Int32} {fl : Nat → Option FV} (hR : MR G c0 mo ar f pn pt nn nt mn mt dp rf by_ co tx lx fl) (hc0 : c0 < 512) (x i0 : Int32) : Ci G l y_SM_sign b_SM_sign 3 (some .int) ({ frames := 1, cells := 0, slots := 0, locals := 22 }) sz f [.ref mo, .int x, .int i0] (fun v f' => v = pif (x = 0) (atv pn pt i0) (pif (x = 1) (atv nn nt i0) (pif (x = 2) (atv mn mt i0) (-1))) ∧ MRR G c0 mo ar f f' pn pt nn nt mn mt dp rf by_ co tx lx fl) := by
  refine ct_of (by decide) (Nat.le_of_ble_eq_true rfl) ?_
  intro p e s m below meth c ls H locs hEn
  obtain ⟨hc, hr, hlk, hin, hE, hw, hsz, hl⟩ := hEn
  have hx := hc.1
  have hb := hc.2.1
  have hl : lv_has ls 3 [(0, .ref mo), (1, .int x), (2, .int i0)] := hl
  have hX : Mx mo ar f f := Mx.rf
  obtain ⟨sc, av, b, md, hM, hMS⟩ := hR
  have hMS0 := hMS
  obtain ⟨⟨h0, h1, h2, h3, h4⟩, ⟨h5, h6, h7⟩, ⟨h8, h9, h10⟩, ⟨hA, hnt, hmt, hS⟩, ⟨hbc, hmd, hpn, hnn, hmn⟩, hSL⟩ := hMS
  have hbn : b + pn ≤ 4200 := by omega
  refine lv_aload_n hx hb d_SM_sign_0 rfl (lv_at hl 0 rfl) ?_
  refine lv_iload_n hx hb d_SM_sign_1 rfl (lv_at hl 1 rfl) ?_
  refine lv_iconst (v := 3) hx hb d_SM_sign_2 (by decide) ?_
  refine m_calli hw (m_runV (As := [.int x, .int 3]) (rest := []) hc hE hw (c_SM_out G l H.size f hM x 3) hM.1 rfl cw_SM_71 se_SM_out rfl hl.1 rfl (Nat.le_of_ble_eq_true rfl) d_SM_sign_3 ⟨rfl, rfl, by decide, by decide⟩ ⟨by first | decide | (dsimp only; omega), by first | decide | (dsimp only; omega)⟩) (fun r23 g22 H locs p21 hw => ?_)
  obtain ⟨rfl, p21⟩ := p21
  subst p21
  refine lv_if_ne (tgt := 22) hx hb d_SM_sign_6 (by decide) (fun c24 => ?_) (fun c24 => ?_)
  · have c24n : (x < 0 ∨ 3 ≤ x) := bI_n.mp c24
    refine lv_iconst (v := (-1)) hx hb d_SM_sign_22 (by decide) ?_
    have hn0 : ¬ x = 0 := fun z => absurd c24n (by rw [z]; decide)
    have hn1 : ¬ x = 1 := fun z => absurd c24n (by rw [z]; decide)
    have hn2 : ¬ x = 2 := fun z => absurd c24n (by rw [z]; decide)
    exact m_iret hc hr hlk hw ⟨by first | decide | (dsimp only; omega), by first | decide | (dsimp only; omega)⟩ d_SM_sign_23 ⟨by rw [pif_f hn0, pif_f hn1, pif_f hn2], ⟨⟨_, av, b, md, hM, hMS0.fr (fun _ _ => rfl)⟩, hX⟩⟩
  · have c24n : ¬ (x < 0 ∨ 3 ≤ x) := bI_0.mp c24
    refine lv_aload_n hx hb d_SM_sign_9 rfl (lv_at hl 0 rfl) ?_
    refine lv_iload_n hx hb d_SM_sign_10 rfl (lv_at hl 2 rfl) ?_
    refine lv_aload_n hx hb d_SM_sign_11 rfl (lv_at hl 0 rfl) ?_
    refine lv_iload_n hx hb d_SM_sign_12 rfl (lv_at hl 1 rfl) ?_
    refine m_calli hw (m_runV (As := [.int x]) (rest := [.int i0, .ref mo]) hc hE hw (c_SM_lengthOf G l H.size f hM x) hM.1 rfl cw_SM_75 se_SM_lengthOf rfl hl.1 rfl (Nat.le_of_ble_eq_true rfl) d_SM_sign_13 ⟨rfl, rfl, by decide, by decide⟩ ⟨by first | decide | (dsimp only; omega), by first | decide | (dsimp only; omega)⟩) (fun r27 g26 H locs p25 hw => ?_)
    obtain ⟨rfl, p25⟩ := p25
    subst p25
    refine m_calli hw (m_runV (As := [.int i0, .int (lnO sc x)]) (rest := []) hc hE hw (c_SM_out G l H.size f hM i0 (lnO sc x)) hM.1 rfl cw_SM_71 se_SM_out rfl hl.1 rfl (Nat.le_of_ble_eq_true rfl) d_SM_sign_16 ⟨rfl, rfl, by decide, by decide⟩ ⟨by first | decide | (dsimp only; omega), by first | decide | (dsimp only; omega)⟩) (fun r30 g29 H locs p28 hw => ?_)
    obtain ⟨rfl, p28⟩ := p28
    subst p28
    refine lv_if_eq (tgt := 24) hx hb d_SM_sign_19 (by decide) (fun c31 => ?_) (fun c31 => ?_)
    · have c31n : ¬ (i0 < 0 ∨ lnO sc x ≤ i0) := bI_0.mp c31
      refine lv_iload_n hx hb d_SM_sign_24 rfl (lv_at hl 1 rfl) ?_
      refine lv_if_ne (tgt := 42) hx hb d_SM_sign_25 (by decide) (fun c32 => ?_) (fun c32 => ?_)
      · refine lv_iload_n hx hb d_SM_sign_42 rfl (lv_at hl 1 rfl) ?_
        refine lv_iconst (v := 1) hx hb d_SM_sign_43 (by decide) ?_
        refine lv_icmp_ne (tgt := 56) hx hb d_SM_sign_44 (by decide) (fun c33 => ?_) (fun c33 => ?_)
        · have hx3 := x3_of c24n
          have hxk : x = 2 := (hx3.resolve_left c32).resolve_left c33
          have hln : lnO sc x = nI mn := ((pif_f (by rw [hxk]; decide)).trans (pif_f (by rw [hxk]; decide))).trans h3
          have hi := c31n
          rw [hln] at hi
          obtain ⟨j0, hj0, hij⟩ : ∃ j, j < mn ∧ i0 = nI j := vp_in_of (vin (n := mn) (cap := mn) (fun z => hi (Or.inl z)) (fun z => hi (Or.inr z)) (Nat.le_refl _) (by omega)) (by omega)
          refine lv_aload_n hx hb d_SM_sign_56 rfl (lv_at hl 0 rfl) ?_
          refine m_mget (v := .ref (ar 2)) hc hE hw hM l_SM_16_SM rfl d_SM_sign_57 ?_
          refine lv_iload_n hx hb d_SM_sign_60 rfl (lv_at hl 2 rfl) ?_
          refine m_mald (v := (mt j0)) hc hE hw hM (k := 2) (by decide) (by rw [hij]; exact vp_in_nI (by show j0 < 12; omega) (by decide)) (rfl.trans (by rw [hij, nI_clamp (by omega), hmt])) d_SM_sign_61 ?_
          exact m_iret hc hr hlk hw ⟨by first | decide | (dsimp only; omega), by first | decide | (dsimp only; omega)⟩ d_SM_sign_62 ⟨by rw [pif_f (by rw [hxk]; decide), pif_f (by rw [hxk]; decide), pif_t hxk, hij]; exact (atv_in hj0 (by omega)).symm, ⟨⟨_, av, b, md, hM, hMS0.fr (fun _ _ => rfl)⟩, hX⟩⟩
        · have hx3 := x3_of c24n
          have hxk : x = 1 := c33
          have hln : lnO sc x = nI nn := ((pif_f (by rw [hxk]; decide)).trans (pif_t hxk)).trans h2
          have hi := c31n
          rw [hln] at hi
          obtain ⟨j0, hj0, hij⟩ : ∃ j, j < nn ∧ i0 = nI j := vp_in_of (vin (n := nn) (cap := nn) (fun z => hi (Or.inl z)) (fun z => hi (Or.inr z)) (Nat.le_refl _) (by omega)) (by omega)
          refine lv_aload_n hx hb d_SM_sign_47 rfl (lv_at hl 0 rfl) ?_
          refine m_mget (v := .ref (ar 1)) hc hE hw hM l_SM_13_SM rfl d_SM_sign_48 ?_
          refine lv_iload_n hx hb d_SM_sign_51 rfl (lv_at hl 2 rfl) ?_
          refine m_mald (v := (nt j0)) hc hE hw hM (k := 1) (by decide) (by rw [hij]; exact vp_in_nI (by show j0 < 40; omega) (by decide)) (rfl.trans (by rw [hij, nI_clamp (by omega), hnt])) d_SM_sign_52 ?_
          refine lv_goto (tgt := 62) hx hb d_SM_sign_53 (by decide) ?_
          exact m_iret hc hr hlk hw ⟨by first | decide | (dsimp only; omega), by first | decide | (dsimp only; omega)⟩ d_SM_sign_62 ⟨by rw [pif_f (by rw [hxk]; decide), pif_t hxk, hij]; exact (atv_in hj0 (by omega)).symm, ⟨⟨_, av, b, md, hM, hMS0.fr (fun _ _ => rfl)⟩, hX⟩⟩
      · have hx3 := x3_of c24n
        have hxk : x = 0 := c32
        have hln : lnO sc x = nI pn := (pif_t hxk).trans (by rw [h0, h1, pk_sub (by omega)]; congr 1; omega)
        have hi := c31n
        rw [hln] at hi
        obtain ⟨j0, hj0, hij⟩ : ∃ j, j < pn ∧ i0 = nI j := vp_in_of (vin (n := pn) (cap := pn) (fun z => hi (Or.inl z)) (fun z => hi (Or.inr z)) (Nat.le_refl _) (by omega)) (by omega)
        refine lv_aload_n hx hb d_SM_sign_28 rfl (lv_at hl 0 rfl) ?_
        refine m_mget (v := .ref (ar 0)) hc hE hw hM l_SM_7_SM rfl d_SM_sign_29 ?_
        refine lv_aload_n hx hb d_SM_sign_32 rfl (lv_at hl 0 rfl) ?_
        refine m_mget (v := .int (sc 1)) hc hE hw hM l_SM_62_SM rfl d_SM_sign_33 ?_
        refine m_top (y := nI b) h1 ?_
        refine lv_iload_n hx hb d_SM_sign_36 rfl (lv_at hl 2 rfl) ?_
        refine lv_iadd hx hb d_SM_sign_37 ?_
        refine m_top (y := (nI (b + j0))) (by rw [hij]; exact nI_add b j0) ?_
        refine m_mald (v := (pt j0)) hc hE hw hM (k := 0) (by decide) (vp_in_nI (N := 4200) (by omega) (by decide)) ((congrArg (av 0) (nI_clamp (n := (b + j0)) (by omega))).trans (hA j0 hj0)) d_SM_sign_38 ?_
        refine lv_goto (tgt := 62) hx hb d_SM_sign_39 (by decide) ?_
        exact m_iret hc hr hlk hw ⟨by first | decide | (dsimp only; omega), by first | decide | (dsimp only; omega)⟩ d_SM_sign_62 ⟨by rw [pif_t hxk, hij]; exact (atv_in hj0 (by omega)).symm, ⟨⟨_, av, b, md, hM, hMS0.fr (fun _ _ => rfl)⟩, hX⟩⟩
    · have c31n : (i0 < 0 ∨ lnO sc x ≤ i0) := bI_n.mp c31
      refine lv_iconst (v := (-1)) hx hb d_SM_sign_22 (by decide) ?_
      have hx3 := x3_of c24n
      have hi := c31n
      have hres : (-1 : Int32) = pif (x = 0) (atv pn pt i0) (pif (x = 1) (atv nn nt i0) (pif (x = 2) (atv mn mt i0) (-1))) := by
        rcases hx3 with hxk | hxk | hxk
        · rw [show lnO sc x = nI pn from (pif_t hxk).trans (by rw [h0, h1, pk_sub (by omega)]; congr 1; omega)] at hi
          rw [pif_t hxk]; exact (hi.elim atv_lo atv_hi).symm
        · rw [show lnO sc x = nI nn from ((pif_f (by rw [hxk]; decide)).trans (pif_t hxk)).trans h2] at hi
          rw [pif_f (by rw [hxk]; decide), pif_t hxk]; exact (hi.elim atv_lo atv_hi).symm
        · rw [show lnO sc x = nI mn from ((pif_f (by rw [hxk]; decide)).trans (pif_f (by rw [hxk]; decide))).trans h3] at hi
          rw [pif_f (by rw [hxk]; decide), pif_f (by rw [hxk]; decide), pif_t hxk]; exact (hi.elim atv_lo atv_hi).symm
      exact m_iret hc hr hlk hw ⟨by first | decide | (dsimp only; omega), by first | decide | (dsimp only; omega)⟩ d_SM_sign_23 ⟨hres, ⟨⟨_, av, b, md, hM, hMS0.fr (fun _ _ => rfl)⟩, hX⟩⟩
