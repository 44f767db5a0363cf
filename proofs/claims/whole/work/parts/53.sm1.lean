/-! links of the pools, as the walks ask for them -/
theorem l_SM_13_SM : lnk "StreamFiltersModel" 13 F_SM 38 3 := ⟨by decide, "StreamFiltersModel", Or.inl rfl, Or.inl (tb 617 (by decide +kernel) rfl)⟩
theorem l_SM_182_SM : lnk "StreamFiltersModel" 182 F_SM 38 36 := ⟨by decide, "StreamFiltersModel", Or.inl rfl, Or.inl (tb 650 (by decide +kernel) rfl)⟩
theorem l_SM_43_SM : lnk "StreamFiltersModel" 43 F_SM 38 16 := ⟨by decide, "StreamFiltersModel", Or.inl rfl, Or.inl (tb 630 (by decide +kernel) rfl)⟩
theorem l_SM_50_SM : lnk "StreamFiltersModel" 50 F_SM 38 33 := ⟨by decide, "StreamFiltersModel", Or.inl rfl, Or.inl (tb 647 (by decide +kernel) rfl)⟩
theorem l_SM_53_SM : lnk "StreamFiltersModel" 53 F_SM 38 34 := ⟨by decide, "StreamFiltersModel", Or.inl rfl, Or.inl (tb 648 (by decide +kernel) rfl)⟩
theorem l_SM_59_SM : lnk "StreamFiltersModel" 59 F_SM 38 1 := ⟨by decide, "StreamFiltersModel", Or.inl rfl, Or.inl (tb 615 (by decide +kernel) rfl)⟩
theorem l_SM_62_SM : lnk "StreamFiltersModel" 62 F_SM 38 2 := ⟨by decide, "StreamFiltersModel", Or.inl rfl, Or.inl (tb 616 (by decide +kernel) rfl)⟩
theorem l_SM_65_SM : lnk "StreamFiltersModel" 65 F_SM 38 4 := ⟨by decide, "StreamFiltersModel", Or.inl rfl, Or.inl (tb 618 (by decide +kernel) rfl)⟩
theorem l_SM_68_SM : lnk "StreamFiltersModel" 68 F_SM 38 6 := ⟨by decide, "StreamFiltersModel", Or.inl rfl, Or.inl (tb 620 (by decide +kernel) rfl)⟩
theorem l_SM_7_SM : lnk "StreamFiltersModel" 7 F_SM 38 0 := ⟨by decide, "StreamFiltersModel", Or.inl rfl, Or.inl (tb 614 (by decide +kernel) rfl)⟩
theorem cw_SM_71 : cwk "StreamFiltersModel" 71 y_SM_out b_SM_out 3 (some .boolean) 2 := ⟨Or.inl (tb 733 (by decide +kernel) rfl), (tb 736 (by decide +kernel) rfl), (tb 5 (by decide +kernel) rfl), by decide, by decide, by decide +kernel⟩
theorem se_SM_out : Cond.instanceMethod y_SM_out ∈ TB ∧ Cond.selects "StreamFiltersModel" y_SM_out y_SM_out ∈ TB := ⟨(tb 735 (by decide +kernel) rfl), (tbs 14 (by decide +kernel) rfl)⟩
/-! decode rows -/
theorem d_SM_out_0 : decode b_SM_out 0 = .ok (.iload_n 1, 1) := by decide +kernel
theorem d_SM_out_1 : decode b_SM_out 1 = .ok (.ifCond .lt 8, 3) := by decide +kernel
theorem d_SM_out_4 : decode b_SM_out 4 = .ok (.iload_n 1, 1) := by decide +kernel
theorem d_SM_out_5 : decode b_SM_out 5 = .ok (.iload_n 2, 1) := by decide +kernel
theorem d_SM_out_6 : decode b_SM_out 6 = .ok (.if_icmp .lt 7, 3) := by decide +kernel
theorem d_SM_out_9 : decode b_SM_out 9 = .ok (.iconst 1, 1) := by decide +kernel
theorem d_SM_out_10 : decode b_SM_out 10 = .ok (.goto 4, 3) := by decide +kernel
theorem d_SM_out_13 : decode b_SM_out 13 = .ok (.iconst 0, 1) := by decide +kernel
theorem d_SM_out_14 : decode b_SM_out 14 = .ok (.ireturn, 1) := by decide +kernel
theorem d_SM_lengthOf_0 : decode b_SM_lengthOf 0 = .ok (.iload_n 1, 1) := by decide +kernel
theorem d_SM_lengthOf_1 : decode b_SM_lengthOf 1 = .ok (.ifCond .ne 15, 3) := by decide +kernel
theorem d_SM_lengthOf_4 : decode b_SM_lengthOf 4 = .ok (.aload_n 0, 1) := by decide +kernel
theorem d_SM_lengthOf_5 : decode b_SM_lengthOf 5 = .ok (.getfield 59, 3) := by decide +kernel
theorem d_SM_lengthOf_8 : decode b_SM_lengthOf 8 = .ok (.aload_n 0, 1) := by decide +kernel
theorem d_SM_lengthOf_9 : decode b_SM_lengthOf 9 = .ok (.getfield 62, 3) := by decide +kernel
theorem d_SM_lengthOf_12 : decode b_SM_lengthOf 12 = .ok (.isub, 1) := by decide +kernel
theorem d_SM_lengthOf_13 : decode b_SM_lengthOf 13 = .ok (.goto 19, 3) := by decide +kernel
theorem d_SM_lengthOf_16 : decode b_SM_lengthOf 16 = .ok (.iload_n 1, 1) := by decide +kernel
theorem d_SM_lengthOf_17 : decode b_SM_lengthOf 17 = .ok (.iconst 1, 1) := by decide +kernel
theorem d_SM_lengthOf_18 : decode b_SM_lengthOf 18 = .ok (.if_icmp .ne 10, 3) := by decide +kernel
theorem d_SM_lengthOf_21 : decode b_SM_lengthOf 21 = .ok (.aload_n 0, 1) := by decide +kernel
theorem d_SM_lengthOf_22 : decode b_SM_lengthOf 22 = .ok (.getfield 65, 3) := by decide +kernel
theorem d_SM_lengthOf_25 : decode b_SM_lengthOf 25 = .ok (.goto 7, 3) := by decide +kernel
theorem d_SM_lengthOf_28 : decode b_SM_lengthOf 28 = .ok (.aload_n 0, 1) := by decide +kernel
theorem d_SM_lengthOf_29 : decode b_SM_lengthOf 29 = .ok (.getfield 68, 3) := by decide +kernel
theorem d_SM_lengthOf_32 : decode b_SM_lengthOf 32 = .ok (.ireturn, 1) := by decide +kernel
theorem d_SM_find_0 : decode b_SM_find 0 = .ok (.iload_n 2, 1) := by decide +kernel
theorem d_SM_find_1 : decode b_SM_find 1 = .ok (.istore 4, 2) := by decide +kernel
theorem d_SM_find_3 : decode b_SM_find 3 = .ok (.iload 4, 2) := by decide +kernel
theorem d_SM_find_5 : decode b_SM_find 5 = .ok (.iload_n 3, 1) := by decide +kernel
theorem d_SM_find_6 : decode b_SM_find 6 = .ok (.if_icmp .ge 20, 3) := by decide +kernel
theorem d_SM_find_9 : decode b_SM_find 9 = .ok (.aload_n 0, 1) := by decide +kernel
theorem d_SM_find_10 : decode b_SM_find 10 = .ok (.getfield 7, 3) := by decide +kernel
theorem d_SM_find_13 : decode b_SM_find 13 = .ok (.iload 4, 2) := by decide +kernel
theorem d_SM_find_15 : decode b_SM_find 15 = .ok (.iaload, 1) := by decide +kernel
theorem d_SM_find_16 : decode b_SM_find 16 = .ok (.iload_n 1, 1) := by decide +kernel
theorem d_SM_find_17 : decode b_SM_find 17 = .ok (.if_icmp .eq 9, 3) := by decide +kernel
theorem d_SM_find_20 : decode b_SM_find 20 = .ok (.iinc 4 1, 3) := by decide +kernel
theorem d_SM_find_23 : decode b_SM_find 23 = .ok (.goto (-20), 3) := by decide +kernel
theorem d_SM_find_26 : decode b_SM_find 26 = .ok (.iload 4, 2) := by decide +kernel
theorem d_SM_find_28 : decode b_SM_find 28 = .ok (.ireturn, 1) := by decide +kernel
theorem d_SM_none_0 : decode b_SM_none 0 = .ok (.aload_n 0, 1) := by decide +kernel
theorem d_SM_none_1 : decode b_SM_none 1 = .ok (.iload_n 1, 1) := by decide +kernel
theorem d_SM_none_2 : decode b_SM_none 2 = .ok (.bipush 10, 2) := by decide +kernel
theorem d_SM_none_4 : decode b_SM_none 4 = .ok (.invokevirtual 71, 3) := by decide +kernel
theorem d_SM_none_7 : decode b_SM_none 7 = .ok (.ifCond .ne 12, 3) := by decide +kernel
theorem d_SM_none_10 : decode b_SM_none 10 = .ok (.aload_n 0, 1) := by decide +kernel
theorem d_SM_none_11 : decode b_SM_none 11 = .ok (.getfield 43, 3) := by decide +kernel
theorem d_SM_none_14 : decode b_SM_none 14 = .ok (.iload_n 1, 1) := by decide +kernel
theorem d_SM_none_15 : decode b_SM_none 15 = .ok (.iaload, 1) := by decide +kernel
theorem d_SM_none_16 : decode b_SM_none 16 = .ok (.ifCond .ge 7, 3) := by decide +kernel
theorem d_SM_none_19 : decode b_SM_none 19 = .ok (.iconst 1, 1) := by decide +kernel
theorem d_SM_none_20 : decode b_SM_none 20 = .ok (.goto 4, 3) := by decide +kernel
theorem d_SM_none_23 : decode b_SM_none 23 = .ok (.iconst 0, 1) := by decide +kernel
theorem d_SM_none_24 : decode b_SM_none 24 = .ok (.ireturn, 1) := by decide +kernel
theorem d_SM_push_0 : decode b_SM_push 0 = .ok (.aload_n 0, 1) := by decide +kernel
theorem d_SM_push_1 : decode b_SM_push 1 = .ok (.getfield 50, 3) := by decide +kernel
theorem d_SM_push_4 : decode b_SM_push 4 = .ok (.aload_n 0, 1) := by decide +kernel
theorem d_SM_push_5 : decode b_SM_push 5 = .ok (.getfield 182, 3) := by decide +kernel
theorem d_SM_push_8 : decode b_SM_push 8 = .ok (.iload_n 1, 1) := by decide +kernel
theorem d_SM_push_9 : decode b_SM_push 9 = .ok (.iastore, 1) := by decide +kernel
theorem d_SM_push_10 : decode b_SM_push 10 = .ok (.aload_n 0, 1) := by decide +kernel
theorem d_SM_push_11 : decode b_SM_push 11 = .ok (.getfield 53, 3) := by decide +kernel
theorem d_SM_push_14 : decode b_SM_push 14 = .ok (.aload_n 0, 1) := by decide +kernel
theorem d_SM_push_15 : decode b_SM_push 15 = .ok (.getfield 182, 3) := by decide +kernel
theorem d_SM_push_18 : decode b_SM_push 18 = .ok (.iconst 0, 1) := by decide +kernel
theorem d_SM_push_19 : decode b_SM_push 19 = .ok (.iastore, 1) := by decide +kernel
theorem d_SM_push_20 : decode b_SM_push 20 = .ok (.aload_n 0, 1) := by decide +kernel
theorem d_SM_push_21 : decode b_SM_push 21 = .ok (.dup, 1) := by decide +kernel
theorem d_SM_push_22 : decode b_SM_push 22 = .ok (.getfield 182, 3) := by decide +kernel
theorem d_SM_push_25 : decode b_SM_push 25 = .ok (.iconst 1, 1) := by decide +kernel
theorem d_SM_push_26 : decode b_SM_push 26 = .ok (.iadd, 1) := by decide +kernel
theorem d_SM_push_27 : decode b_SM_push 27 = .ok (.putfield 182, 3) := by decide +kernel
theorem d_SM_push_30 : decode b_SM_push 30 = .ok (.return_, 1) := by decide +kernel
theorem d_SM_nameBegins_0 : decode b_SM_nameBegins 0 = .ok (.iload_n 2, 1) := by decide +kernel
theorem d_SM_nameBegins_1 : decode b_SM_nameBegins 1 = .ok (.iload_n 1, 1) := by decide +kernel
theorem d_SM_nameBegins_2 : decode b_SM_nameBegins 2 = .ok (.isub, 1) := by decide +kernel
theorem d_SM_nameBegins_3 : decode b_SM_nameBegins 3 = .ok (.aload_n 0, 1) := by decide +kernel
theorem d_SM_nameBegins_4 : decode b_SM_nameBegins 4 = .ok (.getfield 65, 3) := by decide +kernel
theorem d_SM_nameBegins_7 : decode b_SM_nameBegins 7 = .ok (.if_icmp .le 5, 3) := by decide +kernel
theorem d_SM_nameBegins_10 : decode b_SM_nameBegins 10 = .ok (.iconst 0, 1) := by decide +kernel
theorem d_SM_nameBegins_11 : decode b_SM_nameBegins 11 = .ok (.ireturn, 1) := by decide +kernel
theorem d_SM_nameBegins_12 : decode b_SM_nameBegins 12 = .ok (.iload_n 1, 1) := by decide +kernel
theorem d_SM_nameBegins_13 : decode b_SM_nameBegins 13 = .ok (.istore_n 3, 1) := by decide +kernel
theorem d_SM_nameBegins_14 : decode b_SM_nameBegins 14 = .ok (.iload_n 3, 1) := by decide +kernel
theorem d_SM_nameBegins_15 : decode b_SM_nameBegins 15 = .ok (.iload_n 2, 1) := by decide +kernel
theorem d_SM_nameBegins_16 : decode b_SM_nameBegins 16 = .ok (.if_icmp .ge 28, 3) := by decide +kernel
theorem d_SM_nameBegins_19 : decode b_SM_nameBegins 19 = .ok (.aload_n 0, 1) := by decide +kernel
theorem d_SM_nameBegins_20 : decode b_SM_nameBegins 20 = .ok (.getfield 7, 3) := by decide +kernel
theorem d_SM_nameBegins_23 : decode b_SM_nameBegins 23 = .ok (.iload_n 3, 1) := by decide +kernel
theorem d_SM_nameBegins_24 : decode b_SM_nameBegins 24 = .ok (.iaload, 1) := by decide +kernel
theorem d_SM_nameBegins_25 : decode b_SM_nameBegins 25 = .ok (.aload_n 0, 1) := by decide +kernel
theorem d_SM_nameBegins_26 : decode b_SM_nameBegins 26 = .ok (.getfield 13, 3) := by decide +kernel
theorem d_SM_nameBegins_29 : decode b_SM_nameBegins 29 = .ok (.iload_n 3, 1) := by decide +kernel
theorem d_SM_nameBegins_30 : decode b_SM_nameBegins 30 = .ok (.iload_n 1, 1) := by decide +kernel
theorem d_SM_nameBegins_31 : decode b_SM_nameBegins 31 = .ok (.isub, 1) := by decide +kernel
theorem d_SM_nameBegins_32 : decode b_SM_nameBegins 32 = .ok (.iaload, 1) := by decide +kernel
theorem d_SM_nameBegins_33 : decode b_SM_nameBegins 33 = .ok (.if_icmp .eq 5, 3) := by decide +kernel
theorem d_SM_nameBegins_36 : decode b_SM_nameBegins 36 = .ok (.iconst 0, 1) := by decide +kernel
theorem d_SM_nameBegins_37 : decode b_SM_nameBegins 37 = .ok (.ireturn, 1) := by decide +kernel
theorem d_SM_nameBegins_38 : decode b_SM_nameBegins 38 = .ok (.iinc 3 1, 3) := by decide +kernel
theorem d_SM_nameBegins_41 : decode b_SM_nameBegins 41 = .ok (.goto (-27), 3) := by decide +kernel
theorem d_SM_nameBegins_44 : decode b_SM_nameBegins 44 = .ok (.iconst 1, 1) := by decide +kernel
theorem d_SM_nameBegins_45 : decode b_SM_nameBegins 45 = .ok (.ireturn, 1) := by decide +kernel
set_option maxHeartbeats 4000000 in
set_option maxRecDepth 100000 in
/-- out -/
theorem c_SM_out (G : GG) (l : Launch) (sz : Nat) (f : Wd) {mo : Nat} {ar : Nat → Nat} {sc : Nat → Int32} {av : Nat → Nat → Int32} (hM : Mw G mo ar sc av f) (x n0 : Int32) : Ci G l y_SM_out b_SM_out 3 (some .boolean) ({ frames := 0, cells := 0, slots := 0, locals := 0 }) sz f [.ref mo, .int x, .int n0] (fun v f' => f = f' ∧ v = bI (x < 0 ∨ n0 ≤ x)) := by
  refine ct_of (by decide) (Nat.le_of_ble_eq_true rfl) ?_
  intro p e s m below meth c ls H locs hEn
  obtain ⟨hc, hr, hlk, hin, hE, hw, hsz, hl⟩ := hEn
  have hx := hc.1
  have hb := hc.2.1
  have hl : lv_has ls 3 [(0, .ref mo), (1, .int x), (2, .int n0)] := hl
  have hX : Mx mo ar f f := Mx.rf
  refine lv_iload_n hx hb d_SM_out_0 rfl (lv_at hl 1 rfl) ?_
  refine lv_if_lt (tgt := 9) hx hb d_SM_out_1 (by decide) (fun c21 => ?_) (fun c21 => ?_)
  · refine lv_iconst (v := 1) hx hb d_SM_out_9 (by decide) ?_
    refine lv_goto (tgt := 14) hx hb d_SM_out_10 (by decide) ?_
    exact m_zret hc hr hlk hw ⟨by first | decide | (dsimp only; omega), by first | decide | (dsimp only; omega)⟩ d_SM_out_14 (by decide) ⟨rfl, (bI_t (Or.inl c21)).symm⟩
  · refine lv_iload_n hx hb d_SM_out_4 rfl (lv_at hl 1 rfl) ?_
    refine lv_iload_n hx hb d_SM_out_5 rfl (lv_at hl 2 rfl) ?_
    refine lv_icmp_lt (tgt := 13) hx hb d_SM_out_6 (by decide) (fun c22 => ?_) (fun c22 => ?_)
    · refine lv_iconst (v := 0) hx hb d_SM_out_13 (by decide) ?_
      exact m_zret hc hr hlk hw ⟨by first | decide | (dsimp only; omega), by first | decide | (dsimp only; omega)⟩ d_SM_out_14 (by decide) ⟨rfl, (bI_f (fun z => z.elim c21 (fun z => Int32.not_le.mpr c22 z))).symm⟩
    · refine lv_iconst (v := 1) hx hb d_SM_out_9 (by decide) ?_
      refine lv_goto (tgt := 14) hx hb d_SM_out_10 (by decide) ?_
      exact m_zret hc hr hlk hw ⟨by first | decide | (dsimp only; omega), by first | decide | (dsimp only; omega)⟩ d_SM_out_14 (by decide) ⟨rfl, (bI_t (Or.inr (Int32.not_lt.mp c22))).symm⟩

noncomputable def lnO (sc : Nat → Int32) (x : Int32) : Int32 := pif (x = 0) (sc 0 - sc 1) (pif (x = 1) (sc 2) (sc 3))
set_option maxHeartbeats 4000000 in
set_option maxRecDepth 100000 in
/-- lengthOf -/
theorem c_SM_lengthOf (G : GG) (l : Launch) (sz : Nat) (f : Wd) {mo : Nat} {ar : Nat → Nat} {sc : Nat → Int32} {av : Nat → Nat → Int32} (hM : Mw G mo ar sc av f) (x : Int32) : Ci G l y_SM_lengthOf b_SM_lengthOf 2 (some .int) ({ frames := 0, cells := 0, slots := 0, locals := 0 }) sz f [.ref mo, .int x] (fun v f' => f = f' ∧ v = lnO sc x) := by
  refine ct_of (by decide) (Nat.le_of_ble_eq_true rfl) ?_
  intro p e s m below meth c ls H locs hEn
  obtain ⟨hc, hr, hlk, hin, hE, hw, hsz, hl⟩ := hEn
  have hx := hc.1
  have hb := hc.2.1
  have hl : lv_has ls 2 [(0, .ref mo), (1, .int x)] := hl
  have hX : Mx mo ar f f := Mx.rf
  refine lv_iload_n hx hb d_SM_lengthOf_0 rfl (lv_at hl 1 rfl) ?_
  refine lv_if_ne (tgt := 16) hx hb d_SM_lengthOf_1 (by decide) (fun c21 => ?_) (fun c21 => ?_)
  · refine lv_iload_n hx hb d_SM_lengthOf_16 rfl (lv_at hl 1 rfl) ?_
    refine lv_iconst (v := 1) hx hb d_SM_lengthOf_17 (by decide) ?_
    refine lv_icmp_ne (tgt := 28) hx hb d_SM_lengthOf_18 (by decide) (fun c22 => ?_) (fun c22 => ?_)
    · refine lv_aload_n hx hb d_SM_lengthOf_28 rfl (lv_at hl 0 rfl) ?_
      refine m_mget (v := .int (sc 3)) hc hE hw hM l_SM_68_SM rfl d_SM_lengthOf_29 ?_
      exact m_iret hc hr hlk hw ⟨by first | decide | (dsimp only; omega), by first | decide | (dsimp only; omega)⟩ d_SM_lengthOf_32 ⟨rfl, ((pif_f c21).trans (pif_f c22)).symm⟩
    · refine lv_aload_n hx hb d_SM_lengthOf_21 rfl (lv_at hl 0 rfl) ?_
      refine m_mget (v := .int (sc 2)) hc hE hw hM l_SM_65_SM rfl d_SM_lengthOf_22 ?_
      refine lv_goto (tgt := 32) hx hb d_SM_lengthOf_25 (by decide) ?_
      exact m_iret hc hr hlk hw ⟨by first | decide | (dsimp only; omega), by first | decide | (dsimp only; omega)⟩ d_SM_lengthOf_32 ⟨rfl, ((pif_f c21).trans (pif_t c22)).symm⟩
  · refine lv_aload_n hx hb d_SM_lengthOf_4 rfl (lv_at hl 0 rfl) ?_
    refine m_mget (v := .int (sc 0)) hc hE hw hM l_SM_59_SM rfl d_SM_lengthOf_5 ?_
    refine lv_aload_n hx hb d_SM_lengthOf_8 rfl (lv_at hl 0 rfl) ?_
    refine m_mget (v := .int (sc 1)) hc hE hw hM l_SM_62_SM rfl d_SM_lengthOf_9 ?_
    refine lv_isub hx hb d_SM_lengthOf_12 ?_
    refine lv_goto (tgt := 32) hx hb d_SM_lengthOf_13 (by decide) ?_
    exact m_iret hc hr hlk hw ⟨by first | decide | (dsimp only; omega), by first | decide | (dsimp only; omega)⟩ d_SM_lengthOf_32 ⟨rfl, (pif_t c21).symm⟩

set_option maxHeartbeats 4000000 in
set_option maxRecDepth 100000 in
/-- find -/
theorem c_SM_find (G : GG) (l : Launch) (sz : Nat) (f : Wd) {mo : Nat} {ar : Nat → Nat} {sc : Nat → Int32} {av : Nat → Nat → Int32} (hM : Mw G mo ar sc av f) (x : Int32) {a e0 : Nat} (hae : a ≤ e0) (he0 : e0 ≤ 4200) : Ci G l y_SM_find b_SM_find 5 (some .int) ({ frames := 0, cells := 0, slots := 0, locals := 0 }) sz f [.ref mo, .int x, .int (nI a), .int (nI e0)] (fun v f' => f = f' ∧ v = nI (fnd (av 0) x (e0 - a) a)) := by
  refine ct_of (by decide) (Nat.le_of_ble_eq_true rfl) ?_
  intro p e s m below meth c ls H locs hEn
  obtain ⟨hc, hr, hlk, hin, hE, hw, hsz, hl⟩ := hEn
  have hx := hc.1
  have hb := hc.2.1
  have hl : lv_has ls 5 [(0, .ref mo), (1, .int x), (2, .int (nI a)), (3, .int (nI e0))] := hl
  have hX : Mx mo ar f f := Mx.rf
  refine lv_iload_n hx hb d_SM_find_0 rfl (lv_at hl 2 rfl) ?_
  refine lv_istore (lv' := [(4, .int (nI a)), (0, .ref mo), (1, .int x), (2, .int (nI a)), (3, .int (nI e0))]) hx hb d_SM_find_1 hl (by decide) rfl (fun ls hl => ?_)
  have loop : ∀ (fu : Nat) (i : Nat) (ls : Array Slot) (H : Heap) (locs : List Loc), e0 - i < fu → a ≤ i → i ≤ e0 → (∀ j, a ≤ j → j < i → ¬ av 0 j = x) → ms G.1 (Af f sz) f s H locs → lv_has ls 5 [(4, .int (nI i)), (0, .ref mo), (1, .int x), (3, .int (nI e0))] → W p l e ({ frames := 0, cells := 0, slots := 0, locals := 0 }) s m ([.ref mo, .int x, .int (nI a), .int (nI e0)] : List Value).toArray below meth c H locs 0 0 (MQ below (va_Qi (fun v f' => f = f' ∧ v = nI (fnd (av 0) x (e0 - a) a)) (Bw G f sz) (Af f sz)) ([.ref mo, .int x, .int (nI a), .int (nI e0)] : List Value).toArray s 0 0 (Af f sz)) (F0 m 3 ls []) := by
    intro fu
    induction fu with
    | zero => intro i ls H locs h0; exact absurd h0 (Nat.not_lt_zero _)
    | succ fu ih =>
      intro i ls H locs hfu h1 h2 hno hw hl
      refine lv_iload hx hb d_SM_find_3 (lv_at hl 0 rfl) ?_
      refine lv_iload_n hx hb d_SM_find_5 rfl (lv_at hl 3 rfl) ?_
      refine lv_icmp_ge (tgt := 26) hx hb d_SM_find_6 (by decide) (fun c21 => ?_) (fun c21 => ?_)
      · have c21n : e0 ≤ i := (nI_leI (a := e0) (b := i) (by omega) (by omega)).mp c21
        refine lv_iload hx hb d_SM_find_26 (lv_at hl 0 rfl) ?_
        have hq : i = e0 := by omega
        exact m_iret hc hr hlk hw ⟨by first | decide | (dsimp only; omega), by first | decide | (dsimp only; omega)⟩ d_SM_find_28 ⟨rfl, congrArg nI (fnd_eq h1 h2 hno (fun z => absurd z (by omega))).symm⟩
      · have c21n : ¬ (e0 ≤ i) := fun z => c21 ((nI_leI (a := e0) (b := i) (by omega) (by omega)).mpr z)
        refine lv_aload_n hx hb d_SM_find_9 rfl (lv_at hl 1 rfl) ?_
        refine m_mget (v := .ref (ar 0)) hc hE hw hM l_SM_7_SM rfl d_SM_find_10 ?_
        refine lv_iload hx hb d_SM_find_13 (lv_at hl 0 rfl) ?_
        refine m_mald (v := ((av 0) i)) hc hE hw hM (k := 0) (by decide) (vp_in_nI (N := 4200) (by omega) (by decide)) (congrArg (av 0) (nI_clamp (n := i) (by omega))) d_SM_find_15 ?_
        refine lv_iload_n hx hb d_SM_find_16 rfl (lv_at hl 2 rfl) ?_
        refine lv_icmp_eq (tgt := 26) hx hb d_SM_find_17 (by decide) (fun c22 => ?_) (fun c22 => ?_)
        · refine lv_iload hx hb d_SM_find_26 (lv_at hl 0 rfl) ?_
          exact m_iret hc hr hlk hw ⟨by first | decide | (dsimp only; omega), by first | decide | (dsimp only; omega)⟩ d_SM_find_28 ⟨rfl, congrArg nI (fnd_eq h1 h2 hno (fun _ => c22)).symm⟩
        · refine lv_iinc (v := (nI (i + 1))) (lv' := [(4, .int (nI (i + 1))), (0, .ref mo), (1, .int x), (3, .int (nI e0))]) hx hb d_SM_find_20 hl (k := 0) rfl (nI_1 _) (by decide) rfl (fun ls hl => ?_)
          refine lv_goto (tgt := 3) hx hb d_SM_find_23 (by decide) ?_
          exact ih (i + 1) ls H locs (by omega) (by omega) (by omega) (fun j q1 q2 => by rcases Nat.lt_or_ge j i with z | z; exact hno j q1 z; rw [show j = i by omega]; exact c22) hw (lv_sub hl [0, 1, 2, 3] rfl)
  exact loop (e0 + 1) a ls H locs (by omega) (Nat.le_refl _) hae (fun j q1 q2 => absurd q1 (by omega)) hw (lv_sub hl [0, 1, 2, 4] rfl)

set_option maxHeartbeats 4000000 in
set_option maxRecDepth 100000 in
/-- none -/
theorem c_SM_none (G : GG) (l : Launch) (sz : Nat) (f : Wd) {mo : Nat} {ar : Nat → Nat} {sc : Nat → Int32} {av : Nat → Nat → Int32} (hM : Mw G mo ar sc av f) (x : Int32) : Ci G l y_SM_none b_SM_none 2 (some .boolean) ({ frames := 1, cells := 0, slots := 0, locals := 22 }) sz f [.ref mo, .int x] (fun v f' => f = f' ∧ v = bI (noS (av 11) x)) := by
  refine ct_of (by decide) (Nat.le_of_ble_eq_true rfl) ?_
  intro p e s m below meth c ls H locs hEn
  obtain ⟨hc, hr, hlk, hin, hE, hw, hsz, hl⟩ := hEn
  have hx := hc.1
  have hb := hc.2.1
  have hl : lv_has ls 2 [(0, .ref mo), (1, .int x)] := hl
  have hX : Mx mo ar f f := Mx.rf
  refine lv_aload_n hx hb d_SM_none_0 rfl (lv_at hl 0 rfl) ?_
  refine lv_iload_n hx hb d_SM_none_1 rfl (lv_at hl 1 rfl) ?_
  refine lv_bipush (v := 10) hx hb d_SM_none_2 (by decide) ?_
  refine m_calli hw (m_runV (As := [.int x, .int 10]) (rest := []) hc hE hw (c_SM_out G l H.size f hM x 10) hM.1 rfl cw_SM_71 se_SM_out rfl hl.1 rfl (Nat.le_of_ble_eq_true rfl) d_SM_none_4 ⟨rfl, rfl, by decide, by decide⟩ ⟨by first | decide | (dsimp only; omega), by first | decide | (dsimp only; omega)⟩) (fun r23 g22 H locs p21 hw => ?_)
  obtain ⟨rfl, p21⟩ := p21
  subst p21
  refine lv_if_ne (tgt := 19) hx hb d_SM_none_7 (by decide) (fun c24 => ?_) (fun c24 => ?_)
  · have c24n : (x < 0 ∨ 10 ≤ x) := bI_n.mp c24
    refine lv_iconst (v := 1) hx hb d_SM_none_19 (by decide) ?_
    refine lv_goto (tgt := 24) hx hb d_SM_none_20 (by decide) ?_
    exact m_zret hc hr hlk hw ⟨by first | decide | (dsimp only; omega), by first | decide | (dsimp only; omega)⟩ d_SM_none_24 (by decide) ⟨rfl, (bI_t (noS_out c24n)).symm⟩
  · have c24n : ¬ (x < 0 ∨ 10 ≤ x) := bI_0.mp c24
    refine lv_aload_n hx hb d_SM_none_10 rfl (lv_at hl 0 rfl) ?_
    refine m_mget (v := .ref (ar 11)) hc hE hw hM l_SM_43_SM rfl d_SM_none_11 ?_
    refine lv_iload_n hx hb d_SM_none_14 rfl (lv_at hl 1 rfl) ?_
    obtain ⟨k, hk, hxk⟩ := plc_of c24n
    refine m_mald (v := (av 11 k)) hc hE hw hM (k := 11) (by decide) (by rw [hxk]; exact vp_in_nI hk (by decide)) (rfl.trans (by rw [hxk, nI_clamp (by omega)])) d_SM_none_15 ?_
    refine lv_if_ge (tgt := 23) hx hb d_SM_none_16 (by decide) (fun c25 => ?_) (fun c25 => ?_)
    · refine lv_iconst (v := 0) hx hb d_SM_none_23 (by decide) ?_
      exact m_zret hc hr hlk hw ⟨by first | decide | (dsimp only; omega), by first | decide | (dsimp only; omega)⟩ d_SM_none_24 (by decide) ⟨rfl, (bI_f (fun z => Int32.not_lt.mpr c25 (z k hk hxk))).symm⟩
    · refine lv_iconst (v := 1) hx hb d_SM_none_19 (by decide) ?_
      refine lv_goto (tgt := 24) hx hb d_SM_none_20 (by decide) ?_
      exact m_zret hc hr hlk hw ⟨by first | decide | (dsimp only; omega), by first | decide | (dsimp only; omega)⟩ d_SM_none_24 (by decide) ⟨rfl, (bI_t (noS_in hk hxk (Int32.not_le.mp c25))).symm⟩

set_option maxHeartbeats 4000000 in
set_option maxRecDepth 100000 in
/-- nameBegins -/
theorem c_SM_nameBegins (G : GG) (l : Launch) (sz : Nat) (f : Wd) {mo : Nat} {ar : Nat → Nat} {sc : Nat → Int32} {av : Nat → Nat → Int32} (hM : Mw G mo ar sc av f) {a e0 nn : Nat} (hae : a ≤ e0) (he0 : e0 ≤ 4200) (hnn : sc 2 = nI nn) (hn : nn ≤ 40) : Ci G l y_SM_nameBegins b_SM_nameBegins 4 (some .boolean) ({ frames := 0, cells := 0, slots := 0, locals := 0 }) sz f [.ref mo, .int (nI a), .int (nI e0)] (fun v f' => f = f' ∧ v = bI (bgn nn (av 1) (av 0) a e0)) := by
  refine ct_of (by decide) (Nat.le_of_ble_eq_true rfl) ?_
  intro p e s m below meth c ls H locs hEn
  obtain ⟨hc, hr, hlk, hin, hE, hw, hsz, hl⟩ := hEn
  have hx := hc.1
  have hb := hc.2.1
  have hl : lv_has ls 4 [(0, .ref mo), (1, .int (nI a)), (2, .int (nI e0))] := hl
  have hX : Mx mo ar f f := Mx.rf
  refine lv_iload_n hx hb d_SM_nameBegins_0 rfl (lv_at hl 2 rfl) ?_
  refine lv_iload_n hx hb d_SM_nameBegins_1 rfl (lv_at hl 1 rfl) ?_
  refine lv_isub hx hb d_SM_nameBegins_2 ?_
  refine m_top (y := (nI (e0 - a))) (pk_sub (a := e0) (b := a) (by omega)) ?_
  refine lv_aload_n hx hb d_SM_nameBegins_3 rfl (lv_at hl 0 rfl) ?_
  refine m_mget (v := .int (sc 2)) hc hE hw hM l_SM_65_SM rfl d_SM_nameBegins_4 ?_
  refine m_top (y := nI nn) hnn ?_
  refine lv_icmp_le (tgt := 12) hx hb d_SM_nameBegins_7 (by decide) (fun c21 => ?_) (fun c21 => ?_)
  · have c21n : (e0 - a) ≤ nn := (nI_leI (a := (e0 - a)) (b := nn) (by omega) (by omega)).mp c21
    refine lv_iload_n hx hb d_SM_nameBegins_12 rfl (lv_at hl 1 rfl) ?_
    refine lv_istore_n (lv' := [(3, .int (nI a)), (0, .ref mo), (1, .int (nI a)), (2, .int (nI e0))]) hx hb d_SM_nameBegins_13 rfl hl (by decide) rfl (fun ls hl => ?_)
    have loop : ∀ (fu : Nat) (i : Nat) (ls : Array Slot) (H : Heap) (locs : List Loc), e0 - i < fu → a ≤ i → i ≤ e0 → (∀ j, j < i - a → av 1 j = av 0 (a + j)) → ms G.1 (Af f sz) f s H locs → lv_has ls 4 [(3, .int (nI i)), (0, .ref mo), (1, .int (nI a)), (2, .int (nI e0))] → W p l e ({ frames := 0, cells := 0, slots := 0, locals := 0 }) s m ([.ref mo, .int (nI a), .int (nI e0)] : List Value).toArray below meth c H locs 0 0 (MQ below (va_Qi (fun v f' => f = f' ∧ v = bI (bgn nn (av 1) (av 0) a e0)) (Bw G f sz) (Af f sz)) ([.ref mo, .int (nI a), .int (nI e0)] : List Value).toArray s 0 0 (Af f sz)) (F0 m 14 ls []) := by
      intro fu
      induction fu with
      | zero => intro i ls H locs h0; exact absurd h0 (Nat.not_lt_zero _)
      | succ fu ih =>
        intro i ls H locs hfu h1 h2 hok hw hl
        refine lv_iload_n hx hb d_SM_nameBegins_14 rfl (lv_at hl 0 rfl) ?_
        refine lv_iload_n hx hb d_SM_nameBegins_15 rfl (lv_at hl 3 rfl) ?_
        refine lv_icmp_ge (tgt := 44) hx hb d_SM_nameBegins_16 (by decide) (fun c22 => ?_) (fun c22 => ?_)
        · have c22n : e0 ≤ i := (nI_leI (a := e0) (b := i) (by omega) (by omega)).mp c22
          refine lv_iconst (v := 1) hx hb d_SM_nameBegins_44 (by decide) ?_
          exact m_zret hc hr hlk hw ⟨by first | decide | (dsimp only; omega), by first | decide | (dsimp only; omega)⟩ d_SM_nameBegins_45 (by decide) ⟨rfl, (bI_t ⟨by omega, fun j hj => hok j (by omega)⟩).symm⟩
        · have c22n : ¬ (e0 ≤ i) := fun z => c22 ((nI_leI (a := e0) (b := i) (by omega) (by omega)).mpr z)
          refine lv_aload_n hx hb d_SM_nameBegins_19 rfl (lv_at hl 1 rfl) ?_
          refine m_mget (v := .ref (ar 0)) hc hE hw hM l_SM_7_SM rfl d_SM_nameBegins_20 ?_
          refine lv_iload_n hx hb d_SM_nameBegins_23 rfl (lv_at hl 0 rfl) ?_
          refine m_mald (v := ((av 0) i)) hc hE hw hM (k := 0) (by decide) (vp_in_nI (N := 4200) (by omega) (by decide)) (congrArg (av 0) (nI_clamp (n := i) (by omega))) d_SM_nameBegins_24 ?_
          refine lv_aload_n hx hb d_SM_nameBegins_25 rfl (lv_at hl 1 rfl) ?_
          refine m_mget (v := .ref (ar 1)) hc hE hw hM l_SM_13_SM rfl d_SM_nameBegins_26 ?_
          refine lv_iload_n hx hb d_SM_nameBegins_29 rfl (lv_at hl 0 rfl) ?_
          refine lv_iload_n hx hb d_SM_nameBegins_30 rfl (lv_at hl 2 rfl) ?_
          refine lv_isub hx hb d_SM_nameBegins_31 ?_
          refine m_top (y := (nI (i - a))) (pk_sub (a := i) (b := a) (by omega)) ?_
          refine m_mald (v := ((av 1) (i - a))) hc hE hw hM (k := 1) (by decide) (vp_in_nI (N := 40) (by omega) (by decide)) (congrArg (av 1) (nI_clamp (n := (i - a)) (by omega))) d_SM_nameBegins_32 ?_
          refine lv_icmp_eq (tgt := 38) hx hb d_SM_nameBegins_33 (by decide) (fun c23 => ?_) (fun c23 => ?_)
          · refine lv_iinc (v := (nI (i + 1))) (lv' := [(3, .int (nI (i + 1))), (0, .ref mo), (1, .int (nI a)), (2, .int (nI e0))]) hx hb d_SM_nameBegins_38 hl (k := 0) rfl (nI_1 _) (by decide) rfl (fun ls hl => ?_)
            refine lv_goto (tgt := 14) hx hb d_SM_nameBegins_41 (by decide) ?_
            exact ih (i + 1) ls H locs (by omega) (by omega) (by omega) (fun j hj => by rcases Nat.lt_or_ge j (i - a) with z | z; exact hok j z; rw [show j = i - a by omega, show a + (i - a) = i by omega]; exact c23.symm) hw (lv_sub hl [0, 1, 2, 3] rfl)
          · refine lv_iconst (v := 0) hx hb d_SM_nameBegins_36 (by decide) ?_
            exact m_zret hc hr hlk hw ⟨by first | decide | (dsimp only; omega), by first | decide | (dsimp only; omega)⟩ d_SM_nameBegins_37 (by decide) ⟨rfl, (bI_f (fun z => c23 (by have := z.2 (i - a) (by omega); rw [show a + (i - a) = i by omega] at this; exact this.symm))).symm⟩
    exact loop (e0 + 1) a ls H locs (by omega) (Nat.le_refl _) hae (fun j q => absurd q (by omega)) hw (lv_sub hl [0, 1, 2, 3] rfl)
  · have c21n : ¬ ((e0 - a) ≤ nn) := fun z => c21 ((nI_leI (a := (e0 - a)) (b := nn) (by omega) (by omega)).mpr z)
    refine lv_iconst (v := 0) hx hb d_SM_nameBegins_10 (by decide) ?_
    exact m_zret hc hr hlk hw ⟨by first | decide | (dsimp only; omega), by first | decide | (dsimp only; omega)⟩ d_SM_nameBegins_11 (by decide) ⟨rfl, (bI_f (fun z => absurd z.1 (by omega))).symm⟩

set_option maxHeartbeats 4000000 in
set_option maxRecDepth 100000 in
/-- push -/
theorem c_SM_push (G : GG) (l : Launch) (sz : Nat) (f : Wd) {mo : Nat} {ar : Nat → Nat} {sc : Nat → Int32} {av : Nat → Nat → Int32} (hM : Mw G mo ar sc av f) {tp : Nat} (htp : sc 11 = nI tp) (hlt : tp < 20) (x : Int32) : Cv G l y_SM_push b_SM_push 2 none ({ frames := 0, cells := 0, slots := 0, locals := 0 }) sz f [.ref mo, .int x] (fun f' => Mw G mo ar (upd sc 11 (nI (tp + 1))) (va_up (va_up av 12 (upd (av 12) tp x)) 13 (upd (av 13) tp 0)) f' ∧ Mx mo ar f f') := by
  refine ct_of (by decide) (Nat.le_of_ble_eq_true rfl) ?_
  intro p e s m below meth c ls H locs hEn
  obtain ⟨hc, hr, hlk, hin, hE, hw, hsz, hl⟩ := hEn
  have hx := hc.1
  have hb := hc.2.1
  have hl : lv_has ls 2 [(0, .ref mo), (1, .int x)] := hl
  have hX : Mx mo ar f f := Mx.rf
  refine lv_aload_n hx hb d_SM_push_0 rfl (lv_at hl 0 rfl) ?_
  refine m_mget (v := .ref (ar 12)) hc hE hw hM l_SM_50_SM rfl d_SM_push_1 ?_
  refine lv_aload_n hx hb d_SM_push_4 rfl (lv_at hl 0 rfl) ?_
  refine m_mget (v := .int (sc 11)) hc hE hw hM l_SM_182_SM rfl d_SM_push_5 ?_
  refine m_top (y := nI tp) htp ?_
  refine lv_iload_n hx hb d_SM_push_8 rfl (lv_at hl 1 rfl) ?_
  refine m_mast (k := 12) (j := tp) hc hE hw hM hX (by decide) (nI_clamp (n := tp) (by omega)) (vp_in_nI (N := 20) (by omega) (by decide)) d_SM_push_9 (fun H locs f21 hM22 hX23 hw => ?_)
  replace hM22 : Mw G mo ar sc (va_up av 12 (upd (av 12) tp x)) f21 := hM22
  refine lv_aload_n hx hb d_SM_push_10 rfl (lv_at hl 0 rfl) ?_
  refine m_mget (v := .ref (ar 13)) hc hE hw hM22 l_SM_53_SM rfl d_SM_push_11 ?_
  refine lv_aload_n hx hb d_SM_push_14 rfl (lv_at hl 0 rfl) ?_
  refine m_mget (v := .int (sc 11)) hc hE hw hM22 l_SM_182_SM rfl d_SM_push_15 ?_
  refine m_top (y := nI tp) htp ?_
  refine lv_iconst (v := 0) hx hb d_SM_push_18 (by decide) ?_
  refine m_mast (k := 13) (j := tp) hc hE hw hM22 hX23 (by decide) (nI_clamp (n := tp) (by omega)) (vp_in_nI (N := 20) (by omega) (by decide)) d_SM_push_19 (fun H locs f24 hM25 hX26 hw => ?_)
  replace hM25 : Mw G mo ar sc (va_up (va_up av 12 (upd (av 12) tp x)) 13 (upd (av 13) tp 0)) f24 := hM25
  refine lv_aload_n hx hb d_SM_push_20 rfl (lv_at hl 0 rfl) ?_
  refine lv_dup hx hb d_SM_push_21 rfl ?_
  refine m_mget (v := .int (sc 11)) hc hE hw hM25 l_SM_182_SM rfl d_SM_push_22 ?_
  refine m_top (y := nI tp) htp ?_
  refine lv_iconst (v := 1) hx hb d_SM_push_25 (by decide) ?_
  refine lv_iadd hx hb d_SM_push_26 ?_
  refine m_top (y := (nI (tp + 1))) (nI_add tp 1) ?_
  refine m_mput (sc' := (upd sc 11 (nI (tp + 1)))) hc hE hw hM25 hX26 l_SM_182_SM rfl ds_SM_36 rfl rfl rfl d_SM_push_27 (fun H locs f27 hM28 hX29 hw => ?_)
  exact m_vret hc hr hlk hw ⟨by first | decide | (dsimp only; omega), by first | decide | (dsimp only; omega)⟩ d_SM_push_30 ⟨hM28, hX29⟩
