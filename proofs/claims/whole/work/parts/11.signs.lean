/-! links of the pools, as the walks ask for them -/
theorem l_Signs_15_Signs : lnk "StreamFilters$Signs" 15 F_Signs 2 1 := ⟨by decide, "StreamFilters$Signs", Or.inl rfl, Or.inl (tb 33 (by decide +kernel) rfl)⟩
theorem l_Signs_9_Signs : lnk "StreamFilters$Signs" 9 F_Signs 2 0 := ⟨by decide, "StreamFilters$Signs", Or.inl rfl, Or.inl (tb 32 (by decide +kernel) rfl)⟩
theorem lf_Signs_9_Signs : 0 < 2 ∧ Cond.fieldLink "StreamFilters$Signs" 9 "StreamFilters$Signs" (F_Signs 0).2.1 (F_Signs 0).2.2.1 ∈ TB := ⟨by decide, (tb 32 (by decide +kernel) rfl)⟩
theorem nw_Signs_10 : nwk "StreamFilters$Signs" 10 R_Signs 2 := ⟨(tb 324 (by decide +kernel) rfl), (tb 27 (by decide +kernel) rfl), (tb 2 (by decide +kernel) rfl)⟩
theorem cw_Signs_19 : cwk "StreamFilters$Signs" 19 y_Signs_init b_Signs_init 2 none 1 := ⟨Or.inl (tb 325 (by decide +kernel) rfl), (tb 30 (by decide +kernel) rfl), (tb 2 (by decide +kernel) rfl), by decide, by decide, by decide +kernel⟩
theorem cw_Signs_22 : cwk "StreamFilters$Signs" 22 y_Signs_append b_Signs_append 2 none 1 := ⟨Or.inl (tb 326 (by decide +kernel) rfl), (tb 186 (by decide +kernel) rfl), (tb 2 (by decide +kernel) rfl), by decide, by decide, by decide +kernel⟩
theorem cw_Signs_26 : cwk "StreamFilters$Signs" 26 y_Signs_at b_Signs_at 2 (some .int) 1 := ⟨Or.inl (tb 227 (by decide +kernel) rfl), (tb 218 (by decide +kernel) rfl), (tb 2 (by decide +kernel) rfl), by decide, by decide, by decide +kernel⟩
theorem cw_Signs_30 : cwk "StreamFilters$Signs" 30 y_Signs_beginsWithPart b_Signs_beginsWithPart 5 (some .boolean) 3 := ⟨Or.inl (tb 561 (by decide +kernel) rfl), (tb 526 (by decide +kernel) rfl), (tb 2 (by decide +kernel) rfl), by decide, by decide, by decide +kernel⟩
theorem se_Signs_append : Cond.instanceMethod y_Signs_append ∈ TB ∧ Cond.selects "StreamFilters$Signs" y_Signs_append y_Signs_append ∈ TB := ⟨(tb 184 (by decide +kernel) rfl), (tb 185 (by decide +kernel) rfl)⟩
theorem se_Signs_at : Cond.instanceMethod y_Signs_at ∈ TB ∧ Cond.selects "StreamFilters$Signs" y_Signs_at y_Signs_at ∈ TB := ⟨(tb 216 (by decide +kernel) rfl), (tb 217 (by decide +kernel) rfl)⟩
theorem se_Signs_beginsWithPart : Cond.instanceMethod y_Signs_beginsWithPart ∈ TB ∧ Cond.selects "StreamFilters$Signs" y_Signs_beginsWithPart y_Signs_beginsWithPart ∈ TB := ⟨(tb 524 (by decide +kernel) rfl), (tb 525 (by decide +kernel) rfl)⟩
theorem si_Signs_init : Cond.instanceMethod y_Signs_init ∈ TB := (tb 29 (by decide +kernel) rfl)
theorem oi_Signs_3 : Cond.methodLink "StreamFilters$Signs" 3 Lib.objectInit ∈ TB := (tb 31 (by decide +kernel) rfl)
theorem ar_char : Cond.arrayClass .char ∈ TB := (tb 39 (by decide +kernel) rfl)
/-! decode rows -/
theorem d_Signs_init_0 : decode b_Signs_init 0 = .ok (.aload_n 0, 1) := by decide +kernel
theorem d_Signs_init_1 : decode b_Signs_init 1 = .ok (.invokespecial 3, 3) := by decide +kernel
theorem d_Signs_init_4 : decode b_Signs_init 4 = .ok (.aload_n 0, 1) := by decide +kernel
theorem d_Signs_init_5 : decode b_Signs_init 5 = .ok (.iload_n 1, 1) := by decide +kernel
theorem d_Signs_init_6 : decode b_Signs_init 6 = .ok (.newarray .char, 2) := by decide +kernel
theorem d_Signs_init_8 : decode b_Signs_init 8 = .ok (.putfield 9, 3) := by decide +kernel
theorem d_Signs_init_11 : decode b_Signs_init 11 = .ok (.aload_n 0, 1) := by decide +kernel
theorem d_Signs_init_12 : decode b_Signs_init 12 = .ok (.iconst 0, 1) := by decide +kernel
theorem d_Signs_init_13 : decode b_Signs_init 13 = .ok (.putfield 15, 3) := by decide +kernel
theorem d_Signs_init_16 : decode b_Signs_init 16 = .ok (.return_, 1) := by decide +kernel
theorem d_Signs_hasRoomFor_0 : decode b_Signs_hasRoomFor 0 = .ok (.iload_n 1, 1) := by decide +kernel
theorem d_Signs_hasRoomFor_1 : decode b_Signs_hasRoomFor 1 = .ok (.aload_n 0, 1) := by decide +kernel
theorem d_Signs_hasRoomFor_2 : decode b_Signs_hasRoomFor 2 = .ok (.getfield 9, 3) := by decide +kernel
theorem d_Signs_hasRoomFor_5 : decode b_Signs_hasRoomFor 5 = .ok (.arraylength, 1) := by decide +kernel
theorem d_Signs_hasRoomFor_6 : decode b_Signs_hasRoomFor 6 = .ok (.aload_n 0, 1) := by decide +kernel
theorem d_Signs_hasRoomFor_7 : decode b_Signs_hasRoomFor 7 = .ok (.getfield 15, 3) := by decide +kernel
theorem d_Signs_hasRoomFor_10 : decode b_Signs_hasRoomFor 10 = .ok (.isub, 1) := by decide +kernel
theorem d_Signs_hasRoomFor_11 : decode b_Signs_hasRoomFor 11 = .ok (.if_icmp .gt 7, 3) := by decide +kernel
theorem d_Signs_hasRoomFor_14 : decode b_Signs_hasRoomFor 14 = .ok (.iconst 1, 1) := by decide +kernel
theorem d_Signs_hasRoomFor_15 : decode b_Signs_hasRoomFor 15 = .ok (.goto 4, 3) := by decide +kernel
theorem d_Signs_hasRoomFor_18 : decode b_Signs_hasRoomFor 18 = .ok (.iconst 0, 1) := by decide +kernel
theorem d_Signs_hasRoomFor_19 : decode b_Signs_hasRoomFor 19 = .ok (.ireturn, 1) := by decide +kernel
theorem d_Signs_append_0 : decode b_Signs_append 0 = .ok (.aload_n 0, 1) := by decide +kernel
theorem d_Signs_append_1 : decode b_Signs_append 1 = .ok (.getfield 15, 3) := by decide +kernel
theorem d_Signs_append_4 : decode b_Signs_append 4 = .ok (.aload_n 0, 1) := by decide +kernel
theorem d_Signs_append_5 : decode b_Signs_append 5 = .ok (.getfield 9, 3) := by decide +kernel
theorem d_Signs_append_8 : decode b_Signs_append 8 = .ok (.arraylength, 1) := by decide +kernel
theorem d_Signs_append_9 : decode b_Signs_append 9 = .ok (.if_icmp .ge 23, 3) := by decide +kernel
theorem d_Signs_append_12 : decode b_Signs_append 12 = .ok (.aload_n 0, 1) := by decide +kernel
theorem d_Signs_append_13 : decode b_Signs_append 13 = .ok (.getfield 9, 3) := by decide +kernel
theorem d_Signs_append_16 : decode b_Signs_append 16 = .ok (.aload_n 0, 1) := by decide +kernel
theorem d_Signs_append_17 : decode b_Signs_append 17 = .ok (.getfield 15, 3) := by decide +kernel
theorem d_Signs_append_20 : decode b_Signs_append 20 = .ok (.iload_n 1, 1) := by decide +kernel
theorem d_Signs_append_21 : decode b_Signs_append 21 = .ok (.castore, 1) := by decide +kernel
theorem d_Signs_append_22 : decode b_Signs_append 22 = .ok (.aload_n 0, 1) := by decide +kernel
theorem d_Signs_append_23 : decode b_Signs_append 23 = .ok (.dup, 1) := by decide +kernel
theorem d_Signs_append_24 : decode b_Signs_append 24 = .ok (.getfield 15, 3) := by decide +kernel
theorem d_Signs_append_27 : decode b_Signs_append 27 = .ok (.iconst 1, 1) := by decide +kernel
theorem d_Signs_append_28 : decode b_Signs_append 28 = .ok (.iadd, 1) := by decide +kernel
theorem d_Signs_append_29 : decode b_Signs_append 29 = .ok (.putfield 15, 3) := by decide +kernel
theorem d_Signs_append_32 : decode b_Signs_append 32 = .ok (.return_, 1) := by decide +kernel
theorem d_Signs_length_0 : decode b_Signs_length 0 = .ok (.aload_n 0, 1) := by decide +kernel
theorem d_Signs_length_1 : decode b_Signs_length 1 = .ok (.getfield 15, 3) := by decide +kernel
theorem d_Signs_length_4 : decode b_Signs_length 4 = .ok (.ireturn, 1) := by decide +kernel
theorem d_Signs_takeAll_0 : decode b_Signs_takeAll 0 = .ok (.aload_n 0, 1) := by decide +kernel
theorem d_Signs_takeAll_1 : decode b_Signs_takeAll 1 = .ok (.getfield 15, 3) := by decide +kernel
theorem d_Signs_takeAll_4 : decode b_Signs_takeAll 4 = .ok (.istore_n 1, 1) := by decide +kernel
theorem d_Signs_takeAll_5 : decode b_Signs_takeAll 5 = .ok (.aload_n 0, 1) := by decide +kernel
theorem d_Signs_takeAll_6 : decode b_Signs_takeAll 6 = .ok (.iconst 0, 1) := by decide +kernel
theorem d_Signs_takeAll_7 : decode b_Signs_takeAll 7 = .ok (.putfield 15, 3) := by decide +kernel
theorem d_Signs_takeAll_10 : decode b_Signs_takeAll 10 = .ok (.iload_n 1, 1) := by decide +kernel
theorem d_Signs_takeAll_11 : decode b_Signs_takeAll 11 = .ok (.ireturn, 1) := by decide +kernel
theorem d_Signs_at_0 : decode b_Signs_at 0 = .ok (.iload_n 1, 1) := by decide +kernel
theorem d_Signs_at_1 : decode b_Signs_at 1 = .ok (.ifCond .lt 20, 3) := by decide +kernel
theorem d_Signs_at_4 : decode b_Signs_at 4 = .ok (.iload_n 1, 1) := by decide +kernel
theorem d_Signs_at_5 : decode b_Signs_at 5 = .ok (.aload_n 0, 1) := by decide +kernel
theorem d_Signs_at_6 : decode b_Signs_at 6 = .ok (.getfield 15, 3) := by decide +kernel
theorem d_Signs_at_9 : decode b_Signs_at 9 = .ok (.if_icmp .ge 12, 3) := by decide +kernel
theorem d_Signs_at_12 : decode b_Signs_at 12 = .ok (.aload_n 0, 1) := by decide +kernel
theorem d_Signs_at_13 : decode b_Signs_at 13 = .ok (.getfield 9, 3) := by decide +kernel
theorem d_Signs_at_16 : decode b_Signs_at 16 = .ok (.iload_n 1, 1) := by decide +kernel
theorem d_Signs_at_17 : decode b_Signs_at 17 = .ok (.caload, 1) := by decide +kernel
theorem d_Signs_at_18 : decode b_Signs_at 18 = .ok (.goto 4, 3) := by decide +kernel
theorem d_Signs_at_21 : decode b_Signs_at 21 = .ok (.iconst (-1), 1) := by decide +kernel
theorem d_Signs_at_22 : decode b_Signs_at 22 = .ok (.ireturn, 1) := by decide +kernel
theorem d_Signs_find_0 : decode b_Signs_find 0 = .ok (.iload_n 2, 1) := by decide +kernel
theorem d_Signs_find_1 : decode b_Signs_find 1 = .ok (.istore 4, 2) := by decide +kernel
theorem d_Signs_find_3 : decode b_Signs_find 3 = .ok (.iload 4, 2) := by decide +kernel
theorem d_Signs_find_5 : decode b_Signs_find 5 = .ok (.iload_n 3, 1) := by decide +kernel
theorem d_Signs_find_6 : decode b_Signs_find 6 = .ok (.if_icmp .ge 22, 3) := by decide +kernel
theorem d_Signs_find_9 : decode b_Signs_find 9 = .ok (.aload_n 0, 1) := by decide +kernel
theorem d_Signs_find_10 : decode b_Signs_find 10 = .ok (.iload 4, 2) := by decide +kernel
theorem d_Signs_find_12 : decode b_Signs_find 12 = .ok (.invokevirtual 26, 3) := by decide +kernel
theorem d_Signs_find_15 : decode b_Signs_find 15 = .ok (.iload_n 1, 1) := by decide +kernel
theorem d_Signs_find_16 : decode b_Signs_find 16 = .ok (.if_icmp .ne 6, 3) := by decide +kernel
theorem d_Signs_find_19 : decode b_Signs_find 19 = .ok (.iload 4, 2) := by decide +kernel
theorem d_Signs_find_21 : decode b_Signs_find 21 = .ok (.ireturn, 1) := by decide +kernel
theorem d_Signs_find_22 : decode b_Signs_find 22 = .ok (.iinc 4 1, 3) := by decide +kernel
theorem d_Signs_find_25 : decode b_Signs_find 25 = .ok (.goto (-22), 3) := by decide +kernel
theorem d_Signs_find_28 : decode b_Signs_find 28 = .ok (.iload_n 3, 1) := by decide +kernel
theorem d_Signs_find_29 : decode b_Signs_find 29 = .ok (.ireturn, 1) := by decide +kernel
theorem d_Signs_copy_0 : decode b_Signs_copy 0 = .ok (.new 10, 3) := by decide +kernel
theorem d_Signs_copy_3 : decode b_Signs_copy 3 = .ok (.dup, 1) := by decide +kernel
theorem d_Signs_copy_4 : decode b_Signs_copy 4 = .ok (.aload_n 0, 1) := by decide +kernel
theorem d_Signs_copy_5 : decode b_Signs_copy 5 = .ok (.getfield 15, 3) := by decide +kernel
theorem d_Signs_copy_8 : decode b_Signs_copy 8 = .ok (.invokespecial 19, 3) := by decide +kernel
theorem d_Signs_copy_11 : decode b_Signs_copy 11 = .ok (.astore_n 1, 1) := by decide +kernel
theorem d_Signs_copy_12 : decode b_Signs_copy 12 = .ok (.iconst 0, 1) := by decide +kernel
theorem d_Signs_copy_13 : decode b_Signs_copy 13 = .ok (.istore_n 2, 1) := by decide +kernel
theorem d_Signs_copy_14 : decode b_Signs_copy 14 = .ok (.iload_n 2, 1) := by decide +kernel
theorem d_Signs_copy_15 : decode b_Signs_copy 15 = .ok (.aload_n 0, 1) := by decide +kernel
theorem d_Signs_copy_16 : decode b_Signs_copy 16 = .ok (.getfield 15, 3) := by decide +kernel
theorem d_Signs_copy_19 : decode b_Signs_copy 19 = .ok (.if_icmp .ge 19, 3) := by decide +kernel
theorem d_Signs_copy_22 : decode b_Signs_copy 22 = .ok (.aload_n 1, 1) := by decide +kernel
theorem d_Signs_copy_23 : decode b_Signs_copy 23 = .ok (.aload_n 0, 1) := by decide +kernel
theorem d_Signs_copy_24 : decode b_Signs_copy 24 = .ok (.getfield 9, 3) := by decide +kernel
theorem d_Signs_copy_27 : decode b_Signs_copy 27 = .ok (.iload_n 2, 1) := by decide +kernel
theorem d_Signs_copy_28 : decode b_Signs_copy 28 = .ok (.caload, 1) := by decide +kernel
theorem d_Signs_copy_29 : decode b_Signs_copy 29 = .ok (.invokevirtual 22, 3) := by decide +kernel
theorem d_Signs_copy_32 : decode b_Signs_copy 32 = .ok (.iinc 2 1, 3) := by decide +kernel
theorem d_Signs_copy_35 : decode b_Signs_copy 35 = .ok (.goto (-21), 3) := by decide +kernel
theorem d_Signs_copy_38 : decode b_Signs_copy 38 = .ok (.aload_n 1, 1) := by decide +kernel
theorem d_Signs_copy_39 : decode b_Signs_copy 39 = .ok (.areturn, 1) := by decide +kernel
theorem d_Signs_beginsWithPart_0 : decode b_Signs_beginsWithPart 0 = .ok (.iload_n 3, 1) := by decide +kernel
theorem d_Signs_beginsWithPart_1 : decode b_Signs_beginsWithPart 1 = .ok (.iload_n 2, 1) := by decide +kernel
theorem d_Signs_beginsWithPart_2 : decode b_Signs_beginsWithPart 2 = .ok (.isub, 1) := by decide +kernel
theorem d_Signs_beginsWithPart_3 : decode b_Signs_beginsWithPart 3 = .ok (.aload_n 0, 1) := by decide +kernel
theorem d_Signs_beginsWithPart_4 : decode b_Signs_beginsWithPart 4 = .ok (.getfield 15, 3) := by decide +kernel
theorem d_Signs_beginsWithPart_7 : decode b_Signs_beginsWithPart 7 = .ok (.if_icmp .le 5, 3) := by decide +kernel
theorem d_Signs_beginsWithPart_10 : decode b_Signs_beginsWithPart 10 = .ok (.iconst 0, 1) := by decide +kernel
theorem d_Signs_beginsWithPart_11 : decode b_Signs_beginsWithPart 11 = .ok (.ireturn, 1) := by decide +kernel
theorem d_Signs_beginsWithPart_12 : decode b_Signs_beginsWithPart 12 = .ok (.iload_n 2, 1) := by decide +kernel
theorem d_Signs_beginsWithPart_13 : decode b_Signs_beginsWithPart 13 = .ok (.istore 4, 2) := by decide +kernel
theorem d_Signs_beginsWithPart_15 : decode b_Signs_beginsWithPart 15 = .ok (.iload 4, 2) := by decide +kernel
theorem d_Signs_beginsWithPart_17 : decode b_Signs_beginsWithPart 17 = .ok (.iload_n 3, 1) := by decide +kernel
theorem d_Signs_beginsWithPart_18 : decode b_Signs_beginsWithPart 18 = .ok (.if_icmp .ge 28, 3) := by decide +kernel
theorem d_Signs_beginsWithPart_21 : decode b_Signs_beginsWithPart 21 = .ok (.aload_n 0, 1) := by decide +kernel
theorem d_Signs_beginsWithPart_22 : decode b_Signs_beginsWithPart 22 = .ok (.iload 4, 2) := by decide +kernel
theorem d_Signs_beginsWithPart_24 : decode b_Signs_beginsWithPart 24 = .ok (.iload_n 2, 1) := by decide +kernel
theorem d_Signs_beginsWithPart_25 : decode b_Signs_beginsWithPart 25 = .ok (.isub, 1) := by decide +kernel
theorem d_Signs_beginsWithPart_26 : decode b_Signs_beginsWithPart 26 = .ok (.invokevirtual 26, 3) := by decide +kernel
theorem d_Signs_beginsWithPart_29 : decode b_Signs_beginsWithPart 29 = .ok (.aload_n 1, 1) := by decide +kernel
theorem d_Signs_beginsWithPart_30 : decode b_Signs_beginsWithPart 30 = .ok (.iload 4, 2) := by decide +kernel
theorem d_Signs_beginsWithPart_32 : decode b_Signs_beginsWithPart 32 = .ok (.invokevirtual 26, 3) := by decide +kernel
theorem d_Signs_beginsWithPart_35 : decode b_Signs_beginsWithPart 35 = .ok (.if_icmp .eq 5, 3) := by decide +kernel
theorem d_Signs_beginsWithPart_38 : decode b_Signs_beginsWithPart 38 = .ok (.iconst 0, 1) := by decide +kernel
theorem d_Signs_beginsWithPart_39 : decode b_Signs_beginsWithPart 39 = .ok (.ireturn, 1) := by decide +kernel
theorem d_Signs_beginsWithPart_40 : decode b_Signs_beginsWithPart 40 = .ok (.iinc 4 1, 3) := by decide +kernel
theorem d_Signs_beginsWithPart_43 : decode b_Signs_beginsWithPart 43 = .ok (.goto (-28), 3) := by decide +kernel
theorem d_Signs_beginsWithPart_46 : decode b_Signs_beginsWithPart 46 = .ok (.iconst 1, 1) := by decide +kernel
theorem d_Signs_beginsWithPart_47 : decode b_Signs_beginsWithPart 47 = .ok (.ireturn, 1) := by decide +kernel
theorem d_Signs_isPart_0 : decode b_Signs_isPart 0 = .ok (.aload_n 0, 1) := by decide +kernel
theorem d_Signs_isPart_1 : decode b_Signs_isPart 1 = .ok (.getfield 15, 3) := by decide +kernel
theorem d_Signs_isPart_4 : decode b_Signs_isPart 4 = .ok (.iload_n 3, 1) := by decide +kernel
theorem d_Signs_isPart_5 : decode b_Signs_isPart 5 = .ok (.iload_n 2, 1) := by decide +kernel
theorem d_Signs_isPart_6 : decode b_Signs_isPart 6 = .ok (.isub, 1) := by decide +kernel
theorem d_Signs_isPart_7 : decode b_Signs_isPart 7 = .ok (.if_icmp .ne 17, 3) := by decide +kernel
theorem d_Signs_isPart_10 : decode b_Signs_isPart 10 = .ok (.aload_n 0, 1) := by decide +kernel
theorem d_Signs_isPart_11 : decode b_Signs_isPart 11 = .ok (.aload_n 1, 1) := by decide +kernel
theorem d_Signs_isPart_12 : decode b_Signs_isPart 12 = .ok (.iload_n 2, 1) := by decide +kernel
theorem d_Signs_isPart_13 : decode b_Signs_isPart 13 = .ok (.iload_n 3, 1) := by decide +kernel
theorem d_Signs_isPart_14 : decode b_Signs_isPart 14 = .ok (.invokevirtual 30, 3) := by decide +kernel
theorem d_Signs_isPart_17 : decode b_Signs_isPart 17 = .ok (.ifCond .eq 7, 3) := by decide +kernel
theorem d_Signs_isPart_20 : decode b_Signs_isPart 20 = .ok (.iconst 1, 1) := by decide +kernel
theorem d_Signs_isPart_21 : decode b_Signs_isPart 21 = .ok (.goto 4, 3) := by decide +kernel
theorem d_Signs_isPart_24 : decode b_Signs_isPart 24 = .ok (.iconst 0, 1) := by decide +kernel
theorem d_Signs_isPart_25 : decode b_Signs_isPart 25 = .ok (.ireturn, 1) := by decide +kernel
set_option maxHeartbeats 4000000 in
set_option maxRecDepth 100000 in
/-- length() -/
theorem c_Signs_length (G : GG) (l : Launch) (sz : Nat) (f : Wd) {a r cap n : Nat} {t : Nat → Int32} (h : sg G f a r cap n t) : Ci G l y_Signs_length b_Signs_length 1 (some .int) ({ frames := 0, cells := 0, slots := 0, locals := 0 }) sz f [.ref a] (fun v f' => f = f' ∧ v = nI n) := by
  refine ct_of (by decide) (Nat.le_of_ble_eq_true rfl) ?_
  intro p e s m below meth c ls H locs hEn
  obtain ⟨hc, hr, hlk, hin, hE, hw, hsz, hl⟩ := hEn
  have hx := hc.1
  have hb := hc.2.1
  have hl : lv_has ls 1 [(0, .ref a)] := hl
  obtain ⟨ha, hrw, hn, hcap, hch⟩ := h
  refine lv_aload_n hx hb d_Signs_length_0 rfl (lv_at hl 0 rfl) ?_
  refine m_get hc hE hw ha kc_Signs l_Signs_15_Signs rfl d_Signs_length_1 ?_
  exact m_iret hc hr hlk hw ⟨by first | decide | (dsimp only; omega), by first | decide | (dsimp only; omega)⟩ d_Signs_length_4 ⟨rfl, rfl⟩

set_option maxHeartbeats 4000000 in
set_option maxRecDepth 100000 in
/-- at(i) -/
theorem c_Signs_at (G : GG) (l : Launch) (sz : Nat) (f : Wd) {a r cap n : Nat} {t : Nat → Int32} (h : sg G f a r cap n t) (i : Int32) : Ci G l y_Signs_at b_Signs_at 2 (some .int) ({ frames := 0, cells := 0, slots := 0, locals := 0 }) sz f [.ref a, .int i] (fun v f' => f = f' ∧ v = atv n t i) := by
  refine ct_of (by decide) (Nat.le_of_ble_eq_true rfl) ?_
  intro p e s m below meth c ls H locs hEn
  obtain ⟨hc, hr, hlk, hin, hE, hw, hsz, hl⟩ := hEn
  have hx := hc.1
  have hb := hc.2.1
  have hl : lv_has ls 2 [(0, .ref a), (1, .int i)] := hl
  obtain ⟨ha, hrw, hn, hcap, hch⟩ := h
  refine lv_iload_n hx hb d_Signs_at_0 rfl (lv_at hl 1 rfl) ?_
  refine lv_if_lt (tgt := 21) hx hb d_Signs_at_1 (by decide) (fun c1 => ?_) (fun c1 => ?_)
  · refine lv_iconst (v := (-1)) hx hb d_Signs_at_21 (by decide) ?_
    exact m_iret hc hr hlk hw ⟨by first | decide | (dsimp only; omega), by first | decide | (dsimp only; omega)⟩ d_Signs_at_22 ⟨rfl, (atv_lo c1).symm⟩
  · refine lv_iload_n hx hb d_Signs_at_4 rfl (lv_at hl 1 rfl) ?_
    refine lv_aload_n hx hb d_Signs_at_5 rfl (lv_at hl 0 rfl) ?_
    refine m_get hc hE hw ha kc_Signs l_Signs_15_Signs rfl d_Signs_at_6 ?_
    refine lv_icmp_ge (tgt := 21) hx hb d_Signs_at_9 (by decide) (fun c2 => ?_) (fun c2 => ?_)
    · refine lv_iconst (v := (-1)) hx hb d_Signs_at_21 (by decide) ?_
      exact m_iret hc hr hlk hw ⟨by first | decide | (dsimp only; omega), by first | decide | (dsimp only; omega)⟩ d_Signs_at_22 ⟨rfl, (atv_hi c2).symm⟩
    · refine lv_aload_n hx hb d_Signs_at_12 rfl (lv_at hl 0 rfl) ?_
      refine m_get hc hE hw ha kc_Signs l_Signs_9_Signs rfl d_Signs_at_13 ?_
      refine lv_iload_n hx hb d_Signs_at_16 rfl (lv_at hl 1 rfl) ?_
      refine m_cald hc hE hw 1 hrw rfl (vin c1 c2 hn (by omega)) d_Signs_at_17 ?_
      refine lv_goto (tgt := 22) hx hb d_Signs_at_18 (by decide) ?_
      exact m_iret hc hr hlk hw ⟨by first | decide | (dsimp only; omega), by first | decide | (dsimp only; omega)⟩ d_Signs_at_22 ⟨rfl, (atv_ok c1 c2).symm⟩

set_option maxHeartbeats 4000000 in
set_option maxRecDepth 100000 in
/-- hasRoomFor(i) -/
theorem c_Signs_hasRoomFor (G : GG) (l : Launch) (sz : Nat) (f : Wd) {a r cap n : Nat} {t : Nat → Int32} (h : sg G f a r cap n t) (i : Int32) : Ci G l y_Signs_hasRoomFor b_Signs_hasRoomFor 2 (some .boolean) ({ frames := 0, cells := 0, slots := 0, locals := 0 }) sz f [.ref a, .int i] (fun v f' => f = f' ∧ v = bI (i ≤ nI cap - nI n)) := by
  refine ct_of (by decide) (Nat.le_of_ble_eq_true rfl) ?_
  intro p e s m below meth c ls H locs hEn
  obtain ⟨hc, hr, hlk, hin, hE, hw, hsz, hl⟩ := hEn
  have hx := hc.1
  have hb := hc.2.1
  have hl : lv_has ls 2 [(0, .ref a), (1, .int i)] := hl
  obtain ⟨ha, hrw, hn, hcap, hch⟩ := h
  refine lv_iload_n hx hb d_Signs_hasRoomFor_0 rfl (lv_at hl 1 rfl) ?_
  refine lv_aload_n hx hb d_Signs_hasRoomFor_1 rfl (lv_at hl 0 rfl) ?_
  refine m_get hc hE hw ha kc_Signs l_Signs_9_Signs rfl d_Signs_hasRoomFor_2 ?_
  refine m_alen hc hE hw 1 hrw rfl d_Signs_hasRoomFor_5 ?_
  refine lv_aload_n hx hb d_Signs_hasRoomFor_6 rfl (lv_at hl 0 rfl) ?_
  refine m_get hc hE hw ha kc_Signs l_Signs_15_Signs rfl d_Signs_hasRoomFor_7 ?_
  refine lv_isub hx hb d_Signs_hasRoomFor_10 ?_
  refine lv_icmp_gt (tgt := 18) hx hb d_Signs_hasRoomFor_11 (by decide) (fun c1 => ?_) (fun c1 => ?_)
  · refine lv_iconst (v := 0) hx hb d_Signs_hasRoomFor_18 (by decide) ?_
    exact m_zret hc hr hlk hw ⟨by first | decide | (dsimp only; omega), by first | decide | (dsimp only; omega)⟩ d_Signs_hasRoomFor_19 (by decide) ⟨rfl, (bI_f (Int32.not_le.mpr c1)).symm⟩
  · refine lv_iconst (v := 1) hx hb d_Signs_hasRoomFor_14 (by decide) ?_
    refine lv_goto (tgt := 19) hx hb d_Signs_hasRoomFor_15 (by decide) ?_
    exact m_zret hc hr hlk hw ⟨by first | decide | (dsimp only; omega), by first | decide | (dsimp only; omega)⟩ d_Signs_hasRoomFor_19 (by decide) ⟨rfl, (bI_t (Int32.not_lt.mp c1)).symm⟩

set_option maxHeartbeats 4000000 in
set_option maxRecDepth 100000 in
/-- append(i) -/
theorem c_Signs_append (G : GG) (l : Launch) (sz : Nat) (f : Wd) {a r cap n : Nat} {t : Nat → Int32} (h : sg G f a r cap n t) (i : Int32) : Cv G l y_Signs_append b_Signs_append 2 none ({ frames := 0, cells := 0, slots := 0, locals := 0 }) sz f [.ref a, .int i] (fun f' => (n < cap → f' = va_up (va_up f r (some (.inl (G.2.1 1, cap, .inl (upd t n (vp_nar .char i)))))) a (some (.inr (1, [.ref r, .int (nI (n + 1))])))) ∧ (¬ n < cap → f' = f)) := by
  refine ct_of (by decide) (Nat.le_of_ble_eq_true rfl) ?_
  intro p e s m below meth c ls H locs hEn
  obtain ⟨hc, hr, hlk, hin, hE, hw, hsz, hl⟩ := hEn
  have hx := hc.1
  have hb := hc.2.1
  have hl : lv_has ls 2 [(0, .ref a), (1, .int i)] := hl
  obtain ⟨ha, hrw, hn, hcap, hch⟩ := h
  refine lv_aload_n hx hb d_Signs_append_0 rfl (lv_at hl 0 rfl) ?_
  refine m_get hc hE hw ha kc_Signs l_Signs_15_Signs rfl d_Signs_append_1 ?_
  refine lv_aload_n hx hb d_Signs_append_4 rfl (lv_at hl 0 rfl) ?_
  refine m_get hc hE hw ha kc_Signs l_Signs_9_Signs rfl d_Signs_append_5 ?_
  refine m_alen hc hE hw 1 hrw rfl d_Signs_append_8 ?_
  refine lv_icmp_ge (tgt := 32) hx hb d_Signs_append_9 (by decide) (fun c1 => ?_) (fun c1 => ?_)
  · exact m_vret hc hr hlk hw ⟨by first | decide | (dsimp only; omega), by first | decide | (dsimp only; omega)⟩ d_Signs_append_32 ⟨fun z => absurd ((nI_leI (by omega) (by omega)).mp c1) (by omega), fun _ => rfl⟩
  · refine lv_aload_n hx hb d_Signs_append_12 rfl (lv_at hl 0 rfl) ?_
    refine m_get hc hE hw ha kc_Signs l_Signs_9_Signs rfl d_Signs_append_13 ?_
    refine lv_aload_n hx hb d_Signs_append_16 rfl (lv_at hl 0 rfl) ?_
    refine m_get hc hE hw ha kc_Signs l_Signs_15_Signs rfl d_Signs_append_17 ?_
    refine lv_iload_n hx hb d_Signs_append_20 rfl (lv_at hl 1 rfl) ?_
    refine m_cast hc hE hw 1 hrw rfl (vp_in_nI (Nat.not_le.mp (fun z => c1 (nI_le z (by omega)))) (by omega)) d_Signs_append_21 (fun H locs hw => ?_)
    obtain ⟨f2, ef2⟩ : ∃ z : Wd, z = va_up f r (some (.inl (G.2.1 1, cap, .inl (upd t (nI n).toNatClampNeg (vp_nar .char i))))) := ⟨_, rfl⟩
    replace hw : ms G.1 (Af f sz) f2 s H locs := by rw [ef2]; exact hw
    have h3 : f2 a = some (.inr (1, [.ref r, .int (nI n)])) := by rw [ef2, va_up_ne _ _ (wne ha hrw wd_oa)]; exact ha
    have h4 : f2 r = some (.inl (G.2.1 1, cap, .inl (upd t (nI n).toNatClampNeg (vp_nar .char i)))) := by rw [ef2, va_up_self]
    refine lv_aload_n hx hb d_Signs_append_22 rfl (lv_at hl 0 rfl) ?_
    refine lv_dup hx hb d_Signs_append_23 rfl ?_
    refine m_get hc hE hw h3 kc_Signs l_Signs_15_Signs rfl d_Signs_append_24 ?_
    refine lv_iconst (v := 1) hx hb d_Signs_append_27 (by decide) ?_
    refine lv_iadd hx hb d_Signs_append_28 ?_
    refine m_put hc hE hw h3 kc_Signs l_Signs_15_Signs rfl ds_Signs_1 rfl rfl (Nat.le_of_ble_eq_true rfl) d_Signs_append_29 (fun H locs hw => ?_)
    obtain ⟨f5, ef5⟩ : ∃ z : Wd, z = va_up f2 a (some (.inr (1, [.ref r, .int ((nI n) + 1)]))) := ⟨_, rfl⟩
    replace hw : ms G.1 (Af f sz) f5 s H locs := by rw [ef5]; exact hw
    have h6 : f5 r = some (.inl (G.2.1 1, cap, .inl (upd t (nI n).toNatClampNeg (vp_nar .char i)))) := by rw [ef5, va_up_ne _ _ (wne h4 h3 wd_ao)]; exact h4
    have h7 : f5 a = some (.inr (1, [.ref r, .int ((nI n) + 1)])) := by rw [ef5, va_up_self]
    have hlt : n < cap := Nat.not_le.mp (fun z => c1 (nI_le z (by omega)))
    exact m_vret hc hr hlk hw ⟨by first | decide | (dsimp only; omega), by first | decide | (dsimp only; omega)⟩ d_Signs_append_32 ⟨fun _ => by rw [ef5, ef2, nI_clamp (by omega), nI_1], fun z => absurd hlt z⟩

set_option maxHeartbeats 4000000 in
set_option maxRecDepth 100000 in
/-- takeAll() -/
theorem c_Signs_takeAll (G : GG) (l : Launch) (sz : Nat) (f : Wd) {a r cap n : Nat} {t : Nat → Int32} (h : sg G f a r cap n t) : Ci G l y_Signs_takeAll b_Signs_takeAll 2 (some .int) ({ frames := 0, cells := 0, slots := 0, locals := 0 }) sz f [.ref a] (fun v f' => v = nI n ∧ f' = va_up f a (some (.inr (1, [.ref r, .int 0])))) := by
  refine ct_of (by decide) (Nat.le_of_ble_eq_true rfl) ?_
  intro p e s m below meth c ls H locs hEn
  obtain ⟨hc, hr, hlk, hin, hE, hw, hsz, hl⟩ := hEn
  have hx := hc.1
  have hb := hc.2.1
  have hl : lv_has ls 2 [(0, .ref a)] := hl
  obtain ⟨ha, hrw, hn, hcap, hch⟩ := h
  refine lv_aload_n hx hb d_Signs_takeAll_0 rfl (lv_at hl 0 rfl) ?_
  refine m_get hc hE hw ha kc_Signs l_Signs_15_Signs rfl d_Signs_takeAll_1 ?_
  refine lv_istore_n (lv' := [(1, .int (nI n)), (0, .ref a)]) hx hb d_Signs_takeAll_4 rfl hl (by decide) rfl (fun ls hl => ?_)
  refine lv_aload_n hx hb d_Signs_takeAll_5 rfl (lv_at hl 1 rfl) ?_
  refine lv_iconst (v := 0) hx hb d_Signs_takeAll_6 (by decide) ?_
  refine m_put hc hE hw ha kc_Signs l_Signs_15_Signs rfl ds_Signs_1 rfl rfl (Nat.le_of_ble_eq_true rfl) d_Signs_takeAll_7 (fun H locs hw => ?_)
  obtain ⟨f1, ef1⟩ : ∃ z : Wd, z = va_up f a (some (.inr (1, [.ref r, .int 0]))) := ⟨_, rfl⟩
  replace hw : ms G.1 (Af f sz) f1 s H locs := by rw [ef1]; exact hw
  have h2 : f1 r = some (.inl (G.2.1 1, cap, .inl t)) := by rw [ef1, va_up_ne _ _ (wne hrw ha wd_ao)]; exact hrw
  have h3 : f1 a = some (.inr (1, [.ref r, .int 0])) := by rw [ef1, va_up_self]
  refine lv_iload_n hx hb d_Signs_takeAll_10 rfl (lv_at hl 0 rfl) ?_
  exact m_iret hc hr hlk hw ⟨by first | decide | (dsimp only; omega), by first | decide | (dsimp only; omega)⟩ d_Signs_takeAll_11 ⟨rfl, ef1⟩

set_option maxHeartbeats 4000000 in
set_option maxRecDepth 100000 in
/-- find(x, i0, i1) -/
theorem c_Signs_find (G : GG) (l : Launch) (sz : Nat) (f : Wd) {a r cap n : Nat} {t : Nat → Int32} (h : sg G f a r cap n t) (x : Int32) {i0 i1 : Nat} (h1 : i0 ≤ i1) (h2 : i1 ≤ n) : Ci G l y_Signs_find b_Signs_find 5 (some .int) ({ frames := 1, cells := 0, slots := 0, locals := 21 }) sz f [.ref a, .int x, .int (nI i0), .int (nI i1)] (fun v f' => f = f' ∧ v = nI (fnd t x (i1 - i0) i0)) := by
  refine ct_of (by decide) (Nat.le_of_ble_eq_true rfl) ?_
  intro p e s m below meth c ls H locs hEn
  obtain ⟨hc, hr, hlk, hin, hE, hw, hsz, hl⟩ := hEn
  have hx := hc.1
  have hb := hc.2.1
  have hl : lv_has ls 5 [(0, .ref a), (1, .int x), (2, .int (nI i0)), (3, .int (nI i1))] := hl
  obtain ⟨ha, hrw, hn, hcap, hch⟩ := h
  have loop : ∀ (fu : Nat) (i : Nat) (ls : Array Slot) (H : Heap) (locs : List Loc), i1 - i < fu → i0 ≤ i → i ≤ i1 → (∀ j, i0 ≤ j → j < i → ¬ t j = x) → ms G.1 (Af f sz) f s H locs → lv_has ls 5 [(4, .int (nI i)), (0, .ref a), (1, .int x), (2, .int (nI i0)), (3, .int (nI i1))] → W p l e ({ frames := 1, cells := 0, slots := 0, locals := 21 }) s m ([.ref a, .int x, .int (nI i0), .int (nI i1)] : List Value).toArray below meth c H locs 0 0 (MQ below (va_Qi (fun v f' => f = f' ∧ v = nI (fnd t x (i1 - i0) i0)) (Bw G f sz) (Af f sz)) ([.ref a, .int x, .int (nI i0), .int (nI i1)] : List Value).toArray s 0 0 (Af f sz)) (F0 m 3 ls []) := by
    intro fu
    induction fu with
    | zero => intro i ls H locs h0; exact absurd h0 (Nat.not_lt_zero _)
    | succ fu ih =>
      intro i ls H locs hfu hi1 hi2 hm hw hl
      have hb1 : i1 ≤ 90 := by omega
      refine lv_iload hx hb d_Signs_find_3 (lv_at hl 0 rfl) ?_
      refine lv_iload_n hx hb d_Signs_find_5 rfl (lv_at hl 4 rfl) ?_
      refine lv_icmp_ge (tgt := 28) hx hb d_Signs_find_6 (by decide) (fun c1 => ?_) (fun c1 => ?_)
      · refine lv_iload_n hx hb d_Signs_find_28 rfl (lv_at hl 4 rfl) ?_
        exact m_iret hc hr hlk hw ⟨by first | decide | (dsimp only; omega), by first | decide | (dsimp only; omega)⟩ d_Signs_find_29 ⟨rfl, congrArg nI (fnd_eq h1 (Nat.le_refl _) (fun j q1 q2 => hm j q1 (by have := (nI_leI (by omega) (by omega)).mp c1; omega)) (fun z => absurd z (Nat.lt_irrefl _))).symm⟩
      · refine lv_aload_n hx hb d_Signs_find_9 rfl (lv_at hl 1 rfl) ?_
        refine lv_iload hx hb d_Signs_find_10 (lv_at hl 0 rfl) ?_
        refine m_calli hw (m_runV (As := [.int (nI i)]) (rest := []) hc hE hw (c_Signs_at G l H.size f ⟨ha, hrw, hn, hcap, hch⟩ (nI i)) ha rfl cw_Signs_26 se_Signs_at rfl hl.1 rfl (Nat.le_of_ble_eq_true rfl) d_Signs_find_12 ⟨rfl, rfl, by decide, by decide⟩ ⟨by first | decide | (dsimp only; omega), by first | decide | (dsimp only; omega)⟩) (fun r4 g3 H locs p2 hw => ?_)
        obtain ⟨rfl, p2⟩ := p2
        refine lv_iload_n hx hb d_Signs_find_15 rfl (lv_at hl 2 rfl) ?_
        refine lv_icmp_ne (tgt := 22) hx hb d_Signs_find_16 (by decide) (fun c5 => ?_) (fun c5 => ?_)
        · refine lv_iinc (v := (nI (i + 1))) (lv' := [(4, .int (nI (i + 1))), (0, .ref a), (1, .int x), (2, .int (nI i0)), (3, .int (nI i1))]) hx hb d_Signs_find_22 hl (k := 0) rfl (nI_1 _) (by decide) rfl (fun ls hl => ?_)
          refine lv_goto (tgt := 3) hx hb d_Signs_find_25 (by decide) ?_
          have hlt : i < i1 := Nat.not_le.mp (fun z => c1 (nI_le z (by omega)))
          have hne : ¬ t i = x := fun z => c5 (by rw [p2, atv_in (by omega) (by omega)]; exact z)
          exact ih (i + 1) ls H locs (by omega) (by omega) (by omega) (fun j q1 q2 => by rcases Nat.lt_or_ge j i with q | q; exact hm j q1 q; exact (show j = i by omega) ▸ hne) hw (lv_sub hl [0, 1, 2, 3, 4] rfl)
        · refine lv_iload hx hb d_Signs_find_19 (lv_at hl 0 rfl) ?_
          have hlt : i < i1 := Nat.not_le.mp (fun z => c1 (nI_le z (by omega)))
          exact m_iret hc hr hlk hw ⟨by first | decide | (dsimp only; omega), by first | decide | (dsimp only; omega)⟩ d_Signs_find_21 ⟨rfl, congrArg nI (fnd_eq hi1 hi2 hm (fun _ => by rw [← c5, p2, atv_in (by omega) (by omega)])).symm⟩
  refine lv_iload_n hx hb d_Signs_find_0 rfl (lv_at hl 2 rfl) ?_
  refine lv_istore (lv' := [(4, .int (nI i0)), (0, .ref a), (1, .int x), (2, .int (nI i0)), (3, .int (nI i1))]) hx hb d_Signs_find_1 hl (by decide) rfl (fun ls hl => ?_)
  exact loop (i1 - i0 + 1) i0 ls H locs (by omega) (Nat.le_refl _) h1 (fun j q1 q2 => absurd q2 (by omega)) hw (lv_sub hl [0, 1, 2, 3, 4] rfl)

set_option maxHeartbeats 4000000 in
set_option maxRecDepth 100000 in
/-- beginsWithPart(o, i0, i1) -/
theorem c_Signs_beginsWithPart (G : GG) (l : Launch) (sz : Nat) (f : Wd) {a r cap n : Nat} {t : Nat → Int32} (h : sg G f a r cap n t) {a2 r2 cap2 n2 : Nat} {t2 : Nat → Int32} (hh : sg G f a2 r2 cap2 n2 t2) {i0 i1 : Nat} (h1 : i0 ≤ i1) (h2 : i1 ≤ n2) : Ci G l y_Signs_beginsWithPart b_Signs_beginsWithPart 5 (some .boolean) ({ frames := 1, cells := 0, slots := 0, locals := 21 }) sz f [.ref a, .ref a2, .int (nI i0), .int (nI i1)] (fun v f' => f = f' ∧ v = bI (i1 - i0 ≤ n ∧ ∀ j, j < i1 - i0 → t j = t2 (i0 + j))) := by
  refine ct_of (by decide) (Nat.le_of_ble_eq_true rfl) ?_
  intro p e s m below meth c ls H locs hEn
  obtain ⟨hc, hr, hlk, hin, hE, hw, hsz, hl⟩ := hEn
  have hx := hc.1
  have hb := hc.2.1
  have hl : lv_has ls 5 [(0, .ref a), (1, .ref a2), (2, .int (nI i0)), (3, .int (nI i1))] := hl
  obtain ⟨ha, hrw, hn, hcap, hch⟩ := h
  obtain ⟨hga, hgr, hgn, hgcap, hgch⟩ := hh
  have loop : ∀ (fu : Nat) (i : Nat) (ls : Array Slot) (H : Heap) (locs : List Loc), i1 - i < fu → i0 ≤ i → i ≤ i1 → i1 - i0 ≤ n → (∀ j, j < i - i0 → t j = t2 (i0 + j)) → ms G.1 (Af f sz) f s H locs → lv_has ls 5 [(4, .int (nI i)), (0, .ref a), (1, .ref a2), (2, .int (nI i0)), (3, .int (nI i1))] → W p l e ({ frames := 1, cells := 0, slots := 0, locals := 21 }) s m ([.ref a, .ref a2, .int (nI i0), .int (nI i1)] : List Value).toArray below meth c H locs 0 0 (MQ below (va_Qi (fun v f' => f = f' ∧ v = bI (i1 - i0 ≤ n ∧ ∀ j, j < i1 - i0 → t j = t2 (i0 + j))) (Bw G f sz) (Af f sz)) ([.ref a, .ref a2, .int (nI i0), .int (nI i1)] : List Value).toArray s 0 0 (Af f sz)) (F0 m 15 ls []) := by
    intro fu
    induction fu with
    | zero => intro i ls H locs h0; exact absurd h0 (Nat.not_lt_zero _)
    | succ fu ih =>
      intro i ls H locs hfu hi1 hi2 hle hm hw hl
      have hb1 : i1 ≤ 90 := by omega
      refine lv_iload hx hb d_Signs_beginsWithPart_15 (lv_at hl 0 rfl) ?_
      refine lv_iload_n hx hb d_Signs_beginsWithPart_17 rfl (lv_at hl 4 rfl) ?_
      refine lv_icmp_ge (tgt := 46) hx hb d_Signs_beginsWithPart_18 (by decide) (fun c1 => ?_) (fun c1 => ?_)
      · refine lv_iconst (v := 1) hx hb d_Signs_beginsWithPart_46 (by decide) ?_
        exact m_zret hc hr hlk hw ⟨by first | decide | (dsimp only; omega), by first | decide | (dsimp only; omega)⟩ d_Signs_beginsWithPart_47 (by decide) ⟨rfl, (bI_t ⟨hle, fun j q => hm j (by have := (nI_leI (by omega) (by omega)).mp c1; omega)⟩).symm⟩
      · refine lv_aload_n hx hb d_Signs_beginsWithPart_21 rfl (lv_at hl 1 rfl) ?_
        refine lv_iload hx hb d_Signs_beginsWithPart_22 (lv_at hl 0 rfl) ?_
        refine lv_iload_n hx hb d_Signs_beginsWithPart_24 rfl (lv_at hl 3 rfl) ?_
        refine lv_isub hx hb d_Signs_beginsWithPart_25 ?_
        refine m_top (y := (nI (i - i0))) (pk_sub hi1) ?_
        refine m_calli hw (m_runV (As := [.int (nI (i - i0))]) (rest := []) hc hE hw (c_Signs_at G l H.size f ⟨ha, hrw, hn, hcap, hch⟩ (nI (i - i0))) ha rfl cw_Signs_26 se_Signs_at rfl hl.1 rfl (Nat.le_of_ble_eq_true rfl) d_Signs_beginsWithPart_26 ⟨rfl, rfl, by decide, by decide⟩ ⟨by first | decide | (dsimp only; omega), by first | decide | (dsimp only; omega)⟩) (fun r4 g3 H locs p2 hw => ?_)
        obtain ⟨rfl, p2⟩ := p2
        refine lv_aload_n hx hb d_Signs_beginsWithPart_29 rfl (lv_at hl 2 rfl) ?_
        refine lv_iload hx hb d_Signs_beginsWithPart_30 (lv_at hl 0 rfl) ?_
        refine m_calli hw (m_runV (As := [.int (nI i)]) (rest := [.int r4]) hc hE hw (c_Signs_at G l H.size f ⟨hga, hgr, hgn, hgcap, hgch⟩ (nI i)) hga rfl cw_Signs_26 se_Signs_at rfl hl.1 rfl (Nat.le_of_ble_eq_true rfl) d_Signs_beginsWithPart_32 ⟨rfl, rfl, by decide, by decide⟩ ⟨by first | decide | (dsimp only; omega), by first | decide | (dsimp only; omega)⟩) (fun r7 g6 H locs p5 hw => ?_)
        obtain ⟨rfl, p5⟩ := p5
        refine lv_icmp_eq (tgt := 40) hx hb d_Signs_beginsWithPart_35 (by decide) (fun c8 => ?_) (fun c8 => ?_)
        · refine lv_iinc (v := (nI (i + 1))) (lv' := [(4, .int (nI (i + 1))), (0, .ref a), (1, .ref a2), (2, .int (nI i0)), (3, .int (nI i1))]) hx hb d_Signs_beginsWithPart_40 hl (k := 0) rfl (nI_1 _) (by decide) rfl (fun ls hl => ?_)
          refine lv_goto (tgt := 15) hx hb d_Signs_beginsWithPart_43 (by decide) ?_
          have hlt : i < i1 := Nat.not_le.mp (fun z => c1 (nI_le z (by omega)))
          have heq : t (i - i0) = t2 i := by have z := c8; rw [p2, p5, atv_in (by omega) (by omega), atv_in (by omega) (by omega)] at z; exact z
          exact ih (i + 1) ls H locs (by omega) (by omega) (by omega) hle (fun j q => by rcases Nat.lt_or_ge j (i - i0) with q1 | q1; exact hm j q1; rw [show j = i - i0 by omega, heq, show i0 + (i - i0) = i by omega]) hw (lv_sub hl [0, 1, 2, 3, 4] rfl)
        · refine lv_iconst (v := 0) hx hb d_Signs_beginsWithPart_38 (by decide) ?_
          have hlt : i < i1 := Nat.not_le.mp (fun z => c1 (nI_le z (by omega)))
          have hne : ¬ t (i - i0) = t2 i := fun z => c8 (by rw [p2, p5, atv_in (by omega) (by omega), atv_in (by omega) (by omega)]; exact z)
          exact m_zret hc hr hlk hw ⟨by first | decide | (dsimp only; omega), by first | decide | (dsimp only; omega)⟩ d_Signs_beginsWithPart_39 (by decide) ⟨rfl, (bI_f (fun z => hne (by have := z.2 (i - i0) (by omega); rw [show i0 + (i - i0) = i by omega] at this; exact this))).symm⟩
  refine lv_iload_n hx hb d_Signs_beginsWithPart_0 rfl (lv_at hl 3 rfl) ?_
  refine lv_iload_n hx hb d_Signs_beginsWithPart_1 rfl (lv_at hl 2 rfl) ?_
  refine lv_isub hx hb d_Signs_beginsWithPart_2 ?_
  refine m_top (y := (nI (i1 - i0))) (pk_sub h1) ?_
  refine lv_aload_n hx hb d_Signs_beginsWithPart_3 rfl (lv_at hl 0 rfl) ?_
  refine m_get hc hE hw ha kc_Signs l_Signs_15_Signs rfl d_Signs_beginsWithPart_4 ?_
  refine lv_icmp_le (tgt := 12) hx hb d_Signs_beginsWithPart_7 (by decide) (fun c9 => ?_) (fun c9 => ?_)
  · refine lv_iload_n hx hb d_Signs_beginsWithPart_12 rfl (lv_at hl 2 rfl) ?_
    refine lv_istore (lv' := [(4, .int (nI i0)), (0, .ref a), (1, .ref a2), (2, .int (nI i0)), (3, .int (nI i1))]) hx hb d_Signs_beginsWithPart_13 hl (by decide) rfl (fun ls hl => ?_)
    exact loop (i1 - i0 + 1) i0 ls H locs (by omega) (Nat.le_refl _) h1 ((nI_leI (by omega) (by omega)).mp c9) (fun j q => absurd q (by omega)) hw (lv_sub hl [0, 1, 2, 3, 4] rfl)
  · refine lv_iconst (v := 0) hx hb d_Signs_beginsWithPart_10 (by decide) ?_
    exact m_zret hc hr hlk hw ⟨by first | decide | (dsimp only; omega), by first | decide | (dsimp only; omega)⟩ d_Signs_beginsWithPart_11 (by decide) ⟨rfl, (bI_f (fun z => c9 (nI_le z.1 (by omega)))).symm⟩

set_option maxHeartbeats 4000000 in
set_option maxRecDepth 100000 in
/-- isPart(o, i0, i1) -/
theorem c_Signs_isPart (G : GG) (l : Launch) (sz : Nat) (f : Wd) {a r cap n : Nat} {t : Nat → Int32} (h : sg G f a r cap n t) {a2 r2 cap2 n2 : Nat} {t2 : Nat → Int32} (hh : sg G f a2 r2 cap2 n2 t2) {i0 i1 : Nat} (h1 : i0 ≤ i1) (h2 : i1 ≤ n2) : Ci G l y_Signs_isPart b_Signs_isPart 4 (some .boolean) ({ frames := 2, cells := 0, slots := 0, locals := 45 }) sz f [.ref a, .ref a2, .int (nI i0), .int (nI i1)] (fun v f' => f = f' ∧ v = bI (n = i1 - i0 ∧ ∀ j, j < n → t j = t2 (i0 + j))) := by
  refine ct_of (by decide) (Nat.le_of_ble_eq_true rfl) ?_
  intro p e s m below meth c ls H locs hEn
  obtain ⟨hc, hr, hlk, hin, hE, hw, hsz, hl⟩ := hEn
  have hx := hc.1
  have hb := hc.2.1
  have hl : lv_has ls 4 [(0, .ref a), (1, .ref a2), (2, .int (nI i0)), (3, .int (nI i1))] := hl
  obtain ⟨ha, hrw, hn, hcap, hch⟩ := h
  obtain ⟨hga, hgr, hgn, hgcap, hgch⟩ := hh
  refine lv_aload_n hx hb d_Signs_isPart_0 rfl (lv_at hl 0 rfl) ?_
  refine m_get hc hE hw ha kc_Signs l_Signs_15_Signs rfl d_Signs_isPart_1 ?_
  refine lv_iload_n hx hb d_Signs_isPart_4 rfl (lv_at hl 3 rfl) ?_
  refine lv_iload_n hx hb d_Signs_isPart_5 rfl (lv_at hl 2 rfl) ?_
  refine lv_isub hx hb d_Signs_isPart_6 ?_
  refine m_top (y := (nI (i1 - i0))) (pk_sub h1) ?_
  refine lv_icmp_ne (tgt := 24) hx hb d_Signs_isPart_7 (by decide) (fun c1 => ?_) (fun c1 => ?_)
  · refine lv_iconst (v := 0) hx hb d_Signs_isPart_24 (by decide) ?_
    exact m_zret hc hr hlk hw ⟨by first | decide | (dsimp only; omega), by first | decide | (dsimp only; omega)⟩ d_Signs_isPart_25 (by decide) ⟨rfl, (bI_f (fun z => c1 (congrArg nI z.1))).symm⟩
  · refine lv_aload_n hx hb d_Signs_isPart_10 rfl (lv_at hl 0 rfl) ?_
    refine lv_aload_n hx hb d_Signs_isPart_11 rfl (lv_at hl 1 rfl) ?_
    refine lv_iload_n hx hb d_Signs_isPart_12 rfl (lv_at hl 2 rfl) ?_
    refine lv_iload_n hx hb d_Signs_isPart_13 rfl (lv_at hl 3 rfl) ?_
    refine m_calli hw (m_runV (As := [.ref a2, .int (nI i0), .int (nI i1)]) (rest := []) hc hE hw (c_Signs_beginsWithPart G l H.size f ⟨ha, hrw, hn, hcap, hch⟩ ⟨hga, hgr, hgn, hgcap, hgch⟩ h1 h2) ha rfl cw_Signs_30 se_Signs_beginsWithPart rfl hl.1 rfl (Nat.le_of_ble_eq_true rfl) d_Signs_isPart_14 ⟨rfl, rfl, by decide, by decide⟩ ⟨by first | decide | (dsimp only; omega), by first | decide | (dsimp only; omega)⟩) (fun r4 g3 H locs p2 hw => ?_)
    obtain ⟨rfl, p2⟩ := p2
    refine lv_if_eq (tgt := 24) hx hb d_Signs_isPart_17 (by decide) (fun c5 => ?_) (fun c5 => ?_)
    · refine lv_iconst (v := 0) hx hb d_Signs_isPart_24 (by decide) ?_
      exact m_zret hc hr hlk hw ⟨by first | decide | (dsimp only; omega), by first | decide | (dsimp only; omega)⟩ d_Signs_isPart_25 (by decide) ⟨rfl, (bI_f (fun z => (bI_0.mp (p2.symm.trans c5)) ⟨by omega, fun j q => z.2 j (by omega)⟩)).symm⟩
    · refine lv_iconst (v := 1) hx hb d_Signs_isPart_20 (by decide) ?_
      refine lv_goto (tgt := 25) hx hb d_Signs_isPart_21 (by decide) ?_
      have hq := bI_n.mp (fun z => c5 (p2.trans z))
      have hnn : n = i1 - i0 := (nI_eq (by omega) (by omega)).mp c1
      exact m_zret hc hr hlk hw ⟨by first | decide | (dsimp only; omega), by first | decide | (dsimp only; omega)⟩ d_Signs_isPart_25 (by decide) ⟨rfl, (bI_t ⟨hnn, fun j q => hq.2 j (by omega)⟩).symm⟩

set_option maxHeartbeats 4000000 in
set_option maxRecDepth 100000 in
/-- Signs(N) -/
theorem c_Signs_init (G : GG) (l : Launch) (sz : Nat) (f : Wd) {a : Nat} (ha : f a = some (.inr (1, [.null, .int 0]))) {N : Nat} (hN : N ≤ 90) : Cv G l y_Signs_init b_Signs_init 2 none ({ frames := 1, cells := 1, slots := 90, locals := 12 }) sz f [.ref a, .int (nI N)] (fun f' => ∃ q : Nat, f q = none ∧ f' = va_up (va_up f q (some (.inl (G.2.1 1, N, .inl (fun _ => 0))))) a (some (.inr (1, [.ref q, .int 0])))) := by
  refine ct_of (by decide) (Nat.le_of_ble_eq_true rfl) ?_
  intro p e s m below meth c ls H locs hEn
  obtain ⟨hc, hr, hlk, hin, hE, hw, hsz, hl⟩ := hEn
  have hx := hc.1
  have hb := hc.2.1
  have hl : lv_has ls 2 [(0, .ref a), (1, .int (nI N))] := hl
  refine lv_aload_n hx hb d_Signs_init_0 rfl (lv_at hl 0 rfl) ?_
  refine m_objInit hc oi_Signs_3 oi_w hl.1 d_Signs_init_1 (Nat.le_of_ble_eq_true rfl) (Nat.le_of_ble_eq_true rfl) ?_
  refine lv_aload_n hx hb d_Signs_init_4 rfl (lv_at hl 0 rfl) ?_
  refine lv_iload_n hx hb d_Signs_init_5 rfl (lv_at hl 1 rfl) ?_
  refine m_newa hc hE hw (N' := N) (a0 := (N, .inl (fun _ => 0))) ar_char rfl 1 rfl (fun _ => rfl) (nI_pos (by omega)) (nI_clamp (by omega)) (by show N * 2 ≤ 536870912; omega) (by first | decide | (dsimp only; omega)) (by first | decide | (dsimp only; omega)) d_Signs_init_6 (fun q1 H u2 hw => ?_)
  obtain ⟨f3, ef3⟩ : ∃ z : Wd, z = va_up f q1 (some (.inl (G.2.1 1, N, .inl (fun _ => 0)))) := ⟨_, rfl⟩
  replace hw : ms G.1 (Af f sz) f3 s H locs := by rw [ef3]; exact hw
  have n_a_q1 : a ≠ q1 := wnf ha u2
  have h4 : f3 a = some (.inr (1, [.null, .int 0])) := by rw [ef3, va_up_ne _ _ n_a_q1]; exact ha
  have h5 : f3 q1 = some (.inl (G.2.1 1, N, .inl (fun _ => 0))) := by rw [ef3, va_up_self]
  refine m_putF hc hE hw hin h4 kc_Signs lf_Signs_9_Signs rfl rfl ds_Signs_0 rfl rfl (Nat.le_of_ble_eq_true rfl) d_Signs_init_8 (fun H locs hw => ?_)
  obtain ⟨f6, ef6⟩ : ∃ z : Wd, z = va_up f3 a (some (.inr (1, [.ref q1, .int 0]))) := ⟨_, rfl⟩
  replace hw : ms G.1 (Af f sz) f6 s H locs := by rw [ef6]; exact hw
  have h7 : f6 q1 = some (.inl (G.2.1 1, N, .inl (fun _ => 0))) := by rw [ef6, va_up_ne _ _ (Ne.symm n_a_q1)]; exact h5
  have h8 : f6 a = some (.inr (1, [.ref q1, .int 0])) := by rw [ef6, va_up_self]
  refine lv_aload_n hx hb d_Signs_init_11 rfl (lv_at hl 0 rfl) ?_
  refine lv_iconst (v := 0) hx hb d_Signs_init_12 (by decide) ?_
  refine m_put hc hE hw h8 kc_Signs l_Signs_15_Signs rfl ds_Signs_1 rfl rfl (Nat.le_of_ble_eq_true rfl) d_Signs_init_13 (fun H locs hw => ?_)
  obtain ⟨f9, ef9⟩ : ∃ z : Wd, z = va_up f6 a (some (.inr (1, [.ref q1, .int 0]))) := ⟨_, rfl⟩
  replace hw : ms G.1 (Af f sz) f9 s H locs := by rw [ef9]; exact hw
  have h10 : f9 q1 = some (.inl (G.2.1 1, N, .inl (fun _ => 0))) := by rw [ef9, va_up_ne _ _ (Ne.symm n_a_q1)]; exact h7
  have h11 : f9 a = some (.inr (1, [.ref q1, .int 0])) := by rw [ef9, va_up_self]
  exact m_vret hc hr hlk hw ⟨by first | decide | (dsimp only; omega), by first | decide | (dsimp only; omega)⟩ d_Signs_init_16 ⟨q1, u2, by rw [ef9, ef6, ef3, up_uu]⟩

set_option maxHeartbeats 4000000 in
set_option maxRecDepth 100000 in
/-- copy() -/
theorem c_Signs_copy (G : GG) (l : Launch) (sz : Nat) (f : Wd) {a r cap n : Nat} {t : Nat → Int32} (h : sg G f a r cap n t) : Cq G l y_Signs_copy b_Signs_copy 3 (some (.object "StreamFilters$Signs")) ({ frames := 2, cells := 2, slots := 92, locals := 33 }) sz f [.ref a] (fun v f' => ∃ (q q2 : Nat) (u : Nat → Int32), v = some q ∧ f q = none ∧ f q2 = none ∧ q ≠ q2 ∧ f' = va_up (va_up f q2 (some (.inl (G.2.1 1, n, .inl u)))) q (some (.inr (1, [.ref q2, .int (nI n)]))) ∧ ∀ j, j < n → u j = t j) := by
  refine ct_of (by decide) (Nat.le_of_ble_eq_true rfl) ?_
  intro p e s m below meth c ls H locs hEn
  obtain ⟨hc, hr, hlk, hin, hE, hw, hsz, hl⟩ := hEn
  have hx := hc.1
  have hb := hc.2.1
  have hl : lv_has ls 3 [(0, .ref a)] := hl
  obtain ⟨ha, hrw, hn, hcap, hch⟩ := h
  refine m_new hc hE hw (fs := [.null, .int 0]) kc_Signs nw_Signs_10 bl_Signs (by first | decide | (dsimp only; omega)) (by first | decide | (dsimp only; omega)) d_Signs_copy_0 (fun q1 H u2 hw => ?_)
  obtain ⟨f3, ef3⟩ : ∃ z : Wd, z = va_up f q1 (some (.inr (1, [.null, .int 0]))) := ⟨_, rfl⟩
  replace hw : ms G.1 (Af f sz) f3 s H locs := by rw [ef3]; exact hw
  have n_a_q1 : a ≠ q1 := wnf ha u2
  have h4 : f3 a = some (.inr (1, [.ref r, .int (nI n)])) := by rw [ef3, va_up_ne _ _ n_a_q1]; exact ha
  have n_r_q1 : r ≠ q1 := wnf hrw u2
  have h5 : f3 r = some (.inl (G.2.1 1, cap, .inl t)) := by rw [ef3, va_up_ne _ _ n_r_q1]; exact hrw
  have h6 : f3 q1 = some (.inr (1, [.null, .int 0])) := by rw [ef3, va_up_self]
  refine lv_dup hx hb d_Signs_copy_3 rfl ?_
  refine lv_aload_n hx hb d_Signs_copy_4 rfl (lv_at hl 0 rfl) ?_
  refine m_get hc hE hw h4 kc_Signs l_Signs_15_Signs rfl d_Signs_copy_5 ?_
  refine m_callv hw (m_runI (As := [.int (nI n)]) (rest := [.ref q1]) hc hE hw (c_Signs_init G l H.size f3 h6 (N := n) (by omega)) cw_Signs_19 ⟨rfl, si_Signs_init⟩ rfl hl.1 rfl (Nat.le_of_ble_eq_true rfl) d_Signs_copy_8 ⟨rfl, rfl, by decide, by decide⟩ ⟨by first | decide | (dsimp only; omega), by first | decide | (dsimp only; omega)⟩) (fun g8 H locs p7 hw => ?_)
  obtain ⟨q9, u10, e11⟩ := p7
  have n_a_q9 : a ≠ q9 := wnf h4 u10
  have h12 : g8 a = some (.inr (1, [.ref r, .int (nI n)])) := by rw [e11, va_up_ne _ _ n_a_q1, va_up_ne _ _ n_a_q9]; exact h4
  have n_r_q9 : r ≠ q9 := wnf h5 u10
  have h13 : g8 r = some (.inl (G.2.1 1, cap, .inl t)) := by rw [e11, va_up_ne _ _ n_r_q1, va_up_ne _ _ n_r_q9]; exact h5
  have n_q1_q9 : q1 ≠ q9 := wnf h6 u10
  have h14 : g8 q9 = some (.inl (G.2.1 1, n, .inl (fun _ => 0))) := by rw [e11, va_up_ne _ _ (Ne.symm n_q1_q9), va_up_self]
  have h15 : g8 q1 = some (.inr (1, [.ref q9, .int 0])) := by rw [e11, va_up_self]
  have u16 : f q9 = none := by have z := u10; rw [ef3, va_up_ne _ _ (Ne.symm n_q1_q9)] at z; exact z
  refine lv_astore_n (lv' := [(1, .ref q1), (0, .ref a)]) hx hb d_Signs_copy_11 rfl hl (by decide) rfl (fun ls hl => ?_)
  refine lv_iconst (v := 0) hx hb d_Signs_copy_12 (by decide) ?_
  refine lv_istore_n (lv' := [(2, .int 0), (1, .ref q1), (0, .ref a)]) hx hb d_Signs_copy_13 rfl hl (by decide) rfl (fun ls hl => ?_)
  have loop : ∀ (fu : Nat) (i : Nat) (u : Nat → Int32) (fw : Wd) (ls : Array Slot) (H : Heap) (locs : List Loc), n - i < fu → i ≤ n → fw = va_up (va_up f q9 (some (.inl (G.2.1 1, n, .inl u)))) q1 (some (.inr (1, [.ref q9, .int (nI i)]))) → (∀ j, j < i → u j = t j) → ms G.1 (Af f sz) fw s H locs → lv_has ls 3 [(2, .int (nI i)), (1, .ref q1), (0, .ref a)] → W p l e ({ frames := 2, cells := 2, slots := 92, locals := 33 }) s m ([.ref a] : List Value).toArray below meth c H locs 2 92 (MQ below (va_Qq (fun v f' => ∃ (q q2 : Nat) (u : Nat → Int32), v = some q ∧ f q = none ∧ f q2 = none ∧ q ≠ q2 ∧ f' = va_up (va_up f q2 (some (.inl (G.2.1 1, n, .inl u)))) q (some (.inr (1, [.ref q2, .int (nI n)]))) ∧ ∀ j, j < n → u j = t j) (Bw G f sz) (Af f sz)) ([.ref a] : List Value).toArray s 2 92 (Af f sz)) (F0 m 14 ls []) := by
    intro fu
    induction fu with
    | zero => intro i u fw ls H locs h0; exact absurd h0 (Nat.not_lt_zero _)
    | succ fu ih =>
      intro i u fw ls H locs hfu hi hfw hu hw hl
      have hwa : fw a = some (.inr (1, [.ref r, .int (nI n)])) := by rw [hfw, va_up_ne _ _ n_a_q1, va_up_ne _ _ n_a_q9]; exact ha
      have hwr : fw r = some (.inl (G.2.1 1, cap, .inl t)) := by rw [hfw, va_up_ne _ _ n_r_q1, va_up_ne _ _ n_r_q9]; exact hrw
      have hwq : fw q1 = some (.inr (1, [.ref q9, .int (nI i)])) := by rw [hfw, va_up_self]
      have hwq2 : fw q9 = some (.inl (G.2.1 1, n, .inl u)) := by rw [hfw, va_up_ne _ _ (Ne.symm n_q1_q9), va_up_self]
      refine lv_iload_n hx hb d_Signs_copy_14 rfl (lv_at hl 0 rfl) ?_
      refine lv_aload_n hx hb d_Signs_copy_15 rfl (lv_at hl 2 rfl) ?_
      refine m_get hc hE hw hwa kc_Signs l_Signs_15_Signs rfl d_Signs_copy_16 ?_
      refine lv_icmp_ge (tgt := 38) hx hb d_Signs_copy_19 (by decide) (fun c17 => ?_) (fun c17 => ?_)
      · refine lv_aload_n hx hb d_Signs_copy_38 rfl (lv_at hl 1 rfl) ?_
        have hin2 : i = n := by have := (nI_leI (by omega) (by omega)).mp c17; omega
        subst hin2
        exact m_aret (r := (some q1)) hc hr hlk hw ⟨by first | decide | (dsimp only; omega), by first | decide | (dsimp only; omega)⟩ d_Signs_copy_39 ⟨q1, q9, u, rfl, u2, u16, (Ne.symm (Ne.symm n_q1_q9)), hfw, hu⟩
      · refine lv_aload_n hx hb d_Signs_copy_22 rfl (lv_at hl 1 rfl) ?_
        refine lv_aload_n hx hb d_Signs_copy_23 rfl (lv_at hl 2 rfl) ?_
        refine m_get hc hE hw hwa kc_Signs l_Signs_9_Signs rfl d_Signs_copy_24 ?_
        refine lv_iload_n hx hb d_Signs_copy_27 rfl (lv_at hl 0 rfl) ?_
        refine m_cald hc hE hw 1 hwr rfl (vp_in_nI (show i < cap by have := Nat.not_le.mp (fun z => c17 (nI_le z (by omega))); omega) (by omega)) d_Signs_copy_28 ?_
        refine m_callv hw (m_runV (As := [.int (t (nI i).toNatClampNeg)]) (rest := []) hc hE hw (c_Signs_append G l H.size fw ⟨hwq, hwq2, hi, by omega, fun j q => by rw [hu j q]; exact hch j (by omega)⟩ (t (nI i).toNatClampNeg)) hwq rfl cw_Signs_22 se_Signs_append rfl hl.1 rfl (Nat.le_of_ble_eq_true rfl) d_Signs_copy_29 ⟨rfl, rfl, by decide, by decide⟩ ⟨by first | decide | (dsimp only; omega), by first | decide | (dsimp only; omega)⟩) (fun g19 H locs p18 hw => ?_)
        have hlt : i < n := Nat.not_le.mp (fun z => c17 (nI_le z (by omega)))
        have hg := p18.1 hlt
        refine lv_iinc (v := (nI (i + 1))) (lv' := [(2, .int (nI (i + 1))), (1, .ref q1), (0, .ref a)]) hx hb d_Signs_copy_32 hl (k := 0) rfl (nI_1 _) (by decide) rfl (fun ls hl => ?_)
        refine lv_goto (tgt := 14) hx hb d_Signs_copy_35 (by decide) ?_
        refine ih (i + 1) (upd u i (vp_nar .char (t (nI i).toNatClampNeg))) g19 ls H locs (by omega) (by omega) ?_ (fun j q => ?_) hw (lv_sub hl [0, 1, 2] rfl)
        · rw [hg, hfw, up_sw (Ne.symm (Ne.symm n_q1_q9)), up_uu, up_uu]
        · by_cases hj : j = i
          · subst hj; rw [pk_us, nI_clamp (by omega)]; exact hch j (by omega)
          · rw [pk_un hj]; exact hu j (by omega)
  refine W.widen (k := 2) (n := 92) (by decide) (by decide) ?_
  refine loop (n + 1) 0 (fun _ => 0) g8 ls H locs (by omega) (Nat.zero_le _) ?_ (fun j q => absurd q (Nat.not_lt_zero _)) hw (lv_sub hl [0, 1, 2] rfl)
  rw [e11, ef3, up_sw (Ne.symm (Ne.symm n_q1_q9)), up_uu, nI_0]
