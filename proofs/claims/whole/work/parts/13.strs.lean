/-! links of the pools, as the walks ask for them -/
theorem cw_String_1059 : cwk "java/lang/String" 1059 y_Precond_checkIndex b_Precond_checkIndex 3 (some .int) 3 := ⟨Or.inl (tb 267 (by decide +kernel) rfl), (tb 269 (by decide +kernel) rfl), (tb 8 (by decide +kernel) rfl), by decide, by decide, by decide +kernel⟩
theorem cw_String_335 : cwk "java/lang/String" 335 y_String_coder b_String_coder 1 (some .byte) 0 := ⟨Or.inl (tb 245 (by decide +kernel) rfl), (tb 248 (by decide +kernel) rfl), (tb 6 (by decide +kernel) rfl), by decide, by decide, by decide +kernel⟩
theorem cw_String_492 : cwk "java/lang/String" 492 y_String_isLatin1 b_String_isLatin1 1 (some .boolean) 0 := ⟨Or.inl (tb 255 (by decide +kernel) rfl), (tb 258 (by decide +kernel) rfl), (tb 6 (by decide +kernel) rfl), by decide, by decide, by decide +kernel⟩
theorem cw_String_495 : cwk "java/lang/String" 495 y_Latin1_charAt b_Latin1_charAt 2 (some .char) 2 := ⟨Or.inl (tb 259 (by decide +kernel) rfl), (tb 261 (by decide +kernel) rfl), (tb 7 (by decide +kernel) rfl), by decide, by decide, by decide +kernel⟩
theorem cw_Latin1_9 : cwk "java/lang/StringLatin1" 9 y_String_checkIndex b_String_checkIndex 2 none 2 := ⟨Or.inl (tb 262 (by decide +kernel) rfl), (tb 264 (by decide +kernel) rfl), (tb 6 (by decide +kernel) rfl), by decide, by decide, by decide +kernel⟩
theorem se_String_coder : Cond.instanceMethod y_String_coder ∈ TB ∧ Cond.selects "java/lang/String" y_String_coder y_String_coder ∈ TB := ⟨(tb 246 (by decide +kernel) rfl), (tb 247 (by decide +kernel) rfl)⟩
theorem se_String_isLatin1 : Cond.instanceMethod y_String_isLatin1 ∈ TB ∧ Cond.selects "java/lang/String" y_String_isLatin1 y_String_isLatin1 ∈ TB := ⟨(tb 256 (by decide +kernel) rfl), (tb 257 (by decide +kernel) rfl)⟩
theorem ss_String_checkIndex : Cond.static y_String_checkIndex ∈ TB := (tb 263 (by decide +kernel) rfl)
theorem ss_Latin1_charAt : Cond.static y_Latin1_charAt ∈ TB := (tb 260 (by decide +kernel) rfl)
theorem ss_Precond_checkIndex : Cond.static y_Precond_checkIndex ∈ TB := (tb 268 (by decide +kernel) rfl)
theorem wd_fieldLink_java_lang_String_1053_jdk_internal_util_Preconditions_SIOOBE_FORMATTER_Ljava_util_function_BiFunction : Cond.fieldLink "java/lang/String" 1053 "jdk/internal/util/Preconditions" "SIOOBE_FORMATTER" "Ljava/util/function/BiFunction;" ∈ TB := (tb 265 (by decide +kernel) rfl)
theorem wd_fieldLink_java_lang_String_15_java_lang_String_coder_B : Cond.fieldLink "java/lang/String" 15 "java/lang/String" "coder" "B" ∈ TB := (tb 873 (by decide +kernel) rfl)
theorem wd_fieldLink_java_lang_String_38_java_lang_String_COMPACT_STRINGS_Z : Cond.fieldLink "java/lang/String" 38 "java/lang/String" "COMPACT_STRINGS" "Z" ∈ TB := (tb 249 (by decide +kernel) rfl)
theorem wd_fieldLink_java_lang_String_9_java_lang_String_value__B : Cond.fieldLink "java/lang/String" 9 "java/lang/String" "value" "[B" ∈ TB := (tb 872 (by decide +kernel) rfl)
/-! decode rows -/
theorem d_String_length_0 : decode b_String_length 0 = .ok (.aload_n 0, 1) := by decide +kernel
theorem d_String_length_1 : decode b_String_length 1 = .ok (.getfield 9, 3) := by decide +kernel
theorem d_String_length_4 : decode b_String_length 4 = .ok (.arraylength, 1) := by decide +kernel
theorem d_String_length_5 : decode b_String_length 5 = .ok (.aload_n 0, 1) := by decide +kernel
theorem d_String_length_6 : decode b_String_length 6 = .ok (.invokevirtual 335, 3) := by decide +kernel
theorem d_String_length_9 : decode b_String_length 9 = .ok (.ishr, 1) := by decide +kernel
theorem d_String_length_10 : decode b_String_length 10 = .ok (.ireturn, 1) := by decide +kernel
theorem d_String_coder_0 : decode b_String_coder 0 = .ok (.getstatic 38, 3) := by decide +kernel
theorem d_String_coder_3 : decode b_String_coder 3 = .ok (.ifCond .eq 10, 3) := by decide +kernel
theorem d_String_coder_6 : decode b_String_coder 6 = .ok (.aload_n 0, 1) := by decide +kernel
theorem d_String_coder_7 : decode b_String_coder 7 = .ok (.getfield 15, 3) := by decide +kernel
theorem d_String_coder_10 : decode b_String_coder 10 = .ok (.goto 4, 3) := by decide +kernel
theorem d_String_coder_13 : decode b_String_coder 13 = .ok (.iconst 1, 1) := by decide +kernel
theorem d_String_coder_14 : decode b_String_coder 14 = .ok (.ireturn, 1) := by decide +kernel
theorem d_String_charAt_0 : decode b_String_charAt 0 = .ok (.aload_n 0, 1) := by decide +kernel
theorem d_String_charAt_1 : decode b_String_charAt 1 = .ok (.invokevirtual 492, 3) := by decide +kernel
theorem d_String_charAt_4 : decode b_String_charAt 4 = .ok (.ifCond .eq 12, 3) := by decide +kernel
theorem d_String_charAt_7 : decode b_String_charAt 7 = .ok (.aload_n 0, 1) := by decide +kernel
theorem d_String_charAt_8 : decode b_String_charAt 8 = .ok (.getfield 9, 3) := by decide +kernel
theorem d_String_charAt_11 : decode b_String_charAt 11 = .ok (.iload_n 1, 1) := by decide +kernel
theorem d_String_charAt_12 : decode b_String_charAt 12 = .ok (.invokestatic 495, 3) := by decide +kernel
theorem d_String_charAt_15 : decode b_String_charAt 15 = .ok (.ireturn, 1) := by decide +kernel
theorem d_String_charAt_16 : decode b_String_charAt 16 = .ok (.aload_n 0, 1) := by decide +kernel
theorem d_String_charAt_17 : decode b_String_charAt 17 = .ok (.getfield 9, 3) := by decide +kernel
theorem d_String_charAt_20 : decode b_String_charAt 20 = .ok (.iload_n 1, 1) := by decide +kernel
theorem d_String_charAt_21 : decode b_String_charAt 21 = .ok (.invokestatic 498, 3) := by decide +kernel
theorem d_String_charAt_24 : decode b_String_charAt 24 = .ok (.ireturn, 1) := by decide +kernel
theorem d_String_isLatin1_0 : decode b_String_isLatin1 0 = .ok (.getstatic 38, 3) := by decide +kernel
theorem d_String_isLatin1_3 : decode b_String_isLatin1 3 = .ok (.ifCond .eq 14, 3) := by decide +kernel
theorem d_String_isLatin1_6 : decode b_String_isLatin1 6 = .ok (.aload_n 0, 1) := by decide +kernel
theorem d_String_isLatin1_7 : decode b_String_isLatin1 7 = .ok (.getfield 15, 3) := by decide +kernel
theorem d_String_isLatin1_10 : decode b_String_isLatin1 10 = .ok (.ifCond .ne 7, 3) := by decide +kernel
theorem d_String_isLatin1_13 : decode b_String_isLatin1 13 = .ok (.iconst 1, 1) := by decide +kernel
theorem d_String_isLatin1_14 : decode b_String_isLatin1 14 = .ok (.goto 4, 3) := by decide +kernel
theorem d_String_isLatin1_17 : decode b_String_isLatin1 17 = .ok (.iconst 0, 1) := by decide +kernel
theorem d_String_isLatin1_18 : decode b_String_isLatin1 18 = .ok (.ireturn, 1) := by decide +kernel
theorem d_Latin1_charAt_0 : decode b_Latin1_charAt 0 = .ok (.iload_n 1, 1) := by decide +kernel
theorem d_Latin1_charAt_1 : decode b_Latin1_charAt 1 = .ok (.aload_n 0, 1) := by decide +kernel
theorem d_Latin1_charAt_2 : decode b_Latin1_charAt 2 = .ok (.arraylength, 1) := by decide +kernel
theorem d_Latin1_charAt_3 : decode b_Latin1_charAt 3 = .ok (.invokestatic 9, 3) := by decide +kernel
theorem d_Latin1_charAt_6 : decode b_Latin1_charAt 6 = .ok (.aload_n 0, 1) := by decide +kernel
theorem d_Latin1_charAt_7 : decode b_Latin1_charAt 7 = .ok (.iload_n 1, 1) := by decide +kernel
theorem d_Latin1_charAt_8 : decode b_Latin1_charAt 8 = .ok (.baload, 1) := by decide +kernel
theorem d_Latin1_charAt_9 : decode b_Latin1_charAt 9 = .ok (.sipush 255, 3) := by decide +kernel
theorem d_Latin1_charAt_12 : decode b_Latin1_charAt 12 = .ok (.iand, 1) := by decide +kernel
theorem d_Latin1_charAt_13 : decode b_Latin1_charAt 13 = .ok (.i2c, 1) := by decide +kernel
theorem d_Latin1_charAt_14 : decode b_Latin1_charAt 14 = .ok (.ireturn, 1) := by decide +kernel
theorem d_String_checkIndex_0 : decode b_String_checkIndex 0 = .ok (.iload_n 0, 1) := by decide +kernel
theorem d_String_checkIndex_1 : decode b_String_checkIndex 1 = .ok (.iload_n 1, 1) := by decide +kernel
theorem d_String_checkIndex_2 : decode b_String_checkIndex 2 = .ok (.getstatic 1053, 3) := by decide +kernel
theorem d_String_checkIndex_5 : decode b_String_checkIndex 5 = .ok (.invokestatic 1059, 3) := by decide +kernel
theorem d_String_checkIndex_8 : decode b_String_checkIndex 8 = .ok (.pop, 1) := by decide +kernel
theorem d_String_checkIndex_9 : decode b_String_checkIndex 9 = .ok (.return_, 1) := by decide +kernel
theorem d_Precond_checkIndex_0 : decode b_Precond_checkIndex 0 = .ok (.iload_n 0, 1) := by decide +kernel
theorem d_Precond_checkIndex_1 : decode b_Precond_checkIndex 1 = .ok (.ifCond .lt 8, 3) := by decide +kernel
theorem d_Precond_checkIndex_4 : decode b_Precond_checkIndex 4 = .ok (.iload_n 0, 1) := by decide +kernel
theorem d_Precond_checkIndex_5 : decode b_Precond_checkIndex 5 = .ok (.iload_n 1, 1) := by decide +kernel
theorem d_Precond_checkIndex_6 : decode b_Precond_checkIndex 6 = .ok (.if_icmp .lt 10, 3) := by decide +kernel
theorem d_Precond_checkIndex_9 : decode b_Precond_checkIndex 9 = .ok (.aload_n 2, 1) := by decide +kernel
theorem d_Precond_checkIndex_10 : decode b_Precond_checkIndex 10 = .ok (.iload_n 0, 1) := by decide +kernel
theorem d_Precond_checkIndex_11 : decode b_Precond_checkIndex 11 = .ok (.iload_n 1, 1) := by decide +kernel
theorem d_Precond_checkIndex_12 : decode b_Precond_checkIndex 12 = .ok (.invokestatic 95, 3) := by decide +kernel
theorem d_Precond_checkIndex_15 : decode b_Precond_checkIndex 15 = .ok (.athrow, 1) := by decide +kernel
theorem d_Precond_checkIndex_16 : decode b_Precond_checkIndex 16 = .ok (.iload_n 0, 1) := by decide +kernel
theorem d_Precond_checkIndex_17 : decode b_Precond_checkIndex 17 = .ok (.ireturn, 1) := by decide +kernel
set_option maxHeartbeats 4000000 in
set_option maxRecDepth 100000 in
/-- String.coder() of a text -/
theorem c_String_coder (G : GG) (l : Launch) (sz : Nat) (f : Wd) {k : Nat} (hk : k < nTx) : Ci G l y_String_coder b_String_coder 1 (some .byte) ({ frames := 0, cells := 0, slots := 0, locals := 0 }) sz f [.ref (G.2.2.1 k)] (fun v f' => f = f' ∧ v = 0) := by
  refine ct_of (by decide) (Nat.le_of_ble_eq_true rfl) ?_
  intro p e s m below meth c ls H locs hEn
  obtain ⟨hc, hr, hlk, hin, hE, hw, hsz, hl⟩ := hEn
  have hx := hc.1
  have hb := hc.2.1
  have hl : lv_has ls 1 [(0, .ref (G.2.2.1 k))] := hl
  refine m_compact hc hE hw wd_fieldLink_java_lang_String_38_java_lang_String_COMPACT_STRINGS_Z d_String_coder_0 ?_
  refine lv_if_eq (tgt := 13) hx hb d_String_coder_3 (by decide) (fun c1 => ?_) (fun c1 => ?_)
  · refine lv_iconst (v := 1) hx hb d_String_coder_13 (by decide) ?_
    exact absurd c1 (by decide)
  · refine lv_aload_n hx hb d_String_coder_6 rfl (lv_at hl 0 rfl) ?_
    refine m_scod hc hE hw hk wd_fieldLink_java_lang_String_15_java_lang_String_coder_B d_String_coder_7 ?_
    refine lv_goto (tgt := 14) hx hb d_String_coder_10 (by decide) ?_
    exact m_zret hc hr hlk hw ⟨by decide, by decide⟩ d_String_coder_14 rfl ⟨rfl, rfl⟩

set_option maxHeartbeats 4000000 in
set_option maxRecDepth 100000 in
/-- String.isLatin1() of a text -/
theorem c_String_isLatin1 (G : GG) (l : Launch) (sz : Nat) (f : Wd) {k : Nat} (hk : k < nTx) : Ci G l y_String_isLatin1 b_String_isLatin1 1 (some .boolean) ({ frames := 0, cells := 0, slots := 0, locals := 0 }) sz f [.ref (G.2.2.1 k)] (fun v f' => f = f' ∧ v = 1) := by
  refine ct_of (by decide) (Nat.le_of_ble_eq_true rfl) ?_
  intro p e s m below meth c ls H locs hEn
  obtain ⟨hc, hr, hlk, hin, hE, hw, hsz, hl⟩ := hEn
  have hx := hc.1
  have hb := hc.2.1
  have hl : lv_has ls 1 [(0, .ref (G.2.2.1 k))] := hl
  refine m_compact hc hE hw wd_fieldLink_java_lang_String_38_java_lang_String_COMPACT_STRINGS_Z d_String_isLatin1_0 ?_
  refine lv_if_eq (tgt := 17) hx hb d_String_isLatin1_3 (by decide) (fun c1 => ?_) (fun c1 => ?_)
  · refine lv_iconst (v := 0) hx hb d_String_isLatin1_17 (by decide) ?_
    exact absurd c1 (by decide)
  · refine lv_aload_n hx hb d_String_isLatin1_6 rfl (lv_at hl 0 rfl) ?_
    refine m_scod hc hE hw hk wd_fieldLink_java_lang_String_15_java_lang_String_coder_B d_String_isLatin1_7 ?_
    refine lv_if_ne (tgt := 17) hx hb d_String_isLatin1_10 (by decide) (fun c2 => ?_) (fun c2 => ?_)
    · refine lv_iconst (v := 0) hx hb d_String_isLatin1_17 (by decide) ?_
      exact absurd c2 (by decide)
    · refine lv_iconst (v := 1) hx hb d_String_isLatin1_13 (by decide) ?_
      refine lv_goto (tgt := 18) hx hb d_String_isLatin1_14 (by decide) ?_
      exact m_zret hc hr hlk hw ⟨by decide, by decide⟩ d_String_isLatin1_18 (by decide) ⟨rfl, rfl⟩

set_option maxHeartbeats 4000000 in
set_option maxRecDepth 100000 in
/-- String.length() of a text -/
theorem c_String_length (G : GG) (l : Launch) (sz : Nat) (f : Wd) {k : Nat} (hk : k < nTx) : Ci G l y_String_length b_String_length 1 (some .int) ({ frames := 1, cells := 0, slots := 0, locals := 20 }) sz f [.ref (G.2.2.1 k)] (fun v f' => f = f' ∧ v = nI (lenTx.getD k 0)) := by
  refine ct_of (by decide) (Nat.le_of_ble_eq_true rfl) ?_
  intro p e s m below meth c ls H locs hEn
  obtain ⟨hc, hr, hlk, hin, hE, hw, hsz, hl⟩ := hEn
  have hx := hc.1
  have hb := hc.2.1
  have hl : lv_has ls 1 [(0, .ref (G.2.2.1 k))] := hl
  refine lv_aload_n hx hb d_String_length_0 rfl (lv_at hl 0 rfl) ?_
  refine m_sval hc hE hw hk wd_fieldLink_java_lang_String_9_java_lang_String_value__B d_String_length_1 ?_
  refine m_slen hc hE hw hk d_String_length_4 ?_
  refine lv_aload_n hx hb d_String_length_5 rfl (lv_at hl 0 rfl) ?_
  refine m_calli hw (m_runV0 (As := []) (rest := [.int (nI (lenTx.getD k 0))]) hc hE hw (c_String_coder G l H.size f hk) (m_strecv hE hw hk) cw_String_335 se_String_coder rfl hl.1 rfl (Nat.le_of_ble_eq_true rfl) d_String_length_6 ⟨rfl, rfl, by decide, by decide⟩ ⟨by first | decide | (dsimp only; omega), by first | decide | (dsimp only; omega)⟩) (fun r3 g2 H locs p1 hw => ?_)
  obtain ⟨rfl, p1⟩ := p1
  subst p1
  refine lv_ishr hx hb d_String_length_9 ?_
  exact m_iret hc hr hlk hw ⟨by first | decide | (dsimp only; omega), by first | decide | (dsimp only; omega)⟩ d_String_length_10 ⟨rfl, sb_shr0 _⟩

set_option maxHeartbeats 4000000 in
set_option maxRecDepth 100000 in
/-- Preconditions.checkIndex -/
theorem c_Precond_checkIndex (G : GG) (l : Launch) (sz : Nat) (f : Wd) {i n : Nat} (hi : i < n) (hn : n < 2 ^ 31) (r : Option Nat) : Ci G l y_Precond_checkIndex b_Precond_checkIndex 3 (some .int) ({ frames := 0, cells := 0, slots := 0, locals := 0 }) sz f [.int (nI i), .int (nI n), va_rf r] (fun v f' => f = f' ∧ v = nI i) := by
  cases r
  all_goals
    refine ct_of (by decide) (Nat.le_of_ble_eq_true rfl) ?_
    intro p e s m below meth c ls H locs hEn
    obtain ⟨hc, hr, hlk, hin, hE, hw, hsz, hl⟩ := hEn
    have hx := hc.1
    have hb := hc.2.1
    have hl : lv_has ls 3 [(0, .int (nI i)), (1, .int (nI n)), (2, _)] := hl
    refine lv_iload_n hx hb d_Precond_checkIndex_0 rfl (lv_at hl 0 rfl) ?_
    refine lv_if_lt (tgt := 9) hx hb d_Precond_checkIndex_1 (by decide) (fun c1 => ?_) (fun c1 => ?_)
    · exact absurd c1 (nI_pos (by omega))
    · refine lv_iload_n hx hb d_Precond_checkIndex_4 rfl (lv_at hl 0 rfl) ?_
      refine lv_iload_n hx hb d_Precond_checkIndex_5 rfl (lv_at hl 1 rfl) ?_
      refine lv_icmp_lt (tgt := 16) hx hb d_Precond_checkIndex_6 (by decide) (fun c2 => ?_) (fun c2 => ?_)
      · refine lv_iload_n hx hb d_Precond_checkIndex_16 rfl (lv_at hl 0 rfl) ?_
        exact m_iret hc hr hlk hw ⟨by first | decide | (dsimp only; omega), by first | decide | (dsimp only; omega)⟩ d_Precond_checkIndex_17 ⟨rfl, rfl⟩
      · exact absurd (nI_lt hi hn) c2

set_option maxHeartbeats 4000000 in
set_option maxRecDepth 100000 in
/-- String.checkIndex -/
theorem c_String_checkIndex (G : GG) (l : Launch) (sz : Nat) (f : Wd) {i n : Nat} (hi : i < n) (hn : n < 2 ^ 31) : Cv G l y_String_checkIndex b_String_checkIndex 2 none ({ frames := 1, cells := 0, slots := 0, locals := 22 }) sz f [.int (nI i), .int (nI n)] (fun f' => f = f') := by
  refine ct_of (by decide) (Nat.le_of_ble_eq_true rfl) ?_
  intro p e s m below meth c ls H locs hEn
  obtain ⟨hc, hr, hlk, hin, hE, hw, hsz, hl⟩ := hEn
  have hx := hc.1
  have hb := hc.2.1
  have hl : lv_has ls 2 [(0, .int (nI i)), (1, .int (nI n))] := hl
  refine lv_iload_n hx hb d_String_checkIndex_0 rfl (lv_at hl 0 rfl) ?_
  refine lv_iload_n hx hb d_String_checkIndex_1 rfl (lv_at hl 1 rfl) ?_
  refine m_former hc hE hw wd_fieldLink_java_lang_String_1053_jdk_internal_util_Preconditions_SIOOBE_FORMATTER_Ljava_util_function_BiFunction d_String_checkIndex_2 (fun r1 => ?_)
  refine m_calli hw (m_runS (As := [.int (nI i), .int (nI n), va_rf r1]) (rest := []) hc hE hw (c_Precond_checkIndex G l H.size f hi hn r1) cw_String_1059 ss_Precond_checkIndex rfl hl.1 rfl (Nat.le_of_ble_eq_true rfl) d_String_checkIndex_5 ⟨rfl, rfl, by decide, by decide⟩ ⟨by first | decide | (dsimp only; omega), by first | decide | (dsimp only; omega)⟩) (fun r4 g3 H locs p2 hw => ?_)
  obtain ⟨rfl, p2⟩ := p2
  subst p2
  refine lv_pop hx hb d_String_checkIndex_8 rfl ?_
  exact m_vret hc hr hlk hw ⟨by first | decide | (dsimp only; omega), by first | decide | (dsimp only; omega)⟩ d_String_checkIndex_9 rfl

set_option maxHeartbeats 4000000 in
set_option maxRecDepth 100000 in
/-- StringLatin1.charAt of a text -/
theorem c_Latin1_charAt (G : GG) (l : Launch) (sz : Nat) (f : Wd) {k : Nat} (hk : k < nTx) {i : Nat} (hi : i < lenTx.getD k 0) (hl0 : lenTx.getD k 0 < 2 ^ 31) : Ci G l y_Latin1_charAt b_Latin1_charAt 2 (some .char) ({ frames := 2, cells := 0, slots := 0, locals := 43 }) sz f [.ref (G.2.2.2 k), .int (nI i)] (fun v f' => f = f' ∧ v = (bytTx.getD k []).getD i 0 &&& 255) := by
  refine ct_of (by decide) (Nat.le_of_ble_eq_true rfl) ?_
  intro p e s m below meth c ls H locs hEn
  obtain ⟨hc, hr, hlk, hin, hE, hw, hsz, hl⟩ := hEn
  have hx := hc.1
  have hb := hc.2.1
  have hl : lv_has ls 2 [(0, .ref (G.2.2.2 k)), (1, .int (nI i))] := hl
  refine lv_iload_n hx hb d_Latin1_charAt_0 rfl (lv_at hl 1 rfl) ?_
  refine lv_aload_n hx hb d_Latin1_charAt_1 rfl (lv_at hl 0 rfl) ?_
  refine m_slen hc hE hw hk d_Latin1_charAt_2 ?_
  refine m_callv hw (m_runS (As := [.int (nI i), .int (nI (lenTx.getD k 0))]) (rest := []) hc hE hw (c_String_checkIndex G l H.size f hi hl0) cw_Latin1_9 ss_String_checkIndex rfl hl.1 rfl (Nat.le_of_ble_eq_true rfl) d_Latin1_charAt_3 ⟨rfl, rfl, by decide, by decide⟩ ⟨by first | decide | (dsimp only; omega), by first | decide | (dsimp only; omega)⟩) (fun g2 H locs p1 hw => ?_)
  obtain rfl := p1
  refine lv_aload_n hx hb d_Latin1_charAt_6 rfl (lv_at hl 0 rfl) ?_
  refine lv_iload_n hx hb d_Latin1_charAt_7 rfl (lv_at hl 1 rfl) ?_
  refine m_sbal hc hE hw hk (vp_in_nI hi hl0) d_Latin1_charAt_8 ?_
  refine lv_sipush (v := 255) hx hb d_Latin1_charAt_9 (by decide) ?_
  refine lv_iand hx hb d_Latin1_charAt_12 ?_
  refine lv_i2c hx hb d_Latin1_charAt_13 rfl ?_
  exact m_zret hc hr hlk hw ⟨by decide, by decide⟩ d_Latin1_charAt_14 (pk_nc _) ⟨rfl, by rw [nI_clamp (by omega)]; exact sc_c2 _⟩

set_option maxHeartbeats 4000000 in
set_option maxRecDepth 100000 in
/-- String.charAt of a text -/
theorem c_String_charAt (G : GG) (l : Launch) (sz : Nat) (f : Wd) {k : Nat} (hk : k < nTx) {i : Nat} (hi : i < lenTx.getD k 0) (hl0 : lenTx.getD k 0 < 2 ^ 31) : Ci G l y_String_charAt b_String_charAt 2 (some .char) ({ frames := 3, cells := 0, slots := 0, locals := 66 }) sz f [.ref (G.2.2.1 k), .int (nI i)] (fun v f' => f = f' ∧ v = (bytTx.getD k []).getD i 0 &&& 255) := by
  refine ct_of (by decide) (Nat.le_of_ble_eq_true rfl) ?_
  intro p e s m below meth c ls H locs hEn
  obtain ⟨hc, hr, hlk, hin, hE, hw, hsz, hl⟩ := hEn
  have hx := hc.1
  have hb := hc.2.1
  have hl : lv_has ls 2 [(0, .ref (G.2.2.1 k)), (1, .int (nI i))] := hl
  refine lv_aload_n hx hb d_String_charAt_0 rfl (lv_at hl 0 rfl) ?_
  refine m_calli hw (m_runV0 (As := []) (rest := []) hc hE hw (c_String_isLatin1 G l H.size f hk) (m_strecv hE hw hk) cw_String_492 se_String_isLatin1 rfl hl.1 rfl (Nat.le_of_ble_eq_true rfl) d_String_charAt_1 ⟨rfl, rfl, by decide, by decide⟩ ⟨by first | decide | (dsimp only; omega), by first | decide | (dsimp only; omega)⟩) (fun r3 g2 H locs p1 hw => ?_)
  obtain ⟨rfl, p1⟩ := p1
  subst p1
  refine lv_if_eq (tgt := 16) hx hb d_String_charAt_4 (by decide) (fun c4 => ?_) (fun c4 => ?_)
  · exact absurd c4 (by decide)
  · refine lv_aload_n hx hb d_String_charAt_7 rfl (lv_at hl 0 rfl) ?_
    refine m_sval hc hE hw hk wd_fieldLink_java_lang_String_9_java_lang_String_value__B d_String_charAt_8 ?_
    refine lv_iload_n hx hb d_String_charAt_11 rfl (lv_at hl 1 rfl) ?_
    refine m_calli hw (m_runS (As := [.ref (G.2.2.2 k), .int (nI i)]) (rest := []) hc hE hw (c_Latin1_charAt G l H.size f hk hi hl0) cw_String_495 ss_Latin1_charAt rfl hl.1 rfl (Nat.le_of_ble_eq_true rfl) d_String_charAt_12 ⟨rfl, rfl, by decide, by decide⟩ ⟨by first | decide | (dsimp only; omega), by first | decide | (dsimp only; omega)⟩) (fun r7 g6 H locs p5 hw => ?_)
    obtain ⟨rfl, p5⟩ := p5
    exact m_zret hc hr hlk hw ⟨by decide, by decide⟩ d_String_charAt_15 (by rw [p5]; exact sc_nar _) ⟨rfl, p5⟩
