set_option maxHeartbeats 4000000 in
set_option maxRecDepth 100000 in
/-- String.coder() of a text -/
theorem c_String_coder (G : GG) (l : Launch) (sz : Nat) (f : Wd) {k : Nat} (hk : k < nTx) : Ci G l y_String_coder b_String_coder 1 (some .byte) ({ frames := 0, cells := 0, slots := 0, locals := 0 }) sz f [.ref (G.2.2.1 k)] (fun v f' => f = f' ∧ v = 0) := by
  refine ct_of (by decide) (Nat.le_of_ble_eq_true rfl) ?_
  intro p e s m below meth c ls H locs hEn
  obtain ⟨hc, hr, hlk, hin, hE, hw, hsz, hl⟩ := hEn
  have hx := hc.1
  have hb := hc.2.1
  have hl : lv_has ls 1 [(0, .ref (G.2.2.1 k))] := hl
  refine m_compact hc hE hw wd_fieldLink_java_lang_String_38_java_lang_String_COMPACT_STRINGS_Z d_String_coder_0 ?_
  refine lv_if_eq (tgt := 13) hx hb d_String_coder_3 (by decide) (fun c1 => ?_) (fun c1 => ?_)
  · refine lv_iconst (v := 1) hx hb d_String_coder_13 (by decide) ?_
    exact absurd c1 (by decide)
  · refine lv_aload_n hx hb d_String_coder_6 rfl (lv_at hl 0 rfl) ?_
    refine m_scod hc hE hw hk wd_fieldLink_java_lang_String_15_java_lang_String_coder_B d_String_coder_7 ?_
    refine lv_goto (tgt := 14) hx hb d_String_coder_10 (by decide) ?_
    exact m_zret hc hr hlk hw ⟨by decide, by decide⟩ d_String_coder_14 rfl ⟨rfl, rfl⟩

set_option maxHeartbeats 4000000 in
set_option maxRecDepth 100000 in
/-- String.isLatin1() of a text -/
theorem c_String_isLatin1 (G : GG) (l : Launch) (sz : Nat) (f : Wd) {k : Nat} (hk : k < nTx) : Ci G l y_String_isLatin1 b_String_isLatin1 1 (some .boolean) ({ frames := 0, cells := 0, slots := 0, locals := 0 }) sz f [.ref (G.2.2.1 k)] (fun v f' => f = f' ∧ v = 1) := by
  refine ct_of (by decide) (Nat.le_of_ble_eq_true rfl) ?_
  intro p e s m below meth c ls H locs hEn
  obtain ⟨hc, hr, hlk, hin, hE, hw, hsz, hl⟩ := hEn
  have hx := hc.1
  have hb := hc.2.1
  have hl : lv_has ls 1 [(0, .ref (G.2.2.1 k))] := hl
  refine m_compact hc hE hw wd_fieldLink_java_lang_String_38_java_lang_String_COMPACT_STRINGS_Z d_String_isLatin1_0 ?_
  refine lv_if_eq (tgt := 17) hx hb d_String_isLatin1_3 (by decide) (fun c1 => ?_) (fun c1 => ?_)
  · refine lv_iconst (v := 0) hx hb d_String_isLatin1_17 (by decide) ?_
    exact absurd c1 (by decide)
  · refine lv_aload_n hx hb d_String_isLatin1_6 rfl (lv_at hl 0 rfl) ?_
    refine m_scod hc hE hw hk wd_fieldLink_java_lang_String_15_java_lang_String_coder_B d_String_isLatin1_7 ?_
    refine lv_if_ne (tgt := 17) hx hb d_String_isLatin1_10 (by decide) (fun c2 => ?_) (fun c2 => ?_)
    · refine lv_iconst (v := 0) hx hb d_String_isLatin1_17 (by decide) ?_
      exact absurd c2 (by decide)
    · refine lv_iconst (v := 1) hx hb d_String_isLatin1_13 (by decide) ?_
      refine lv_goto (tgt := 18) hx hb d_String_isLatin1_14 (by decide) ?_
      exact m_zret hc hr hlk hw ⟨by decide, by decide⟩ d_String_isLatin1_18 (by decide) ⟨rfl, rfl⟩

set_option maxHeartbeats 4000000 in
set_option maxRecDepth 100000 in
/-- String.length() of a text -/
theorem c_String_length (G : GG) (l : Launch) (sz : Nat) (f : Wd) {k : Nat} (hk : k < nTx) : Ci G l y_String_length b_String_length 1 (some .int) ({ frames := 1, cells := 0, slots := 0, locals := 20 }) sz f [.ref (G.2.2.1 k)] (fun v f' => f = f' ∧ v = nI (lenTx.getD k 0)) := by
  refine ct_of (by decide) (Nat.le_of_ble_eq_true rfl) ?_
  intro p e s m below meth c ls H locs hEn
  obtain ⟨hc, hr, hlk, hin, hE, hw, hsz, hl⟩ := hEn
  have hx := hc.1
  have hb := hc.2.1
  have hl : lv_has ls 1 [(0, .ref (G.2.2.1 k))] := hl
  refine lv_aload_n hx hb d_String_length_0 rfl (lv_at hl 0 rfl) ?_
  refine m_sval hc hE hw hk wd_fieldLink_java_lang_String_9_java_lang_String_value__B d_String_length_1 ?_
  refine m_slen hc hE hw hk d_String_length_4 ?_
  refine lv_aload_n hx hb d_String_length_5 rfl (lv_at hl 0 rfl) ?_
  refine m_calli hw (m_runV0 (As := []) (rest := [.int (nI (lenTx.getD k 0))]) hc hE hw (c_String_coder G l H.size f hk) (m_strecv hE hw hk) cw_String_335 se_String_coder rfl hl.1 rfl (Nat.le_of_ble_eq_true rfl) d_String_length_6 ⟨rfl, rfl, by decide, by decide⟩ ⟨by first | decide | (dsimp only; omega), by first | decide | (dsimp only; omega)⟩) (fun r3 g2 H locs p1 hw => ?_)
  obtain ⟨rfl, p1⟩ := p1
  subst p1
  refine lv_ishr hx hb d_String_length_9 ?_
  exact m_iret hc hr hlk hw ⟨by first | decide | (dsimp only; omega), by first | decide | (dsimp only; omega)⟩ d_String_length_10 ⟨rfl, sb_shr0 _⟩

set_option maxHeartbeats 4000000 in
set_option maxRecDepth 100000 in
/-- Preconditions.checkIndex -/
theorem c_Precond_checkIndex (G : GG) (l : Launch) (sz : Nat) (f : Wd) {i n : Nat} (hi : i < n) (hn : n < 2 ^ 31) (r : Option Nat) : Ci G l y_Precond_checkIndex b_Precond_checkIndex 3 (some .int) ({ frames := 0, cells := 0, slots := 0, locals := 0 }) sz f [.int (nI i), .int (nI n), va_rf r] (fun v f' => f = f' ∧ v = nI i) := by
  cases r
  all_goals
    refine ct_of (by decide) (Nat.le_of_ble_eq_true rfl) ?_
    intro p e s m below meth c ls H locs hEn
    obtain ⟨hc, hr, hlk, hin, hE, hw, hsz, hl⟩ := hEn
    have hx := hc.1
    have hb := hc.2.1
    have hl : lv_has ls 3 [(0, .int (nI i)), (1, .int (nI n)), (2, _)] := hl
    refine lv_iload_n hx hb d_Precond_checkIndex_0 rfl (lv_at hl 0 rfl) ?_
    refine lv_if_lt (tgt := 9) hx hb d_Precond_checkIndex_1 (by decide) (fun c1 => ?_) (fun c1 => ?_)
    · exact absurd c1 (nI_pos (by omega))
    · refine lv_iload_n hx hb d_Precond_checkIndex_4 rfl (lv_at hl 0 rfl) ?_
      refine lv_iload_n hx hb d_Precond_checkIndex_5 rfl (lv_at hl 1 rfl) ?_
      refine lv_icmp_lt (tgt := 16) hx hb d_Precond_checkIndex_6 (by decide) (fun c2 => ?_) (fun c2 => ?_)
      · refine lv_iload_n hx hb d_Precond_checkIndex_16 rfl (lv_at hl 0 rfl) ?_
        exact m_iret hc hr hlk hw ⟨by first | decide | (dsimp only; omega), by first | decide | (dsimp only; omega)⟩ d_Precond_checkIndex_17 ⟨rfl, rfl⟩
      · exact absurd (nI_lt hi hn) c2

set_option maxHeartbeats 4000000 in
set_option maxRecDepth 100000 in
/-- String.checkIndex -/
theorem c_String_checkIndex (G : GG) (l : Launch) (sz : Nat) (f : Wd) {i n : Nat} (hi : i < n) (hn : n < 2 ^ 31) : Cv G l y_String_checkIndex b_String_checkIndex 2 none ({ frames := 1, cells := 0, slots := 0, locals := 22 }) sz f [.int (nI i), .int (nI n)] (fun f' => f = f') := by
  refine ct_of (by decide) (Nat.le_of_ble_eq_true rfl) ?_
  intro p e s m below meth c ls H locs hEn
  obtain ⟨hc, hr, hlk, hin, hE, hw, hsz, hl⟩ := hEn
  have hx := hc.1
  have hb := hc.2.1
  have hl : lv_has ls 2 [(0, .int (nI i)), (1, .int (nI n))] := hl
  refine lv_iload_n hx hb d_String_checkIndex_0 rfl (lv_at hl 0 rfl) ?_
  refine lv_iload_n hx hb d_String_checkIndex_1 rfl (lv_at hl 1 rfl) ?_
  refine m_former hc hE hw wd_fieldLink_java_lang_String_1053_jdk_internal_util_Preconditions_SIOOBE_FORMATTER_Ljava_util_function_BiFunction d_String_checkIndex_2 (fun r1 => ?_)
  refine m_calli hw (m_runS (As := [.int (nI i), .int (nI n), va_rf r1]) (rest := []) hc hE hw (c_Precond_checkIndex G l H.size f hi hn r1) cw_String_1059 ss_Precond_checkIndex rfl hl.1 rfl (Nat.le_of_ble_eq_true rfl) d_String_checkIndex_5 ⟨rfl, rfl, by decide, by decide⟩ ⟨by first | decide | (dsimp only; omega), by first | decide | (dsimp only; omega)⟩) (fun r4 g3 H locs p2 hw => ?_)
  obtain ⟨rfl, p2⟩ := p2
  subst p2
  refine lv_pop hx hb d_String_checkIndex_8 rfl ?_
  exact m_vret hc hr hlk hw ⟨by first | decide | (dsimp only; omega), by first | decide | (dsimp only; omega)⟩ d_String_checkIndex_9 rfl

set_option maxHeartbeats 4000000 in
set_option maxRecDepth 100000 in
/-- StringLatin1.charAt of a text -/
theorem c_Latin1_charAt (G : GG) (l : Launch) (sz : Nat) (f : Wd) {k : Nat} (hk : k < nTx) {i : Nat} (hi : i < lenTx.getD k 0) (hl0 : lenTx.getD k 0 < 2 ^ 31) : Ci G l y_Latin1_charAt b_Latin1_charAt 2 (some .char) ({ frames := 2, cells := 0, slots := 0, locals := 43 }) sz f [.ref (G.2.2.2 k), .int (nI i)] (fun v f' => f = f' ∧ v = (bytTx.getD k []).getD i 0 &&& 255) := by
  refine ct_of (by decide) (Nat.le_of_ble_eq_true rfl) ?_
  intro p e s m below meth c ls H locs hEn
  obtain ⟨hc, hr, hlk, hin, hE, hw, hsz, hl⟩ := hEn
  have hx := hc.1
  have hb := hc.2.1
  have hl : lv_has ls 2 [(0, .ref (G.2.2.2 k)), (1, .int (nI i))] := hl
  refine lv_iload_n hx hb d_Latin1_charAt_0 rfl (lv_at hl 1 rfl) ?_
  refine lv_aload_n hx hb d_Latin1_charAt_1 rfl (lv_at hl 0 rfl) ?_
  refine m_slen hc hE hw hk d_Latin1_charAt_2 ?_
  refine m_callv hw (m_runS (As := [.int (nI i), .int (nI (lenTx.getD k 0))]) (rest := []) hc hE hw (c_String_checkIndex G l H.size f hi hl0) cw_Latin1_9 ss_String_checkIndex rfl hl.1 rfl (Nat.le_of_ble_eq_true rfl) d_Latin1_charAt_3 ⟨rfl, rfl, by decide, by decide⟩ ⟨by first | decide | (dsimp only; omega), by first | decide | (dsimp only; omega)⟩) (fun g2 H locs p1 hw => ?_)
  obtain rfl := p1
  refine lv_aload_n hx hb d_Latin1_charAt_6 rfl (lv_at hl 0 rfl) ?_
  refine lv_iload_n hx hb d_Latin1_charAt_7 rfl (lv_at hl 1 rfl) ?_
  refine m_sbal hc hE hw hk (vp_in_nI hi hl0) d_Latin1_charAt_8 ?_
  refine lv_sipush (v := 255) hx hb d_Latin1_charAt_9 (by decide) ?_
  refine lv_iand hx hb d_Latin1_charAt_12 ?_
  refine lv_i2c hx hb d_Latin1_charAt_13 rfl ?_
  exact m_zret hc hr hlk hw ⟨by decide, by decide⟩ d_Latin1_charAt_14 (pk_nc _) ⟨rfl, by rw [nI_clamp (by omega)]; exact sc_c2 _⟩

set_option maxHeartbeats 4000000 in
set_option maxRecDepth 100000 in
/-- String.charAt of a text -/
theorem c_String_charAt (G : GG) (l : Launch) (sz : Nat) (f : Wd) {k : Nat} (hk : k < nTx) {i : Nat} (hi : i < lenTx.getD k 0) (hl0 : lenTx.getD k 0 < 2 ^ 31) : Ci G l y_String_charAt b_String_charAt 2 (some .char) ({ frames := 3, cells := 0, slots := 0, locals := 66 }) sz f [.ref (G.2.2.1 k), .int (nI i)] (fun v f' => f = f' ∧ v = (bytTx.getD k []).getD i 0 &&& 255) := by
  refine ct_of (by decide) (Nat.le_of_ble_eq_true rfl) ?_
  intro p e s m below meth c ls H locs hEn
  obtain ⟨hc, hr, hlk, hin, hE, hw, hsz, hl⟩ := hEn
  have hx := hc.1
  have hb := hc.2.1
  have hl : lv_has ls 2 [(0, .ref (G.2.2.1 k)), (1, .int (nI i))] := hl
  refine lv_aload_n hx hb d_String_charAt_0 rfl (lv_at hl 0 rfl) ?_
  refine m_calli hw (m_runV0 (As := []) (rest := []) hc hE hw (c_String_isLatin1 G l H.size f hk) (m_strecv hE hw hk) cw_String_492 se_String_isLatin1 rfl hl.1 rfl (Nat.le_of_ble_eq_true rfl) d_String_charAt_1 ⟨rfl, rfl, by decide, by decide⟩ ⟨by first | decide | (dsimp only; omega), by first | decide | (dsimp only; omega)⟩) (fun r3 g2 H locs p1 hw => ?_)
  obtain ⟨rfl, p1⟩ := p1
  subst p1
  refine lv_if_eq (tgt := 16) hx hb d_String_charAt_4 (by decide) (fun c4 => ?_) (fun c4 => ?_)
  · exact absurd c4 (by decide)
  · refine lv_aload_n hx hb d_String_charAt_7 rfl (lv_at hl 0 rfl) ?_
    refine m_sval hc hE hw hk wd_fieldLink_java_lang_String_9_java_lang_String_value__B d_String_charAt_8 ?_
    refine lv_iload_n hx hb d_String_charAt_11 rfl (lv_at hl 1 rfl) ?_
    refine m_calli hw (m_runS (As := [.ref (G.2.2.2 k), .int (nI i)]) (rest := []) hc hE hw (c_Latin1_charAt G l H.size f hk hi hl0) cw_String_495 ss_Latin1_charAt rfl hl.1 rfl (Nat.le_of_ble_eq_true rfl) d_String_charAt_12 ⟨rfl, rfl, by decide, by decide⟩ ⟨by first | decide | (dsimp only; omega), by first | decide | (dsimp only; omega)⟩) (fun r7 g6 H locs p5 hw => ?_)
    obtain ⟨rfl, p5⟩ := p5
    exact m_zret hc hr hlk hw ⟨by decide, by decide⟩ d_String_charAt_15 (by rw [p5]; exact sc_nar _) ⟨rfl, p5⟩
