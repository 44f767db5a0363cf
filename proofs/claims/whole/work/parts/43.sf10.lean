/-! links of the pools, as the walks ask for them -/
theorem l_SF_185_TextFilter : lnk "StreamFilters" 185 F_TextFilter 6 3 := ⟨by decide, "StreamFilters$TextFilter", Or.inl rfl, Or.inl (tb 366 (by decide +kernel) rfl)⟩
theorem cl_SF_78 : Cond.classLink "StreamFilters" 78 "StreamFilters$TextFilter" ∈ TB := (tb 588 (by decide +kernel) rfl)
theorem cw_SF_156 : cwk "StreamFilters" 156 y_SF_tellText b_SF_tellText 2 (some .int) 2 := ⟨Or.inl (tb 589 (by decide +kernel) rfl), (tb 591 (by decide +kernel) rfl), (tb 1 (by decide +kernel) rfl), by decide, by decide, by decide +kernel⟩
theorem cw_SF_182 : cwk "StreamFilters" 182 y_TextFilter_limitAt b_TextFilter_limitAt 2 (some .int) 1 := ⟨Or.inl (tb 592 (by decide +kernel) rfl), (tb 540 (by decide +kernel) rfl), (tb 13 (by decide +kernel) rfl), by decide, by decide, by decide +kernel⟩
theorem cw_SF_77 : cwk "StreamFilters" 77 y_TextFilter_countPatterns b_TextFilter_countPatterns 1 (some .int) 0 := ⟨Or.inl (tb 396 (by decide +kernel) rfl), (tb 399 (by decide +kernel) rfl), (tb 13 (by decide +kernel) rfl), by decide, by decide, by decide +kernel⟩
theorem se_TextFilter_countPatterns : Cond.instanceMethod y_TextFilter_countPatterns ∈ TB ∧ Cond.selects "StreamFilters$TextFilter" y_TextFilter_countPatterns y_TextFilter_countPatterns ∈ TB := ⟨(tb 397 (by decide +kernel) rfl), (tb 398 (by decide +kernel) rfl)⟩
theorem ss_SF_tellText : Cond.static y_SF_tellText ∈ TB := (tb 590 (by decide +kernel) rfl)
theorem nc_DefaultFilter_TextFilter : (R_DefaultFilter, "StreamFilters$TextFilter") ∈ NCs := by decide
theorem nc_JoinedFilter_TextFilter : (R_JoinedFilter, "StreamFilters$TextFilter") ∈ NCs := by decide
theorem nc_OnlyFilter_TextFilter : (R_OnlyFilter, "StreamFilters$TextFilter") ∈ NCs := by decide
theorem nc_StrictFilter_TextFilter : (R_StrictFilter, "StreamFilters$TextFilter") ∈ NCs := by decide
theorem l5_SF_153 : lnk "StreamFilters" 153 F_TextFilter 6 0 ∧ lnk "StreamFilters" 153 F_JoinedFilter 5 0 ∧ lnk "StreamFilters" 153 F_StrictFilter 5 0 ∧ lnk "StreamFilters" 153 F_DefaultFilter 5 0 ∧ lnk "StreamFilters" 153 F_OnlyFilter 5 0 := ⟨⟨by decide, "StreamFilters$Filter", Or.inl rfl, Or.inl (tb 370 (by decide +kernel) rfl)⟩, ⟨by decide, "StreamFilters$Filter", Or.inl rfl, Or.inl (tb 370 (by decide +kernel) rfl)⟩, ⟨by decide, "StreamFilters$Filter", Or.inl rfl, Or.inl (tb 370 (by decide +kernel) rfl)⟩, ⟨by decide, "StreamFilters$Filter", Or.inl rfl, Or.inl (tb 370 (by decide +kernel) rfl)⟩, ⟨by decide, "StreamFilters$Filter", Or.inl rfl, Or.inl (tb 370 (by decide +kernel) rfl)⟩⟩
/-! decode rows -/
theorem d_SF_filter_0 : decode b_SF_filter 0 = .ok (.iload_n 1, 1) := by decide +kernel
theorem d_SF_filter_1 : decode b_SF_filter 1 = .ok (.invokestatic 67, 3) := by decide +kernel
theorem d_SF_filter_4 : decode b_SF_filter 4 = .ok (.ifCond .ne 5, 3) := by decide +kernel
theorem d_SF_filter_7 : decode b_SF_filter 7 = .ok (.iconst (-1), 1) := by decide +kernel
theorem d_SF_filter_8 : decode b_SF_filter 8 = .ok (.ireturn, 1) := by decide +kernel
theorem d_SF_filter_9 : decode b_SF_filter 9 = .ok (.aload_n 0, 1) := by decide +kernel
theorem d_SF_filter_10 : decode b_SF_filter 10 = .ok (.getfield 36, 3) := by decide +kernel
theorem d_SF_filter_13 : decode b_SF_filter 13 = .ok (.iload_n 1, 1) := by decide +kernel
theorem d_SF_filter_14 : decode b_SF_filter 14 = .ok (.aaload, 1) := by decide +kernel
theorem d_SF_filter_15 : decode b_SF_filter 15 = .ok (.astore_n 3, 1) := by decide +kernel
theorem d_SF_filter_16 : decode b_SF_filter 16 = .ok (.iload_n 2, 1) := by decide +kernel
theorem d_SF_filter_17 : decode b_SF_filter 17 = .ok (.ifCond .ne 16, 3) := by decide +kernel
theorem d_SF_filter_20 : decode b_SF_filter 20 = .ok (.aload_n 3, 1) := by decide +kernel
theorem d_SF_filter_21 : decode b_SF_filter 21 = .ok (.ifnonnull 7, 3) := by decide +kernel
theorem d_SF_filter_24 : decode b_SF_filter 24 = .ok (.iconst 0, 1) := by decide +kernel
theorem d_SF_filter_25 : decode b_SF_filter 25 = .ok (.goto 7, 3) := by decide +kernel
theorem d_SF_filter_28 : decode b_SF_filter 28 = .ok (.aload_n 3, 1) := by decide +kernel
theorem d_SF_filter_29 : decode b_SF_filter 29 = .ok (.getfield 153, 3) := by decide +kernel
theorem d_SF_filter_32 : decode b_SF_filter 32 = .ok (.ireturn, 1) := by decide +kernel
theorem d_SF_filter_33 : decode b_SF_filter 33 = .ok (.aload_n 3, 1) := by decide +kernel
theorem d_SF_filter_34 : decode b_SF_filter 34 = .ok (.ifnonnull 5, 3) := by decide +kernel
theorem d_SF_filter_37 : decode b_SF_filter 37 = .ok (.iconst (-1), 1) := by decide +kernel
theorem d_SF_filter_38 : decode b_SF_filter 38 = .ok (.ireturn, 1) := by decide +kernel
theorem d_SF_filter_39 : decode b_SF_filter 39 = .ok (.iload_n 2, 1) := by decide +kernel
theorem d_SF_filter_40 : decode b_SF_filter 40 = .ok (.iconst 1, 1) := by decide +kernel
theorem d_SF_filter_41 : decode b_SF_filter 41 = .ok (.if_icmp .ne 8, 3) := by decide +kernel
theorem d_SF_filter_44 : decode b_SF_filter 44 = .ok (.aload_n 3, 1) := by decide +kernel
theorem d_SF_filter_45 : decode b_SF_filter 45 = .ok (.getfield 86, 3) := by decide +kernel
theorem d_SF_filter_48 : decode b_SF_filter 48 = .ok (.ireturn, 1) := by decide +kernel
theorem d_SF_filter_49 : decode b_SF_filter 49 = .ok (.iload_n 2, 1) := by decide +kernel
theorem d_SF_filter_50 : decode b_SF_filter 50 = .ok (.iconst 2, 1) := by decide +kernel
theorem d_SF_filter_51 : decode b_SF_filter 51 = .ok (.if_icmp .ne 8, 3) := by decide +kernel
theorem d_SF_filter_54 : decode b_SF_filter 54 = .ok (.aload_n 3, 1) := by decide +kernel
theorem d_SF_filter_55 : decode b_SF_filter 55 = .ok (.getfield 90, 3) := by decide +kernel
theorem d_SF_filter_58 : decode b_SF_filter 58 = .ok (.ireturn, 1) := by decide +kernel
theorem d_SF_filter_59 : decode b_SF_filter 59 = .ok (.aload_n 3, 1) := by decide +kernel
theorem d_SF_filter_60 : decode b_SF_filter 60 = .ok (.instanceof 78, 3) := by decide +kernel
theorem d_SF_filter_63 : decode b_SF_filter 63 = .ok (.ifCond .eq 18, 3) := by decide +kernel
theorem d_SF_filter_66 : decode b_SF_filter 66 = .ok (.aload_n 3, 1) := by decide +kernel
theorem d_SF_filter_67 : decode b_SF_filter 67 = .ok (.checkcast 78, 3) := by decide +kernel
theorem d_SF_filter_70 : decode b_SF_filter 70 = .ok (.astore 4, 2) := by decide +kernel
theorem d_SF_filter_72 : decode b_SF_filter 72 = .ok (.aload 4, 2) := by decide +kernel
theorem d_SF_filter_74 : decode b_SF_filter 74 = .ok (.iload_n 2, 1) := by decide +kernel
theorem d_SF_filter_75 : decode b_SF_filter 75 = .ok (.invokestatic 156, 3) := by decide +kernel
theorem d_SF_filter_78 : decode b_SF_filter 78 = .ok (.goto 4, 3) := by decide +kernel
theorem d_SF_filter_81 : decode b_SF_filter 81 = .ok (.iconst (-1), 1) := by decide +kernel
theorem d_SF_filter_82 : decode b_SF_filter 82 = .ok (.ireturn, 1) := by decide +kernel
theorem d_SF_tellText_0 : decode b_SF_tellText 0 = .ok (.iload_n 1, 1) := by decide +kernel
theorem d_SF_tellText_1 : decode b_SF_tellText 1 = .ok (.tableswitch 81 3 8 #[39, 44, 50, 56, 62, 68], 39) := by decide +kernel
theorem d_SF_tellText_40 : decode b_SF_tellText 40 = .ok (.aload_n 0, 1) := by decide +kernel
theorem d_SF_tellText_41 : decode b_SF_tellText 41 = .ok (.invokevirtual 77, 3) := by decide +kernel
theorem d_SF_tellText_44 : decode b_SF_tellText 44 = .ok (.ireturn, 1) := by decide +kernel
theorem d_SF_tellText_45 : decode b_SF_tellText 45 = .ok (.aload_n 0, 1) := by decide +kernel
theorem d_SF_tellText_46 : decode b_SF_tellText 46 = .ok (.iconst 0, 1) := by decide +kernel
theorem d_SF_tellText_47 : decode b_SF_tellText 47 = .ok (.invokevirtual 182, 3) := by decide +kernel
theorem d_SF_tellText_50 : decode b_SF_tellText 50 = .ok (.ireturn, 1) := by decide +kernel
theorem d_SF_tellText_51 : decode b_SF_tellText 51 = .ok (.aload_n 0, 1) := by decide +kernel
theorem d_SF_tellText_52 : decode b_SF_tellText 52 = .ok (.iconst 1, 1) := by decide +kernel
theorem d_SF_tellText_53 : decode b_SF_tellText 53 = .ok (.invokevirtual 182, 3) := by decide +kernel
theorem d_SF_tellText_56 : decode b_SF_tellText 56 = .ok (.ireturn, 1) := by decide +kernel
theorem d_SF_tellText_57 : decode b_SF_tellText 57 = .ok (.aload_n 0, 1) := by decide +kernel
theorem d_SF_tellText_58 : decode b_SF_tellText 58 = .ok (.iconst 2, 1) := by decide +kernel
theorem d_SF_tellText_59 : decode b_SF_tellText 59 = .ok (.invokevirtual 182, 3) := by decide +kernel
theorem d_SF_tellText_62 : decode b_SF_tellText 62 = .ok (.ireturn, 1) := by decide +kernel
theorem d_SF_tellText_63 : decode b_SF_tellText 63 = .ok (.aload_n 0, 1) := by decide +kernel
theorem d_SF_tellText_64 : decode b_SF_tellText 64 = .ok (.iconst 3, 1) := by decide +kernel
theorem d_SF_tellText_65 : decode b_SF_tellText 65 = .ok (.invokevirtual 182, 3) := by decide +kernel
theorem d_SF_tellText_68 : decode b_SF_tellText 68 = .ok (.ireturn, 1) := by decide +kernel
theorem d_SF_tellText_69 : decode b_SF_tellText 69 = .ok (.aload_n 0, 1) := by decide +kernel
theorem d_SF_tellText_70 : decode b_SF_tellText 70 = .ok (.getfield 185, 3) := by decide +kernel
theorem d_SF_tellText_73 : decode b_SF_tellText 73 = .ok (.ifCond .eq 7, 3) := by decide +kernel
theorem d_SF_tellText_76 : decode b_SF_tellText 76 = .ok (.iconst 1, 1) := by decide +kernel
theorem d_SF_tellText_77 : decode b_SF_tellText 77 = .ok (.goto 4, 3) := by decide +kernel
theorem d_SF_tellText_80 : decode b_SF_tellText 80 = .ok (.iconst 0, 1) := by decide +kernel
theorem d_SF_tellText_81 : decode b_SF_tellText 81 = .ok (.ireturn, 1) := by decide +kernel
theorem d_SF_tellText_82 : decode b_SF_tellText 82 = .ok (.iconst (-1), 1) := by decide +kernel
theorem d_SF_tellText_83 : decode b_SF_tellText 83 = .ok (.ireturn, 1) := by decide +kernel
/-- what is told of a text filter -/
noncomputable def ttl (np : Nat) (lm : Nat → Int32) (bs x : Int32) : Int32 := pif (x = 3) (nI np) (pif (x = 4) (lm 0) (pif (x = 5) (lm 1) (pif (x = 6) (lm 2) (pif (x = 7) (lm 3) (pif (x = 8) bs (-1))))))
/-- what is told of a filter -/
noncomputable def flv : Option FV → Int32 → Int32
  | none, x => pif (x = 0) 0 (-1)
  | some v, x => pif (x = 0) v.1 (pif (x = 1) v.2.1 (pif (x = 2) v.2.2.1 (pif (v.1 = 1) (ttl v.2.2.2.2.1 v.2.2.2.2.2.1 v.2.2.2.2.2.2.1 x) (-1))))
set_option maxHeartbeats 4000000 in
set_option maxRecDepth 100000 in
/-- tellText(a, x) -/
theorem c_SF_tellText (G : GG) (l : Launch) (sz : Nat) (f : Wd) {a : Nat} {bs : Int32} {lm : Nat → Int32} {np : Nat} {V Sh : Nat → Int32} {M : Nat → Nat → (Nat → Int32) → Nat → (Nat → Int32) → Prop} (ht : tf G f a bs lm np V Sh M) (x : Int32) : Ci G l y_SF_tellText b_SF_tellText 2 (some .int) ({ frames := 1, cells := 0, slots := 0, locals := 21 }) sz f [.ref a, .int x] (fun v f' => f = f' ∧ v = ttl np lm bs x) := by
  refine ct_of (by decide) (Nat.le_of_ble_eq_true rfl) ?_
  intro p e s m below meth c ls H locs hEn
  obtain ⟨hc, hr, hlk, hin, hE, hw, hsz, hl⟩ := hEn
  have hx := hc.1
  have hb := hc.2.1
  have hl : lv_has ls 2 [(0, .ref a), (1, .int x)] := hl
  have ht0 := ht
  obtain ⟨la, pa, pf, ht1, ht2, ht3, ht4, hbs, hpp⟩ := ht
  refine lv_iload_n hx hb d_SF_tellText_0 rfl (lv_at hl 1 rfl) ?_
  by_cases k1 : x = 3
  · refine lv_tableIn (tgt := 40) hx hb d_SF_tellText_1 (off := 39) (by rw [k1]; decide) (by rw [k1]; decide) (by rw [k1] <;> rfl) (by decide) ?_
    refine lv_aload_n hx hb d_SF_tellText_40 rfl (lv_at hl 0 rfl) ?_
    refine m_calli hw (m_runV (As := []) (rest := []) hc hE hw (c_TextFilter_countPatterns G l H.size f ht0) ht1 rfl cw_SF_77 se_TextFilter_countPatterns rfl hl.1 rfl (Nat.le_of_ble_eq_true rfl) d_SF_tellText_41 ⟨rfl, rfl, by decide, by decide⟩ ⟨by first | decide | (dsimp only; omega), by first | decide | (dsimp only; omega)⟩) (fun r4 g3 H locs p2 hw => ?_)
    obtain ⟨rfl, p2⟩ := p2
    exact m_iret hc hr hlk hw ⟨by first | decide | (dsimp only; omega), by first | decide | (dsimp only; omega)⟩ d_SF_tellText_44 ⟨rfl, by unfold ttl; rw [pif_t k1]; exact p2⟩
  by_cases k5 : x = 4
  · refine lv_tableIn (tgt := 45) hx hb d_SF_tellText_1 (off := 44) (by rw [k5]; decide) (by rw [k5]; decide) (by rw [k5] <;> rfl) (by decide) ?_
    refine lv_aload_n hx hb d_SF_tellText_45 rfl (lv_at hl 0 rfl) ?_
    refine lv_iconst (v := 0) hx hb d_SF_tellText_46 (by decide) ?_
    refine m_calli hw (m_runV (As := [.int 0]) (rest := []) hc hE hw (c_TextFilter_limitAt G l H.size f ht0 (k := 0) (by decide)) ht1 rfl cw_SF_182 se_TextFilter_limitAt rfl hl.1 rfl (Nat.le_of_ble_eq_true rfl) d_SF_tellText_47 ⟨rfl, rfl, by decide, by decide⟩ ⟨by first | decide | (dsimp only; omega), by first | decide | (dsimp only; omega)⟩) (fun r8 g7 H locs p6 hw => ?_)
    obtain ⟨rfl, p6⟩ := p6
    exact m_iret hc hr hlk hw ⟨by first | decide | (dsimp only; omega), by first | decide | (dsimp only; omega)⟩ d_SF_tellText_50 ⟨rfl, by unfold ttl; rw [pif_f k1, pif_t k5]; exact p6⟩
  by_cases k9 : x = 5
  · refine lv_tableIn (tgt := 51) hx hb d_SF_tellText_1 (off := 50) (by rw [k9]; decide) (by rw [k9]; decide) (by rw [k9] <;> rfl) (by decide) ?_
    refine lv_aload_n hx hb d_SF_tellText_51 rfl (lv_at hl 0 rfl) ?_
    refine lv_iconst (v := 1) hx hb d_SF_tellText_52 (by decide) ?_
    refine m_calli hw (m_runV (As := [.int 1]) (rest := []) hc hE hw (c_TextFilter_limitAt G l H.size f ht0 (k := 1) (by decide)) ht1 rfl cw_SF_182 se_TextFilter_limitAt rfl hl.1 rfl (Nat.le_of_ble_eq_true rfl) d_SF_tellText_53 ⟨rfl, rfl, by decide, by decide⟩ ⟨by first | decide | (dsimp only; omega), by first | decide | (dsimp only; omega)⟩) (fun r12 g11 H locs p10 hw => ?_)
    obtain ⟨rfl, p10⟩ := p10
    exact m_iret hc hr hlk hw ⟨by first | decide | (dsimp only; omega), by first | decide | (dsimp only; omega)⟩ d_SF_tellText_56 ⟨rfl, by unfold ttl; rw [pif_f k1, pif_f k5, pif_t k9]; exact p10⟩
  by_cases k13 : x = 6
  · refine lv_tableIn (tgt := 57) hx hb d_SF_tellText_1 (off := 56) (by rw [k13]; decide) (by rw [k13]; decide) (by rw [k13] <;> rfl) (by decide) ?_
    refine lv_aload_n hx hb d_SF_tellText_57 rfl (lv_at hl 0 rfl) ?_
    refine lv_iconst (v := 2) hx hb d_SF_tellText_58 (by decide) ?_
    refine m_calli hw (m_runV (As := [.int 2]) (rest := []) hc hE hw (c_TextFilter_limitAt G l H.size f ht0 (k := 2) (by decide)) ht1 rfl cw_SF_182 se_TextFilter_limitAt rfl hl.1 rfl (Nat.le_of_ble_eq_true rfl) d_SF_tellText_59 ⟨rfl, rfl, by decide, by decide⟩ ⟨by first | decide | (dsimp only; omega), by first | decide | (dsimp only; omega)⟩) (fun r16 g15 H locs p14 hw => ?_)
    obtain ⟨rfl, p14⟩ := p14
    exact m_iret hc hr hlk hw ⟨by first | decide | (dsimp only; omega), by first | decide | (dsimp only; omega)⟩ d_SF_tellText_62 ⟨rfl, by unfold ttl; rw [pif_f k1, pif_f k5, pif_f k9, pif_t k13]; exact p14⟩
  by_cases k17 : x = 7
  · refine lv_tableIn (tgt := 63) hx hb d_SF_tellText_1 (off := 62) (by rw [k17]; decide) (by rw [k17]; decide) (by rw [k17] <;> rfl) (by decide) ?_
    refine lv_aload_n hx hb d_SF_tellText_63 rfl (lv_at hl 0 rfl) ?_
    refine lv_iconst (v := 3) hx hb d_SF_tellText_64 (by decide) ?_
    refine m_calli hw (m_runV (As := [.int 3]) (rest := []) hc hE hw (c_TextFilter_limitAt G l H.size f ht0 (k := 3) (by decide)) ht1 rfl cw_SF_182 se_TextFilter_limitAt rfl hl.1 rfl (Nat.le_of_ble_eq_true rfl) d_SF_tellText_65 ⟨rfl, rfl, by decide, by decide⟩ ⟨by first | decide | (dsimp only; omega), by first | decide | (dsimp only; omega)⟩) (fun r20 g19 H locs p18 hw => ?_)
    obtain ⟨rfl, p18⟩ := p18
    exact m_iret hc hr hlk hw ⟨by first | decide | (dsimp only; omega), by first | decide | (dsimp only; omega)⟩ d_SF_tellText_68 ⟨rfl, by unfold ttl; rw [pif_f k1, pif_f k5, pif_f k9, pif_f k13, pif_t k17]; exact p18⟩
  by_cases k21 : x = 8
  · refine lv_tableIn (tgt := 69) hx hb d_SF_tellText_1 (off := 68) (by rw [k21]; decide) (by rw [k21]; decide) (by rw [k21] <;> rfl) (by decide) ?_
    refine lv_aload_n hx hb d_SF_tellText_69 rfl (lv_at hl 0 rfl) ?_
    refine m_get hc hE hw ht1 kc_TextFilter l_SF_185_TextFilter rfl d_SF_tellText_70 ?_
    refine lv_if_eq (tgt := 80) hx hb d_SF_tellText_73 (by decide) (fun c22 => ?_) (fun c22 => ?_)
    · refine lv_iconst (v := 0) hx hb d_SF_tellText_80 (by decide) ?_
      exact m_iret hc hr hlk hw ⟨by first | decide | (dsimp only; omega), by first | decide | (dsimp only; omega)⟩ d_SF_tellText_81 ⟨rfl, by unfold ttl; rw [pif_f k1, pif_f k5, pif_f k9, pif_f k13, pif_f k17, pif_t k21]; exact c22.symm⟩
    · refine lv_iconst (v := 1) hx hb d_SF_tellText_76 (by decide) ?_
      refine lv_goto (tgt := 81) hx hb d_SF_tellText_77 (by decide) ?_
      exact m_iret hc hr hlk hw ⟨by first | decide | (dsimp only; omega), by first | decide | (dsimp only; omega)⟩ d_SF_tellText_81 ⟨rfl, by unfold ttl; rw [pif_f k1, pif_f k5, pif_f k9, pif_f k13, pif_f k17, pif_t k21]; exact (hbs.resolve_left c22).symm⟩
  refine lv_tableOut (tgt := 82) hx hb d_SF_tellText_1 (by have := lv_neT k1 (show (3 : Int32).toInt = 3 by decide); have := lv_neT k5 (show (4 : Int32).toInt = 4 by decide); have := lv_neT k9 (show (5 : Int32).toInt = 5 by decide); have := lv_neT k13 (show (6 : Int32).toInt = 6 by decide); have := lv_neT k17 (show (7 : Int32).toInt = 7 by decide); have := lv_neT k21 (show (8 : Int32).toInt = 8 by decide); omega) (by decide) ?_
  refine lv_iconst (v := (-1)) hx hb d_SF_tellText_82 (by decide) ?_
  exact m_iret hc hr hlk hw ⟨by first | decide | (dsimp only; omega), by first | decide | (dsimp only; omega)⟩ d_SF_tellText_83 ⟨rfl, by unfold ttl; rw [pif_f k1, pif_f k5, pif_f k9, pif_f k13, pif_f k17, pif_f k21]⟩

set_option maxHeartbeats 4000000 in
set_option maxRecDepth 100000 in
/-- filter(x, y) -/
theorem c_SF_filter (G : GG) (l : Launch) (sz : Nat) (f : Wd) {N root pn nn mn : Nat} {ad : Nat → Nat} {E : Nat → va_E} {g : Wd} {pt nt mt : Nat → Int32} {dp rf by_ co tx lx : Int32} {fl : Nat → Option FV} (hN : 9 ≤ N) (hRg : Rg N ad E g f) (hS : SC G ad E g root pn pt nn nt mn mt dp rf by_ co tx lx fl) (x y : Int32) : Ci G l y_SF_filter b_SF_filter 5 (some .int) ({ frames := 2, cells := 0, slots := 0, locals := 43 }) sz f [.ref root, .int x, .int y] (fun v f' => (¬ (¬ x < 0 ∧ ¬ 10 ≤ x) → v = -1) ∧ (∀ k : Nat, k < 10 → x = nI k → v = flv (fl k) y) ∧ SCR G N ad E g root f' pn pt nn nt mn mt dp rf by_ co tx lx fl) := by
  refine ct_of (by decide) (Nat.le_of_ble_eq_true rfl) ?_
  intro p e s m below meth c ls H locs hEn
  obtain ⟨hc, hr, hlk, hin, hE, hw, hsz, hl⟩ := hEn
  have hx := hc.1
  have hb := hc.2.1
  have hl : lv_has ls 5 [(0, .ref root), (1, .int x), (2, .int y)] := hl
  have hS0 := hS
  obtain ⟨hroot, hPB, hNB, hMB, ⟨so, di, le, hQ⟩, ⟨fr, en, pi, li, nu, rj, sh, mf, me, nf, ne, hRd⟩, fa, hF8, hFL⟩ := hS
  obtain ⟨A0, eA0⟩ : ∃ z, z = ad 0 := ⟨_, rfl⟩
  obtain ⟨A1, eA1⟩ : ∃ z, z = ad 1 := ⟨_, rfl⟩
  obtain ⟨A2, eA2⟩ : ∃ z, z = ad 2 := ⟨_, rfl⟩
  obtain ⟨A3, eA3⟩ : ∃ z, z = ad 3 := ⟨_, rfl⟩
  obtain ⟨A4, eA4⟩ : ∃ z, z = ad 4 := ⟨_, rfl⟩
  obtain ⟨A5, eA5⟩ : ∃ z, z = ad 5 := ⟨_, rfl⟩
  obtain ⟨A6, eA6⟩ : ∃ z, z = ad 6 := ⟨_, rfl⟩
  obtain ⟨A7, eA7⟩ : ∃ z, z = ad 7 := ⟨_, rfl⟩
  obtain ⟨A8, eA8⟩ : ∃ z, z = ad 8 := ⟨_, rfl⟩
  have hgf := hRg.2.2.1
  have h0 : f root = some (.inr (0, [.ref A0, .ref A2, .ref A7, .ref A8])) := by rw [eA0, eA2, eA7, eA8]; exact hgf _ _ hroot
  have h2 : f A2 = some (.inr (2, [.ref A3, .ref A5, .int dp, .int rf, .int by_, .int so, .int di, .int le, .int co, .int tx, .int lx])) := by rw [eA2, eA3, eA5]; exact hRg.get 2 (by omega) hQ
  have h8 : f A8 = some (.inl (G.2.1 2, 10, .inr (.inr (.inr (.inr fa))))) := by rw [eA8]; exact hRg.get 8 (by omega) hF8
  have hsP : sg G f A0 A1 90 pn pt := by rw [eA0, eA1]; exact hPB.sg hRg (by omega) (by omega)
  have hsN : sg G f A3 A4 40 nn nt := by rw [eA3, eA4]; exact hNB.sg hRg (by omega) (by omega)
  have hsM : sg G f A5 A6 12 mn mt := by rw [eA5, eA6]; exact hMB.sg hRg (by omega) (by omega)
  refine lv_iload_n hx hb d_SF_filter_0 rfl (lv_at hl 1 rfl) ?_
  refine m_calli hw (m_runS (As := [.int x]) (rest := []) hc hE hw (c_SF_isPlace G l H.size f x) cw_SF_67 ss_SF_isPlace rfl hl.1 rfl (Nat.le_of_ble_eq_true rfl) d_SF_filter_1 ⟨rfl, rfl, by decide, by decide⟩ ⟨by first | decide | (dsimp only; omega), by first | decide | (dsimp only; omega)⟩) (fun r3 g2 H locs p1 hw => ?_)
  obtain ⟨rfl, p1⟩ := p1
  refine lv_if_ne (tgt := 9) hx hb d_SF_filter_4 (by decide) (fun c4 => ?_) (fun c4 => ?_)
  · have hpl := bI_n.mp (fun z => c4 (p1.trans z))
    obtain ⟨k, hk, hxk⟩ : ∃ k : Nat, k < 10 ∧ x = nI k := vp_in_of (vin (n := 10) hpl.1 hpl.2 (Nat.le_refl 10) (by decide)) (by decide)
    refine lv_aload_n hx hb d_SF_filter_9 rfl (lv_at hl 0 rfl) ?_
    refine m_get hc hE hw h0 kc_SF l_SF_36_SF rfl d_SF_filter_10 ?_
    refine lv_iload_n hx hb d_SF_filter_13 rfl (lv_at hl 1 rfl) ?_
    refine m_aald hc hE hw 2 h8 rfl (vin (n := 10) hpl.1 hpl.2 (Nat.le_refl 10) (by decide)) d_SF_filter_14 ?_
    have hcl : x.toNatClampNeg = k := by rw [hxk]; exact nI_clamp (by omega)
    rw [hcl]
    rcases hFL k hk with ⟨hfk, hnn⟩ | ⟨Fa, vva, hfk, hsma, hrha⟩
    · rw [hfk]
      refine lv_astore_nN (lv' := [(3, .null), (0, .ref root), (1, .int x), (2, .int y)]) hx hb d_SF_filter_15 rfl hl (by decide) rfl (fun ls hl => ?_)
      refine lv_iload_n hx hb d_SF_filter_16 rfl (lv_at hl 3 rfl) ?_
      refine lv_if_ne (tgt := 33) hx hb d_SF_filter_17 (by decide) (fun c5 => ?_) (fun c5 => ?_)
      · refine lv_aload_nN hx hb d_SF_filter_33 rfl (lv_at hl 0 rfl) ?_
        refine lv_ifnonnullN hx hb d_SF_filter_34 ?_
        refine lv_iconst (v := (-1)) hx hb d_SF_filter_37 (by decide) ?_
        exact m_iret hc hr hlk hw ⟨by first | decide | (dsimp only; omega), by first | decide | (dsimp only; omega)⟩ d_SF_filter_38 ⟨fun z => absurd hpl z, fun k2 h1 h2 => by have ek : k = k2 := (nI_eq (by omega) (by omega)).mp (hxk.symm.trans h2); subst ek; rw [hnn]; exact (pif_f c5).symm, ⟨E, g, hRg, gle.rf, fun _ _ => rfl, hS0⟩⟩
      · refine lv_aload_nN hx hb d_SF_filter_20 rfl (lv_at hl 0 rfl) ?_
        refine lv_ifnonnullN hx hb d_SF_filter_21 ?_
        refine lv_iconst (v := 0) hx hb d_SF_filter_24 (by decide) ?_
        refine lv_goto (tgt := 32) hx hb d_SF_filter_25 (by decide) ?_
        exact m_iret hc hr hlk hw ⟨by first | decide | (dsimp only; omega), by first | decide | (dsimp only; omega)⟩ d_SF_filter_32 ⟨fun z => absurd hpl z, fun k2 h1 h2 => by have ek : k = k2 := (nI_eq (by omega) (by omega)).mp (hxk.symm.trans h2); subst ek; rw [hnn]; exact (pif_t c5).symm, ⟨E, g, hRg, gle.rf, fun _ _ => rfl, hS0⟩⟩
    · rw [hfk]
      obtain ⟨l0a, h0a, hl0a, hh0a, hl1a, hl2a, hh1a, hh2a, hrfa⟩ := hrha
      obtain ⟨cFa, rFa, fcFa, hcFa⟩ := RF.head hrfa
      obtain ⟨kFa, ekFa⟩ : ∃ z, z = vva.1 := ⟨_, rfl⟩
      obtain ⟨lFa, elFa⟩ : ∃ z, z = vva.2.1 := ⟨_, rfl⟩
      obtain ⟨gFa, egFa⟩ : ∃ z, z = vva.2.2.1 := ⟨_, rfl⟩
      have hcella : f Fa = some (.inr (cFa, .int kFa :: .int lFa :: .int gFa :: rFa)) := by rw [ekFa, elFa, egFa]; exact hgf _ _ hcFa
      refine lv_astore_n (lv' := [(3, .ref Fa), (0, .ref root), (1, .int x), (2, .int y)]) hx hb d_SF_filter_15 rfl hl (by decide) rfl (fun ls hl => ?_)
      refine lv_iload_n hx hb d_SF_filter_16 rfl (lv_at hl 3 rfl) ?_
      refine lv_if_ne (tgt := 33) hx hb d_SF_filter_17 (by decide) (fun c6 => ?_) (fun c6 => ?_)
      · refine lv_aload_n hx hb d_SF_filter_33 rfl (lv_at hl 0 rfl) ?_
        refine lv_ifnonnull (tgt := 39) hx hb d_SF_filter_34 (by decide) ?_
        refine lv_iload_n hx hb d_SF_filter_39 rfl (lv_at hl 3 rfl) ?_
        refine lv_iconst (v := 1) hx hb d_SF_filter_40 (by decide) ?_
        refine lv_icmp_ne (tgt := 49) hx hb d_SF_filter_41 (by decide) (fun c7 => ?_) (fun c7 => ?_)
        · refine lv_iload_n hx hb d_SF_filter_49 rfl (lv_at hl 3 rfl) ?_
          refine lv_iconst (v := 2) hx hb d_SF_filter_50 (by decide) ?_
          refine lv_icmp_ne (tgt := 59) hx hb d_SF_filter_51 (by decide) (fun c8 => ?_) (fun c8 => ?_)
          · obtain ⟨da, eda⟩ : ∃ z, h0a = z + 1 := ⟨h0a - 1, by omega⟩
            have hrfax := hrfa
            rw [eda] at hrfax
            rcases hrfax with ⟨bs, lm, np, V, Sh, M, htf, evv⟩ | ⟨b1, b2, v1, v2, hcx, hr1, hr2, evv⟩ | ⟨b1, v1, al1, hcx, hr1, hal1, evv⟩ | ⟨b1, v1, gv1, hcx, hr1, evv⟩ | ⟨b1, sa1, sr1, scap1, bn1, bt1, v1, hcx, hsg1, hr1, evv⟩
            · have hkd : vva.1 = 1 := by rw [evv]
              have htf0 := htf.mono hgf
              obtain ⟨la, pa, pf, ht1, ht2, ht3, ht4, hbs, hpp⟩ := htf
              have hcf : f Fa = some (.inr (5, [.int 1, .int 1, .int 1, .int bs, .ref la, .ref pa])) := hgf _ _ ht1
              refine lv_aload_n hx hb d_SF_filter_59 rfl (lv_at hl 0 rfl) ?_
              refine m_instY hc hE hw hcf rfl cl_SF_78 (Or.inl rfl) d_SF_filter_60 ?_
              refine lv_if_eq (tgt := 81) hx hb d_SF_filter_63 (by decide) (fun z => absurd z (by decide)) (fun _ => ?_)
              refine lv_aload_n hx hb d_SF_filter_66 rfl (lv_at hl 0 rfl) ?_
              refine m_castY hc hE hw hcf rfl cl_SF_78 (Or.inl rfl) d_SF_filter_67 ?_
              refine lv_astore (lv' := [(4, .ref Fa), (3, .ref Fa), (0, .ref root), (1, .int x), (2, .int y)]) hx hb d_SF_filter_70 hl (by decide) rfl (fun ls hl => ?_)
              refine lv_aload hx hb d_SF_filter_72 (lv_at hl 0 rfl) ?_
              refine lv_iload_n hx hb d_SF_filter_74 rfl (lv_at hl 4 rfl) ?_
              refine m_calli hw (m_runS (As := [.ref Fa, .int y]) (rest := []) hc hE hw (c_SF_tellText G l H.size f htf0 y) cw_SF_156 ss_SF_tellText rfl hl.1 rfl (Nat.le_of_ble_eq_true rfl) d_SF_filter_75 ⟨rfl, rfl, by decide, by decide⟩ ⟨by first | decide | (dsimp only; omega), by first | decide | (dsimp only; omega)⟩) (fun r11 g10 H locs p9 hw => ?_)
              obtain ⟨rfl, p9⟩ := p9
              refine lv_goto (tgt := 82) hx hb d_SF_filter_78 (by decide) ?_
              exact m_iret hc hr hlk hw ⟨by first | decide | (dsimp only; omega), by first | decide | (dsimp only; omega)⟩ d_SF_filter_82 ⟨fun z => absurd hpl z, fun k2 h1 h2 => by have ek : k = k2 := (nI_eq (by omega) (by omega)).mp (hxk.symm.trans h2); subst ek; rw [hsma]; show _ = pif _ _ (pif _ _ (pif _ _ (pif _ _ _))); rw [pif_f c6, pif_f c7, pif_f c8, pif_t hkd, evv]; exact p9, ⟨E, g, hRg, gle.rf, fun _ _ => rfl, hS0⟩⟩
            · have hkd : vva.1 = 2 := by rw [evv]
              have hcf : f Fa = some (.inr (6, [.int 2, .int (v1.2.1 + v2.2.1), .int (1 + (if v1.2.2.1 < v2.2.2.1 then v2.2.2.1 else v1.2.2.1)), .ref b1, .ref b2])) := hgf _ _ hcx
              refine lv_aload_n hx hb d_SF_filter_59 rfl (lv_at hl 0 rfl) ?_
              refine m_instN hc hE hw hcf rfl cl_SF_78 nc_JoinedFilter_TextFilter d_SF_filter_60 ?_
              refine lv_if_eq (tgt := 81) hx hb d_SF_filter_63 (by decide) (fun _ => ?_) (fun z => absurd z (by decide))
              refine lv_iconst (v := (-1)) hx hb d_SF_filter_81 (by decide) ?_
              exact m_iret hc hr hlk hw ⟨by first | decide | (dsimp only; omega), by first | decide | (dsimp only; omega)⟩ d_SF_filter_82 ⟨fun z => absurd hpl z, fun k2 h1 h2 => by have ek : k = k2 := (nI_eq (by omega) (by omega)).mp (hxk.symm.trans h2); subst ek; rw [hsma]; show _ = pif _ _ (pif _ _ (pif _ _ (pif _ _ _))); rw [pif_f c6, pif_f c7, pif_f c8, pif_f (by rw [hkd]; decide)], ⟨E, g, hRg, gle.rf, fun _ _ => rfl, hS0⟩⟩
            · have hkd : vva.1 = 3 := by rw [evv]
              have hcf : f Fa = some (.inr (7, [.int 3, .int v1.2.1, .int (1 + v1.2.2.1), .ref b1, .int al1])) := hgf _ _ hcx
              refine lv_aload_n hx hb d_SF_filter_59 rfl (lv_at hl 0 rfl) ?_
              refine m_instN hc hE hw hcf rfl cl_SF_78 nc_StrictFilter_TextFilter d_SF_filter_60 ?_
              refine lv_if_eq (tgt := 81) hx hb d_SF_filter_63 (by decide) (fun _ => ?_) (fun z => absurd z (by decide))
              refine lv_iconst (v := (-1)) hx hb d_SF_filter_81 (by decide) ?_
              exact m_iret hc hr hlk hw ⟨by first | decide | (dsimp only; omega), by first | decide | (dsimp only; omega)⟩ d_SF_filter_82 ⟨fun z => absurd hpl z, fun k2 h1 h2 => by have ek : k = k2 := (nI_eq (by omega) (by omega)).mp (hxk.symm.trans h2); subst ek; rw [hsma]; show _ = pif _ _ (pif _ _ (pif _ _ (pif _ _ _))); rw [pif_f c6, pif_f c7, pif_f c8, pif_f (by rw [hkd]; decide)], ⟨E, g, hRg, gle.rf, fun _ _ => rfl, hS0⟩⟩
            · have hkd : vva.1 = 4 := by rw [evv]
              have hcf : f Fa = some (.inr (8, [.int 4, .int v1.2.1, .int (1 + v1.2.2.1), .ref b1, .int gv1])) := hgf _ _ hcx
              refine lv_aload_n hx hb d_SF_filter_59 rfl (lv_at hl 0 rfl) ?_
              refine m_instN hc hE hw hcf rfl cl_SF_78 nc_DefaultFilter_TextFilter d_SF_filter_60 ?_
              refine lv_if_eq (tgt := 81) hx hb d_SF_filter_63 (by decide) (fun _ => ?_) (fun z => absurd z (by decide))
              refine lv_iconst (v := (-1)) hx hb d_SF_filter_81 (by decide) ?_
              exact m_iret hc hr hlk hw ⟨by first | decide | (dsimp only; omega), by first | decide | (dsimp only; omega)⟩ d_SF_filter_82 ⟨fun z => absurd hpl z, fun k2 h1 h2 => by have ek : k = k2 := (nI_eq (by omega) (by omega)).mp (hxk.symm.trans h2); subst ek; rw [hsma]; show _ = pif _ _ (pif _ _ (pif _ _ (pif _ _ _))); rw [pif_f c6, pif_f c7, pif_f c8, pif_f (by rw [hkd]; decide)], ⟨E, g, hRg, gle.rf, fun _ _ => rfl, hS0⟩⟩
            · have hkd : vva.1 = 5 := by rw [evv]
              have hcf : f Fa = some (.inr (9, [.int 5, .int v1.2.1, .int (1 + v1.2.2.1), .ref b1, .ref sa1])) := hgf _ _ hcx
              refine lv_aload_n hx hb d_SF_filter_59 rfl (lv_at hl 0 rfl) ?_
              refine m_instN hc hE hw hcf rfl cl_SF_78 nc_OnlyFilter_TextFilter d_SF_filter_60 ?_
              refine lv_if_eq (tgt := 81) hx hb d_SF_filter_63 (by decide) (fun _ => ?_) (fun z => absurd z (by decide))
              refine lv_iconst (v := (-1)) hx hb d_SF_filter_81 (by decide) ?_
              exact m_iret hc hr hlk hw ⟨by first | decide | (dsimp only; omega), by first | decide | (dsimp only; omega)⟩ d_SF_filter_82 ⟨fun z => absurd hpl z, fun k2 h1 h2 => by have ek : k = k2 := (nI_eq (by omega) (by omega)).mp (hxk.symm.trans h2); subst ek; rw [hsma]; show _ = pif _ _ (pif _ _ (pif _ _ (pif _ _ _))); rw [pif_f c6, pif_f c7, pif_f c8, pif_f (by rw [hkd]; decide)], ⟨E, g, hRg, gle.rf, fun _ _ => rfl, hS0⟩⟩
          · refine lv_aload_n hx hb d_SF_filter_54 rfl (lv_at hl 0 rfl) ?_
            refine m_getF hc hE hw hcella fcFa l5_SF_90 rfl d_SF_filter_55 ?_
            exact m_iret hc hr hlk hw ⟨by first | decide | (dsimp only; omega), by first | decide | (dsimp only; omega)⟩ d_SF_filter_58 ⟨fun z => absurd hpl z, fun k2 h1 h2 => by have ek : k = k2 := (nI_eq (by omega) (by omega)).mp (hxk.symm.trans h2); subst ek; rw [hsma]; show _ = pif _ _ (pif _ _ (pif _ _ _)); rw [pif_f c6, pif_f c7, pif_t c8]; exact egFa, ⟨E, g, hRg, gle.rf, fun _ _ => rfl, hS0⟩⟩
        · refine lv_aload_n hx hb d_SF_filter_44 rfl (lv_at hl 0 rfl) ?_
          refine m_getF hc hE hw hcella fcFa l5_SF_86 rfl d_SF_filter_45 ?_
          exact m_iret hc hr hlk hw ⟨by first | decide | (dsimp only; omega), by first | decide | (dsimp only; omega)⟩ d_SF_filter_48 ⟨fun z => absurd hpl z, fun k2 h1 h2 => by have ek : k = k2 := (nI_eq (by omega) (by omega)).mp (hxk.symm.trans h2); subst ek; rw [hsma]; show _ = pif _ _ (pif _ _ _); rw [pif_f c6, pif_t c7]; exact elFa, ⟨E, g, hRg, gle.rf, fun _ _ => rfl, hS0⟩⟩
      · refine lv_aload_n hx hb d_SF_filter_20 rfl (lv_at hl 0 rfl) ?_
        refine lv_ifnonnull (tgt := 28) hx hb d_SF_filter_21 (by decide) ?_
        refine lv_aload_n hx hb d_SF_filter_28 rfl (lv_at hl 0 rfl) ?_
        refine m_getF hc hE hw hcella fcFa l5_SF_153 rfl d_SF_filter_29 ?_
        exact m_iret hc hr hlk hw ⟨by first | decide | (dsimp only; omega), by first | decide | (dsimp only; omega)⟩ d_SF_filter_32 ⟨fun z => absurd hpl z, fun k2 h1 h2 => by have ek : k = k2 := (nI_eq (by omega) (by omega)).mp (hxk.symm.trans h2); subst ek; rw [hsma]; show _ = pif _ _ _; rw [pif_t c6]; exact ekFa, ⟨E, g, hRg, gle.rf, fun _ _ => rfl, hS0⟩⟩
  · refine lv_iconst (v := (-1)) hx hb d_SF_filter_7 (by decide) ?_
    exact m_iret hc hr hlk hw ⟨by first | decide | (dsimp only; omega), by first | decide | (dsimp only; omega)⟩ d_SF_filter_8 ⟨fun _ => rfl, fun k hk hxk => absurd (by rw [hxk]; exact plc hk) (bI_0.mp (p1.symm.trans c4)), ⟨E, g, hRg, gle.rf, fun _ _ => rfl, hS0⟩⟩
