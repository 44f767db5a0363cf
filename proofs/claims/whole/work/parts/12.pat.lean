/-! links of the pools, as the walks ask for them -/
theorem l_ClassPattern_21_ClassPattern : lnk "StreamFilters$ClassPattern" 21 F_ClassPattern 7 1 := ⟨by decide, "StreamFilters$ClassPattern", Or.inl rfl, Or.inl (tb 333 (by decide +kernel) rfl)⟩
theorem l_ClassPattern_26_ClassPattern : lnk "StreamFilters$ClassPattern" 26 F_ClassPattern 7 2 := ⟨by decide, "StreamFilters$ClassPattern", Or.inl rfl, Or.inl (tb 334 (by decide +kernel) rfl)⟩
theorem l_ClassPattern_30_ClassPattern : lnk "StreamFilters$ClassPattern" 30 F_ClassPattern 7 3 := ⟨by decide, "StreamFilters$ClassPattern", Or.inl rfl, Or.inl (tb 335 (by decide +kernel) rfl)⟩
theorem l_ClassPattern_34_ClassPattern : lnk "StreamFilters$ClassPattern" 34 F_ClassPattern 7 4 := ⟨by decide, "StreamFilters$ClassPattern", Or.inl rfl, Or.inl (tb 336 (by decide +kernel) rfl)⟩
theorem l_ClassPattern_38_ClassPattern : lnk "StreamFilters$ClassPattern" 38 F_ClassPattern 7 5 := ⟨by decide, "StreamFilters$ClassPattern", Or.inl rfl, Or.inl (tb 337 (by decide +kernel) rfl)⟩
theorem l_ClassPattern_42_ClassPattern : lnk "StreamFilters$ClassPattern" 42 F_ClassPattern 7 6 := ⟨by decide, "StreamFilters$ClassPattern", Or.inl rfl, Or.inl (tb 338 (by decide +kernel) rfl)⟩
theorem l_ClassPattern_47_Question : lnk "StreamFilters$ClassPattern" 47 F_Question 11 1 := ⟨by decide, "StreamFilters$Question", Or.inl rfl, Or.inl (tb 53 (by decide +kernel) rfl)⟩
theorem l_ClassPattern_58_Question : lnk "StreamFilters$ClassPattern" 58 F_Question 11 0 := ⟨by decide, "StreamFilters$Question", Or.inl rfl, Or.inl (tb 50 (by decide +kernel) rfl)⟩
theorem l_ClassPattern_9_ClassPattern : lnk "StreamFilters$ClassPattern" 9 F_ClassPattern 7 0 := ⟨by decide, "StreamFilters$ClassPattern", Or.inl rfl, Or.inl (tb 332 (by decide +kernel) rfl)⟩
theorem cw_ClassPattern_43 : cwk "StreamFilters$ClassPattern" 43 y_ClassPattern_hasModule b_ClassPattern_hasModule 1 (some .boolean) 0 := ⟨Or.inl (tb 553 (by decide +kernel) rfl), (tb 556 (by decide +kernel) rfl), (tb 11 (by decide +kernel) rfl), by decide, by decide, by decide +kernel⟩
theorem cw_ClassPattern_52 : cwk "StreamFilters$ClassPattern" 52 y_Signs_isPart b_Signs_isPart 4 (some .boolean) 3 := ⟨Or.inl (tb 557 (by decide +kernel) rfl), (tb 560 (by decide +kernel) rfl), (tb 2 (by decide +kernel) rfl), by decide, by decide, by decide +kernel⟩
theorem cw_ClassPattern_61 : cwk "StreamFilters$ClassPattern" 61 y_ClassPattern_beginsName b_ClassPattern_beginsName 2 (some .boolean) 1 := ⟨Or.inl (tb 562 (by decide +kernel) rfl), (tb 565 (by decide +kernel) rfl), (tb 11 (by decide +kernel) rfl), by decide, by decide, by decide +kernel⟩
theorem cw_ClassPattern_65 : cwk "StreamFilters$ClassPattern" 65 y_ClassPattern_hasDotBehind b_ClassPattern_hasDotBehind 2 (some .boolean) 2 := ⟨Or.inl (tb 567 (by decide +kernel) rfl), (tb 569 (by decide +kernel) rfl), (tb 11 (by decide +kernel) rfl), by decide, by decide, by decide +kernel⟩
theorem cw_ClassPattern_69 : cwk "StreamFilters$ClassPattern" 69 y_Signs_beginsWithPart b_Signs_beginsWithPart 5 (some .boolean) 3 := ⟨Or.inl (tb 566 (by decide +kernel) rfl), (tb 526 (by decide +kernel) rfl), (tb 2 (by decide +kernel) rfl), by decide, by decide, by decide +kernel⟩
theorem cw_ClassPattern_72 : cwk "StreamFilters$ClassPattern" 72 y_Signs_length b_Signs_length 1 (some .int) 0 := ⟨Or.inl (tb 570 (by decide +kernel) rfl), (tb 190 (by decide +kernel) rfl), (tb 2 (by decide +kernel) rfl), by decide, by decide, by decide +kernel⟩
theorem cw_ClassPattern_76 : cwk "StreamFilters$ClassPattern" 76 y_Signs_find b_Signs_find 5 (some .int) 3 := ⟨Or.inl (tb 571 (by decide +kernel) rfl), (tb 226 (by decide +kernel) rfl), (tb 2 (by decide +kernel) rfl), by decide, by decide, by decide +kernel⟩
theorem se_ClassPattern_beginsName : Cond.instanceMethod y_ClassPattern_beginsName ∈ TB ∧ Cond.selects "StreamFilters$ClassPattern" y_ClassPattern_beginsName y_ClassPattern_beginsName ∈ TB := ⟨(tb 564 (by decide +kernel) rfl), (tbs 13 (by decide +kernel) rfl)⟩
theorem se_ClassPattern_hasModule : Cond.instanceMethod y_ClassPattern_hasModule ∈ TB ∧ Cond.selects "StreamFilters$ClassPattern" y_ClassPattern_hasModule y_ClassPattern_hasModule ∈ TB := ⟨(tb 555 (by decide +kernel) rfl), (tbs 12 (by decide +kernel) rfl)⟩
theorem se_Signs_find : Cond.instanceMethod y_Signs_find ∈ TB ∧ Cond.selects "StreamFilters$Signs" y_Signs_find y_Signs_find ∈ TB := ⟨(tb 224 (by decide +kernel) rfl), (tb 225 (by decide +kernel) rfl)⟩
theorem se_Signs_isPart : Cond.instanceMethod y_Signs_isPart ∈ TB ∧ Cond.selects "StreamFilters$Signs" y_Signs_isPart y_Signs_isPart ∈ TB := ⟨(tb 558 (by decide +kernel) rfl), (tb 559 (by decide +kernel) rfl)⟩
theorem se_Signs_length : Cond.instanceMethod y_Signs_length ∈ TB ∧ Cond.selects "StreamFilters$Signs" y_Signs_length y_Signs_length ∈ TB := ⟨(tb 188 (by decide +kernel) rfl), (tb 189 (by decide +kernel) rfl)⟩
theorem ss_ClassPattern_hasDotBehind : Cond.static y_ClassPattern_hasDotBehind ∈ TB := (tb 568 (by decide +kernel) rfl)
/-! decode rows -/
theorem d_ClassPattern_matches_0 : decode b_ClassPattern_matches 0 = .ok (.aload_n 0, 1) := by decide +kernel
theorem d_ClassPattern_matches_1 : decode b_ClassPattern_matches 1 = .ok (.invokevirtual 43, 3) := by decide +kernel
theorem d_ClassPattern_matches_4 : decode b_ClassPattern_matches 4 = .ok (.ifCond .eq 27, 3) := by decide +kernel
theorem d_ClassPattern_matches_7 : decode b_ClassPattern_matches 7 = .ok (.aload_n 1, 1) := by decide +kernel
theorem d_ClassPattern_matches_8 : decode b_ClassPattern_matches 8 = .ok (.getfield 47, 3) := by decide +kernel
theorem d_ClassPattern_matches_11 : decode b_ClassPattern_matches 11 = .ok (.aload_n 0, 1) := by decide +kernel
theorem d_ClassPattern_matches_12 : decode b_ClassPattern_matches 12 = .ok (.getfield 9, 3) := by decide +kernel
theorem d_ClassPattern_matches_15 : decode b_ClassPattern_matches 15 = .ok (.aload_n 0, 1) := by decide +kernel
theorem d_ClassPattern_matches_16 : decode b_ClassPattern_matches 16 = .ok (.getfield 30, 3) := by decide +kernel
theorem d_ClassPattern_matches_19 : decode b_ClassPattern_matches 19 = .ok (.aload_n 0, 1) := by decide +kernel
theorem d_ClassPattern_matches_20 : decode b_ClassPattern_matches 20 = .ok (.getfield 34, 3) := by decide +kernel
theorem d_ClassPattern_matches_23 : decode b_ClassPattern_matches 23 = .ok (.invokevirtual 52, 3) := by decide +kernel
theorem d_ClassPattern_matches_26 : decode b_ClassPattern_matches 26 = .ok (.ifCond .ne 5, 3) := by decide +kernel
theorem d_ClassPattern_matches_29 : decode b_ClassPattern_matches 29 = .ok (.iconst 0, 1) := by decide +kernel
theorem d_ClassPattern_matches_30 : decode b_ClassPattern_matches 30 = .ok (.ireturn, 1) := by decide +kernel
theorem d_ClassPattern_matches_31 : decode b_ClassPattern_matches 31 = .ok (.aload_n 0, 1) := by decide +kernel
theorem d_ClassPattern_matches_32 : decode b_ClassPattern_matches 32 = .ok (.getfield 26, 3) := by decide +kernel
theorem d_ClassPattern_matches_35 : decode b_ClassPattern_matches 35 = .ok (.lookupswitch 81 #[(0, 25), (1, 45)], 25) := by decide +kernel
theorem d_ClassPattern_matches_60 : decode b_ClassPattern_matches 60 = .ok (.aload_n 1, 1) := by decide +kernel
theorem d_ClassPattern_matches_61 : decode b_ClassPattern_matches 61 = .ok (.getfield 58, 3) := by decide +kernel
theorem d_ClassPattern_matches_64 : decode b_ClassPattern_matches 64 = .ok (.aload_n 0, 1) := by decide +kernel
theorem d_ClassPattern_matches_65 : decode b_ClassPattern_matches 65 = .ok (.getfield 9, 3) := by decide +kernel
theorem d_ClassPattern_matches_68 : decode b_ClassPattern_matches 68 = .ok (.aload_n 0, 1) := by decide +kernel
theorem d_ClassPattern_matches_69 : decode b_ClassPattern_matches 69 = .ok (.getfield 38, 3) := by decide +kernel
theorem d_ClassPattern_matches_72 : decode b_ClassPattern_matches 72 = .ok (.aload_n 0, 1) := by decide +kernel
theorem d_ClassPattern_matches_73 : decode b_ClassPattern_matches 73 = .ok (.getfield 42, 3) := by decide +kernel
theorem d_ClassPattern_matches_76 : decode b_ClassPattern_matches 76 = .ok (.invokevirtual 52, 3) := by decide +kernel
theorem d_ClassPattern_matches_79 : decode b_ClassPattern_matches 79 = .ok (.ireturn, 1) := by decide +kernel
theorem d_ClassPattern_matches_80 : decode b_ClassPattern_matches 80 = .ok (.aload_n 0, 1) := by decide +kernel
theorem d_ClassPattern_matches_81 : decode b_ClassPattern_matches 81 = .ok (.aload_n 1, 1) := by decide +kernel
theorem d_ClassPattern_matches_82 : decode b_ClassPattern_matches 82 = .ok (.getfield 58, 3) := by decide +kernel
theorem d_ClassPattern_matches_85 : decode b_ClassPattern_matches 85 = .ok (.invokevirtual 61, 3) := by decide +kernel
theorem d_ClassPattern_matches_88 : decode b_ClassPattern_matches 88 = .ok (.ifCond .eq 26, 3) := by decide +kernel
theorem d_ClassPattern_matches_91 : decode b_ClassPattern_matches 91 = .ok (.aload_n 1, 1) := by decide +kernel
theorem d_ClassPattern_matches_92 : decode b_ClassPattern_matches 92 = .ok (.getfield 58, 3) := by decide +kernel
theorem d_ClassPattern_matches_95 : decode b_ClassPattern_matches 95 = .ok (.aload_n 0, 1) := by decide +kernel
theorem d_ClassPattern_matches_96 : decode b_ClassPattern_matches 96 = .ok (.getfield 42, 3) := by decide +kernel
theorem d_ClassPattern_matches_99 : decode b_ClassPattern_matches 99 = .ok (.aload_n 0, 1) := by decide +kernel
theorem d_ClassPattern_matches_100 : decode b_ClassPattern_matches 100 = .ok (.getfield 38, 3) := by decide +kernel
theorem d_ClassPattern_matches_103 : decode b_ClassPattern_matches 103 = .ok (.isub, 1) := by decide +kernel
theorem d_ClassPattern_matches_104 : decode b_ClassPattern_matches 104 = .ok (.invokestatic 65, 3) := by decide +kernel
theorem d_ClassPattern_matches_107 : decode b_ClassPattern_matches 107 = .ok (.ifCond .ne 7, 3) := by decide +kernel
theorem d_ClassPattern_matches_110 : decode b_ClassPattern_matches 110 = .ok (.iconst 1, 1) := by decide +kernel
theorem d_ClassPattern_matches_111 : decode b_ClassPattern_matches 111 = .ok (.goto 4, 3) := by decide +kernel
theorem d_ClassPattern_matches_114 : decode b_ClassPattern_matches 114 = .ok (.iconst 0, 1) := by decide +kernel
theorem d_ClassPattern_matches_115 : decode b_ClassPattern_matches 115 = .ok (.ireturn, 1) := by decide +kernel
theorem d_ClassPattern_matches_116 : decode b_ClassPattern_matches 116 = .ok (.aload_n 0, 1) := by decide +kernel
theorem d_ClassPattern_matches_117 : decode b_ClassPattern_matches 117 = .ok (.aload_n 1, 1) := by decide +kernel
theorem d_ClassPattern_matches_118 : decode b_ClassPattern_matches 118 = .ok (.getfield 58, 3) := by decide +kernel
theorem d_ClassPattern_matches_121 : decode b_ClassPattern_matches 121 = .ok (.invokevirtual 61, 3) := by decide +kernel
theorem d_ClassPattern_matches_124 : decode b_ClassPattern_matches 124 = .ok (.ireturn, 1) := by decide +kernel
theorem d_ClassPattern_hasModule_0 : decode b_ClassPattern_hasModule 0 = .ok (.aload_n 0, 1) := by decide +kernel
theorem d_ClassPattern_hasModule_1 : decode b_ClassPattern_hasModule 1 = .ok (.getfield 34, 3) := by decide +kernel
theorem d_ClassPattern_hasModule_4 : decode b_ClassPattern_hasModule 4 = .ok (.aload_n 0, 1) := by decide +kernel
theorem d_ClassPattern_hasModule_5 : decode b_ClassPattern_hasModule 5 = .ok (.getfield 30, 3) := by decide +kernel
theorem d_ClassPattern_hasModule_8 : decode b_ClassPattern_hasModule 8 = .ok (.if_icmp .le 7, 3) := by decide +kernel
theorem d_ClassPattern_hasModule_11 : decode b_ClassPattern_hasModule 11 = .ok (.iconst 1, 1) := by decide +kernel
theorem d_ClassPattern_hasModule_12 : decode b_ClassPattern_hasModule 12 = .ok (.goto 4, 3) := by decide +kernel
theorem d_ClassPattern_hasModule_15 : decode b_ClassPattern_hasModule 15 = .ok (.iconst 0, 1) := by decide +kernel
theorem d_ClassPattern_hasModule_16 : decode b_ClassPattern_hasModule 16 = .ok (.ireturn, 1) := by decide +kernel
theorem d_ClassPattern_beginsName_0 : decode b_ClassPattern_beginsName 0 = .ok (.aload_n 1, 1) := by decide +kernel
theorem d_ClassPattern_beginsName_1 : decode b_ClassPattern_beginsName 1 = .ok (.aload_n 0, 1) := by decide +kernel
theorem d_ClassPattern_beginsName_2 : decode b_ClassPattern_beginsName 2 = .ok (.getfield 9, 3) := by decide +kernel
theorem d_ClassPattern_beginsName_5 : decode b_ClassPattern_beginsName 5 = .ok (.aload_n 0, 1) := by decide +kernel
theorem d_ClassPattern_beginsName_6 : decode b_ClassPattern_beginsName 6 = .ok (.getfield 38, 3) := by decide +kernel
theorem d_ClassPattern_beginsName_9 : decode b_ClassPattern_beginsName 9 = .ok (.aload_n 0, 1) := by decide +kernel
theorem d_ClassPattern_beginsName_10 : decode b_ClassPattern_beginsName 10 = .ok (.getfield 42, 3) := by decide +kernel
theorem d_ClassPattern_beginsName_13 : decode b_ClassPattern_beginsName 13 = .ok (.invokevirtual 69, 3) := by decide +kernel
theorem d_ClassPattern_beginsName_16 : decode b_ClassPattern_beginsName 16 = .ok (.ireturn, 1) := by decide +kernel
theorem d_ClassPattern_hasDotBehind_0 : decode b_ClassPattern_hasDotBehind 0 = .ok (.aload_n 0, 1) := by decide +kernel
theorem d_ClassPattern_hasDotBehind_1 : decode b_ClassPattern_hasDotBehind 1 = .ok (.bipush 46, 2) := by decide +kernel
theorem d_ClassPattern_hasDotBehind_3 : decode b_ClassPattern_hasDotBehind 3 = .ok (.iload_n 1, 1) := by decide +kernel
theorem d_ClassPattern_hasDotBehind_4 : decode b_ClassPattern_hasDotBehind 4 = .ok (.aload_n 0, 1) := by decide +kernel
theorem d_ClassPattern_hasDotBehind_5 : decode b_ClassPattern_hasDotBehind 5 = .ok (.invokevirtual 72, 3) := by decide +kernel
theorem d_ClassPattern_hasDotBehind_8 : decode b_ClassPattern_hasDotBehind 8 = .ok (.invokevirtual 76, 3) := by decide +kernel
theorem d_ClassPattern_hasDotBehind_11 : decode b_ClassPattern_hasDotBehind 11 = .ok (.aload_n 0, 1) := by decide +kernel
theorem d_ClassPattern_hasDotBehind_12 : decode b_ClassPattern_hasDotBehind 12 = .ok (.invokevirtual 72, 3) := by decide +kernel
theorem d_ClassPattern_hasDotBehind_15 : decode b_ClassPattern_hasDotBehind 15 = .ok (.if_icmp .ge 7, 3) := by decide +kernel
theorem d_ClassPattern_hasDotBehind_18 : decode b_ClassPattern_hasDotBehind 18 = .ok (.iconst 1, 1) := by decide +kernel
theorem d_ClassPattern_hasDotBehind_19 : decode b_ClassPattern_hasDotBehind 19 = .ok (.goto 4, 3) := by decide +kernel
theorem d_ClassPattern_hasDotBehind_22 : decode b_ClassPattern_hasDotBehind 22 = .ok (.iconst 0, 1) := by decide +kernel
theorem d_ClassPattern_hasDotBehind_23 : decode b_ClassPattern_hasDotBehind 23 = .ok (.ireturn, 1) := by decide +kernel
theorem d_ClassPattern_verdict_0 : decode b_ClassPattern_verdict 0 = .ok (.aload_n 0, 1) := by decide +kernel
theorem d_ClassPattern_verdict_1 : decode b_ClassPattern_verdict 1 = .ok (.getfield 21, 3) := by decide +kernel
theorem d_ClassPattern_verdict_4 : decode b_ClassPattern_verdict 4 = .ok (.ifCond .eq 7, 3) := by decide +kernel
theorem d_ClassPattern_verdict_7 : decode b_ClassPattern_verdict 7 = .ok (.iconst 2, 1) := by decide +kernel
theorem d_ClassPattern_verdict_8 : decode b_ClassPattern_verdict 8 = .ok (.goto 4, 3) := by decide +kernel
theorem d_ClassPattern_verdict_11 : decode b_ClassPattern_verdict 11 = .ok (.iconst 1, 1) := by decide +kernel
theorem d_ClassPattern_verdict_12 : decode b_ClassPattern_verdict 12 = .ok (.ireturn, 1) := by decide +kernel
theorem d_ClassPattern_fullShape_0 : decode b_ClassPattern_fullShape 0 = .ok (.aload_n 0, 1) := by decide +kernel
theorem d_ClassPattern_fullShape_1 : decode b_ClassPattern_fullShape 1 = .ok (.invokevirtual 43, 3) := by decide +kernel
theorem d_ClassPattern_fullShape_4 : decode b_ClassPattern_fullShape 4 = .ok (.ifCond .eq 13, 3) := by decide +kernel
theorem d_ClassPattern_fullShape_7 : decode b_ClassPattern_fullShape 7 = .ok (.bipush 10, 2) := by decide +kernel
theorem d_ClassPattern_fullShape_9 : decode b_ClassPattern_fullShape 9 = .ok (.aload_n 0, 1) := by decide +kernel
theorem d_ClassPattern_fullShape_10 : decode b_ClassPattern_fullShape 10 = .ok (.getfield 26, 3) := by decide +kernel
theorem d_ClassPattern_fullShape_13 : decode b_ClassPattern_fullShape 13 = .ok (.iadd, 1) := by decide +kernel
theorem d_ClassPattern_fullShape_14 : decode b_ClassPattern_fullShape 14 = .ok (.goto 7, 3) := by decide +kernel
theorem d_ClassPattern_fullShape_17 : decode b_ClassPattern_fullShape 17 = .ok (.aload_n 0, 1) := by decide +kernel
theorem d_ClassPattern_fullShape_18 : decode b_ClassPattern_fullShape 18 = .ok (.getfield 26, 3) := by decide +kernel
theorem d_ClassPattern_fullShape_21 : decode b_ClassPattern_fullShape 21 = .ok (.ireturn, 1) := by decide +kernel
set_option maxHeartbeats 4000000 in
set_option maxRecDepth 100000 in
/-- hasModule() -/
theorem c_ClassPattern_hasModule (G : GG) (l : Launch) (sz : Nat) (f : Wd) {a ta tr tcap tn : Nat} {t : Nat → Int32} {rj : Int32} {sh m0 m1 n0 n1 : Nat} (h : cp G f a ta tr tcap tn t rj sh m0 m1 n0 n1) : Ci G l y_ClassPattern_hasModule b_ClassPattern_hasModule 1 (some .boolean) ({ frames := 0, cells := 0, slots := 0, locals := 0 }) sz f [.ref a] (fun v f' => f = f' ∧ v = bI (m0 < m1)) := by
  refine ct_of (by decide) (Nat.le_of_ble_eq_true rfl) ?_
  intro p e s m below meth c ls H locs hEn
  obtain ⟨hc, hr, hlk, hin, hE, hw, hsz, hl⟩ := hEn
  have hx := hc.1
  have hb := hc.2.1
  have hl : lv_has ls 1 [(0, .ref a)] := hl
  obtain ⟨hp, hts, hm1, hm2, hn1, hn2, hsh⟩ := h
  refine lv_aload_n hx hb d_ClassPattern_hasModule_0 rfl (lv_at hl 0 rfl) ?_
  refine m_get hc hE hw hp kc_ClassPattern l_ClassPattern_34_ClassPattern rfl d_ClassPattern_hasModule_1 ?_
  refine lv_aload_n hx hb d_ClassPattern_hasModule_4 rfl (lv_at hl 0 rfl) ?_
  refine m_get hc hE hw hp kc_ClassPattern l_ClassPattern_30_ClassPattern rfl d_ClassPattern_hasModule_5 ?_
  refine lv_icmp_le (tgt := 15) hx hb d_ClassPattern_hasModule_8 (by decide) (fun c1 => ?_) (fun c1 => ?_)
  · refine lv_iconst (v := 0) hx hb d_ClassPattern_hasModule_15 (by decide) ?_
    have hts9 : tn ≤ 90 := by have := hts.2.2.1; have := hts.2.2.2.1; omega
    exact m_zret hc hr hlk hw ⟨by first | decide | (dsimp only; omega), by first | decide | (dsimp only; omega)⟩ d_ClassPattern_hasModule_16 (by decide) ⟨rfl, (bI_f (fun z => absurd ((nI_leI (by omega) (by omega)).mp c1) (by omega))).symm⟩
  · refine lv_iconst (v := 1) hx hb d_ClassPattern_hasModule_11 (by decide) ?_
    refine lv_goto (tgt := 16) hx hb d_ClassPattern_hasModule_12 (by decide) ?_
    have hts9 : tn ≤ 90 := by have := hts.2.2.1; have := hts.2.2.2.1; omega
    exact m_zret hc hr hlk hw ⟨by first | decide | (dsimp only; omega), by first | decide | (dsimp only; omega)⟩ d_ClassPattern_hasModule_16 (by decide) ⟨rfl, (bI_t (Nat.not_le.mp (fun z => c1 (nI_le z (by omega))))).symm⟩

set_option maxHeartbeats 4000000 in
set_option maxRecDepth 100000 in
/-- verdict() -/
theorem c_ClassPattern_verdict (G : GG) (l : Launch) (sz : Nat) (f : Wd) {a ta tr tcap tn : Nat} {t : Nat → Int32} {rj : Int32} {sh m0 m1 n0 n1 : Nat} (h : cp G f a ta tr tcap tn t rj sh m0 m1 n0 n1) : Ci G l y_ClassPattern_verdict b_ClassPattern_verdict 1 (some .int) ({ frames := 0, cells := 0, slots := 0, locals := 0 }) sz f [.ref a] (fun v f' => f = f' ∧ v = vdc rj) := by
  refine ct_of (by decide) (Nat.le_of_ble_eq_true rfl) ?_
  intro p e s m below meth c ls H locs hEn
  obtain ⟨hc, hr, hlk, hin, hE, hw, hsz, hl⟩ := hEn
  have hx := hc.1
  have hb := hc.2.1
  have hl : lv_has ls 1 [(0, .ref a)] := hl
  obtain ⟨hp, hts, hm1, hm2, hn1, hn2, hsh⟩ := h
  refine lv_aload_n hx hb d_ClassPattern_verdict_0 rfl (lv_at hl 0 rfl) ?_
  refine m_get hc hE hw hp kc_ClassPattern l_ClassPattern_21_ClassPattern rfl d_ClassPattern_verdict_1 ?_
  refine lv_if_eq (tgt := 11) hx hb d_ClassPattern_verdict_4 (by decide) (fun c1 => ?_) (fun c1 => ?_)
  · refine lv_iconst (v := 1) hx hb d_ClassPattern_verdict_11 (by decide) ?_
    exact m_iret hc hr hlk hw ⟨by first | decide | (dsimp only; omega), by first | decide | (dsimp only; omega)⟩ d_ClassPattern_verdict_12 ⟨rfl, (vdc_0 c1).symm⟩
  · refine lv_iconst (v := 2) hx hb d_ClassPattern_verdict_7 (by decide) ?_
    refine lv_goto (tgt := 12) hx hb d_ClassPattern_verdict_8 (by decide) ?_
    exact m_iret hc hr hlk hw ⟨by first | decide | (dsimp only; omega), by first | decide | (dsimp only; omega)⟩ d_ClassPattern_verdict_12 ⟨rfl, (vdc_n c1).symm⟩

set_option maxHeartbeats 4000000 in
set_option maxRecDepth 100000 in
/-- fullShape() -/
theorem c_ClassPattern_fullShape (G : GG) (l : Launch) (sz : Nat) (f : Wd) {a ta tr tcap tn : Nat} {t : Nat → Int32} {rj : Int32} {sh m0 m1 n0 n1 : Nat} (h : cp G f a ta tr tcap tn t rj sh m0 m1 n0 n1) : Ci G l y_ClassPattern_fullShape b_ClassPattern_fullShape 1 (some .int) ({ frames := 1, cells := 0, slots := 0, locals := 20 }) sz f [.ref a] (fun v f' => f = f' ∧ v = fsh sh m0 m1) := by
  refine ct_of (by decide) (Nat.le_of_ble_eq_true rfl) ?_
  intro p e s m below meth c ls H locs hEn
  obtain ⟨hc, hr, hlk, hin, hE, hw, hsz, hl⟩ := hEn
  have hx := hc.1
  have hb := hc.2.1
  have hl : lv_has ls 1 [(0, .ref a)] := hl
  obtain ⟨hp, hts, hm1, hm2, hn1, hn2, hsh⟩ := h
  refine lv_aload_n hx hb d_ClassPattern_fullShape_0 rfl (lv_at hl 0 rfl) ?_
  refine m_calli hw (m_runV (As := []) (rest := []) hc hE hw (c_ClassPattern_hasModule G l H.size f ⟨hp, hts, hm1, hm2, hn1, hn2, hsh⟩) hp rfl cw_ClassPattern_43 se_ClassPattern_hasModule rfl hl.1 rfl (Nat.le_of_ble_eq_true rfl) d_ClassPattern_fullShape_1 ⟨rfl, rfl, by decide, by decide⟩ ⟨by first | decide | (dsimp only; omega), by first | decide | (dsimp only; omega)⟩) (fun r3 g2 H locs p1 hw => ?_)
  obtain ⟨rfl, p1⟩ := p1
  refine lv_if_eq (tgt := 17) hx hb d_ClassPattern_fullShape_4 (by decide) (fun c4 => ?_) (fun c4 => ?_)
  · refine lv_aload_n hx hb d_ClassPattern_fullShape_17 rfl (lv_at hl 0 rfl) ?_
    refine m_get hc hE hw hp kc_ClassPattern l_ClassPattern_26_ClassPattern rfl d_ClassPattern_fullShape_18 ?_
    exact m_iret hc hr hlk hw ⟨by first | decide | (dsimp only; omega), by first | decide | (dsimp only; omega)⟩ d_ClassPattern_fullShape_21 ⟨rfl, (fsh_n (bI_0.mp (p1.symm.trans c4))).symm⟩
  · refine lv_bipush (v := 10) hx hb d_ClassPattern_fullShape_7 (by decide) ?_
    refine lv_aload_n hx hb d_ClassPattern_fullShape_9 rfl (lv_at hl 0 rfl) ?_
    refine m_get hc hE hw hp kc_ClassPattern l_ClassPattern_26_ClassPattern rfl d_ClassPattern_fullShape_10 ?_
    refine lv_iadd hx hb d_ClassPattern_fullShape_13 ?_
    refine lv_goto (tgt := 21) hx hb d_ClassPattern_fullShape_14 (by decide) ?_
    exact m_iret hc hr hlk hw ⟨by first | decide | (dsimp only; omega), by first | decide | (dsimp only; omega)⟩ d_ClassPattern_fullShape_21 ⟨rfl, (fsh_y (bI_n.mp (fun z => c4 (p1.trans z)))).symm⟩

set_option maxHeartbeats 4000000 in
set_option maxRecDepth 100000 in
/-- beginsName(name) -/
theorem c_ClassPattern_beginsName (G : GG) (l : Launch) (sz : Nat) (f : Wd) {a ta tr tcap tn : Nat} {t : Nat → Int32} {rj : Int32} {sh m0 m1 n0 n1 : Nat} (h : cp G f a ta tr tcap tn t rj sh m0 m1 n0 n1) {na nr ncap nn : Nat} {nt : Nat → Int32} (hna : sg G f na nr ncap nn nt) : Ci G l y_ClassPattern_beginsName b_ClassPattern_beginsName 2 (some .boolean) ({ frames := 2, cells := 0, slots := 0, locals := 45 }) sz f [.ref a, .ref na] (fun v f' => f = f' ∧ v = bI (bgn nn nt t n0 n1)) := by
  refine ct_of (by decide) (Nat.le_of_ble_eq_true rfl) ?_
  intro p e s m below meth c ls H locs hEn
  obtain ⟨hc, hr, hlk, hin, hE, hw, hsz, hl⟩ := hEn
  have hx := hc.1
  have hb := hc.2.1
  have hl : lv_has ls 2 [(0, .ref a), (1, .ref na)] := hl
  obtain ⟨hp, hts, hm1, hm2, hn1, hn2, hsh⟩ := h
  refine lv_aload_n hx hb d_ClassPattern_beginsName_0 rfl (lv_at hl 1 rfl) ?_
  refine lv_aload_n hx hb d_ClassPattern_beginsName_1 rfl (lv_at hl 0 rfl) ?_
  refine m_get hc hE hw hp kc_ClassPattern l_ClassPattern_9_ClassPattern rfl d_ClassPattern_beginsName_2 ?_
  refine lv_aload_n hx hb d_ClassPattern_beginsName_5 rfl (lv_at hl 0 rfl) ?_
  refine m_get hc hE hw hp kc_ClassPattern l_ClassPattern_38_ClassPattern rfl d_ClassPattern_beginsName_6 ?_
  refine lv_aload_n hx hb d_ClassPattern_beginsName_9 rfl (lv_at hl 0 rfl) ?_
  refine m_get hc hE hw hp kc_ClassPattern l_ClassPattern_42_ClassPattern rfl d_ClassPattern_beginsName_10 ?_
  refine m_calli hw (m_runV (As := [.ref ta, .int (nI n0), .int (nI n1)]) (rest := []) hc hE hw (c_Signs_beginsWithPart G l H.size f hna hts hn1 hn2) hna.1 rfl cw_ClassPattern_69 se_Signs_beginsWithPart rfl hl.1 rfl (Nat.le_of_ble_eq_true rfl) d_ClassPattern_beginsName_13 ⟨rfl, rfl, by decide, by decide⟩ ⟨by first | decide | (dsimp only; omega), by first | decide | (dsimp only; omega)⟩) (fun r3 g2 H locs p1 hw => ?_)
  obtain ⟨rfl, p1⟩ := p1
  exact m_zret hc hr hlk hw ⟨by decide, by decide⟩ d_ClassPattern_beginsName_16 (by rw [p1]; exact bI_nar _) ⟨rfl, p1⟩

set_option maxHeartbeats 4000000 in
set_option maxRecDepth 100000 in
/-- hasDotBehind(name, i0) -/
theorem c_ClassPattern_hasDotBehind (G : GG) (l : Launch) (sz : Nat) (f : Wd) {na nr ncap nn : Nat} {nt : Nat → Int32} (hna : sg G f na nr ncap nn nt) {i0 : Nat} (h0 : i0 ≤ nn) : Ci G l y_ClassPattern_hasDotBehind b_ClassPattern_hasDotBehind 2 (some .boolean) ({ frames := 2, cells := 0, slots := 0, locals := 45 }) sz f [.ref na, .int (nI i0)] (fun v f' => f = f' ∧ v = bI (fnd nt 46 (nn - i0) i0 < nn)) := by
  refine ct_of (by decide) (Nat.le_of_ble_eq_true rfl) ?_
  intro p e s m below meth c ls H locs hEn
  obtain ⟨hc, hr, hlk, hin, hE, hw, hsz, hl⟩ := hEn
  have hx := hc.1
  have hb := hc.2.1
  have hl : lv_has ls 2 [(0, .ref na), (1, .int (nI i0))] := hl
  refine lv_aload_n hx hb d_ClassPattern_hasDotBehind_0 rfl (lv_at hl 0 rfl) ?_
  refine lv_bipush (v := 46) hx hb d_ClassPattern_hasDotBehind_1 (by decide) ?_
  refine lv_iload_n hx hb d_ClassPattern_hasDotBehind_3 rfl (lv_at hl 1 rfl) ?_
  refine lv_aload_n hx hb d_ClassPattern_hasDotBehind_4 rfl (lv_at hl 0 rfl) ?_
  refine m_calli hw (m_runV (As := []) (rest := [.int (nI i0), .int 46, .ref na]) hc hE hw (c_Signs_length G l H.size f hna) hna.1 rfl cw_ClassPattern_72 se_Signs_length rfl hl.1 rfl (Nat.le_of_ble_eq_true rfl) d_ClassPattern_hasDotBehind_5 ⟨rfl, rfl, by decide, by decide⟩ ⟨by first | decide | (dsimp only; omega), by first | decide | (dsimp only; omega)⟩) (fun r3 g2 H locs p1 hw => ?_)
  obtain ⟨rfl, p1⟩ := p1
  subst p1
  refine m_calli hw (m_runV (As := [.int 46, .int (nI i0), .int (nI nn)]) (rest := []) hc hE hw (c_Signs_find G l H.size f hna 46 h0 (Nat.le_refl _)) hna.1 rfl cw_ClassPattern_76 se_Signs_find rfl hl.1 rfl (Nat.le_of_ble_eq_true rfl) d_ClassPattern_hasDotBehind_8 ⟨rfl, rfl, by decide, by decide⟩ ⟨by first | decide | (dsimp only; omega), by first | decide | (dsimp only; omega)⟩) (fun r6 g5 H locs p4 hw => ?_)
  obtain ⟨rfl, p4⟩ := p4
  refine lv_aload_n hx hb d_ClassPattern_hasDotBehind_11 rfl (lv_at hl 0 rfl) ?_
  refine m_calli hw (m_runV (As := []) (rest := [.int r6]) hc hE hw (c_Signs_length G l H.size f hna) hna.1 rfl cw_ClassPattern_72 se_Signs_length rfl hl.1 rfl (Nat.le_of_ble_eq_true rfl) d_ClassPattern_hasDotBehind_12 ⟨rfl, rfl, by decide, by decide⟩ ⟨by first | decide | (dsimp only; omega), by first | decide | (dsimp only; omega)⟩) (fun r9 g8 H locs p7 hw => ?_)
  obtain ⟨rfl, p7⟩ := p7
  subst p7
  refine lv_icmp_ge (tgt := 22) hx hb d_ClassPattern_hasDotBehind_15 (by decide) (fun c10 => ?_) (fun c10 => ?_)
  · refine lv_iconst (v := 0) hx hb d_ClassPattern_hasDotBehind_22 (by decide) ?_
    have hb9 : nn ≤ 90 := by have := hna.2.2.1; have := hna.2.2.2.1; omega
    have hfi := fnd_in nt 46 (nn - i0) i0
    exact m_zret hc hr hlk hw ⟨by first | decide | (dsimp only; omega), by first | decide | (dsimp only; omega)⟩ d_ClassPattern_hasDotBehind_23 (by decide) ⟨rfl, (bI_f (fun z => by rw [p4] at c10; have := (nI_leI (by omega) (by omega)).mp c10; omega)).symm⟩
  · refine lv_iconst (v := 1) hx hb d_ClassPattern_hasDotBehind_18 (by decide) ?_
    refine lv_goto (tgt := 23) hx hb d_ClassPattern_hasDotBehind_19 (by decide) ?_
    have hb9 : nn ≤ 90 := by have := hna.2.2.1; have := hna.2.2.2.1; omega
    have hfi := fnd_in nt 46 (nn - i0) i0
    exact m_zret hc hr hlk hw ⟨by first | decide | (dsimp only; omega), by first | decide | (dsimp only; omega)⟩ d_ClassPattern_hasDotBehind_23 (by decide) ⟨rfl, (bI_t (Nat.not_le.mp (fun z => c10 (by rw [p4]; exact nI_le z (by omega))))).symm⟩

set_option maxHeartbeats 4000000 in
set_option maxRecDepth 100000 in
/-- matches(q) -/
theorem c_ClassPattern_matches (G : GG) (l : Launch) (sz : Nat) (f : Wd) {a ta tr tcap tn : Nat} {t : Nat → Int32} {rj : Int32} {sh m0 m1 n0 n1 : Nat} (h : cp G f a ta tr tcap tn t rj sh m0 m1 n0 n1) {q na nr ncap nn : Nat} {nt : Nat → Int32} {ma mr mcap mn : Nat} {mt : Nat → Int32} {dp rf by_ so di le co tx la : Int32} (hq : qs G f q na nr ncap nn nt ma mr mcap mn mt dp rf by_ so di le co tx la) : Ci G l y_ClassPattern_matches b_ClassPattern_matches 2 (some .boolean) ({ frames := 3, cells := 0, slots := 0, locals := 70 }) sz f [.ref a, .ref q] (fun v f' => f = f' ∧ v = bI (mat t sh m0 m1 n0 n1 nn nt mn mt)) := by
  refine ct_of (by decide) (Nat.le_of_ble_eq_true rfl) ?_
  intro p e s m below meth c ls H locs hEn
  obtain ⟨hc, hr, hlk, hin, hE, hw, hsz, hl⟩ := hEn
  have hx := hc.1
  have hb := hc.2.1
  have hl : lv_has ls 2 [(0, .ref a), (1, .ref q)] := hl
  obtain ⟨hp, hts, hm1, hm2, hn1, hn2, hsh⟩ := h
  obtain ⟨hqc, hna, hma⟩ := hq
  have hb9 : tn ≤ 90 := by have := hts.2.2.1; have := hts.2.2.2.1; omega
  have hb8 : nn ≤ 90 := by have := hna.2.2.1; have := hna.2.2.2.1; omega
  refine lv_aload_n hx hb d_ClassPattern_matches_0 rfl (lv_at hl 0 rfl) ?_
  refine m_calli hw (m_runV (As := []) (rest := []) hc hE hw (c_ClassPattern_hasModule G l H.size f ⟨hp, hts, hm1, hm2, hn1, hn2, hsh⟩) hp rfl cw_ClassPattern_43 se_ClassPattern_hasModule rfl hl.1 rfl (Nat.le_of_ble_eq_true rfl) d_ClassPattern_matches_1 ⟨rfl, rfl, by decide, by decide⟩ ⟨by first | decide | (dsimp only; omega), by first | decide | (dsimp only; omega)⟩) (fun r3 g2 H locs p1 hw => ?_)
  obtain ⟨rfl, p1⟩ := p1
  refine lv_if_eq (tgt := 31) hx hb d_ClassPattern_matches_4 (by decide) (fun c4 => ?_) (fun c4 => ?_)
  · refine lv_aload_n hx hb d_ClassPattern_matches_31 rfl (lv_at hl 0 rfl) ?_
    refine m_get hc hE hw hp kc_ClassPattern l_ClassPattern_26_ClassPattern rfl d_ClassPattern_matches_32 ?_
    by_cases k5 : (nI sh) = 0
    · refine lv_lookup (off := 25) (tgt := 60) hx hb d_ClassPattern_matches_35 (by decide) (by rw [k5] <;> rfl) (by decide) ?_
      refine lv_aload_n hx hb d_ClassPattern_matches_60 rfl (lv_at hl 1 rfl) ?_
      refine m_get hc hE hw hqc kc_Question l_ClassPattern_58_Question rfl d_ClassPattern_matches_61 ?_
      refine lv_aload_n hx hb d_ClassPattern_matches_64 rfl (lv_at hl 0 rfl) ?_
      refine m_get hc hE hw hp kc_ClassPattern l_ClassPattern_9_ClassPattern rfl d_ClassPattern_matches_65 ?_
      refine lv_aload_n hx hb d_ClassPattern_matches_68 rfl (lv_at hl 0 rfl) ?_
      refine m_get hc hE hw hp kc_ClassPattern l_ClassPattern_38_ClassPattern rfl d_ClassPattern_matches_69 ?_
      refine lv_aload_n hx hb d_ClassPattern_matches_72 rfl (lv_at hl 0 rfl) ?_
      refine m_get hc hE hw hp kc_ClassPattern l_ClassPattern_42_ClassPattern rfl d_ClassPattern_matches_73 ?_
      refine m_calli hw (m_runV (As := [.ref ta, .int (nI n0), .int (nI n1)]) (rest := []) hc hE hw (c_Signs_isPart G l H.size f hna hts hn1 hn2) hna.1 rfl cw_ClassPattern_52 se_Signs_isPart rfl hl.1 rfl (Nat.le_of_ble_eq_true rfl) d_ClassPattern_matches_76 ⟨rfl, rfl, by decide, by decide⟩ ⟨by first | decide | (dsimp only; omega), by first | decide | (dsimp only; omega)⟩) (fun r8 g7 H locs p6 hw => ?_)
      obtain ⟨rfl, p6⟩ := p6
      have hs0 : sh = 0 := (nI_eq (by omega) (by omega)).mp k5
      exact m_zret hc hr hlk hw ⟨by decide, by decide⟩ d_ClassPattern_matches_79 (by rw [p6]; exact bI_nar _) ⟨rfl, by rw [p6]; exact bI_c ⟨fun z => ⟨(fun z => absurd z (bI_0.mp (p1.symm.trans c4))), fun _ => z, fun y => absurd y (by omega), fun y => absurd y (by omega)⟩, fun z => z.2.1 hs0⟩⟩
    by_cases k9 : (nI sh) = 1
    · refine lv_lookup (off := 45) (tgt := 80) hx hb d_ClassPattern_matches_35 (by decide) (by rw [k9] <;> rfl) (by decide) ?_
      refine lv_aload_n hx hb d_ClassPattern_matches_80 rfl (lv_at hl 0 rfl) ?_
      refine lv_aload_n hx hb d_ClassPattern_matches_81 rfl (lv_at hl 1 rfl) ?_
      refine m_get hc hE hw hqc kc_Question l_ClassPattern_58_Question rfl d_ClassPattern_matches_82 ?_
      refine m_calli hw (m_runV (As := [.ref na]) (rest := []) hc hE hw (c_ClassPattern_beginsName G l H.size f ⟨hp, hts, hm1, hm2, hn1, hn2, hsh⟩ hna) hp rfl cw_ClassPattern_61 se_ClassPattern_beginsName rfl hl.1 rfl (Nat.le_of_ble_eq_true rfl) d_ClassPattern_matches_85 ⟨rfl, rfl, by decide, by decide⟩ ⟨by first | decide | (dsimp only; omega), by first | decide | (dsimp only; omega)⟩) (fun r12 g11 H locs p10 hw => ?_)
      obtain ⟨rfl, p10⟩ := p10
      refine lv_if_eq (tgt := 114) hx hb d_ClassPattern_matches_88 (by decide) (fun c13 => ?_) (fun c13 => ?_)
      · refine lv_iconst (v := 0) hx hb d_ClassPattern_matches_114 (by decide) ?_
        have hs1 : sh = 1 := (nI_eq (by omega) (by omega)).mp k9
        exact m_zret hc hr hlk hw ⟨by first | decide | (dsimp only; omega), by first | decide | (dsimp only; omega)⟩ d_ClassPattern_matches_115 (by decide) ⟨rfl, (bI_f (fun z => (bI_0.mp (p10.symm.trans c13)) (z.2.2.1 hs1).1)).symm⟩
      · refine lv_aload_n hx hb d_ClassPattern_matches_91 rfl (lv_at hl 1 rfl) ?_
        refine m_get hc hE hw hqc kc_Question l_ClassPattern_58_Question rfl d_ClassPattern_matches_92 ?_
        refine lv_aload_n hx hb d_ClassPattern_matches_95 rfl (lv_at hl 0 rfl) ?_
        refine m_get hc hE hw hp kc_ClassPattern l_ClassPattern_42_ClassPattern rfl d_ClassPattern_matches_96 ?_
        refine lv_aload_n hx hb d_ClassPattern_matches_99 rfl (lv_at hl 0 rfl) ?_
        refine m_get hc hE hw hp kc_ClassPattern l_ClassPattern_38_ClassPattern rfl d_ClassPattern_matches_100 ?_
        refine lv_isub hx hb d_ClassPattern_matches_103 ?_
        refine m_top (y := (nI (n1 - n0))) (pk_sub hn1) ?_
        refine m_calli hw (m_runS (As := [.ref na, .int (nI (n1 - n0))]) (rest := []) hc hE hw (c_ClassPattern_hasDotBehind G l H.size f hna (i0 := n1 - n0) (bI_n.mp (fun z => c13 (p10.trans z))).1) cw_ClassPattern_65 ss_ClassPattern_hasDotBehind rfl hl.1 rfl (Nat.le_of_ble_eq_true rfl) d_ClassPattern_matches_104 ⟨rfl, rfl, by decide, by decide⟩ ⟨by first | decide | (dsimp only; omega), by first | decide | (dsimp only; omega)⟩) (fun r16 g15 H locs p14 hw => ?_)
        obtain ⟨rfl, p14⟩ := p14
        refine lv_if_ne (tgt := 114) hx hb d_ClassPattern_matches_107 (by decide) (fun c17 => ?_) (fun c17 => ?_)
        · refine lv_iconst (v := 0) hx hb d_ClassPattern_matches_114 (by decide) ?_
          have hs1 : sh = 1 := (nI_eq (by omega) (by omega)).mp k9
          exact m_zret hc hr hlk hw ⟨by first | decide | (dsimp only; omega), by first | decide | (dsimp only; omega)⟩ d_ClassPattern_matches_115 (by decide) ⟨rfl, (bI_f (fun z => (z.2.2.1 hs1).2 (bI_n.mp (fun y => c17 (p14.trans y))))).symm⟩
        · refine lv_iconst (v := 1) hx hb d_ClassPattern_matches_110 (by decide) ?_
          refine lv_goto (tgt := 115) hx hb d_ClassPattern_matches_111 (by decide) ?_
          have hs1 : sh = 1 := (nI_eq (by omega) (by omega)).mp k9
          exact m_zret hc hr hlk hw ⟨by first | decide | (dsimp only; omega), by first | decide | (dsimp only; omega)⟩ d_ClassPattern_matches_115 (by decide) ⟨rfl, (bI_t ⟨(fun z => absurd z (bI_0.mp (p1.symm.trans c4))), fun y => absurd y (by omega), fun _ => ⟨bI_n.mp (fun y => c13 (p10.trans y)), bI_0.mp (p14.symm.trans c17)⟩, fun y => absurd y (by omega)⟩).symm⟩
    refine lv_lookup (off := 81) (tgt := 116) hx hb d_ClassPattern_matches_35 (by decide) (by rw [lv_osw k5 (show (0 : Int32).toInt = 0 by decide), lv_osw k9 (show (1 : Int32).toInt = 1 by decide)] <;> rfl) (by decide) ?_
    refine lv_aload_n hx hb d_ClassPattern_matches_116 rfl (lv_at hl 0 rfl) ?_
    refine lv_aload_n hx hb d_ClassPattern_matches_117 rfl (lv_at hl 1 rfl) ?_
    refine m_get hc hE hw hqc kc_Question l_ClassPattern_58_Question rfl d_ClassPattern_matches_118 ?_
    refine m_calli hw (m_runV (As := [.ref na]) (rest := []) hc hE hw (c_ClassPattern_beginsName G l H.size f ⟨hp, hts, hm1, hm2, hn1, hn2, hsh⟩ hna) hp rfl cw_ClassPattern_61 se_ClassPattern_beginsName rfl hl.1 rfl (Nat.le_of_ble_eq_true rfl) d_ClassPattern_matches_121 ⟨rfl, rfl, by decide, by decide⟩ ⟨by first | decide | (dsimp only; omega), by first | decide | (dsimp only; omega)⟩) (fun r20 g19 H locs p18 hw => ?_)
    obtain ⟨rfl, p18⟩ := p18
    have hs2 : 2 ≤ sh := by have h0 : sh ≠ 0 := fun z => k5 (congrArg nI z); have h1 : sh ≠ 1 := fun z => k9 (congrArg nI z); omega
    exact m_zret hc hr hlk hw ⟨by decide, by decide⟩ d_ClassPattern_matches_124 (by rw [p18]; exact bI_nar _) ⟨rfl, by rw [p18]; exact bI_c ⟨fun z => ⟨(fun z => absurd z (bI_0.mp (p1.symm.trans c4))), fun y => absurd y (by omega), fun y => absurd y (by omega), fun _ => z⟩, fun z => z.2.2.2 hs2⟩⟩
  · refine lv_aload_n hx hb d_ClassPattern_matches_7 rfl (lv_at hl 1 rfl) ?_
    refine m_get hc hE hw hqc kc_Question l_ClassPattern_47_Question rfl d_ClassPattern_matches_8 ?_
    refine lv_aload_n hx hb d_ClassPattern_matches_11 rfl (lv_at hl 0 rfl) ?_
    refine m_get hc hE hw hp kc_ClassPattern l_ClassPattern_9_ClassPattern rfl d_ClassPattern_matches_12 ?_
    refine lv_aload_n hx hb d_ClassPattern_matches_15 rfl (lv_at hl 0 rfl) ?_
    refine m_get hc hE hw hp kc_ClassPattern l_ClassPattern_30_ClassPattern rfl d_ClassPattern_matches_16 ?_
    refine lv_aload_n hx hb d_ClassPattern_matches_19 rfl (lv_at hl 0 rfl) ?_
    refine m_get hc hE hw hp kc_ClassPattern l_ClassPattern_34_ClassPattern rfl d_ClassPattern_matches_20 ?_
    refine m_calli hw (m_runV (As := [.ref ta, .int (nI m0), .int (nI m1)]) (rest := []) hc hE hw (c_Signs_isPart G l H.size f hma hts hm1 hm2) hma.1 rfl cw_ClassPattern_52 se_Signs_isPart rfl hl.1 rfl (Nat.le_of_ble_eq_true rfl) d_ClassPattern_matches_23 ⟨rfl, rfl, by decide, by decide⟩ ⟨by first | decide | (dsimp only; omega), by first | decide | (dsimp only; omega)⟩) (fun r23 g22 H locs p21 hw => ?_)
    obtain ⟨rfl, p21⟩ := p21
    refine lv_if_ne (tgt := 31) hx hb d_ClassPattern_matches_26 (by decide) (fun c24 => ?_) (fun c24 => ?_)
    · refine lv_aload_n hx hb d_ClassPattern_matches_31 rfl (lv_at hl 0 rfl) ?_
      refine m_get hc hE hw hp kc_ClassPattern l_ClassPattern_26_ClassPattern rfl d_ClassPattern_matches_32 ?_
      by_cases k25 : (nI sh) = 0
      · refine lv_lookup (off := 25) (tgt := 60) hx hb d_ClassPattern_matches_35 (by decide) (by rw [k25] <;> rfl) (by decide) ?_
        refine lv_aload_n hx hb d_ClassPattern_matches_60 rfl (lv_at hl 1 rfl) ?_
        refine m_get hc hE hw hqc kc_Question l_ClassPattern_58_Question rfl d_ClassPattern_matches_61 ?_
        refine lv_aload_n hx hb d_ClassPattern_matches_64 rfl (lv_at hl 0 rfl) ?_
        refine m_get hc hE hw hp kc_ClassPattern l_ClassPattern_9_ClassPattern rfl d_ClassPattern_matches_65 ?_
        refine lv_aload_n hx hb d_ClassPattern_matches_68 rfl (lv_at hl 0 rfl) ?_
        refine m_get hc hE hw hp kc_ClassPattern l_ClassPattern_38_ClassPattern rfl d_ClassPattern_matches_69 ?_
        refine lv_aload_n hx hb d_ClassPattern_matches_72 rfl (lv_at hl 0 rfl) ?_
        refine m_get hc hE hw hp kc_ClassPattern l_ClassPattern_42_ClassPattern rfl d_ClassPattern_matches_73 ?_
        refine m_calli hw (m_runV (As := [.ref ta, .int (nI n0), .int (nI n1)]) (rest := []) hc hE hw (c_Signs_isPart G l H.size f hna hts hn1 hn2) hna.1 rfl cw_ClassPattern_52 se_Signs_isPart rfl hl.1 rfl (Nat.le_of_ble_eq_true rfl) d_ClassPattern_matches_76 ⟨rfl, rfl, by decide, by decide⟩ ⟨by first | decide | (dsimp only; omega), by first | decide | (dsimp only; omega)⟩) (fun r28 g27 H locs p26 hw => ?_)
        obtain ⟨rfl, p26⟩ := p26
        have hs0 : sh = 0 := (nI_eq (by omega) (by omega)).mp k25
        exact m_zret hc hr hlk hw ⟨by decide, by decide⟩ d_ClassPattern_matches_79 (by rw [p26]; exact bI_nar _) ⟨rfl, by rw [p26]; exact bI_c ⟨fun z => ⟨(fun _ => bI_n.mp (fun z => c24 (p21.trans z))), fun _ => z, fun y => absurd y (by omega), fun y => absurd y (by omega)⟩, fun z => z.2.1 hs0⟩⟩
      by_cases k29 : (nI sh) = 1
      · refine lv_lookup (off := 45) (tgt := 80) hx hb d_ClassPattern_matches_35 (by decide) (by rw [k29] <;> rfl) (by decide) ?_
        refine lv_aload_n hx hb d_ClassPattern_matches_80 rfl (lv_at hl 0 rfl) ?_
        refine lv_aload_n hx hb d_ClassPattern_matches_81 rfl (lv_at hl 1 rfl) ?_
        refine m_get hc hE hw hqc kc_Question l_ClassPattern_58_Question rfl d_ClassPattern_matches_82 ?_
        refine m_calli hw (m_runV (As := [.ref na]) (rest := []) hc hE hw (c_ClassPattern_beginsName G l H.size f ⟨hp, hts, hm1, hm2, hn1, hn2, hsh⟩ hna) hp rfl cw_ClassPattern_61 se_ClassPattern_beginsName rfl hl.1 rfl (Nat.le_of_ble_eq_true rfl) d_ClassPattern_matches_85 ⟨rfl, rfl, by decide, by decide⟩ ⟨by first | decide | (dsimp only; omega), by first | decide | (dsimp only; omega)⟩) (fun r32 g31 H locs p30 hw => ?_)
        obtain ⟨rfl, p30⟩ := p30
        refine lv_if_eq (tgt := 114) hx hb d_ClassPattern_matches_88 (by decide) (fun c33 => ?_) (fun c33 => ?_)
        · refine lv_iconst (v := 0) hx hb d_ClassPattern_matches_114 (by decide) ?_
          have hs1 : sh = 1 := (nI_eq (by omega) (by omega)).mp k29
          exact m_zret hc hr hlk hw ⟨by first | decide | (dsimp only; omega), by first | decide | (dsimp only; omega)⟩ d_ClassPattern_matches_115 (by decide) ⟨rfl, (bI_f (fun z => (bI_0.mp (p30.symm.trans c33)) (z.2.2.1 hs1).1)).symm⟩
        · refine lv_aload_n hx hb d_ClassPattern_matches_91 rfl (lv_at hl 1 rfl) ?_
          refine m_get hc hE hw hqc kc_Question l_ClassPattern_58_Question rfl d_ClassPattern_matches_92 ?_
          refine lv_aload_n hx hb d_ClassPattern_matches_95 rfl (lv_at hl 0 rfl) ?_
          refine m_get hc hE hw hp kc_ClassPattern l_ClassPattern_42_ClassPattern rfl d_ClassPattern_matches_96 ?_
          refine lv_aload_n hx hb d_ClassPattern_matches_99 rfl (lv_at hl 0 rfl) ?_
          refine m_get hc hE hw hp kc_ClassPattern l_ClassPattern_38_ClassPattern rfl d_ClassPattern_matches_100 ?_
          refine lv_isub hx hb d_ClassPattern_matches_103 ?_
          refine m_top (y := (nI (n1 - n0))) (pk_sub hn1) ?_
          refine m_calli hw (m_runS (As := [.ref na, .int (nI (n1 - n0))]) (rest := []) hc hE hw (c_ClassPattern_hasDotBehind G l H.size f hna (i0 := n1 - n0) (bI_n.mp (fun z => c33 (p30.trans z))).1) cw_ClassPattern_65 ss_ClassPattern_hasDotBehind rfl hl.1 rfl (Nat.le_of_ble_eq_true rfl) d_ClassPattern_matches_104 ⟨rfl, rfl, by decide, by decide⟩ ⟨by first | decide | (dsimp only; omega), by first | decide | (dsimp only; omega)⟩) (fun r36 g35 H locs p34 hw => ?_)
          obtain ⟨rfl, p34⟩ := p34
          refine lv_if_ne (tgt := 114) hx hb d_ClassPattern_matches_107 (by decide) (fun c37 => ?_) (fun c37 => ?_)
          · refine lv_iconst (v := 0) hx hb d_ClassPattern_matches_114 (by decide) ?_
            have hs1 : sh = 1 := (nI_eq (by omega) (by omega)).mp k29
            exact m_zret hc hr hlk hw ⟨by first | decide | (dsimp only; omega), by first | decide | (dsimp only; omega)⟩ d_ClassPattern_matches_115 (by decide) ⟨rfl, (bI_f (fun z => (z.2.2.1 hs1).2 (bI_n.mp (fun y => c37 (p34.trans y))))).symm⟩
          · refine lv_iconst (v := 1) hx hb d_ClassPattern_matches_110 (by decide) ?_
            refine lv_goto (tgt := 115) hx hb d_ClassPattern_matches_111 (by decide) ?_
            have hs1 : sh = 1 := (nI_eq (by omega) (by omega)).mp k29
            exact m_zret hc hr hlk hw ⟨by first | decide | (dsimp only; omega), by first | decide | (dsimp only; omega)⟩ d_ClassPattern_matches_115 (by decide) ⟨rfl, (bI_t ⟨(fun _ => bI_n.mp (fun z => c24 (p21.trans z))), fun y => absurd y (by omega), fun _ => ⟨bI_n.mp (fun y => c33 (p30.trans y)), bI_0.mp (p34.symm.trans c37)⟩, fun y => absurd y (by omega)⟩).symm⟩
      refine lv_lookup (off := 81) (tgt := 116) hx hb d_ClassPattern_matches_35 (by decide) (by rw [lv_osw k25 (show (0 : Int32).toInt = 0 by decide), lv_osw k29 (show (1 : Int32).toInt = 1 by decide)] <;> rfl) (by decide) ?_
      refine lv_aload_n hx hb d_ClassPattern_matches_116 rfl (lv_at hl 0 rfl) ?_
      refine lv_aload_n hx hb d_ClassPattern_matches_117 rfl (lv_at hl 1 rfl) ?_
      refine m_get hc hE hw hqc kc_Question l_ClassPattern_58_Question rfl d_ClassPattern_matches_118 ?_
      refine m_calli hw (m_runV (As := [.ref na]) (rest := []) hc hE hw (c_ClassPattern_beginsName G l H.size f ⟨hp, hts, hm1, hm2, hn1, hn2, hsh⟩ hna) hp rfl cw_ClassPattern_61 se_ClassPattern_beginsName rfl hl.1 rfl (Nat.le_of_ble_eq_true rfl) d_ClassPattern_matches_121 ⟨rfl, rfl, by decide, by decide⟩ ⟨by first | decide | (dsimp only; omega), by first | decide | (dsimp only; omega)⟩) (fun r40 g39 H locs p38 hw => ?_)
      obtain ⟨rfl, p38⟩ := p38
      have hs2 : 2 ≤ sh := by have h0 : sh ≠ 0 := fun z => k25 (congrArg nI z); have h1 : sh ≠ 1 := fun z => k29 (congrArg nI z); omega
      exact m_zret hc hr hlk hw ⟨by decide, by decide⟩ d_ClassPattern_matches_124 (by rw [p38]; exact bI_nar _) ⟨rfl, by rw [p38]; exact bI_c ⟨fun z => ⟨(fun _ => bI_n.mp (fun z => c24 (p21.trans z))), fun y => absurd y (by omega), fun y => absurd y (by omega), fun _ => z⟩, fun z => z.2.2.2 hs2⟩⟩
    · refine lv_iconst (v := 0) hx hb d_ClassPattern_matches_29 (by decide) ?_
      exact m_zret hc hr hlk hw ⟨by first | decide | (dsimp only; omega), by first | decide | (dsimp only; omega)⟩ d_ClassPattern_matches_30 (by decide) ⟨rfl, (bI_f (fun z => (bI_0.mp (p21.symm.trans c24)) (z.1 (bI_n.mp (fun y => c4 (p1.trans y)))))).symm⟩
