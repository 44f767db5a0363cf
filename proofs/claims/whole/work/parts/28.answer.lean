/-! links of the pools, as the walks ask for them -/
theorem l_DefaultFilter_16_DefaultFilter : lnk "StreamFilters$DefaultFilter" 16 F_DefaultFilter 5 3 := ⟨by decide, "StreamFilters$DefaultFilter", Or.inl rfl, Or.inl (tb 460 (by decide +kernel) rfl)⟩
theorem l_DefaultFilter_22_DefaultFilter : lnk "StreamFilters$DefaultFilter" 22 F_DefaultFilter 5 4 := ⟨by decide, "StreamFilters$DefaultFilter", Or.inl rfl, Or.inl (tb 461 (by decide +kernel) rfl)⟩
theorem l_JoinedFilter_22_JoinedFilter : lnk "StreamFilters$JoinedFilter" 22 F_JoinedFilter 5 3 := ⟨by decide, "StreamFilters$JoinedFilter", Or.inl rfl, Or.inl (tb 420 (by decide +kernel) rfl)⟩
theorem l_JoinedFilter_28_JoinedFilter : lnk "StreamFilters$JoinedFilter" 28 F_JoinedFilter 5 4 := ⟨by decide, "StreamFilters$JoinedFilter", Or.inl rfl, Or.inl (tb 421 (by decide +kernel) rfl)⟩
theorem l_OnlyFilter_16_OnlyFilter : lnk "StreamFilters$OnlyFilter" 16 F_OnlyFilter 5 3 := ⟨by decide, "StreamFilters$OnlyFilter", Or.inl rfl, Or.inl (tb 481 (by decide +kernel) rfl)⟩
theorem l_OnlyFilter_22_OnlyFilter : lnk "StreamFilters$OnlyFilter" 22 F_OnlyFilter 5 4 := ⟨by decide, "StreamFilters$OnlyFilter", Or.inl rfl, Or.inl (tb 482 (by decide +kernel) rfl)⟩
theorem l_OnlyFilter_26_Question : lnk "StreamFilters$OnlyFilter" 26 F_Question 11 5 := ⟨by decide, "StreamFilters$Question", Or.inl rfl, Or.inl (tb 61 (by decide +kernel) rfl)⟩
theorem l_OnlyFilter_31_Question : lnk "StreamFilters$OnlyFilter" 31 F_Question 11 0 := ⟨by decide, "StreamFilters$Question", Or.inl rfl, Or.inl (tb 49 (by decide +kernel) rfl)⟩
theorem l_StrictFilter_16_StrictFilter : lnk "StreamFilters$StrictFilter" 16 F_StrictFilter 5 3 := ⟨by decide, "StreamFilters$StrictFilter", Or.inl rfl, Or.inl (tb 440 (by decide +kernel) rfl)⟩
theorem l_StrictFilter_22_StrictFilter : lnk "StreamFilters$StrictFilter" 22 F_StrictFilter 5 4 := ⟨by decide, "StreamFilters$StrictFilter", Or.inl rfl, Or.inl (tb 441 (by decide +kernel) rfl)⟩
theorem l_StrictFilter_30_Question : lnk "StreamFilters$StrictFilter" 30 F_Question 11 5 := ⟨by decide, "StreamFilters$Question", Or.inl rfl, Or.inl (tb 63 (by decide +kernel) rfl)⟩
theorem cw_OnlyFilter_34 : cwk "StreamFilters$OnlyFilter" 34 y_Signs_length b_Signs_length 1 (some .int) 0 := ⟨Or.inl (tb 522 (by decide +kernel) rfl), (tb 190 (by decide +kernel) rfl), (tb 2 (by decide +kernel) rfl), by decide, by decide, by decide +kernel⟩
theorem cw_OnlyFilter_40 : cwk "StreamFilters$OnlyFilter" 40 y_Signs_beginsWithPart b_Signs_beginsWithPart 5 (some .boolean) 3 := ⟨Or.inl (tb 523 (by decide +kernel) rfl), (tb 526 (by decide +kernel) rfl), (tb 2 (by decide +kernel) rfl), by decide, by decide, by decide +kernel⟩
theorem al_DefaultFilter_25 : Cond.methodLink "StreamFilters$DefaultFilter" 25 y_Filter_answer ∈ TB := (tb 516 (by decide +kernel) rfl)
theorem al_JoinedFilter_31 : Cond.methodLink "StreamFilters$JoinedFilter" 31 y_Filter_answer ∈ TB := (tb 519 (by decide +kernel) rfl)
theorem al_OnlyFilter_44 : Cond.methodLink "StreamFilters$OnlyFilter" 44 y_Filter_answer ∈ TB := (tb 527 (by decide +kernel) rfl)
theorem al_StrictFilter_26 : Cond.methodLink "StreamFilters$StrictFilter" 26 y_Filter_answer ∈ TB := (tb 530 (by decide +kernel) rfl)
/-! decode rows -/
theorem d_DefaultFilter_answer_0 : decode b_DefaultFilter_answer 0 = .ok (.aload_n 0, 1) := by decide +kernel
theorem d_DefaultFilter_answer_1 : decode b_DefaultFilter_answer 1 = .ok (.getfield 16, 3) := by decide +kernel
theorem d_DefaultFilter_answer_4 : decode b_DefaultFilter_answer 4 = .ok (.aload_n 1, 1) := by decide +kernel
theorem d_DefaultFilter_answer_5 : decode b_DefaultFilter_answer 5 = .ok (.invokevirtual 25, 3) := by decide +kernel
theorem d_DefaultFilter_answer_8 : decode b_DefaultFilter_answer 8 = .ok (.istore_n 2, 1) := by decide +kernel
theorem d_DefaultFilter_answer_9 : decode b_DefaultFilter_answer 9 = .ok (.iload_n 2, 1) := by decide +kernel
theorem d_DefaultFilter_answer_10 : decode b_DefaultFilter_answer 10 = .ok (.ifCond .ne 10, 3) := by decide +kernel
theorem d_DefaultFilter_answer_13 : decode b_DefaultFilter_answer 13 = .ok (.aload_n 0, 1) := by decide +kernel
theorem d_DefaultFilter_answer_14 : decode b_DefaultFilter_answer 14 = .ok (.getfield 22, 3) := by decide +kernel
theorem d_DefaultFilter_answer_17 : decode b_DefaultFilter_answer 17 = .ok (.goto 4, 3) := by decide +kernel
theorem d_DefaultFilter_answer_20 : decode b_DefaultFilter_answer 20 = .ok (.iload_n 2, 1) := by decide +kernel
theorem d_DefaultFilter_answer_21 : decode b_DefaultFilter_answer 21 = .ok (.ireturn, 1) := by decide +kernel
theorem d_JoinedFilter_answer_0 : decode b_JoinedFilter_answer 0 = .ok (.aload_n 0, 1) := by decide +kernel
theorem d_JoinedFilter_answer_1 : decode b_JoinedFilter_answer 1 = .ok (.getfield 22, 3) := by decide +kernel
theorem d_JoinedFilter_answer_4 : decode b_JoinedFilter_answer 4 = .ok (.aload_n 1, 1) := by decide +kernel
theorem d_JoinedFilter_answer_5 : decode b_JoinedFilter_answer 5 = .ok (.invokevirtual 31, 3) := by decide +kernel
theorem d_JoinedFilter_answer_8 : decode b_JoinedFilter_answer 8 = .ok (.istore_n 2, 1) := by decide +kernel
theorem d_JoinedFilter_answer_9 : decode b_JoinedFilter_answer 9 = .ok (.iload_n 2, 1) := by decide +kernel
theorem d_JoinedFilter_answer_10 : decode b_JoinedFilter_answer 10 = .ok (.iconst 2, 1) := by decide +kernel
theorem d_JoinedFilter_answer_11 : decode b_JoinedFilter_answer 11 = .ok (.if_icmp .ne 5, 3) := by decide +kernel
theorem d_JoinedFilter_answer_14 : decode b_JoinedFilter_answer 14 = .ok (.iconst 2, 1) := by decide +kernel
theorem d_JoinedFilter_answer_15 : decode b_JoinedFilter_answer 15 = .ok (.ireturn, 1) := by decide +kernel
theorem d_JoinedFilter_answer_16 : decode b_JoinedFilter_answer 16 = .ok (.aload_n 0, 1) := by decide +kernel
theorem d_JoinedFilter_answer_17 : decode b_JoinedFilter_answer 17 = .ok (.getfield 28, 3) := by decide +kernel
theorem d_JoinedFilter_answer_20 : decode b_JoinedFilter_answer 20 = .ok (.aload_n 1, 1) := by decide +kernel
theorem d_JoinedFilter_answer_21 : decode b_JoinedFilter_answer 21 = .ok (.invokevirtual 31, 3) := by decide +kernel
theorem d_JoinedFilter_answer_24 : decode b_JoinedFilter_answer 24 = .ok (.istore_n 3, 1) := by decide +kernel
theorem d_JoinedFilter_answer_25 : decode b_JoinedFilter_answer 25 = .ok (.iload_n 3, 1) := by decide +kernel
theorem d_JoinedFilter_answer_26 : decode b_JoinedFilter_answer 26 = .ok (.iconst 2, 1) := by decide +kernel
theorem d_JoinedFilter_answer_27 : decode b_JoinedFilter_answer 27 = .ok (.if_icmp .ne 5, 3) := by decide +kernel
theorem d_JoinedFilter_answer_30 : decode b_JoinedFilter_answer 30 = .ok (.iconst 2, 1) := by decide +kernel
theorem d_JoinedFilter_answer_31 : decode b_JoinedFilter_answer 31 = .ok (.ireturn, 1) := by decide +kernel
theorem d_JoinedFilter_answer_32 : decode b_JoinedFilter_answer 32 = .ok (.iload_n 2, 1) := by decide +kernel
theorem d_JoinedFilter_answer_33 : decode b_JoinedFilter_answer 33 = .ok (.iconst 1, 1) := by decide +kernel
theorem d_JoinedFilter_answer_34 : decode b_JoinedFilter_answer 34 = .ok (.if_icmp .eq 8, 3) := by decide +kernel
theorem d_JoinedFilter_answer_37 : decode b_JoinedFilter_answer 37 = .ok (.iload_n 3, 1) := by decide +kernel
theorem d_JoinedFilter_answer_38 : decode b_JoinedFilter_answer 38 = .ok (.iconst 1, 1) := by decide +kernel
theorem d_JoinedFilter_answer_39 : decode b_JoinedFilter_answer 39 = .ok (.if_icmp .ne 7, 3) := by decide +kernel
theorem d_JoinedFilter_answer_42 : decode b_JoinedFilter_answer 42 = .ok (.iconst 1, 1) := by decide +kernel
theorem d_JoinedFilter_answer_43 : decode b_JoinedFilter_answer 43 = .ok (.goto 4, 3) := by decide +kernel
theorem d_JoinedFilter_answer_46 : decode b_JoinedFilter_answer 46 = .ok (.iconst 0, 1) := by decide +kernel
theorem d_JoinedFilter_answer_47 : decode b_JoinedFilter_answer 47 = .ok (.ireturn, 1) := by decide +kernel
theorem d_OnlyFilter_answer_0 : decode b_OnlyFilter_answer 0 = .ok (.aload_n 1, 1) := by decide +kernel
theorem d_OnlyFilter_answer_1 : decode b_OnlyFilter_answer 1 = .ok (.getfield 26, 3) := by decide +kernel
theorem d_OnlyFilter_answer_4 : decode b_OnlyFilter_answer 4 = .ok (.iconst 1, 1) := by decide +kernel
theorem d_OnlyFilter_answer_5 : decode b_OnlyFilter_answer 5 = .ok (.if_icmp .ne 29, 3) := by decide +kernel
theorem d_OnlyFilter_answer_8 : decode b_OnlyFilter_answer 8 = .ok (.aload_n 1, 1) := by decide +kernel
theorem d_OnlyFilter_answer_9 : decode b_OnlyFilter_answer 9 = .ok (.getfield 31, 3) := by decide +kernel
theorem d_OnlyFilter_answer_12 : decode b_OnlyFilter_answer 12 = .ok (.aload_n 0, 1) := by decide +kernel
theorem d_OnlyFilter_answer_13 : decode b_OnlyFilter_answer 13 = .ok (.getfield 22, 3) := by decide +kernel
theorem d_OnlyFilter_answer_16 : decode b_OnlyFilter_answer 16 = .ok (.iconst 0, 1) := by decide +kernel
theorem d_OnlyFilter_answer_17 : decode b_OnlyFilter_answer 17 = .ok (.aload_n 0, 1) := by decide +kernel
theorem d_OnlyFilter_answer_18 : decode b_OnlyFilter_answer 18 = .ok (.getfield 22, 3) := by decide +kernel
theorem d_OnlyFilter_answer_21 : decode b_OnlyFilter_answer 21 = .ok (.invokevirtual 34, 3) := by decide +kernel
theorem d_OnlyFilter_answer_24 : decode b_OnlyFilter_answer 24 = .ok (.invokevirtual 40, 3) := by decide +kernel
theorem d_OnlyFilter_answer_27 : decode b_OnlyFilter_answer 27 = .ok (.ifCond .eq 7, 3) := by decide +kernel
theorem d_OnlyFilter_answer_30 : decode b_OnlyFilter_answer 30 = .ok (.iconst 1, 1) := by decide +kernel
theorem d_OnlyFilter_answer_31 : decode b_OnlyFilter_answer 31 = .ok (.goto 4, 3) := by decide +kernel
theorem d_OnlyFilter_answer_34 : decode b_OnlyFilter_answer 34 = .ok (.iconst 0, 1) := by decide +kernel
theorem d_OnlyFilter_answer_35 : decode b_OnlyFilter_answer 35 = .ok (.istore_n 2, 1) := by decide +kernel
theorem d_OnlyFilter_answer_36 : decode b_OnlyFilter_answer 36 = .ok (.iload_n 2, 1) := by decide +kernel
theorem d_OnlyFilter_answer_37 : decode b_OnlyFilter_answer 37 = .ok (.ifCond .eq 14, 3) := by decide +kernel
theorem d_OnlyFilter_answer_40 : decode b_OnlyFilter_answer 40 = .ok (.aload_n 0, 1) := by decide +kernel
theorem d_OnlyFilter_answer_41 : decode b_OnlyFilter_answer 41 = .ok (.getfield 16, 3) := by decide +kernel
theorem d_OnlyFilter_answer_44 : decode b_OnlyFilter_answer 44 = .ok (.aload_n 1, 1) := by decide +kernel
theorem d_OnlyFilter_answer_45 : decode b_OnlyFilter_answer 45 = .ok (.invokevirtual 44, 3) := by decide +kernel
theorem d_OnlyFilter_answer_48 : decode b_OnlyFilter_answer 48 = .ok (.goto 4, 3) := by decide +kernel
theorem d_OnlyFilter_answer_51 : decode b_OnlyFilter_answer 51 = .ok (.iconst 0, 1) := by decide +kernel
theorem d_OnlyFilter_answer_52 : decode b_OnlyFilter_answer 52 = .ok (.ireturn, 1) := by decide +kernel
theorem d_StrictFilter_answer_0 : decode b_StrictFilter_answer 0 = .ok (.aload_n 0, 1) := by decide +kernel
theorem d_StrictFilter_answer_1 : decode b_StrictFilter_answer 1 = .ok (.getfield 16, 3) := by decide +kernel
theorem d_StrictFilter_answer_4 : decode b_StrictFilter_answer 4 = .ok (.aload_n 1, 1) := by decide +kernel
theorem d_StrictFilter_answer_5 : decode b_StrictFilter_answer 5 = .ok (.invokevirtual 26, 3) := by decide +kernel
theorem d_StrictFilter_answer_8 : decode b_StrictFilter_answer 8 = .ok (.istore_n 2, 1) := by decide +kernel
theorem d_StrictFilter_answer_9 : decode b_StrictFilter_answer 9 = .ok (.aload_n 1, 1) := by decide +kernel
theorem d_StrictFilter_answer_10 : decode b_StrictFilter_answer 10 = .ok (.getfield 30, 3) := by decide +kernel
theorem d_StrictFilter_answer_13 : decode b_StrictFilter_answer 13 = .ok (.iconst 1, 1) := by decide +kernel
theorem d_StrictFilter_answer_14 : decode b_StrictFilter_answer 14 = .ok (.if_icmp .eq 17, 3) := by decide +kernel
theorem d_StrictFilter_answer_17 : decode b_StrictFilter_answer 17 = .ok (.aload_n 1, 1) := by decide +kernel
theorem d_StrictFilter_answer_18 : decode b_StrictFilter_answer 18 = .ok (.getfield 30, 3) := by decide +kernel
theorem d_StrictFilter_answer_21 : decode b_StrictFilter_answer 21 = .ok (.ifCond .ne 14, 3) := by decide +kernel
theorem d_StrictFilter_answer_24 : decode b_StrictFilter_answer 24 = .ok (.aload_n 0, 1) := by decide +kernel
theorem d_StrictFilter_answer_25 : decode b_StrictFilter_answer 25 = .ok (.getfield 22, 3) := by decide +kernel
theorem d_StrictFilter_answer_28 : decode b_StrictFilter_answer 28 = .ok (.ifCond .eq 7, 3) := by decide +kernel
theorem d_StrictFilter_answer_31 : decode b_StrictFilter_answer 31 = .ok (.iconst 1, 1) := by decide +kernel
theorem d_StrictFilter_answer_32 : decode b_StrictFilter_answer 32 = .ok (.goto 4, 3) := by decide +kernel
theorem d_StrictFilter_answer_35 : decode b_StrictFilter_answer 35 = .ok (.iconst 0, 1) := by decide +kernel
theorem d_StrictFilter_answer_36 : decode b_StrictFilter_answer 36 = .ok (.istore_n 3, 1) := by decide +kernel
theorem d_StrictFilter_answer_37 : decode b_StrictFilter_answer 37 = .ok (.iload_n 2, 1) := by decide +kernel
theorem d_StrictFilter_answer_38 : decode b_StrictFilter_answer 38 = .ok (.ifCond .ne 11, 3) := by decide +kernel
theorem d_StrictFilter_answer_41 : decode b_StrictFilter_answer 41 = .ok (.iload_n 3, 1) := by decide +kernel
theorem d_StrictFilter_answer_42 : decode b_StrictFilter_answer 42 = .ok (.ifCond .eq 7, 3) := by decide +kernel
theorem d_StrictFilter_answer_45 : decode b_StrictFilter_answer 45 = .ok (.iconst 2, 1) := by decide +kernel
theorem d_StrictFilter_answer_46 : decode b_StrictFilter_answer 46 = .ok (.goto 4, 3) := by decide +kernel
theorem d_StrictFilter_answer_49 : decode b_StrictFilter_answer 49 = .ok (.iload_n 2, 1) := by decide +kernel
theorem d_StrictFilter_answer_50 : decode b_StrictFilter_answer 50 = .ok (.ireturn, 1) := by decide +kernel
set_option maxHeartbeats 4000000 in
set_option maxRecDepth 100000 in
/-- JoinedFilter.answer(q) -/
theorem c_JoinedFilter_answer (G : GG) (l : Launch) (sz : Nat) (f : Wd) (d : Nat) (hIH : ∀ d', d = d' + 1 → ANS G l d') (g : Wd) (a : Nat) (b c2 : Nat) (vb vc : FV) (q na nr ncap nn : Nat) (nt : Nat → Int32) (ma mr mcap mn : Nat) (mt : Nat → Int32) (dp rf by_ so di le co tx lx : Int32) (h1 : g a = some (.inr (6, [.int 2, .int (vb.2.1 + vc.2.1), .int (1 + (if vb.2.2.1 < vc.2.2.1 then vc.2.2.1 else vb.2.2.1)), .ref b, .ref c2]))) (hrb : RF G g d b vb) (hrc : RF G g d c2 vc) (hq : qs G f q na nr ncap nn nt ma mr mcap mn mt dp rf by_ so di le co tx lx) (hg : gle g f) (hgq : g q = none) : Ci G l y_JoinedFilter_answer b_JoinedFilter_answer 4 (some .int) ({ frames := 5 + (d + 1), cells := 0, slots := 0, locals := 118 + 30 * (d + 1) }) sz f [.ref a, .ref q] (anP f q na ma nn nt mn mt dp rf by_ so di le co tx lx (anJ vb.2.2.2.1 vc.2.2.2.1)) := by
  refine ct_of (by decide) (Nat.le_of_ble_eq_true rfl) ?_
  intro p e s m below meth c ls H locs hEn
  obtain ⟨hc, hr, hlk, hin, hE, hw, hsz, hl⟩ := hEn
  have hx := hc.1
  have hb := hc.2.1
  have hl : lv_has ls 4 [(0, .ref a), (1, .ref q)] := hl
  have hq0 := hq
  obtain ⟨hqc, hqn, hqm⟩ := hq0
  refine lv_aload_n hx hb d_JoinedFilter_answer_0 rfl (lv_at hl 0 rfl) ?_
  refine m_get hc hE hw (hg _ _ h1) kc_JoinedFilter l_JoinedFilter_22_JoinedFilter rfl d_JoinedFilter_answer_1 ?_
  refine lv_aload_n hx hb d_JoinedFilter_answer_4 rfl (lv_at hl 1 rfl) ?_
  refine m_calli hw (run_ans (rest := []) hIH hc hE hw hrb hq hg hgq al_JoinedFilter_31 hl.1 (Nat.le_of_ble_eq_true rfl) d_JoinedFilter_answer_5 ⟨by dsimp only; omega, by dsimp only; omega⟩ ⟨by dsimp only; omega, by dsimp only; omega⟩) (fun r3 g2 H locs p1 hw => ?_)
  obtain ⟨A1, eA1⟩ : ∃ z, z = vb.2.2.2.1 (nn, nt, mn, mt, dp, rf, by_, so, di, le) (co, tx, lx) := ⟨_, rfl⟩
  obtain ⟨p1, hfe1⟩ := p1
  rw [← eA1] at p1 hfe1
  have hF1 : g2 = va_up f q (some (.inr (2, [.ref na, .ref ma, .int dp, .int rf, .int by_, .int so, .int di, .int le, .int A1.2.1, .int A1.2.2.1, .int A1.2.2.2]))) := hfe1
  have hg1 : gle g g2 := by rw [hF1]; exact hg.upf hgq
  have hq1 : qs G g2 q na nr ncap nn nt ma mr mcap mn mt dp rf by_ so di le A1.2.1 A1.2.2.1 A1.2.2.2 := by rw [hF1]; exact ⟨va_up_self _ _ _, sg_up hqn hqc wd_x, sg_up hqm hqc wd_x⟩
  refine lv_istore_n (lv' := [(2, .int r3), (0, .ref a), (1, .ref q)]) hx hb d_JoinedFilter_answer_8 rfl hl (by decide) rfl (fun ls hl => ?_)
  refine lv_iload_n hx hb d_JoinedFilter_answer_9 rfl (lv_at hl 0 rfl) ?_
  refine lv_iconst (v := 2) hx hb d_JoinedFilter_answer_10 (by decide) ?_
  refine lv_icmp_ne (tgt := 16) hx hb d_JoinedFilter_answer_11 (by decide) (fun c4 => ?_) (fun c4 => ?_)
  · refine lv_aload_n hx hb d_JoinedFilter_answer_16 rfl (lv_at hl 1 rfl) ?_
    refine m_get hc hE hw (hg1 _ _ h1) kc_JoinedFilter l_JoinedFilter_28_JoinedFilter rfl d_JoinedFilter_answer_17 ?_
    refine lv_aload_n hx hb d_JoinedFilter_answer_20 rfl (lv_at hl 2 rfl) ?_
    refine m_calli hw (run_ans (rest := []) hIH hc hE hw hrc hq1 hg1 hgq al_JoinedFilter_31 hl.1 (Nat.le_of_ble_eq_true rfl) d_JoinedFilter_answer_21 ⟨by dsimp only; omega, by dsimp only; omega⟩ ⟨by dsimp only; omega, by dsimp only; omega⟩) (fun r7 g6 H locs p5 hw => ?_)
    obtain ⟨A2, eA2⟩ : ∃ z, z = vc.2.2.2.1 (nn, nt, mn, mt, dp, rf, by_, so, di, le) (A1.2.1, A1.2.2.1, A1.2.2.2) := ⟨_, rfl⟩
    obtain ⟨p5, hfe2⟩ := p5
    rw [← eA2] at p5 hfe2
    have hF2 : g6 = va_up f q (some (.inr (2, [.ref na, .ref ma, .int dp, .int rf, .int by_, .int so, .int di, .int le, .int A2.2.1, .int A2.2.2.1, .int A2.2.2.2]))) := by rw [hfe2, hF1, up_uu]
    have hg2 : gle g g6 := by rw [hF2]; exact hg.upf hgq
    have hq2 : qs G g6 q na nr ncap nn nt ma mr mcap mn mt dp rf by_ so di le A2.2.1 A2.2.2.1 A2.2.2.2 := by rw [hF2]; exact ⟨va_up_self _ _ _, sg_up hqn hqc wd_x, sg_up hqm hqc wd_x⟩
    refine lv_istore_n (lv' := [(3, .int r7), (2, .int r3), (0, .ref a), (1, .ref q)]) hx hb d_JoinedFilter_answer_24 rfl hl (by decide) rfl (fun ls hl => ?_)
    refine lv_iload_n hx hb d_JoinedFilter_answer_25 rfl (lv_at hl 0 rfl) ?_
    refine lv_iconst (v := 2) hx hb d_JoinedFilter_answer_26 (by decide) ?_
    refine lv_icmp_ne (tgt := 32) hx hb d_JoinedFilter_answer_27 (by decide) (fun c8 => ?_) (fun c8 => ?_)
    · refine lv_iload_n hx hb d_JoinedFilter_answer_32 rfl (lv_at hl 1 rfl) ?_
      refine lv_iconst (v := 1) hx hb d_JoinedFilter_answer_33 (by decide) ?_
      refine lv_icmp_eq (tgt := 42) hx hb d_JoinedFilter_answer_34 (by decide) (fun c9 => ?_) (fun c9 => ?_)
      · refine lv_iconst (v := 1) hx hb d_JoinedFilter_answer_42 (by decide) ?_
        refine lv_goto (tgt := 47) hx hb d_JoinedFilter_answer_43 (by decide) ?_
        have hn1 : ¬ (vb.2.2.2.1 (nn, nt, mn, mt, dp, rf, by_, so, di, le) (co, tx, lx)).1 = 2 := by rw [← eA1, ← p1]; exact c4
        have eA2b : A2 = vc.2.2.2.1 (nn, nt, mn, mt, dp, rf, by_, so, di, le) (vb.2.2.2.1 (nn, nt, mn, mt, dp, rf, by_, so, di, le) (co, tx, lx)).2 := by rw [eA2, eA1]
        have hn2 : ¬ (vc.2.2.2.1 (nn, nt, mn, mt, dp, rf, by_, so, di, le) (vb.2.2.2.1 (nn, nt, mn, mt, dp, rf, by_, so, di, le) (co, tx, lx)).2).1 = 2 := by rw [← eA2b, ← p5]; exact c8
        have hr2 : anJ vb.2.2.2.1 vc.2.2.2.1 (nn, nt, mn, mt, dp, rf, by_, so, di, le) (co, tx, lx) = (pif (A1.1 = 1 ∨ A2.1 = 1) 1 0, A2.2) := by rw [eA2b, eA1]; exact (pif_f hn1).trans (pif_f hn2)
        exact m_iret hc hr hlk hw ⟨by first | decide | (dsimp only; omega), by first | decide | (dsimp only; omega)⟩ d_JoinedFilter_answer_47 ⟨by rw [hr2]; exact (pif_t (Or.inl (by rw [← p1]; exact c9))).symm, by rw [hr2]; exact hF2⟩
      · refine lv_iload_n hx hb d_JoinedFilter_answer_37 rfl (lv_at hl 0 rfl) ?_
        refine lv_iconst (v := 1) hx hb d_JoinedFilter_answer_38 (by decide) ?_
        refine lv_icmp_ne (tgt := 46) hx hb d_JoinedFilter_answer_39 (by decide) (fun c10 => ?_) (fun c10 => ?_)
        · refine lv_iconst (v := 0) hx hb d_JoinedFilter_answer_46 (by decide) ?_
          have hn1 : ¬ (vb.2.2.2.1 (nn, nt, mn, mt, dp, rf, by_, so, di, le) (co, tx, lx)).1 = 2 := by rw [← eA1, ← p1]; exact c4
          have eA2b : A2 = vc.2.2.2.1 (nn, nt, mn, mt, dp, rf, by_, so, di, le) (vb.2.2.2.1 (nn, nt, mn, mt, dp, rf, by_, so, di, le) (co, tx, lx)).2 := by rw [eA2, eA1]
          have hn2 : ¬ (vc.2.2.2.1 (nn, nt, mn, mt, dp, rf, by_, so, di, le) (vb.2.2.2.1 (nn, nt, mn, mt, dp, rf, by_, so, di, le) (co, tx, lx)).2).1 = 2 := by rw [← eA2b, ← p5]; exact c8
          have hr2 : anJ vb.2.2.2.1 vc.2.2.2.1 (nn, nt, mn, mt, dp, rf, by_, so, di, le) (co, tx, lx) = (pif (A1.1 = 1 ∨ A2.1 = 1) 1 0, A2.2) := by rw [eA2b, eA1]; exact (pif_f hn1).trans (pif_f hn2)
          exact m_iret hc hr hlk hw ⟨by first | decide | (dsimp only; omega), by first | decide | (dsimp only; omega)⟩ d_JoinedFilter_answer_47 ⟨by rw [hr2]; exact (pif_f (fun z => z.elim (fun z => c9 (by rw [p1]; exact z)) (fun z => c10 (by rw [p5]; exact z)))).symm, by rw [hr2]; exact hF2⟩
        · refine lv_iconst (v := 1) hx hb d_JoinedFilter_answer_42 (by decide) ?_
          refine lv_goto (tgt := 47) hx hb d_JoinedFilter_answer_43 (by decide) ?_
          have hn1 : ¬ (vb.2.2.2.1 (nn, nt, mn, mt, dp, rf, by_, so, di, le) (co, tx, lx)).1 = 2 := by rw [← eA1, ← p1]; exact c4
          have eA2b : A2 = vc.2.2.2.1 (nn, nt, mn, mt, dp, rf, by_, so, di, le) (vb.2.2.2.1 (nn, nt, mn, mt, dp, rf, by_, so, di, le) (co, tx, lx)).2 := by rw [eA2, eA1]
          have hn2 : ¬ (vc.2.2.2.1 (nn, nt, mn, mt, dp, rf, by_, so, di, le) (vb.2.2.2.1 (nn, nt, mn, mt, dp, rf, by_, so, di, le) (co, tx, lx)).2).1 = 2 := by rw [← eA2b, ← p5]; exact c8
          have hr2 : anJ vb.2.2.2.1 vc.2.2.2.1 (nn, nt, mn, mt, dp, rf, by_, so, di, le) (co, tx, lx) = (pif (A1.1 = 1 ∨ A2.1 = 1) 1 0, A2.2) := by rw [eA2b, eA1]; exact (pif_f hn1).trans (pif_f hn2)
          exact m_iret hc hr hlk hw ⟨by first | decide | (dsimp only; omega), by first | decide | (dsimp only; omega)⟩ d_JoinedFilter_answer_47 ⟨by rw [hr2]; exact (pif_t (Or.inr (by rw [← p5]; exact c10))).symm, by rw [hr2]; exact hF2⟩
    · refine lv_iconst (v := 2) hx hb d_JoinedFilter_answer_30 (by decide) ?_
      have hn1 : ¬ (vb.2.2.2.1 (nn, nt, mn, mt, dp, rf, by_, so, di, le) (co, tx, lx)).1 = 2 := by rw [← eA1, ← p1]; exact c4
      have eA2b : A2 = vc.2.2.2.1 (nn, nt, mn, mt, dp, rf, by_, so, di, le) (vb.2.2.2.1 (nn, nt, mn, mt, dp, rf, by_, so, di, le) (co, tx, lx)).2 := by rw [eA2, eA1]
      have hr2 : anJ vb.2.2.2.1 vc.2.2.2.1 (nn, nt, mn, mt, dp, rf, by_, so, di, le) (co, tx, lx) = (2, A2.2) := by rw [eA2b]; exact (pif_f hn1).trans (pif_t (by rw [← eA2b, ← p5]; exact c8))
      exact m_iret hc hr hlk hw ⟨by first | decide | (dsimp only; omega), by first | decide | (dsimp only; omega)⟩ d_JoinedFilter_answer_31 ⟨by rw [hr2], by rw [hr2]; exact hF2⟩
  · refine lv_iconst (v := 2) hx hb d_JoinedFilter_answer_14 (by decide) ?_
    have hr2 : anJ vb.2.2.2.1 vc.2.2.2.1 (nn, nt, mn, mt, dp, rf, by_, so, di, le) (co, tx, lx) = (2, A1.2) := by rw [eA1]; exact pif_t (by rw [← eA1, ← p1]; exact c4)
    exact m_iret hc hr hlk hw ⟨by first | decide | (dsimp only; omega), by first | decide | (dsimp only; omega)⟩ d_JoinedFilter_answer_15 ⟨by rw [hr2], by rw [hr2]; exact hF1⟩

set_option maxHeartbeats 4000000 in
set_option maxRecDepth 100000 in
/-- StrictFilter.answer(q) -/
theorem c_StrictFilter_answer (G : GG) (l : Launch) (sz : Nat) (f : Wd) (d : Nat) (hIH : ∀ d', d = d' + 1 → ANS G l d') (g : Wd) (a : Nat) (b : Nat) (vb : FV) (al : Int32) (q na nr ncap nn : Nat) (nt : Nat → Int32) (ma mr mcap mn : Nat) (mt : Nat → Int32) (dp rf by_ so di le co tx lx : Int32) (h1 : g a = some (.inr (7, [.int 3, .int vb.2.1, .int (1 + vb.2.2.1), .ref b, .int al]))) (hrb : RF G g d b vb) (hq : qs G f q na nr ncap nn nt ma mr mcap mn mt dp rf by_ so di le co tx lx) (hg : gle g f) (hgq : g q = none) : Ci G l y_StrictFilter_answer b_StrictFilter_answer 4 (some .int) ({ frames := 5 + (d + 1), cells := 0, slots := 0, locals := 118 + 30 * (d + 1) }) sz f [.ref a, .ref q] (anP f q na ma nn nt mn mt dp rf by_ so di le co tx lx (anS al vb.2.2.2.1)) := by
  refine ct_of (by decide) (Nat.le_of_ble_eq_true rfl) ?_
  intro p e s m below meth c ls H locs hEn
  obtain ⟨hc, hr, hlk, hin, hE, hw, hsz, hl⟩ := hEn
  have hx := hc.1
  have hb := hc.2.1
  have hl : lv_has ls 4 [(0, .ref a), (1, .ref q)] := hl
  have hq0 := hq
  obtain ⟨hqc, hqn, hqm⟩ := hq0
  refine lv_aload_n hx hb d_StrictFilter_answer_0 rfl (lv_at hl 0 rfl) ?_
  refine m_get hc hE hw (hg _ _ h1) kc_StrictFilter l_StrictFilter_16_StrictFilter rfl d_StrictFilter_answer_1 ?_
  refine lv_aload_n hx hb d_StrictFilter_answer_4 rfl (lv_at hl 1 rfl) ?_
  refine m_calli hw (run_ans (rest := []) hIH hc hE hw hrb hq hg hgq al_StrictFilter_26 hl.1 (Nat.le_of_ble_eq_true rfl) d_StrictFilter_answer_5 ⟨by dsimp only; omega, by dsimp only; omega⟩ ⟨by dsimp only; omega, by dsimp only; omega⟩) (fun r3 g2 H locs p1 hw => ?_)
  obtain ⟨A1, eA1⟩ : ∃ z, z = vb.2.2.2.1 (nn, nt, mn, mt, dp, rf, by_, so, di, le) (co, tx, lx) := ⟨_, rfl⟩
  obtain ⟨p1, hfe1⟩ := p1
  rw [← eA1] at p1 hfe1
  have hF1 : g2 = va_up f q (some (.inr (2, [.ref na, .ref ma, .int dp, .int rf, .int by_, .int so, .int di, .int le, .int A1.2.1, .int A1.2.2.1, .int A1.2.2.2]))) := hfe1
  have hg1 : gle g g2 := by rw [hF1]; exact hg.upf hgq
  have hq1 : qs G g2 q na nr ncap nn nt ma mr mcap mn mt dp rf by_ so di le A1.2.1 A1.2.2.1 A1.2.2.2 := by rw [hF1]; exact ⟨va_up_self _ _ _, sg_up hqn hqc wd_x, sg_up hqm hqc wd_x⟩
  refine lv_istore_n (lv' := [(2, .int r3), (0, .ref a), (1, .ref q)]) hx hb d_StrictFilter_answer_8 rfl hl (by decide) rfl (fun ls hl => ?_)
  refine lv_aload_n hx hb d_StrictFilter_answer_9 rfl (lv_at hl 2 rfl) ?_
  refine m_get hc hE hw hq1.1 kc_Question l_StrictFilter_30_Question rfl d_StrictFilter_answer_10 ?_
  refine lv_iconst (v := 1) hx hb d_StrictFilter_answer_13 (by decide) ?_
  refine lv_icmp_eq (tgt := 31) hx hb d_StrictFilter_answer_14 (by decide) (fun c4 => ?_) (fun c4 => ?_)
  · refine lv_iconst (v := 1) hx hb d_StrictFilter_answer_31 (by decide) ?_
    refine lv_goto (tgt := 36) hx hb d_StrictFilter_answer_32 (by decide) ?_
    refine lv_istore_n (lv' := [(3, .int 1), (2, .int r3), (0, .ref a), (1, .ref q)]) hx hb d_StrictFilter_answer_36 rfl hl (by decide) rfl (fun ls hl => ?_)
    refine lv_iload_n hx hb d_StrictFilter_answer_37 rfl (lv_at hl 1 rfl) ?_
    refine lv_if_ne (tgt := 49) hx hb d_StrictFilter_answer_38 (by decide) (fun c5 => ?_) (fun c5 => ?_)
    · refine lv_iload_n hx hb d_StrictFilter_answer_49 rfl (lv_at hl 1 rfl) ?_
      have hr2 : anS al vb.2.2.2.1 (nn, nt, mn, mt, dp, rf, by_, so, di, le) (co, tx, lx) = (pif (A1.1 = 0 ∧ (so = 1 ∨ (so = 0 ∧ ¬ al = 0))) 2 A1.1, A1.2) := by rw [eA1]; rfl
      exact m_iret hc hr hlk hw ⟨by first | decide | (dsimp only; omega), by first | decide | (dsimp only; omega)⟩ d_StrictFilter_answer_50 ⟨by rw [hr2]; exact p1.trans (pif_f (fun z => c5 (by rw [p1]; exact z.1))).symm, by rw [hr2]; exact hF1⟩
    · refine lv_iload_n hx hb d_StrictFilter_answer_41 rfl (lv_at hl 0 rfl) ?_
      refine lv_if_eq (tgt := 49) hx hb d_StrictFilter_answer_42 (by decide) (fun c6 => ?_) (fun c6 => ?_)
      · refine lv_iload_n hx hb d_StrictFilter_answer_49 rfl (lv_at hl 1 rfl) ?_
        exact absurd c6 (by decide)
      · refine lv_iconst (v := 2) hx hb d_StrictFilter_answer_45 (by decide) ?_
        refine lv_goto (tgt := 50) hx hb d_StrictFilter_answer_46 (by decide) ?_
        have hr2 : anS al vb.2.2.2.1 (nn, nt, mn, mt, dp, rf, by_, so, di, le) (co, tx, lx) = (pif (A1.1 = 0 ∧ (so = 1 ∨ (so = 0 ∧ ¬ al = 0))) 2 A1.1, A1.2) := by rw [eA1]; rfl
        exact m_iret hc hr hlk hw ⟨by first | decide | (dsimp only; omega), by first | decide | (dsimp only; omega)⟩ d_StrictFilter_answer_50 ⟨by rw [hr2]; exact (pif_t ⟨by rw [← p1]; exact c5, Or.inl c4⟩).symm, by rw [hr2]; exact hF1⟩
  · refine lv_aload_n hx hb d_StrictFilter_answer_17 rfl (lv_at hl 2 rfl) ?_
    refine m_get hc hE hw hq1.1 kc_Question l_StrictFilter_30_Question rfl d_StrictFilter_answer_18 ?_
    refine lv_if_ne (tgt := 35) hx hb d_StrictFilter_answer_21 (by decide) (fun c7 => ?_) (fun c7 => ?_)
    · refine lv_iconst (v := 0) hx hb d_StrictFilter_answer_35 (by decide) ?_
      refine lv_istore_n (lv' := [(3, .int 0), (2, .int r3), (0, .ref a), (1, .ref q)]) hx hb d_StrictFilter_answer_36 rfl hl (by decide) rfl (fun ls hl => ?_)
      refine lv_iload_n hx hb d_StrictFilter_answer_37 rfl (lv_at hl 1 rfl) ?_
      refine lv_if_ne (tgt := 49) hx hb d_StrictFilter_answer_38 (by decide) (fun c8 => ?_) (fun c8 => ?_)
      · refine lv_iload_n hx hb d_StrictFilter_answer_49 rfl (lv_at hl 1 rfl) ?_
        have hr2 : anS al vb.2.2.2.1 (nn, nt, mn, mt, dp, rf, by_, so, di, le) (co, tx, lx) = (pif (A1.1 = 0 ∧ (so = 1 ∨ (so = 0 ∧ ¬ al = 0))) 2 A1.1, A1.2) := by rw [eA1]; rfl
        exact m_iret hc hr hlk hw ⟨by first | decide | (dsimp only; omega), by first | decide | (dsimp only; omega)⟩ d_StrictFilter_answer_50 ⟨by rw [hr2]; exact p1.trans (pif_f (fun z => c8 (by rw [p1]; exact z.1))).symm, by rw [hr2]; exact hF1⟩
      · refine lv_iload_n hx hb d_StrictFilter_answer_41 rfl (lv_at hl 0 rfl) ?_
        refine lv_if_eq (tgt := 49) hx hb d_StrictFilter_answer_42 (by decide) (fun c9 => ?_) (fun c9 => ?_)
        · refine lv_iload_n hx hb d_StrictFilter_answer_49 rfl (lv_at hl 1 rfl) ?_
          have hr2 : anS al vb.2.2.2.1 (nn, nt, mn, mt, dp, rf, by_, so, di, le) (co, tx, lx) = (pif (A1.1 = 0 ∧ (so = 1 ∨ (so = 0 ∧ ¬ al = 0))) 2 A1.1, A1.2) := by rw [eA1]; rfl
          exact m_iret hc hr hlk hw ⟨by first | decide | (dsimp only; omega), by first | decide | (dsimp only; omega)⟩ d_StrictFilter_answer_50 ⟨by rw [hr2]; exact p1.trans (pif_f (fun z => z.2.elim c4 (fun z => c7 z.1))).symm, by rw [hr2]; exact hF1⟩
        · refine lv_iconst (v := 2) hx hb d_StrictFilter_answer_45 (by decide) ?_
          refine lv_goto (tgt := 50) hx hb d_StrictFilter_answer_46 (by decide) ?_
          exact absurd rfl c9
    · refine lv_aload_n hx hb d_StrictFilter_answer_24 rfl (lv_at hl 1 rfl) ?_
      refine m_get hc hE hw (hg1 _ _ h1) kc_StrictFilter l_StrictFilter_22_StrictFilter rfl d_StrictFilter_answer_25 ?_
      refine lv_if_eq (tgt := 35) hx hb d_StrictFilter_answer_28 (by decide) (fun c10 => ?_) (fun c10 => ?_)
      · refine lv_iconst (v := 0) hx hb d_StrictFilter_answer_35 (by decide) ?_
        refine lv_istore_n (lv' := [(3, .int 0), (2, .int r3), (0, .ref a), (1, .ref q)]) hx hb d_StrictFilter_answer_36 rfl hl (by decide) rfl (fun ls hl => ?_)
        refine lv_iload_n hx hb d_StrictFilter_answer_37 rfl (lv_at hl 1 rfl) ?_
        refine lv_if_ne (tgt := 49) hx hb d_StrictFilter_answer_38 (by decide) (fun c11 => ?_) (fun c11 => ?_)
        · refine lv_iload_n hx hb d_StrictFilter_answer_49 rfl (lv_at hl 1 rfl) ?_
          have hr2 : anS al vb.2.2.2.1 (nn, nt, mn, mt, dp, rf, by_, so, di, le) (co, tx, lx) = (pif (A1.1 = 0 ∧ (so = 1 ∨ (so = 0 ∧ ¬ al = 0))) 2 A1.1, A1.2) := by rw [eA1]; rfl
          exact m_iret hc hr hlk hw ⟨by first | decide | (dsimp only; omega), by first | decide | (dsimp only; omega)⟩ d_StrictFilter_answer_50 ⟨by rw [hr2]; exact p1.trans (pif_f (fun z => c11 (by rw [p1]; exact z.1))).symm, by rw [hr2]; exact hF1⟩
        · refine lv_iload_n hx hb d_StrictFilter_answer_41 rfl (lv_at hl 0 rfl) ?_
          refine lv_if_eq (tgt := 49) hx hb d_StrictFilter_answer_42 (by decide) (fun c12 => ?_) (fun c12 => ?_)
          · refine lv_iload_n hx hb d_StrictFilter_answer_49 rfl (lv_at hl 1 rfl) ?_
            have hr2 : anS al vb.2.2.2.1 (nn, nt, mn, mt, dp, rf, by_, so, di, le) (co, tx, lx) = (pif (A1.1 = 0 ∧ (so = 1 ∨ (so = 0 ∧ ¬ al = 0))) 2 A1.1, A1.2) := by rw [eA1]; rfl
            exact m_iret hc hr hlk hw ⟨by first | decide | (dsimp only; omega), by first | decide | (dsimp only; omega)⟩ d_StrictFilter_answer_50 ⟨by rw [hr2]; exact p1.trans (pif_f (fun z => z.2.elim c4 (fun z => z.2 c10))).symm, by rw [hr2]; exact hF1⟩
          · refine lv_iconst (v := 2) hx hb d_StrictFilter_answer_45 (by decide) ?_
            refine lv_goto (tgt := 50) hx hb d_StrictFilter_answer_46 (by decide) ?_
            exact absurd rfl c12
      · refine lv_iconst (v := 1) hx hb d_StrictFilter_answer_31 (by decide) ?_
        refine lv_goto (tgt := 36) hx hb d_StrictFilter_answer_32 (by decide) ?_
        refine lv_istore_n (lv' := [(3, .int 1), (2, .int r3), (0, .ref a), (1, .ref q)]) hx hb d_StrictFilter_answer_36 rfl hl (by decide) rfl (fun ls hl => ?_)
        refine lv_iload_n hx hb d_StrictFilter_answer_37 rfl (lv_at hl 1 rfl) ?_
        refine lv_if_ne (tgt := 49) hx hb d_StrictFilter_answer_38 (by decide) (fun c13 => ?_) (fun c13 => ?_)
        · refine lv_iload_n hx hb d_StrictFilter_answer_49 rfl (lv_at hl 1 rfl) ?_
          have hr2 : anS al vb.2.2.2.1 (nn, nt, mn, mt, dp, rf, by_, so, di, le) (co, tx, lx) = (pif (A1.1 = 0 ∧ (so = 1 ∨ (so = 0 ∧ ¬ al = 0))) 2 A1.1, A1.2) := by rw [eA1]; rfl
          exact m_iret hc hr hlk hw ⟨by first | decide | (dsimp only; omega), by first | decide | (dsimp only; omega)⟩ d_StrictFilter_answer_50 ⟨by rw [hr2]; exact p1.trans (pif_f (fun z => c13 (by rw [p1]; exact z.1))).symm, by rw [hr2]; exact hF1⟩
        · refine lv_iload_n hx hb d_StrictFilter_answer_41 rfl (lv_at hl 0 rfl) ?_
          refine lv_if_eq (tgt := 49) hx hb d_StrictFilter_answer_42 (by decide) (fun c14 => ?_) (fun c14 => ?_)
          · refine lv_iload_n hx hb d_StrictFilter_answer_49 rfl (lv_at hl 1 rfl) ?_
            exact absurd c14 (by decide)
          · refine lv_iconst (v := 2) hx hb d_StrictFilter_answer_45 (by decide) ?_
            refine lv_goto (tgt := 50) hx hb d_StrictFilter_answer_46 (by decide) ?_
            have hr2 : anS al vb.2.2.2.1 (nn, nt, mn, mt, dp, rf, by_, so, di, le) (co, tx, lx) = (pif (A1.1 = 0 ∧ (so = 1 ∨ (so = 0 ∧ ¬ al = 0))) 2 A1.1, A1.2) := by rw [eA1]; rfl
            exact m_iret hc hr hlk hw ⟨by first | decide | (dsimp only; omega), by first | decide | (dsimp only; omega)⟩ d_StrictFilter_answer_50 ⟨by rw [hr2]; exact (pif_t ⟨by rw [← p1]; exact c13, Or.inr ⟨c7, c10⟩⟩).symm, by rw [hr2]; exact hF1⟩

set_option maxHeartbeats 4000000 in
set_option maxRecDepth 100000 in
/-- DefaultFilter.answer(q) -/
theorem c_DefaultFilter_answer (G : GG) (l : Launch) (sz : Nat) (f : Wd) (d : Nat) (hIH : ∀ d', d = d' + 1 → ANS G l d') (g : Wd) (a : Nat) (b : Nat) (vb : FV) (gv : Int32) (q na nr ncap nn : Nat) (nt : Nat → Int32) (ma mr mcap mn : Nat) (mt : Nat → Int32) (dp rf by_ so di le co tx lx : Int32) (h1 : g a = some (.inr (8, [.int 4, .int vb.2.1, .int (1 + vb.2.2.1), .ref b, .int gv]))) (hrb : RF G g d b vb) (hq : qs G f q na nr ncap nn nt ma mr mcap mn mt dp rf by_ so di le co tx lx) (hg : gle g f) (hgq : g q = none) : Ci G l y_DefaultFilter_answer b_DefaultFilter_answer 3 (some .int) ({ frames := 5 + (d + 1), cells := 0, slots := 0, locals := 118 + 30 * (d + 1) }) sz f [.ref a, .ref q] (anP f q na ma nn nt mn mt dp rf by_ so di le co tx lx (anD gv vb.2.2.2.1)) := by
  refine ct_of (by decide) (Nat.le_of_ble_eq_true rfl) ?_
  intro p e s m below meth c ls H locs hEn
  obtain ⟨hc, hr, hlk, hin, hE, hw, hsz, hl⟩ := hEn
  have hx := hc.1
  have hb := hc.2.1
  have hl : lv_has ls 3 [(0, .ref a), (1, .ref q)] := hl
  have hq0 := hq
  obtain ⟨hqc, hqn, hqm⟩ := hq0
  refine lv_aload_n hx hb d_DefaultFilter_answer_0 rfl (lv_at hl 0 rfl) ?_
  refine m_get hc hE hw (hg _ _ h1) kc_DefaultFilter l_DefaultFilter_16_DefaultFilter rfl d_DefaultFilter_answer_1 ?_
  refine lv_aload_n hx hb d_DefaultFilter_answer_4 rfl (lv_at hl 1 rfl) ?_
  refine m_calli hw (run_ans (rest := []) hIH hc hE hw hrb hq hg hgq al_DefaultFilter_25 hl.1 (Nat.le_of_ble_eq_true rfl) d_DefaultFilter_answer_5 ⟨by dsimp only; omega, by dsimp only; omega⟩ ⟨by dsimp only; omega, by dsimp only; omega⟩) (fun r3 g2 H locs p1 hw => ?_)
  obtain ⟨A1, eA1⟩ : ∃ z, z = vb.2.2.2.1 (nn, nt, mn, mt, dp, rf, by_, so, di, le) (co, tx, lx) := ⟨_, rfl⟩
  obtain ⟨p1, hfe1⟩ := p1
  rw [← eA1] at p1 hfe1
  have hF1 : g2 = va_up f q (some (.inr (2, [.ref na, .ref ma, .int dp, .int rf, .int by_, .int so, .int di, .int le, .int A1.2.1, .int A1.2.2.1, .int A1.2.2.2]))) := hfe1
  have hg1 : gle g g2 := by rw [hF1]; exact hg.upf hgq
  have hq1 : qs G g2 q na nr ncap nn nt ma mr mcap mn mt dp rf by_ so di le A1.2.1 A1.2.2.1 A1.2.2.2 := by rw [hF1]; exact ⟨va_up_self _ _ _, sg_up hqn hqc wd_x, sg_up hqm hqc wd_x⟩
  refine lv_istore_n (lv' := [(2, .int r3), (0, .ref a), (1, .ref q)]) hx hb d_DefaultFilter_answer_8 rfl hl (by decide) rfl (fun ls hl => ?_)
  refine lv_iload_n hx hb d_DefaultFilter_answer_9 rfl (lv_at hl 0 rfl) ?_
  refine lv_if_ne (tgt := 20) hx hb d_DefaultFilter_answer_10 (by decide) (fun c4 => ?_) (fun c4 => ?_)
  · refine lv_iload_n hx hb d_DefaultFilter_answer_20 rfl (lv_at hl 0 rfl) ?_
    have hr2 : anD gv vb.2.2.2.1 (nn, nt, mn, mt, dp, rf, by_, so, di, le) (co, tx, lx) = (pif (A1.1 = 0) gv A1.1, A1.2) := by rw [eA1]; rfl
    exact m_iret hc hr hlk hw ⟨by first | decide | (dsimp only; omega), by first | decide | (dsimp only; omega)⟩ d_DefaultFilter_answer_21 ⟨by rw [hr2]; exact p1.trans (pif_f (by rw [← p1]; exact c4)).symm, by rw [hr2]; exact hF1⟩
  · refine lv_aload_n hx hb d_DefaultFilter_answer_13 rfl (lv_at hl 1 rfl) ?_
    refine m_get hc hE hw (hg1 _ _ h1) kc_DefaultFilter l_DefaultFilter_22_DefaultFilter rfl d_DefaultFilter_answer_14 ?_
    refine lv_goto (tgt := 21) hx hb d_DefaultFilter_answer_17 (by decide) ?_
    have hr2 : anD gv vb.2.2.2.1 (nn, nt, mn, mt, dp, rf, by_, so, di, le) (co, tx, lx) = (pif (A1.1 = 0) gv A1.1, A1.2) := by rw [eA1]; rfl
    exact m_iret hc hr hlk hw ⟨by first | decide | (dsimp only; omega), by first | decide | (dsimp only; omega)⟩ d_DefaultFilter_answer_21 ⟨by rw [hr2]; exact (pif_t (by rw [← p1]; exact c4)).symm, by rw [hr2]; exact hF1⟩

set_option maxHeartbeats 4000000 in
set_option maxRecDepth 100000 in
/-- OnlyFilter.answer(q) -/
theorem c_OnlyFilter_answer (G : GG) (l : Launch) (sz : Nat) (f : Wd) (d : Nat) (hIH : ∀ d', d = d' + 1 → ANS G l d') (g : Wd) (a : Nat) (b sa sr scap bn : Nat) (bt : Nat → Int32) (vb : FV) (q na nr ncap nn : Nat) (nt : Nat → Int32) (ma mr mcap mn : Nat) (mt : Nat → Int32) (dp rf by_ so di le co tx lx : Int32) (h1 : g a = some (.inr (9, [.int 5, .int vb.2.1, .int (1 + vb.2.2.1), .ref b, .ref sa]))) (hsg : sg G g sa sr scap bn bt) (hrb : RF G g d b vb) (hq : qs G f q na nr ncap nn nt ma mr mcap mn mt dp rf by_ so di le co tx lx) (hg : gle g f) (hgq : g q = none) : Ci G l y_OnlyFilter_answer b_OnlyFilter_answer 3 (some .int) ({ frames := 5 + (d + 1), cells := 0, slots := 0, locals := 118 + 30 * (d + 1) }) sz f [.ref a, .ref q] (anP f q na ma nn nt mn mt dp rf by_ so di le co tx lx (anO bn bt vb.2.2.2.1)) := by
  refine ct_of (by decide) (Nat.le_of_ble_eq_true rfl) ?_
  intro p e s m below meth c ls H locs hEn
  obtain ⟨hc, hr, hlk, hin, hE, hw, hsz, hl⟩ := hEn
  have hx := hc.1
  have hb := hc.2.1
  have hl : lv_has ls 3 [(0, .ref a), (1, .ref q)] := hl
  have hq0 := hq
  obtain ⟨hqc, hqn, hqm⟩ := hq0
  refine lv_aload_n hx hb d_OnlyFilter_answer_0 rfl (lv_at hl 1 rfl) ?_
  refine m_get hc hE hw hqc kc_Question l_OnlyFilter_26_Question rfl d_OnlyFilter_answer_1 ?_
  refine lv_iconst (v := 1) hx hb d_OnlyFilter_answer_4 (by decide) ?_
  refine lv_icmp_ne (tgt := 34) hx hb d_OnlyFilter_answer_5 (by decide) (fun c1 => ?_) (fun c1 => ?_)
  · refine lv_iconst (v := 0) hx hb d_OnlyFilter_answer_34 (by decide) ?_
    refine lv_istore_n (lv' := [(2, .int 0), (0, .ref a), (1, .ref q)]) hx hb d_OnlyFilter_answer_35 rfl hl (by decide) rfl (fun ls hl => ?_)
    refine lv_iload_n hx hb d_OnlyFilter_answer_36 rfl (lv_at hl 0 rfl) ?_
    refine lv_if_eq (tgt := 51) hx hb d_OnlyFilter_answer_37 (by decide) (fun c2 => ?_) (fun c2 => ?_)
    · refine lv_iconst (v := 0) hx hb d_OnlyFilter_answer_51 (by decide) ?_
      have hr2 : anO bn bt vb.2.2.2.1 (nn, nt, mn, mt, dp, rf, by_, so, di, le) (co, tx, lx) = (0, co, tx, lx) := pif_f (fun z => c1 z.1)
      exact m_iret hc hr hlk hw ⟨by first | decide | (dsimp only; omega), by first | decide | (dsimp only; omega)⟩ d_OnlyFilter_answer_52 ⟨by rw [hr2], by rw [hr2]; exact (up_id hqc).symm⟩
    · refine lv_aload_n hx hb d_OnlyFilter_answer_40 rfl (lv_at hl 1 rfl) ?_
      refine m_get hc hE hw (hg _ _ h1) kc_OnlyFilter l_OnlyFilter_16_OnlyFilter rfl d_OnlyFilter_answer_41 ?_
      refine lv_aload_n hx hb d_OnlyFilter_answer_44 rfl (lv_at hl 2 rfl) ?_
      refine m_calli hw (run_ans (rest := []) hIH hc hE hw hrb hq hg hgq al_OnlyFilter_44 hl.1 (Nat.le_of_ble_eq_true rfl) d_OnlyFilter_answer_45 ⟨by dsimp only; omega, by dsimp only; omega⟩ ⟨by dsimp only; omega, by dsimp only; omega⟩) (fun r5 g4 H locs p3 hw => ?_)
      obtain ⟨A1, eA1⟩ : ∃ z, z = vb.2.2.2.1 (nn, nt, mn, mt, dp, rf, by_, so, di, le) (co, tx, lx) := ⟨_, rfl⟩
      obtain ⟨p3, hfe1⟩ := p3
      rw [← eA1] at p3 hfe1
      have hF1 : g4 = va_up f q (some (.inr (2, [.ref na, .ref ma, .int dp, .int rf, .int by_, .int so, .int di, .int le, .int A1.2.1, .int A1.2.2.1, .int A1.2.2.2]))) := hfe1
      have hg1 : gle g g4 := by rw [hF1]; exact hg.upf hgq
      have hq1 : qs G g4 q na nr ncap nn nt ma mr mcap mn mt dp rf by_ so di le A1.2.1 A1.2.2.1 A1.2.2.2 := by rw [hF1]; exact ⟨va_up_self _ _ _, sg_up hqn hqc wd_x, sg_up hqm hqc wd_x⟩
      refine lv_goto (tgt := 52) hx hb d_OnlyFilter_answer_48 (by decide) ?_
      exact absurd rfl c2
  · refine lv_aload_n hx hb d_OnlyFilter_answer_8 rfl (lv_at hl 1 rfl) ?_
    refine m_get hc hE hw hqc kc_Question l_OnlyFilter_31_Question rfl d_OnlyFilter_answer_9 ?_
    refine lv_aload_n hx hb d_OnlyFilter_answer_12 rfl (lv_at hl 0 rfl) ?_
    refine m_get hc hE hw (hg _ _ h1) kc_OnlyFilter l_OnlyFilter_22_OnlyFilter rfl d_OnlyFilter_answer_13 ?_
    refine lv_iconst (v := 0) hx hb d_OnlyFilter_answer_16 (by decide) ?_
    refine lv_aload_n hx hb d_OnlyFilter_answer_17 rfl (lv_at hl 0 rfl) ?_
    refine m_get hc hE hw (hg _ _ h1) kc_OnlyFilter l_OnlyFilter_22_OnlyFilter rfl d_OnlyFilter_answer_18 ?_
    refine m_calli hw (m_runV (As := []) (rest := [.int 0, .ref sa, .ref na]) hc hE hw (c_Signs_length G l H.size f (hsg.mono hg)) (hg _ _ hsg.1) rfl cw_OnlyFilter_34 se_Signs_length rfl hl.1 rfl (Nat.le_of_ble_eq_true rfl) d_OnlyFilter_answer_21 ⟨rfl, rfl, by dsimp only; omega, by dsimp only; omega⟩ ⟨by first | decide | (dsimp only; omega), by first | decide | (dsimp only; omega)⟩) (fun r8 g7 H locs p6 hw => ?_)
    obtain ⟨rfl, p6⟩ := p6
    subst p6
    refine m_calli hw (m_runV (As := [.ref sa, .int 0, .int (nI bn)]) (rest := []) hc hE hw (c_Signs_beginsWithPart G l H.size f hqn (hsg.mono hg) (i0 := 0) (i1 := bn) (Nat.zero_le _) (Nat.le_refl _)) hqn.1 rfl cw_OnlyFilter_40 se_Signs_beginsWithPart rfl hl.1 rfl (Nat.le_of_ble_eq_true rfl) d_OnlyFilter_answer_24 ⟨rfl, rfl, by dsimp only; omega, by dsimp only; omega⟩ ⟨by first | decide | (dsimp only; omega), by first | decide | (dsimp only; omega)⟩) (fun r11 g10 H locs p9 hw => ?_)
    obtain ⟨rfl, p9⟩ := p9
    refine lv_if_eq (tgt := 34) hx hb d_OnlyFilter_answer_27 (by decide) (fun c12 => ?_) (fun c12 => ?_)
    · refine lv_iconst (v := 0) hx hb d_OnlyFilter_answer_34 (by decide) ?_
      refine lv_istore_n (lv' := [(2, .int 0), (0, .ref a), (1, .ref q)]) hx hb d_OnlyFilter_answer_35 rfl hl (by decide) rfl (fun ls hl => ?_)
      refine lv_iload_n hx hb d_OnlyFilter_answer_36 rfl (lv_at hl 0 rfl) ?_
      refine lv_if_eq (tgt := 51) hx hb d_OnlyFilter_answer_37 (by decide) (fun c13 => ?_) (fun c13 => ?_)
      · refine lv_iconst (v := 0) hx hb d_OnlyFilter_answer_51 (by decide) ?_
        have hr2 : anO bn bt vb.2.2.2.1 (nn, nt, mn, mt, dp, rf, by_, so, di, le) (co, tx, lx) = (0, co, tx, lx) := pif_f (fun z => (bI_0.mp (p9.symm.trans c12)) z.2)
        exact m_iret hc hr hlk hw ⟨by first | decide | (dsimp only; omega), by first | decide | (dsimp only; omega)⟩ d_OnlyFilter_answer_52 ⟨by rw [hr2], by rw [hr2]; exact (up_id hqc).symm⟩
      · refine lv_aload_n hx hb d_OnlyFilter_answer_40 rfl (lv_at hl 1 rfl) ?_
        refine m_get hc hE hw (hg _ _ h1) kc_OnlyFilter l_OnlyFilter_16_OnlyFilter rfl d_OnlyFilter_answer_41 ?_
        refine lv_aload_n hx hb d_OnlyFilter_answer_44 rfl (lv_at hl 2 rfl) ?_
        refine m_calli hw (run_ans (rest := []) hIH hc hE hw hrb hq hg hgq al_OnlyFilter_44 hl.1 (Nat.le_of_ble_eq_true rfl) d_OnlyFilter_answer_45 ⟨by dsimp only; omega, by dsimp only; omega⟩ ⟨by dsimp only; omega, by dsimp only; omega⟩) (fun r16 g15 H locs p14 hw => ?_)
        obtain ⟨A1, eA1⟩ : ∃ z, z = vb.2.2.2.1 (nn, nt, mn, mt, dp, rf, by_, so, di, le) (co, tx, lx) := ⟨_, rfl⟩
        obtain ⟨p14, hfe1⟩ := p14
        rw [← eA1] at p14 hfe1
        have hF1 : g15 = va_up f q (some (.inr (2, [.ref na, .ref ma, .int dp, .int rf, .int by_, .int so, .int di, .int le, .int A1.2.1, .int A1.2.2.1, .int A1.2.2.2]))) := hfe1
        have hg1 : gle g g15 := by rw [hF1]; exact hg.upf hgq
        have hq1 : qs G g15 q na nr ncap nn nt ma mr mcap mn mt dp rf by_ so di le A1.2.1 A1.2.2.1 A1.2.2.2 := by rw [hF1]; exact ⟨va_up_self _ _ _, sg_up hqn hqc wd_x, sg_up hqm hqc wd_x⟩
        refine lv_goto (tgt := 52) hx hb d_OnlyFilter_answer_48 (by decide) ?_
        exact absurd rfl c13
    · refine lv_iconst (v := 1) hx hb d_OnlyFilter_answer_30 (by decide) ?_
      refine lv_goto (tgt := 35) hx hb d_OnlyFilter_answer_31 (by decide) ?_
      refine lv_istore_n (lv' := [(2, .int 1), (0, .ref a), (1, .ref q)]) hx hb d_OnlyFilter_answer_35 rfl hl (by decide) rfl (fun ls hl => ?_)
      refine lv_iload_n hx hb d_OnlyFilter_answer_36 rfl (lv_at hl 0 rfl) ?_
      refine lv_if_eq (tgt := 51) hx hb d_OnlyFilter_answer_37 (by decide) (fun c17 => ?_) (fun c17 => ?_)
      · refine lv_iconst (v := 0) hx hb d_OnlyFilter_answer_51 (by decide) ?_
        exact absurd c17 (by decide)
      · refine lv_aload_n hx hb d_OnlyFilter_answer_40 rfl (lv_at hl 1 rfl) ?_
        refine m_get hc hE hw (hg _ _ h1) kc_OnlyFilter l_OnlyFilter_16_OnlyFilter rfl d_OnlyFilter_answer_41 ?_
        refine lv_aload_n hx hb d_OnlyFilter_answer_44 rfl (lv_at hl 2 rfl) ?_
        refine m_calli hw (run_ans (rest := []) hIH hc hE hw hrb hq hg hgq al_OnlyFilter_44 hl.1 (Nat.le_of_ble_eq_true rfl) d_OnlyFilter_answer_45 ⟨by dsimp only; omega, by dsimp only; omega⟩ ⟨by dsimp only; omega, by dsimp only; omega⟩) (fun r20 g19 H locs p18 hw => ?_)
        obtain ⟨A1, eA1⟩ : ∃ z, z = vb.2.2.2.1 (nn, nt, mn, mt, dp, rf, by_, so, di, le) (co, tx, lx) := ⟨_, rfl⟩
        obtain ⟨p18, hfe1⟩ := p18
        rw [← eA1] at p18 hfe1
        have hF1 : g19 = va_up f q (some (.inr (2, [.ref na, .ref ma, .int dp, .int rf, .int by_, .int so, .int di, .int le, .int A1.2.1, .int A1.2.2.1, .int A1.2.2.2]))) := hfe1
        have hg1 : gle g g19 := by rw [hF1]; exact hg.upf hgq
        have hq1 : qs G g19 q na nr ncap nn nt ma mr mcap mn mt dp rf by_ so di le A1.2.1 A1.2.2.1 A1.2.2.2 := by rw [hF1]; exact ⟨va_up_self _ _ _, sg_up hqn hqc wd_x, sg_up hqm hqc wd_x⟩
        refine lv_goto (tgt := 52) hx hb d_OnlyFilter_answer_48 (by decide) ?_
        have hr2 : anO bn bt vb.2.2.2.1 (nn, nt, mn, mt, dp, rf, by_, so, di, le) (co, tx, lx) = A1 := by rw [eA1]; exact pif_t ⟨c1, bI_n.mp (fun z => c12 (p9.trans z))⟩
        exact m_iret hc hr hlk hw ⟨by first | decide | (dsimp only; omega), by first | decide | (dsimp only; omega)⟩ d_OnlyFilter_answer_52 ⟨by rw [hr2]; exact p18, by rw [hr2]; exact hF1⟩

/-- the contracts of answer, at every height -/
theorem ans_all (G : GG) (l : Launch) : ∀ d, ANS G l d := by
  intro d
  induction d with
  | zero => exact ⟨fun sz f g a b c2 vb vc q na nr ncap nn nt ma mr mcap mn mt dp rf by_ so di le co tx lx h1 hrb hrc hq hg hgq => c_JoinedFilter_answer G l sz f 0 (fun d' h => absurd h (by omega)) g a b c2 vb vc q na nr ncap nn nt ma mr mcap mn mt dp rf by_ so di le co tx lx h1 hrb hrc hq hg hgq, fun sz f g a b vb al q na nr ncap nn nt ma mr mcap mn mt dp rf by_ so di le co tx lx h1 hrb hq hg hgq => c_StrictFilter_answer G l sz f 0 (fun d' h => absurd h (by omega)) g a b vb al q na nr ncap nn nt ma mr mcap mn mt dp rf by_ so di le co tx lx h1 hrb hq hg hgq, fun sz f g a b vb gv q na nr ncap nn nt ma mr mcap mn mt dp rf by_ so di le co tx lx h1 hrb hq hg hgq => c_DefaultFilter_answer G l sz f 0 (fun d' h => absurd h (by omega)) g a b vb gv q na nr ncap nn nt ma mr mcap mn mt dp rf by_ so di le co tx lx h1 hrb hq hg hgq, fun sz f g a b sa sr scap bn bt vb q na nr ncap nn nt ma mr mcap mn mt dp rf by_ so di le co tx lx h1 hsg hrb hq hg hgq => c_OnlyFilter_answer G l sz f 0 (fun d' h => absurd h (by omega)) g a b sa sr scap bn bt vb q na nr ncap nn nt ma mr mcap mn mt dp rf by_ so di le co tx lx h1 hsg hrb hq hg hgq⟩
  | succ d IH => exact ⟨fun sz f g a b c2 vb vc q na nr ncap nn nt ma mr mcap mn mt dp rf by_ so di le co tx lx h1 hrb hrc hq hg hgq => c_JoinedFilter_answer G l sz f (d + 1) (fun d' h => by cases h; exact IH) g a b c2 vb vc q na nr ncap nn nt ma mr mcap mn mt dp rf by_ so di le co tx lx h1 hrb hrc hq hg hgq, fun sz f g a b vb al q na nr ncap nn nt ma mr mcap mn mt dp rf by_ so di le co tx lx h1 hrb hq hg hgq => c_StrictFilter_answer G l sz f (d + 1) (fun d' h => by cases h; exact IH) g a b vb al q na nr ncap nn nt ma mr mcap mn mt dp rf by_ so di le co tx lx h1 hrb hq hg hgq, fun sz f g a b vb gv q na nr ncap nn nt ma mr mcap mn mt dp rf by_ so di le co tx lx h1 hrb hq hg hgq => c_DefaultFilter_answer G l sz f (d + 1) (fun d' h => by cases h; exact IH) g a b vb gv q na nr ncap nn nt ma mr mcap mn mt dp rf by_ so di le co tx lx h1 hrb hq hg hgq, fun sz f g a b sa sr scap bn bt vb q na nr ncap nn nt ma mr mcap mn mt dp rf by_ so di le co tx lx h1 hsg hrb hq hg hgq => c_OnlyFilter_answer G l sz f (d + 1) (fun d' h => by cases h; exact IH) g a b sa sr scap bn bt vb q na nr ncap nn nt ma mr mcap mn mt dp rf by_ so di le co tx lx h1 hsg hrb hq hg hgq⟩
