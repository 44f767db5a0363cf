/-! links of the pools, as the walks ask for them -/
theorem l_TextFilter_23_Question : lnk "StreamFilters$TextFilter" 23 F_Question 11 9 := ⟨by decide, "StreamFilters$Question", Or.inl rfl, Or.inl (tb 73 (by decide +kernel) rfl)⟩
theorem l_TextFilter_29_Question : lnk "StreamFilters$TextFilter" 29 F_Question 11 2 := ⟨by decide, "StreamFilters$Question", Or.inl rfl, Or.inl (tb 55 (by decide +kernel) rfl)⟩
theorem l_TextFilter_36_Question : lnk "StreamFilters$TextFilter" 36 F_Question 11 3 := ⟨by decide, "StreamFilters$Question", Or.inl rfl, Or.inl (tb 57 (by decide +kernel) rfl)⟩
theorem l_TextFilter_39_Question : lnk "StreamFilters$TextFilter" 39 F_Question 11 4 := ⟨by decide, "StreamFilters$Question", Or.inl rfl, Or.inl (tb 59 (by decide +kernel) rfl)⟩
theorem l_TextFilter_42_Question : lnk "StreamFilters$TextFilter" 42 F_Question 11 5 := ⟨by decide, "StreamFilters$Question", Or.inl rfl, Or.inl (tb 64 (by decide +kernel) rfl)⟩
theorem l_TextFilter_45_Question : lnk "StreamFilters$TextFilter" 45 F_Question 11 6 := ⟨by decide, "StreamFilters$Question", Or.inl rfl, Or.inl (tb 66 (by decide +kernel) rfl)⟩
theorem l_TextFilter_48_Question : lnk "StreamFilters$TextFilter" 48 F_Question 11 7 := ⟨by decide, "StreamFilters$Question", Or.inl rfl, Or.inl (tb 68 (by decide +kernel) rfl)⟩
theorem l_TextFilter_9_TextFilter : lnk "StreamFilters$TextFilter" 9 F_TextFilter 6 3 := ⟨by decide, "StreamFilters$TextFilter", Or.inl rfl, Or.inl (tb 365 (by decide +kernel) rfl)⟩
theorem cw_TextFilter_32 : cwk "StreamFilters$TextFilter" 32 y_TextFilter_isAbove b_TextFilter_isAbove 4 (some .boolean) 2 := ⟨Or.inl (tb 533 (by decide +kernel) rfl), (tb 536 (by decide +kernel) rfl), (tb 13 (by decide +kernel) rfl), by decide, by decide, by decide +kernel⟩
theorem cw_TextFilter_51 : cwk "StreamFilters$TextFilter" 51 y_TextFilter_comparePatterns b_TextFilter_comparePatterns 4 (some .int) 1 := ⟨Or.inl (tb 541 (by decide +kernel) rfl), (tb 544 (by decide +kernel) rfl), (tb 13 (by decide +kernel) rfl), by decide, by decide, by decide +kernel⟩
theorem se_TextFilter_comparePatterns : Cond.instanceMethod y_TextFilter_comparePatterns ∈ TB ∧ Cond.selects "StreamFilters$TextFilter" y_TextFilter_comparePatterns y_TextFilter_comparePatterns ∈ TB := ⟨(tb 543 (by decide +kernel) rfl), (tbs 11 (by decide +kernel) rfl)⟩
theorem se_TextFilter_isAbove : Cond.instanceMethod y_TextFilter_isAbove ∈ TB ∧ Cond.selects "StreamFilters$TextFilter" y_TextFilter_isAbove y_TextFilter_isAbove ∈ TB := ⟨(tb 535 (by decide +kernel) rfl), (tbs 10 (by decide +kernel) rfl)⟩
/-! decode rows -/
theorem d_TextFilter_answer_0 : decode b_TextFilter_answer 0 = .ok (.aload_n 1, 1) := by decide +kernel
theorem d_TextFilter_answer_1 : decode b_TextFilter_answer 1 = .ok (.dup, 1) := by decide +kernel
theorem d_TextFilter_answer_2 : decode b_TextFilter_answer 2 = .ok (.getfield 23, 3) := by decide +kernel
theorem d_TextFilter_answer_5 : decode b_TextFilter_answer 5 = .ok (.iconst 1, 1) := by decide +kernel
theorem d_TextFilter_answer_6 : decode b_TextFilter_answer 6 = .ok (.iadd, 1) := by decide +kernel
theorem d_TextFilter_answer_7 : decode b_TextFilter_answer 7 = .ok (.putfield 23, 3) := by decide +kernel
theorem d_TextFilter_answer_10 : decode b_TextFilter_answer 10 = .ok (.aload_n 0, 1) := by decide +kernel
theorem d_TextFilter_answer_11 : decode b_TextFilter_answer 11 = .ok (.aload_n 1, 1) := by decide +kernel
theorem d_TextFilter_answer_12 : decode b_TextFilter_answer 12 = .ok (.getfield 29, 3) := by decide +kernel
theorem d_TextFilter_answer_15 : decode b_TextFilter_answer 15 = .ok (.iconst 0, 1) := by decide +kernel
theorem d_TextFilter_answer_16 : decode b_TextFilter_answer 16 = .ok (.invokevirtual 32, 3) := by decide +kernel
theorem d_TextFilter_answer_19 : decode b_TextFilter_answer 19 = .ok (.ifCond .ne 27, 3) := by decide +kernel
theorem d_TextFilter_answer_22 : decode b_TextFilter_answer 22 = .ok (.aload_n 0, 1) := by decide +kernel
theorem d_TextFilter_answer_23 : decode b_TextFilter_answer 23 = .ok (.aload_n 1, 1) := by decide +kernel
theorem d_TextFilter_answer_24 : decode b_TextFilter_answer 24 = .ok (.getfield 36, 3) := by decide +kernel
theorem d_TextFilter_answer_27 : decode b_TextFilter_answer 27 = .ok (.iconst 1, 1) := by decide +kernel
theorem d_TextFilter_answer_28 : decode b_TextFilter_answer 28 = .ok (.invokevirtual 32, 3) := by decide +kernel
theorem d_TextFilter_answer_31 : decode b_TextFilter_answer 31 = .ok (.ifCond .ne 15, 3) := by decide +kernel
theorem d_TextFilter_answer_34 : decode b_TextFilter_answer 34 = .ok (.aload_n 0, 1) := by decide +kernel
theorem d_TextFilter_answer_35 : decode b_TextFilter_answer 35 = .ok (.aload_n 1, 1) := by decide +kernel
theorem d_TextFilter_answer_36 : decode b_TextFilter_answer 36 = .ok (.getfield 39, 3) := by decide +kernel
theorem d_TextFilter_answer_39 : decode b_TextFilter_answer 39 = .ok (.iconst 2, 1) := by decide +kernel
theorem d_TextFilter_answer_40 : decode b_TextFilter_answer 40 = .ok (.invokevirtual 32, 3) := by decide +kernel
theorem d_TextFilter_answer_43 : decode b_TextFilter_answer 43 = .ok (.ifCond .eq 5, 3) := by decide +kernel
theorem d_TextFilter_answer_46 : decode b_TextFilter_answer 46 = .ok (.iconst 2, 1) := by decide +kernel
theorem d_TextFilter_answer_47 : decode b_TextFilter_answer 47 = .ok (.ireturn, 1) := by decide +kernel
theorem d_TextFilter_answer_48 : decode b_TextFilter_answer 48 = .ok (.aload_n 1, 1) := by decide +kernel
theorem d_TextFilter_answer_49 : decode b_TextFilter_answer 49 = .ok (.getfield 42, 3) := by decide +kernel
theorem d_TextFilter_answer_52 : decode b_TextFilter_answer 52 = .ok (.ifCond .ne 5, 3) := by decide +kernel
theorem d_TextFilter_answer_55 : decode b_TextFilter_answer 55 = .ok (.iconst 0, 1) := by decide +kernel
theorem d_TextFilter_answer_56 : decode b_TextFilter_answer 56 = .ok (.ireturn, 1) := by decide +kernel
theorem d_TextFilter_answer_57 : decode b_TextFilter_answer 57 = .ok (.aload_n 1, 1) := by decide +kernel
theorem d_TextFilter_answer_58 : decode b_TextFilter_answer 58 = .ok (.getfield 45, 3) := by decide +kernel
theorem d_TextFilter_answer_61 : decode b_TextFilter_answer 61 = .ok (.ifCond .le 26, 3) := by decide +kernel
theorem d_TextFilter_answer_64 : decode b_TextFilter_answer 64 = .ok (.aload_n 0, 1) := by decide +kernel
theorem d_TextFilter_answer_65 : decode b_TextFilter_answer 65 = .ok (.aload_n 1, 1) := by decide +kernel
theorem d_TextFilter_answer_66 : decode b_TextFilter_answer 66 = .ok (.getfield 48, 3) := by decide +kernel
theorem d_TextFilter_answer_69 : decode b_TextFilter_answer 69 = .ok (.iconst 3, 1) := by decide +kernel
theorem d_TextFilter_answer_70 : decode b_TextFilter_answer 70 = .ok (.invokevirtual 32, 3) := by decide +kernel
theorem d_TextFilter_answer_73 : decode b_TextFilter_answer 73 = .ok (.ifCond .eq 5, 3) := by decide +kernel
theorem d_TextFilter_answer_76 : decode b_TextFilter_answer 76 = .ok (.iconst 2, 1) := by decide +kernel
theorem d_TextFilter_answer_77 : decode b_TextFilter_answer 77 = .ok (.ireturn, 1) := by decide +kernel
theorem d_TextFilter_answer_78 : decode b_TextFilter_answer 78 = .ok (.aload_n 0, 1) := by decide +kernel
theorem d_TextFilter_answer_79 : decode b_TextFilter_answer 79 = .ok (.getfield 9, 3) := by decide +kernel
theorem d_TextFilter_answer_82 : decode b_TextFilter_answer 82 = .ok (.ifCond .ne 5, 3) := by decide +kernel
theorem d_TextFilter_answer_85 : decode b_TextFilter_answer 85 = .ok (.iconst 0, 1) := by decide +kernel
theorem d_TextFilter_answer_86 : decode b_TextFilter_answer 86 = .ok (.ireturn, 1) := by decide +kernel
theorem d_TextFilter_answer_87 : decode b_TextFilter_answer 87 = .ok (.aload_n 1, 1) := by decide +kernel
theorem d_TextFilter_answer_88 : decode b_TextFilter_answer 88 = .ok (.getfield 42, 3) := by decide +kernel
theorem d_TextFilter_answer_91 : decode b_TextFilter_answer 91 = .ok (.iconst 2, 1) := by decide +kernel
theorem d_TextFilter_answer_92 : decode b_TextFilter_answer 92 = .ok (.if_icmp .ne 7, 3) := by decide +kernel
theorem d_TextFilter_answer_95 : decode b_TextFilter_answer 95 = .ok (.iconst 0, 1) := by decide +kernel
theorem d_TextFilter_answer_96 : decode b_TextFilter_answer 96 = .ok (.goto 8, 3) := by decide +kernel
theorem d_TextFilter_answer_99 : decode b_TextFilter_answer 99 = .ok (.aload_n 0, 1) := by decide +kernel
theorem d_TextFilter_answer_100 : decode b_TextFilter_answer 100 = .ok (.aload_n 1, 1) := by decide +kernel
theorem d_TextFilter_answer_101 : decode b_TextFilter_answer 101 = .ok (.invokevirtual 51, 3) := by decide +kernel
theorem d_TextFilter_answer_104 : decode b_TextFilter_answer 104 = .ok (.ireturn, 1) := by decide +kernel
set_option maxHeartbeats 4000000 in
set_option maxRecDepth 100000 in
/-- TextFilter.answer(q) -/
theorem c_TextFilter_answer (G : GG) (l : Launch) (sz : Nat) (f : Wd) {a : Nat} {bs : Int32} {lm : Nat → Int32} {np : Nat} {V Sh : Nat → Int32} {M : Nat → Nat → (Nat → Int32) → Nat → (Nat → Int32) → Prop} {q na nr ncap nn : Nat} {nt : Nat → Int32} {ma mr mcap mn : Nat} {mt : Nat → Int32} {dp rf by_ so di le co tx lx : Int32} (hq : qs G f q na nr ncap nn nt ma mr mcap mn mt dp rf by_ so di le co tx lx) {g : Wd} (hg : gle g f) (hgq : g q = none) (ht : tf G g a bs lm np V Sh M) : Ci G l y_TextFilter_answer b_TextFilter_answer 2 (some .int) ({ frames := 5, cells := 0, slots := 0, locals := 118 }) sz f [.ref a, .ref q] (fun v f' => v = (anT bs lm np M V (nn, nt, mn, mt, dp, rf, by_, so, di, le) (co, tx, lx)).1 ∧ f' = va_up f q (some (.inr (2, [.ref na, .ref ma, .int dp, .int rf, .int by_, .int so, .int di, .int le, .int ((anT bs lm np M V (nn, nt, mn, mt, dp, rf, by_, so, di, le) (co, tx, lx)).2.1), .int ((anT bs lm np M V (nn, nt, mn, mt, dp, rf, by_, so, di, le) (co, tx, lx)).2.2.1), .int ((anT bs lm np M V (nn, nt, mn, mt, dp, rf, by_, so, di, le) (co, tx, lx)).2.2.2)])))) := by
  refine ct_of (by decide) (Nat.le_of_ble_eq_true rfl) ?_
  intro p e s m below meth c ls H locs hEn
  obtain ⟨hc, hr, hlk, hin, hE, hw, hsz, hl⟩ := hEn
  have hx := hc.1
  have hb := hc.2.1
  have hl : lv_has ls 2 [(0, .ref a), (1, .ref q)] := hl
  have ht2 := ht
  obtain ⟨la, pa, pf, hta, htl, htp, hnp, hbs, hpat⟩ := ht2
  obtain ⟨hqc, hqn, hqm⟩ := hq
  refine lv_aload_n hx hb d_TextFilter_answer_0 rfl (lv_at hl 1 rfl) ?_
  refine lv_dup hx hb d_TextFilter_answer_1 rfl ?_
  refine m_get hc hE hw hqc kc_Question l_TextFilter_23_Question rfl d_TextFilter_answer_2 ?_
  refine lv_iconst (v := 1) hx hb d_TextFilter_answer_5 (by decide) ?_
  refine lv_iadd hx hb d_TextFilter_answer_6 ?_
  refine m_put hc hE hw hqc kc_Question l_TextFilter_23_Question rfl ds_Question_9 rfl rfl (Nat.le_of_ble_eq_true rfl) d_TextFilter_answer_7 (fun H locs hw => ?_)
  obtain ⟨f1, ef1⟩ : ∃ z : Wd, z = va_up f q (some (.inr (2, [.ref na, .ref ma, .int dp, .int rf, .int by_, .int so, .int di, .int le, .int co, .int (tx + 1), .int lx]))) := ⟨_, rfl⟩
  replace hw : ms G.1 (Af f sz) f1 s H locs := by rw [ef1]; exact hw
  have h2 : f1 q = some (.inr (2, [.ref na, .ref ma, .int dp, .int rf, .int by_, .int so, .int di, .int le, .int co, .int (tx + 1), .int lx])) := by rw [ef1, va_up_self]
  have hg_f1 : gle g f1 := by rw [ef1]; exact hg.upf hgq
  have hq_f1 : qs G f1 q na nr ncap nn nt ma mr mcap mn mt dp rf by_ so di le co (tx + 1) lx := by rw [ef1]; exact ⟨va_up_self _ _ _, sg_up hqn hqc wd_x, sg_up hqm hqc wd_x⟩
  have ht_f1 := ht.mono hg_f1
  refine lv_aload_n hx hb d_TextFilter_answer_10 rfl (lv_at hl 0 rfl) ?_
  refine lv_aload_n hx hb d_TextFilter_answer_11 rfl (lv_at hl 1 rfl) ?_
  refine m_get hc hE hw h2 kc_Question l_TextFilter_29_Question rfl d_TextFilter_answer_12 ?_
  refine lv_iconst (v := 0) hx hb d_TextFilter_answer_15 (by decide) ?_
  refine m_calli hw (m_runV (As := [.int dp, .int 0]) (rest := []) hc hE hw (c_TextFilter_isAbove G l H.size f1 ht_f1 dp (k := 0) (by decide)) (hg_f1 _ _ hta) rfl cw_TextFilter_32 se_TextFilter_isAbove rfl hl.1 rfl (Nat.le_of_ble_eq_true rfl) d_TextFilter_answer_16 ⟨rfl, rfl, by decide, by decide⟩ ⟨by first | decide | (dsimp only; omega), by first | decide | (dsimp only; omega)⟩) (fun r5 g4 H locs p3 hw => ?_)
  obtain ⟨rfl, p3⟩ := p3
  refine lv_if_ne (tgt := 46) hx hb d_TextFilter_answer_19 (by decide) (fun c6 => ?_) (fun c6 => ?_)
  · refine lv_iconst (v := 2) hx hb d_TextFilter_answer_46 (by decide) ?_
    have hr2 : anT bs lm np M V (nn, nt, mn, mt, dp, rf, by_, so, di, le) (co, tx, lx) = _ := anT_eq.trans (by rw [pif_t (Or.inl (bI_n.mp (fun z => c6 (p3.trans z))))])
    exact m_iret hc hr hlk hw ⟨by first | decide | (dsimp only; omega), by first | decide | (dsimp only; omega)⟩ d_TextFilter_answer_47 ⟨by rw [hr2], by rw [hr2, ef1]⟩
  · refine lv_aload_n hx hb d_TextFilter_answer_22 rfl (lv_at hl 0 rfl) ?_
    refine lv_aload_n hx hb d_TextFilter_answer_23 rfl (lv_at hl 1 rfl) ?_
    refine m_get hc hE hw h2 kc_Question l_TextFilter_36_Question rfl d_TextFilter_answer_24 ?_
    refine lv_iconst (v := 1) hx hb d_TextFilter_answer_27 (by decide) ?_
    refine m_calli hw (m_runV (As := [.int rf, .int 1]) (rest := []) hc hE hw (c_TextFilter_isAbove G l H.size f1 ht_f1 rf (k := 1) (by decide)) (hg_f1 _ _ hta) rfl cw_TextFilter_32 se_TextFilter_isAbove rfl hl.1 rfl (Nat.le_of_ble_eq_true rfl) d_TextFilter_answer_28 ⟨rfl, rfl, by decide, by decide⟩ ⟨by first | decide | (dsimp only; omega), by first | decide | (dsimp only; omega)⟩) (fun r9 g8 H locs p7 hw => ?_)
    obtain ⟨rfl, p7⟩ := p7
    refine lv_if_ne (tgt := 46) hx hb d_TextFilter_answer_31 (by decide) (fun c10 => ?_) (fun c10 => ?_)
    · refine lv_iconst (v := 2) hx hb d_TextFilter_answer_46 (by decide) ?_
      have hr2 : anT bs lm np M V (nn, nt, mn, mt, dp, rf, by_, so, di, le) (co, tx, lx) = _ := anT_eq.trans (by rw [pif_t (Or.inr (Or.inl (bI_n.mp (fun z => c10 (p7.trans z)))))])
      exact m_iret hc hr hlk hw ⟨by first | decide | (dsimp only; omega), by first | decide | (dsimp only; omega)⟩ d_TextFilter_answer_47 ⟨by rw [hr2], by rw [hr2, ef1]⟩
    · refine lv_aload_n hx hb d_TextFilter_answer_34 rfl (lv_at hl 0 rfl) ?_
      refine lv_aload_n hx hb d_TextFilter_answer_35 rfl (lv_at hl 1 rfl) ?_
      refine m_get hc hE hw h2 kc_Question l_TextFilter_39_Question rfl d_TextFilter_answer_36 ?_
      refine lv_iconst (v := 2) hx hb d_TextFilter_answer_39 (by decide) ?_
      refine m_calli hw (m_runV (As := [.int by_, .int 2]) (rest := []) hc hE hw (c_TextFilter_isAbove G l H.size f1 ht_f1 by_ (k := 2) (by decide)) (hg_f1 _ _ hta) rfl cw_TextFilter_32 se_TextFilter_isAbove rfl hl.1 rfl (Nat.le_of_ble_eq_true rfl) d_TextFilter_answer_40 ⟨rfl, rfl, by decide, by decide⟩ ⟨by first | decide | (dsimp only; omega), by first | decide | (dsimp only; omega)⟩) (fun r13 g12 H locs p11 hw => ?_)
      obtain ⟨rfl, p11⟩ := p11
      refine lv_if_eq (tgt := 48) hx hb d_TextFilter_answer_43 (by decide) (fun c14 => ?_) (fun c14 => ?_)
      · refine lv_aload_n hx hb d_TextFilter_answer_48 rfl (lv_at hl 1 rfl) ?_
        refine m_get hc hE hw h2 kc_Question l_TextFilter_42_Question rfl d_TextFilter_answer_49 ?_
        refine lv_if_ne (tgt := 57) hx hb d_TextFilter_answer_52 (by decide) (fun c15 => ?_) (fun c15 => ?_)
        · refine lv_aload_n hx hb d_TextFilter_answer_57 rfl (lv_at hl 1 rfl) ?_
          refine m_get hc hE hw h2 kc_Question l_TextFilter_45_Question rfl d_TextFilter_answer_58 ?_
          refine lv_if_le (tgt := 87) hx hb d_TextFilter_answer_61 (by decide) (fun c16 => ?_) (fun c16 => ?_)
          · refine lv_aload_n hx hb d_TextFilter_answer_87 rfl (lv_at hl 1 rfl) ?_
            refine m_get hc hE hw h2 kc_Question l_TextFilter_42_Question rfl d_TextFilter_answer_88 ?_
            refine lv_iconst (v := 2) hx hb d_TextFilter_answer_91 (by decide) ?_
            refine lv_icmp_ne (tgt := 99) hx hb d_TextFilter_answer_92 (by decide) (fun c17 => ?_) (fun c17 => ?_)
            · refine lv_aload_n hx hb d_TextFilter_answer_99 rfl (lv_at hl 0 rfl) ?_
              refine lv_aload_n hx hb d_TextFilter_answer_100 rfl (lv_at hl 1 rfl) ?_
              refine m_calli hw (m_runV (As := [.ref q]) (rest := []) hc hE hw (c_TextFilter_comparePatterns G l H.size f1 hq_f1 hg_f1 hgq ht) (hg_f1 _ _ hta) rfl cw_TextFilter_51 se_TextFilter_comparePatterns rfl hl.1 rfl (Nat.le_of_ble_eq_true rfl) d_TextFilter_answer_101 ⟨rfl, rfl, by decide, by decide⟩ ⟨by first | decide | (dsimp only; omega), by first | decide | (dsimp only; omega)⟩) (fun r20 g19 H locs p18 hw => ?_)
              obtain ⟨p18, hfe⟩ := p18
              have hr2 : anT bs lm np M V (nn, nt, mn, mt, dp, rf, by_, so, di, le) (co, tx, lx) = _ := anT_eq.trans (by rw [pif_f (fun z => z.elim (bI_0.mp (p3.symm.trans c6)) (fun z => z.elim (bI_0.mp (p7.symm.trans c10)) (bI_0.mp (p11.symm.trans c14)))), pif_f c15, pif_f (fun z => absurd z.1 (Int32.not_lt.mpr c16)), pif_f (fun z => absurd z.1 (Int32.not_lt.mpr c16)), pif_f c17])
              exact m_iret hc hr hlk hw ⟨by first | decide | (dsimp only; omega), by first | decide | (dsimp only; omega)⟩ d_TextFilter_answer_104 ⟨by rw [hr2]; exact p18, by rw [hr2, hfe, ef1, up_uu]⟩
            · refine lv_iconst (v := 0) hx hb d_TextFilter_answer_95 (by decide) ?_
              refine lv_goto (tgt := 104) hx hb d_TextFilter_answer_96 (by decide) ?_
              have hr2 : anT bs lm np M V (nn, nt, mn, mt, dp, rf, by_, so, di, le) (co, tx, lx) = _ := anT_eq.trans (by rw [pif_f (fun z => z.elim (bI_0.mp (p3.symm.trans c6)) (fun z => z.elim (bI_0.mp (p7.symm.trans c10)) (bI_0.mp (p11.symm.trans c14)))), pif_f c15, pif_f (fun z => absurd z.1 (Int32.not_lt.mpr c16)), pif_f (fun z => absurd z.1 (Int32.not_lt.mpr c16)), pif_t c17])
              exact m_iret hc hr hlk hw ⟨by first | decide | (dsimp only; omega), by first | decide | (dsimp only; omega)⟩ d_TextFilter_answer_104 ⟨by rw [hr2], by rw [hr2, ef1]⟩
          · refine lv_aload_n hx hb d_TextFilter_answer_64 rfl (lv_at hl 0 rfl) ?_
            refine lv_aload_n hx hb d_TextFilter_answer_65 rfl (lv_at hl 1 rfl) ?_
            refine m_get hc hE hw h2 kc_Question l_TextFilter_48_Question rfl d_TextFilter_answer_66 ?_
            refine lv_iconst (v := 3) hx hb d_TextFilter_answer_69 (by decide) ?_
            refine m_calli hw (m_runV (As := [.int le, .int 3]) (rest := []) hc hE hw (c_TextFilter_isAbove G l H.size f1 ht_f1 le (k := 3) (by decide)) (hg_f1 _ _ hta) rfl cw_TextFilter_32 se_TextFilter_isAbove rfl hl.1 rfl (Nat.le_of_ble_eq_true rfl) d_TextFilter_answer_70 ⟨rfl, rfl, by decide, by decide⟩ ⟨by first | decide | (dsimp only; omega), by first | decide | (dsimp only; omega)⟩) (fun r23 g22 H locs p21 hw => ?_)
            obtain ⟨rfl, p21⟩ := p21
            refine lv_if_eq (tgt := 78) hx hb d_TextFilter_answer_73 (by decide) (fun c24 => ?_) (fun c24 => ?_)
            · refine lv_aload_n hx hb d_TextFilter_answer_78 rfl (lv_at hl 0 rfl) ?_
              refine m_get hc hE hw (hg_f1 _ _ hta) kc_TextFilter l_TextFilter_9_TextFilter rfl d_TextFilter_answer_79 ?_
              refine lv_if_ne (tgt := 87) hx hb d_TextFilter_answer_82 (by decide) (fun c25 => ?_) (fun c25 => ?_)
              · refine lv_aload_n hx hb d_TextFilter_answer_87 rfl (lv_at hl 1 rfl) ?_
                refine m_get hc hE hw h2 kc_Question l_TextFilter_42_Question rfl d_TextFilter_answer_88 ?_
                refine lv_iconst (v := 2) hx hb d_TextFilter_answer_91 (by decide) ?_
                refine lv_icmp_ne (tgt := 99) hx hb d_TextFilter_answer_92 (by decide) (fun c26 => ?_) (fun c26 => ?_)
                · refine lv_aload_n hx hb d_TextFilter_answer_99 rfl (lv_at hl 0 rfl) ?_
                  refine lv_aload_n hx hb d_TextFilter_answer_100 rfl (lv_at hl 1 rfl) ?_
                  refine m_calli hw (m_runV (As := [.ref q]) (rest := []) hc hE hw (c_TextFilter_comparePatterns G l H.size f1 hq_f1 hg_f1 hgq ht) (hg_f1 _ _ hta) rfl cw_TextFilter_51 se_TextFilter_comparePatterns rfl hl.1 rfl (Nat.le_of_ble_eq_true rfl) d_TextFilter_answer_101 ⟨rfl, rfl, by decide, by decide⟩ ⟨by first | decide | (dsimp only; omega), by first | decide | (dsimp only; omega)⟩) (fun r29 g28 H locs p27 hw => ?_)
                  obtain ⟨p27, hfe⟩ := p27
                  have hr2 : anT bs lm np M V (nn, nt, mn, mt, dp, rf, by_, so, di, le) (co, tx, lx) = _ := anT_eq.trans (by rw [pif_f (fun z => z.elim (bI_0.mp (p3.symm.trans c6)) (fun z => z.elim (bI_0.mp (p7.symm.trans c10)) (bI_0.mp (p11.symm.trans c14)))), pif_f c15, pif_f (fun z => (bI_0.mp (p21.symm.trans c24)) z.2), pif_f (fun z => c25 z.2), pif_f c26])
                  exact m_iret hc hr hlk hw ⟨by first | decide | (dsimp only; omega), by first | decide | (dsimp only; omega)⟩ d_TextFilter_answer_104 ⟨by rw [hr2]; exact p27, by rw [hr2, hfe, ef1, up_uu]⟩
                · refine lv_iconst (v := 0) hx hb d_TextFilter_answer_95 (by decide) ?_
                  refine lv_goto (tgt := 104) hx hb d_TextFilter_answer_96 (by decide) ?_
                  have hr2 : anT bs lm np M V (nn, nt, mn, mt, dp, rf, by_, so, di, le) (co, tx, lx) = _ := anT_eq.trans (by rw [pif_f (fun z => z.elim (bI_0.mp (p3.symm.trans c6)) (fun z => z.elim (bI_0.mp (p7.symm.trans c10)) (bI_0.mp (p11.symm.trans c14)))), pif_f c15, pif_f (fun z => (bI_0.mp (p21.symm.trans c24)) z.2), pif_f (fun z => c25 z.2), pif_t c26])
                  exact m_iret hc hr hlk hw ⟨by first | decide | (dsimp only; omega), by first | decide | (dsimp only; omega)⟩ d_TextFilter_answer_104 ⟨by rw [hr2], by rw [hr2, ef1]⟩
              · refine lv_iconst (v := 0) hx hb d_TextFilter_answer_85 (by decide) ?_
                have hr2 : anT bs lm np M V (nn, nt, mn, mt, dp, rf, by_, so, di, le) (co, tx, lx) = _ := anT_eq.trans (by rw [pif_f (fun z => z.elim (bI_0.mp (p3.symm.trans c6)) (fun z => z.elim (bI_0.mp (p7.symm.trans c10)) (bI_0.mp (p11.symm.trans c14)))), pif_f c15, pif_f (fun z => (bI_0.mp (p21.symm.trans c24)) z.2), pif_t ⟨Int32.not_le.mp c16, c25⟩])
                exact m_iret hc hr hlk hw ⟨by first | decide | (dsimp only; omega), by first | decide | (dsimp only; omega)⟩ d_TextFilter_answer_86 ⟨by rw [hr2], by rw [hr2, ef1]⟩
            · refine lv_iconst (v := 2) hx hb d_TextFilter_answer_76 (by decide) ?_
              have hr2 : anT bs lm np M V (nn, nt, mn, mt, dp, rf, by_, so, di, le) (co, tx, lx) = _ := anT_eq.trans (by rw [pif_f (fun z => z.elim (bI_0.mp (p3.symm.trans c6)) (fun z => z.elim (bI_0.mp (p7.symm.trans c10)) (bI_0.mp (p11.symm.trans c14)))), pif_f c15, pif_t ⟨Int32.not_le.mp c16, (bI_n.mp (fun z => c24 (p21.trans z)))⟩])
              exact m_iret hc hr hlk hw ⟨by first | decide | (dsimp only; omega), by first | decide | (dsimp only; omega)⟩ d_TextFilter_answer_77 ⟨by rw [hr2], by rw [hr2, ef1]⟩
        · refine lv_iconst (v := 0) hx hb d_TextFilter_answer_55 (by decide) ?_
          have hr2 : anT bs lm np M V (nn, nt, mn, mt, dp, rf, by_, so, di, le) (co, tx, lx) = _ := anT_eq.trans (by rw [pif_f (fun z => z.elim (bI_0.mp (p3.symm.trans c6)) (fun z => z.elim (bI_0.mp (p7.symm.trans c10)) (bI_0.mp (p11.symm.trans c14)))), pif_t c15])
          exact m_iret hc hr hlk hw ⟨by first | decide | (dsimp only; omega), by first | decide | (dsimp only; omega)⟩ d_TextFilter_answer_56 ⟨by rw [hr2], by rw [hr2, ef1]⟩
      · refine lv_iconst (v := 2) hx hb d_TextFilter_answer_46 (by decide) ?_
        have hr2 : anT bs lm np M V (nn, nt, mn, mt, dp, rf, by_, so, di, le) (co, tx, lx) = _ := anT_eq.trans (by rw [pif_t (Or.inr (Or.inr (bI_n.mp (fun z => c14 (p11.trans z)))))])
        exact m_iret hc hr hlk hw ⟨by first | decide | (dsimp only; omega), by first | decide | (dsimp only; omega)⟩ d_TextFilter_answer_47 ⟨by rw [hr2], by rw [hr2, ef1]⟩
