/-! links of the pools, as the walks ask for them -/
theorem l_TextFilter_63_Question : lnk "StreamFilters$TextFilter" 63 F_Question 11 8 := ⟨by decide, "StreamFilters$Question", Or.inl rfl, Or.inl (tb 70 (by decide +kernel) rfl)⟩
theorem l_TextFilter_72_Question : lnk "StreamFilters$TextFilter" 72 F_Question 11 10 := ⟨by decide, "StreamFilters$Question", Or.inl rfl, Or.inl (tb 76 (by decide +kernel) rfl)⟩
theorem cw_TextFilter_59 : cwk "StreamFilters$TextFilter" 59 y_TextFilter_patternAt b_TextFilter_patternAt 2 (some (.object "StreamFilters$ClassPattern")) 1 := ⟨Or.inl (tb 545 (by decide +kernel) rfl), (tb 548 (by decide +kernel) rfl), (tb 13 (by decide +kernel) rfl), by decide, by decide, by decide +kernel⟩
theorem cw_TextFilter_66 : cwk "StreamFilters$TextFilter" 66 y_ClassPattern_matches b_ClassPattern_matches 2 (some .boolean) 1 := ⟨Or.inl (tb 549 (by decide +kernel) rfl), (tb 552 (by decide +kernel) rfl), (tb 11 (by decide +kernel) rfl), by decide, by decide, by decide +kernel⟩
theorem cw_TextFilter_75 : cwk "StreamFilters$TextFilter" 75 y_ClassPattern_verdict b_ClassPattern_verdict 1 (some .int) 0 := ⟨Or.inl (tb 572 (by decide +kernel) rfl), (tb 575 (by decide +kernel) rfl), (tb 11 (by decide +kernel) rfl), by decide, by decide, by decide +kernel⟩
theorem se_ClassPattern_matches : Cond.instanceMethod y_ClassPattern_matches ∈ TB ∧ Cond.selects "StreamFilters$ClassPattern" y_ClassPattern_matches y_ClassPattern_matches ∈ TB := ⟨(tb 550 (by decide +kernel) rfl), (tb 551 (by decide +kernel) rfl)⟩
theorem se_ClassPattern_verdict : Cond.instanceMethod y_ClassPattern_verdict ∈ TB ∧ Cond.selects "StreamFilters$ClassPattern" y_ClassPattern_verdict y_ClassPattern_verdict ∈ TB := ⟨(tb 573 (by decide +kernel) rfl), (tb 574 (by decide +kernel) rfl)⟩
theorem se_TextFilter_patternAt : Cond.instanceMethod y_TextFilter_patternAt ∈ TB ∧ Cond.selects "StreamFilters$TextFilter" y_TextFilter_patternAt y_TextFilter_patternAt ∈ TB := ⟨(tb 546 (by decide +kernel) rfl), (tb 547 (by decide +kernel) rfl)⟩
/-! decode rows -/
theorem d_TextFilter_comparePatterns_0 : decode b_TextFilter_comparePatterns 0 = .ok (.iconst 0, 1) := by decide +kernel
theorem d_TextFilter_comparePatterns_1 : decode b_TextFilter_comparePatterns 1 = .ok (.istore_n 2, 1) := by decide +kernel
theorem d_TextFilter_comparePatterns_2 : decode b_TextFilter_comparePatterns 2 = .ok (.iload_n 2, 1) := by decide +kernel
theorem d_TextFilter_comparePatterns_3 : decode b_TextFilter_comparePatterns 3 = .ok (.aload_n 0, 1) := by decide +kernel
theorem d_TextFilter_comparePatterns_4 : decode b_TextFilter_comparePatterns 4 = .ok (.getfield 19, 3) := by decide +kernel
theorem d_TextFilter_comparePatterns_7 : decode b_TextFilter_comparePatterns 7 = .ok (.arraylength, 1) := by decide +kernel
theorem d_TextFilter_comparePatterns_8 : decode b_TextFilter_comparePatterns 8 = .ok (.if_icmp .ge 47, 3) := by decide +kernel
theorem d_TextFilter_comparePatterns_11 : decode b_TextFilter_comparePatterns 11 = .ok (.aload_n 0, 1) := by decide +kernel
theorem d_TextFilter_comparePatterns_12 : decode b_TextFilter_comparePatterns 12 = .ok (.iload_n 2, 1) := by decide +kernel
theorem d_TextFilter_comparePatterns_13 : decode b_TextFilter_comparePatterns 13 = .ok (.invokevirtual 59, 3) := by decide +kernel
theorem d_TextFilter_comparePatterns_16 : decode b_TextFilter_comparePatterns 16 = .ok (.astore_n 3, 1) := by decide +kernel
theorem d_TextFilter_comparePatterns_17 : decode b_TextFilter_comparePatterns 17 = .ok (.aload_n 1, 1) := by decide +kernel
theorem d_TextFilter_comparePatterns_18 : decode b_TextFilter_comparePatterns 18 = .ok (.dup, 1) := by decide +kernel
theorem d_TextFilter_comparePatterns_19 : decode b_TextFilter_comparePatterns 19 = .ok (.getfield 63, 3) := by decide +kernel
theorem d_TextFilter_comparePatterns_22 : decode b_TextFilter_comparePatterns 22 = .ok (.iconst 1, 1) := by decide +kernel
theorem d_TextFilter_comparePatterns_23 : decode b_TextFilter_comparePatterns 23 = .ok (.iadd, 1) := by decide +kernel
theorem d_TextFilter_comparePatterns_24 : decode b_TextFilter_comparePatterns 24 = .ok (.putfield 63, 3) := by decide +kernel
theorem d_TextFilter_comparePatterns_27 : decode b_TextFilter_comparePatterns 27 = .ok (.aload_n 3, 1) := by decide +kernel
theorem d_TextFilter_comparePatterns_28 : decode b_TextFilter_comparePatterns 28 = .ok (.ifnull 21, 3) := by decide +kernel
theorem d_TextFilter_comparePatterns_31 : decode b_TextFilter_comparePatterns 31 = .ok (.aload_n 3, 1) := by decide +kernel
theorem d_TextFilter_comparePatterns_32 : decode b_TextFilter_comparePatterns 32 = .ok (.aload_n 1, 1) := by decide +kernel
theorem d_TextFilter_comparePatterns_33 : decode b_TextFilter_comparePatterns 33 = .ok (.invokevirtual 66, 3) := by decide +kernel
theorem d_TextFilter_comparePatterns_36 : decode b_TextFilter_comparePatterns 36 = .ok (.ifCond .eq 13, 3) := by decide +kernel
theorem d_TextFilter_comparePatterns_39 : decode b_TextFilter_comparePatterns 39 = .ok (.aload_n 1, 1) := by decide +kernel
theorem d_TextFilter_comparePatterns_40 : decode b_TextFilter_comparePatterns 40 = .ok (.iload_n 2, 1) := by decide +kernel
theorem d_TextFilter_comparePatterns_41 : decode b_TextFilter_comparePatterns 41 = .ok (.putfield 72, 3) := by decide +kernel
theorem d_TextFilter_comparePatterns_44 : decode b_TextFilter_comparePatterns 44 = .ok (.aload_n 3, 1) := by decide +kernel
theorem d_TextFilter_comparePatterns_45 : decode b_TextFilter_comparePatterns 45 = .ok (.invokevirtual 75, 3) := by decide +kernel
theorem d_TextFilter_comparePatterns_48 : decode b_TextFilter_comparePatterns 48 = .ok (.ireturn, 1) := by decide +kernel
theorem d_TextFilter_comparePatterns_49 : decode b_TextFilter_comparePatterns 49 = .ok (.iinc 2 1, 3) := by decide +kernel
theorem d_TextFilter_comparePatterns_52 : decode b_TextFilter_comparePatterns 52 = .ok (.goto (-50), 3) := by decide +kernel
theorem d_TextFilter_comparePatterns_55 : decode b_TextFilter_comparePatterns 55 = .ok (.iconst 0, 1) := by decide +kernel
theorem d_TextFilter_comparePatterns_56 : decode b_TextFilter_comparePatterns 56 = .ok (.ireturn, 1) := by decide +kernel
set_option maxHeartbeats 4000000 in
set_option maxRecDepth 100000 in
/-- comparePatterns(q) -/
theorem c_TextFilter_comparePatterns (G : GG) (l : Launch) (sz : Nat) (f : Wd) {a : Nat} {bs : Int32} {lm : Nat → Int32} {np : Nat} {V Sh : Nat → Int32} {M : Nat → Nat → (Nat → Int32) → Nat → (Nat → Int32) → Prop} {q na nr ncap nn : Nat} {nt : Nat → Int32} {ma mr mcap mn : Nat} {mt : Nat → Int32} {dp rf by_ so di le co tx lx : Int32} (hq : qs G f q na nr ncap nn nt ma mr mcap mn mt dp rf by_ so di le co tx lx) {g : Wd} (hg : gle g f) (hgq : g q = none) (ht : tf G g a bs lm np V Sh M) : Ci G l y_TextFilter_comparePatterns b_TextFilter_comparePatterns 4 (some .int) ({ frames := 4, cells := 0, slots := 0, locals := 95 }) sz f [.ref a, .ref q] (fun v f' => v = (cmpP (fun i => M i nn nt mn mt) V np 0 co lx).1 ∧ f' = va_up f q (some (.inr (2, [.ref na, .ref ma, .int dp, .int rf, .int by_, .int so, .int di, .int le, .int ((cmpP (fun i => M i nn nt mn mt) V np 0 co lx).2.1), .int tx, .int ((cmpP (fun i => M i nn nt mn mt) V np 0 co lx).2.2)])))) := by
  refine ct_of (by decide) (Nat.le_of_ble_eq_true rfl) ?_
  intro p e s m below meth c ls H locs hEn
  obtain ⟨hc, hr, hlk, hin, hE, hw, hsz, hl⟩ := hEn
  have hx := hc.1
  have hb := hc.2.1
  have hl : lv_has ls 4 [(0, .ref a), (1, .ref q)] := hl
  obtain ⟨la, pa, pf, hta, htl, htp, hnp, hbs, hpat⟩ := ht
  obtain ⟨hqc, hqn, hqm⟩ := hq
  have hwd : ∀ (co2 la2 : Int32), gle g (va_up f q (some (.inr (2, [.ref na, .ref ma, .int dp, .int rf, .int by_, .int so, .int di, .int le, .int co2, .int tx, .int la2])))) := fun _ _ => hg.upf hgq
  refine lv_iconst (v := 0) hx hb d_TextFilter_comparePatterns_0 (by decide) ?_
  refine lv_istore_n (lv' := [(2, .int 0), (0, .ref a), (1, .ref q)]) hx hb d_TextFilter_comparePatterns_1 rfl hl (by decide) rfl (fun ls hl => ?_)
  have loop : ∀ (fu : Nat) (i : Nat) (fw : Wd) (co2 : Int32) (ls : Array Slot) (H : Heap) (locs : List Loc), np - i < fu → i ≤ np → fw = va_up f q (some (.inr (2, [.ref na, .ref ma, .int dp, .int rf, .int by_, .int so, .int di, .int le, .int co2, .int tx, .int lx]))) → cmpP (fun i => M i nn nt mn mt) V np 0 co lx = cmpP (fun i => M i nn nt mn mt) V (np - i) i co2 lx → ms G.1 (Af f sz) fw s H locs → lv_has ls 4 [(2, .int (nI i)), (0, .ref a), (1, .ref q)] → W p l e ({ frames := 4, cells := 0, slots := 0, locals := 95 }) s m ([.ref a, .ref q] : List Value).toArray below meth c H locs 0 0 (MQ below (va_Qi (fun v f' => v = (cmpP (fun i => M i nn nt mn mt) V np 0 co lx).1 ∧ f' = va_up f q (some (.inr (2, [.ref na, .ref ma, .int dp, .int rf, .int by_, .int so, .int di, .int le, .int ((cmpP (fun i => M i nn nt mn mt) V np 0 co lx).2.1), .int tx, .int ((cmpP (fun i => M i nn nt mn mt) V np 0 co lx).2.2)])))) (Bw G f sz) (Af f sz)) ([.ref a, .ref q] : List Value).toArray s 0 0 (Af f sz)) (F0 m 2 ls []) := by
    intro fu
    induction fu with
    | zero => intro i fw co2 ls H locs h0; exact absurd h0 (Nat.not_lt_zero _)
    | succ fu ih =>
      intro i fw co2 ls H locs hfu hi hfw hres hw hl
      have hgf : gle g fw := by rw [hfw]; exact hwd _ _
      have hwq : fw q = some (.inr (2, [.ref na, .ref ma, .int dp, .int rf, .int by_, .int so, .int di, .int le, .int co2, .int tx, .int lx])) := by rw [hfw, va_up_self]
      refine lv_iload_n hx hb d_TextFilter_comparePatterns_2 rfl (lv_at hl 0 rfl) ?_
      refine lv_aload_n hx hb d_TextFilter_comparePatterns_3 rfl (lv_at hl 1 rfl) ?_
      refine m_get hc hE hw (hgf _ _ hta) kc_TextFilter l_TextFilter_19_TextFilter rfl d_TextFilter_comparePatterns_4 ?_
      refine m_alen hc hE hw 3 (hgf _ _ htp) rfl d_TextFilter_comparePatterns_7 ?_
      refine lv_icmp_ge (tgt := 55) hx hb d_TextFilter_comparePatterns_8 (by decide) (fun c1 => ?_) (fun c1 => ?_)
      · refine lv_iconst (v := 0) hx hb d_TextFilter_comparePatterns_55 (by decide) ?_
        have hin2 : i = np := by have := (nI_leI (by omega) (by omega)).mp c1; omega
        have hr2 : cmpP (fun i => M i nn nt mn mt) V np 0 co lx = (0, co2, lx) := by rw [hres, hin2, Nat.sub_self]; rfl
        exact m_iret hc hr hlk hw ⟨by first | decide | (dsimp only; omega), by first | decide | (dsimp only; omega)⟩ d_TextFilter_comparePatterns_56 ⟨by rw [hr2], by rw [hr2]; exact hfw⟩
      · refine lv_aload_n hx hb d_TextFilter_comparePatterns_11 rfl (lv_at hl 1 rfl) ?_
        refine lv_iload_n hx hb d_TextFilter_comparePatterns_12 rfl (lv_at hl 0 rfl) ?_
        refine m_callq hw (m_runV (As := [.int (nI i)]) (rest := []) hc hE hw (c_TextFilter_patternAt G l H.size fw (hgf _ _ hta) (hgf _ _ htp) hnp (nI i)) (hgf _ _ hta) rfl cw_TextFilter_59 se_TextFilter_patternAt rfl hl.1 rfl (Nat.le_of_ble_eq_true rfl) d_TextFilter_comparePatterns_13 ⟨rfl, rfl, by decide, by decide⟩ ⟨by first | decide | (dsimp only; omega), by first | decide | (dsimp only; omega)⟩) (fun r4 g3 H locs p2 hw => ?_)
        have hlt : i < np := Nat.not_le.mp (fun z => c1 (nI_le z (by omega)))
        obtain ⟨rfl, p2⟩ := p2
        obtain ⟨pk, ta, tr, tcap, tn, tt, rj, sh, m0, m1, n0, n1, e1, e2, e3, e4, e5⟩ := hpat i hlt
        rw [pif_t ⟨nI_pos' (by omega), nI_lt hlt (by omega)⟩, nI_clamp (by omega), e1] at p2
        subst p2
        refine lv_astore_n (lv' := [(3, .ref pk), (2, .int (nI i)), (0, .ref a), (1, .ref q)]) hx hb d_TextFilter_comparePatterns_16 rfl hl (by decide) rfl (fun ls hl => ?_)
        refine lv_aload_n hx hb d_TextFilter_comparePatterns_17 rfl (lv_at hl 3 rfl) ?_
        refine lv_dup hx hb d_TextFilter_comparePatterns_18 rfl ?_
        refine m_get hc hE hw hwq kc_Question l_TextFilter_63_Question rfl d_TextFilter_comparePatterns_19 ?_
        refine lv_iconst (v := 1) hx hb d_TextFilter_comparePatterns_22 (by decide) ?_
        refine lv_iadd hx hb d_TextFilter_comparePatterns_23 ?_
        refine m_put hc hE hw hwq kc_Question l_TextFilter_63_Question rfl ds_Question_8 rfl rfl (Nat.le_of_ble_eq_true rfl) d_TextFilter_comparePatterns_24 (fun H locs hw => ?_)
        obtain ⟨f5, ef5⟩ : ∃ z : Wd, z = va_up fw q (some (.inr (2, [.ref na, .ref ma, .int dp, .int rf, .int by_, .int so, .int di, .int le, .int (co2 + 1), .int tx, .int lx]))) := ⟨_, rfl⟩
        replace hw : ms G.1 (Af f sz) f5 s H locs := by rw [ef5]; exact hw
        have h6 : f5 q = some (.inr (2, [.ref na, .ref ma, .int dp, .int rf, .int by_, .int so, .int di, .int le, .int (co2 + 1), .int tx, .int lx])) := by rw [ef5, va_up_self]
        have hf_f5 : f5 = va_up f q (some (.inr (2, [.ref na, .ref ma, .int dp, .int rf, .int by_, .int so, .int di, .int le, .int (co2 + 1), .int tx, .int lx]))) := by rw [ef5, hfw, up_uu]
        have hg_f5 : gle g f5 := by rw [hf_f5]; exact hwd _ _
        have hq_f5 : qs G f5 q na nr ncap nn nt ma mr mcap mn mt dp rf by_ so di le (co2 + 1) tx lx := by rw [hf_f5]; exact ⟨va_up_self _ _ _, sg_up hqn hqc wd_x, sg_up hqm hqc wd_x⟩
        refine lv_aload_n hx hb d_TextFilter_comparePatterns_27 rfl (lv_at hl 0 rfl) ?_
        refine lv_ifnull hx hb d_TextFilter_comparePatterns_28 ?_
        refine lv_aload_n hx hb d_TextFilter_comparePatterns_31 rfl (lv_at hl 0 rfl) ?_
        refine lv_aload_n hx hb d_TextFilter_comparePatterns_32 rfl (lv_at hl 3 rfl) ?_
        refine m_calli hw (m_runV (As := [.ref q]) (rest := []) hc hE hw (c_ClassPattern_matches G l H.size f5 (e2.mono hg_f5) hq_f5) (hg_f5 _ _ e2.1) rfl cw_TextFilter_66 se_ClassPattern_matches rfl hl.1 rfl (Nat.le_of_ble_eq_true rfl) d_TextFilter_comparePatterns_33 ⟨rfl, rfl, by decide, by decide⟩ ⟨by first | decide | (dsimp only; omega), by first | decide | (dsimp only; omega)⟩) (fun r9 g8 H locs p7 hw => ?_)
        obtain ⟨rfl, p7⟩ := p7
        refine lv_if_eq (tgt := 49) hx hb d_TextFilter_comparePatterns_36 (by decide) (fun c10 => ?_) (fun c10 => ?_)
        · refine lv_iinc (v := (nI (i + 1))) (lv' := [(2, .int (nI (i + 1))), (3, .ref pk), (0, .ref a), (1, .ref q)]) hx hb d_TextFilter_comparePatterns_49 hl (k := 1) rfl (nI_1 _) (by decide) rfl (fun ls hl => ?_)
          refine lv_goto (tgt := 2) hx hb d_TextFilter_comparePatterns_52 (by decide) ?_
          have hm := bI_0.mp (p7.symm.trans c10)
          exact ih (i + 1) f5 (co2 + 1) ls H locs (by omega) (by omega) hf_f5 (by rw [hres, show np - i = (np - (i + 1)) + 1 by omega]; exact pif_f (fun z => hm ((e5 nn nt mn mt).mp z))) hw (lv_sub hl [0, 2, 3] rfl)
        · refine lv_aload_n hx hb d_TextFilter_comparePatterns_39 rfl (lv_at hl 3 rfl) ?_
          refine lv_iload_n hx hb d_TextFilter_comparePatterns_40 rfl (lv_at hl 1 rfl) ?_
          refine m_put hc hE hw h6 kc_Question l_TextFilter_72_Question rfl ds_Question_10 rfl rfl (Nat.le_of_ble_eq_true rfl) d_TextFilter_comparePatterns_41 (fun H locs hw => ?_)
          obtain ⟨f11, ef11⟩ : ∃ z : Wd, z = va_up f5 q (some (.inr (2, [.ref na, .ref ma, .int dp, .int rf, .int by_, .int so, .int di, .int le, .int (co2 + 1), .int tx, .int (nI i)]))) := ⟨_, rfl⟩
          replace hw : ms G.1 (Af f sz) f11 s H locs := by rw [ef11]; exact hw
          have h12 : f11 q = some (.inr (2, [.ref na, .ref ma, .int dp, .int rf, .int by_, .int so, .int di, .int le, .int (co2 + 1), .int tx, .int (nI i)])) := by rw [ef11, va_up_self]
          have hf_f11 : f11 = va_up f q (some (.inr (2, [.ref na, .ref ma, .int dp, .int rf, .int by_, .int so, .int di, .int le, .int (co2 + 1), .int tx, .int (nI i)]))) := by rw [ef11, ef5, up_uu, hfw, up_uu]
          have hg_f11 : gle g f11 := by rw [hf_f11]; exact hwd _ _
          have hq_f11 : qs G f11 q na nr ncap nn nt ma mr mcap mn mt dp rf by_ so di le (co2 + 1) tx (nI i) := by rw [hf_f11]; exact ⟨va_up_self _ _ _, sg_up hqn hqc wd_x, sg_up hqm hqc wd_x⟩
          refine lv_aload_n hx hb d_TextFilter_comparePatterns_44 rfl (lv_at hl 0 rfl) ?_
          refine m_calli hw (m_runV (As := []) (rest := []) hc hE hw (c_ClassPattern_verdict G l H.size f11 (e2.mono hg_f11)) (hg_f11 _ _ e2.1) rfl cw_TextFilter_75 se_ClassPattern_verdict rfl hl.1 rfl (Nat.le_of_ble_eq_true rfl) d_TextFilter_comparePatterns_45 ⟨rfl, rfl, by decide, by decide⟩ ⟨by first | decide | (dsimp only; omega), by first | decide | (dsimp only; omega)⟩) (fun r15 g14 H locs p13 hw => ?_)
          obtain ⟨rfl, p13⟩ := p13
          have hm := bI_n.mp (fun z => c10 (p7.trans z))
          have hr2 : cmpP (fun i => M i nn nt mn mt) V np 0 co lx = (V i, co2 + 1, nI i) := by rw [hres, show np - i = (np - i - 1) + 1 by omega]; exact pif_t ((e5 nn nt mn mt).mpr hm)
          exact m_iret hc hr hlk hw ⟨by first | decide | (dsimp only; omega), by first | decide | (dsimp only; omega)⟩ d_TextFilter_comparePatterns_48 ⟨by rw [hr2, e3]; exact p13, by rw [hr2]; exact hf_f11⟩
  exact loop (np + 1) 0 f co ls H locs (by omega) (Nat.zero_le _) (up_id hqc).symm rfl hw (lv_sub hl [0, 1, 2] rfl)
