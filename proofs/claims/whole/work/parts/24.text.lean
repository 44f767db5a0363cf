/-! links of the pools, as the walks ask for them -/
theorem l_TextFilter_15_TextFilter : lnk "StreamFilters$TextFilter" 15 F_TextFilter 6 4 := ⟨by decide, "StreamFilters$TextFilter", Or.inl rfl, Or.inl (tb 367 (by decide +kernel) rfl)⟩
theorem l_TextFilter_19_TextFilter : lnk "StreamFilters$TextFilter" 19 F_TextFilter 6 5 := ⟨by decide, "StreamFilters$TextFilter", Or.inl rfl, Or.inl (tb 368 (by decide +kernel) rfl)⟩
theorem cw_TextFilter_55 : cwk "StreamFilters$TextFilter" 55 y_TextFilter_limitAt b_TextFilter_limitAt 2 (some .int) 1 := ⟨Or.inl (tb 537 (by decide +kernel) rfl), (tb 540 (by decide +kernel) rfl), (tb 13 (by decide +kernel) rfl), by decide, by decide, by decide +kernel⟩
theorem se_TextFilter_limitAt : Cond.instanceMethod y_TextFilter_limitAt ∈ TB ∧ Cond.selects "StreamFilters$TextFilter" y_TextFilter_limitAt y_TextFilter_limitAt ∈ TB := ⟨(tb 538 (by decide +kernel) rfl), (tb 539 (by decide +kernel) rfl)⟩
/-! decode rows -/
theorem d_TextFilter_countPatterns_0 : decode b_TextFilter_countPatterns 0 = .ok (.aload_n 0, 1) := by decide +kernel
theorem d_TextFilter_countPatterns_1 : decode b_TextFilter_countPatterns 1 = .ok (.getfield 19, 3) := by decide +kernel
theorem d_TextFilter_countPatterns_4 : decode b_TextFilter_countPatterns 4 = .ok (.arraylength, 1) := by decide +kernel
theorem d_TextFilter_countPatterns_5 : decode b_TextFilter_countPatterns 5 = .ok (.ireturn, 1) := by decide +kernel
theorem d_TextFilter_isAbove_0 : decode b_TextFilter_isAbove 0 = .ok (.aload_n 0, 1) := by decide +kernel
theorem d_TextFilter_isAbove_1 : decode b_TextFilter_isAbove 1 = .ok (.iload_n 2, 1) := by decide +kernel
theorem d_TextFilter_isAbove_2 : decode b_TextFilter_isAbove 2 = .ok (.invokevirtual 55, 3) := by decide +kernel
theorem d_TextFilter_isAbove_5 : decode b_TextFilter_isAbove 5 = .ok (.istore_n 3, 1) := by decide +kernel
theorem d_TextFilter_isAbove_6 : decode b_TextFilter_isAbove 6 = .ok (.iload_n 3, 1) := by decide +kernel
theorem d_TextFilter_isAbove_7 : decode b_TextFilter_isAbove 7 = .ok (.bipush (-2), 2) := by decide +kernel
theorem d_TextFilter_isAbove_9 : decode b_TextFilter_isAbove 9 = .ok (.if_icmp .eq 12, 3) := by decide +kernel
theorem d_TextFilter_isAbove_12 : decode b_TextFilter_isAbove 12 = .ok (.iload_n 1, 1) := by decide +kernel
theorem d_TextFilter_isAbove_13 : decode b_TextFilter_isAbove 13 = .ok (.iload_n 3, 1) := by decide +kernel
theorem d_TextFilter_isAbove_14 : decode b_TextFilter_isAbove 14 = .ok (.if_icmp .le 7, 3) := by decide +kernel
theorem d_TextFilter_isAbove_17 : decode b_TextFilter_isAbove 17 = .ok (.iconst 1, 1) := by decide +kernel
theorem d_TextFilter_isAbove_18 : decode b_TextFilter_isAbove 18 = .ok (.goto 4, 3) := by decide +kernel
theorem d_TextFilter_isAbove_21 : decode b_TextFilter_isAbove 21 = .ok (.iconst 0, 1) := by decide +kernel
theorem d_TextFilter_isAbove_22 : decode b_TextFilter_isAbove 22 = .ok (.ireturn, 1) := by decide +kernel
theorem d_TextFilter_limitAt_0 : decode b_TextFilter_limitAt 0 = .ok (.iload_n 1, 1) := by decide +kernel
theorem d_TextFilter_limitAt_1 : decode b_TextFilter_limitAt 1 = .ok (.ifCond .lt 21, 3) := by decide +kernel
theorem d_TextFilter_limitAt_4 : decode b_TextFilter_limitAt 4 = .ok (.iload_n 1, 1) := by decide +kernel
theorem d_TextFilter_limitAt_5 : decode b_TextFilter_limitAt 5 = .ok (.aload_n 0, 1) := by decide +kernel
theorem d_TextFilter_limitAt_6 : decode b_TextFilter_limitAt 6 = .ok (.getfield 15, 3) := by decide +kernel
theorem d_TextFilter_limitAt_9 : decode b_TextFilter_limitAt 9 = .ok (.arraylength, 1) := by decide +kernel
theorem d_TextFilter_limitAt_10 : decode b_TextFilter_limitAt 10 = .ok (.if_icmp .ge 12, 3) := by decide +kernel
theorem d_TextFilter_limitAt_13 : decode b_TextFilter_limitAt 13 = .ok (.aload_n 0, 1) := by decide +kernel
theorem d_TextFilter_limitAt_14 : decode b_TextFilter_limitAt 14 = .ok (.getfield 15, 3) := by decide +kernel
theorem d_TextFilter_limitAt_17 : decode b_TextFilter_limitAt 17 = .ok (.iload_n 1, 1) := by decide +kernel
theorem d_TextFilter_limitAt_18 : decode b_TextFilter_limitAt 18 = .ok (.iaload, 1) := by decide +kernel
theorem d_TextFilter_limitAt_19 : decode b_TextFilter_limitAt 19 = .ok (.goto 5, 3) := by decide +kernel
theorem d_TextFilter_limitAt_22 : decode b_TextFilter_limitAt 22 = .ok (.bipush (-2), 2) := by decide +kernel
theorem d_TextFilter_limitAt_24 : decode b_TextFilter_limitAt 24 = .ok (.ireturn, 1) := by decide +kernel
theorem d_TextFilter_patternAt_0 : decode b_TextFilter_patternAt 0 = .ok (.iload_n 1, 1) := by decide +kernel
theorem d_TextFilter_patternAt_1 : decode b_TextFilter_patternAt 1 = .ok (.ifCond .lt 21, 3) := by decide +kernel
theorem d_TextFilter_patternAt_4 : decode b_TextFilter_patternAt 4 = .ok (.iload_n 1, 1) := by decide +kernel
theorem d_TextFilter_patternAt_5 : decode b_TextFilter_patternAt 5 = .ok (.aload_n 0, 1) := by decide +kernel
theorem d_TextFilter_patternAt_6 : decode b_TextFilter_patternAt 6 = .ok (.getfield 19, 3) := by decide +kernel
theorem d_TextFilter_patternAt_9 : decode b_TextFilter_patternAt 9 = .ok (.arraylength, 1) := by decide +kernel
theorem d_TextFilter_patternAt_10 : decode b_TextFilter_patternAt 10 = .ok (.if_icmp .ge 12, 3) := by decide +kernel
theorem d_TextFilter_patternAt_13 : decode b_TextFilter_patternAt 13 = .ok (.aload_n 0, 1) := by decide +kernel
theorem d_TextFilter_patternAt_14 : decode b_TextFilter_patternAt 14 = .ok (.getfield 19, 3) := by decide +kernel
theorem d_TextFilter_patternAt_17 : decode b_TextFilter_patternAt 17 = .ok (.iload_n 1, 1) := by decide +kernel
theorem d_TextFilter_patternAt_18 : decode b_TextFilter_patternAt 18 = .ok (.aaload, 1) := by decide +kernel
theorem d_TextFilter_patternAt_19 : decode b_TextFilter_patternAt 19 = .ok (.goto 4, 3) := by decide +kernel
theorem d_TextFilter_patternAt_22 : decode b_TextFilter_patternAt 22 = .ok (.aconst_null, 1) := by decide +kernel
theorem d_TextFilter_patternAt_23 : decode b_TextFilter_patternAt 23 = .ok (.areturn, 1) := by decide +kernel
set_option maxHeartbeats 4000000 in
set_option maxRecDepth 100000 in
/-- countPatterns() -/
theorem c_TextFilter_countPatterns (G : GG) (l : Launch) (sz : Nat) (f : Wd) {a : Nat} {bs : Int32} {lm : Nat → Int32} {np : Nat} {V Sh : Nat → Int32} {M : Nat → Nat → (Nat → Int32) → Nat → (Nat → Int32) → Prop} (ht : tf G f a bs lm np V Sh M) : Ci G l y_TextFilter_countPatterns b_TextFilter_countPatterns 1 (some .int) ({ frames := 0, cells := 0, slots := 0, locals := 0 }) sz f [.ref a] (fun v f' => f = f' ∧ v = nI np) := by
  refine ct_of (by decide) (Nat.le_of_ble_eq_true rfl) ?_
  intro p e s m below meth c ls H locs hEn
  obtain ⟨hc, hr, hlk, hin, hE, hw, hsz, hl⟩ := hEn
  have hx := hc.1
  have hb := hc.2.1
  have hl : lv_has ls 1 [(0, .ref a)] := hl
  obtain ⟨la, pa, pf, hta, htl, htp, hnp, hbs, hpat⟩ := ht
  refine lv_aload_n hx hb d_TextFilter_countPatterns_0 rfl (lv_at hl 0 rfl) ?_
  refine m_get hc hE hw hta kc_TextFilter l_TextFilter_19_TextFilter rfl d_TextFilter_countPatterns_1 ?_
  refine m_alen hc hE hw 3 htp rfl d_TextFilter_countPatterns_4 ?_
  exact m_iret hc hr hlk hw ⟨by first | decide | (dsimp only; omega), by first | decide | (dsimp only; omega)⟩ d_TextFilter_countPatterns_5 ⟨rfl, rfl⟩

set_option maxHeartbeats 4000000 in
set_option maxRecDepth 100000 in
/-- limitAt(k) -/
theorem c_TextFilter_limitAt (G : GG) (l : Launch) (sz : Nat) (f : Wd) {a : Nat} {bs : Int32} {lm : Nat → Int32} {np : Nat} {V Sh : Nat → Int32} {M : Nat → Nat → (Nat → Int32) → Nat → (Nat → Int32) → Prop} (ht : tf G f a bs lm np V Sh M) {k : Nat} (hk : k < 4) : Ci G l y_TextFilter_limitAt b_TextFilter_limitAt 2 (some .int) ({ frames := 0, cells := 0, slots := 0, locals := 0 }) sz f [.ref a, .int (nI k)] (fun v f' => f = f' ∧ v = lm k) := by
  refine ct_of (by decide) (Nat.le_of_ble_eq_true rfl) ?_
  intro p e s m below meth c ls H locs hEn
  obtain ⟨hc, hr, hlk, hin, hE, hw, hsz, hl⟩ := hEn
  have hx := hc.1
  have hb := hc.2.1
  have hl : lv_has ls 2 [(0, .ref a), (1, .int (nI k))] := hl
  obtain ⟨la, pa, pf, hta, htl, htp, hnp, hbs, hpat⟩ := ht
  refine lv_iload_n hx hb d_TextFilter_limitAt_0 rfl (lv_at hl 1 rfl) ?_
  refine lv_if_lt (tgt := 22) hx hb d_TextFilter_limitAt_1 (by decide) (fun c1 => ?_) (fun c1 => ?_)
  · refine lv_bipush (v := (-2)) hx hb d_TextFilter_limitAt_22 (by decide) ?_
    exact absurd c1 (nI_pos (by omega))
  · refine lv_iload_n hx hb d_TextFilter_limitAt_4 rfl (lv_at hl 1 rfl) ?_
    refine lv_aload_n hx hb d_TextFilter_limitAt_5 rfl (lv_at hl 0 rfl) ?_
    refine m_get hc hE hw hta kc_TextFilter l_TextFilter_15_TextFilter rfl d_TextFilter_limitAt_6 ?_
    refine m_alen hc hE hw 0 htl rfl d_TextFilter_limitAt_9 ?_
    refine lv_icmp_ge (tgt := 22) hx hb d_TextFilter_limitAt_10 (by decide) (fun c2 => ?_) (fun c2 => ?_)
    · refine lv_bipush (v := (-2)) hx hb d_TextFilter_limitAt_22 (by decide) ?_
      exact absurd ((nI_leI (a := 4) (b := k) (by decide) (by omega)).mp c2) (by omega)
    · refine lv_aload_n hx hb d_TextFilter_limitAt_13 rfl (lv_at hl 0 rfl) ?_
      refine m_get hc hE hw hta kc_TextFilter l_TextFilter_15_TextFilter rfl d_TextFilter_limitAt_14 ?_
      refine lv_iload_n hx hb d_TextFilter_limitAt_17 rfl (lv_at hl 1 rfl) ?_
      refine m_iald hc hE hw 0 htl rfl (vp_in_nI hk (by decide)) d_TextFilter_limitAt_18 ?_
      refine lv_goto (tgt := 24) hx hb d_TextFilter_limitAt_19 (by decide) ?_
      exact m_iret hc hr hlk hw ⟨by first | decide | (dsimp only; omega), by first | decide | (dsimp only; omega)⟩ d_TextFilter_limitAt_24 ⟨rfl, by rw [nI_clamp (by omega)]⟩

set_option maxHeartbeats 4000000 in
set_option maxRecDepth 100000 in
/-- patternAt(i) -/
theorem c_TextFilter_patternAt (G : GG) (l : Launch) (sz : Nat) (f : Wd) {a : Nat} {bs : Int32} {np : Nat} {pf : Nat → Option Nat} {la pa : Nat}  (hta : f a = some (.inr (5, [.int 1, .int 1, .int 1, .int bs, .ref la, .ref pa]))) (htp : f pa = some (.inl (G.2.1 3, np, .inr (.inr (.inr (.inr pf)))))) (hnp : np ≤ 91) (i : Int32) : Cq G l y_TextFilter_patternAt b_TextFilter_patternAt 2 (some (.object "StreamFilters$ClassPattern")) ({ frames := 0, cells := 0, slots := 0, locals := 0 }) sz f [.ref a, .int i] (fun v f' => f = f' ∧ v = pif (0 ≤ i ∧ i < nI np) (pf i.toNatClampNeg) none) := by
  refine ct_of (by decide) (Nat.le_of_ble_eq_true rfl) ?_
  intro p e s m below meth c ls H locs hEn
  obtain ⟨hc, hr, hlk, hin, hE, hw, hsz, hl⟩ := hEn
  have hx := hc.1
  have hb := hc.2.1
  have hl : lv_has ls 2 [(0, .ref a), (1, .int i)] := hl
  refine lv_iload_n hx hb d_TextFilter_patternAt_0 rfl (lv_at hl 1 rfl) ?_
  refine lv_if_lt (tgt := 22) hx hb d_TextFilter_patternAt_1 (by decide) (fun c1 => ?_) (fun c1 => ?_)
  · refine lv_null hx hb d_TextFilter_patternAt_22 ?_
    exact m_aret (r := none) hc hr hlk hw ⟨by first | decide | (dsimp only; omega), by first | decide | (dsimp only; omega)⟩ d_TextFilter_patternAt_23 ⟨rfl, (pif_f (fun z => absurd c1 (Int32.not_lt.mpr z.1))).symm⟩
  · refine lv_iload_n hx hb d_TextFilter_patternAt_4 rfl (lv_at hl 1 rfl) ?_
    refine lv_aload_n hx hb d_TextFilter_patternAt_5 rfl (lv_at hl 0 rfl) ?_
    refine m_get hc hE hw hta kc_TextFilter l_TextFilter_19_TextFilter rfl d_TextFilter_patternAt_6 ?_
    refine m_alen hc hE hw 3 htp rfl d_TextFilter_patternAt_9 ?_
    refine lv_icmp_ge (tgt := 22) hx hb d_TextFilter_patternAt_10 (by decide) (fun c2 => ?_) (fun c2 => ?_)
    · refine lv_null hx hb d_TextFilter_patternAt_22 ?_
      exact m_aret (r := none) hc hr hlk hw ⟨by first | decide | (dsimp only; omega), by first | decide | (dsimp only; omega)⟩ d_TextFilter_patternAt_23 ⟨rfl, (pif_f (fun z => absurd c2 (Int32.not_le.mpr z.2))).symm⟩
    · refine lv_aload_n hx hb d_TextFilter_patternAt_13 rfl (lv_at hl 0 rfl) ?_
      refine m_get hc hE hw hta kc_TextFilter l_TextFilter_19_TextFilter rfl d_TextFilter_patternAt_14 ?_
      refine lv_iload_n hx hb d_TextFilter_patternAt_17 rfl (lv_at hl 1 rfl) ?_
      refine m_aald hc hE hw 3 htp rfl (vin c1 c2 (Nat.le_refl np) (by omega)) d_TextFilter_patternAt_18 ?_
      refine lv_goto (tgt := 23) hx hb d_TextFilter_patternAt_19 (by decide) ?_
      exact m_aret (r := (pf i.toNatClampNeg)) hc hr hlk hw ⟨by first | decide | (dsimp only; omega), by first | decide | (dsimp only; omega)⟩ d_TextFilter_patternAt_23 ⟨rfl, (pif_t ⟨Int32.not_lt.mp c1, Int32.not_le.mp c2⟩).symm⟩

set_option maxHeartbeats 4000000 in
set_option maxRecDepth 100000 in
/-- isAbove(x, k) -/
theorem c_TextFilter_isAbove (G : GG) (l : Launch) (sz : Nat) (f : Wd) {a : Nat} {bs : Int32} {lm : Nat → Int32} {np : Nat} {V Sh : Nat → Int32} {M : Nat → Nat → (Nat → Int32) → Nat → (Nat → Int32) → Prop} (ht : tf G f a bs lm np V Sh M) (x : Int32) {k : Nat} (hk : k < 4) : Ci G l y_TextFilter_isAbove b_TextFilter_isAbove 4 (some .boolean) ({ frames := 1, cells := 0, slots := 0, locals := 21 }) sz f [.ref a, .int x, .int (nI k)] (fun v f' => f = f' ∧ v = bI (abv x (lm k))) := by
  refine ct_of (by decide) (Nat.le_of_ble_eq_true rfl) ?_
  intro p e s m below meth c ls H locs hEn
  obtain ⟨hc, hr, hlk, hin, hE, hw, hsz, hl⟩ := hEn
  have hx := hc.1
  have hb := hc.2.1
  have hl : lv_has ls 4 [(0, .ref a), (1, .int x), (2, .int (nI k))] := hl
  have ht2 := ht
  obtain ⟨la, pa, pf, hta, -⟩ := ht2
  refine lv_aload_n hx hb d_TextFilter_isAbove_0 rfl (lv_at hl 0 rfl) ?_
  refine lv_iload_n hx hb d_TextFilter_isAbove_1 rfl (lv_at hl 2 rfl) ?_
  refine m_calli hw (m_runV (As := [.int (nI k)]) (rest := []) hc hE hw (c_TextFilter_limitAt G l H.size f ht hk) hta rfl cw_TextFilter_55 se_TextFilter_limitAt rfl hl.1 rfl (Nat.le_of_ble_eq_true rfl) d_TextFilter_isAbove_2 ⟨rfl, rfl, by decide, by decide⟩ ⟨by first | decide | (dsimp only; omega), by first | decide | (dsimp only; omega)⟩) (fun r3 g2 H locs p1 hw => ?_)
  obtain ⟨rfl, p1⟩ := p1
  subst p1
  refine lv_istore_n (lv' := [(3, .int (lm k)), (0, .ref a), (1, .int x), (2, .int (nI k))]) hx hb d_TextFilter_isAbove_5 rfl hl (by decide) rfl (fun ls hl => ?_)
  refine lv_iload_n hx hb d_TextFilter_isAbove_6 rfl (lv_at hl 0 rfl) ?_
  refine lv_bipush (v := (-2)) hx hb d_TextFilter_isAbove_7 (by decide) ?_
  refine lv_icmp_eq (tgt := 21) hx hb d_TextFilter_isAbove_9 (by decide) (fun c4 => ?_) (fun c4 => ?_)
  · refine lv_iconst (v := 0) hx hb d_TextFilter_isAbove_21 (by decide) ?_
    exact m_zret hc hr hlk hw ⟨by first | decide | (dsimp only; omega), by first | decide | (dsimp only; omega)⟩ d_TextFilter_isAbove_22 (by decide) ⟨rfl, (bI_f (fun z => z.1 c4)).symm⟩
  · refine lv_iload_n hx hb d_TextFilter_isAbove_12 rfl (lv_at hl 2 rfl) ?_
    refine lv_iload_n hx hb d_TextFilter_isAbove_13 rfl (lv_at hl 0 rfl) ?_
    refine lv_icmp_le (tgt := 21) hx hb d_TextFilter_isAbove_14 (by decide) (fun c5 => ?_) (fun c5 => ?_)
    · refine lv_iconst (v := 0) hx hb d_TextFilter_isAbove_21 (by decide) ?_
      exact m_zret hc hr hlk hw ⟨by first | decide | (dsimp only; omega), by first | decide | (dsimp only; omega)⟩ d_TextFilter_isAbove_22 (by decide) ⟨rfl, (bI_f (fun z => absurd z.2 (Int32.not_lt.mpr c5))).symm⟩
    · refine lv_iconst (v := 1) hx hb d_TextFilter_isAbove_17 (by decide) ?_
      refine lv_goto (tgt := 22) hx hb d_TextFilter_isAbove_18 (by decide) ?_
      exact m_zret hc hr hlk hw ⟨by first | decide | (dsimp only; omega), by first | decide | (dsimp only; omega)⟩ d_TextFilter_isAbove_22 (by decide) ⟨rfl, (bI_t ⟨c4, Int32.not_le.mp c5⟩).symm⟩
