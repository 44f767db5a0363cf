/-! links of the pools, as the walks ask for them -/
theorem cw_SF_52 : cwk "StreamFilters" 52 y_SF_byteAt b_SF_byteAt 3 (some .int) 2 := ⟨Or.inl (tb 176 (by decide +kernel) rfl), (tb 178 (by decide +kernel) rfl), (tb 1 (by decide +kernel) rfl), by decide, by decide, by decide +kernel⟩
theorem ss_SF_byteAt : Cond.static y_SF_byteAt ∈ TB := (tb 177 (by decide +kernel) rfl)
/-! decode rows -/
theorem d_SF_countSigns_0 : decode b_SF_countSigns 0 = .ok (.iconst 0, 1) := by decide +kernel
theorem d_SF_countSigns_1 : decode b_SF_countSigns 1 = .ok (.istore_n 2, 1) := by decide +kernel
theorem d_SF_countSigns_2 : decode b_SF_countSigns 2 = .ok (.bipush 56, 2) := by decide +kernel
theorem d_SF_countSigns_4 : decode b_SF_countSigns 4 = .ok (.istore_n 3, 1) := by decide +kernel
theorem d_SF_countSigns_5 : decode b_SF_countSigns 5 = .ok (.iload_n 3, 1) := by decide +kernel
theorem d_SF_countSigns_6 : decode b_SF_countSigns 6 = .ok (.ifCond .lt 40, 3) := by decide +kernel
theorem d_SF_countSigns_9 : decode b_SF_countSigns 9 = .ok (.lload_n 0, 1) := by decide +kernel
theorem d_SF_countSigns_10 : decode b_SF_countSigns 10 = .ok (.iload_n 3, 1) := by decide +kernel
theorem d_SF_countSigns_11 : decode b_SF_countSigns 11 = .ok (.invokestatic 52, 3) := by decide +kernel
theorem d_SF_countSigns_14 : decode b_SF_countSigns 14 = .ok (.istore 4, 2) := by decide +kernel
theorem d_SF_countSigns_16 : decode b_SF_countSigns 16 = .ok (.iload 4, 2) := by decide +kernel
theorem d_SF_countSigns_18 : decode b_SF_countSigns 18 = .ok (.ifCond .eq 22, 3) := by decide +kernel
theorem d_SF_countSigns_21 : decode b_SF_countSigns 21 = .ok (.iload 4, 2) := by decide +kernel
theorem d_SF_countSigns_23 : decode b_SF_countSigns 23 = .ok (.bipush 33, 2) := by decide +kernel
theorem d_SF_countSigns_25 : decode b_SF_countSigns 25 = .ok (.if_icmp .lt 10, 3) := by decide +kernel
theorem d_SF_countSigns_28 : decode b_SF_countSigns 28 = .ok (.iload 4, 2) := by decide +kernel
theorem d_SF_countSigns_30 : decode b_SF_countSigns 30 = .ok (.bipush 126, 2) := by decide +kernel
theorem d_SF_countSigns_32 : decode b_SF_countSigns 32 = .ok (.if_icmp .le 5, 3) := by decide +kernel
theorem d_SF_countSigns_35 : decode b_SF_countSigns 35 = .ok (.iconst (-1), 1) := by decide +kernel
theorem d_SF_countSigns_36 : decode b_SF_countSigns 36 = .ok (.ireturn, 1) := by decide +kernel
theorem d_SF_countSigns_37 : decode b_SF_countSigns 37 = .ok (.iinc 2 1, 3) := by decide +kernel
theorem d_SF_countSigns_40 : decode b_SF_countSigns 40 = .ok (.iinc 3 (-8), 3) := by decide +kernel
theorem d_SF_countSigns_43 : decode b_SF_countSigns 43 = .ok (.goto (-38), 3) := by decide +kernel
theorem d_SF_countSigns_46 : decode b_SF_countSigns 46 = .ok (.iload_n 2, 1) := by decide +kernel
theorem d_SF_countSigns_47 : decode b_SF_countSigns 47 = .ok (.ireturn, 1) := by decide +kernel
theorem d_SF_byteAt_0 : decode b_SF_byteAt 0 = .ok (.lload_n 0, 1) := by decide +kernel
theorem d_SF_byteAt_1 : decode b_SF_byteAt 1 = .ok (.iload_n 2, 1) := by decide +kernel
theorem d_SF_byteAt_2 : decode b_SF_byteAt 2 = .ok (.lushr, 1) := by decide +kernel
theorem d_SF_byteAt_3 : decode b_SF_byteAt 3 = .ok (.l2i, 1) := by decide +kernel
theorem d_SF_byteAt_4 : decode b_SF_byteAt 4 = .ok (.sipush 255, 3) := by decide +kernel
theorem d_SF_byteAt_7 : decode b_SF_byteAt 7 = .ok (.iand, 1) := by decide +kernel
theorem d_SF_byteAt_8 : decode b_SF_byteAt 8 = .ok (.ireturn, 1) := by decide +kernel
theorem d_SF_isPlace_0 : decode b_SF_isPlace 0 = .ok (.iload_n 0, 1) := by decide +kernel
theorem d_SF_isPlace_1 : decode b_SF_isPlace 1 = .ok (.ifCond .lt 13, 3) := by decide +kernel
theorem d_SF_isPlace_4 : decode b_SF_isPlace 4 = .ok (.iload_n 0, 1) := by decide +kernel
theorem d_SF_isPlace_5 : decode b_SF_isPlace 5 = .ok (.bipush 10, 2) := by decide +kernel
theorem d_SF_isPlace_7 : decode b_SF_isPlace 7 = .ok (.if_icmp .ge 7, 3) := by decide +kernel
theorem d_SF_isPlace_10 : decode b_SF_isPlace 10 = .ok (.iconst 1, 1) := by decide +kernel
theorem d_SF_isPlace_11 : decode b_SF_isPlace 11 = .ok (.goto 4, 3) := by decide +kernel
theorem d_SF_isPlace_14 : decode b_SF_isPlace 14 = .ok (.iconst 0, 1) := by decide +kernel
theorem d_SF_isPlace_15 : decode b_SF_isPlace 15 = .ok (.ireturn, 1) := by decide +kernel
theorem d_SF_isQuestion_0 : decode b_SF_isQuestion 0 = .ok (.iload_n 1, 1) := by decide +kernel
theorem d_SF_isQuestion_1 : decode b_SF_isQuestion 1 = .ok (.ifCond .lt 8, 3) := by decide +kernel
theorem d_SF_isQuestion_4 : decode b_SF_isQuestion 4 = .ok (.iload_n 1, 1) := by decide +kernel
theorem d_SF_isQuestion_5 : decode b_SF_isQuestion 5 = .ok (.iconst 3, 1) := by decide +kernel
theorem d_SF_isQuestion_6 : decode b_SF_isQuestion 6 = .ok (.if_icmp .le 5, 3) := by decide +kernel
theorem d_SF_isQuestion_9 : decode b_SF_isQuestion 9 = .ok (.iconst 0, 1) := by decide +kernel
theorem d_SF_isQuestion_10 : decode b_SF_isQuestion 10 = .ok (.ireturn, 1) := by decide +kernel
theorem d_SF_isQuestion_11 : decode b_SF_isQuestion 11 = .ok (.iload_n 0, 1) := by decide +kernel
theorem d_SF_isQuestion_12 : decode b_SF_isQuestion 12 = .ok (.tableswitch 50 0 2 #[28, 38, 40], 28) := by decide +kernel
theorem d_SF_isQuestion_40 : decode b_SF_isQuestion 40 = .ok (.iload_n 1, 1) := by decide +kernel
theorem d_SF_isQuestion_41 : decode b_SF_isQuestion 41 = .ok (.ifCond .ne 7, 3) := by decide +kernel
theorem d_SF_isQuestion_44 : decode b_SF_isQuestion 44 = .ok (.iconst 1, 1) := by decide +kernel
theorem d_SF_isQuestion_45 : decode b_SF_isQuestion 45 = .ok (.goto 4, 3) := by decide +kernel
theorem d_SF_isQuestion_48 : decode b_SF_isQuestion 48 = .ok (.iconst 0, 1) := by decide +kernel
theorem d_SF_isQuestion_49 : decode b_SF_isQuestion 49 = .ok (.ireturn, 1) := by decide +kernel
theorem d_SF_isQuestion_50 : decode b_SF_isQuestion 50 = .ok (.iconst 1, 1) := by decide +kernel
theorem d_SF_isQuestion_51 : decode b_SF_isQuestion 51 = .ok (.ireturn, 1) := by decide +kernel
theorem d_SF_isQuestion_52 : decode b_SF_isQuestion 52 = .ok (.iload_n 1, 1) := by decide +kernel
theorem d_SF_isQuestion_53 : decode b_SF_isQuestion 53 = .ok (.ifCond .le 7, 3) := by decide +kernel
theorem d_SF_isQuestion_56 : decode b_SF_isQuestion 56 = .ok (.iconst 1, 1) := by decide +kernel
theorem d_SF_isQuestion_57 : decode b_SF_isQuestion 57 = .ok (.goto 4, 3) := by decide +kernel
theorem d_SF_isQuestion_60 : decode b_SF_isQuestion 60 = .ok (.iconst 0, 1) := by decide +kernel
theorem d_SF_isQuestion_61 : decode b_SF_isQuestion 61 = .ok (.ireturn, 1) := by decide +kernel
theorem d_SF_isQuestion_62 : decode b_SF_isQuestion 62 = .ok (.iconst 0, 1) := by decide +kernel
theorem d_SF_isQuestion_63 : decode b_SF_isQuestion 63 = .ok (.ireturn, 1) := by decide +kernel
set_option maxHeartbeats 4000000 in
set_option maxRecDepth 100000 in
/-- isPlace(x) -/
theorem c_SF_isPlace (G : GG) (l : Launch) (sz : Nat) (f : Wd) (x : Int32) : Ci G l y_SF_isPlace b_SF_isPlace 1 (some .boolean) ({ frames := 0, cells := 0, slots := 0, locals := 0 }) sz f [.int x] (fun v f' => f = f' ∧ v = bI (¬ x < 0 ∧ ¬ 10 ≤ x)) := by
  refine ct_of (by decide) (Nat.le_of_ble_eq_true rfl) ?_
  intro p e s m below meth c ls H locs hEn
  obtain ⟨hc, hr, hlk, hin, hE, hw, hsz, hl⟩ := hEn
  have hx := hc.1
  have hb := hc.2.1
  have hl : lv_has ls 1 [(0, .int x)] := hl
  refine lv_iload_n hx hb d_SF_isPlace_0 rfl (lv_at hl 0 rfl) ?_
  refine lv_if_lt (tgt := 14) hx hb d_SF_isPlace_1 (by decide) (fun c1 => ?_) (fun c1 => ?_)
  · refine lv_iconst (v := 0) hx hb d_SF_isPlace_14 (by decide) ?_
    exact m_zret hc hr hlk hw ⟨by first | decide | (dsimp only; omega), by first | decide | (dsimp only; omega)⟩ d_SF_isPlace_15 (by decide) ⟨rfl, (bI_f (fun z => z.1 c1)).symm⟩
  · refine lv_iload_n hx hb d_SF_isPlace_4 rfl (lv_at hl 0 rfl) ?_
    refine lv_bipush (v := 10) hx hb d_SF_isPlace_5 (by decide) ?_
    refine lv_icmp_ge (tgt := 14) hx hb d_SF_isPlace_7 (by decide) (fun c2 => ?_) (fun c2 => ?_)
    · refine lv_iconst (v := 0) hx hb d_SF_isPlace_14 (by decide) ?_
      exact m_zret hc hr hlk hw ⟨by first | decide | (dsimp only; omega), by first | decide | (dsimp only; omega)⟩ d_SF_isPlace_15 (by decide) ⟨rfl, (bI_f (fun z => z.2 c2)).symm⟩
    · refine lv_iconst (v := 1) hx hb d_SF_isPlace_10 (by decide) ?_
      refine lv_goto (tgt := 15) hx hb d_SF_isPlace_11 (by decide) ?_
      exact m_zret hc hr hlk hw ⟨by first | decide | (dsimp only; omega), by first | decide | (dsimp only; omega)⟩ d_SF_isPlace_15 (by decide) ⟨rfl, (bI_t ⟨c1, c2⟩).symm⟩

def isQ (so di : Int32) : Prop := ¬ di < 0 ∧ di ≤ 3 ∧ ((so = 0 ∧ di = 0) ∨ so = 1 ∨ (so = 2 ∧ ¬ di ≤ 0))
set_option maxHeartbeats 4000000 in
set_option maxRecDepth 100000 in
/-- isQuestion(so, di) -/
theorem c_SF_isQuestion (G : GG) (l : Launch) (sz : Nat) (f : Wd) (so di : Int32) : Ci G l y_SF_isQuestion b_SF_isQuestion 2 (some .boolean) ({ frames := 0, cells := 0, slots := 0, locals := 0 }) sz f [.int so, .int di] (fun v f' => f = f' ∧ v = bI (isQ so di)) := by
  refine ct_of (by decide) (Nat.le_of_ble_eq_true rfl) ?_
  intro p e s m below meth c ls H locs hEn
  obtain ⟨hc, hr, hlk, hin, hE, hw, hsz, hl⟩ := hEn
  have hx := hc.1
  have hb := hc.2.1
  have hl : lv_has ls 2 [(0, .int so), (1, .int di)] := hl
  refine lv_iload_n hx hb d_SF_isQuestion_0 rfl (lv_at hl 1 rfl) ?_
  refine lv_if_lt (tgt := 9) hx hb d_SF_isQuestion_1 (by decide) (fun c1 => ?_) (fun c1 => ?_)
  · refine lv_iconst (v := 0) hx hb d_SF_isQuestion_9 (by decide) ?_
    exact m_zret hc hr hlk hw ⟨by first | decide | (dsimp only; omega), by first | decide | (dsimp only; omega)⟩ d_SF_isQuestion_10 (by decide) ⟨rfl, (bI_f (fun z => z.1 c1)).symm⟩
  · refine lv_iload_n hx hb d_SF_isQuestion_4 rfl (lv_at hl 1 rfl) ?_
    refine lv_iconst (v := 3) hx hb d_SF_isQuestion_5 (by decide) ?_
    refine lv_icmp_le (tgt := 11) hx hb d_SF_isQuestion_6 (by decide) (fun c2 => ?_) (fun c2 => ?_)
    · refine lv_iload_n hx hb d_SF_isQuestion_11 rfl (lv_at hl 0 rfl) ?_
      by_cases k3 : so = 0
      · refine lv_tableIn (tgt := 40) hx hb d_SF_isQuestion_12 (off := 28) (by rw [k3]; decide) (by rw [k3]; decide) (by rw [k3] <;> rfl) (by decide) ?_
        refine lv_iload_n hx hb d_SF_isQuestion_40 rfl (lv_at hl 1 rfl) ?_
        refine lv_if_ne (tgt := 48) hx hb d_SF_isQuestion_41 (by decide) (fun c4 => ?_) (fun c4 => ?_)
        · refine lv_iconst (v := 0) hx hb d_SF_isQuestion_48 (by decide) ?_
          exact m_zret hc hr hlk hw ⟨by first | decide | (dsimp only; omega), by first | decide | (dsimp only; omega)⟩ d_SF_isQuestion_49 (by decide) ⟨rfl, (bI_f (fun z => z.2.2.elim (fun y => c4 y.2) (fun y => y.elim (fun y => absurd (k3.symm.trans y) (by decide)) (fun y => absurd (k3.symm.trans y.1) (by decide))))).symm⟩
        · refine lv_iconst (v := 1) hx hb d_SF_isQuestion_44 (by decide) ?_
          refine lv_goto (tgt := 49) hx hb d_SF_isQuestion_45 (by decide) ?_
          exact m_zret hc hr hlk hw ⟨by first | decide | (dsimp only; omega), by first | decide | (dsimp only; omega)⟩ d_SF_isQuestion_49 (by decide) ⟨rfl, (bI_t ⟨c1, c2, Or.inl ⟨k3, c4⟩⟩).symm⟩
      by_cases k5 : so = 1
      · refine lv_tableIn (tgt := 50) hx hb d_SF_isQuestion_12 (off := 38) (by rw [k5]; decide) (by rw [k5]; decide) (by rw [k5] <;> rfl) (by decide) ?_
        refine lv_iconst (v := 1) hx hb d_SF_isQuestion_50 (by decide) ?_
        exact m_zret hc hr hlk hw ⟨by first | decide | (dsimp only; omega), by first | decide | (dsimp only; omega)⟩ d_SF_isQuestion_51 (by decide) ⟨rfl, (bI_t ⟨c1, c2, Or.inr (Or.inl k5)⟩).symm⟩
      by_cases k6 : so = 2
      · refine lv_tableIn (tgt := 52) hx hb d_SF_isQuestion_12 (off := 40) (by rw [k6]; decide) (by rw [k6]; decide) (by rw [k6] <;> rfl) (by decide) ?_
        refine lv_iload_n hx hb d_SF_isQuestion_52 rfl (lv_at hl 1 rfl) ?_
        refine lv_if_le (tgt := 60) hx hb d_SF_isQuestion_53 (by decide) (fun c7 => ?_) (fun c7 => ?_)
        · refine lv_iconst (v := 0) hx hb d_SF_isQuestion_60 (by decide) ?_
          exact m_zret hc hr hlk hw ⟨by first | decide | (dsimp only; omega), by first | decide | (dsimp only; omega)⟩ d_SF_isQuestion_61 (by decide) ⟨rfl, (bI_f (fun z => z.2.2.elim (fun y => absurd (k6.symm.trans y.1) (by decide)) (fun y => y.elim (fun y => absurd (k6.symm.trans y) (by decide)) (fun y => y.2 c7)))).symm⟩
        · refine lv_iconst (v := 1) hx hb d_SF_isQuestion_56 (by decide) ?_
          refine lv_goto (tgt := 61) hx hb d_SF_isQuestion_57 (by decide) ?_
          exact m_zret hc hr hlk hw ⟨by first | decide | (dsimp only; omega), by first | decide | (dsimp only; omega)⟩ d_SF_isQuestion_61 (by decide) ⟨rfl, (bI_t ⟨c1, c2, Or.inr (Or.inr ⟨k6, c7⟩)⟩).symm⟩
      refine lv_tableOut (tgt := 62) hx hb d_SF_isQuestion_12 (by have := lv_neT k3 (show (0 : Int32).toInt = 0 by decide); have := lv_neT k5 (show (1 : Int32).toInt = 1 by decide); have := lv_neT k6 (show (2 : Int32).toInt = 2 by decide); omega) (by decide) ?_
      refine lv_iconst (v := 0) hx hb d_SF_isQuestion_62 (by decide) ?_
      exact m_zret hc hr hlk hw ⟨by first | decide | (dsimp only; omega), by first | decide | (dsimp only; omega)⟩ d_SF_isQuestion_63 (by decide) ⟨rfl, (bI_f (fun z => z.2.2.elim (fun y => k3 y.1) (fun y => y.elim k5 (fun y => k6 y.1)))).symm⟩
    · refine lv_iconst (v := 0) hx hb d_SF_isQuestion_9 (by decide) ?_
      exact m_zret hc hr hlk hw ⟨by first | decide | (dsimp only; omega), by first | decide | (dsimp only; omega)⟩ d_SF_isQuestion_10 (by decide) ⟨rfl, (bI_f (fun z => c2 z.2.1)).symm⟩

set_option maxHeartbeats 4000000 in
set_option maxRecDepth 100000 in
/-- byteAt(sg0, 8 k) -/
theorem c_SF_byteAt (G : GG) (l : Launch) (sz : Nat) (f : Wd) (sg0 : Int64) {k : Nat} (hk : k < 8) : Ci G l y_SF_byteAt b_SF_byteAt 3 (some .int) ({ frames := 0, cells := 0, slots := 0, locals := 0 }) sz f [.long sg0, .int (nI (8 * k))] (fun v f' => f = f' ∧ v = nI (byt sg0 k)) := by
  refine ct_of (by decide) (Nat.le_of_ble_eq_true rfl) ?_
  intro p e s m below meth c ls H locs hEn
  obtain ⟨hc, hr, hlk, hin, hE, hw, hsz, hl⟩ := hEn
  have hx := hc.1
  have hb := hc.2.1
  have hl : lv_has ls 3 [(0, .long sg0), (2, .int (nI (8 * k)))] := hl
  refine lv_lload_n hx hb d_SF_byteAt_0 rfl (lv_at hl 0 rfl) ?_
  refine lv_iload_n hx hb d_SF_byteAt_1 rfl (lv_at hl 1 rfl) ?_
  refine lv_lushr hx hb d_SF_byteAt_2 rfl ?_
  refine lv_l2i hx hb d_SF_byteAt_3 rfl ?_
  refine lv_sipush (v := 255) hx hb d_SF_byteAt_4 (by decide) ?_
  refine lv_iand hx hb d_SF_byteAt_7 ?_
  exact m_iret hc hr hlk hw ⟨by first | decide | (dsimp only; omega), by first | decide | (dsimp only; omega)⟩ d_SF_byteAt_8 ⟨rfl, byt_u sg0 hk⟩

set_option maxHeartbeats 4000000 in
set_option maxRecDepth 100000 in
/-- countSigns(sg0) -/
theorem c_SF_countSigns (G : GG) (l : Launch) (sz : Nat) (f : Wd) (sg0 : Int64) : Ci G l y_SF_countSigns b_SF_countSigns 5 (some .int) ({ frames := 1, cells := 0, slots := 0, locals := 22 }) sz f [.long sg0] (fun v f' => f = f' ∧ v = pif (∀ k, k < 8 → okb (byt sg0 k)) (nI (cnT sg0 8)) (-1)) := by
  refine ct_of (by decide) (Nat.le_of_ble_eq_true rfl) ?_
  intro p e s m below meth c ls H locs hEn
  obtain ⟨hc, hr, hlk, hin, hE, hw, hsz, hl⟩ := hEn
  have hx := hc.1
  have hb := hc.2.1
  have hl : lv_has ls 5 [(0, .long sg0)] := hl
  refine lv_iconst (v := 0) hx hb d_SF_countSigns_0 (by decide) ?_
  refine lv_istore_n (lv' := [(2, .int 0), (0, .long sg0)]) hx hb d_SF_countSigns_1 rfl hl (by decide) rfl (fun ls hl => ?_)
  refine lv_bipush (v := 56) hx hb d_SF_countSigns_2 (by decide) ?_
  refine lv_istore_n (lv' := [(3, .int 56), (2, .int 0), (0, .long sg0)]) hx hb d_SF_countSigns_4 rfl hl (by decide) rfl (fun ls hl => ?_)
  have loop : ∀ (fu : Nat) (m0 : Nat) (ls : Array Slot) (H : Heap) (locs : List Loc), 8 - m0 < fu → m0 ≤ 8 → (∀ k, 8 - m0 ≤ k → k < 8 → okb (byt sg0 k)) → ms G.1 (Af f sz) f s H locs → lv_has ls 5 [(3, .int (shv m0)), (2, .int (nI (cnT sg0 m0))), (0, .long sg0)] → W p l e ({ frames := 1, cells := 0, slots := 0, locals := 22 }) s m ([.long sg0] : List Value).toArray below meth c H locs 0 0 (MQ below (va_Qi (fun v f' => f = f' ∧ v = pif (∀ k, k < 8 → okb (byt sg0 k)) (nI (cnT sg0 8)) (-1)) (Bw G f sz) (Af f sz)) ([.long sg0] : List Value).toArray s 0 0 (Af f sz)) (F0 m 5 ls []) := by
    intro fu
    induction fu with
    | zero => intro m0 ls H locs h0; exact absurd h0 (Nat.not_lt_zero _)
    | succ fu ih =>
      intro m0 ls H locs hfu hm hok hw hl
      have hcn := cnT_le sg0 m0
      refine lv_iload_n hx hb d_SF_countSigns_5 rfl (lv_at hl 0 rfl) ?_
      refine lv_if_lt (tgt := 46) hx hb d_SF_countSigns_6 (by decide) (fun c1 => ?_) (fun c1 => ?_)
      · refine lv_iload_n hx hb d_SF_countSigns_46 rfl (lv_at hl 1 rfl) ?_
        have hm9 : m0 = 8 := by
          rcases Nat.lt_or_ge m0 8 with z | z
          · exact absurd c1 (shv_p m0 z)
          · omega
        subst hm9
        exact m_iret hc hr hlk hw ⟨by first | decide | (dsimp only; omega), by first | decide | (dsimp only; omega)⟩ d_SF_countSigns_47 ⟨rfl, (pif_t (fun k q => hok k (by omega) q)).symm⟩
      · have hm8 : m0 < 8 := by
          rcases Nat.lt_or_ge m0 8 with z | z
          · exact z
          · exact absurd (by rw [show m0 = 8 by omega]; decide) c1
        refine lv_lload_n hx hb d_SF_countSigns_9 rfl (lv_at hl 2 rfl) ?_
        refine lv_iload_n hx hb d_SF_countSigns_10 rfl (lv_at hl 0 rfl) ?_
        refine m_top (y := nI (8 * (7 - m0))) (shv_e m0 hm8) ?_
        refine m_calli hw (m_runS (As := [.long sg0, .int (nI (8 * (7 - m0)))]) (rest := []) hc hE hw (c_SF_byteAt G l H.size f sg0 (k := 7 - m0) (by omega)) cw_SF_52 ss_SF_byteAt rfl hl.1 rfl (Nat.le_of_ble_eq_true rfl) d_SF_countSigns_11 ⟨rfl, rfl, by decide, by decide⟩ ⟨by first | decide | (dsimp only; omega), by first | decide | (dsimp only; omega)⟩) (fun r4 g3 H locs p2 hw => ?_)
        obtain ⟨rfl, p2⟩ := p2
        subst p2
        have hbl := byt_lt sg0 (7 - m0)
        refine lv_istore (lv' := [(4, .int (nI (byt sg0 (7 - m0)))), (3, .int (shv m0)), (2, .int (nI (cnT sg0 m0))), (0, .long sg0)]) hx hb d_SF_countSigns_14 hl (by decide) rfl (fun ls hl => ?_)
        refine lv_iload hx hb d_SF_countSigns_16 (lv_at hl 0 rfl) ?_
        refine lv_if_eq (tgt := 40) hx hb d_SF_countSigns_18 (by decide) (fun c5 => ?_) (fun c5 => ?_)
        · refine lv_iinc (v := (shv (m0 + 1))) (lv' := [(3, .int (shv (m0 + 1))), (4, .int (nI (byt sg0 (7 - m0)))), (2, .int (nI (cnT sg0 m0))), (0, .long sg0)]) hx hb d_SF_countSigns_40 hl (k := 1) rfl (shv_n m0 hm8) (by decide) rfl (fun ls hl => ?_)
          refine lv_goto (tgt := 5) hx hb d_SF_countSigns_43 (by decide) ?_
          have hz : byt sg0 (7 - m0) = 0 := (nI_eq (b := 0) (by omega) (by decide)).mp c5
          have hcc : cnT sg0 (m0 + 1) = cnT sg0 m0 := by show cnT sg0 m0 + (if byt sg0 (7 - m0) = 0 then 0 else 1) = _; rw [if_pos hz]; rfl
          have hb0 : okb (byt sg0 (7 - m0)) := Or.inl hz
          exact ih (m0 + 1) ls H locs (by omega) (by omega) (fun k q1 q2 => by rcases Nat.lt_or_ge k (8 - m0) with z | z; rw [show k = 7 - m0 by omega]; exact hb0; exact hok k z q2) hw (by rw [hcc]; exact (lv_sub hl [0, 2, 3] rfl))
        · refine lv_iload hx hb d_SF_countSigns_21 (lv_at hl 0 rfl) ?_
          refine lv_bipush (v := 33) hx hb d_SF_countSigns_23 (by decide) ?_
          refine lv_icmp_lt (tgt := 35) hx hb d_SF_countSigns_25 (by decide) (fun c6 => ?_) (fun c6 => ?_)
          · refine lv_iconst (v := (-1)) hx hb d_SF_countSigns_35 (by decide) ?_
            have hz : ¬ byt sg0 (7 - m0) = 0 := fun z => c5 (by rw [z]; rfl)
            have hno : ¬ okb (byt sg0 (7 - m0)) := fun z => z.elim hz (fun z => absurd ((nI_ltI (b := 33) (by omega) (by decide)).mp c6) (by omega))
            exact m_iret hc hr hlk hw ⟨by first | decide | (dsimp only; omega), by first | decide | (dsimp only; omega)⟩ d_SF_countSigns_36 ⟨rfl, (pif_f (fun z => hno (z (7 - m0) (by omega)))).symm⟩
          · refine lv_iload hx hb d_SF_countSigns_28 (lv_at hl 0 rfl) ?_
            refine lv_bipush (v := 126) hx hb d_SF_countSigns_30 (by decide) ?_
            refine lv_icmp_le (tgt := 37) hx hb d_SF_countSigns_32 (by decide) (fun c7 => ?_) (fun c7 => ?_)
            · refine lv_iinc (v := (nI ((cnT sg0 m0) + 1))) (lv' := [(2, .int (nI ((cnT sg0 m0) + 1))), (4, .int (nI (byt sg0 (7 - m0)))), (3, .int (shv m0)), (0, .long sg0)]) hx hb d_SF_countSigns_37 hl (k := 2) rfl (nI_1 _) (by decide) rfl (fun ls hl => ?_)
              refine lv_iinc (v := (shv (m0 + 1))) (lv' := [(3, .int (shv (m0 + 1))), (2, .int (nI ((cnT sg0 m0) + 1))), (4, .int (nI (byt sg0 (7 - m0)))), (0, .long sg0)]) hx hb d_SF_countSigns_40 hl (k := 2) rfl (shv_n m0 hm8) (by decide) rfl (fun ls hl => ?_)
              refine lv_goto (tgt := 5) hx hb d_SF_countSigns_43 (by decide) ?_
              have hz : ¬ byt sg0 (7 - m0) = 0 := fun z => c5 (by rw [z]; rfl)
              have hcc : cnT sg0 (m0 + 1) = cnT sg0 m0 + 1 := by show cnT sg0 m0 + (if byt sg0 (7 - m0) = 0 then 0 else 1) = _; rw [if_neg hz]
              have hb0 : okb (byt sg0 (7 - m0)) := Or.inr ⟨Nat.not_lt.mp (fun z => c6 (nI_lt (b := 33) z (by decide))), (nI_leI (b := 126) (by omega) (by decide)).mp c7⟩
              exact ih (m0 + 1) ls H locs (by omega) (by omega) (fun k q1 q2 => by rcases Nat.lt_or_ge k (8 - m0) with z | z; rw [show k = 7 - m0 by omega]; exact hb0; exact hok k z q2) hw (by rw [hcc]; exact (lv_sub hl [0, 1, 3] rfl))
            · refine lv_iconst (v := (-1)) hx hb d_SF_countSigns_35 (by decide) ?_
              have hz : ¬ byt sg0 (7 - m0) = 0 := fun z => c5 (by rw [z]; rfl)
              have hno : ¬ okb (byt sg0 (7 - m0)) := fun z => z.elim hz (fun z => c7 (nI_le (b := 126) z.2 (by decide)))
              exact m_iret hc hr hlk hw ⟨by first | decide | (dsimp only; omega), by first | decide | (dsimp only; omega)⟩ d_SF_countSigns_36 ⟨rfl, (pif_f (fun z => hno (z (7 - m0) (by omega)))).symm⟩
  exact loop 9 0 ls H locs (by decide) (by decide) (fun k q1 q2 => absurd q1 (by omega)) hw (lv_sub hl [0, 1, 2] rfl)
