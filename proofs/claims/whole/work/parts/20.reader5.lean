/-! links of the pools, as the walks ask for them -/
theorem cw_PieceReader_15 : cwk "StreamFilters$PieceReader" 15 y_PieceReader_startOver b_PieceReader_startOver 3 (some .int) 0 := ⟨Or.inl (tb 210 (by decide +kernel) rfl), (tb 213 (by decide +kernel) rfl), (tb 4 (by decide +kernel) rfl), by decide, by decide, by decide +kernel⟩
theorem cw_PieceReader_19 : cwk "StreamFilters$PieceReader" 19 y_PieceReader_readNext b_PieceReader_readNext 2 none 0 := ⟨Or.inl (tb 219 (by decide +kernel) rfl), (tb 222 (by decide +kernel) rfl), (tb 4 (by decide +kernel) rfl), by decide, by decide, by decide +kernel⟩
theorem se_PieceReader_readNext : Cond.instanceMethod y_PieceReader_readNext ∈ TB ∧ Cond.selects "StreamFilters$PieceReader" y_PieceReader_readNext y_PieceReader_readNext ∈ TB := ⟨(tb 221 (by decide +kernel) rfl), (tbs 2 (by decide +kernel) rfl)⟩
theorem se_PieceReader_startOver : Cond.instanceMethod y_PieceReader_startOver ∈ TB ∧ Cond.selects "StreamFilters$PieceReader" y_PieceReader_startOver y_PieceReader_startOver ∈ TB := ⟨(tb 212 (by decide +kernel) rfl), (tbs 1 (by decide +kernel) rfl)⟩
/-! decode rows -/
theorem d_PieceReader_firstBroken_0 : decode b_PieceReader_firstBroken 0 = .ok (.aload_n 0, 1) := by decide +kernel
theorem d_PieceReader_firstBroken_1 : decode b_PieceReader_firstBroken 1 = .ok (.invokevirtual 15, 3) := by decide +kernel
theorem d_PieceReader_firstBroken_4 : decode b_PieceReader_firstBroken 4 = .ok (.istore_n 1, 1) := by decide +kernel
theorem d_PieceReader_firstBroken_5 : decode b_PieceReader_firstBroken 5 = .ok (.iconst 0, 1) := by decide +kernel
theorem d_PieceReader_firstBroken_6 : decode b_PieceReader_firstBroken 6 = .ok (.istore_n 2, 1) := by decide +kernel
theorem d_PieceReader_firstBroken_7 : decode b_PieceReader_firstBroken 7 = .ok (.iload_n 2, 1) := by decide +kernel
theorem d_PieceReader_firstBroken_8 : decode b_PieceReader_firstBroken 8 = .ok (.iload_n 1, 1) := by decide +kernel
theorem d_PieceReader_firstBroken_9 : decode b_PieceReader_firstBroken 9 = .ok (.if_icmp .ge 23, 3) := by decide +kernel
theorem d_PieceReader_firstBroken_12 : decode b_PieceReader_firstBroken 12 = .ok (.aload_n 0, 1) := by decide +kernel
theorem d_PieceReader_firstBroken_13 : decode b_PieceReader_firstBroken 13 = .ok (.invokevirtual 19, 3) := by decide +kernel
theorem d_PieceReader_firstBroken_16 : decode b_PieceReader_firstBroken 16 = .ok (.aload_n 0, 1) := by decide +kernel
theorem d_PieceReader_firstBroken_17 : decode b_PieceReader_firstBroken 17 = .ok (.getfield 22, 3) := by decide +kernel
theorem d_PieceReader_firstBroken_20 : decode b_PieceReader_firstBroken 20 = .ok (.iconst 3, 1) := by decide +kernel
theorem d_PieceReader_firstBroken_21 : decode b_PieceReader_firstBroken 21 = .ok (.if_icmp .ne 5, 3) := by decide +kernel
theorem d_PieceReader_firstBroken_24 : decode b_PieceReader_firstBroken 24 = .ok (.iload_n 2, 1) := by decide +kernel
theorem d_PieceReader_firstBroken_25 : decode b_PieceReader_firstBroken 25 = .ok (.ireturn, 1) := by decide +kernel
theorem d_PieceReader_firstBroken_26 : decode b_PieceReader_firstBroken 26 = .ok (.iinc 2 1, 3) := by decide +kernel
theorem d_PieceReader_firstBroken_29 : decode b_PieceReader_firstBroken 29 = .ok (.goto (-22), 3) := by decide +kernel
theorem d_PieceReader_firstBroken_32 : decode b_PieceReader_firstBroken 32 = .ok (.bipush (-2), 2) := by decide +kernel
theorem d_PieceReader_firstBroken_34 : decode b_PieceReader_firstBroken 34 = .ok (.ireturn, 1) := by decide +kernel
theorem d_PieceReader_countClasses_0 : decode b_PieceReader_countClasses 0 = .ok (.iconst 0, 1) := by decide +kernel
theorem d_PieceReader_countClasses_1 : decode b_PieceReader_countClasses 1 = .ok (.istore_n 1, 1) := by decide +kernel
theorem d_PieceReader_countClasses_2 : decode b_PieceReader_countClasses 2 = .ok (.aload_n 0, 1) := by decide +kernel
theorem d_PieceReader_countClasses_3 : decode b_PieceReader_countClasses 3 = .ok (.invokevirtual 15, 3) := by decide +kernel
theorem d_PieceReader_countClasses_6 : decode b_PieceReader_countClasses 6 = .ok (.istore_n 2, 1) := by decide +kernel
theorem d_PieceReader_countClasses_7 : decode b_PieceReader_countClasses 7 = .ok (.iconst 0, 1) := by decide +kernel
theorem d_PieceReader_countClasses_8 : decode b_PieceReader_countClasses 8 = .ok (.istore_n 3, 1) := by decide +kernel
theorem d_PieceReader_countClasses_9 : decode b_PieceReader_countClasses 9 = .ok (.iload_n 3, 1) := by decide +kernel
theorem d_PieceReader_countClasses_10 : decode b_PieceReader_countClasses 10 = .ok (.iload_n 2, 1) := by decide +kernel
theorem d_PieceReader_countClasses_11 : decode b_PieceReader_countClasses 11 = .ok (.if_icmp .ge 24, 3) := by decide +kernel
theorem d_PieceReader_countClasses_14 : decode b_PieceReader_countClasses 14 = .ok (.aload_n 0, 1) := by decide +kernel
theorem d_PieceReader_countClasses_15 : decode b_PieceReader_countClasses 15 = .ok (.invokevirtual 19, 3) := by decide +kernel
theorem d_PieceReader_countClasses_18 : decode b_PieceReader_countClasses 18 = .ok (.aload_n 0, 1) := by decide +kernel
theorem d_PieceReader_countClasses_19 : decode b_PieceReader_countClasses 19 = .ok (.getfield 22, 3) := by decide +kernel
theorem d_PieceReader_countClasses_22 : decode b_PieceReader_countClasses 22 = .ok (.iconst 2, 1) := by decide +kernel
theorem d_PieceReader_countClasses_23 : decode b_PieceReader_countClasses 23 = .ok (.if_icmp .ne 6, 3) := by decide +kernel
theorem d_PieceReader_countClasses_26 : decode b_PieceReader_countClasses 26 = .ok (.iinc 1 1, 3) := by decide +kernel
theorem d_PieceReader_countClasses_29 : decode b_PieceReader_countClasses 29 = .ok (.iinc 3 1, 3) := by decide +kernel
theorem d_PieceReader_countClasses_32 : decode b_PieceReader_countClasses 32 = .ok (.goto (-23), 3) := by decide +kernel
theorem d_PieceReader_countClasses_35 : decode b_PieceReader_countClasses 35 = .ok (.iload_n 1, 1) := by decide +kernel
theorem d_PieceReader_countClasses_36 : decode b_PieceReader_countClasses 36 = .ok (.ireturn, 1) := by decide +kernel
set_option maxHeartbeats 4000000 in
set_option maxRecDepth 100000 in
/-- firstBroken() -/
theorem c_PieceReader_firstBroken (G : GG) (l : Launch) (sz : Nat) (f : Wd) {ra ta tr cap n : Nat} {t : Nat → Int32} {vfr ven vpi vli vnu vrj vsh vmf vme vnf vne : Int32} (hR : f ra = some (.inr (3, [.ref ta, .int vfr, .int ven, .int vpi, .int vli, .int vnu, .int vrj, .int vsh, .int vmf, .int vme, .int vnf, .int vne]))) (hT : sg G f ta tr cap n t) : Ci G l y_PieceReader_firstBroken b_PieceReader_firstBroken 3 (some .int) ({ frames := 8, cells := 0, slots := 0, locals := 174 }) sz f [.ref ra] (fun v f' => ∃ fr en pi li nu rj sh mf me nf ne : Int32, f' = va_up f ra (some (.inr (3, [.ref ta, .int fr, .int en, .int pi, .int li, .int nu, .int rj, .int sh, .int mf, .int me, .int nf, .int ne]))) ∧ v = fbk t n (npc t n) 0) := by
  refine ct_of (by decide) (Nat.le_of_ble_eq_true rfl) ?_
  intro p e s m below meth c ls H locs hEn
  obtain ⟨hc, hr, hlk, hin, hE, hw, hsz, hl⟩ := hEn
  have hx := hc.1
  have hb := hc.2.1
  have hl : lv_has ls 3 [(0, .ref ra)] := hl
  have hn9 : n ≤ 90 := by have := hT.2.2.1; have := hT.2.2.2.1; omega
  have hnp := npc_le (t := t) n
  refine lv_aload_n hx hb d_PieceReader_firstBroken_0 rfl (lv_at hl 0 rfl) ?_
  refine m_calli hw (m_runV (As := []) (rest := []) hc hE hw (c_PieceReader_startOver G l H.size f hR hT) hR rfl cw_PieceReader_15 se_PieceReader_startOver rfl hl.1 rfl (Nat.le_of_ble_eq_true rfl) d_PieceReader_firstBroken_1 ⟨rfl, rfl, by decide, by decide⟩ ⟨by first | decide | (dsimp only; omega), by first | decide | (dsimp only; omega)⟩) (fun r3 g2 H locs p1 hw => ?_)
  obtain ⟨hfs, p1⟩ := p1
  subst p1
  refine lv_istore_n (lv' := [(1, .int (nI (npc t n))), (0, .ref ra)]) hx hb d_PieceReader_firstBroken_4 rfl hl (by decide) rfl (fun ls hl => ?_)
  refine lv_iconst (v := 0) hx hb d_PieceReader_firstBroken_5 (by decide) ?_
  refine lv_istore_n (lv' := [(2, .int 0), (1, .int (nI (npc t n))), (0, .ref ra)]) hx hb d_PieceReader_firstBroken_6 rfl hl (by decide) rfl (fun ls hl => ?_)
  have loop : ∀ (fu : Nat) (i : Nat) (fw : Wd) (fr en pi li nu rj sh mf me nf ne : Int32) (ls : Array Slot) (H : Heap) (locs : List Loc), npc t n - i < fu → i ≤ npc t n → fw = va_up f ra (some (.inr (3, [.ref ta, .int fr, .int en, .int pi, .int li, .int nu, .int rj, .int sh, .int mf, .int me, .int nf, .int ne]))) → (i < npc t n → en + 1 = nI (pst t n i)) → fbk t n (npc t n) 0 = fbk t n (npc t n - i) i → ms G.1 (Af f sz) fw s H locs → lv_has ls 3 [(2, .int (nI i)), (1, .int (nI (npc t n))), (0, .ref ra)] → W p l e ({ frames := 8, cells := 0, slots := 0, locals := 174 }) s m ([.ref ra] : List Value).toArray below meth c H locs 0 0 (MQ below (va_Qi (fun v f' => ∃ fr en pi li nu rj sh mf me nf ne : Int32, f' = va_up f ra (some (.inr (3, [.ref ta, .int fr, .int en, .int pi, .int li, .int nu, .int rj, .int sh, .int mf, .int me, .int nf, .int ne]))) ∧ v = fbk t n (npc t n) 0) (Bw G f sz) (Af f sz)) ([.ref ra] : List Value).toArray s 0 0 (Af f sz)) (F0 m 7 ls []) := by
    intro fu
    induction fu with
    | zero => intro i fw fr en pi li nu rj sh mf me nf ne ls H locs h0; exact absurd h0 (Nat.not_lt_zero _)
    | succ fu ih =>
      intro i fw fr en pi li nu rj sh mf me nf ne ls H locs hfu hi hfw hen hres hw hl
      have hwr : fw ra = some (.inr (3, [.ref ta, .int fr, .int en, .int pi, .int li, .int nu, .int rj, .int sh, .int mf, .int me, .int nf, .int ne])) := by rw [hfw, va_up_self]
      have hwT : sg G fw ta tr cap n t := by rw [hfw]; exact sg_up hT hR wd_x
      refine lv_iload_n hx hb d_PieceReader_firstBroken_7 rfl (lv_at hl 0 rfl) ?_
      refine lv_iload_n hx hb d_PieceReader_firstBroken_8 rfl (lv_at hl 1 rfl) ?_
      refine lv_icmp_ge (tgt := 32) hx hb d_PieceReader_firstBroken_9 (by decide) (fun c4 => ?_) (fun c4 => ?_)
      · refine lv_bipush (v := (-2)) hx hb d_PieceReader_firstBroken_32 (by decide) ?_
        have hin2 : i = npc t n := by have := (nI_leI (by omega) (by omega)).mp c4; omega
        exact m_iret hc hr hlk hw ⟨by first | decide | (dsimp only; omega), by first | decide | (dsimp only; omega)⟩ d_PieceReader_firstBroken_34 ⟨fr, en, pi, li, nu, rj, sh, mf, me, nf, ne, hfw, by rw [hres, hin2, Nat.sub_self]; rfl⟩
      · refine lv_aload_n hx hb d_PieceReader_firstBroken_12 rfl (lv_at hl 2 rfl) ?_
        have hlt : i < npc t n := Nat.not_le.mp (fun z => c4 (nI_le z (by omega)))
        have hps := pst_in (t := t) i hlt
        refine m_callv hw (m_runV (As := []) (rest := []) hc hE hw (c_PieceReader_readNext G l H.size fw hwr hwT (a := pst t n i) (hen hlt) hps.1) hwr rfl cw_PieceReader_19 se_PieceReader_readNext rfl hl.1 rfl (Nat.le_of_ble_eq_true rfl) d_PieceReader_firstBroken_13 ⟨rfl, rfl, by decide, by decide⟩ ⟨by first | decide | (dsimp only; omega), by first | decide | (dsimp only; omega)⟩) (fun g6 H locs p5 hw => ?_)
        obtain ⟨li2, nu2, rj2, sh2, mf2, me2, nf2, ne2, hfe, hp1, hp2⟩ := p5
        have g6_r : g6 ra = some (.inr (3, [.ref ta, .int (nI (pst t n i)), .int (nI (pnx t n (pst t n i))), .int (nI (pk t n i)), .int li2, .int nu2, .int rj2, .int sh2, .int mf2, .int me2, .int nf2, .int ne2])) := by rw [hfe, va_up_self]; rfl
        refine lv_aload_n hx hb d_PieceReader_firstBroken_16 rfl (lv_at hl 2 rfl) ?_
        refine m_get hc hE hw g6_r kc_PieceReader l_PieceReader_22_PieceReader rfl d_PieceReader_firstBroken_17 ?_
        refine lv_iconst (v := 3) hx hb d_PieceReader_firstBroken_20 (by decide) ?_
        refine lv_icmp_ne (tgt := 26) hx hb d_PieceReader_firstBroken_21 (by decide) (fun c7 => ?_) (fun c7 => ?_)
        · refine lv_iinc (v := (nI (i + 1))) (lv' := [(2, .int (nI (i + 1))), (1, .int (nI (npc t n))), (0, .ref ra)]) hx hb d_PieceReader_firstBroken_26 hl (k := 0) rfl (nI_1 _) (by decide) rfl (fun ls hl => ?_)
          refine lv_goto (tgt := 7) hx hb d_PieceReader_firstBroken_29 (by decide) ?_
          have hnx : nI (pnx t n (pst t n i)) + 1 = nI (pst t n (i + 1)) := nI_1 _
          have hpk : ¬ pk t n i = 3 := fun z => c7 (by rw [z]; rfl)
          exact ih (i + 1) g6 _ _ _ _ _ _ _ _ _ _ _ ls H locs (by omega) (by omega) (by rw [hfe, hfw, up_uu]) (fun _ => hnx) (by rw [hres, show npc t n - i = (npc t n - (i + 1)) + 1 by omega]; exact pif_f hpk) hw (lv_sub hl [0, 1, 2] rfl)
        · refine lv_iload_n hx hb d_PieceReader_firstBroken_24 rfl (lv_at hl 0 rfl) ?_
          have hpk : pk t n i = 3 := (nI_eq (b := 3) (by have : pk t n i ≤ 3 := pkd_in t _ _; omega) (by decide)).mp c7
          exact m_iret hc hr hlk hw ⟨by first | decide | (dsimp only; omega), by first | decide | (dsimp only; omega)⟩ d_PieceReader_firstBroken_25 ⟨_, _, _, _, _, _, _, _, _, _, _, by rw [hfe, hfw, up_uu], by rw [hres, show npc t n - i = (npc t n - i - 1) + 1 by omega]; exact (pif_t hpk).symm⟩
  exact loop (npc t n + 1) 0 g2 _ _ _ _ _ _ _ _ _ _ _ ls H locs (by omega) (Nat.zero_le _) hfs (fun _ => (by decide : (-1 : Int32) + 1 = nI 0)) rfl hw (lv_sub hl [0, 1, 2] rfl)

set_option maxHeartbeats 4000000 in
set_option maxRecDepth 100000 in
/-- countClasses() -/
theorem c_PieceReader_countClasses (G : GG) (l : Launch) (sz : Nat) (f : Wd) {ra ta tr cap n : Nat} {t : Nat → Int32} {vfr ven vpi vli vnu vrj vsh vmf vme vnf vne : Int32} (hR : f ra = some (.inr (3, [.ref ta, .int vfr, .int ven, .int vpi, .int vli, .int vnu, .int vrj, .int vsh, .int vmf, .int vme, .int vnf, .int vne]))) (hT : sg G f ta tr cap n t) : Ci G l y_PieceReader_countClasses b_PieceReader_countClasses 4 (some .int) ({ frames := 8, cells := 0, slots := 0, locals := 174 }) sz f [.ref ra] (fun v f' => ∃ fr en pi li nu rj sh mf me nf ne : Int32, f' = va_up f ra (some (.inr (3, [.ref ta, .int fr, .int en, .int pi, .int li, .int nu, .int rj, .int sh, .int mf, .int me, .int nf, .int ne]))) ∧ v = nI (clsU t n (npc t n)).length) := by
  refine ct_of (by decide) (Nat.le_of_ble_eq_true rfl) ?_
  intro p e s m below meth c ls H locs hEn
  obtain ⟨hc, hr, hlk, hin, hE, hw, hsz, hl⟩ := hEn
  have hx := hc.1
  have hb := hc.2.1
  have hl : lv_has ls 4 [(0, .ref ra)] := hl
  have hn9 : n ≤ 90 := by have := hT.2.2.1; have := hT.2.2.2.1; omega
  have hnp := npc_le (t := t) n
  refine lv_iconst (v := 0) hx hb d_PieceReader_countClasses_0 (by decide) ?_
  refine lv_istore_n (lv' := [(1, .int 0), (0, .ref ra)]) hx hb d_PieceReader_countClasses_1 rfl hl (by decide) rfl (fun ls hl => ?_)
  refine lv_aload_n hx hb d_PieceReader_countClasses_2 rfl (lv_at hl 1 rfl) ?_
  refine m_calli hw (m_runV (As := []) (rest := []) hc hE hw (c_PieceReader_startOver G l H.size f hR hT) hR rfl cw_PieceReader_15 se_PieceReader_startOver rfl hl.1 rfl (Nat.le_of_ble_eq_true rfl) d_PieceReader_countClasses_3 ⟨rfl, rfl, by decide, by decide⟩ ⟨by first | decide | (dsimp only; omega), by first | decide | (dsimp only; omega)⟩) (fun r3 g2 H locs p1 hw => ?_)
  obtain ⟨hfs, p1⟩ := p1
  subst p1
  refine lv_istore_n (lv' := [(2, .int (nI (npc t n))), (1, .int 0), (0, .ref ra)]) hx hb d_PieceReader_countClasses_6 rfl hl (by decide) rfl (fun ls hl => ?_)
  refine lv_iconst (v := 0) hx hb d_PieceReader_countClasses_7 (by decide) ?_
  refine lv_istore_n (lv' := [(3, .int 0), (2, .int (nI (npc t n))), (1, .int 0), (0, .ref ra)]) hx hb d_PieceReader_countClasses_8 rfl hl (by decide) rfl (fun ls hl => ?_)
  have loop : ∀ (fu : Nat) (i : Nat) (fw : Wd) (fr en pi li nu rj sh mf me nf ne : Int32) (ls : Array Slot) (H : Heap) (locs : List Loc), npc t n - i < fu → i ≤ npc t n → fw = va_up f ra (some (.inr (3, [.ref ta, .int fr, .int en, .int pi, .int li, .int nu, .int rj, .int sh, .int mf, .int me, .int nf, .int ne]))) → (i < npc t n → en + 1 = nI (pst t n i)) → ms G.1 (Af f sz) fw s H locs → lv_has ls 4 [(3, .int (nI i)), (2, .int (nI (npc t n))), (1, .int (nI (clsU t n i).length)), (0, .ref ra)] → W p l e ({ frames := 8, cells := 0, slots := 0, locals := 174 }) s m ([.ref ra] : List Value).toArray below meth c H locs 0 0 (MQ below (va_Qi (fun v f' => ∃ fr en pi li nu rj sh mf me nf ne : Int32, f' = va_up f ra (some (.inr (3, [.ref ta, .int fr, .int en, .int pi, .int li, .int nu, .int rj, .int sh, .int mf, .int me, .int nf, .int ne]))) ∧ v = nI (clsU t n (npc t n)).length) (Bw G f sz) (Af f sz)) ([.ref ra] : List Value).toArray s 0 0 (Af f sz)) (F0 m 9 ls []) := by
    intro fu
    induction fu with
    | zero => intro i fw fr en pi li nu rj sh mf me nf ne ls H locs h0; exact absurd h0 (Nat.not_lt_zero _)
    | succ fu ih =>
      intro i fw fr en pi li nu rj sh mf me nf ne ls H locs hfu hi hfw hen hw hl
      have hwr : fw ra = some (.inr (3, [.ref ta, .int fr, .int en, .int pi, .int li, .int nu, .int rj, .int sh, .int mf, .int me, .int nf, .int ne])) := by rw [hfw, va_up_self]
      have hwT : sg G fw ta tr cap n t := by rw [hfw]; exact sg_up hT hR wd_x
      refine lv_iload_n hx hb d_PieceReader_countClasses_9 rfl (lv_at hl 0 rfl) ?_
      refine lv_iload_n hx hb d_PieceReader_countClasses_10 rfl (lv_at hl 1 rfl) ?_
      refine lv_icmp_ge (tgt := 35) hx hb d_PieceReader_countClasses_11 (by decide) (fun c4 => ?_) (fun c4 => ?_)
      · refine lv_iload_n hx hb d_PieceReader_countClasses_35 rfl (lv_at hl 2 rfl) ?_
        have hin2 : i = npc t n := by have := (nI_leI (by omega) (by omega)).mp c4; omega
        exact m_iret hc hr hlk hw ⟨by first | decide | (dsimp only; omega), by first | decide | (dsimp only; omega)⟩ d_PieceReader_countClasses_36 ⟨fr, en, pi, li, nu, rj, sh, mf, me, nf, ne, hfw, by rw [hin2]⟩
      · refine lv_aload_n hx hb d_PieceReader_countClasses_14 rfl (lv_at hl 3 rfl) ?_
        have hlt : i < npc t n := Nat.not_le.mp (fun z => c4 (nI_le z (by omega)))
        have hps := pst_in (t := t) i hlt
        refine m_callv hw (m_runV (As := []) (rest := []) hc hE hw (c_PieceReader_readNext G l H.size fw hwr hwT (a := pst t n i) (hen hlt) hps.1) hwr rfl cw_PieceReader_19 se_PieceReader_readNext rfl hl.1 rfl (Nat.le_of_ble_eq_true rfl) d_PieceReader_countClasses_15 ⟨rfl, rfl, by decide, by decide⟩ ⟨by first | decide | (dsimp only; omega), by first | decide | (dsimp only; omega)⟩) (fun g6 H locs p5 hw => ?_)
        obtain ⟨li2, nu2, rj2, sh2, mf2, me2, nf2, ne2, hfe, hp1, hp2⟩ := p5
        have g6_r : g6 ra = some (.inr (3, [.ref ta, .int (nI (pst t n i)), .int (nI (pnx t n (pst t n i))), .int (nI (pk t n i)), .int li2, .int nu2, .int rj2, .int sh2, .int mf2, .int me2, .int nf2, .int ne2])) := by rw [hfe, va_up_self]; rfl
        refine lv_aload_n hx hb d_PieceReader_countClasses_18 rfl (lv_at hl 3 rfl) ?_
        refine m_get hc hE hw g6_r kc_PieceReader l_PieceReader_22_PieceReader rfl d_PieceReader_countClasses_19 ?_
        refine lv_iconst (v := 2) hx hb d_PieceReader_countClasses_22 (by decide) ?_
        refine lv_icmp_ne (tgt := 29) hx hb d_PieceReader_countClasses_23 (by decide) (fun c7 => ?_) (fun c7 => ?_)
        · refine lv_iinc (v := (nI (i + 1))) (lv' := [(3, .int (nI (i + 1))), (2, .int (nI (npc t n))), (1, .int (nI (clsU t n i).length)), (0, .ref ra)]) hx hb d_PieceReader_countClasses_29 hl (k := 0) rfl (nI_1 _) (by decide) rfl (fun ls hl => ?_)
          refine lv_goto (tgt := 9) hx hb d_PieceReader_countClasses_32 (by decide) ?_
          have hnx : nI (pnx t n (pst t n i)) + 1 = nI (pst t n (i + 1)) := nI_1 _
          have hpk : ¬ pk t n i = 2 := fun z => c7 (by rw [z]; rfl)
          have hcl : (clsU t n (i + 1)).length = (clsU t n i).length := congrArg List.length (pif_f hpk)
          exact ih (i + 1) g6 _ _ _ _ _ _ _ _ _ _ _ ls H locs (by omega) (by omega) (by rw [hfe, hfw, up_uu]) (fun _ => hnx) hw (by rw [hcl]; exact (lv_sub hl [0, 1, 2, 3] rfl))
        · refine lv_iinc (v := (nI ((clsU t n i).length + 1))) (lv' := [(1, .int (nI ((clsU t n i).length + 1))), (3, .int (nI i)), (2, .int (nI (npc t n))), (0, .ref ra)]) hx hb d_PieceReader_countClasses_26 hl (k := 2) rfl (nI_1 _) (by decide) rfl (fun ls hl => ?_)
          refine lv_iinc (v := (nI (i + 1))) (lv' := [(3, .int (nI (i + 1))), (1, .int (nI ((clsU t n i).length + 1))), (2, .int (nI (npc t n))), (0, .ref ra)]) hx hb d_PieceReader_countClasses_29 hl (k := 1) rfl (nI_1 _) (by decide) rfl (fun ls hl => ?_)
          refine lv_goto (tgt := 9) hx hb d_PieceReader_countClasses_32 (by decide) ?_
          have hnx : nI (pnx t n (pst t n i)) + 1 = nI (pst t n (i + 1)) := nI_1 _
          have hpk : pk t n i = 2 := (nI_eq (b := 2) (by have : pk t n i ≤ 3 := pkd_in t _ _; omega) (by decide)).mp c7
          have hcl : (clsU t n (i + 1)).length = (clsU t n i).length + 1 := (congrArg List.length (pif_t hpk)).trans (by rw [List.length_append]; rfl)
          exact ih (i + 1) g6 _ _ _ _ _ _ _ _ _ _ _ ls H locs (by omega) (by omega) (by rw [hfe, hfw, up_uu]) (fun _ => hnx) hw (by rw [hcl]; exact (lv_sub hl [0, 2, 1, 3] rfl))
  exact loop (npc t n + 1) 0 g2 _ _ _ _ _ _ _ _ _ _ _ ls H locs (by omega) (Nat.zero_le _) hfs (fun _ => (by decide : (-1 : Int32) + 1 = nI 0)) hw (lv_sub hl [0, 1, 2, 3] rfl)
