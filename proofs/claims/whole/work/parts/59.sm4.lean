/-! links of the pools, as the walks ask for them -/
theorem l_SM_28_SM : lnk "StreamFiltersModel" 28 F_SM 38 10 := ⟨by decide, "StreamFiltersModel", Or.inl rfl, Or.inl (tb 624 (by decide +kernel) rfl)⟩
theorem l_SM_31_SM : lnk "StreamFiltersModel" 31 F_SM 38 11 := ⟨by decide, "StreamFiltersModel", Or.inl rfl, Or.inl (tb 625 (by decide +kernel) rfl)⟩
theorem cw_SM_133 : cwk "StreamFiltersModel" 133 y_SM_piece b_SM_piece 7 (some .int) 2 := ⟨Or.inl (tb 757 (by decide +kernel) rfl), (tb 760 (by decide +kernel) rfl), (tb 5 (by decide +kernel) rfl), by decide, by decide, by decide +kernel⟩
theorem cw_SM_166 : cwk "StreamFiltersModel" 166 y_SM_limit b_SM_limit 7 (some .int) 2 := ⟨Or.inl (tb 837 (by decide +kernel) rfl), (tb 840 (by decide +kernel) rfl), (tb 5 (by decide +kernel) rfl), by decide, by decide, by decide +kernel⟩
theorem se_SM_limit : Cond.instanceMethod y_SM_limit ∈ TB ∧ Cond.selects "StreamFiltersModel" y_SM_limit y_SM_limit ∈ TB := ⟨(tb 839 (by decide +kernel) rfl), (tbs 29 (by decide +kernel) rfl)⟩
theorem se_SM_piece : Cond.instanceMethod y_SM_piece ∈ TB ∧ Cond.selects "StreamFiltersModel" y_SM_piece y_SM_piece ∈ TB := ⟨(tb 759 (by decide +kernel) rfl), (tbs 18 (by decide +kernel) rfl)⟩
/-! decode rows -/
theorem d_SM_firstBad_0 : decode b_SM_firstBad 0 = .ok (.iconst 0, 1) := by decide +kernel
theorem d_SM_firstBad_1 : decode b_SM_firstBad 1 = .ok (.istore_n 3, 1) := by decide +kernel
theorem d_SM_firstBad_2 : decode b_SM_firstBad 2 = .ok (.iload_n 1, 1) := by decide +kernel
theorem d_SM_firstBad_3 : decode b_SM_firstBad 3 = .ok (.istore 4, 2) := by decide +kernel
theorem d_SM_firstBad_5 : decode b_SM_firstBad 5 = .ok (.iload 4, 2) := by decide +kernel
theorem d_SM_firstBad_7 : decode b_SM_firstBad 7 = .ok (.iload_n 2, 1) := by decide +kernel
theorem d_SM_firstBad_8 : decode b_SM_firstBad 8 = .ok (.if_icmp .gt 30, 3) := by decide +kernel
theorem d_SM_firstBad_11 : decode b_SM_firstBad 11 = .ok (.aload_n 0, 1) := by decide +kernel
theorem d_SM_firstBad_12 : decode b_SM_firstBad 12 = .ok (.iload 4, 2) := by decide +kernel
theorem d_SM_firstBad_14 : decode b_SM_firstBad 14 = .ok (.iload_n 2, 1) := by decide +kernel
theorem d_SM_firstBad_15 : decode b_SM_firstBad 15 = .ok (.invokevirtual 133, 3) := by decide +kernel
theorem d_SM_firstBad_18 : decode b_SM_firstBad 18 = .ok (.iconst 3, 1) := by decide +kernel
theorem d_SM_firstBad_19 : decode b_SM_firstBad 19 = .ok (.if_icmp .ne 5, 3) := by decide +kernel
theorem d_SM_firstBad_22 : decode b_SM_firstBad 22 = .ok (.iload_n 3, 1) := by decide +kernel
theorem d_SM_firstBad_23 : decode b_SM_firstBad 23 = .ok (.ireturn, 1) := by decide +kernel
theorem d_SM_firstBad_24 : decode b_SM_firstBad 24 = .ok (.aload_n 0, 1) := by decide +kernel
theorem d_SM_firstBad_25 : decode b_SM_firstBad 25 = .ok (.getfield 108, 3) := by decide +kernel
theorem d_SM_firstBad_28 : decode b_SM_firstBad 28 = .ok (.iconst 1, 1) := by decide +kernel
theorem d_SM_firstBad_29 : decode b_SM_firstBad 29 = .ok (.iadd, 1) := by decide +kernel
theorem d_SM_firstBad_30 : decode b_SM_firstBad 30 = .ok (.istore 4, 2) := by decide +kernel
theorem d_SM_firstBad_32 : decode b_SM_firstBad 32 = .ok (.iinc 3 1, 3) := by decide +kernel
theorem d_SM_firstBad_35 : decode b_SM_firstBad 35 = .ok (.goto (-30), 3) := by decide +kernel
theorem d_SM_firstBad_38 : decode b_SM_firstBad 38 = .ok (.bipush (-2), 2) := by decide +kernel
theorem d_SM_firstBad_40 : decode b_SM_firstBad 40 = .ok (.ireturn, 1) := by decide +kernel
theorem d_SM_patterns_0 : decode b_SM_patterns 0 = .ok (.iconst 0, 1) := by decide +kernel
theorem d_SM_patterns_1 : decode b_SM_patterns 1 = .ok (.istore_n 2, 1) := by decide +kernel
theorem d_SM_patterns_2 : decode b_SM_patterns 2 = .ok (.aload_n 0, 1) := by decide +kernel
theorem d_SM_patterns_3 : decode b_SM_patterns 3 = .ok (.getfield 28, 3) := by decide +kernel
theorem d_SM_patterns_6 : decode b_SM_patterns 6 = .ok (.iload_n 1, 1) := by decide +kernel
theorem d_SM_patterns_7 : decode b_SM_patterns 7 = .ok (.iaload, 1) := by decide +kernel
theorem d_SM_patterns_8 : decode b_SM_patterns 8 = .ok (.aload_n 0, 1) := by decide +kernel
theorem d_SM_patterns_9 : decode b_SM_patterns 9 = .ok (.getfield 31, 3) := by decide +kernel
theorem d_SM_patterns_12 : decode b_SM_patterns 12 = .ok (.iload_n 1, 1) := by decide +kernel
theorem d_SM_patterns_13 : decode b_SM_patterns 13 = .ok (.iaload, 1) := by decide +kernel
theorem d_SM_patterns_14 : decode b_SM_patterns 14 = .ok (.iadd, 1) := by decide +kernel
theorem d_SM_patterns_15 : decode b_SM_patterns 15 = .ok (.istore_n 3, 1) := by decide +kernel
theorem d_SM_patterns_16 : decode b_SM_patterns 16 = .ok (.aload_n 0, 1) := by decide +kernel
theorem d_SM_patterns_17 : decode b_SM_patterns 17 = .ok (.getfield 28, 3) := by decide +kernel
theorem d_SM_patterns_20 : decode b_SM_patterns 20 = .ok (.iload_n 1, 1) := by decide +kernel
theorem d_SM_patterns_21 : decode b_SM_patterns 21 = .ok (.iaload, 1) := by decide +kernel
theorem d_SM_patterns_22 : decode b_SM_patterns 22 = .ok (.istore 4, 2) := by decide +kernel
theorem d_SM_patterns_24 : decode b_SM_patterns 24 = .ok (.iload 4, 2) := by decide +kernel
theorem d_SM_patterns_26 : decode b_SM_patterns 26 = .ok (.iload_n 3, 1) := by decide +kernel
theorem d_SM_patterns_27 : decode b_SM_patterns 27 = .ok (.if_icmp .gt 33, 3) := by decide +kernel
theorem d_SM_patterns_30 : decode b_SM_patterns 30 = .ok (.iload_n 2, 1) := by decide +kernel
theorem d_SM_patterns_31 : decode b_SM_patterns 31 = .ok (.aload_n 0, 1) := by decide +kernel
theorem d_SM_patterns_32 : decode b_SM_patterns 32 = .ok (.iload 4, 2) := by decide +kernel
theorem d_SM_patterns_34 : decode b_SM_patterns 34 = .ok (.iload_n 3, 1) := by decide +kernel
theorem d_SM_patterns_35 : decode b_SM_patterns 35 = .ok (.invokevirtual 133, 3) := by decide +kernel
theorem d_SM_patterns_38 : decode b_SM_patterns 38 = .ok (.iconst 2, 1) := by decide +kernel
theorem d_SM_patterns_39 : decode b_SM_patterns 39 = .ok (.if_icmp .ne 7, 3) := by decide +kernel
theorem d_SM_patterns_42 : decode b_SM_patterns 42 = .ok (.iconst 1, 1) := by decide +kernel
theorem d_SM_patterns_43 : decode b_SM_patterns 43 = .ok (.goto 4, 3) := by decide +kernel
theorem d_SM_patterns_46 : decode b_SM_patterns 46 = .ok (.iconst 0, 1) := by decide +kernel
theorem d_SM_patterns_47 : decode b_SM_patterns 47 = .ok (.iadd, 1) := by decide +kernel
theorem d_SM_patterns_48 : decode b_SM_patterns 48 = .ok (.istore_n 2, 1) := by decide +kernel
theorem d_SM_patterns_49 : decode b_SM_patterns 49 = .ok (.aload_n 0, 1) := by decide +kernel
theorem d_SM_patterns_50 : decode b_SM_patterns 50 = .ok (.getfield 108, 3) := by decide +kernel
theorem d_SM_patterns_53 : decode b_SM_patterns 53 = .ok (.iconst 1, 1) := by decide +kernel
theorem d_SM_patterns_54 : decode b_SM_patterns 54 = .ok (.iadd, 1) := by decide +kernel
theorem d_SM_patterns_55 : decode b_SM_patterns 55 = .ok (.istore 4, 2) := by decide +kernel
theorem d_SM_patterns_57 : decode b_SM_patterns 57 = .ok (.goto (-33), 3) := by decide +kernel
theorem d_SM_patterns_60 : decode b_SM_patterns 60 = .ok (.iload_n 2, 1) := by decide +kernel
theorem d_SM_patterns_61 : decode b_SM_patterns 61 = .ok (.ireturn, 1) := by decide +kernel
theorem d_SM_above_0 : decode b_SM_above 0 = .ok (.aload_n 0, 1) := by decide +kernel
theorem d_SM_above_1 : decode b_SM_above 1 = .ok (.iload_n 1, 1) := by decide +kernel
theorem d_SM_above_2 : decode b_SM_above 2 = .ok (.iload_n 2, 1) := by decide +kernel
theorem d_SM_above_3 : decode b_SM_above 3 = .ok (.invokevirtual 166, 3) := by decide +kernel
theorem d_SM_above_6 : decode b_SM_above 6 = .ok (.istore 4, 2) := by decide +kernel
theorem d_SM_above_8 : decode b_SM_above 8 = .ok (.iload 4, 2) := by decide +kernel
theorem d_SM_above_10 : decode b_SM_above 10 = .ok (.bipush (-2), 2) := by decide +kernel
theorem d_SM_above_12 : decode b_SM_above 12 = .ok (.if_icmp .eq 13, 3) := by decide +kernel
theorem d_SM_above_15 : decode b_SM_above 15 = .ok (.iload_n 3, 1) := by decide +kernel
theorem d_SM_above_16 : decode b_SM_above 16 = .ok (.iload 4, 2) := by decide +kernel
theorem d_SM_above_18 : decode b_SM_above 18 = .ok (.if_icmp .le 7, 3) := by decide +kernel
theorem d_SM_above_21 : decode b_SM_above 21 = .ok (.iconst 1, 1) := by decide +kernel
theorem d_SM_above_22 : decode b_SM_above 22 = .ok (.goto 4, 3) := by decide +kernel
theorem d_SM_above_25 : decode b_SM_above 25 = .ok (.iconst 0, 1) := by decide +kernel
theorem d_SM_above_26 : decode b_SM_above 26 = .ok (.ireturn, 1) := by decide +kernel
theorem d_SM_limit_0 : decode b_SM_limit 0 = .ok (.bipush (-2), 2) := by decide +kernel
theorem d_SM_limit_2 : decode b_SM_limit 2 = .ok (.istore_n 3, 1) := by decide +kernel
theorem d_SM_limit_3 : decode b_SM_limit 3 = .ok (.aload_n 0, 1) := by decide +kernel
theorem d_SM_limit_4 : decode b_SM_limit 4 = .ok (.getfield 28, 3) := by decide +kernel
theorem d_SM_limit_7 : decode b_SM_limit 7 = .ok (.iload_n 1, 1) := by decide +kernel
theorem d_SM_limit_8 : decode b_SM_limit 8 = .ok (.iaload, 1) := by decide +kernel
theorem d_SM_limit_9 : decode b_SM_limit 9 = .ok (.aload_n 0, 1) := by decide +kernel
theorem d_SM_limit_10 : decode b_SM_limit 10 = .ok (.getfield 31, 3) := by decide +kernel
theorem d_SM_limit_13 : decode b_SM_limit 13 = .ok (.iload_n 1, 1) := by decide +kernel
theorem d_SM_limit_14 : decode b_SM_limit 14 = .ok (.iaload, 1) := by decide +kernel
theorem d_SM_limit_15 : decode b_SM_limit 15 = .ok (.iadd, 1) := by decide +kernel
theorem d_SM_limit_16 : decode b_SM_limit 16 = .ok (.istore 4, 2) := by decide +kernel
theorem d_SM_limit_18 : decode b_SM_limit 18 = .ok (.aload_n 0, 1) := by decide +kernel
theorem d_SM_limit_19 : decode b_SM_limit 19 = .ok (.getfield 28, 3) := by decide +kernel
theorem d_SM_limit_22 : decode b_SM_limit 22 = .ok (.iload_n 1, 1) := by decide +kernel
theorem d_SM_limit_23 : decode b_SM_limit 23 = .ok (.iaload, 1) := by decide +kernel
theorem d_SM_limit_24 : decode b_SM_limit 24 = .ok (.istore 5, 2) := by decide +kernel
theorem d_SM_limit_26 : decode b_SM_limit 26 = .ok (.iload 5, 2) := by decide +kernel
theorem d_SM_limit_28 : decode b_SM_limit 28 = .ok (.iload 4, 2) := by decide +kernel
theorem d_SM_limit_30 : decode b_SM_limit 30 = .ok (.if_icmp .gt 43, 3) := by decide +kernel
theorem d_SM_limit_33 : decode b_SM_limit 33 = .ok (.aload_n 0, 1) := by decide +kernel
theorem d_SM_limit_34 : decode b_SM_limit 34 = .ok (.iload 5, 2) := by decide +kernel
theorem d_SM_limit_36 : decode b_SM_limit 36 = .ok (.iload 4, 2) := by decide +kernel
theorem d_SM_limit_38 : decode b_SM_limit 38 = .ok (.invokevirtual 133, 3) := by decide +kernel
theorem d_SM_limit_41 : decode b_SM_limit 41 = .ok (.istore 6, 2) := by decide +kernel
theorem d_SM_limit_43 : decode b_SM_limit 43 = .ok (.iload 6, 2) := by decide +kernel
theorem d_SM_limit_45 : decode b_SM_limit 45 = .ok (.iconst 1, 1) := by decide +kernel
theorem d_SM_limit_46 : decode b_SM_limit 46 = .ok (.if_icmp .ne 16, 3) := by decide +kernel
theorem d_SM_limit_49 : decode b_SM_limit 49 = .ok (.aload_n 0, 1) := by decide +kernel
theorem d_SM_limit_50 : decode b_SM_limit 50 = .ok (.getfield 91, 3) := by decide +kernel
theorem d_SM_limit_53 : decode b_SM_limit 53 = .ok (.iload_n 2, 1) := by decide +kernel
theorem d_SM_limit_54 : decode b_SM_limit 54 = .ok (.if_icmp .ne 8, 3) := by decide +kernel
theorem d_SM_limit_57 : decode b_SM_limit 57 = .ok (.aload_n 0, 1) := by decide +kernel
theorem d_SM_limit_58 : decode b_SM_limit 58 = .ok (.getfield 98, 3) := by decide +kernel
theorem d_SM_limit_61 : decode b_SM_limit 61 = .ok (.istore_n 3, 1) := by decide +kernel
theorem d_SM_limit_62 : decode b_SM_limit 62 = .ok (.aload_n 0, 1) := by decide +kernel
theorem d_SM_limit_63 : decode b_SM_limit 63 = .ok (.getfield 108, 3) := by decide +kernel
theorem d_SM_limit_66 : decode b_SM_limit 66 = .ok (.iconst 1, 1) := by decide +kernel
theorem d_SM_limit_67 : decode b_SM_limit 67 = .ok (.iadd, 1) := by decide +kernel
theorem d_SM_limit_68 : decode b_SM_limit 68 = .ok (.istore 5, 2) := by decide +kernel
theorem d_SM_limit_70 : decode b_SM_limit 70 = .ok (.goto (-44), 3) := by decide +kernel
theorem d_SM_limit_73 : decode b_SM_limit 73 = .ok (.iload_n 3, 1) := by decide +kernel
theorem d_SM_limit_74 : decode b_SM_limit 74 = .ok (.ireturn, 1) := by decide +kernel
set_option maxHeartbeats 4000000 in
set_option maxRecDepth 100000 in
/-- firstBad -/
theorem c_SM_firstBad (G : GG) (l : Launch) (sz : Nat) (f : Wd) {mo : Nat} {ar : Nat → Nat} {sc : Nat → Int32} {av : Nat → Nat → Int32} (hM : Mw G mo ar sc av f) {b n : Nat} {t : Nat → Int32} (hA : agr (av 0) b t n) (hbn : b + n ≤ 4200) (hS : sgs (av 0) (b + n)) : Ci G l y_SM_firstBad b_SM_firstBad 5 (some .int) ({ frames := 3, cells := 0, slots := 0, locals := 80 }) sz f [.ref mo, .int (nI b), .int (nI (b + n))] (fun v f' => ∃ sc' : Nat → Int32, Mw G mo ar sc' av f' ∧ Mx mo ar f f' ∧ (∀ k, k < 13 → sc' k = sc k) ∧ v = fbk t n (npc t n) 0) := by
  refine ct_of (by decide) (Nat.le_of_ble_eq_true rfl) ?_
  intro p e s m below meth c ls H locs hEn
  obtain ⟨hc, hr, hlk, hin, hE, hw, hsz, hl⟩ := hEn
  have hx := hc.1
  have hb := hc.2.1
  have hl : lv_has ls 5 [(0, .ref mo), (1, .int (nI b)), (2, .int (nI (b + n)))] := hl
  have hX : Mx mo ar f f := Mx.rf
  refine lv_iconst (v := 0) hx hb d_SM_firstBad_0 (by decide) ?_
  refine lv_istore_n (lv' := [(3, .int 0), (0, .ref mo), (1, .int (nI b)), (2, .int (nI (b + n)))]) hx hb d_SM_firstBad_1 rfl hl (by decide) rfl (fun ls hl => ?_)
  refine lv_iload_n hx hb d_SM_firstBad_2 rfl (lv_at hl 2 rfl) ?_
  refine lv_istore (lv' := [(4, .int (nI b)), (3, .int 0), (0, .ref mo), (1, .int (nI b)), (2, .int (nI (b + n)))]) hx hb d_SM_firstBad_3 hl (by decide) rfl (fun ls hl => ?_)
  have loop : ∀ (fu : Nat) (k : Nat) (scj : Nat → Int32) (fj : Wd) (ls : Array Slot) (H : Heap) (locs : List Loc), npc t n - k < fu → k ≤ npc t n → Mw G mo ar scj av fj → Mx mo ar f fj → (∀ k, k < 13 → scj k = sc k) → fbk t n (npc t n) 0 = fbk t n (npc t n - k) k → ms G.1 (Af f sz) fj s H locs → lv_has ls 5 [(3, .int (nI k)), (4, .int (nI (b + pst t n k))), (0, .ref mo), (2, .int (nI (b + n)))] → W p l e ({ frames := 3, cells := 0, slots := 0, locals := 80 }) s m ([.ref mo, .int (nI b), .int (nI (b + n))] : List Value).toArray below meth c H locs 0 0 (MQ below (va_Qi (fun v f' => ∃ sc' : Nat → Int32, Mw G mo ar sc' av f' ∧ Mx mo ar f f' ∧ (∀ k, k < 13 → sc' k = sc k) ∧ v = fbk t n (npc t n) 0) (Bw G f sz) (Af f sz)) ([.ref mo, .int (nI b), .int (nI (b + n))] : List Value).toArray s 0 0 (Af f sz)) (F0 m 5 ls []) := by
    intro fu
    induction fu with
    | zero => intro k scj fj ls H locs h0; exact absurd h0 (Nat.not_lt_zero _)
    | succ fu ih =>
      intro k scj fj ls H locs hfu hk hMj hXj hfj hfb hw hl
      have hpl := pst_le (t := t) (n := n) hk
      refine lv_iload hx hb d_SM_firstBad_5 (lv_at hl 1 rfl) ?_
      refine lv_iload_n hx hb d_SM_firstBad_7 rfl (lv_at hl 3 rfl) ?_
      refine lv_icmp_gt (tgt := 38) hx hb d_SM_firstBad_8 (by decide) (fun c21 => ?_) (fun c21 => ?_)
      · have c21n : (b + n) < (b + pst t n k) := (nI_ltI (a := (b + n)) (b := (b + pst t n k)) (by omega) (by omega)).mp c21
        refine lv_bipush (v := (-2)) hx hb d_SM_firstBad_38 (by decide) ?_
        have hke : k = npc t n := pst_e hk (by omega)
        exact m_iret hc hr hlk hw ⟨by first | decide | (dsimp only; omega), by first | decide | (dsimp only; omega)⟩ d_SM_firstBad_40 ⟨_, hMj, hXj, hfj, by rw [hfb, hke, Nat.sub_self]; rfl⟩
      · have c21n : ¬ ((b + n) < (b + pst t n k)) := fun z => c21 ((nI_ltI (a := (b + n)) (b := (b + pst t n k)) (by omega) (by omega)).mpr z)
        have hkn : k < npc t n := pst_k hk (by omega)
        have hps := (pst_in (t := t) k hkn).1
        have hpx := pnx_in (t := t) hps
        refine lv_aload_n hx hb d_SM_firstBad_11 rfl (lv_at hl 2 rfl) ?_
        refine lv_iload hx hb d_SM_firstBad_12 (lv_at hl 1 rfl) ?_
        refine lv_iload_n hx hb d_SM_firstBad_14 rfl (lv_at hl 3 rfl) ?_
        refine m_calli hw (m_runV (As := [.int (nI (b + pst t n k)), .int (nI (b + n))]) (rest := []) hc hE hw (c_SM_piece G l H.size fj hMj (a := b + pst t n k) (E0 := b + n) (e0 := b + pnx t n (pst t n k)) (by omega) hbn hS (pnx_sh hA hps).symm) hMj.1 rfl cw_SM_133 se_SM_piece rfl hl.1 rfl (Nat.le_of_ble_eq_true rfl) d_SM_firstBad_15 ⟨rfl, rfl, by decide, by decide⟩ ⟨by first | decide | (dsimp only; omega), by first | decide | (dsimp only; omega)⟩) (fun r25 g24 H locs p23 hw => ?_)
        obtain ⟨scz22, hMz22, hXz22, hfz22, hvz22, hpcz22⟩ := p23
        replace hpcz22 := pcr_of hA hpx.1 hpx.2 hpcz22
        replace hvz22 : r25 = nI (pk t n k) := hvz22.trans (congrArg nI (pkd_sh hA hpx.1 hpx.2))
        subst hvz22
        have hpkl := pkd_in t (pst t n k) (pnx t n (pst t n k))
        change pk t n k ≤ 3 at hpkl
        have hXXz22 := hXj.tr hXz22
        refine lv_iconst (v := 3) hx hb d_SM_firstBad_18 (by decide) ?_
        refine lv_icmp_ne (tgt := 24) hx hb d_SM_firstBad_19 (by decide) (fun c26 => ?_) (fun c26 => ?_)
        · have c26n : ¬ ((pk t n k) = 3) := fun z => c26 ((nI_eq (a := (pk t n k)) (b := 3) (by omega) (by omega)).mpr z)
          refine lv_aload_n hx hb d_SM_firstBad_24 rfl (lv_at hl 2 rfl) ?_
          refine m_mget (v := .int (scz22 14)) hc hE hw hMz22 l_SM_108_SM rfl d_SM_firstBad_25 ?_
          refine m_top (y := nI (b + pnx t n (pst t n k))) hpcz22.1 ?_
          refine lv_iconst (v := 1) hx hb d_SM_firstBad_28 (by decide) ?_
          refine lv_iadd hx hb d_SM_firstBad_29 ?_
          refine m_top (y := (nI ((b + pnx t n (pst t n k)) + 1))) (nI_add (b + pnx t n (pst t n k)) 1) ?_
          refine lv_istore (lv' := [(4, .int (nI ((b + pnx t n (pst t n k)) + 1))), (3, .int (nI k)), (0, .ref mo), (2, .int (nI (b + n)))]) hx hb d_SM_firstBad_30 hl (by decide) rfl (fun ls hl => ?_)
          refine lv_iinc (v := (nI (k + 1))) (lv' := [(3, .int (nI (k + 1))), (4, .int (nI ((b + pnx t n (pst t n k)) + 1))), (0, .ref mo), (2, .int (nI (b + n)))]) hx hb d_SM_firstBad_32 hl (k := 1) rfl (nI_1 _) (by decide) rfl (fun ls hl => ?_)
          refine lv_goto (tgt := 5) hx hb d_SM_firstBad_35 (by decide) ?_
          exact ih (k + 1) scz22 g24 ls H locs (by omega) (by omega) hMz22 hXXz22 (fun j hj => (hfz22 j hj).trans (hfj j hj)) (hfb.trans ((fbk_s hkn).trans (pif_f c26n))) hw (lv_sub hl [0, 1, 2, 3] rfl)
        · have c26n : (pk t n k) = 3 := (nI_eq (a := (pk t n k)) (b := 3) (by omega) (by omega)).mp c26
          refine lv_iload_n hx hb d_SM_firstBad_22 rfl (lv_at hl 0 rfl) ?_
          exact m_iret hc hr hlk hw ⟨by first | decide | (dsimp only; omega), by first | decide | (dsimp only; omega)⟩ d_SM_firstBad_23 ⟨_, hMz22, hXXz22, fun j hj => (hfz22 j hj).trans (hfj j hj), (hfb.trans ((fbk_s hkn).trans (pif_t c26n))).symm⟩
  exact loop (npc t n + 1) 0 sc f ls H locs (by omega) (Nat.zero_le _) hM hX (fun _ _ => rfl) rfl hw (lv_sub hl [1, 0, 2, 4] rfl)

set_option maxHeartbeats 4000000 in
set_option maxRecDepth 100000 in
/-- patterns -/
theorem c_SM_patterns (G : GG) (l : Launch) (sz : Nat) (f : Wd) {mo : Nat} {ar : Nat → Nat} {sc : Nat → Int32} {av : Nat → Nat → Int32} (hM : Mw G mo ar sc av f) {b n : Nat} {t : Nat → Int32} (hA : agr (av 0) b t n) (hbn : b + n ≤ 4200) (hS : sgs (av 0) (b + n)) {nd : Nat} (hnd : nd < 520) (hta : av 6 nd = nI b) (htl : av 7 nd = nI n) : Ci G l y_SM_patterns b_SM_patterns 5 (some .int) ({ frames := 3, cells := 0, slots := 0, locals := 80 }) sz f [.ref mo, .int (nI nd)] (fun v f' => ∃ sc' : Nat → Int32, Mw G mo ar sc' av f' ∧ Mx mo ar f f' ∧ (∀ k, k < 13 → sc' k = sc k) ∧ v = nI (clsU t n (npc t n)).length) := by
  refine ct_of (by decide) (Nat.le_of_ble_eq_true rfl) ?_
  intro p e s m below meth c ls H locs hEn
  obtain ⟨hc, hr, hlk, hin, hE, hw, hsz, hl⟩ := hEn
  have hx := hc.1
  have hb := hc.2.1
  have hl : lv_has ls 5 [(0, .ref mo), (1, .int (nI nd))] := hl
  have hX : Mx mo ar f f := Mx.rf
  refine lv_iconst (v := 0) hx hb d_SM_patterns_0 (by decide) ?_
  refine lv_istore_n (lv' := [(2, .int 0), (0, .ref mo), (1, .int (nI nd))]) hx hb d_SM_patterns_1 rfl hl (by decide) rfl (fun ls hl => ?_)
  refine lv_aload_n hx hb d_SM_patterns_2 rfl (lv_at hl 1 rfl) ?_
  refine m_mget (v := .ref (ar 6)) hc hE hw hM l_SM_28_SM rfl d_SM_patterns_3 ?_
  refine lv_iload_n hx hb d_SM_patterns_6 rfl (lv_at hl 2 rfl) ?_
  refine m_mald (v := (nI b)) hc hE hw hM (k := 6) (by decide) (vp_in_nI (N := 520) (by omega) (by decide)) ((congrArg (av 6) (nI_clamp (n := nd) (by omega))).trans hta) d_SM_patterns_7 ?_
  refine lv_aload_n hx hb d_SM_patterns_8 rfl (lv_at hl 1 rfl) ?_
  refine m_mget (v := .ref (ar 7)) hc hE hw hM l_SM_31_SM rfl d_SM_patterns_9 ?_
  refine lv_iload_n hx hb d_SM_patterns_12 rfl (lv_at hl 2 rfl) ?_
  refine m_mald (v := (nI n)) hc hE hw hM (k := 7) (by decide) (vp_in_nI (N := 520) (by omega) (by decide)) ((congrArg (av 7) (nI_clamp (n := nd) (by omega))).trans htl) d_SM_patterns_13 ?_
  refine lv_iadd hx hb d_SM_patterns_14 ?_
  refine m_top (y := (nI (b + n))) (nI_add b n) ?_
  refine lv_istore_n (lv' := [(3, .int (nI (b + n))), (2, .int 0), (0, .ref mo), (1, .int (nI nd))]) hx hb d_SM_patterns_15 rfl hl (by decide) rfl (fun ls hl => ?_)
  refine lv_aload_n hx hb d_SM_patterns_16 rfl (lv_at hl 2 rfl) ?_
  refine m_mget (v := .ref (ar 6)) hc hE hw hM l_SM_28_SM rfl d_SM_patterns_17 ?_
  refine lv_iload_n hx hb d_SM_patterns_20 rfl (lv_at hl 3 rfl) ?_
  refine m_mald (v := (nI b)) hc hE hw hM (k := 6) (by decide) (vp_in_nI (N := 520) (by omega) (by decide)) ((congrArg (av 6) (nI_clamp (n := nd) (by omega))).trans hta) d_SM_patterns_21 ?_
  refine lv_istore (lv' := [(4, .int (nI b)), (3, .int (nI (b + n))), (2, .int 0), (0, .ref mo), (1, .int (nI nd))]) hx hb d_SM_patterns_22 hl (by decide) rfl (fun ls hl => ?_)
  have loop : ∀ (fu : Nat) (k : Nat) (scj : Nat → Int32) (fj : Wd) (ls : Array Slot) (H : Heap) (locs : List Loc), npc t n - k < fu → k ≤ npc t n → Mw G mo ar scj av fj → Mx mo ar f fj → (∀ k, k < 13 → scj k = sc k) → ms G.1 (Af f sz) fj s H locs → lv_has ls 5 [(2, .int (nI (clsU t n k).length)), (4, .int (nI (b + pst t n k))), (0, .ref mo), (3, .int (nI (b + n)))] → W p l e ({ frames := 3, cells := 0, slots := 0, locals := 80 }) s m ([.ref mo, .int (nI nd)] : List Value).toArray below meth c H locs 0 0 (MQ below (va_Qi (fun v f' => ∃ sc' : Nat → Int32, Mw G mo ar sc' av f' ∧ Mx mo ar f f' ∧ (∀ k, k < 13 → sc' k = sc k) ∧ v = nI (clsU t n (npc t n)).length) (Bw G f sz) (Af f sz)) ([.ref mo, .int (nI nd)] : List Value).toArray s 0 0 (Af f sz)) (F0 m 24 ls []) := by
    intro fu
    induction fu with
    | zero => intro k scj fj ls H locs h0; exact absurd h0 (Nat.not_lt_zero _)
    | succ fu ih =>
      intro k scj fj ls H locs hfu hk hMj hXj hfj hw hl
      have hpl := pst_le (t := t) (n := n) hk
      refine lv_iload hx hb d_SM_patterns_24 (lv_at hl 1 rfl) ?_
      refine lv_iload_n hx hb d_SM_patterns_26 rfl (lv_at hl 3 rfl) ?_
      refine lv_icmp_gt (tgt := 60) hx hb d_SM_patterns_27 (by decide) (fun c21 => ?_) (fun c21 => ?_)
      · have c21n : (b + n) < (b + pst t n k) := (nI_ltI (a := (b + n)) (b := (b + pst t n k)) (by omega) (by omega)).mp c21
        refine lv_iload_n hx hb d_SM_patterns_60 rfl (lv_at hl 0 rfl) ?_
        have hke : k = npc t n := pst_e hk (by omega)
        exact m_iret hc hr hlk hw ⟨by first | decide | (dsimp only; omega), by first | decide | (dsimp only; omega)⟩ d_SM_patterns_61 ⟨_, hMj, hXj, hfj, by rw [hke]⟩
      · have c21n : ¬ ((b + n) < (b + pst t n k)) := fun z => c21 ((nI_ltI (a := (b + n)) (b := (b + pst t n k)) (by omega) (by omega)).mpr z)
        have hkn : k < npc t n := pst_k hk (by omega)
        have hps := (pst_in (t := t) k hkn).1
        have hpx := pnx_in (t := t) hps
        refine lv_iload_n hx hb d_SM_patterns_30 rfl (lv_at hl 0 rfl) ?_
        refine lv_aload_n hx hb d_SM_patterns_31 rfl (lv_at hl 2 rfl) ?_
        refine lv_iload hx hb d_SM_patterns_32 (lv_at hl 1 rfl) ?_
        refine lv_iload_n hx hb d_SM_patterns_34 rfl (lv_at hl 3 rfl) ?_
        refine m_calli hw (m_runV (As := [.int (nI (b + pst t n k)), .int (nI (b + n))]) (rest := [.int (nI (clsU t n k).length)]) hc hE hw (c_SM_piece G l H.size fj hMj (a := b + pst t n k) (E0 := b + n) (e0 := b + pnx t n (pst t n k)) (by omega) hbn hS (pnx_sh hA hps).symm) hMj.1 rfl cw_SM_133 se_SM_piece rfl hl.1 rfl (Nat.le_of_ble_eq_true rfl) d_SM_patterns_35 ⟨rfl, rfl, by decide, by decide⟩ ⟨by first | decide | (dsimp only; omega), by first | decide | (dsimp only; omega)⟩) (fun r25 g24 H locs p23 hw => ?_)
        obtain ⟨scz22, hMz22, hXz22, hfz22, hvz22, hpcz22⟩ := p23
        replace hpcz22 := pcr_of hA hpx.1 hpx.2 hpcz22
        replace hvz22 : r25 = nI (pk t n k) := hvz22.trans (congrArg nI (pkd_sh hA hpx.1 hpx.2))
        subst hvz22
        have hpkl := pkd_in t (pst t n k) (pnx t n (pst t n k))
        change pk t n k ≤ 3 at hpkl
        have hXXz22 := hXj.tr hXz22
        refine lv_iconst (v := 2) hx hb d_SM_patterns_38 (by decide) ?_
        refine lv_icmp_ne (tgt := 46) hx hb d_SM_patterns_39 (by decide) (fun c26 => ?_) (fun c26 => ?_)
        · have c26n : ¬ ((pk t n k) = 2) := fun z => c26 ((nI_eq (a := (pk t n k)) (b := 2) (by omega) (by omega)).mpr z)
          refine lv_iconst (v := 0) hx hb d_SM_patterns_46 (by decide) ?_
          refine lv_iadd hx hb d_SM_patterns_47 ?_
          refine m_top (y := (nI (clsU t n (k + 1)).length)) (show nI (clsU t n k).length + 0 = _ by rw [show clsU t n (k + 1) = clsU t n k from pif_f c26n]; exact nI_add _ 0) ?_
          refine lv_istore_n (lv' := [(2, .int (nI (clsU t n (k + 1)).length)), (4, .int (nI (b + pst t n k))), (0, .ref mo), (3, .int (nI (b + n)))]) hx hb d_SM_patterns_48 rfl hl (by decide) rfl (fun ls hl => ?_)
          refine lv_aload_n hx hb d_SM_patterns_49 rfl (lv_at hl 2 rfl) ?_
          refine m_mget (v := .int (scz22 14)) hc hE hw hMz22 l_SM_108_SM rfl d_SM_patterns_50 ?_
          refine m_top (y := nI (b + pnx t n (pst t n k))) hpcz22.1 ?_
          refine lv_iconst (v := 1) hx hb d_SM_patterns_53 (by decide) ?_
          refine lv_iadd hx hb d_SM_patterns_54 ?_
          refine m_top (y := (nI ((b + pnx t n (pst t n k)) + 1))) (nI_add (b + pnx t n (pst t n k)) 1) ?_
          refine lv_istore (lv' := [(4, .int (nI ((b + pnx t n (pst t n k)) + 1))), (2, .int (nI (clsU t n (k + 1)).length)), (0, .ref mo), (3, .int (nI (b + n)))]) hx hb d_SM_patterns_55 hl (by decide) rfl (fun ls hl => ?_)
          refine lv_goto (tgt := 24) hx hb d_SM_patterns_57 (by decide) ?_
          exact ih (k + 1) scz22 g24 ls H locs (by omega) (by omega) hMz22 hXXz22 (fun j hj => (hfz22 j hj).trans (hfj j hj)) hw (lv_sub hl [1, 0, 2, 3] rfl)
        · have c26n : (pk t n k) = 2 := (nI_eq (a := (pk t n k)) (b := 2) (by omega) (by omega)).mp c26
          refine lv_iconst (v := 1) hx hb d_SM_patterns_42 (by decide) ?_
          refine lv_goto (tgt := 47) hx hb d_SM_patterns_43 (by decide) ?_
          refine lv_iadd hx hb d_SM_patterns_47 ?_
          refine m_top (y := (nI (clsU t n (k + 1)).length)) (show nI (clsU t n k).length + 1 = _ by rw [show clsU t n (k + 1) = clsU t n k ++ [k] from pif_t c26n, List.length_append]; exact nI_1 _) ?_
          refine lv_istore_n (lv' := [(2, .int (nI (clsU t n (k + 1)).length)), (4, .int (nI (b + pst t n k))), (0, .ref mo), (3, .int (nI (b + n)))]) hx hb d_SM_patterns_48 rfl hl (by decide) rfl (fun ls hl => ?_)
          refine lv_aload_n hx hb d_SM_patterns_49 rfl (lv_at hl 2 rfl) ?_
          refine m_mget (v := .int (scz22 14)) hc hE hw hMz22 l_SM_108_SM rfl d_SM_patterns_50 ?_
          refine m_top (y := nI (b + pnx t n (pst t n k))) hpcz22.1 ?_
          refine lv_iconst (v := 1) hx hb d_SM_patterns_53 (by decide) ?_
          refine lv_iadd hx hb d_SM_patterns_54 ?_
          refine m_top (y := (nI ((b + pnx t n (pst t n k)) + 1))) (nI_add (b + pnx t n (pst t n k)) 1) ?_
          refine lv_istore (lv' := [(4, .int (nI ((b + pnx t n (pst t n k)) + 1))), (2, .int (nI (clsU t n (k + 1)).length)), (0, .ref mo), (3, .int (nI (b + n)))]) hx hb d_SM_patterns_55 hl (by decide) rfl (fun ls hl => ?_)
          refine lv_goto (tgt := 24) hx hb d_SM_patterns_57 (by decide) ?_
          exact ih (k + 1) scz22 g24 ls H locs (by omega) (by omega) hMz22 hXXz22 (fun j hj => (hfz22 j hj).trans (hfj j hj)) hw (lv_sub hl [1, 0, 2, 3] rfl)
  exact loop (npc t n + 1) 0 sc f ls H locs (by omega) (Nat.zero_le _) hM hX (fun _ _ => rfl) hw (lv_sub hl [2, 0, 3, 1] rfl)

set_option maxHeartbeats 4000000 in
set_option maxRecDepth 100000 in
/-- limit -/
theorem c_SM_limit (G : GG) (l : Launch) (sz : Nat) (f : Wd) {mo : Nat} {ar : Nat → Nat} {sc : Nat → Int32} {av : Nat → Nat → Int32} (hM : Mw G mo ar sc av f) {b n : Nat} {t : Nat → Int32} (hA : agr (av 0) b t n) (hbn : b + n ≤ 4200) (hS : sgs (av 0) (b + n)) {nd : Nat} (hnd : nd < 520) (hta : av 6 nd = nI b) (htl : av 7 nd = nI n) (w0 : Nat) : Ci G l y_SM_limit b_SM_limit 7 (some .int) ({ frames := 3, cells := 0, slots := 0, locals := 80 }) sz f [.ref mo, .int (nI nd), .int (nI w0)] (fun v f' => ∃ sc' : Nat → Int32, Mw G mo ar sc' av f' ∧ Mx mo ar f f' ∧ (∀ k, k < 13 → sc' k = sc k) ∧ v = lmU t n (npc t n) w0) := by
  refine ct_of (by decide) (Nat.le_of_ble_eq_true rfl) ?_
  intro p e s m below meth c ls H locs hEn
  obtain ⟨hc, hr, hlk, hin, hE, hw, hsz, hl⟩ := hEn
  have hx := hc.1
  have hb := hc.2.1
  have hl : lv_has ls 7 [(0, .ref mo), (1, .int (nI nd)), (2, .int (nI w0))] := hl
  have hX : Mx mo ar f f := Mx.rf
  refine lv_bipush (v := (-2)) hx hb d_SM_limit_0 (by decide) ?_
  refine lv_istore_n (lv' := [(3, .int (-2)), (0, .ref mo), (1, .int (nI nd)), (2, .int (nI w0))]) hx hb d_SM_limit_2 rfl hl (by decide) rfl (fun ls hl => ?_)
  refine lv_aload_n hx hb d_SM_limit_3 rfl (lv_at hl 1 rfl) ?_
  refine m_mget (v := .ref (ar 6)) hc hE hw hM l_SM_28_SM rfl d_SM_limit_4 ?_
  refine lv_iload_n hx hb d_SM_limit_7 rfl (lv_at hl 2 rfl) ?_
  refine m_mald (v := (nI b)) hc hE hw hM (k := 6) (by decide) (vp_in_nI (N := 520) (by omega) (by decide)) ((congrArg (av 6) (nI_clamp (n := nd) (by omega))).trans hta) d_SM_limit_8 ?_
  refine lv_aload_n hx hb d_SM_limit_9 rfl (lv_at hl 1 rfl) ?_
  refine m_mget (v := .ref (ar 7)) hc hE hw hM l_SM_31_SM rfl d_SM_limit_10 ?_
  refine lv_iload_n hx hb d_SM_limit_13 rfl (lv_at hl 2 rfl) ?_
  refine m_mald (v := (nI n)) hc hE hw hM (k := 7) (by decide) (vp_in_nI (N := 520) (by omega) (by decide)) ((congrArg (av 7) (nI_clamp (n := nd) (by omega))).trans htl) d_SM_limit_14 ?_
  refine lv_iadd hx hb d_SM_limit_15 ?_
  refine m_top (y := (nI (b + n))) (nI_add b n) ?_
  refine lv_istore (lv' := [(4, .int (nI (b + n))), (3, .int (-2)), (0, .ref mo), (1, .int (nI nd)), (2, .int (nI w0))]) hx hb d_SM_limit_16 hl (by decide) rfl (fun ls hl => ?_)
  refine lv_aload_n hx hb d_SM_limit_18 rfl (lv_at hl 2 rfl) ?_
  refine m_mget (v := .ref (ar 6)) hc hE hw hM l_SM_28_SM rfl d_SM_limit_19 ?_
  refine lv_iload_n hx hb d_SM_limit_22 rfl (lv_at hl 3 rfl) ?_
  refine m_mald (v := (nI b)) hc hE hw hM (k := 6) (by decide) (vp_in_nI (N := 520) (by omega) (by decide)) ((congrArg (av 6) (nI_clamp (n := nd) (by omega))).trans hta) d_SM_limit_23 ?_
  refine lv_istore (lv' := [(5, .int (nI b)), (4, .int (nI (b + n))), (3, .int (-2)), (0, .ref mo), (1, .int (nI nd)), (2, .int (nI w0))]) hx hb d_SM_limit_24 hl (by decide) rfl (fun ls hl => ?_)
  have loop : ∀ (fu : Nat) (k : Nat) (scj : Nat → Int32) (fj : Wd) (ls : Array Slot) (H : Heap) (locs : List Loc), npc t n - k < fu → k ≤ npc t n → Mw G mo ar scj av fj → Mx mo ar f fj → (∀ k, k < 13 → scj k = sc k) → ms G.1 (Af f sz) fj s H locs → lv_has ls 7 [(3, .int (lmU t n k w0)), (5, .int (nI (b + pst t n k))), (0, .ref mo), (2, .int (nI w0)), (4, .int (nI (b + n)))] → W p l e ({ frames := 3, cells := 0, slots := 0, locals := 80 }) s m ([.ref mo, .int (nI nd), .int (nI w0)] : List Value).toArray below meth c H locs 0 0 (MQ below (va_Qi (fun v f' => ∃ sc' : Nat → Int32, Mw G mo ar sc' av f' ∧ Mx mo ar f f' ∧ (∀ k, k < 13 → sc' k = sc k) ∧ v = lmU t n (npc t n) w0) (Bw G f sz) (Af f sz)) ([.ref mo, .int (nI nd), .int (nI w0)] : List Value).toArray s 0 0 (Af f sz)) (F0 m 26 ls []) := by
    intro fu
    induction fu with
    | zero => intro k scj fj ls H locs h0; exact absurd h0 (Nat.not_lt_zero _)
    | succ fu ih =>
      intro k scj fj ls H locs hfu hk hMj hXj hfj hw hl
      have hpl := pst_le (t := t) (n := n) hk
      refine lv_iload hx hb d_SM_limit_26 (lv_at hl 1 rfl) ?_
      refine lv_iload hx hb d_SM_limit_28 (lv_at hl 4 rfl) ?_
      refine lv_icmp_gt (tgt := 73) hx hb d_SM_limit_30 (by decide) (fun c21 => ?_) (fun c21 => ?_)
      · have c21n : (b + n) < (b + pst t n k) := (nI_ltI (a := (b + n)) (b := (b + pst t n k)) (by omega) (by omega)).mp c21
        refine lv_iload_n hx hb d_SM_limit_73 rfl (lv_at hl 0 rfl) ?_
        have hke : k = npc t n := pst_e hk (by omega)
        exact m_iret hc hr hlk hw ⟨by first | decide | (dsimp only; omega), by first | decide | (dsimp only; omega)⟩ d_SM_limit_74 ⟨_, hMj, hXj, hfj, by rw [hke]⟩
      · have c21n : ¬ ((b + n) < (b + pst t n k)) := fun z => c21 ((nI_ltI (a := (b + n)) (b := (b + pst t n k)) (by omega) (by omega)).mpr z)
        have hkn : k < npc t n := pst_k hk (by omega)
        have hps := (pst_in (t := t) k hkn).1
        have hpx := pnx_in (t := t) hps
        refine lv_aload_n hx hb d_SM_limit_33 rfl (lv_at hl 2 rfl) ?_
        refine lv_iload hx hb d_SM_limit_34 (lv_at hl 1 rfl) ?_
        refine lv_iload hx hb d_SM_limit_36 (lv_at hl 4 rfl) ?_
        refine m_calli hw (m_runV (As := [.int (nI (b + pst t n k)), .int (nI (b + n))]) (rest := []) hc hE hw (c_SM_piece G l H.size fj hMj (a := b + pst t n k) (E0 := b + n) (e0 := b + pnx t n (pst t n k)) (by omega) hbn hS (pnx_sh hA hps).symm) hMj.1 rfl cw_SM_133 se_SM_piece rfl hl.1 rfl (Nat.le_of_ble_eq_true rfl) d_SM_limit_38 ⟨rfl, rfl, by decide, by decide⟩ ⟨by first | decide | (dsimp only; omega), by first | decide | (dsimp only; omega)⟩) (fun r25 g24 H locs p23 hw => ?_)
        obtain ⟨scz22, hMz22, hXz22, hfz22, hvz22, hpcz22⟩ := p23
        replace hpcz22 := pcr_of hA hpx.1 hpx.2 hpcz22
        replace hvz22 : r25 = nI (pk t n k) := hvz22.trans (congrArg nI (pkd_sh hA hpx.1 hpx.2))
        subst hvz22
        have hpkl := pkd_in t (pst t n k) (pnx t n (pst t n k))
        change pk t n k ≤ 3 at hpkl
        have hXXz22 := hXj.tr hXz22
        refine lv_istore (lv' := [(6, .int (nI (pk t n k))), (3, .int (lmU t n k w0)), (5, .int (nI (b + pst t n k))), (0, .ref mo), (2, .int (nI w0)), (4, .int (nI (b + n)))]) hx hb d_SM_limit_41 hl (by decide) rfl (fun ls hl => ?_)
        refine lv_iload hx hb d_SM_limit_43 (lv_at hl 0 rfl) ?_
        refine lv_iconst (v := 1) hx hb d_SM_limit_45 (by decide) ?_
        refine lv_icmp_ne (tgt := 62) hx hb d_SM_limit_46 (by decide) (fun c26 => ?_) (fun c26 => ?_)
        · have c26n : ¬ ((pk t n k) = 1) := fun z => c26 ((nI_eq (a := (pk t n k)) (b := 1) (by omega) (by omega)).mpr z)
          have hlU : lmU t n (k + 1) w0 = lmU t n k w0 := pif_f (fun z => c26n z.1)
          refine lv_aload_n hx hb d_SM_limit_62 rfl (lv_at hl 3 rfl) ?_
          refine m_mget (v := .int (scz22 14)) hc hE hw hMz22 l_SM_108_SM rfl d_SM_limit_63 ?_
          refine m_top (y := nI (b + pnx t n (pst t n k))) hpcz22.1 ?_
          refine lv_iconst (v := 1) hx hb d_SM_limit_66 (by decide) ?_
          refine lv_iadd hx hb d_SM_limit_67 ?_
          refine m_top (y := (nI ((b + pnx t n (pst t n k)) + 1))) (nI_add (b + pnx t n (pst t n k)) 1) ?_
          refine lv_istore (lv' := [(5, .int (nI ((b + pnx t n (pst t n k)) + 1))), (6, .int (nI (pk t n k))), (3, .int (lmU t n k w0)), (0, .ref mo), (2, .int (nI w0)), (4, .int (nI (b + n)))]) hx hb d_SM_limit_68 hl (by decide) rfl (fun ls hl => ?_)
          refine lv_goto (tgt := 26) hx hb d_SM_limit_70 (by decide) ?_
          exact ih (k + 1) scz22 g24 ls H locs (by omega) (by omega) hMz22 hXXz22 (fun j hj => (hfz22 j hj).trans (hfj j hj)) hw (by rw [hlU]; exact (lv_sub hl [2, 0, 3, 4, 5] rfl))
        · have c26n : (pk t n k) = 1 := (nI_eq (a := (pk t n k)) (b := 1) (by omega) (by omega)).mp c26
          have hl1 := (hpcz22.2.1 c26n).1
          have hl2 := (hpcz22.2.1 c26n).2
          refine lv_aload_n hx hb d_SM_limit_49 rfl (lv_at hl 3 rfl) ?_
          refine m_mget (v := .int (scz22 15)) hc hE hw hMz22 l_SM_91_SM rfl d_SM_limit_50 ?_
          refine m_top (y := (lmV t (pst t n k) (eqc t (pst t n k) (pnx t n (pst t n k))))) hl1 ?_
          refine lv_iload_n hx hb d_SM_limit_53 rfl (lv_at hl 4 rfl) ?_
          refine lv_icmp_ne (tgt := 62) hx hb d_SM_limit_54 (by decide) (fun c27 => ?_) (fun c27 => ?_)
          · have hlU : lmU t n (k + 1) w0 = lmU t n k w0 := pif_f (fun z => c27 z.2)
            refine lv_aload_n hx hb d_SM_limit_62 rfl (lv_at hl 3 rfl) ?_
            refine m_mget (v := .int (scz22 14)) hc hE hw hMz22 l_SM_108_SM rfl d_SM_limit_63 ?_
            refine m_top (y := nI (b + pnx t n (pst t n k))) hpcz22.1 ?_
            refine lv_iconst (v := 1) hx hb d_SM_limit_66 (by decide) ?_
            refine lv_iadd hx hb d_SM_limit_67 ?_
            refine m_top (y := (nI ((b + pnx t n (pst t n k)) + 1))) (nI_add (b + pnx t n (pst t n k)) 1) ?_
            refine lv_istore (lv' := [(5, .int (nI ((b + pnx t n (pst t n k)) + 1))), (6, .int (nI (pk t n k))), (3, .int (lmU t n k w0)), (0, .ref mo), (2, .int (nI w0)), (4, .int (nI (b + n)))]) hx hb d_SM_limit_68 hl (by decide) rfl (fun ls hl => ?_)
            refine lv_goto (tgt := 26) hx hb d_SM_limit_70 (by decide) ?_
            exact ih (k + 1) scz22 g24 ls H locs (by omega) (by omega) hMz22 hXXz22 (fun j hj => (hfz22 j hj).trans (hfj j hj)) hw (by rw [hlU]; exact (lv_sub hl [2, 0, 3, 4, 5] rfl))
          · refine lv_aload_n hx hb d_SM_limit_57 rfl (lv_at hl 3 rfl) ?_
            refine m_mget (v := .int (scz22 16)) hc hE hw hMz22 l_SM_98_SM rfl d_SM_limit_58 ?_
            refine m_top (y := (nmb t (eqc t (pst t n k) (pnx t n (pst t n k)) + 1) (pnx t n (pst t n k) - (eqc t (pst t n k) (pnx t n (pst t n k)) + 1)))) hl2 ?_
            refine lv_istore_n (lv' := [(3, .int (nmb t (eqc t (pst t n k) (pnx t n (pst t n k)) + 1) (pnx t n (pst t n k) - (eqc t (pst t n k) (pnx t n (pst t n k)) + 1)))), (6, .int (nI (pk t n k))), (5, .int (nI (b + pst t n k))), (0, .ref mo), (2, .int (nI w0)), (4, .int (nI (b + n)))]) hx hb d_SM_limit_61 rfl hl (by decide) rfl (fun ls hl => ?_)
            have hlU : lmU t n (k + 1) w0 = _ := pif_t ⟨c26n, c27⟩
            refine lv_aload_n hx hb d_SM_limit_62 rfl (lv_at hl 3 rfl) ?_
            refine m_mget (v := .int (scz22 14)) hc hE hw hMz22 l_SM_108_SM rfl d_SM_limit_63 ?_
            refine m_top (y := nI (b + pnx t n (pst t n k))) hpcz22.1 ?_
            refine lv_iconst (v := 1) hx hb d_SM_limit_66 (by decide) ?_
            refine lv_iadd hx hb d_SM_limit_67 ?_
            refine m_top (y := (nI ((b + pnx t n (pst t n k)) + 1))) (nI_add (b + pnx t n (pst t n k)) 1) ?_
            refine lv_istore (lv' := [(5, .int (nI ((b + pnx t n (pst t n k)) + 1))), (3, .int (nmb t (eqc t (pst t n k) (pnx t n (pst t n k)) + 1) (pnx t n (pst t n k) - (eqc t (pst t n k) (pnx t n (pst t n k)) + 1)))), (6, .int (nI (pk t n k))), (0, .ref mo), (2, .int (nI w0)), (4, .int (nI (b + n)))]) hx hb d_SM_limit_68 hl (by decide) rfl (fun ls hl => ?_)
            refine lv_goto (tgt := 26) hx hb d_SM_limit_70 (by decide) ?_
            exact ih (k + 1) scz22 g24 ls H locs (by omega) (by omega) hMz22 hXXz22 (fun j hj => (hfz22 j hj).trans (hfj j hj)) hw (by rw [hlU]; exact (lv_sub hl [1, 0, 3, 4, 5] rfl))
  exact loop (npc t n + 1) 0 sc f ls H locs (by omega) (Nat.zero_le _) hM hX (fun _ _ => rfl) hw (lv_sub hl [2, 0, 3, 5, 1] rfl)

set_option maxHeartbeats 4000000 in
set_option maxRecDepth 100000 in
/-- above -/
theorem c_SM_above (G : GG) (l : Launch) (sz : Nat) (f : Wd) {mo : Nat} {ar : Nat → Nat} {sc : Nat → Int32} {av : Nat → Nat → Int32} (hM : Mw G mo ar sc av f) {b n : Nat} {t : Nat → Int32} (hA : agr (av 0) b t n) (hbn : b + n ≤ 4200) (hS : sgs (av 0) (b + n)) {nd : Nat} (hnd : nd < 520) (hta : av 6 nd = nI b) (htl : av 7 nd = nI n) (w0 : Nat) (x : Int32) : Ci G l y_SM_above b_SM_above 5 (some .boolean) ({ frames := 4, cells := 0, slots := 0, locals := 106 }) sz f [.ref mo, .int (nI nd), .int (nI w0), .int x] (fun v f' => ∃ sc' : Nat → Int32, Mw G mo ar sc' av f' ∧ Mx mo ar f f' ∧ (∀ k, k < 13 → sc' k = sc k) ∧ v = bI (abv x (lmU t n (npc t n) w0))) := by
  refine ct_of (by decide) (Nat.le_of_ble_eq_true rfl) ?_
  intro p e s m below meth c ls H locs hEn
  obtain ⟨hc, hr, hlk, hin, hE, hw, hsz, hl⟩ := hEn
  have hx := hc.1
  have hb := hc.2.1
  have hl : lv_has ls 5 [(0, .ref mo), (1, .int (nI nd)), (2, .int (nI w0)), (3, .int x)] := hl
  have hX : Mx mo ar f f := Mx.rf
  refine lv_aload_n hx hb d_SM_above_0 rfl (lv_at hl 0 rfl) ?_
  refine lv_iload_n hx hb d_SM_above_1 rfl (lv_at hl 1 rfl) ?_
  refine lv_iload_n hx hb d_SM_above_2 rfl (lv_at hl 2 rfl) ?_
  refine m_calli hw (m_runV (As := [.int (nI nd), .int (nI w0)]) (rest := []) hc hE hw (c_SM_limit G l H.size f hM hA hbn hS hnd hta htl w0) hM.1 rfl cw_SM_166 se_SM_limit rfl hl.1 rfl (Nat.le_of_ble_eq_true rfl) d_SM_above_3 ⟨rfl, rfl, by decide, by decide⟩ ⟨by first | decide | (dsimp only; omega), by first | decide | (dsimp only; omega)⟩) (fun r23 g22 H locs p21 hw => ?_)
  obtain ⟨sc2, hM2, hX2, hf2, hv2⟩ := p21
  subst hv2
  refine lv_istore (lv' := [(4, .int (lmU t n (npc t n) w0)), (0, .ref mo), (1, .int (nI nd)), (2, .int (nI w0)), (3, .int x)]) hx hb d_SM_above_6 hl (by decide) rfl (fun ls hl => ?_)
  refine lv_iload hx hb d_SM_above_8 (lv_at hl 0 rfl) ?_
  refine lv_bipush (v := (-2)) hx hb d_SM_above_10 (by decide) ?_
  refine lv_icmp_eq (tgt := 25) hx hb d_SM_above_12 (by decide) (fun c24 => ?_) (fun c24 => ?_)
  · refine lv_iconst (v := 0) hx hb d_SM_above_25 (by decide) ?_
    exact m_zret hc hr hlk hw ⟨by first | decide | (dsimp only; omega), by first | decide | (dsimp only; omega)⟩ d_SM_above_26 (by decide) ⟨_, hM2, (hX.tr hX2), hf2, (bI_f (fun z => z.1 c24)).symm⟩
  · refine lv_iload_n hx hb d_SM_above_15 rfl (lv_at hl 4 rfl) ?_
    refine lv_iload hx hb d_SM_above_16 (lv_at hl 0 rfl) ?_
    refine lv_icmp_le (tgt := 25) hx hb d_SM_above_18 (by decide) (fun c25 => ?_) (fun c25 => ?_)
    · refine lv_iconst (v := 0) hx hb d_SM_above_25 (by decide) ?_
      exact m_zret hc hr hlk hw ⟨by first | decide | (dsimp only; omega), by first | decide | (dsimp only; omega)⟩ d_SM_above_26 (by decide) ⟨_, hM2, (hX.tr hX2), hf2, (bI_f (fun z => Int32.not_lt.mpr c25 z.2)).symm⟩
    · refine lv_iconst (v := 1) hx hb d_SM_above_21 (by decide) ?_
      refine lv_goto (tgt := 26) hx hb d_SM_above_22 (by decide) ?_
      exact m_zret hc hr hlk hw ⟨by first | decide | (dsimp only; omega), by first | decide | (dsimp only; omega)⟩ d_SM_above_26 (by decide) ⟨_, hM2, (hX.tr hX2), hf2, (bI_t ⟨c24, Int32.not_le.mp c25⟩).symm⟩
