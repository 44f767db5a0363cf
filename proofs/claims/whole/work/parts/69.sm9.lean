/-! links of the pools, as the walks ask for them -/
theorem cw_SM_143 : cwk "StreamFiltersModel" 143 y_SM_make b_SM_make 8 (some .int) 5 := ⟨Or.inl (tb 777 (by decide +kernel) rfl), (tb 780 (by decide +kernel) rfl), (tb 5 (by decide +kernel) rfl), by decide, by decide, by decide +kernel⟩
theorem se_SM_make : Cond.instanceMethod y_SM_make ∈ TB ∧ Cond.selects "StreamFiltersModel" y_SM_make y_SM_make ∈ TB := ⟨(tb 779 (by decide +kernel) rfl), (tbs 22 (by decide +kernel) rfl)⟩
/-! decode rows -/
theorem d_SM_strict_0 : decode b_SM_strict 0 = .ok (.aload_n 0, 1) := by decide +kernel
theorem d_SM_strict_1 : decode b_SM_strict 1 = .ok (.iload_n 1, 1) := by decide +kernel
theorem d_SM_strict_2 : decode b_SM_strict 2 = .ok (.bipush 10, 2) := by decide +kernel
theorem d_SM_strict_4 : decode b_SM_strict 4 = .ok (.invokevirtual 71, 3) := by decide +kernel
theorem d_SM_strict_7 : decode b_SM_strict 7 = .ok (.ifCond .ne 11, 3) := by decide +kernel
theorem d_SM_strict_10 : decode b_SM_strict 10 = .ok (.aload_n 0, 1) := by decide +kernel
theorem d_SM_strict_11 : decode b_SM_strict 11 = .ok (.iload_n 2, 1) := by decide +kernel
theorem d_SM_strict_12 : decode b_SM_strict 12 = .ok (.invokevirtual 150, 3) := by decide +kernel
theorem d_SM_strict_15 : decode b_SM_strict 15 = .ok (.ifCond .eq 7, 3) := by decide +kernel
theorem d_SM_strict_18 : decode b_SM_strict 18 = .ok (.iconst (-1), 1) := by decide +kernel
theorem d_SM_strict_19 : decode b_SM_strict 19 = .ok (.goto 25, 3) := by decide +kernel
theorem d_SM_strict_22 : decode b_SM_strict 22 = .ok (.aload_n 0, 1) := by decide +kernel
theorem d_SM_strict_23 : decode b_SM_strict 23 = .ok (.iload_n 1, 1) := by decide +kernel
theorem d_SM_strict_24 : decode b_SM_strict 24 = .ok (.iconst 3, 1) := by decide +kernel
theorem d_SM_strict_25 : decode b_SM_strict 25 = .ok (.aload_n 0, 1) := by decide +kernel
theorem d_SM_strict_26 : decode b_SM_strict 26 = .ok (.getfield 43, 3) := by decide +kernel
theorem d_SM_strict_29 : decode b_SM_strict 29 = .ok (.iload_n 2, 1) := by decide +kernel
theorem d_SM_strict_30 : decode b_SM_strict 30 = .ok (.iaload, 1) := by decide +kernel
theorem d_SM_strict_31 : decode b_SM_strict 31 = .ok (.iconst (-1), 1) := by decide +kernel
theorem d_SM_strict_32 : decode b_SM_strict 32 = .ok (.iload_n 3, 1) := by decide +kernel
theorem d_SM_strict_33 : decode b_SM_strict 33 = .ok (.ifCond .eq 7, 3) := by decide +kernel
theorem d_SM_strict_36 : decode b_SM_strict 36 = .ok (.iconst 1, 1) := by decide +kernel
theorem d_SM_strict_37 : decode b_SM_strict 37 = .ok (.goto 4, 3) := by decide +kernel
theorem d_SM_strict_40 : decode b_SM_strict 40 = .ok (.iconst 0, 1) := by decide +kernel
theorem d_SM_strict_41 : decode b_SM_strict 41 = .ok (.invokevirtual 143, 3) := by decide +kernel
theorem d_SM_strict_44 : decode b_SM_strict 44 = .ok (.ireturn, 1) := by decide +kernel
theorem d_SM_otherwise_0 : decode b_SM_otherwise 0 = .ok (.aload_n 0, 1) := by decide +kernel
theorem d_SM_otherwise_1 : decode b_SM_otherwise 1 = .ok (.iload_n 1, 1) := by decide +kernel
theorem d_SM_otherwise_2 : decode b_SM_otherwise 2 = .ok (.bipush 10, 2) := by decide +kernel
theorem d_SM_otherwise_4 : decode b_SM_otherwise 4 = .ok (.invokevirtual 71, 3) := by decide +kernel
theorem d_SM_otherwise_7 : decode b_SM_otherwise 7 = .ok (.ifCond .ne 20, 3) := by decide +kernel
theorem d_SM_otherwise_10 : decode b_SM_otherwise 10 = .ok (.aload_n 0, 1) := by decide +kernel
theorem d_SM_otherwise_11 : decode b_SM_otherwise 11 = .ok (.iload_n 2, 1) := by decide +kernel
theorem d_SM_otherwise_12 : decode b_SM_otherwise 12 = .ok (.invokevirtual 150, 3) := by decide +kernel
theorem d_SM_otherwise_15 : decode b_SM_otherwise 15 = .ok (.ifCond .ne 12, 3) := by decide +kernel
theorem d_SM_otherwise_18 : decode b_SM_otherwise 18 = .ok (.aload_n 0, 1) := by decide +kernel
theorem d_SM_otherwise_19 : decode b_SM_otherwise 19 = .ok (.iload_n 3, 1) := by decide +kernel
theorem d_SM_otherwise_20 : decode b_SM_otherwise 20 = .ok (.iconst 3, 1) := by decide +kernel
theorem d_SM_otherwise_21 : decode b_SM_otherwise 21 = .ok (.invokevirtual 71, 3) := by decide +kernel
theorem d_SM_otherwise_24 : decode b_SM_otherwise 24 = .ok (.ifCond .eq 7, 3) := by decide +kernel
theorem d_SM_otherwise_27 : decode b_SM_otherwise 27 = .ok (.iconst (-1), 1) := by decide +kernel
theorem d_SM_otherwise_28 : decode b_SM_otherwise 28 = .ok (.goto 17, 3) := by decide +kernel
theorem d_SM_otherwise_31 : decode b_SM_otherwise 31 = .ok (.aload_n 0, 1) := by decide +kernel
theorem d_SM_otherwise_32 : decode b_SM_otherwise 32 = .ok (.iload_n 1, 1) := by decide +kernel
theorem d_SM_otherwise_33 : decode b_SM_otherwise 33 = .ok (.iconst 4, 1) := by decide +kernel
theorem d_SM_otherwise_34 : decode b_SM_otherwise 34 = .ok (.aload_n 0, 1) := by decide +kernel
theorem d_SM_otherwise_35 : decode b_SM_otherwise 35 = .ok (.getfield 43, 3) := by decide +kernel
theorem d_SM_otherwise_38 : decode b_SM_otherwise 38 = .ok (.iload_n 2, 1) := by decide +kernel
theorem d_SM_otherwise_39 : decode b_SM_otherwise 39 = .ok (.iaload, 1) := by decide +kernel
theorem d_SM_otherwise_40 : decode b_SM_otherwise 40 = .ok (.iconst (-1), 1) := by decide +kernel
theorem d_SM_otherwise_41 : decode b_SM_otherwise 41 = .ok (.iload_n 3, 1) := by decide +kernel
theorem d_SM_otherwise_42 : decode b_SM_otherwise 42 = .ok (.invokevirtual 143, 3) := by decide +kernel
theorem d_SM_otherwise_45 : decode b_SM_otherwise 45 = .ok (.ireturn, 1) := by decide +kernel
theorem d_SM_only_0 : decode b_SM_only 0 = .ok (.aload_n 0, 1) := by decide +kernel
theorem d_SM_only_1 : decode b_SM_only 1 = .ok (.iload_n 1, 1) := by decide +kernel
theorem d_SM_only_2 : decode b_SM_only 2 = .ok (.bipush 10, 2) := by decide +kernel
theorem d_SM_only_4 : decode b_SM_only 4 = .ok (.invokevirtual 71, 3) := by decide +kernel
theorem d_SM_only_7 : decode b_SM_only 7 = .ok (.ifCond .ne 11, 3) := by decide +kernel
theorem d_SM_only_10 : decode b_SM_only 10 = .ok (.aload_n 0, 1) := by decide +kernel
theorem d_SM_only_11 : decode b_SM_only 11 = .ok (.iload_n 2, 1) := by decide +kernel
theorem d_SM_only_12 : decode b_SM_only 12 = .ok (.invokevirtual 150, 3) := by decide +kernel
theorem d_SM_only_15 : decode b_SM_only 15 = .ok (.ifCond .eq 7, 3) := by decide +kernel
theorem d_SM_only_18 : decode b_SM_only 18 = .ok (.iconst (-1), 1) := by decide +kernel
theorem d_SM_only_19 : decode b_SM_only 19 = .ok (.goto 17, 3) := by decide +kernel
theorem d_SM_only_22 : decode b_SM_only 22 = .ok (.aload_n 0, 1) := by decide +kernel
theorem d_SM_only_23 : decode b_SM_only 23 = .ok (.iload_n 1, 1) := by decide +kernel
theorem d_SM_only_24 : decode b_SM_only 24 = .ok (.iconst 5, 1) := by decide +kernel
theorem d_SM_only_25 : decode b_SM_only 25 = .ok (.aload_n 0, 1) := by decide +kernel
theorem d_SM_only_26 : decode b_SM_only 26 = .ok (.getfield 43, 3) := by decide +kernel
theorem d_SM_only_29 : decode b_SM_only 29 = .ok (.iload_n 2, 1) := by decide +kernel
theorem d_SM_only_30 : decode b_SM_only 30 = .ok (.iaload, 1) := by decide +kernel
theorem d_SM_only_31 : decode b_SM_only 31 = .ok (.iconst (-1), 1) := by decide +kernel
theorem d_SM_only_32 : decode b_SM_only 32 = .ok (.iconst 0, 1) := by decide +kernel
theorem d_SM_only_33 : decode b_SM_only 33 = .ok (.invokevirtual 143, 3) := by decide +kernel
theorem d_SM_only_36 : decode b_SM_only 36 = .ok (.ireturn, 1) := by decide +kernel
set_option maxHeartbeats 4000000 in
set_option maxRecDepth 100000 in
/-- strict -/
theorem c_SM_strict (G : GG) (l : Launch) (sz : Nat) (f : Wd) {mo c0 pn nn mn : Nat} {ar : Nat → Nat} {pt nt mt : Nat → Int32} {dp rf by_ co tx lx : Int32} {fl : Nat → Option FV} (hR : MR G c0 mo ar f pn pt nn nt mn mt dp rf by_ co tx lx fl) (hc0 : c0 < 512) (xt x : Int32) {al : Int32} (h_al : al = 0 ∨ al = 1) : Ci G l y_SM_strict b_SM_strict 4 (some .int) ({ frames := 2, cells := 0, slots := 0, locals := 43 }) sz f [.ref mo, .int xt, .int x, .int al] (fun v f' => ((¬ (¬ xt < 0 ∧ ¬ 10 ≤ xt) ∨ noF fl x) → v = -1 ∧ MRR G c0 mo ar f f' pn pt nn nt mn mt dp rf by_ co tx lx fl) ∧ ∀ (kt k : Nat) (vv : FV), kt < 10 → xt = nI kt → k < 10 → x = nI k → fl k = some vv → (8 ≤ vv.2.2.1 → v = -3 ∧ MRR G c0 mo ar f f' pn pt nn nt mn mt dp rf by_ co tx lx fl) ∧ (¬ 8 ≤ vv.2.2.1 → v = 0 ∧ MRR G c0 mo ar f f' pn pt nn nt mn mt dp rf by_ co tx lx (va_up fl kt (some ((3, vv.2.1, 1 + vv.2.2.1, anS al vv.2.2.2.1, TI0) : FV))))) := by
  refine ct_of (by decide) (Nat.le_of_ble_eq_true rfl) ?_
  intro p e s m below meth c ls H locs hEn
  obtain ⟨hc, hr, hlk, hin, hE, hw, hsz, hl⟩ := hEn
  have hx := hc.1
  have hb := hc.2.1
  have hl : lv_has ls 4 [(0, .ref mo), (1, .int xt), (2, .int x), (3, .int al)] := hl
  have hX : Mx mo ar f f := Mx.rf
  obtain ⟨sc, av, b, md, hM, hMS⟩ := hR
  have hMS0 := hMS
  obtain ⟨⟨h0, h1, h2, h3, h4⟩, ⟨h5, h6, h7⟩, ⟨h8, h9, h10⟩, ⟨hA, hnt, hmt, hS⟩, ⟨hbc, hmd, hpn, hnn, hmn⟩, hSL⟩ := hMS
  have hbn : b + pn ≤ 4200 := by omega
  refine lv_aload_n hx hb d_SM_strict_0 rfl (lv_at hl 0 rfl) ?_
  refine lv_iload_n hx hb d_SM_strict_1 rfl (lv_at hl 1 rfl) ?_
  refine lv_bipush (v := 10) hx hb d_SM_strict_2 (by decide) ?_
  refine m_calli hw (m_runV (As := [.int xt, .int 10]) (rest := []) hc hE hw (c_SM_out G l H.size f hM xt 10) hM.1 rfl cw_SM_71 se_SM_out rfl hl.1 rfl (Nat.le_of_ble_eq_true rfl) d_SM_strict_4 ⟨rfl, rfl, by decide, by decide⟩ ⟨by first | decide | (dsimp only; omega), by first | decide | (dsimp only; omega)⟩) (fun r23 g22 H locs p21 hw => ?_)
  obtain ⟨rfl, p21⟩ := p21
  subst p21
  refine lv_if_ne (tgt := 18) hx hb d_SM_strict_7 (by decide) (fun c24 => ?_) (fun c24 => ?_)
  · have c24n : (xt < 0 ∨ 10 ≤ xt) := bI_n.mp c24
    refine lv_iconst (v := (-1)) hx hb d_SM_strict_18 (by decide) ?_
    refine lv_goto (tgt := 44) hx hb d_SM_strict_19 (by decide) ?_
    exact m_iret hc hr hlk hw ⟨by first | decide | (dsimp only; omega), by first | decide | (dsimp only; omega)⟩ d_SM_strict_44 ⟨fun _ => ⟨rfl, ⟨⟨_, av, b, md, hM, hMS0.fr (fun _ _ => rfl)⟩, hX⟩⟩, fun kt k vv g1 g2 g3 g4 g5 => absurd c24n (by rw [g2]; exact fun z => z.elim (plc g1).1 (plc g1).2)⟩
  · have c24n : ¬ (xt < 0 ∨ 10 ≤ xt) := bI_0.mp c24
    refine lv_aload_n hx hb d_SM_strict_10 rfl (lv_at hl 0 rfl) ?_
    refine lv_iload_n hx hb d_SM_strict_11 rfl (lv_at hl 2 rfl) ?_
    refine m_calli hw (m_runV (As := [.int x]) (rest := []) hc hE hw (c_SM_none G l H.size f hM x) hM.1 rfl cw_SM_150 se_SM_none rfl hl.1 rfl (Nat.le_of_ble_eq_true rfl) d_SM_strict_12 ⟨rfl, rfl, by decide, by decide⟩ ⟨by first | decide | (dsimp only; omega), by first | decide | (dsimp only; omega)⟩) (fun r27 g26 H locs p25 hw => ?_)
    obtain ⟨rfl, p25⟩ := p25
    subst p25
    refine lv_if_eq (tgt := 22) hx hb d_SM_strict_15 (by decide) (fun c28 => ?_) (fun c28 => ?_)
    · have c28n : ¬ (noS (av 11) x) := bI_0.mp c28
      obtain ⟨kt0, hkt0, hxt0⟩ := plc_of (x := xt) c24n
      obtain ⟨k0, nd0, v0, hk0, hxk0, hfl0, hsl0, hNH0⟩ := hSL.some (x := x) c28n
      have hlt0 := hNH0.lt
      obtain ⟨l0, g0, hl0, hg0, hl10, hl20, hg10, hg20, hNV0⟩ := hNH0
      have hlh0 := hNV0.lh
      refine lv_aload_n hx hb d_SM_strict_22 rfl (lv_at hl 0 rfl) ?_
      refine lv_iload_n hx hb d_SM_strict_23 rfl (lv_at hl 1 rfl) ?_
      refine lv_iconst (v := 3) hx hb d_SM_strict_24 (by decide) ?_
      refine lv_aload_n hx hb d_SM_strict_25 rfl (lv_at hl 0 rfl) ?_
      refine m_mget (v := .ref (ar 11)) hc hE hw hM l_SM_43_SM rfl d_SM_strict_26 ?_
      refine lv_iload_n hx hb d_SM_strict_29 rfl (lv_at hl 2 rfl) ?_
      refine m_mald (v := (nI nd0)) hc hE hw hM (k := 11) (by decide) (by rw [hxk0]; exact vp_in_nI hk0 (by decide)) (rfl.trans (by rw [hxk0, nI_clamp (by omega)]; exact hsl0)) d_SM_strict_30 ?_
      refine lv_iconst (v := (-1)) hx hb d_SM_strict_31 (by decide) ?_
      refine lv_iload_n hx hb d_SM_strict_32 rfl (lv_at hl 3 rfl) ?_
      refine lv_if_eq (tgt := 40) hx hb d_SM_strict_33 (by decide) (fun c29 => ?_) (fun c29 => ?_)
      · refine lv_iconst (v := 0) hx hb d_SM_strict_40 (by decide) ?_
        refine m_calli hw (m_runV (As := [.int xt, .int 3, .int (nI nd0), .int (-1), .int 0]) (rest := []) hc hE hw (c_SM_make1 G l H.size f hM xt hxt0 hkt0 (by omega) h0 h1 h4 hbn 3 0 (i := nd0) (by omega) (hlh0.2.1.trans hl0) (hlh0.2.2.trans hg0) hl20 hg20) hM.1 rfl cw_SM_143 se_SM_make rfl hl.1 rfl (Nat.le_of_ble_eq_true rfl) d_SM_strict_41 ⟨rfl, rfl, by decide, by decide⟩ ⟨by first | decide | (dsimp only; omega), by first | decide | (dsimp only; omega)⟩) (fun r32 g31 H locs p30 hw => ?_)
        obtain ⟨hp0, hXm⟩ := p30
        have hcase : (1 + g0 ≤ 8) = (¬ 8 ≤ v0.2.2.1) := by rw [hg0]; exact propext ⟨fun z y => absurd ((nI_leI (a := 8) (b := g0) (by omega) (by omega)).mp y) (by omega), fun z => Nat.not_lt.mp (fun y => z (nI_le (a := 8) (b := g0) (by omega) (by omega)))⟩
        have hsame : ∀ (kt k : Nat) (vv : FV), xt = nI kt → k < 10 → x = nI k → fl k = some vv → kt < 10 → kt = kt0 ∧ vv = v0 := fun kt k vv g2 g3 g4 g5 g1 => ⟨(nI_eq (by omega) (by omega)).mp (g2.symm.trans hxt0), by have ek : k = k0 := (nI_eq (by omega) (by omega)).mp (g4.symm.trans hxk0); subst ek; exact Option.some.inj (g5.symm.trans hfl0)⟩
        exact m_iret hc hr hlk hw ⟨by first | decide | (dsimp only; omega), by first | decide | (dsimp only; omega)⟩ d_SM_strict_44 ⟨fun z => absurd z (fun z => z.elim (fun y => y ⟨fun q => c24n (Or.inl q), fun q => c24n (Or.inr q)⟩) (fun y => c28n ((hSL.no (by omega)).mpr y))), fun kt k vv g1 g2 g3 g4 g5 => by obtain ⟨e1, e2⟩ := hsame kt k vv g2 g3 g4 g5 g1; subst e1; subst e2; exact ⟨fun z => ⟨(hp0.2 (fun y => (hcase ▸ y) z)).1, ⟨_, av, b, md, (hp0.2 (fun y => (hcase ▸ y) z)).2, hMS0.fr (fun _ _ => rfl)⟩, hXm⟩, fun z => ⟨(hp0.1 (hcase.symm ▸ z)).1, ⟨_, _, b, md + 1, (hp0.1 (hcase.symm ▸ z)).2, hMS0.mk rfl (fun k hk h4 => upd_ne' _ _ _ h4) (by have eal : al = 0 := c29; rw [eal]; exact mk_strict hNV0 hl0 hg0 hl10 hl20 (hcase.symm ▸ z) (by decide))⟩, hXm⟩⟩⟩
      · refine lv_iconst (v := 1) hx hb d_SM_strict_36 (by decide) ?_
        refine lv_goto (tgt := 41) hx hb d_SM_strict_37 (by decide) ?_
        refine m_calli hw (m_runV (As := [.int xt, .int 3, .int (nI nd0), .int (-1), .int 1]) (rest := []) hc hE hw (c_SM_make1 G l H.size f hM xt hxt0 hkt0 (by omega) h0 h1 h4 hbn 3 1 (i := nd0) (by omega) (hlh0.2.1.trans hl0) (hlh0.2.2.trans hg0) hl20 hg20) hM.1 rfl cw_SM_143 se_SM_make rfl hl.1 rfl (Nat.le_of_ble_eq_true rfl) d_SM_strict_41 ⟨rfl, rfl, by decide, by decide⟩ ⟨by first | decide | (dsimp only; omega), by first | decide | (dsimp only; omega)⟩) (fun r35 g34 H locs p33 hw => ?_)
        obtain ⟨hp0, hXm⟩ := p33
        have hcase : (1 + g0 ≤ 8) = (¬ 8 ≤ v0.2.2.1) := by rw [hg0]; exact propext ⟨fun z y => absurd ((nI_leI (a := 8) (b := g0) (by omega) (by omega)).mp y) (by omega), fun z => Nat.not_lt.mp (fun y => z (nI_le (a := 8) (b := g0) (by omega) (by omega)))⟩
        have hsame : ∀ (kt k : Nat) (vv : FV), xt = nI kt → k < 10 → x = nI k → fl k = some vv → kt < 10 → kt = kt0 ∧ vv = v0 := fun kt k vv g2 g3 g4 g5 g1 => ⟨(nI_eq (by omega) (by omega)).mp (g2.symm.trans hxt0), by have ek : k = k0 := (nI_eq (by omega) (by omega)).mp (g4.symm.trans hxk0); subst ek; exact Option.some.inj (g5.symm.trans hfl0)⟩
        exact m_iret hc hr hlk hw ⟨by first | decide | (dsimp only; omega), by first | decide | (dsimp only; omega)⟩ d_SM_strict_44 ⟨fun z => absurd z (fun z => z.elim (fun y => y ⟨fun q => c24n (Or.inl q), fun q => c24n (Or.inr q)⟩) (fun y => c28n ((hSL.no (by omega)).mpr y))), fun kt k vv g1 g2 g3 g4 g5 => by obtain ⟨e1, e2⟩ := hsame kt k vv g2 g3 g4 g5 g1; subst e1; subst e2; exact ⟨fun z => ⟨(hp0.2 (fun y => (hcase ▸ y) z)).1, ⟨_, av, b, md, (hp0.2 (fun y => (hcase ▸ y) z)).2, hMS0.fr (fun _ _ => rfl)⟩, hXm⟩, fun z => ⟨(hp0.1 (hcase.symm ▸ z)).1, ⟨_, _, b, md + 1, (hp0.1 (hcase.symm ▸ z)).2, hMS0.mk rfl (fun k hk h4 => upd_ne' _ _ _ h4) (by have eal : al = 1 := h_al.resolve_left c29; rw [eal]; exact mk_strict hNV0 hl0 hg0 hl10 hl20 (hcase.symm ▸ z) (by decide))⟩, hXm⟩⟩⟩
    · have c28n : (noS (av 11) x) := bI_n.mp c28
      refine lv_iconst (v := (-1)) hx hb d_SM_strict_18 (by decide) ?_
      refine lv_goto (tgt := 44) hx hb d_SM_strict_19 (by decide) ?_
      exact m_iret hc hr hlk hw ⟨by first | decide | (dsimp only; omega), by first | decide | (dsimp only; omega)⟩ d_SM_strict_44 ⟨fun _ => ⟨rfl, ⟨⟨_, av, b, md, hM, hMS0.fr (fun _ _ => rfl)⟩, hX⟩⟩, fun kt k vv g1 g2 g3 g4 g5 => absurd (((hSL.no (by omega)).mp c28n k g3 g4).symm.trans g5) (by intro z; cases z)⟩

set_option maxHeartbeats 4000000 in
set_option maxRecDepth 100000 in
/-- only -/
theorem c_SM_only (G : GG) (l : Launch) (sz : Nat) (f : Wd) {mo c0 pn nn mn : Nat} {ar : Nat → Nat} {pt nt mt : Nat → Int32} {dp rf by_ co tx lx : Int32} {fl : Nat → Option FV} (hR : MR G c0 mo ar f pn pt nn nt mn mt dp rf by_ co tx lx fl) (hc0 : c0 < 512) (xt x : Int32) : Ci G l y_SM_only b_SM_only 3 (some .int) ({ frames := 2, cells := 0, slots := 0, locals := 43 }) sz f [.ref mo, .int xt, .int x] (fun v f' => ((¬ (¬ xt < 0 ∧ ¬ 10 ≤ xt) ∨ noF fl x) → v = -1 ∧ MRR G c0 mo ar f f' pn pt nn nt mn mt dp rf by_ co tx lx fl) ∧ ∀ (kt k : Nat) (vv : FV), kt < 10 → xt = nI kt → k < 10 → x = nI k → fl k = some vv → (8 ≤ vv.2.2.1 → v = -3 ∧ MRR G c0 mo ar f f' pn pt nn nt mn mt dp rf by_ co tx lx fl) ∧ (¬ 8 ≤ vv.2.2.1 → v = 0 ∧ MRR G c0 mo ar f f' pn pt nn nt mn mt dp rf by_ co tx lx (va_up fl kt (some ((5, vv.2.1, 1 + vv.2.2.1, anO pn pt vv.2.2.2.1, TI0) : FV))))) := by
  refine ct_of (by decide) (Nat.le_of_ble_eq_true rfl) ?_
  intro p e s m below meth c ls H locs hEn
  obtain ⟨hc, hr, hlk, hin, hE, hw, hsz, hl⟩ := hEn
  have hx := hc.1
  have hb := hc.2.1
  have hl : lv_has ls 3 [(0, .ref mo), (1, .int xt), (2, .int x)] := hl
  have hX : Mx mo ar f f := Mx.rf
  obtain ⟨sc, av, b, md, hM, hMS⟩ := hR
  have hMS0 := hMS
  obtain ⟨⟨h0, h1, h2, h3, h4⟩, ⟨h5, h6, h7⟩, ⟨h8, h9, h10⟩, ⟨hA, hnt, hmt, hS⟩, ⟨hbc, hmd, hpn, hnn, hmn⟩, hSL⟩ := hMS
  have hbn : b + pn ≤ 4200 := by omega
  refine lv_aload_n hx hb d_SM_only_0 rfl (lv_at hl 0 rfl) ?_
  refine lv_iload_n hx hb d_SM_only_1 rfl (lv_at hl 1 rfl) ?_
  refine lv_bipush (v := 10) hx hb d_SM_only_2 (by decide) ?_
  refine m_calli hw (m_runV (As := [.int xt, .int 10]) (rest := []) hc hE hw (c_SM_out G l H.size f hM xt 10) hM.1 rfl cw_SM_71 se_SM_out rfl hl.1 rfl (Nat.le_of_ble_eq_true rfl) d_SM_only_4 ⟨rfl, rfl, by decide, by decide⟩ ⟨by first | decide | (dsimp only; omega), by first | decide | (dsimp only; omega)⟩) (fun r23 g22 H locs p21 hw => ?_)
  obtain ⟨rfl, p21⟩ := p21
  subst p21
  refine lv_if_ne (tgt := 18) hx hb d_SM_only_7 (by decide) (fun c24 => ?_) (fun c24 => ?_)
  · have c24n : (xt < 0 ∨ 10 ≤ xt) := bI_n.mp c24
    refine lv_iconst (v := (-1)) hx hb d_SM_only_18 (by decide) ?_
    refine lv_goto (tgt := 36) hx hb d_SM_only_19 (by decide) ?_
    exact m_iret hc hr hlk hw ⟨by first | decide | (dsimp only; omega), by first | decide | (dsimp only; omega)⟩ d_SM_only_36 ⟨fun _ => ⟨rfl, ⟨⟨_, av, b, md, hM, hMS0.fr (fun _ _ => rfl)⟩, hX⟩⟩, fun kt k vv g1 g2 g3 g4 g5 => absurd c24n (by rw [g2]; exact fun z => z.elim (plc g1).1 (plc g1).2)⟩
  · have c24n : ¬ (xt < 0 ∨ 10 ≤ xt) := bI_0.mp c24
    refine lv_aload_n hx hb d_SM_only_10 rfl (lv_at hl 0 rfl) ?_
    refine lv_iload_n hx hb d_SM_only_11 rfl (lv_at hl 2 rfl) ?_
    refine m_calli hw (m_runV (As := [.int x]) (rest := []) hc hE hw (c_SM_none G l H.size f hM x) hM.1 rfl cw_SM_150 se_SM_none rfl hl.1 rfl (Nat.le_of_ble_eq_true rfl) d_SM_only_12 ⟨rfl, rfl, by decide, by decide⟩ ⟨by first | decide | (dsimp only; omega), by first | decide | (dsimp only; omega)⟩) (fun r27 g26 H locs p25 hw => ?_)
    obtain ⟨rfl, p25⟩ := p25
    subst p25
    refine lv_if_eq (tgt := 22) hx hb d_SM_only_15 (by decide) (fun c28 => ?_) (fun c28 => ?_)
    · have c28n : ¬ (noS (av 11) x) := bI_0.mp c28
      obtain ⟨kt0, hkt0, hxt0⟩ := plc_of (x := xt) c24n
      obtain ⟨k0, nd0, v0, hk0, hxk0, hfl0, hsl0, hNH0⟩ := hSL.some (x := x) c28n
      have hlt0 := hNH0.lt
      obtain ⟨l0, g0, hl0, hg0, hl10, hl20, hg10, hg20, hNV0⟩ := hNH0
      have hlh0 := hNV0.lh
      refine lv_aload_n hx hb d_SM_only_22 rfl (lv_at hl 0 rfl) ?_
      refine lv_iload_n hx hb d_SM_only_23 rfl (lv_at hl 1 rfl) ?_
      refine lv_iconst (v := 5) hx hb d_SM_only_24 (by decide) ?_
      refine lv_aload_n hx hb d_SM_only_25 rfl (lv_at hl 0 rfl) ?_
      refine m_mget (v := .ref (ar 11)) hc hE hw hM l_SM_43_SM rfl d_SM_only_26 ?_
      refine lv_iload_n hx hb d_SM_only_29 rfl (lv_at hl 2 rfl) ?_
      refine m_mald (v := (nI nd0)) hc hE hw hM (k := 11) (by decide) (by rw [hxk0]; exact vp_in_nI hk0 (by decide)) (rfl.trans (by rw [hxk0, nI_clamp (by omega)]; exact hsl0)) d_SM_only_30 ?_
      refine lv_iconst (v := (-1)) hx hb d_SM_only_31 (by decide) ?_
      refine lv_iconst (v := 0) hx hb d_SM_only_32 (by decide) ?_
      refine m_calli hw (m_runV (As := [.int xt, .int 5, .int (nI nd0), .int (-1), .int 0]) (rest := []) hc hE hw (c_SM_make1 G l H.size f hM xt hxt0 hkt0 (by omega) h0 h1 h4 hbn 5 0 (i := nd0) (by omega) (hlh0.2.1.trans hl0) (hlh0.2.2.trans hg0) hl20 hg20) hM.1 rfl cw_SM_143 se_SM_make rfl hl.1 rfl (Nat.le_of_ble_eq_true rfl) d_SM_only_33 ⟨rfl, rfl, by decide, by decide⟩ ⟨by first | decide | (dsimp only; omega), by first | decide | (dsimp only; omega)⟩) (fun r31 g30 H locs p29 hw => ?_)
      obtain ⟨hp0, hXm⟩ := p29
      have hcase : (1 + g0 ≤ 8) = (¬ 8 ≤ v0.2.2.1) := by rw [hg0]; exact propext ⟨fun z y => absurd ((nI_leI (a := 8) (b := g0) (by omega) (by omega)).mp y) (by omega), fun z => Nat.not_lt.mp (fun y => z (nI_le (a := 8) (b := g0) (by omega) (by omega)))⟩
      have hsame : ∀ (kt k : Nat) (vv : FV), xt = nI kt → k < 10 → x = nI k → fl k = some vv → kt < 10 → kt = kt0 ∧ vv = v0 := fun kt k vv g2 g3 g4 g5 g1 => ⟨(nI_eq (by omega) (by omega)).mp (g2.symm.trans hxt0), by have ek : k = k0 := (nI_eq (by omega) (by omega)).mp (g4.symm.trans hxk0); subst ek; exact Option.some.inj (g5.symm.trans hfl0)⟩
      exact m_iret hc hr hlk hw ⟨by first | decide | (dsimp only; omega), by first | decide | (dsimp only; omega)⟩ d_SM_only_36 ⟨fun z => absurd z (fun z => z.elim (fun y => y ⟨fun q => c24n (Or.inl q), fun q => c24n (Or.inr q)⟩) (fun y => c28n ((hSL.no (by omega)).mpr y))), fun kt k vv g1 g2 g3 g4 g5 => by obtain ⟨e1, e2⟩ := hsame kt k vv g2 g3 g4 g5 g1; subst e1; subst e2; exact ⟨fun z => ⟨(hp0.2 (fun y => (hcase ▸ y) z)).1, ⟨_, av, b, md, (hp0.2 (fun y => (hcase ▸ y) z)).2, hMS0.fr (fun _ _ => rfl)⟩, hXm⟩, fun z => ⟨(hp0.1 (hcase.symm ▸ z)).1, ⟨_, _, b, md + 1, (hp0.1 (hcase.symm ▸ z)).2, hMS0.mk rfl (fun k hk h4 => upd_ne' _ _ _ h4) (mk_only hNV0 hl0 hg0 hl10 hl20 (hcase.symm ▸ z) hA (Nat.le_refl _))⟩, hXm⟩⟩⟩
    · have c28n : (noS (av 11) x) := bI_n.mp c28
      refine lv_iconst (v := (-1)) hx hb d_SM_only_18 (by decide) ?_
      refine lv_goto (tgt := 36) hx hb d_SM_only_19 (by decide) ?_
      exact m_iret hc hr hlk hw ⟨by first | decide | (dsimp only; omega), by first | decide | (dsimp only; omega)⟩ d_SM_only_36 ⟨fun _ => ⟨rfl, ⟨⟨_, av, b, md, hM, hMS0.fr (fun _ _ => rfl)⟩, hX⟩⟩, fun kt k vv g1 g2 g3 g4 g5 => absurd (((hSL.no (by omega)).mp c28n k g3 g4).symm.trans g5) (by intro z; cases z)⟩

set_option maxHeartbeats 4000000 in
set_option maxRecDepth 100000 in
/-- otherwise -/
theorem c_SM_otherwise (G : GG) (l : Launch) (sz : Nat) (f : Wd) {mo c0 pn nn mn : Nat} {ar : Nat → Nat} {pt nt mt : Nat → Int32} {dp rf by_ co tx lx : Int32} {fl : Nat → Option FV} (hR : MR G c0 mo ar f pn pt nn nt mn mt dp rf by_ co tx lx fl) (hc0 : c0 < 512) (xt x : Int32) (gv : Int32) : Ci G l y_SM_otherwise b_SM_otherwise 4 (some .int) ({ frames := 2, cells := 0, slots := 0, locals := 43 }) sz f [.ref mo, .int xt, .int x, .int gv] (fun v f' => ((¬ (¬ xt < 0 ∧ ¬ 10 ≤ xt) ∨ noF fl x ∨ gv < 0 ∨ ¬ gv ≤ 2) → v = -1 ∧ MRR G c0 mo ar f f' pn pt nn nt mn mt dp rf by_ co tx lx fl) ∧ ∀ (kt k : Nat) (vv : FV), kt < 10 → xt = nI kt → k < 10 → x = nI k → fl k = some vv → ¬ (gv < 0 ∨ ¬ gv ≤ 2) → (8 ≤ vv.2.2.1 → v = -3 ∧ MRR G c0 mo ar f f' pn pt nn nt mn mt dp rf by_ co tx lx fl) ∧ (¬ 8 ≤ vv.2.2.1 → v = 0 ∧ MRR G c0 mo ar f f' pn pt nn nt mn mt dp rf by_ co tx lx (va_up fl kt (some ((4, vv.2.1, 1 + vv.2.2.1, anD gv vv.2.2.2.1, TI0) : FV))))) := by
  refine ct_of (by decide) (Nat.le_of_ble_eq_true rfl) ?_
  intro p e s m below meth c ls H locs hEn
  obtain ⟨hc, hr, hlk, hin, hE, hw, hsz, hl⟩ := hEn
  have hx := hc.1
  have hb := hc.2.1
  have hl : lv_has ls 4 [(0, .ref mo), (1, .int xt), (2, .int x), (3, .int gv)] := hl
  have hX : Mx mo ar f f := Mx.rf
  obtain ⟨sc, av, b, md, hM, hMS⟩ := hR
  have hMS0 := hMS
  obtain ⟨⟨h0, h1, h2, h3, h4⟩, ⟨h5, h6, h7⟩, ⟨h8, h9, h10⟩, ⟨hA, hnt, hmt, hS⟩, ⟨hbc, hmd, hpn, hnn, hmn⟩, hSL⟩ := hMS
  have hbn : b + pn ≤ 4200 := by omega
  refine lv_aload_n hx hb d_SM_otherwise_0 rfl (lv_at hl 0 rfl) ?_
  refine lv_iload_n hx hb d_SM_otherwise_1 rfl (lv_at hl 1 rfl) ?_
  refine lv_bipush (v := 10) hx hb d_SM_otherwise_2 (by decide) ?_
  refine m_calli hw (m_runV (As := [.int xt, .int 10]) (rest := []) hc hE hw (c_SM_out G l H.size f hM xt 10) hM.1 rfl cw_SM_71 se_SM_out rfl hl.1 rfl (Nat.le_of_ble_eq_true rfl) d_SM_otherwise_4 ⟨rfl, rfl, by decide, by decide⟩ ⟨by first | decide | (dsimp only; omega), by first | decide | (dsimp only; omega)⟩) (fun r23 g22 H locs p21 hw => ?_)
  obtain ⟨rfl, p21⟩ := p21
  subst p21
  refine lv_if_ne (tgt := 27) hx hb d_SM_otherwise_7 (by decide) (fun c24 => ?_) (fun c24 => ?_)
  · have c24n : (xt < 0 ∨ 10 ≤ xt) := bI_n.mp c24
    refine lv_iconst (v := (-1)) hx hb d_SM_otherwise_27 (by decide) ?_
    refine lv_goto (tgt := 45) hx hb d_SM_otherwise_28 (by decide) ?_
    exact m_iret hc hr hlk hw ⟨by first | decide | (dsimp only; omega), by first | decide | (dsimp only; omega)⟩ d_SM_otherwise_45 ⟨fun _ => ⟨rfl, ⟨⟨_, av, b, md, hM, hMS0.fr (fun _ _ => rfl)⟩, hX⟩⟩, fun kt k vv g1 g2 g3 g4 g5 => fun _ => absurd c24n (by rw [g2]; exact fun z => z.elim (plc g1).1 (plc g1).2)⟩
  · have c24n : ¬ (xt < 0 ∨ 10 ≤ xt) := bI_0.mp c24
    refine lv_aload_n hx hb d_SM_otherwise_10 rfl (lv_at hl 0 rfl) ?_
    refine lv_iload_n hx hb d_SM_otherwise_11 rfl (lv_at hl 2 rfl) ?_
    refine m_calli hw (m_runV (As := [.int x]) (rest := []) hc hE hw (c_SM_none G l H.size f hM x) hM.1 rfl cw_SM_150 se_SM_none rfl hl.1 rfl (Nat.le_of_ble_eq_true rfl) d_SM_otherwise_12 ⟨rfl, rfl, by decide, by decide⟩ ⟨by first | decide | (dsimp only; omega), by first | decide | (dsimp only; omega)⟩) (fun r27 g26 H locs p25 hw => ?_)
    obtain ⟨rfl, p25⟩ := p25
    subst p25
    refine lv_if_ne (tgt := 27) hx hb d_SM_otherwise_15 (by decide) (fun c28 => ?_) (fun c28 => ?_)
    · have c28n : (noS (av 11) x) := bI_n.mp c28
      refine lv_iconst (v := (-1)) hx hb d_SM_otherwise_27 (by decide) ?_
      refine lv_goto (tgt := 45) hx hb d_SM_otherwise_28 (by decide) ?_
      exact m_iret hc hr hlk hw ⟨by first | decide | (dsimp only; omega), by first | decide | (dsimp only; omega)⟩ d_SM_otherwise_45 ⟨fun _ => ⟨rfl, ⟨⟨_, av, b, md, hM, hMS0.fr (fun _ _ => rfl)⟩, hX⟩⟩, fun kt k vv g1 g2 g3 g4 g5 => fun _ => absurd (((hSL.no (by omega)).mp c28n k g3 g4).symm.trans g5) (by intro z; cases z)⟩
    · have c28n : ¬ (noS (av 11) x) := bI_0.mp c28
      refine lv_aload_n hx hb d_SM_otherwise_18 rfl (lv_at hl 0 rfl) ?_
      refine lv_iload_n hx hb d_SM_otherwise_19 rfl (lv_at hl 3 rfl) ?_
      refine lv_iconst (v := 3) hx hb d_SM_otherwise_20 (by decide) ?_
      refine m_calli hw (m_runV (As := [.int gv, .int 3]) (rest := []) hc hE hw (c_SM_out G l H.size f hM gv 3) hM.1 rfl cw_SM_71 se_SM_out rfl hl.1 rfl (Nat.le_of_ble_eq_true rfl) d_SM_otherwise_21 ⟨rfl, rfl, by decide, by decide⟩ ⟨by first | decide | (dsimp only; omega), by first | decide | (dsimp only; omega)⟩) (fun r31 g30 H locs p29 hw => ?_)
      obtain ⟨rfl, p29⟩ := p29
      subst p29
      refine lv_if_eq (tgt := 31) hx hb d_SM_otherwise_24 (by decide) (fun c32 => ?_) (fun c32 => ?_)
      · have c32n : ¬ (gv < 0 ∨ 3 ≤ gv) := bI_0.mp c32
        obtain ⟨kt0, hkt0, hxt0⟩ := plc_of (x := xt) c24n
        obtain ⟨k0, nd0, v0, hk0, hxk0, hfl0, hsl0, hNH0⟩ := hSL.some (x := x) c28n
        have hlt0 := hNH0.lt
        obtain ⟨l0, g0, hl0, hg0, hl10, hl20, hg10, hg20, hNV0⟩ := hNH0
        have hlh0 := hNV0.lh
        refine lv_aload_n hx hb d_SM_otherwise_31 rfl (lv_at hl 0 rfl) ?_
        refine lv_iload_n hx hb d_SM_otherwise_32 rfl (lv_at hl 1 rfl) ?_
        refine lv_iconst (v := 4) hx hb d_SM_otherwise_33 (by decide) ?_
        refine lv_aload_n hx hb d_SM_otherwise_34 rfl (lv_at hl 0 rfl) ?_
        refine m_mget (v := .ref (ar 11)) hc hE hw hM l_SM_43_SM rfl d_SM_otherwise_35 ?_
        refine lv_iload_n hx hb d_SM_otherwise_38 rfl (lv_at hl 2 rfl) ?_
        refine m_mald (v := (nI nd0)) hc hE hw hM (k := 11) (by decide) (by rw [hxk0]; exact vp_in_nI hk0 (by decide)) (rfl.trans (by rw [hxk0, nI_clamp (by omega)]; exact hsl0)) d_SM_otherwise_39 ?_
        refine lv_iconst (v := (-1)) hx hb d_SM_otherwise_40 (by decide) ?_
        refine lv_iload_n hx hb d_SM_otherwise_41 rfl (lv_at hl 3 rfl) ?_
        refine m_calli hw (m_runV (As := [.int xt, .int 4, .int (nI nd0), .int (-1), .int gv]) (rest := []) hc hE hw (c_SM_make1 G l H.size f hM xt hxt0 hkt0 (by omega) h0 h1 h4 hbn 4 gv (i := nd0) (by omega) (hlh0.2.1.trans hl0) (hlh0.2.2.trans hg0) hl20 hg20) hM.1 rfl cw_SM_143 se_SM_make rfl hl.1 rfl (Nat.le_of_ble_eq_true rfl) d_SM_otherwise_42 ⟨rfl, rfl, by decide, by decide⟩ ⟨by first | decide | (dsimp only; omega), by first | decide | (dsimp only; omega)⟩) (fun r35 g34 H locs p33 hw => ?_)
        obtain ⟨hp0, hXm⟩ := p33
        have hcase : (1 + g0 ≤ 8) = (¬ 8 ≤ v0.2.2.1) := by rw [hg0]; exact propext ⟨fun z y => absurd ((nI_leI (a := 8) (b := g0) (by omega) (by omega)).mp y) (by omega), fun z => Nat.not_lt.mp (fun y => z (nI_le (a := 8) (b := g0) (by omega) (by omega)))⟩
        have hsame : ∀ (kt k : Nat) (vv : FV), xt = nI kt → k < 10 → x = nI k → fl k = some vv → kt < 10 → kt = kt0 ∧ vv = v0 := fun kt k vv g2 g3 g4 g5 g1 => ⟨(nI_eq (by omega) (by omega)).mp (g2.symm.trans hxt0), by have ek : k = k0 := (nI_eq (by omega) (by omega)).mp (g4.symm.trans hxk0); subst ek; exact Option.some.inj (g5.symm.trans hfl0)⟩
        exact m_iret hc hr hlk hw ⟨by first | decide | (dsimp only; omega), by first | decide | (dsimp only; omega)⟩ d_SM_otherwise_45 ⟨fun z => absurd z (fun z => z.elim (fun y => y ⟨fun q => c24n (Or.inl q), fun q => c24n (Or.inr q)⟩) (fun y => y.elim (fun y => c28n ((hSL.no (by omega)).mpr y)) (fun y => y.elim (fun y => c32n (Or.inl y)) (fun y => (x3_of c32n).elim (fun q => y (by rw [q]; decide)) (fun q => q.elim (fun q => y (by rw [q]; decide)) (fun q => y (by rw [q]; decide))))))), fun kt k vv g1 g2 g3 g4 g5 _ => by obtain ⟨e1, e2⟩ := hsame kt k vv g2 g3 g4 g5 g1; subst e1; subst e2; exact ⟨fun z => ⟨(hp0.2 (fun y => (hcase ▸ y) z)).1, ⟨_, av, b, md, (hp0.2 (fun y => (hcase ▸ y) z)).2, hMS0.fr (fun _ _ => rfl)⟩, hXm⟩, fun z => ⟨(hp0.1 (hcase.symm ▸ z)).1, ⟨_, _, b, md + 1, (hp0.1 (hcase.symm ▸ z)).2, hMS0.mk rfl (fun k hk h4 => upd_ne' _ _ _ h4) (mk_default hNV0 hl0 hg0 hl10 hl20 (hcase.symm ▸ z) (x3_of c32n))⟩, hXm⟩⟩⟩
      · have c32n : (gv < 0 ∨ 3 ≤ gv) := bI_n.mp c32
        refine lv_iconst (v := (-1)) hx hb d_SM_otherwise_27 (by decide) ?_
        refine lv_goto (tgt := 45) hx hb d_SM_otherwise_28 (by decide) ?_
        exact m_iret hc hr hlk hw ⟨by first | decide | (dsimp only; omega), by first | decide | (dsimp only; omega)⟩ d_SM_otherwise_45 ⟨fun _ => ⟨rfl, ⟨⟨_, av, b, md, hM, hMS0.fr (fun _ _ => rfl)⟩, hX⟩⟩, fun kt k vv g1 g2 g3 g4 g5 => fun g6 => absurd c32n (fun z => g6 (z.elim Or.inl (fun y => Or.inr (fun q => Int32.not_lt.mpr y (Int32.lt_of_le_of_lt q (by decide))))))⟩
