/-! links of the pools, as the walks ask for them -/
theorem cw_SM_147 : cwk "StreamFiltersModel" 147 y_SM_patterns b_SM_patterns 5 (some .int) 1 := ⟨Or.inl (tb 781 (by decide +kernel) rfl), (tb 784 (by decide +kernel) rfl), (tb 5 (by decide +kernel) rfl), by decide, by decide, by decide +kernel⟩
theorem se_SM_patterns : Cond.instanceMethod y_SM_patterns ∈ TB ∧ Cond.selects "StreamFiltersModel" y_SM_patterns y_SM_patterns ∈ TB := ⟨(tb 783 (by decide +kernel) rfl), (tbs 23 (by decide +kernel) rfl)⟩
/-! decode rows -/
theorem d_SM_read_0 : decode b_SM_read 0 = .ok (.aload_n 0, 1) := by decide +kernel
theorem d_SM_read_1 : decode b_SM_read 1 = .ok (.iload_n 1, 1) := by decide +kernel
theorem d_SM_read_2 : decode b_SM_read 2 = .ok (.bipush 10, 2) := by decide +kernel
theorem d_SM_read_4 : decode b_SM_read 4 = .ok (.invokevirtual 71, 3) := by decide +kernel
theorem d_SM_read_7 : decode b_SM_read 7 = .ok (.ifCond .eq 5, 3) := by decide +kernel
theorem d_SM_read_10 : decode b_SM_read 10 = .ok (.iconst (-1), 1) := by decide +kernel
theorem d_SM_read_11 : decode b_SM_read 11 = .ok (.ireturn, 1) := by decide +kernel
theorem d_SM_read_12 : decode b_SM_read 12 = .ok (.aload_n 0, 1) := by decide +kernel
theorem d_SM_read_13 : decode b_SM_read 13 = .ok (.aload_n 0, 1) := by decide +kernel
theorem d_SM_read_14 : decode b_SM_read 14 = .ok (.getfield 62, 3) := by decide +kernel
theorem d_SM_read_17 : decode b_SM_read 17 = .ok (.aload_n 0, 1) := by decide +kernel
theorem d_SM_read_18 : decode b_SM_read 18 = .ok (.getfield 59, 3) := by decide +kernel
theorem d_SM_read_21 : decode b_SM_read 21 = .ok (.invokevirtual 140, 3) := by decide +kernel
theorem d_SM_read_24 : decode b_SM_read 24 = .ok (.ifCond .lt 6, 3) := by decide +kernel
theorem d_SM_read_27 : decode b_SM_read 27 = .ok (.bipush (-2), 2) := by decide +kernel
theorem d_SM_read_29 : decode b_SM_read 29 = .ok (.ireturn, 1) := by decide +kernel
theorem d_SM_read_30 : decode b_SM_read 30 = .ok (.aload_n 0, 1) := by decide +kernel
theorem d_SM_read_31 : decode b_SM_read 31 = .ok (.iload_n 1, 1) := by decide +kernel
theorem d_SM_read_32 : decode b_SM_read 32 = .ok (.iconst 1, 1) := by decide +kernel
theorem d_SM_read_33 : decode b_SM_read 33 = .ok (.iconst (-1), 1) := by decide +kernel
theorem d_SM_read_34 : decode b_SM_read 34 = .ok (.iconst (-1), 1) := by decide +kernel
theorem d_SM_read_35 : decode b_SM_read 35 = .ok (.iload_n 2, 1) := by decide +kernel
theorem d_SM_read_36 : decode b_SM_read 36 = .ok (.ifCond .eq 7, 3) := by decide +kernel
theorem d_SM_read_39 : decode b_SM_read 39 = .ok (.iconst 1, 1) := by decide +kernel
theorem d_SM_read_40 : decode b_SM_read 40 = .ok (.goto 4, 3) := by decide +kernel
theorem d_SM_read_43 : decode b_SM_read 43 = .ok (.iconst 0, 1) := by decide +kernel
theorem d_SM_read_44 : decode b_SM_read 44 = .ok (.invokevirtual 143, 3) := by decide +kernel
theorem d_SM_read_47 : decode b_SM_read 47 = .ok (.pop, 1) := by decide +kernel
theorem d_SM_read_48 : decode b_SM_read 48 = .ok (.aload_n 0, 1) := by decide +kernel
theorem d_SM_read_49 : decode b_SM_read 49 = .ok (.aload_n 0, 1) := by decide +kernel
theorem d_SM_read_50 : decode b_SM_read 50 = .ok (.getfield 137, 3) := by decide +kernel
theorem d_SM_read_53 : decode b_SM_read 53 = .ok (.iconst 1, 1) := by decide +kernel
theorem d_SM_read_54 : decode b_SM_read 54 = .ok (.isub, 1) := by decide +kernel
theorem d_SM_read_55 : decode b_SM_read 55 = .ok (.invokevirtual 147, 3) := by decide +kernel
theorem d_SM_read_58 : decode b_SM_read 58 = .ok (.ireturn, 1) := by decide +kernel
theorem d_SM_join_0 : decode b_SM_join 0 = .ok (.aload_n 0, 1) := by decide +kernel
theorem d_SM_join_1 : decode b_SM_join 1 = .ok (.iload_n 1, 1) := by decide +kernel
theorem d_SM_join_2 : decode b_SM_join 2 = .ok (.bipush 10, 2) := by decide +kernel
theorem d_SM_join_4 : decode b_SM_join 4 = .ok (.invokevirtual 71, 3) := by decide +kernel
theorem d_SM_join_7 : decode b_SM_join 7 = .ok (.ifCond .ne 19, 3) := by decide +kernel
theorem d_SM_join_10 : decode b_SM_join 10 = .ok (.aload_n 0, 1) := by decide +kernel
theorem d_SM_join_11 : decode b_SM_join 11 = .ok (.iload_n 2, 1) := by decide +kernel
theorem d_SM_join_12 : decode b_SM_join 12 = .ok (.invokevirtual 150, 3) := by decide +kernel
theorem d_SM_join_15 : decode b_SM_join 15 = .ok (.ifCond .ne 11, 3) := by decide +kernel
theorem d_SM_join_18 : decode b_SM_join 18 = .ok (.aload_n 0, 1) := by decide +kernel
theorem d_SM_join_19 : decode b_SM_join 19 = .ok (.iload_n 3, 1) := by decide +kernel
theorem d_SM_join_20 : decode b_SM_join 20 = .ok (.invokevirtual 150, 3) := by decide +kernel
theorem d_SM_join_23 : decode b_SM_join 23 = .ok (.ifCond .eq 7, 3) := by decide +kernel
theorem d_SM_join_26 : decode b_SM_join 26 = .ok (.iconst (-1), 1) := by decide +kernel
theorem d_SM_join_27 : decode b_SM_join 27 = .ok (.goto 22, 3) := by decide +kernel
theorem d_SM_join_30 : decode b_SM_join 30 = .ok (.aload_n 0, 1) := by decide +kernel
theorem d_SM_join_31 : decode b_SM_join 31 = .ok (.iload_n 1, 1) := by decide +kernel
theorem d_SM_join_32 : decode b_SM_join 32 = .ok (.iconst 2, 1) := by decide +kernel
theorem d_SM_join_33 : decode b_SM_join 33 = .ok (.aload_n 0, 1) := by decide +kernel
theorem d_SM_join_34 : decode b_SM_join 34 = .ok (.getfield 43, 3) := by decide +kernel
theorem d_SM_join_37 : decode b_SM_join 37 = .ok (.iload_n 2, 1) := by decide +kernel
theorem d_SM_join_38 : decode b_SM_join 38 = .ok (.iaload, 1) := by decide +kernel
theorem d_SM_join_39 : decode b_SM_join 39 = .ok (.aload_n 0, 1) := by decide +kernel
theorem d_SM_join_40 : decode b_SM_join 40 = .ok (.getfield 43, 3) := by decide +kernel
theorem d_SM_join_43 : decode b_SM_join 43 = .ok (.iload_n 3, 1) := by decide +kernel
theorem d_SM_join_44 : decode b_SM_join 44 = .ok (.iaload, 1) := by decide +kernel
theorem d_SM_join_45 : decode b_SM_join 45 = .ok (.iconst 0, 1) := by decide +kernel
theorem d_SM_join_46 : decode b_SM_join 46 = .ok (.invokevirtual 143, 3) := by decide +kernel
theorem d_SM_join_49 : decode b_SM_join 49 = .ok (.ireturn, 1) := by decide +kernel
set_option maxHeartbeats 4000000 in
set_option maxRecDepth 100000 in
/-- join -/
theorem c_SM_join (G : GG) (l : Launch) (sz : Nat) (f : Wd) {mo c0 pn nn mn : Nat} {ar : Nat → Nat} {pt nt mt : Nat → Int32} {dp rf by_ co tx lx : Int32} {fl : Nat → Option FV} (hR : MR G c0 mo ar f pn pt nn nt mn mt dp rf by_ co tx lx fl) (hc0 : c0 < 512) (xt x y : Int32) : Ci G l y_SM_join b_SM_join 4 (some .int) ({ frames := 2, cells := 0, slots := 0, locals := 43 }) sz f [.ref mo, .int xt, .int x, .int y] (fun v f' => ((¬ (¬ xt < 0 ∧ ¬ 10 ≤ xt) ∨ noF fl x ∨ noF fl y) → v = -1 ∧ MRR G c0 mo ar f f' pn pt nn nt mn mt dp rf by_ co tx lx fl) ∧ ∀ (kt k j : Nat) (vv vw : FV), kt < 10 → xt = nI kt → k < 10 → x = nI k → j < 10 → y = nI j → fl k = some vv → fl j = some vw → ((¬ vv.2.1 + vw.2.1 ≤ 24 ∨ ¬ mxh vv.2.2.1 vw.2.2.1 < 8) → v = -3 ∧ MRR G c0 mo ar f f' pn pt nn nt mn mt dp rf by_ co tx lx fl) ∧ (¬ (¬ vv.2.1 + vw.2.1 ≤ 24 ∨ ¬ mxh vv.2.2.1 vw.2.2.1 < 8) → v = 0 ∧ MRR G c0 mo ar f f' pn pt nn nt mn mt dp rf by_ co tx lx (va_up fl kt (some ((2, vv.2.1 + vw.2.1, 1 + mxh vv.2.2.1 vw.2.2.1, anJ vv.2.2.2.1 vw.2.2.2.1, TI0) : FV))))) := by
  refine ct_of (by decide) (Nat.le_of_ble_eq_true rfl) ?_
  intro p e s m below meth c ls H locs hEn
  obtain ⟨hc, hr, hlk, hin, hE, hw, hsz, hl⟩ := hEn
  have hx := hc.1
  have hb := hc.2.1
  have hl : lv_has ls 4 [(0, .ref mo), (1, .int xt), (2, .int x), (3, .int y)] := hl
  have hX : Mx mo ar f f := Mx.rf
  obtain ⟨sc, av, b, md, hM, hMS⟩ := hR
  have hMS0 := hMS
  obtain ⟨⟨h0, h1, h2, h3, h4⟩, ⟨h5, h6, h7⟩, ⟨h8, h9, h10⟩, ⟨hA, hnt, hmt, hS⟩, ⟨hbc, hmd, hpn, hnn, hmn⟩, hSL⟩ := hMS
  have hbn : b + pn ≤ 4200 := by omega
  refine lv_aload_n hx hb d_SM_join_0 rfl (lv_at hl 0 rfl) ?_
  refine lv_iload_n hx hb d_SM_join_1 rfl (lv_at hl 1 rfl) ?_
  refine lv_bipush (v := 10) hx hb d_SM_join_2 (by decide) ?_
  refine m_calli hw (m_runV (As := [.int xt, .int 10]) (rest := []) hc hE hw (c_SM_out G l H.size f hM xt 10) hM.1 rfl cw_SM_71 se_SM_out rfl hl.1 rfl (Nat.le_of_ble_eq_true rfl) d_SM_join_4 ⟨rfl, rfl, by decide, by decide⟩ ⟨by first | decide | (dsimp only; omega), by first | decide | (dsimp only; omega)⟩) (fun r23 g22 H locs p21 hw => ?_)
  obtain ⟨rfl, p21⟩ := p21
  subst p21
  refine lv_if_ne (tgt := 26) hx hb d_SM_join_7 (by decide) (fun c24 => ?_) (fun c24 => ?_)
  · have c24n : (xt < 0 ∨ 10 ≤ xt) := bI_n.mp c24
    refine lv_iconst (v := (-1)) hx hb d_SM_join_26 (by decide) ?_
    refine lv_goto (tgt := 49) hx hb d_SM_join_27 (by decide) ?_
    exact m_iret hc hr hlk hw ⟨by first | decide | (dsimp only; omega), by first | decide | (dsimp only; omega)⟩ d_SM_join_49 ⟨fun _ => ⟨rfl, ⟨⟨_, av, b, md, hM, hMS0.fr (fun _ _ => rfl)⟩, hX⟩⟩, fun kt k j vv vw q1 q2 q3 q4 q5 q6 q7 q8 => absurd c24n (by rw [q2]; exact fun z => z.elim (plc q1).1 (plc q1).2)⟩
  · have c24n : ¬ (xt < 0 ∨ 10 ≤ xt) := bI_0.mp c24
    refine lv_aload_n hx hb d_SM_join_10 rfl (lv_at hl 0 rfl) ?_
    refine lv_iload_n hx hb d_SM_join_11 rfl (lv_at hl 2 rfl) ?_
    refine m_calli hw (m_runV (As := [.int x]) (rest := []) hc hE hw (c_SM_none G l H.size f hM x) hM.1 rfl cw_SM_150 se_SM_none rfl hl.1 rfl (Nat.le_of_ble_eq_true rfl) d_SM_join_12 ⟨rfl, rfl, by decide, by decide⟩ ⟨by first | decide | (dsimp only; omega), by first | decide | (dsimp only; omega)⟩) (fun r27 g26 H locs p25 hw => ?_)
    obtain ⟨rfl, p25⟩ := p25
    subst p25
    refine lv_if_ne (tgt := 26) hx hb d_SM_join_15 (by decide) (fun c28 => ?_) (fun c28 => ?_)
    · have c28n : (noS (av 11) x) := bI_n.mp c28
      refine lv_iconst (v := (-1)) hx hb d_SM_join_26 (by decide) ?_
      refine lv_goto (tgt := 49) hx hb d_SM_join_27 (by decide) ?_
      exact m_iret hc hr hlk hw ⟨by first | decide | (dsimp only; omega), by first | decide | (dsimp only; omega)⟩ d_SM_join_49 ⟨fun _ => ⟨rfl, ⟨⟨_, av, b, md, hM, hMS0.fr (fun _ _ => rfl)⟩, hX⟩⟩, fun kt k j vv vw q1 q2 q3 q4 q5 q6 q7 q8 => absurd (((hSL.no (by omega)).mp c28n k q3 q4).symm.trans q7) (by intro z; cases z)⟩
    · have c28n : ¬ (noS (av 11) x) := bI_0.mp c28
      refine lv_aload_n hx hb d_SM_join_18 rfl (lv_at hl 0 rfl) ?_
      refine lv_iload_n hx hb d_SM_join_19 rfl (lv_at hl 3 rfl) ?_
      refine m_calli hw (m_runV (As := [.int y]) (rest := []) hc hE hw (c_SM_none G l H.size f hM y) hM.1 rfl cw_SM_150 se_SM_none rfl hl.1 rfl (Nat.le_of_ble_eq_true rfl) d_SM_join_20 ⟨rfl, rfl, by decide, by decide⟩ ⟨by first | decide | (dsimp only; omega), by first | decide | (dsimp only; omega)⟩) (fun r31 g30 H locs p29 hw => ?_)
      obtain ⟨rfl, p29⟩ := p29
      subst p29
      refine lv_if_eq (tgt := 30) hx hb d_SM_join_23 (by decide) (fun c32 => ?_) (fun c32 => ?_)
      · have c32n : ¬ (noS (av 11) y) := bI_0.mp c32
        obtain ⟨kt0, hkt0, hxt0⟩ := plc_of (x := xt) c24n
        obtain ⟨k0, nd0, v0, hk0, hxk0, hfl0, hsl0, hNH0⟩ := hSL.some (x := x) c28n
        have hlt0 := hNH0.lt
        obtain ⟨l0, g0, hl0, hg0, hl10, hl20, hg10, hg20, hNV0⟩ := hNH0
        have hlh0 := hNV0.lh
        obtain ⟨k1, nd1, v1, hk1, hxk1, hfl1, hsl1, hNH1⟩ := hSL.some (x := y) c32n
        have hlt1 := hNH1.lt
        obtain ⟨l1, g1, hl1, hg1, hl11, hl21, hg11, hg21, hNV1⟩ := hNH1
        have hlh1 := hNV1.lh
        refine lv_aload_n hx hb d_SM_join_30 rfl (lv_at hl 0 rfl) ?_
        refine lv_iload_n hx hb d_SM_join_31 rfl (lv_at hl 1 rfl) ?_
        refine lv_iconst (v := 2) hx hb d_SM_join_32 (by decide) ?_
        refine lv_aload_n hx hb d_SM_join_33 rfl (lv_at hl 0 rfl) ?_
        refine m_mget (v := .ref (ar 11)) hc hE hw hM l_SM_43_SM rfl d_SM_join_34 ?_
        refine lv_iload_n hx hb d_SM_join_37 rfl (lv_at hl 2 rfl) ?_
        refine m_mald (v := (nI nd0)) hc hE hw hM (k := 11) (by decide) (by rw [hxk0]; exact vp_in_nI hk0 (by decide)) (rfl.trans (by rw [hxk0, nI_clamp (by omega)]; exact hsl0)) d_SM_join_38 ?_
        refine lv_aload_n hx hb d_SM_join_39 rfl (lv_at hl 0 rfl) ?_
        refine m_mget (v := .ref (ar 11)) hc hE hw hM l_SM_43_SM rfl d_SM_join_40 ?_
        refine lv_iload_n hx hb d_SM_join_43 rfl (lv_at hl 3 rfl) ?_
        refine m_mald (v := (nI nd1)) hc hE hw hM (k := 11) (by decide) (by rw [hxk1]; exact vp_in_nI hk1 (by decide)) (rfl.trans (by rw [hxk1, nI_clamp (by omega)]; exact hsl1)) d_SM_join_44 ?_
        refine lv_iconst (v := 0) hx hb d_SM_join_45 (by decide) ?_
        refine m_calli hw (m_runV (As := [.int xt, .int 2, .int (nI nd0), .int (nI nd1), .int 0]) (rest := []) hc hE hw (c_SM_make2 G l H.size f hM xt hxt0 hkt0 (by omega) h0 h1 h4 hbn 2 0 (i := nd0) (j := nd1) (by omega) (by omega) (hlh0.2.1.trans hl0) (hlh0.2.2.trans hg0) (hlh1.2.1.trans hl1) (hlh1.2.2.trans hg1) hl20 hg20 hl21 hg21) hM.1 rfl cw_SM_143 se_SM_make rfl hl.1 rfl (Nat.le_of_ble_eq_true rfl) d_SM_join_46 ⟨rfl, rfl, by decide, by decide⟩ ⟨by first | decide | (dsimp only; omega), by first | decide | (dsimp only; omega)⟩) (fun r35 g34 H locs p33 hw => ?_)
        obtain ⟨hp0, hXm⟩ := p33
        have hcase := okj hl0 hg0 hl1 hg1 hl20 hl21 hg20 hg21
        exact m_iret hc hr hlk hw ⟨by first | decide | (dsimp only; omega), by first | decide | (dsimp only; omega)⟩ d_SM_join_49 ⟨fun z => absurd z (fun z => z.elim (fun y => y ⟨fun q => c24n (Or.inl q), fun q => c24n (Or.inr q)⟩) (fun y => y.elim (fun y => c28n ((hSL.no (by omega)).mpr y)) (fun y => c32n ((hSL.no (by omega)).mpr y)))), fun kt k j vv vw q1 q2 q3 q4 q5 q6 q7 q8 => by have e1 : kt = kt0 := (nI_eq (by omega) (by omega)).mp (q2.symm.trans hxt0); have e2 : k = k0 := (nI_eq (by omega) (by omega)).mp (q4.symm.trans hxk0); have e3 : j = k1 := (nI_eq (by omega) (by omega)).mp (q6.symm.trans hxk1); subst e1; subst e2; subst e3; have e4 : vv = v0 := Option.some.inj (q7.symm.trans hfl0); have e5 : vw = v1 := Option.some.inj (q8.symm.trans hfl1); subst e4; subst e5; exact ⟨fun z => ⟨(hp0.2 (fun y => hcase.mp y z)).1, ⟨_, av, b, md, (hp0.2 (fun y => hcase.mp y z)).2, hMS0.fr (fun _ _ => rfl)⟩, hXm⟩, fun z => ⟨(hp0.1 (hcase.mpr z)).1, ⟨_, _, b, md + 1, (hp0.1 (hcase.mpr z)).2, hMS0.mk rfl (fun k hk h4 => upd_ne' _ _ _ h4) (mk_join hNV0 hNV1 hl0 hg0 hl1 hg1 hl10 (hcase.mpr z).1 hg20 hg21 (hcase.mpr z).2)⟩, hXm⟩⟩⟩
      · have c32n : (noS (av 11) y) := bI_n.mp c32
        refine lv_iconst (v := (-1)) hx hb d_SM_join_26 (by decide) ?_
        refine lv_goto (tgt := 49) hx hb d_SM_join_27 (by decide) ?_
        exact m_iret hc hr hlk hw ⟨by first | decide | (dsimp only; omega), by first | decide | (dsimp only; omega)⟩ d_SM_join_49 ⟨fun _ => ⟨rfl, ⟨⟨_, av, b, md, hM, hMS0.fr (fun _ _ => rfl)⟩, hX⟩⟩, fun kt k j vv vw q1 q2 q3 q4 q5 q6 q7 q8 => absurd (((hSL.no (by omega)).mp c32n j q5 q6).symm.trans q8) (by intro z; cases z)⟩

set_option maxHeartbeats 4000000 in
set_option maxRecDepth 100000 in
/-- read -/
theorem c_SM_read (G : GG) (l : Launch) (sz : Nat) (f : Wd) {mo c0 pn nn mn : Nat} {ar : Nat → Nat} {pt nt mt : Nat → Int32} {dp rf by_ co tx lx : Int32} {fl : Nat → Option FV} (hR : MR G c0 mo ar f pn pt nn nt mn mt dp rf by_ co tx lx fl) (hc0 : c0 < 512) (xt : Int32) {bs : Int32} (h_bs : bs = 0 ∨ bs = 1) : Ci G l y_SM_read b_SM_read 3 (some .int) ({ frames := 4, cells := 0, slots := 0, locals := 104 }) sz f [.ref mo, .int xt, .int bs] (fun v f' => (¬ (¬ xt < 0 ∧ ¬ 10 ≤ xt) → v = -1 ∧ MRR G c0 mo ar f f' pn pt nn nt mn mt dp rf by_ co tx lx fl) ∧ ((¬ xt < 0 ∧ ¬ 10 ≤ xt) → ¬ fbk pt pn (npc pt pn) 0 = -2 → v = -2 ∧ MRR G c0 mo ar f f' pn pt nn nt mn mt dp rf by_ co tx lx fl) ∧ (∀ kt : Nat, kt < 10 → xt = nI kt → fbk pt pn (npc pt pn) 0 = -2 → ∀ lm : Nat → Int32, (∀ k, k < 4 → lm k = lmU pt pn (npc pt pn) k) → v = nI (clsU pt pn (npc pt pn)).length ∧ MRR G c0 mo ar f f' pn pt nn nt mn mt dp rf by_ co tx lx (va_up fl kt (some ((1, 1, 1, anT bs lm (clsU pt pn (npc pt pn)).length (Mt pt pn) (Vt pt pn), (clsU pt pn (npc pt pn)).length, lm, bs, Vt pt pn, Sht pt pn) : FV))))) := by
  refine ct_of (by decide) (Nat.le_of_ble_eq_true rfl) ?_
  intro p e s m below meth c ls H locs hEn
  obtain ⟨hc, hr, hlk, hin, hE, hw, hsz, hl⟩ := hEn
  have hx := hc.1
  have hb := hc.2.1
  have hl : lv_has ls 3 [(0, .ref mo), (1, .int xt), (2, .int bs)] := hl
  have hX : Mx mo ar f f := Mx.rf
  obtain ⟨sc, av, b, md, hM, hMS⟩ := hR
  have hMS0 := hMS
  obtain ⟨⟨h0, h1, h2, h3, h4⟩, ⟨h5, h6, h7⟩, ⟨h8, h9, h10⟩, ⟨hA, hnt, hmt, hS⟩, ⟨hbc, hmd, hpn, hnn, hmn⟩, hSL⟩ := hMS
  have hbn : b + pn ≤ 4200 := by omega
  refine lv_aload_n hx hb d_SM_read_0 rfl (lv_at hl 0 rfl) ?_
  refine lv_iload_n hx hb d_SM_read_1 rfl (lv_at hl 1 rfl) ?_
  refine lv_bipush (v := 10) hx hb d_SM_read_2 (by decide) ?_
  refine m_calli hw (m_runV (As := [.int xt, .int 10]) (rest := []) hc hE hw (c_SM_out G l H.size f hM xt 10) hM.1 rfl cw_SM_71 se_SM_out rfl hl.1 rfl (Nat.le_of_ble_eq_true rfl) d_SM_read_4 ⟨rfl, rfl, by decide, by decide⟩ ⟨by first | decide | (dsimp only; omega), by first | decide | (dsimp only; omega)⟩) (fun r23 g22 H locs p21 hw => ?_)
  obtain ⟨rfl, p21⟩ := p21
  subst p21
  refine lv_if_eq (tgt := 12) hx hb d_SM_read_7 (by decide) (fun c24 => ?_) (fun c24 => ?_)
  · have c24n : ¬ (xt < 0 ∨ 10 ≤ xt) := bI_0.mp c24
    refine lv_aload_n hx hb d_SM_read_12 rfl (lv_at hl 0 rfl) ?_
    refine lv_aload_n hx hb d_SM_read_13 rfl (lv_at hl 0 rfl) ?_
    refine m_mget (v := .int (sc 1)) hc hE hw hM l_SM_62_SM rfl d_SM_read_14 ?_
    refine m_top (y := nI b) h1 ?_
    refine lv_aload_n hx hb d_SM_read_17 rfl (lv_at hl 0 rfl) ?_
    refine m_mget (v := .int (sc 0)) hc hE hw hM l_SM_59_SM rfl d_SM_read_18 ?_
    refine m_top (y := nI (b + pn)) h0 ?_
    refine m_calli hw (m_runV (As := [.int (nI b), .int (nI (b + pn))]) (rest := []) hc hE hw (c_SM_firstBad G l H.size f hM hA hbn hS) hM.1 rfl cw_SM_140 se_SM_firstBad rfl hl.1 rfl (Nat.le_of_ble_eq_true rfl) d_SM_read_21 ⟨rfl, rfl, by decide, by decide⟩ ⟨by first | decide | (dsimp only; omega), by first | decide | (dsimp only; omega)⟩) (fun r27 g26 H locs p25 hw => ?_)
    obtain ⟨sc2, hM2, hX2, hf2, hv2⟩ := p25
    subst hv2
    have hnp := npc_le (t := pt) pn
    have hfo := fbk_or (t := pt) (n := pn) (npc pt pn) 0 (by omega)
    refine lv_if_lt (tgt := 30) hx hb d_SM_read_24 (by decide) (fun c28 => ?_) (fun c28 => ?_)
    · refine lv_aload_n hx hb d_SM_read_30 rfl (lv_at hl 0 rfl) ?_
      refine lv_iload_n hx hb d_SM_read_31 rfl (lv_at hl 1 rfl) ?_
      refine lv_iconst (v := 1) hx hb d_SM_read_32 (by decide) ?_
      refine lv_iconst (v := (-1)) hx hb d_SM_read_33 (by decide) ?_
      refine lv_iconst (v := (-1)) hx hb d_SM_read_34 (by decide) ?_
      refine lv_iload_n hx hb d_SM_read_35 rfl (lv_at hl 2 rfl) ?_
      refine lv_if_eq (tgt := 43) hx hb d_SM_read_36 (by decide) (fun c29 => ?_) (fun c29 => ?_)
      · refine lv_iconst (v := 0) hx hb d_SM_read_43 (by decide) ?_
        obtain ⟨kt0, hkt0, hxt0⟩ := plc_of (x := xt) c24n
        refine m_calli hw (m_runV (As := [.int xt, .int 1, .int (-1), .int (-1), .int 0]) (rest := []) hc hE hw (c_SM_makeT G l H.size g26 hM2 xt hxt0 hkt0 (by omega) ((hf2 0 (by decide)).trans h0) ((hf2 1 (by decide)).trans h1) ((hf2 4 (by decide)).trans h4) hbn 1 0) hM2.1 rfl cw_SM_143 se_SM_make rfl hl.1 rfl (Nat.le_of_ble_eq_true rfl) d_SM_read_44 ⟨rfl, rfl, by decide, by decide⟩ ⟨by first | decide | (dsimp only; omega), by first | decide | (dsimp only; omega)⟩) (fun r32 g31 H locs p30 hw => ?_)
        obtain ⟨hv3, hM3, hX3⟩ := p30
        refine lv_pop hx hb d_SM_read_47 rfl ?_
        refine lv_aload_n hx hb d_SM_read_48 rfl (lv_at hl 0 rfl) ?_
        refine lv_aload_n hx hb d_SM_read_49 rfl (lv_at hl 0 rfl) ?_
        refine m_mget (v := .int (nI (md + 1))) hc hE hw hM3 l_SM_137_SM rfl d_SM_read_50 ?_
        refine lv_iconst (v := 1) hx hb d_SM_read_53 (by decide) ?_
        refine lv_isub hx hb d_SM_read_54 ?_
        refine m_top (y := (nI md)) (nI_pred md) ?_
        refine m_calli hw (m_runV (As := [.int (nI md)]) (rest := []) hc hE hw (c_SM_patterns G l H.size g31 hM3 (b := b) (n := pn) (t := pt) (by rw [mkA_lo (by decide)]; exact hA) hbn (by rw [mkA_lo (by decide)]; exact hS) (nd := md) (by omega) mkA_at.2.2.2.1 mkA_at.2.2.2.2.1) hM3.1 rfl cw_SM_147 se_SM_patterns rfl hl.1 rfl (Nat.le_of_ble_eq_true rfl) d_SM_read_55 ⟨rfl, rfl, by decide, by decide⟩ ⟨by first | decide | (dsimp only; omega), by first | decide | (dsimp only; omega)⟩) (fun r35 g34 H locs p33 hw => ?_)
        obtain ⟨sc4, hM4, hX4, hf4, hv4⟩ := p33
        have ebs : bs = 0 := c29
        exact m_iret hc hr hlk hw ⟨by first | decide | (dsimp only; omega), by first | decide | (dsimp only; omega)⟩ d_SM_read_58 ⟨fun z => absurd ⟨fun q => c24n (Or.inl q), fun q => c24n (Or.inr q)⟩ z, fun _ z => absurd (hfo.resolve_right (fun y => y c28)) z, fun kt q1 q2 q3 lm q4 => ⟨hv4, ⟨_, _, b, md + 1, hM4, by have ek : kt = kt0 := (nI_eq (by omega) (by omega)).mp (q2.symm.trans hxt0); subst ek; rw [ebs]; exact hMS0.mk (hf4 4 (by decide)) (fun k hk h4 => (hf4 k (by omega)).trans ((upd_ne' _ _ _ h4).trans (hf2 k (by omega)))) (mk_text (by decide) hA (Nat.le_refl _) q4)⟩, (((hX.tr hX2).tr hX3).tr hX4)⟩⟩
      · refine lv_iconst (v := 1) hx hb d_SM_read_39 (by decide) ?_
        refine lv_goto (tgt := 44) hx hb d_SM_read_40 (by decide) ?_
        obtain ⟨kt0, hkt0, hxt0⟩ := plc_of (x := xt) c24n
        refine m_calli hw (m_runV (As := [.int xt, .int 1, .int (-1), .int (-1), .int 1]) (rest := []) hc hE hw (c_SM_makeT G l H.size g26 hM2 xt hxt0 hkt0 (by omega) ((hf2 0 (by decide)).trans h0) ((hf2 1 (by decide)).trans h1) ((hf2 4 (by decide)).trans h4) hbn 1 1) hM2.1 rfl cw_SM_143 se_SM_make rfl hl.1 rfl (Nat.le_of_ble_eq_true rfl) d_SM_read_44 ⟨rfl, rfl, by decide, by decide⟩ ⟨by first | decide | (dsimp only; omega), by first | decide | (dsimp only; omega)⟩) (fun r38 g37 H locs p36 hw => ?_)
        obtain ⟨hv3, hM3, hX3⟩ := p36
        refine lv_pop hx hb d_SM_read_47 rfl ?_
        refine lv_aload_n hx hb d_SM_read_48 rfl (lv_at hl 0 rfl) ?_
        refine lv_aload_n hx hb d_SM_read_49 rfl (lv_at hl 0 rfl) ?_
        refine m_mget (v := .int (nI (md + 1))) hc hE hw hM3 l_SM_137_SM rfl d_SM_read_50 ?_
        refine lv_iconst (v := 1) hx hb d_SM_read_53 (by decide) ?_
        refine lv_isub hx hb d_SM_read_54 ?_
        refine m_top (y := (nI md)) (nI_pred md) ?_
        refine m_calli hw (m_runV (As := [.int (nI md)]) (rest := []) hc hE hw (c_SM_patterns G l H.size g37 hM3 (b := b) (n := pn) (t := pt) (by rw [mkA_lo (by decide)]; exact hA) hbn (by rw [mkA_lo (by decide)]; exact hS) (nd := md) (by omega) mkA_at.2.2.2.1 mkA_at.2.2.2.2.1) hM3.1 rfl cw_SM_147 se_SM_patterns rfl hl.1 rfl (Nat.le_of_ble_eq_true rfl) d_SM_read_55 ⟨rfl, rfl, by decide, by decide⟩ ⟨by first | decide | (dsimp only; omega), by first | decide | (dsimp only; omega)⟩) (fun r41 g40 H locs p39 hw => ?_)
        obtain ⟨sc4, hM4, hX4, hf4, hv4⟩ := p39
        have ebs : bs = 1 := h_bs.resolve_left c29
        exact m_iret hc hr hlk hw ⟨by first | decide | (dsimp only; omega), by first | decide | (dsimp only; omega)⟩ d_SM_read_58 ⟨fun z => absurd ⟨fun q => c24n (Or.inl q), fun q => c24n (Or.inr q)⟩ z, fun _ z => absurd (hfo.resolve_right (fun y => y c28)) z, fun kt q1 q2 q3 lm q4 => ⟨hv4, ⟨_, _, b, md + 1, hM4, by have ek : kt = kt0 := (nI_eq (by omega) (by omega)).mp (q2.symm.trans hxt0); subst ek; rw [ebs]; exact hMS0.mk (hf4 4 (by decide)) (fun k hk h4 => (hf4 k (by omega)).trans ((upd_ne' _ _ _ h4).trans (hf2 k (by omega)))) (mk_text (by decide) hA (Nat.le_refl _) q4)⟩, (((hX.tr hX2).tr hX3).tr hX4)⟩⟩
    · refine lv_bipush (v := (-2)) hx hb d_SM_read_27 (by decide) ?_
      exact m_iret hc hr hlk hw ⟨by first | decide | (dsimp only; omega), by first | decide | (dsimp only; omega)⟩ d_SM_read_29 ⟨fun z => absurd ⟨fun q => c24n (Or.inl q), fun q => c24n (Or.inr q)⟩ z, fun _ _ => ⟨rfl, ⟨⟨_, av, b, md, hM2, hMS0.fr (fun k hk => hf2 k (by omega))⟩, (hX.tr hX2)⟩⟩, fun kt q1 q2 q3 => absurd (show fbk pt pn (npc pt pn) 0 < 0 by rw [q3]; decide) c28⟩
  · have c24n : (xt < 0 ∨ 10 ≤ xt) := bI_n.mp c24
    refine lv_iconst (v := (-1)) hx hb d_SM_read_10 (by decide) ?_
    exact m_iret hc hr hlk hw ⟨by first | decide | (dsimp only; omega), by first | decide | (dsimp only; omega)⟩ d_SM_read_11 ⟨fun _ => ⟨rfl, ⟨⟨_, av, b, md, hM, hMS0.fr (fun _ _ => rfl)⟩, hX⟩⟩, fun z => absurd c24n (fun y => y.elim z.1 z.2), fun kt q1 q2 => absurd c24n (by rw [q2]; exact fun z => z.elim (plc q1).1 (plc q1).2)⟩
