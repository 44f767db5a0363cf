/-! links of the pools, as the walks ask for them -/
theorem cw_SM_196 : cwk "StreamFiltersModel" 196 y_SM_goOn b_SM_goOn 6 none 3 := ⟨Or.inl (tb 825 (by decide +kernel) rfl), (tb 828 (by decide +kernel) rfl), (tb 5 (by decide +kernel) rfl), by decide, by decide, by decide +kernel⟩
theorem se_SM_goOn : Cond.instanceMethod y_SM_goOn ∈ TB ∧ Cond.selects "StreamFiltersModel" y_SM_goOn y_SM_goOn ∈ TB := ⟨(tb 827 (by decide +kernel) rfl), (tbs 26 (by decide +kernel) rfl)⟩
/-! decode rows -/
theorem d_SM_ask_0 : decode b_SM_ask 0 = .ok (.aload_n 0, 1) := by decide +kernel
theorem d_SM_ask_1 : decode b_SM_ask 1 = .ok (.iload_n 1, 1) := by decide +kernel
theorem d_SM_ask_2 : decode b_SM_ask 2 = .ok (.invokevirtual 150, 3) := by decide +kernel
theorem d_SM_ask_5 : decode b_SM_ask 5 = .ok (.ifCond .ne 38, 3) := by decide +kernel
theorem d_SM_ask_8 : decode b_SM_ask 8 = .ok (.aload_n 0, 1) := by decide +kernel
theorem d_SM_ask_9 : decode b_SM_ask 9 = .ok (.iload_n 2, 1) := by decide +kernel
theorem d_SM_ask_10 : decode b_SM_ask 10 = .ok (.iconst 3, 1) := by decide +kernel
theorem d_SM_ask_11 : decode b_SM_ask 11 = .ok (.invokevirtual 71, 3) := by decide +kernel
theorem d_SM_ask_14 : decode b_SM_ask 14 = .ok (.ifCond .ne 29, 3) := by decide +kernel
theorem d_SM_ask_17 : decode b_SM_ask 17 = .ok (.aload_n 0, 1) := by decide +kernel
theorem d_SM_ask_18 : decode b_SM_ask 18 = .ok (.iload_n 3, 1) := by decide +kernel
theorem d_SM_ask_19 : decode b_SM_ask 19 = .ok (.iconst 4, 1) := by decide +kernel
theorem d_SM_ask_20 : decode b_SM_ask 20 = .ok (.invokevirtual 71, 3) := by decide +kernel
theorem d_SM_ask_23 : decode b_SM_ask 23 = .ok (.ifCond .ne 20, 3) := by decide +kernel
theorem d_SM_ask_26 : decode b_SM_ask 26 = .ok (.iload_n 2, 1) := by decide +kernel
theorem d_SM_ask_27 : decode b_SM_ask 27 = .ok (.ifCond .ne 7, 3) := by decide +kernel
theorem d_SM_ask_30 : decode b_SM_ask 30 = .ok (.iload_n 3, 1) := by decide +kernel
theorem d_SM_ask_31 : decode b_SM_ask 31 = .ok (.ifCond .gt 12, 3) := by decide +kernel
theorem d_SM_ask_34 : decode b_SM_ask 34 = .ok (.iload_n 2, 1) := by decide +kernel
theorem d_SM_ask_35 : decode b_SM_ask 35 = .ok (.iconst 2, 1) := by decide +kernel
theorem d_SM_ask_36 : decode b_SM_ask 36 = .ok (.if_icmp .ne 9, 3) := by decide +kernel
theorem d_SM_ask_39 : decode b_SM_ask 39 = .ok (.iload_n 3, 1) := by decide +kernel
theorem d_SM_ask_40 : decode b_SM_ask 40 = .ok (.ifCond .ne 5, 3) := by decide +kernel
theorem d_SM_ask_43 : decode b_SM_ask 43 = .ok (.iconst (-1), 1) := by decide +kernel
theorem d_SM_ask_44 : decode b_SM_ask 44 = .ok (.ireturn, 1) := by decide +kernel
theorem d_SM_ask_45 : decode b_SM_ask 45 = .ok (.aload_n 0, 1) := by decide +kernel
theorem d_SM_ask_46 : decode b_SM_ask 46 = .ok (.iconst 0, 1) := by decide +kernel
theorem d_SM_ask_47 : decode b_SM_ask 47 = .ok (.putfield 175, 3) := by decide +kernel
theorem d_SM_ask_50 : decode b_SM_ask 50 = .ok (.aload_n 0, 1) := by decide +kernel
theorem d_SM_ask_51 : decode b_SM_ask 51 = .ok (.iconst 0, 1) := by decide +kernel
theorem d_SM_ask_52 : decode b_SM_ask 52 = .ok (.putfield 169, 3) := by decide +kernel
theorem d_SM_ask_55 : decode b_SM_ask 55 = .ok (.aload_n 0, 1) := by decide +kernel
theorem d_SM_ask_56 : decode b_SM_ask 56 = .ok (.bipush (-2), 2) := by decide +kernel
theorem d_SM_ask_58 : decode b_SM_ask 58 = .ok (.putfield 46, 3) := by decide +kernel
theorem d_SM_ask_61 : decode b_SM_ask 61 = .ok (.aload_n 0, 1) := by decide +kernel
theorem d_SM_ask_62 : decode b_SM_ask 62 = .ok (.iconst 0, 1) := by decide +kernel
theorem d_SM_ask_63 : decode b_SM_ask 63 = .ok (.putfield 182, 3) := by decide +kernel
theorem d_SM_ask_66 : decode b_SM_ask 66 = .ok (.aload_n 0, 1) := by decide +kernel
theorem d_SM_ask_67 : decode b_SM_ask 67 = .ok (.aload_n 0, 1) := by decide +kernel
theorem d_SM_ask_68 : decode b_SM_ask 68 = .ok (.getfield 43, 3) := by decide +kernel
theorem d_SM_ask_71 : decode b_SM_ask 71 = .ok (.iload_n 1, 1) := by decide +kernel
theorem d_SM_ask_72 : decode b_SM_ask 72 = .ok (.iaload, 1) := by decide +kernel
theorem d_SM_ask_73 : decode b_SM_ask 73 = .ok (.invokevirtual 192, 3) := by decide +kernel
theorem d_SM_ask_76 : decode b_SM_ask 76 = .ok (.aload_n 0, 1) := by decide +kernel
theorem d_SM_ask_77 : decode b_SM_ask 77 = .ok (.getfield 182, 3) := by decide +kernel
theorem d_SM_ask_80 : decode b_SM_ask 80 = .ok (.ifCond .le 14, 3) := by decide +kernel
theorem d_SM_ask_83 : decode b_SM_ask 83 = .ok (.aload_n 0, 1) := by decide +kernel
theorem d_SM_ask_84 : decode b_SM_ask 84 = .ok (.iload_n 2, 1) := by decide +kernel
theorem d_SM_ask_85 : decode b_SM_ask 85 = .ok (.iload_n 3, 1) := by decide +kernel
theorem d_SM_ask_86 : decode b_SM_ask 86 = .ok (.iload 4, 2) := by decide +kernel
theorem d_SM_ask_88 : decode b_SM_ask 88 = .ok (.invokevirtual 196, 3) := by decide +kernel
theorem d_SM_ask_91 : decode b_SM_ask 91 = .ok (.goto (-15), 3) := by decide +kernel
theorem d_SM_ask_94 : decode b_SM_ask 94 = .ok (.aload_n 0, 1) := by decide +kernel
theorem d_SM_ask_95 : decode b_SM_ask 95 = .ok (.getfield 189, 3) := by decide +kernel
theorem d_SM_ask_98 : decode b_SM_ask 98 = .ok (.ireturn, 1) := by decide +kernel
set_option maxHeartbeats 4000000 in
set_option maxRecDepth 100000 in
/-- ask -/
theorem c_SM_ask (G : GG) (l : Launch) (sz : Nat) (f : Wd) {mo c0 pn nn mn : Nat} {ar : Nat → Nat} {pt nt mt : Nat → Int32} {dp rf by_ co tx lx : Int32} {fl : Nat → Option FV} (hR : MR G c0 mo ar f pn pt nn nt mn mt dp rf by_ co tx lx fl) (hc0 : c0 < 512) (x so1 di1 le1 : Int32) : Ci G l y_SM_ask b_SM_ask 5 (some .int) ({ frames := 7, cells := 0, slots := 0, locals := 182 }) sz f [.ref mo, .int x, .int so1, .int di1, .int le1] (fun v f' => (noF fl x ∨ ¬ isQ so1 di1 → v = -1 ∧ MRR G c0 mo ar f f' pn pt nn nt mn mt dp rf by_ co tx lx fl) ∧ ∀ (k : Nat) (vv : FV), k < 10 → x = nI k → fl k = some vv → isQ so1 di1 → v = (vv.2.2.2.1 (nn, nt, mn, mt, dp, rf, by_, so1, di1, le1) (0, 0, -2)).1 ∧ MRR G c0 mo ar f f' pn pt nn nt mn mt dp rf by_ ((vv.2.2.2.1 (nn, nt, mn, mt, dp, rf, by_, so1, di1, le1) (0, 0, -2)).2.1) ((vv.2.2.2.1 (nn, nt, mn, mt, dp, rf, by_, so1, di1, le1) (0, 0, -2)).2.2.1) ((vv.2.2.2.1 (nn, nt, mn, mt, dp, rf, by_, so1, di1, le1) (0, 0, -2)).2.2.2) fl) := by
  refine ct_of (by decide) (Nat.le_of_ble_eq_true rfl) ?_
  intro p e s m below meth c ls H locs hEn
  obtain ⟨hc, hr, hlk, hin, hE, hw, hsz, hl⟩ := hEn
  have hx := hc.1
  have hb := hc.2.1
  have hl : lv_has ls 5 [(0, .ref mo), (1, .int x), (2, .int so1), (3, .int di1), (4, .int le1)] := hl
  have hX : Mx mo ar f f := Mx.rf
  obtain ⟨sc, av, b, md, hM, hMS⟩ := hR
  have hMS0 := hMS
  obtain ⟨⟨h0, h1, h2, h3, h4⟩, ⟨h5, h6, h7⟩, ⟨h8, h9, h10⟩, ⟨hA, hnt, hmt, hS⟩, ⟨hbc, hmd, hpn, hnn, hmn⟩, hSL⟩ := hMS
  have hbn : b + pn ≤ 4200 := by omega
  have J45 : ∀ (ls : Array Slot) (H : Heap) (locs : List Loc), ¬ noS (av 11) x → isQ so1 di1 → ms G.1 (Af f sz) f s H locs → lv_has ls 5 [(0, .ref mo), (1, .int x), (2, .int so1), (3, .int di1), (4, .int le1)] → W p l e ({ frames := 7, cells := 0, slots := 0, locals := 182 }) s m ([.ref mo, .int x, .int so1, .int di1, .int le1] : List Value).toArray below meth c H locs 0 0 (MQ below (va_Qi (fun v f' => (noF fl x ∨ ¬ isQ so1 di1 → v = -1 ∧ MRR G c0 mo ar f f' pn pt nn nt mn mt dp rf by_ co tx lx fl) ∧ ∀ (k : Nat) (vv : FV), k < 10 → x = nI k → fl k = some vv → isQ so1 di1 → v = (vv.2.2.2.1 (nn, nt, mn, mt, dp, rf, by_, so1, di1, le1) (0, 0, -2)).1 ∧ MRR G c0 mo ar f f' pn pt nn nt mn mt dp rf by_ ((vv.2.2.2.1 (nn, nt, mn, mt, dp, rf, by_, so1, di1, le1) (0, 0, -2)).2.1) ((vv.2.2.2.1 (nn, nt, mn, mt, dp, rf, by_, so1, di1, le1) (0, 0, -2)).2.2.1) ((vv.2.2.2.1 (nn, nt, mn, mt, dp, rf, by_, so1, di1, le1) (0, 0, -2)).2.2.2) fl) (Bw G f sz) (Af f sz)) ([.ref mo, .int x, .int so1, .int di1, .int le1] : List Value).toArray s 0 0 (Af f sz)) (F0 m 45 ls []) := by
    intro  ls H locs hns hQ hw hl
    obtain ⟨k0, nd0, v0, hk0, hxk0, hfl0, hsl0, hNH0⟩ := hSL.some (x := x) hns
    have hlt0 := hNH0.lt
    obtain ⟨l0, g0, hl0, hg0, hl10, hl20, hg10, hg20, hNV0⟩ := hNH0
    have hlh0 := hNV0.lh
    refine lv_aload_n hx hb d_SM_ask_45 rfl (lv_at hl 0 rfl) ?_
    refine lv_iconst (v := 0) hx hb d_SM_ask_46 (by decide) ?_
    refine m_mput (sc' := (upd sc 8 0)) hc hE hw hM hX l_SM_175_SM rfl ds_SM_20 rfl rfl rfl d_SM_ask_47 (fun H locs f21 hM22 hX23 hw => ?_)
    refine lv_aload_n hx hb d_SM_ask_50 rfl (lv_at hl 0 rfl) ?_
    refine lv_iconst (v := 0) hx hb d_SM_ask_51 (by decide) ?_
    refine m_mput (sc' := (upd (upd sc 8 0) 9 0)) hc hE hw hM22 hX23 l_SM_169_SM rfl ds_SM_21 rfl rfl rfl d_SM_ask_52 (fun H locs f24 hM25 hX26 hw => ?_)
    refine lv_aload_n hx hb d_SM_ask_55 rfl (lv_at hl 0 rfl) ?_
    refine lv_bipush (v := (-2)) hx hb d_SM_ask_56 (by decide) ?_
    refine m_mput (sc' := (upd (upd (upd sc 8 0) 9 0) 10 (-2))) hc hE hw hM25 hX26 l_SM_46_SM rfl ds_SM_22 rfl rfl rfl d_SM_ask_58 (fun H locs f27 hM28 hX29 hw => ?_)
    refine lv_aload_n hx hb d_SM_ask_61 rfl (lv_at hl 0 rfl) ?_
    refine lv_iconst (v := 0) hx hb d_SM_ask_62 (by decide) ?_
    refine m_mput (sc' := (upd (upd (upd (upd sc 8 0) 9 0) 10 (-2)) 11 0)) hc hE hw hM28 hX29 l_SM_182_SM rfl ds_SM_36 rfl rfl rfl d_SM_ask_63 (fun H locs f30 hM31 hX32 hw => ?_)
    refine lv_aload_n hx hb d_SM_ask_66 rfl (lv_at hl 0 rfl) ?_
    refine lv_aload_n hx hb d_SM_ask_67 rfl (lv_at hl 0 rfl) ?_
    refine m_mget (v := .ref (ar 11)) hc hE hw hM31 l_SM_43_SM rfl d_SM_ask_68 ?_
    refine lv_iload_n hx hb d_SM_ask_71 rfl (lv_at hl 1 rfl) ?_
    refine m_mald (v := (nI nd0)) hc hE hw hM31 (k := 11) (by decide) (by rw [hxk0]; exact vp_in_nI hk0 (by decide)) (rfl.trans (by rw [hxk0, nI_clamp (by omega)]; exact hsl0)) d_SM_ask_72 ?_
    refine m_callv hw (m_runV (As := [.int (nI nd0)]) (rest := []) hc hE hw (c_SM_push G l H.size f30 hM31 (tp := 0) rfl (by decide) (nI nd0)) hM31.1 rfl cw_SM_192 se_SM_push rfl hl.1 rfl (Nat.le_of_ble_eq_true rfl) d_SM_ask_73 ⟨rfl, rfl, by decide, by decide⟩ ⟨by first | decide | (dsimp only; omega), by first | decide | (dsimp only; omega)⟩) (fun g34 H locs p33 hw => ?_)
    obtain ⟨hMp, hXp⟩ := p33
    replace hMp : Mw G mo ar (upd (upd (upd (upd sc 8 0) 9 0) 10 (-2)) 11 (nI (0 + 1))) (va_up (va_up av 12 (upd (av 12) 0 (nI nd0))) 13 (upd (av 13) 0 0)) g34 := hMp
    obtain ⟨Go, hGo⟩ : ∃ Go : Wd → Prop, ∀ f1 : Wd, Go f1 ↔ ∀ (ls : Array Slot) (H : Heap) (locs : List Loc), ms G.1 (Af f sz) f1 s H locs → lv_has ls 5 [(0, .ref mo), (1, .int x), (2, .int so1), (3, .int di1), (4, .int le1)] → W p l e ({ frames := 7, cells := 0, slots := 0, locals := 182 }) s m ([.ref mo, .int x, .int so1, .int di1, .int le1] : List Value).toArray below meth c H locs 0 0 (MQ below (va_Qi (fun v f' => (noF fl x ∨ ¬ isQ so1 di1 → v = -1 ∧ MRR G c0 mo ar f f' pn pt nn nt mn mt dp rf by_ co tx lx fl) ∧ ∀ (k : Nat) (vv : FV), k < 10 → x = nI k → fl k = some vv → isQ so1 di1 → v = (vv.2.2.2.1 (nn, nt, mn, mt, dp, rf, by_, so1, di1, le1) (0, 0, -2)).1 ∧ MRR G c0 mo ar f f' pn pt nn nt mn mt dp rf by_ ((vv.2.2.2.1 (nn, nt, mn, mt, dp, rf, by_, so1, di1, le1) (0, 0, -2)).2.1) ((vv.2.2.2.1 (nn, nt, mn, mt, dp, rf, by_, so1, di1, le1) (0, 0, -2)).2.2.1) ((vv.2.2.2.1 (nn, nt, mn, mt, dp, rf, by_, so1, di1, le1) (0, 0, -2)).2.2.2) fl) (Bw G f sz) (Af f sz)) ([.ref mo, .int x, .int so1, .int di1, .int le1] : List Value).toArray s 0 0 (Af f sz)) (F0 m 76 ls []) := ⟨_, fun _ => Iff.rfl⟩
    obtain ⟨sc1, hsc1⟩ : ∃ z, z = (upd (upd (upd (upd sc 8 0) 9 0) 10 (-2)) 11 (nI (0 + 1))) := ⟨_, rfl⟩
    obtain ⟨av1, hav1⟩ : ∃ z, z = (va_up (va_up av 12 (upd (av 12) 0 (nI nd0))) 13 (upd (av 13) 0 0)) := ⟨_, rfl⟩
    have hMq : Mw G mo ar sc1 av1 g34 := by rw [hsc1, hav1]; exact hMp
    have hXq : Mx mo ar f g34 := (hX32.tr hXp)
    have iter : ∀ (f1 : Wd) (sc1 : Nat → Int32) (av1 : Nat → Nat → Int32) (tp : Nat) (post : Wd → Prop), Mw G mo ar sc1 av1 f1 → Mx mo ar f f1 → sc1 11 = nI (tp + 1) → tp < 19 → GoC G l mo so1 di1 le1 f1 post → (∀ f2, post f2 → Go f2) → Go f1 := by
      intro f1 sc1 av1 tp post hM1 hX1 ht1 hlt1 hgc hk
      rw [hGo]
      intro ls H locs hw hl
      refine lv_aload_n hx hb d_SM_ask_76 rfl (lv_at hl 0 rfl) ?_
      refine m_mget (v := .int (sc1 11)) hc hE hw hM1 l_SM_182_SM rfl d_SM_ask_77 ?_
      refine m_top (y := nI (tp + 1)) ht1 ?_
      refine lv_if_le (tgt := 94) hx hb d_SM_ask_80 (by decide) (fun c35 => ?_) (fun c35 => ?_)
      · have c35n : (tp + 1) ≤ 0 := (nI_leI (a := (tp + 1)) (b := 0) (by omega) (by omega)).mp c35
        exact absurd c35n (by omega)
      · have c35n : ¬ ((tp + 1) ≤ 0) := fun z => c35 ((nI_leI (a := (tp + 1)) (b := 0) (by omega) (by omega)).mpr z)
        refine lv_aload_n hx hb d_SM_ask_83 rfl (lv_at hl 0 rfl) ?_
        refine lv_iload_n hx hb d_SM_ask_84 rfl (lv_at hl 2 rfl) ?_
        refine lv_iload_n hx hb d_SM_ask_85 rfl (lv_at hl 3 rfl) ?_
        refine lv_iload hx hb d_SM_ask_86 (lv_at hl 4 rfl) ?_
        refine m_callv hw (m_runV (As := [.int so1, .int di1, .int le1]) (rest := []) hc hE hw (hgc H.size) hM1.1 rfl cw_SM_196 se_SM_goOn rfl hl.1 rfl (Nat.le_of_ble_eq_true rfl) d_SM_ask_88 ⟨rfl, rfl, by decide, by decide⟩ ⟨by first | decide | (dsimp only; omega), by first | decide | (dsimp only; omega)⟩) (fun g37 H locs p36 hw => ?_)
        refine lv_goto (tgt := 76) hx hb d_SM_ask_91 (by decide) ?_
        exact (hGo _).mp (hk _ p36) ls H locs hw (lv_sub hl [0, 1, 2, 3, 4] rfl)
    refine (hGo _).mp (run_all (T := b + pn) (md := md) (sc0 := sc1) (av0 := av) (nn := nn) (mn := mn) hbn (by omega) hS (by rw [hsc1]; exact h2) (by rw [hsc1]; exact h3) hnn hmn iter g0 0 nd0 v0 sc1 av1 _ hNV0 (by omega) hMq hXq (fun _ _ => rfl) (fun j hj => by rw [hav1, va_up_ne _ _ (by omega), va_up_ne _ _ (by omega)]) (by rw [hsc1]; rfl) (by rw [hav1]; exact (show upd (av 12) 0 (nI nd0) 0 = nI nd0 from upd_self' _ _ _)) (by rw [hav1]; exact (show upd (av 13) 0 0 0 = 0 from upd_self' _ _ _)) ?_) ls H locs hw (lv_sub hl [0, 1, 2, 3, 4] rfl)
    intro sc2 av2 f2 hM2 hX2 h82 hs2 ht2 hv2
    rw [hGo]
    intro ls H locs hw hl
    refine lv_aload_n hx hb d_SM_ask_76 rfl (lv_at hl 0 rfl) ?_
    refine m_mget (v := .int (sc2 11)) hc hE hw hM2 l_SM_182_SM rfl d_SM_ask_77 ?_
    refine m_top (y := nI 0) ht2 ?_
    refine lv_if_le (tgt := 94) hx hb d_SM_ask_80 (by decide) (fun c38 => ?_) (fun c38 => ?_)
    · have c38n : 0 ≤ 0 := (nI_leI (a := 0) (b := 0) (by omega) (by omega)).mp c38
      refine lv_aload_n hx hb d_SM_ask_94 rfl (lv_at hl 0 rfl) ?_
      refine m_mget (v := .int (sc2 12)) hc hE hw hM2 l_SM_189_SM rfl d_SM_ask_95 ?_
      have hrr : ∀ j, j < 12 → av2 j = av j := fun j hj => (hs2.1 j hj).trans (by rw [hav1, va_up_ne _ _ (by omega), va_up_ne _ _ (by omega)])
      have g8 : sc1 8 = 0 := by rw [hsc1]; rfl
      have g9 : sc1 9 = 0 := by rw [hsc1]; rfl
      have g10 : sc1 10 = -2 := by rw [hsc1]; rfl
      have g5 : sc1 5 = dp := by rw [hsc1]; exact h5
      have g6 : sc1 6 = rf := by rw [hsc1]; exact h6
      have g7 : sc1 7 = by_ := by rw [hsc1]; exact h7
      rw [g8, g9, g10, g5, g6, g7, hnt, hmt] at hv2
      obtain ⟨r2, q2⟩ := tr4 hv2
      have z8 : sc2 8 = (v0.2.2.2.1 (nn, nt, mn, mt, dp, rf, by_, so1, di1, le1) (0, 0, -2)).2.1 := congrArg Prod.fst q2
      have z9 : sc2 9 = (v0.2.2.2.1 (nn, nt, mn, mt, dp, rf, by_, so1, di1, le1) (0, 0, -2)).2.2.1 := congrArg (fun z => z.2.1) q2
      have z10 : sc2 10 = (v0.2.2.2.1 (nn, nt, mn, mt, dp, rf, by_, so1, di1, le1) (0, 0, -2)).2.2.2 := congrArg (fun z => z.2.2) q2
      have hk2 : ∀ j, j < 8 → sc2 j = sc j := fun j hj => (h82 j hj).trans (by rw [hsc1]; repeat rw [upd_ne' _ _ _ (by omega)])
      exact m_iret hc hr hlk hw ⟨by first | decide | (dsimp only; omega), by first | decide | (dsimp only; omega)⟩ d_SM_ask_98 ⟨fun z => z.elim (fun y => absurd ((hSL.no (by omega)).mpr y) hns) (fun y => absurd hQ y), fun k vv q1 q2 q3 _ => by have ek : k = k0 := (nI_eq (by omega) (by omega)).mp (q2.symm.trans hxk0); subst ek; have ev : vv = v0 := Option.some.inj (q3.symm.trans hfl0); subst ev; exact ⟨r2, ⟨sc2, av2, b, md, hM2, ⟨(hk2 0 (by decide)).trans h0, (hk2 1 (by decide)).trans h1, (hk2 2 (by decide)).trans h2, (hk2 3 (by decide)).trans h3, (hk2 4 (by decide)).trans h4⟩, ⟨(hk2 5 (by decide)).trans h5, (hk2 6 (by decide)).trans h6, (hk2 7 (by decide)).trans h7⟩, ⟨z8, z9, z10⟩, ⟨by rw [hrr 0 (by decide)]; exact hA, (hrr 1 (by decide)).trans hnt, (hrr 2 (by decide)).trans hmt, by rw [hrr 0 (by decide)]; exact hS⟩, ⟨by omega, by omega, hpn, hnn, hmn⟩, SL.mono (fun j _ => by rw [hrr 0 (by decide)]) (fun r q1 q2 j _ => by rw [hrr r (by omega)]) (Nat.le_refl _) (Nat.le_refl _) (hrr 11 (by decide)) hSL⟩, hX2⟩⟩
    · have c38n : ¬ (0 ≤ 0) := fun z => c38 ((nI_leI (a := 0) (b := 0) (by omega) (by omega)).mpr z)
      exact absurd (Nat.le_refl 0) c38n
  refine lv_aload_n hx hb d_SM_ask_0 rfl (lv_at hl 0 rfl) ?_
  refine lv_iload_n hx hb d_SM_ask_1 rfl (lv_at hl 1 rfl) ?_
  refine m_calli hw (m_runV (As := [.int x]) (rest := []) hc hE hw (c_SM_none G l H.size f hM x) hM.1 rfl cw_SM_150 se_SM_none rfl hl.1 rfl (Nat.le_of_ble_eq_true rfl) d_SM_ask_2 ⟨rfl, rfl, by decide, by decide⟩ ⟨by first | decide | (dsimp only; omega), by first | decide | (dsimp only; omega)⟩) (fun r41 g40 H locs p39 hw => ?_)
  obtain ⟨rfl, p39⟩ := p39
  subst p39
  refine lv_if_ne (tgt := 43) hx hb d_SM_ask_5 (by decide) (fun c42 => ?_) (fun c42 => ?_)
  · have c42n : (noS (av 11) x) := bI_n.mp c42
    refine lv_iconst (v := (-1)) hx hb d_SM_ask_43 (by decide) ?_
    exact m_iret hc hr hlk hw ⟨by first | decide | (dsimp only; omega), by first | decide | (dsimp only; omega)⟩ d_SM_ask_44 ⟨fun _ => ⟨rfl, ⟨⟨_, av, b, md, hM, hMS0.fr (fun _ _ => rfl)⟩, hX⟩⟩, fun k vv q1 q2 q3 q4 => absurd (((hSL.no (by omega)).mp c42n k q1 q2).symm.trans q3) (by intro z; cases z)⟩
  · have c42n : ¬ (noS (av 11) x) := bI_0.mp c42
    refine lv_aload_n hx hb d_SM_ask_8 rfl (lv_at hl 0 rfl) ?_
    refine lv_iload_n hx hb d_SM_ask_9 rfl (lv_at hl 2 rfl) ?_
    refine lv_iconst (v := 3) hx hb d_SM_ask_10 (by decide) ?_
    refine m_calli hw (m_runV (As := [.int so1, .int 3]) (rest := []) hc hE hw (c_SM_out G l H.size f hM so1 3) hM.1 rfl cw_SM_71 se_SM_out rfl hl.1 rfl (Nat.le_of_ble_eq_true rfl) d_SM_ask_11 ⟨rfl, rfl, by decide, by decide⟩ ⟨by first | decide | (dsimp only; omega), by first | decide | (dsimp only; omega)⟩) (fun r45 g44 H locs p43 hw => ?_)
    obtain ⟨rfl, p43⟩ := p43
    subst p43
    refine lv_if_ne (tgt := 43) hx hb d_SM_ask_14 (by decide) (fun c46 => ?_) (fun c46 => ?_)
    · have c46n : (so1 < 0 ∨ 3 ≤ so1) := bI_n.mp c46
      refine lv_iconst (v := (-1)) hx hb d_SM_ask_43 (by decide) ?_
      exact m_iret hc hr hlk hw ⟨by first | decide | (dsimp only; omega), by first | decide | (dsimp only; omega)⟩ d_SM_ask_44 ⟨fun _ => ⟨rfl, ⟨⟨_, av, b, md, hM, hMS0.fr (fun _ _ => rfl)⟩, hX⟩⟩, fun k vv q1 q2 q3 q4 => absurd c46n (isQ_iff.mp q4).1⟩
    · have c46n : ¬ (so1 < 0 ∨ 3 ≤ so1) := bI_0.mp c46
      refine lv_aload_n hx hb d_SM_ask_17 rfl (lv_at hl 0 rfl) ?_
      refine lv_iload_n hx hb d_SM_ask_18 rfl (lv_at hl 3 rfl) ?_
      refine lv_iconst (v := 4) hx hb d_SM_ask_19 (by decide) ?_
      refine m_calli hw (m_runV (As := [.int di1, .int 4]) (rest := []) hc hE hw (c_SM_out G l H.size f hM di1 4) hM.1 rfl cw_SM_71 se_SM_out rfl hl.1 rfl (Nat.le_of_ble_eq_true rfl) d_SM_ask_20 ⟨rfl, rfl, by decide, by decide⟩ ⟨by first | decide | (dsimp only; omega), by first | decide | (dsimp only; omega)⟩) (fun r49 g48 H locs p47 hw => ?_)
      obtain ⟨rfl, p47⟩ := p47
      subst p47
      refine lv_if_ne (tgt := 43) hx hb d_SM_ask_23 (by decide) (fun c50 => ?_) (fun c50 => ?_)
      · have c50n : (di1 < 0 ∨ 4 ≤ di1) := bI_n.mp c50
        refine lv_iconst (v := (-1)) hx hb d_SM_ask_43 (by decide) ?_
        exact m_iret hc hr hlk hw ⟨by first | decide | (dsimp only; omega), by first | decide | (dsimp only; omega)⟩ d_SM_ask_44 ⟨fun _ => ⟨rfl, ⟨⟨_, av, b, md, hM, hMS0.fr (fun _ _ => rfl)⟩, hX⟩⟩, fun k vv q1 q2 q3 q4 => absurd c50n (isQ_iff.mp q4).2.1⟩
      · have c50n : ¬ (di1 < 0 ∨ 4 ≤ di1) := bI_0.mp c50
        refine lv_iload_n hx hb d_SM_ask_26 rfl (lv_at hl 2 rfl) ?_
        refine lv_if_ne (tgt := 34) hx hb d_SM_ask_27 (by decide) (fun c51 => ?_) (fun c51 => ?_)
        · refine lv_iload_n hx hb d_SM_ask_34 rfl (lv_at hl 2 rfl) ?_
          refine lv_iconst (v := 2) hx hb d_SM_ask_35 (by decide) ?_
          refine lv_icmp_ne (tgt := 45) hx hb d_SM_ask_36 (by decide) (fun c52 => ?_) (fun c52 => ?_)
          · exact J45 ls H locs c42n (isQ_iff.mpr ⟨c46n, c50n, fun z => c51 z.1, fun z => c52 z.1⟩) hw (lv_sub hl [0, 1, 2, 3, 4] rfl)
          · refine lv_iload_n hx hb d_SM_ask_39 rfl (lv_at hl 3 rfl) ?_
            refine lv_if_ne (tgt := 45) hx hb d_SM_ask_40 (by decide) (fun c53 => ?_) (fun c53 => ?_)
            · exact J45 ls H locs c42n (isQ_iff.mpr ⟨c46n, c50n, fun z => c51 z.1, fun z => c53 z.2⟩) hw (lv_sub hl [0, 1, 2, 3, 4] rfl)
            · refine lv_iconst (v := (-1)) hx hb d_SM_ask_43 (by decide) ?_
              exact m_iret hc hr hlk hw ⟨by first | decide | (dsimp only; omega), by first | decide | (dsimp only; omega)⟩ d_SM_ask_44 ⟨fun _ => ⟨rfl, ⟨⟨_, av, b, md, hM, hMS0.fr (fun _ _ => rfl)⟩, hX⟩⟩, fun k vv q1 q2 q3 q4 => absurd ⟨c52, c53⟩ (isQ_iff.mp q4).2.2.2⟩
        · refine lv_iload_n hx hb d_SM_ask_30 rfl (lv_at hl 3 rfl) ?_
          refine lv_if_gt (tgt := 43) hx hb d_SM_ask_31 (by decide) (fun c54 => ?_) (fun c54 => ?_)
          · refine lv_iconst (v := (-1)) hx hb d_SM_ask_43 (by decide) ?_
            exact m_iret hc hr hlk hw ⟨by first | decide | (dsimp only; omega), by first | decide | (dsimp only; omega)⟩ d_SM_ask_44 ⟨fun _ => ⟨rfl, ⟨⟨_, av, b, md, hM, hMS0.fr (fun _ _ => rfl)⟩, hX⟩⟩, fun k vv q1 q2 q3 q4 => absurd ⟨c51, c54⟩ (isQ_iff.mp q4).2.2.1⟩
          · refine lv_iload_n hx hb d_SM_ask_34 rfl (lv_at hl 2 rfl) ?_
            refine lv_iconst (v := 2) hx hb d_SM_ask_35 (by decide) ?_
            refine lv_icmp_ne (tgt := 45) hx hb d_SM_ask_36 (by decide) (fun c55 => ?_) (fun c55 => ?_)
            · exact J45 ls H locs c42n (isQ_iff.mpr ⟨c46n, c50n, fun z => c54 z.2, fun z => c55 z.1⟩) hw (lv_sub hl [0, 1, 2, 3, 4] rfl)
            · refine lv_iload_n hx hb d_SM_ask_39 rfl (lv_at hl 3 rfl) ?_
              refine lv_if_ne (tgt := 45) hx hb d_SM_ask_40 (by decide) (fun c56 => ?_) (fun c56 => ?_)
              · exact J45 ls H locs c42n (isQ_iff.mpr ⟨c46n, c50n, fun z => c54 z.2, fun z => c56 z.2⟩) hw (lv_sub hl [0, 1, 2, 3, 4] rfl)
              · refine lv_iconst (v := (-1)) hx hb d_SM_ask_43 (by decide) ?_
                exact m_iret hc hr hlk hw ⟨by first | decide | (dsimp only; omega), by first | decide | (dsimp only; omega)⟩ d_SM_ask_44 ⟨fun _ => ⟨rfl, ⟨⟨_, av, b, md, hM, hMS0.fr (fun _ _ => rfl)⟩, hX⟩⟩, fun k vv q1 q2 q3 q4 => absurd ⟨c55, c56⟩ (isQ_iff.mp q4).2.2.2⟩
