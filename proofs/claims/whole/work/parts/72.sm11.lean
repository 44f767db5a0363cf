/-! links of the pools, as the walks ask for them -/
/-! decode rows -/
theorem d_SM_filter_0 : decode b_SM_filter 0 = .ok (.aload_n 0, 1) := by decide +kernel
theorem d_SM_filter_1 : decode b_SM_filter 1 = .ok (.iload_n 1, 1) := by decide +kernel
theorem d_SM_filter_2 : decode b_SM_filter 2 = .ok (.bipush 10, 2) := by decide +kernel
theorem d_SM_filter_4 : decode b_SM_filter 4 = .ok (.invokevirtual 71, 3) := by decide +kernel
theorem d_SM_filter_7 : decode b_SM_filter 7 = .ok (.ifCond .ne 13, 3) := by decide +kernel
theorem d_SM_filter_10 : decode b_SM_filter 10 = .ok (.aload_n 0, 1) := by decide +kernel
theorem d_SM_filter_11 : decode b_SM_filter 11 = .ok (.iload_n 2, 1) := by decide +kernel
theorem d_SM_filter_12 : decode b_SM_filter 12 = .ok (.bipush 9, 2) := by decide +kernel
theorem d_SM_filter_14 : decode b_SM_filter 14 = .ok (.invokevirtual 71, 3) := by decide +kernel
theorem d_SM_filter_17 : decode b_SM_filter 17 = .ok (.ifCond .eq 5, 3) := by decide +kernel
theorem d_SM_filter_20 : decode b_SM_filter 20 = .ok (.iconst (-1), 1) := by decide +kernel
theorem d_SM_filter_21 : decode b_SM_filter 21 = .ok (.ireturn, 1) := by decide +kernel
theorem d_SM_filter_22 : decode b_SM_filter 22 = .ok (.aload_n 0, 1) := by decide +kernel
theorem d_SM_filter_23 : decode b_SM_filter 23 = .ok (.getfield 43, 3) := by decide +kernel
theorem d_SM_filter_26 : decode b_SM_filter 26 = .ok (.iload_n 1, 1) := by decide +kernel
theorem d_SM_filter_27 : decode b_SM_filter 27 = .ok (.iaload, 1) := by decide +kernel
theorem d_SM_filter_28 : decode b_SM_filter 28 = .ok (.istore_n 3, 1) := by decide +kernel
theorem d_SM_filter_29 : decode b_SM_filter 29 = .ok (.iload_n 2, 1) := by decide +kernel
theorem d_SM_filter_30 : decode b_SM_filter 30 = .ok (.ifCond .ne 18, 3) := by decide +kernel
theorem d_SM_filter_33 : decode b_SM_filter 33 = .ok (.iload_n 3, 1) := by decide +kernel
theorem d_SM_filter_34 : decode b_SM_filter 34 = .ok (.ifCond .ge 7, 3) := by decide +kernel
theorem d_SM_filter_37 : decode b_SM_filter 37 = .ok (.iconst 0, 1) := by decide +kernel
theorem d_SM_filter_38 : decode b_SM_filter 38 = .ok (.goto 9, 3) := by decide +kernel
theorem d_SM_filter_41 : decode b_SM_filter 41 = .ok (.aload_n 0, 1) := by decide +kernel
theorem d_SM_filter_42 : decode b_SM_filter 42 = .ok (.getfield 19, 3) := by decide +kernel
theorem d_SM_filter_45 : decode b_SM_filter 45 = .ok (.iload_n 3, 1) := by decide +kernel
theorem d_SM_filter_46 : decode b_SM_filter 46 = .ok (.iaload, 1) := by decide +kernel
theorem d_SM_filter_47 : decode b_SM_filter 47 = .ok (.ireturn, 1) := by decide +kernel
theorem d_SM_filter_48 : decode b_SM_filter 48 = .ok (.iload_n 3, 1) := by decide +kernel
theorem d_SM_filter_49 : decode b_SM_filter 49 = .ok (.ifCond .ge 5, 3) := by decide +kernel
theorem d_SM_filter_52 : decode b_SM_filter 52 = .ok (.iconst (-1), 1) := by decide +kernel
theorem d_SM_filter_53 : decode b_SM_filter 53 = .ok (.ireturn, 1) := by decide +kernel
theorem d_SM_filter_54 : decode b_SM_filter 54 = .ok (.iload_n 2, 1) := by decide +kernel
theorem d_SM_filter_55 : decode b_SM_filter 55 = .ok (.iconst 3, 1) := by decide +kernel
theorem d_SM_filter_56 : decode b_SM_filter 56 = .ok (.if_icmp .ge 24, 3) := by decide +kernel
theorem d_SM_filter_59 : decode b_SM_filter 59 = .ok (.iload_n 2, 1) := by decide +kernel
theorem d_SM_filter_60 : decode b_SM_filter 60 = .ok (.iconst 1, 1) := by decide +kernel
theorem d_SM_filter_61 : decode b_SM_filter 61 = .ok (.if_icmp .ne 12, 3) := by decide +kernel
theorem d_SM_filter_64 : decode b_SM_filter 64 = .ok (.aload_n 0, 1) := by decide +kernel
theorem d_SM_filter_65 : decode b_SM_filter 65 = .ok (.getfield 37, 3) := by decide +kernel
theorem d_SM_filter_68 : decode b_SM_filter 68 = .ok (.iload_n 3, 1) := by decide +kernel
theorem d_SM_filter_69 : decode b_SM_filter 69 = .ok (.iaload, 1) := by decide +kernel
theorem d_SM_filter_70 : decode b_SM_filter 70 = .ok (.goto 9, 3) := by decide +kernel
theorem d_SM_filter_73 : decode b_SM_filter 73 = .ok (.aload_n 0, 1) := by decide +kernel
theorem d_SM_filter_74 : decode b_SM_filter 74 = .ok (.getfield 40, 3) := by decide +kernel
theorem d_SM_filter_77 : decode b_SM_filter 77 = .ok (.iload_n 3, 1) := by decide +kernel
theorem d_SM_filter_78 : decode b_SM_filter 78 = .ok (.iaload, 1) := by decide +kernel
theorem d_SM_filter_79 : decode b_SM_filter 79 = .ok (.ireturn, 1) := by decide +kernel
theorem d_SM_filter_80 : decode b_SM_filter 80 = .ok (.aload_n 0, 1) := by decide +kernel
theorem d_SM_filter_81 : decode b_SM_filter 81 = .ok (.getfield 19, 3) := by decide +kernel
theorem d_SM_filter_84 : decode b_SM_filter 84 = .ok (.iload_n 3, 1) := by decide +kernel
theorem d_SM_filter_85 : decode b_SM_filter 85 = .ok (.iaload, 1) := by decide +kernel
theorem d_SM_filter_86 : decode b_SM_filter 86 = .ok (.iconst 1, 1) := by decide +kernel
theorem d_SM_filter_87 : decode b_SM_filter 87 = .ok (.if_icmp .eq 5, 3) := by decide +kernel
theorem d_SM_filter_90 : decode b_SM_filter 90 = .ok (.iconst (-1), 1) := by decide +kernel
theorem d_SM_filter_91 : decode b_SM_filter 91 = .ok (.ireturn, 1) := by decide +kernel
theorem d_SM_filter_92 : decode b_SM_filter 92 = .ok (.iload_n 2, 1) := by decide +kernel
theorem d_SM_filter_93 : decode b_SM_filter 93 = .ok (.iconst 3, 1) := by decide +kernel
theorem d_SM_filter_94 : decode b_SM_filter 94 = .ok (.if_icmp .ne 9, 3) := by decide +kernel
theorem d_SM_filter_97 : decode b_SM_filter 97 = .ok (.aload_n 0, 1) := by decide +kernel
theorem d_SM_filter_98 : decode b_SM_filter 98 = .ok (.iload_n 3, 1) := by decide +kernel
theorem d_SM_filter_99 : decode b_SM_filter 99 = .ok (.invokevirtual 147, 3) := by decide +kernel
theorem d_SM_filter_102 : decode b_SM_filter 102 = .ok (.ireturn, 1) := by decide +kernel
theorem d_SM_filter_103 : decode b_SM_filter 103 = .ok (.iload_n 2, 1) := by decide +kernel
theorem d_SM_filter_104 : decode b_SM_filter 104 = .ok (.bipush 8, 2) := by decide +kernel
theorem d_SM_filter_106 : decode b_SM_filter 106 = .ok (.if_icmp .ge 14, 3) := by decide +kernel
theorem d_SM_filter_109 : decode b_SM_filter 109 = .ok (.aload_n 0, 1) := by decide +kernel
theorem d_SM_filter_110 : decode b_SM_filter 110 = .ok (.iload_n 3, 1) := by decide +kernel
theorem d_SM_filter_111 : decode b_SM_filter 111 = .ok (.iload_n 2, 1) := by decide +kernel
theorem d_SM_filter_112 : decode b_SM_filter 112 = .ok (.iconst 4, 1) := by decide +kernel
theorem d_SM_filter_113 : decode b_SM_filter 113 = .ok (.isub, 1) := by decide +kernel
theorem d_SM_filter_114 : decode b_SM_filter 114 = .ok (.invokevirtual 166, 3) := by decide +kernel
theorem d_SM_filter_117 : decode b_SM_filter 117 = .ok (.goto 9, 3) := by decide +kernel
theorem d_SM_filter_120 : decode b_SM_filter 120 = .ok (.aload_n 0, 1) := by decide +kernel
theorem d_SM_filter_121 : decode b_SM_filter 121 = .ok (.getfield 34, 3) := by decide +kernel
theorem d_SM_filter_124 : decode b_SM_filter 124 = .ok (.iload_n 3, 1) := by decide +kernel
theorem d_SM_filter_125 : decode b_SM_filter 125 = .ok (.iaload, 1) := by decide +kernel
theorem d_SM_filter_126 : decode b_SM_filter 126 = .ok (.ireturn, 1) := by decide +kernel
theorem ttl_8 (np : Nat) (lm : Nat → Int32) (bs : Int32) : ttl np lm bs (nI 8) = bs := by
  unfold ttl
  rw [pif_f (by decide), pif_f (by decide), pif_f (by decide), pif_f (by decide), pif_f (by decide), pif_t (by decide)]
theorem ttl_l (np : Nat) (lm : Nat → Int32) (bs : Int32) {y : Nat} (h1 : 4 ≤ y) (h2 : y < 8) : ttl np lm bs (nI y) = lm (y - 4) := by
  unfold ttl
  rcases (show y = 4 ∨ y = 5 ∨ y = 6 ∨ y = 7 by omega) with rfl | rfl | rfl | rfl
  · rw [pif_f (by decide), pif_t (by decide)]
  · rw [pif_f (by decide), pif_f (by decide), pif_t (by decide)]
  · rw [pif_f (by decide), pif_f (by decide), pif_f (by decide), pif_t (by decide)]
  · rw [pif_f (by decide), pif_f (by decide), pif_f (by decide), pif_f (by decide), pif_t (by decide)]
theorem flv_out {o : Option FV} {y : Int32} (h : y < 0 ∨ 9 ≤ y) : flv o y = -1 := by
  have hn : ∀ k : Nat, k < 9 → ¬ y = nI k := fun k hk z => by
    rw [z] at h
    exact h.elim (fun q => nI_pos (by omega) q) (fun q => nI_ge (b := 9) hk (by decide) q)
  have h0 := hn 0 (by decide)
  have h1 := hn 1 (by decide)
  have h2 := hn 2 (by decide)
  cases o with
  | none => exact pif_f h0
  | some v =>
    refine (pif_f h0).trans ((pif_f h1).trans ((pif_f h2).trans ?_))
    by_cases z : v.1 = 1
    · rw [pif_t z]
      unfold ttl
      rw [pif_f (show ¬ y = 3 from hn 3 (by decide)), pif_f (show ¬ y = 4 from hn 4 (by decide)), pif_f (show ¬ y = 5 from hn 5 (by decide)), pif_f (show ¬ y = 6 from hn 6 (by decide)), pif_f (show ¬ y = 7 from hn 7 (by decide)), pif_f (show ¬ y = 8 from hn 8 (by decide))]
    · exact pif_f z
set_option maxHeartbeats 4000000 in
set_option maxRecDepth 100000 in
/-- filter -/
theorem c_SM_filter (G : GG) (l : Launch) (sz : Nat) (f : Wd) {mo c0 pn nn mn : Nat} {ar : Nat → Nat} {pt nt mt : Nat → Int32} {dp rf by_ co tx lx : Int32} {fl : Nat → Option FV} (hR : MR G c0 mo ar f pn pt nn nt mn mt dp rf by_ co tx lx fl) (hc0 : c0 < 512) (x y : Int32) : Ci G l y_SM_filter b_SM_filter 4 (some .int) ({ frames := 4, cells := 0, slots := 0, locals := 106 }) sz f [.ref mo, .int x, .int y] (fun v f' => (¬ (¬ x < 0 ∧ ¬ 10 ≤ x) → v = -1) ∧ (∀ k : Nat, k < 10 → x = nI k → v = flv (fl k) y) ∧ MRR G c0 mo ar f f' pn pt nn nt mn mt dp rf by_ co tx lx fl) := by
  refine ct_of (by decide) (Nat.le_of_ble_eq_true rfl) ?_
  intro p e s m below meth c ls H locs hEn
  obtain ⟨hc, hr, hlk, hin, hE, hw, hsz, hl⟩ := hEn
  have hx := hc.1
  have hb := hc.2.1
  have hl : lv_has ls 4 [(0, .ref mo), (1, .int x), (2, .int y)] := hl
  have hX : Mx mo ar f f := Mx.rf
  obtain ⟨sc, av, b, md, hM, hMS⟩ := hR
  have hMS0 := hMS
  obtain ⟨⟨h0, h1, h2, h3, h4⟩, ⟨h5, h6, h7⟩, ⟨h8, h9, h10⟩, ⟨hA, hnt, hmt, hS⟩, ⟨hbc, hmd, hpn, hnn, hmn⟩, hSL⟩ := hMS
  have hbn : b + pn ≤ 4200 := by omega
  refine lv_aload_n hx hb d_SM_filter_0 rfl (lv_at hl 0 rfl) ?_
  refine lv_iload_n hx hb d_SM_filter_1 rfl (lv_at hl 1 rfl) ?_
  refine lv_bipush (v := 10) hx hb d_SM_filter_2 (by decide) ?_
  refine m_calli hw (m_runV (As := [.int x, .int 10]) (rest := []) hc hE hw (c_SM_out G l H.size f hM x 10) hM.1 rfl cw_SM_71 se_SM_out rfl hl.1 rfl (Nat.le_of_ble_eq_true rfl) d_SM_filter_4 ⟨rfl, rfl, by decide, by decide⟩ ⟨by first | decide | (dsimp only; omega), by first | decide | (dsimp only; omega)⟩) (fun r23 g22 H locs p21 hw => ?_)
  obtain ⟨rfl, p21⟩ := p21
  subst p21
  refine lv_if_ne (tgt := 20) hx hb d_SM_filter_7 (by decide) (fun c24 => ?_) (fun c24 => ?_)
  · have c24n : (x < 0 ∨ 10 ≤ x) := bI_n.mp c24
    refine lv_iconst (v := (-1)) hx hb d_SM_filter_20 (by decide) ?_
    exact m_iret hc hr hlk hw ⟨by first | decide | (dsimp only; omega), by first | decide | (dsimp only; omega)⟩ d_SM_filter_21 ⟨fun _ => rfl, fun k q1 q2 => absurd c24n (by rw [q2]; exact fun z => z.elim (plc q1).1 (plc q1).2), ⟨⟨_, av, b, md, hM, hMS0.fr (fun _ _ => rfl)⟩, hX⟩⟩
  · have c24n : ¬ (x < 0 ∨ 10 ≤ x) := bI_0.mp c24
    refine lv_aload_n hx hb d_SM_filter_10 rfl (lv_at hl 0 rfl) ?_
    refine lv_iload_n hx hb d_SM_filter_11 rfl (lv_at hl 2 rfl) ?_
    refine lv_bipush (v := 9) hx hb d_SM_filter_12 (by decide) ?_
    refine m_calli hw (m_runV (As := [.int y, .int 9]) (rest := []) hc hE hw (c_SM_out G l H.size f hM y 9) hM.1 rfl cw_SM_71 se_SM_out rfl hl.1 rfl (Nat.le_of_ble_eq_true rfl) d_SM_filter_14 ⟨rfl, rfl, by decide, by decide⟩ ⟨by first | decide | (dsimp only; omega), by first | decide | (dsimp only; omega)⟩) (fun r27 g26 H locs p25 hw => ?_)
    obtain ⟨rfl, p25⟩ := p25
    subst p25
    refine lv_if_eq (tgt := 22) hx hb d_SM_filter_17 (by decide) (fun c28 => ?_) (fun c28 => ?_)
    · have c28n : ¬ (y < 0 ∨ 9 ≤ y) := bI_0.mp c28
      obtain ⟨k0, hk0, hxk0⟩ := plc_of (x := x) c24n
      obtain ⟨y0, hy0, hyy⟩ : ∃ j, j < 9 ∧ y = nI j := vp_in_of (vin (n := 9) (cap := 9) (fun z => c28n (Or.inl z)) (fun z => c28n (Or.inr z)) (Nat.le_refl 9) (by decide)) (by decide)
      have hpl := c24n
      clear c24 c24n c28 c28n
      subst hxk0
      subst hyy
      have hone : ∀ k : Nat, k < 10 → nI k0 = nI k → k = k0 := fun k q1 q2 => ((nI_eq (by omega) (by omega)).mp q2).symm
      rcases hSL k0 hk0 with ⟨hsl0, hfl0⟩ | ⟨nd0, v0, hsl0, hfl0, hNH0⟩
      · have hz0 : True := trivial
        refine lv_aload_n hx hb d_SM_filter_22 rfl (lv_at hl 0 rfl) ?_
        refine m_mget (v := .ref (ar 11)) hc hE hw hM l_SM_43_SM rfl d_SM_filter_23 ?_
        refine lv_iload_n hx hb d_SM_filter_26 rfl (lv_at hl 1 rfl) ?_
        refine m_mald (v := (-1)) hc hE hw hM (k := 11) (by decide) (vp_in_nI (N := 10) (by omega) (by decide)) ((congrArg (av 11) (nI_clamp (n := k0) (by omega))).trans hsl0) d_SM_filter_27 ?_
        refine lv_istore_n (lv' := [(3, .int (-1)), (0, .ref mo), (1, .int (nI k0)), (2, .int (nI y0))]) hx hb d_SM_filter_28 rfl hl (by decide) rfl (fun ls hl => ?_)
        refine lv_iload_n hx hb d_SM_filter_29 rfl (lv_at hl 3 rfl) ?_
        refine lv_if_ne (tgt := 48) hx hb d_SM_filter_30 (by decide) (fun c29 => ?_) (fun c29 => ?_)
        · have c29n : ¬ (y0 = 0) := fun z => c29 ((nI_eq (a := y0) (b := 0) (by omega) (by omega)).mpr z)
          refine lv_iload_n hx hb d_SM_filter_48 rfl (lv_at hl 0 rfl) ?_
          refine lv_if_ge (tgt := 54) hx hb d_SM_filter_49 (by decide) (fun z => absurd z (by decide)) (fun _ => ?_)
          refine lv_iconst (v := (-1)) hx hb d_SM_filter_52 (by decide) ?_
          exact m_iret hc hr hlk hw ⟨by first | decide | (dsimp only; omega), by first | decide | (dsimp only; omega)⟩ d_SM_filter_53 ⟨fun z => absurd ⟨fun q => hpl (Or.inl q), fun q => hpl (Or.inr q)⟩ z, fun k q1 q2 => by rw [hone k q1 q2, hfl0]; exact (pif_f (fun z => c29n ((nI_eq (b := 0) (by omega) (by decide)).mp z))).symm, ⟨⟨_, av, b, md, hM, hMS0.fr (fun _ _ => rfl)⟩, hX⟩⟩
        · have c29n : y0 = 0 := (nI_eq (a := y0) (b := 0) (by omega) (by omega)).mp c29
          refine lv_iload_n hx hb d_SM_filter_33 rfl (lv_at hl 0 rfl) ?_
          refine lv_if_ge (tgt := 41) hx hb d_SM_filter_34 (by decide) (fun z => absurd z (by decide)) (fun _ => ?_)
          refine lv_iconst (v := 0) hx hb d_SM_filter_37 (by decide) ?_
          refine lv_goto (tgt := 47) hx hb d_SM_filter_38 (by decide) ?_
          exact m_iret hc hr hlk hw ⟨by first | decide | (dsimp only; omega), by first | decide | (dsimp only; omega)⟩ d_SM_filter_47 ⟨fun z => absurd ⟨fun q => hpl (Or.inl q), fun q => hpl (Or.inr q)⟩ z, fun k q1 q2 => by rw [hone k q1 q2, hfl0]; exact (pif_t (by rw [c29n]; rfl)).symm, ⟨⟨_, av, b, md, hM, hMS0.fr (fun _ _ => rfl)⟩, hX⟩⟩
      · have hlt0 := hNH0.lt
        obtain ⟨l0, g0, hl0, hg0, hl10, hl20, hg10, hg20, hNV0⟩ := hNH0
        have hlh0 := hNV0.lh
        refine lv_aload_n hx hb d_SM_filter_22 rfl (lv_at hl 0 rfl) ?_
        refine m_mget (v := .ref (ar 11)) hc hE hw hM l_SM_43_SM rfl d_SM_filter_23 ?_
        refine lv_iload_n hx hb d_SM_filter_26 rfl (lv_at hl 1 rfl) ?_
        refine m_mald (v := (nI nd0)) hc hE hw hM (k := 11) (by decide) (vp_in_nI (N := 10) (by omega) (by decide)) ((congrArg (av 11) (nI_clamp (n := k0) (by omega))).trans hsl0) d_SM_filter_27 ?_
        refine lv_istore_n (lv' := [(3, .int (nI nd0)), (0, .ref mo), (1, .int (nI k0)), (2, .int (nI y0))]) hx hb d_SM_filter_28 rfl hl (by decide) rfl (fun ls hl => ?_)
        refine lv_iload_n hx hb d_SM_filter_29 rfl (lv_at hl 3 rfl) ?_
        refine lv_if_ne (tgt := 48) hx hb d_SM_filter_30 (by decide) (fun c30 => ?_) (fun c30 => ?_)
        · have c30n : ¬ (y0 = 0) := fun z => c30 ((nI_eq (a := y0) (b := 0) (by omega) (by omega)).mpr z)
          refine lv_iload_n hx hb d_SM_filter_48 rfl (lv_at hl 0 rfl) ?_
          refine lv_if_ge (tgt := 54) hx hb d_SM_filter_49 (by decide) (fun _ => ?_) (fun z => absurd (nI_pos' (by omega)) z)
          refine lv_iload_n hx hb d_SM_filter_54 rfl (lv_at hl 3 rfl) ?_
          refine lv_iconst (v := 3) hx hb d_SM_filter_55 (by decide) ?_
          refine lv_icmp_ge (tgt := 80) hx hb d_SM_filter_56 (by decide) (fun c31 => ?_) (fun c31 => ?_)
          · have c31n : 3 ≤ y0 := (nI_leI (a := 3) (b := y0) (by omega) (by omega)).mp c31
            refine lv_aload_n hx hb d_SM_filter_80 rfl (lv_at hl 1 rfl) ?_
            refine m_mget (v := .ref (ar 3)) hc hE hw hM l_SM_19_SM rfl d_SM_filter_81 ?_
            refine lv_iload_n hx hb d_SM_filter_84 rfl (lv_at hl 0 rfl) ?_
            refine m_mald (v := v0.1) hc hE hw hM (k := 3) (by decide) (vp_in_nI (N := 520) (by omega) (by decide)) ((congrArg (av 3) (nI_clamp (n := nd0) (by omega))).trans hlh0.1) d_SM_filter_85 ?_
            refine lv_iconst (v := 1) hx hb d_SM_filter_86 (by decide) ?_
            refine lv_icmp_eq (tgt := 92) hx hb d_SM_filter_87 (by decide) (fun c32 => ?_) (fun c32 => ?_)
            · obtain ⟨b0, n0, t0, lm0, a6, a7, hb0, hA0, hbs0, hlm0, hv0⟩ := hNV0.text c32
              have hS0 : sgs (av 0) (b0 + n0) := fun j hj => hS j (by omega)
              refine lv_iload_n hx hb d_SM_filter_92 rfl (lv_at hl 3 rfl) ?_
              refine lv_iconst (v := 3) hx hb d_SM_filter_93 (by decide) ?_
              refine lv_icmp_ne (tgt := 103) hx hb d_SM_filter_94 (by decide) (fun c33 => ?_) (fun c33 => ?_)
              · have c33n : ¬ (y0 = 3) := fun z => c33 ((nI_eq (a := y0) (b := 3) (by omega) (by omega)).mpr z)
                refine lv_iload_n hx hb d_SM_filter_103 rfl (lv_at hl 3 rfl) ?_
                refine lv_bipush (v := 8) hx hb d_SM_filter_104 (by decide) ?_
                refine lv_icmp_ge (tgt := 120) hx hb d_SM_filter_106 (by decide) (fun c34 => ?_) (fun c34 => ?_)
                · have c34n : 8 ≤ y0 := (nI_leI (a := 8) (b := y0) (by omega) (by omega)).mp c34
                  refine lv_aload_n hx hb d_SM_filter_120 rfl (lv_at hl 1 rfl) ?_
                  refine m_mget (v := .ref (ar 8)) hc hE hw hM l_SM_34_SM rfl d_SM_filter_121 ?_
                  refine lv_iload_n hx hb d_SM_filter_124 rfl (lv_at hl 0 rfl) ?_
                  refine m_mald (v := ((av 8) nd0)) hc hE hw hM (k := 8) (by decide) (vp_in_nI (N := 520) (by omega) (by decide)) ((congrArg (av 8) (nI_clamp (n := nd0) (by omega))).trans rfl) d_SM_filter_125 ?_
                  have hn0 : ¬ nI y0 = 0 := fun z => absurd ((nI_eq (b := 0) (by omega) (by decide)).mp z) (by omega)
                  have hn1 : ¬ nI y0 = 1 := fun z => absurd ((nI_eq (b := 1) (by omega) (by decide)).mp z) (by omega)
                  have hn2 : ¬ nI y0 = 2 := fun z => absurd ((nI_eq (b := 2) (by omega) (by decide)).mp z) (by omega)
                  have hfv : flv (some v0) (nI y0) = ttl v0.2.2.2.2.1 v0.2.2.2.2.2.1 v0.2.2.2.2.2.2.1 (nI y0) := (pif_f hn0).trans ((pif_f hn1).trans ((pif_f hn2).trans (pif_t c32)))
                  rw [hv0] at hfv
                  have hfv2 : flv (some v0) (nI y0) = ttl (clsU t0 n0 (npc t0 n0)).length lm0 (av 8 nd0) (nI y0) := by rw [hv0]; exact hfv
                  have hyn : y0 = 8 := by omega
                  subst hyn
                  exact m_iret hc hr hlk hw ⟨by first | decide | (dsimp only; omega), by first | decide | (dsimp only; omega)⟩ d_SM_filter_126 ⟨fun z => absurd ⟨fun q => hpl (Or.inl q), fun q => hpl (Or.inr q)⟩ z, fun k q1 q2 => by rw [hone k q1 q2, hfl0]; exact (hfv2.trans (ttl_8 _ _ _)).symm, ⟨⟨_, av, b, md, hM, hMS0.fr (fun _ _ => rfl)⟩, hX⟩⟩
                · have c34n : ¬ (8 ≤ y0) := fun z => c34 ((nI_leI (a := 8) (b := y0) (by omega) (by omega)).mpr z)
                  refine lv_aload_n hx hb d_SM_filter_109 rfl (lv_at hl 1 rfl) ?_
                  refine lv_iload_n hx hb d_SM_filter_110 rfl (lv_at hl 0 rfl) ?_
                  refine lv_iload_n hx hb d_SM_filter_111 rfl (lv_at hl 3 rfl) ?_
                  refine lv_iconst (v := 4) hx hb d_SM_filter_112 (by decide) ?_
                  refine lv_isub hx hb d_SM_filter_113 ?_
                  refine m_top (y := (nI (y0 - 4))) (pk_sub (a := y0) (b := 4) (by omega)) ?_
                  refine m_calli hw (m_runV (As := [.int (nI nd0), .int (nI (y0 - 4))]) (rest := []) hc hE hw (c_SM_limit G l H.size f hM (b := b0) (n := n0) (t := t0) hA0 (by omega) hS0 (nd := nd0) (by omega) a6 a7 (y0 - 4)) hM.1 rfl cw_SM_166 se_SM_limit rfl hl.1 rfl (Nat.le_of_ble_eq_true rfl) d_SM_filter_114 ⟨rfl, rfl, by decide, by decide⟩ ⟨by first | decide | (dsimp only; omega), by first | decide | (dsimp only; omega)⟩) (fun r37 g36 H locs p35 hw => ?_)
                  obtain ⟨sc2, hM2, hX2, hf2, hv2⟩ := p35
                  refine lv_goto (tgt := 126) hx hb d_SM_filter_117 (by decide) ?_
                  have hn0 : ¬ nI y0 = 0 := fun z => absurd ((nI_eq (b := 0) (by omega) (by decide)).mp z) (by omega)
                  have hn1 : ¬ nI y0 = 1 := fun z => absurd ((nI_eq (b := 1) (by omega) (by decide)).mp z) (by omega)
                  have hn2 : ¬ nI y0 = 2 := fun z => absurd ((nI_eq (b := 2) (by omega) (by decide)).mp z) (by omega)
                  have hfv : flv (some v0) (nI y0) = ttl v0.2.2.2.2.1 v0.2.2.2.2.2.1 v0.2.2.2.2.2.2.1 (nI y0) := (pif_f hn0).trans ((pif_f hn1).trans ((pif_f hn2).trans (pif_t c32)))
                  rw [hv0] at hfv
                  have hfv2 : flv (some v0) (nI y0) = ttl (clsU t0 n0 (npc t0 n0)).length lm0 (av 8 nd0) (nI y0) := by rw [hv0]; exact hfv
                  have hlim : ttl (clsU t0 n0 (npc t0 n0)).length lm0 (av 8 nd0) (nI y0) = lm0 (y0 - 4) := ttl_l _ _ _ (by omega) (by omega)
                  exact m_iret hc hr hlk hw ⟨by first | decide | (dsimp only; omega), by first | decide | (dsimp only; omega)⟩ d_SM_filter_126 ⟨fun z => absurd ⟨fun q => hpl (Or.inl q), fun q => hpl (Or.inr q)⟩ z, fun k q1 q2 => by rw [hone k q1 q2, hfl0]; exact (hv2.trans (hfv2.trans (hlim.trans (hlm0 (y0 - 4) (by omega)))).symm), ⟨⟨_, av, b, md, hM2, hMS0.fr (fun k hk => hf2 k (by omega))⟩, (hX.tr hX2)⟩⟩
              · have c33n : y0 = 3 := (nI_eq (a := y0) (b := 3) (by omega) (by omega)).mp c33
                refine lv_aload_n hx hb d_SM_filter_97 rfl (lv_at hl 1 rfl) ?_
                refine lv_iload_n hx hb d_SM_filter_98 rfl (lv_at hl 0 rfl) ?_
                refine m_calli hw (m_runV (As := [.int (nI nd0)]) (rest := []) hc hE hw (c_SM_patterns G l H.size f hM (b := b0) (n := n0) (t := t0) hA0 (by omega) hS0 (nd := nd0) (by omega) a6 a7) hM.1 rfl cw_SM_147 se_SM_patterns rfl hl.1 rfl (Nat.le_of_ble_eq_true rfl) d_SM_filter_99 ⟨rfl, rfl, by decide, by decide⟩ ⟨by first | decide | (dsimp only; omega), by first | decide | (dsimp only; omega)⟩) (fun r40 g39 H locs p38 hw => ?_)
                obtain ⟨sc2, hM2, hX2, hf2, hv2⟩ := p38
                have hn0 : ¬ nI y0 = 0 := fun z => absurd ((nI_eq (b := 0) (by omega) (by decide)).mp z) (by omega)
                have hn1 : ¬ nI y0 = 1 := fun z => absurd ((nI_eq (b := 1) (by omega) (by decide)).mp z) (by omega)
                have hn2 : ¬ nI y0 = 2 := fun z => absurd ((nI_eq (b := 2) (by omega) (by decide)).mp z) (by omega)
                have hfv : flv (some v0) (nI y0) = ttl v0.2.2.2.2.1 v0.2.2.2.2.2.1 v0.2.2.2.2.2.2.1 (nI y0) := (pif_f hn0).trans ((pif_f hn1).trans ((pif_f hn2).trans (pif_t c32)))
                rw [hv0] at hfv
                have hfv2 : flv (some v0) (nI y0) = ttl (clsU t0 n0 (npc t0 n0)).length lm0 (av 8 nd0) (nI y0) := by rw [hv0]; exact hfv
                have hyn : y0 = 3 := by omega
                subst hyn
                exact m_iret hc hr hlk hw ⟨by first | decide | (dsimp only; omega), by first | decide | (dsimp only; omega)⟩ d_SM_filter_102 ⟨fun z => absurd ⟨fun q => hpl (Or.inl q), fun q => hpl (Or.inr q)⟩ z, fun k q1 q2 => by rw [hone k q1 q2, hfl0]; exact (hv2.trans (hfv2.trans (pif_t rfl)).symm), ⟨⟨_, av, b, md, hM2, hMS0.fr (fun k hk => hf2 k (by omega))⟩, (hX.tr hX2)⟩⟩
            · refine lv_iconst (v := (-1)) hx hb d_SM_filter_90 (by decide) ?_
              have hn0 : ¬ nI y0 = 0 := fun z => absurd ((nI_eq (b := 0) (by omega) (by decide)).mp z) (by omega)
              have hn1 : ¬ nI y0 = 1 := fun z => absurd ((nI_eq (b := 1) (by omega) (by decide)).mp z) (by omega)
              have hn2 : ¬ nI y0 = 2 := fun z => absurd ((nI_eq (b := 2) (by omega) (by decide)).mp z) (by omega)
              exact m_iret hc hr hlk hw ⟨by first | decide | (dsimp only; omega), by first | decide | (dsimp only; omega)⟩ d_SM_filter_91 ⟨fun z => absurd ⟨fun q => hpl (Or.inl q), fun q => hpl (Or.inr q)⟩ z, fun k q1 q2 => by rw [hone k q1 q2, hfl0]; exact (show flv (some v0) (nI y0) = -1 from (pif_f hn0).trans ((pif_f hn1).trans ((pif_f hn2).trans (pif_f c32)))).symm, ⟨⟨_, av, b, md, hM, hMS0.fr (fun _ _ => rfl)⟩, hX⟩⟩
          · have c31n : ¬ (3 ≤ y0) := fun z => c31 ((nI_leI (a := 3) (b := y0) (by omega) (by omega)).mpr z)
            refine lv_iload_n hx hb d_SM_filter_59 rfl (lv_at hl 3 rfl) ?_
            refine lv_iconst (v := 1) hx hb d_SM_filter_60 (by decide) ?_
            refine lv_icmp_ne (tgt := 73) hx hb d_SM_filter_61 (by decide) (fun c41 => ?_) (fun c41 => ?_)
            · have c41n : ¬ (y0 = 1) := fun z => c41 ((nI_eq (a := y0) (b := 1) (by omega) (by omega)).mpr z)
              refine lv_aload_n hx hb d_SM_filter_73 rfl (lv_at hl 1 rfl) ?_
              refine m_mget (v := .ref (ar 10)) hc hE hw hM l_SM_40_SM rfl d_SM_filter_74 ?_
              refine lv_iload_n hx hb d_SM_filter_77 rfl (lv_at hl 0 rfl) ?_
              refine m_mald (v := v0.2.2.1) hc hE hw hM (k := 10) (by decide) (vp_in_nI (N := 520) (by omega) (by decide)) ((congrArg (av 10) (nI_clamp (n := nd0) (by omega))).trans hlh0.2.2) d_SM_filter_78 ?_
              have hyn : y0 = 2 := by omega
              subst hyn
              exact m_iret hc hr hlk hw ⟨by first | decide | (dsimp only; omega), by first | decide | (dsimp only; omega)⟩ d_SM_filter_79 ⟨fun z => absurd ⟨fun q => hpl (Or.inl q), fun q => hpl (Or.inr q)⟩ z, fun k q1 q2 => by rw [hone k q1 q2, hfl0]; exact (show flv (some v0) (nI 2) = _ from (pif_f (by decide)).trans ((pif_f (by decide)).trans (pif_t rfl))).symm, ⟨⟨_, av, b, md, hM, hMS0.fr (fun _ _ => rfl)⟩, hX⟩⟩
            · have c41n : y0 = 1 := (nI_eq (a := y0) (b := 1) (by omega) (by omega)).mp c41
              refine lv_aload_n hx hb d_SM_filter_64 rfl (lv_at hl 1 rfl) ?_
              refine m_mget (v := .ref (ar 9)) hc hE hw hM l_SM_37_SM rfl d_SM_filter_65 ?_
              refine lv_iload_n hx hb d_SM_filter_68 rfl (lv_at hl 0 rfl) ?_
              refine m_mald (v := v0.2.1) hc hE hw hM (k := 9) (by decide) (vp_in_nI (N := 520) (by omega) (by decide)) ((congrArg (av 9) (nI_clamp (n := nd0) (by omega))).trans hlh0.2.1) d_SM_filter_69 ?_
              refine lv_goto (tgt := 79) hx hb d_SM_filter_70 (by decide) ?_
              have hyn : y0 = 1 := by omega
              subst hyn
              exact m_iret hc hr hlk hw ⟨by first | decide | (dsimp only; omega), by first | decide | (dsimp only; omega)⟩ d_SM_filter_79 ⟨fun z => absurd ⟨fun q => hpl (Or.inl q), fun q => hpl (Or.inr q)⟩ z, fun k q1 q2 => by rw [hone k q1 q2, hfl0]; exact (show flv (some v0) (nI 1) = _ from (pif_f (by decide)).trans (pif_t rfl)).symm, ⟨⟨_, av, b, md, hM, hMS0.fr (fun _ _ => rfl)⟩, hX⟩⟩
        · have c30n : y0 = 0 := (nI_eq (a := y0) (b := 0) (by omega) (by omega)).mp c30
          refine lv_iload_n hx hb d_SM_filter_33 rfl (lv_at hl 0 rfl) ?_
          refine lv_if_ge (tgt := 41) hx hb d_SM_filter_34 (by decide) (fun _ => ?_) (fun z => absurd (nI_pos' (by omega)) z)
          refine lv_aload_n hx hb d_SM_filter_41 rfl (lv_at hl 1 rfl) ?_
          refine m_mget (v := .ref (ar 3)) hc hE hw hM l_SM_19_SM rfl d_SM_filter_42 ?_
          refine lv_iload_n hx hb d_SM_filter_45 rfl (lv_at hl 0 rfl) ?_
          refine m_mald (v := v0.1) hc hE hw hM (k := 3) (by decide) (vp_in_nI (N := 520) (by omega) (by decide)) ((congrArg (av 3) (nI_clamp (n := nd0) (by omega))).trans hlh0.1) d_SM_filter_46 ?_
          have hyn : y0 = 0 := by omega
          subst hyn
          exact m_iret hc hr hlk hw ⟨by first | decide | (dsimp only; omega), by first | decide | (dsimp only; omega)⟩ d_SM_filter_47 ⟨fun z => absurd ⟨fun q => hpl (Or.inl q), fun q => hpl (Or.inr q)⟩ z, fun k q1 q2 => by rw [hone k q1 q2, hfl0]; exact (show flv (some v0) (nI 0) = _ from pif_t rfl).symm, ⟨⟨_, av, b, md, hM, hMS0.fr (fun _ _ => rfl)⟩, hX⟩⟩
    · have c28n : (y < 0 ∨ 9 ≤ y) := bI_n.mp c28
      refine lv_iconst (v := (-1)) hx hb d_SM_filter_20 (by decide) ?_
      exact m_iret hc hr hlk hw ⟨by first | decide | (dsimp only; omega), by first | decide | (dsimp only; omega)⟩ d_SM_filter_21 ⟨fun _ => rfl, fun k q1 q2 => (flv_out c28n).symm, ⟨⟨_, av, b, md, hM, hMS0.fr (fun _ _ => rfl)⟩, hX⟩⟩
