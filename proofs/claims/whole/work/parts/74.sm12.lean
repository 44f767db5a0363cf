/-! links of the pools, as the walks ask for them -/
/-! decode rows -/
theorem d_SM_pattern_0 : decode b_SM_pattern 0 = .ok (.aload_n 0, 1) := by decide +kernel
theorem d_SM_pattern_1 : decode b_SM_pattern 1 = .ok (.iload_n 1, 1) := by decide +kernel
theorem d_SM_pattern_2 : decode b_SM_pattern 2 = .ok (.invokevirtual 150, 3) := by decide +kernel
theorem d_SM_pattern_5 : decode b_SM_pattern 5 = .ok (.ifCond .ne 22, 3) := by decide +kernel
theorem d_SM_pattern_8 : decode b_SM_pattern 8 = .ok (.aload_n 0, 1) := by decide +kernel
theorem d_SM_pattern_9 : decode b_SM_pattern 9 = .ok (.getfield 19, 3) := by decide +kernel
theorem d_SM_pattern_12 : decode b_SM_pattern 12 = .ok (.aload_n 0, 1) := by decide +kernel
theorem d_SM_pattern_13 : decode b_SM_pattern 13 = .ok (.getfield 43, 3) := by decide +kernel
theorem d_SM_pattern_16 : decode b_SM_pattern 16 = .ok (.iload_n 1, 1) := by decide +kernel
theorem d_SM_pattern_17 : decode b_SM_pattern 17 = .ok (.iaload, 1) := by decide +kernel
theorem d_SM_pattern_18 : decode b_SM_pattern 18 = .ok (.iaload, 1) := by decide +kernel
theorem d_SM_pattern_19 : decode b_SM_pattern 19 = .ok (.iconst 1, 1) := by decide +kernel
theorem d_SM_pattern_20 : decode b_SM_pattern 20 = .ok (.if_icmp .ne 7, 3) := by decide +kernel
theorem d_SM_pattern_23 : decode b_SM_pattern 23 = .ok (.iload_n 2, 1) := by decide +kernel
theorem d_SM_pattern_24 : decode b_SM_pattern 24 = .ok (.ifCond .ge 5, 3) := by decide +kernel
theorem d_SM_pattern_27 : decode b_SM_pattern 27 = .ok (.iconst (-1), 1) := by decide +kernel
theorem d_SM_pattern_28 : decode b_SM_pattern 28 = .ok (.ireturn, 1) := by decide +kernel
theorem d_SM_pattern_29 : decode b_SM_pattern 29 = .ok (.aload_n 0, 1) := by decide +kernel
theorem d_SM_pattern_30 : decode b_SM_pattern 30 = .ok (.getfield 43, 3) := by decide +kernel
theorem d_SM_pattern_33 : decode b_SM_pattern 33 = .ok (.iload_n 1, 1) := by decide +kernel
theorem d_SM_pattern_34 : decode b_SM_pattern 34 = .ok (.iaload, 1) := by decide +kernel
theorem d_SM_pattern_35 : decode b_SM_pattern 35 = .ok (.istore 4, 2) := by decide +kernel
theorem d_SM_pattern_37 : decode b_SM_pattern 37 = .ok (.iconst 0, 1) := by decide +kernel
theorem d_SM_pattern_38 : decode b_SM_pattern 38 = .ok (.istore 5, 2) := by decide +kernel
theorem d_SM_pattern_40 : decode b_SM_pattern 40 = .ok (.aload_n 0, 1) := by decide +kernel
theorem d_SM_pattern_41 : decode b_SM_pattern 41 = .ok (.getfield 28, 3) := by decide +kernel
theorem d_SM_pattern_44 : decode b_SM_pattern 44 = .ok (.iload 4, 2) := by decide +kernel
theorem d_SM_pattern_46 : decode b_SM_pattern 46 = .ok (.iaload, 1) := by decide +kernel
theorem d_SM_pattern_47 : decode b_SM_pattern 47 = .ok (.aload_n 0, 1) := by decide +kernel
theorem d_SM_pattern_48 : decode b_SM_pattern 48 = .ok (.getfield 31, 3) := by decide +kernel
theorem d_SM_pattern_51 : decode b_SM_pattern 51 = .ok (.iload 4, 2) := by decide +kernel
theorem d_SM_pattern_53 : decode b_SM_pattern 53 = .ok (.iaload, 1) := by decide +kernel
theorem d_SM_pattern_54 : decode b_SM_pattern 54 = .ok (.iadd, 1) := by decide +kernel
theorem d_SM_pattern_55 : decode b_SM_pattern 55 = .ok (.istore 6, 2) := by decide +kernel
theorem d_SM_pattern_57 : decode b_SM_pattern 57 = .ok (.aload_n 0, 1) := by decide +kernel
theorem d_SM_pattern_58 : decode b_SM_pattern 58 = .ok (.getfield 28, 3) := by decide +kernel
theorem d_SM_pattern_61 : decode b_SM_pattern 61 = .ok (.iload 4, 2) := by decide +kernel
theorem d_SM_pattern_63 : decode b_SM_pattern 63 = .ok (.iaload, 1) := by decide +kernel
theorem d_SM_pattern_64 : decode b_SM_pattern 64 = .ok (.istore 7, 2) := by decide +kernel
theorem d_SM_pattern_66 : decode b_SM_pattern 66 = .ok (.iload 7, 2) := by decide +kernel
theorem d_SM_pattern_68 : decode b_SM_pattern 68 = .ok (.iload 6, 2) := by decide +kernel
theorem d_SM_pattern_70 : decode b_SM_pattern 70 = .ok (.if_icmp .gt 77, 3) := by decide +kernel
theorem d_SM_pattern_73 : decode b_SM_pattern 73 = .ok (.aload_n 0, 1) := by decide +kernel
theorem d_SM_pattern_74 : decode b_SM_pattern 74 = .ok (.iload 7, 2) := by decide +kernel
theorem d_SM_pattern_76 : decode b_SM_pattern 76 = .ok (.iload 6, 2) := by decide +kernel
theorem d_SM_pattern_78 : decode b_SM_pattern 78 = .ok (.invokevirtual 133, 3) := by decide +kernel
theorem d_SM_pattern_81 : decode b_SM_pattern 81 = .ok (.iconst 2, 1) := by decide +kernel
theorem d_SM_pattern_82 : decode b_SM_pattern 82 = .ok (.if_icmp .ne 54, 3) := by decide +kernel
theorem d_SM_pattern_85 : decode b_SM_pattern 85 = .ok (.iload 5, 2) := by decide +kernel
theorem d_SM_pattern_87 : decode b_SM_pattern 87 = .ok (.iload_n 2, 1) := by decide +kernel
theorem d_SM_pattern_88 : decode b_SM_pattern 88 = .ok (.if_icmp .ne 45, 3) := by decide +kernel
theorem d_SM_pattern_91 : decode b_SM_pattern 91 = .ok (.iload_n 3, 1) := by decide +kernel
theorem d_SM_pattern_92 : decode b_SM_pattern 92 = .ok (.ifCond .eq 28, 3) := by decide +kernel
theorem d_SM_pattern_95 : decode b_SM_pattern 95 = .ok (.aload_n 0, 1) := by decide +kernel
theorem d_SM_pattern_96 : decode b_SM_pattern 96 = .ok (.getfield 130, 3) := by decide +kernel
theorem d_SM_pattern_99 : decode b_SM_pattern 99 = .ok (.aload_n 0, 1) := by decide +kernel
theorem d_SM_pattern_100 : decode b_SM_pattern 100 = .ok (.getfield 127, 3) := by decide +kernel
theorem d_SM_pattern_103 : decode b_SM_pattern 103 = .ok (.aload_n 0, 1) := by decide +kernel
theorem d_SM_pattern_104 : decode b_SM_pattern 104 = .ok (.getfield 124, 3) := by decide +kernel
theorem d_SM_pattern_107 : decode b_SM_pattern 107 = .ok (.if_icmp .le 8, 3) := by decide +kernel
theorem d_SM_pattern_110 : decode b_SM_pattern 110 = .ok (.bipush 10, 2) := by decide +kernel
theorem d_SM_pattern_112 : decode b_SM_pattern 112 = .ok (.goto 4, 3) := by decide +kernel
theorem d_SM_pattern_115 : decode b_SM_pattern 115 = .ok (.iconst 0, 1) := by decide +kernel
theorem d_SM_pattern_116 : decode b_SM_pattern 116 = .ok (.iadd, 1) := by decide +kernel
theorem d_SM_pattern_117 : decode b_SM_pattern 117 = .ok (.goto 15, 3) := by decide +kernel
theorem d_SM_pattern_120 : decode b_SM_pattern 120 = .ok (.aload_n 0, 1) := by decide +kernel
theorem d_SM_pattern_121 : decode b_SM_pattern 121 = .ok (.getfield 114, 3) := by decide +kernel
theorem d_SM_pattern_124 : decode b_SM_pattern 124 = .ok (.ifCond .eq 7, 3) := by decide +kernel
theorem d_SM_pattern_127 : decode b_SM_pattern 127 = .ok (.iconst 2, 1) := by decide +kernel
theorem d_SM_pattern_128 : decode b_SM_pattern 128 = .ok (.goto 4, 3) := by decide +kernel
theorem d_SM_pattern_131 : decode b_SM_pattern 131 = .ok (.iconst 1, 1) := by decide +kernel
theorem d_SM_pattern_132 : decode b_SM_pattern 132 = .ok (.ireturn, 1) := by decide +kernel
theorem d_SM_pattern_133 : decode b_SM_pattern 133 = .ok (.iinc 5 1, 3) := by decide +kernel
theorem d_SM_pattern_136 : decode b_SM_pattern 136 = .ok (.aload_n 0, 1) := by decide +kernel
theorem d_SM_pattern_137 : decode b_SM_pattern 137 = .ok (.getfield 108, 3) := by decide +kernel
theorem d_SM_pattern_140 : decode b_SM_pattern 140 = .ok (.iconst 1, 1) := by decide +kernel
theorem d_SM_pattern_141 : decode b_SM_pattern 141 = .ok (.iadd, 1) := by decide +kernel
theorem d_SM_pattern_142 : decode b_SM_pattern 142 = .ok (.istore 7, 2) := by decide +kernel
theorem d_SM_pattern_144 : decode b_SM_pattern 144 = .ok (.goto (-78), 3) := by decide +kernel
theorem d_SM_pattern_147 : decode b_SM_pattern 147 = .ok (.iconst (-1), 1) := by decide +kernel
theorem d_SM_pattern_148 : decode b_SM_pattern 148 = .ok (.ireturn, 1) := by decide +kernel
set_option maxHeartbeats 4000000 in
set_option maxRecDepth 100000 in
/-- pattern -/
theorem c_SM_pattern (G : GG) (l : Launch) (sz : Nat) (f : Wd) {mo c0 pn nn mn : Nat} {ar : Nat → Nat} {pt nt mt : Nat → Int32} {dp rf by_ co tx lx : Int32} {fl : Nat → Option FV} (hR : MR G c0 mo ar f pn pt nn nt mn mt dp rf by_ co tx lx fl) (hc0 : c0 < 512) (x y : Int32) {al : Int32} (h_al : al = 0 ∨ al = 1) : Ci G l y_SM_pattern b_SM_pattern 8 (some .int) ({ frames := 3, cells := 0, slots := 0, locals := 80 }) sz f [.ref mo, .int x, .int y, .int al] (fun v f' => (noF fl x → v = -1) ∧ (∀ (k : Nat) (vv : FV), k < 10 → x = nI k → fl k = some vv → v = ptv vv y al) ∧ MRR G c0 mo ar f f' pn pt nn nt mn mt dp rf by_ co tx lx fl) := by
  refine ct_of (by decide) (Nat.le_of_ble_eq_true rfl) ?_
  intro p e s m below meth c ls H locs hEn
  obtain ⟨hc, hr, hlk, hin, hE, hw, hsz, hl⟩ := hEn
  have hx := hc.1
  have hb := hc.2.1
  have hl : lv_has ls 8 [(0, .ref mo), (1, .int x), (2, .int y), (3, .int al)] := hl
  have hX : Mx mo ar f f := Mx.rf
  obtain ⟨sc, av, b, md, hM, hMS⟩ := hR
  have hMS0 := hMS
  obtain ⟨⟨h0, h1, h2, h3, h4⟩, ⟨h5, h6, h7⟩, ⟨h8, h9, h10⟩, ⟨hA, hnt, hmt, hS⟩, ⟨hbc, hmd, hpn, hnn, hmn⟩, hSL⟩ := hMS
  have hbn : b + pn ≤ 4200 := by omega
  refine lv_aload_n hx hb d_SM_pattern_0 rfl (lv_at hl 0 rfl) ?_
  refine lv_iload_n hx hb d_SM_pattern_1 rfl (lv_at hl 1 rfl) ?_
  refine m_calli hw (m_runV (As := [.int x]) (rest := []) hc hE hw (c_SM_none G l H.size f hM x) hM.1 rfl cw_SM_150 se_SM_none rfl hl.1 rfl (Nat.le_of_ble_eq_true rfl) d_SM_pattern_2 ⟨rfl, rfl, by decide, by decide⟩ ⟨by first | decide | (dsimp only; omega), by first | decide | (dsimp only; omega)⟩) (fun r23 g22 H locs p21 hw => ?_)
  obtain ⟨rfl, p21⟩ := p21
  subst p21
  refine lv_if_ne (tgt := 27) hx hb d_SM_pattern_5 (by decide) (fun c24 => ?_) (fun c24 => ?_)
  · have c24n : (noS (av 11) x) := bI_n.mp c24
    refine lv_iconst (v := (-1)) hx hb d_SM_pattern_27 (by decide) ?_
    exact m_iret hc hr hlk hw ⟨by first | decide | (dsimp only; omega), by first | decide | (dsimp only; omega)⟩ d_SM_pattern_28 ⟨fun _ => rfl, fun k vv q1 q2 q3 => absurd (((hSL.no (by omega)).mp c24n k q1 q2).symm.trans q3) (by intro z; cases z), ⟨⟨_, av, b, md, hM, hMS0.fr (fun _ _ => rfl)⟩, hX⟩⟩
  · have c24n : ¬ (noS (av 11) x) := bI_0.mp c24
    obtain ⟨k0, nd0, v0, hk0, hxk0, hfl0, hsl0, hNH0⟩ := hSL.some (x := x) c24n
    have hlt0 := hNH0.lt
    obtain ⟨l0, g0, hl0, hg0, hl10, hl20, hg10, hg20, hNV0⟩ := hNH0
    have hlh0 := hNV0.lh
    have hns := c24n
    refine lv_aload_n hx hb d_SM_pattern_8 rfl (lv_at hl 0 rfl) ?_
    refine m_mget (v := .ref (ar 3)) hc hE hw hM l_SM_19_SM rfl d_SM_pattern_9 ?_
    refine lv_aload_n hx hb d_SM_pattern_12 rfl (lv_at hl 0 rfl) ?_
    refine m_mget (v := .ref (ar 11)) hc hE hw hM l_SM_43_SM rfl d_SM_pattern_13 ?_
    refine lv_iload_n hx hb d_SM_pattern_16 rfl (lv_at hl 1 rfl) ?_
    refine m_mald (v := (nI nd0)) hc hE hw hM (k := 11) (by decide) (by rw [hxk0]; exact vp_in_nI hk0 (by decide)) (rfl.trans (by rw [hxk0, nI_clamp (by omega)]; exact hsl0)) d_SM_pattern_17 ?_
    refine m_mald (v := v0.1) hc hE hw hM (k := 3) (by decide) (vp_in_nI (N := 520) (by omega) (by decide)) ((congrArg (av 3) (nI_clamp (n := nd0) (by omega))).trans hlh0.1) d_SM_pattern_18 ?_
    refine lv_iconst (v := 1) hx hb d_SM_pattern_19 (by decide) ?_
    refine lv_icmp_ne (tgt := 27) hx hb d_SM_pattern_20 (by decide) (fun c25 => ?_) (fun c25 => ?_)
    · refine lv_iconst (v := (-1)) hx hb d_SM_pattern_27 (by decide) ?_
      have hptv : ptv v0 y al = -1 := pif_f (fun z => c25 z.1)
      exact m_iret hc hr hlk hw ⟨by first | decide | (dsimp only; omega), by first | decide | (dsimp only; omega)⟩ d_SM_pattern_28 ⟨fun z => absurd ((hSL.no (by omega)).mpr z) hns, fun k vv q1 q2 q3 => by have ek : k = k0 := (nI_eq (by omega) (by omega)).mp (q2.symm.trans hxk0); subst ek; have ev : vv = v0 := Option.some.inj (q3.symm.trans hfl0); subst ev; exact hptv.symm, ⟨_, av, _, _, hM, hMS0.fr (fun _ _ => rfl)⟩, hX⟩
    · refine lv_iload_n hx hb d_SM_pattern_23 rfl (lv_at hl 2 rfl) ?_
      refine lv_if_ge (tgt := 29) hx hb d_SM_pattern_24 (by decide) (fun c26 => ?_) (fun c26 => ?_)
      · have hy0 := c26
        obtain ⟨y0, hyl, hyy⟩ := nI_of (x := y) (Int32.not_lt.mpr hy0)
        obtain ⟨b, n, t, lm0, a6, a7, hb0, hA, hbs0, hlm0, hv0⟩ := hNV0.text c25
        have hS : sgs (av 0) (b + n) := fun j hj => hS j (by omega)
        have hbn : b + n ≤ 4200 := by omega
        have hnp := npc_le (t := t) n
        refine lv_aload_n hx hb d_SM_pattern_29 rfl (lv_at hl 0 rfl) ?_
        refine m_mget (v := .ref (ar 11)) hc hE hw hM l_SM_43_SM rfl d_SM_pattern_30 ?_
        refine lv_iload_n hx hb d_SM_pattern_33 rfl (lv_at hl 1 rfl) ?_
        refine m_mald (v := (nI nd0)) hc hE hw hM (k := 11) (by decide) (by rw [hxk0]; exact vp_in_nI hk0 (by decide)) (rfl.trans (by rw [hxk0, nI_clamp (by omega)]; exact hsl0)) d_SM_pattern_34 ?_
        refine lv_istore (lv' := [(4, .int (nI nd0)), (0, .ref mo), (1, .int x), (2, .int y), (3, .int al)]) hx hb d_SM_pattern_35 hl (by decide) rfl (fun ls hl => ?_)
        refine lv_iconst (v := 0) hx hb d_SM_pattern_37 (by decide) ?_
        refine lv_istore (lv' := [(5, .int 0), (4, .int (nI nd0)), (0, .ref mo), (1, .int x), (2, .int y), (3, .int al)]) hx hb d_SM_pattern_38 hl (by decide) rfl (fun ls hl => ?_)
        refine lv_aload_n hx hb d_SM_pattern_40 rfl (lv_at hl 2 rfl) ?_
        refine m_mget (v := .ref (ar 6)) hc hE hw hM l_SM_28_SM rfl d_SM_pattern_41 ?_
        refine lv_iload hx hb d_SM_pattern_44 (lv_at hl 1 rfl) ?_
        refine m_mald (v := (nI b)) hc hE hw hM (k := 6) (by decide) (vp_in_nI (N := 520) (by omega) (by decide)) ((congrArg (av 6) (nI_clamp (n := nd0) (by omega))).trans a6) d_SM_pattern_46 ?_
        refine lv_aload_n hx hb d_SM_pattern_47 rfl (lv_at hl 2 rfl) ?_
        refine m_mget (v := .ref (ar 7)) hc hE hw hM l_SM_31_SM rfl d_SM_pattern_48 ?_
        refine lv_iload hx hb d_SM_pattern_51 (lv_at hl 1 rfl) ?_
        refine m_mald (v := (nI n)) hc hE hw hM (k := 7) (by decide) (vp_in_nI (N := 520) (by omega) (by decide)) ((congrArg (av 7) (nI_clamp (n := nd0) (by omega))).trans a7) d_SM_pattern_53 ?_
        refine lv_iadd hx hb d_SM_pattern_54 ?_
        refine m_top (y := (nI (b + n))) (nI_add b n) ?_
        refine lv_istore (lv' := [(6, .int (nI (b + n))), (5, .int 0), (4, .int (nI nd0)), (0, .ref mo), (1, .int x), (2, .int y), (3, .int al)]) hx hb d_SM_pattern_55 hl (by decide) rfl (fun ls hl => ?_)
        refine lv_aload_n hx hb d_SM_pattern_57 rfl (lv_at hl 3 rfl) ?_
        refine m_mget (v := .ref (ar 6)) hc hE hw hM l_SM_28_SM rfl d_SM_pattern_58 ?_
        refine lv_iload hx hb d_SM_pattern_61 (lv_at hl 2 rfl) ?_
        refine m_mald (v := (nI b)) hc hE hw hM (k := 6) (by decide) (vp_in_nI (N := 520) (by omega) (by decide)) ((congrArg (av 6) (nI_clamp (n := nd0) (by omega))).trans a6) d_SM_pattern_63 ?_
        refine lv_istore (lv' := [(7, .int (nI b)), (6, .int (nI (b + n))), (5, .int 0), (4, .int (nI nd0)), (0, .ref mo), (1, .int x), (2, .int y), (3, .int al)]) hx hb d_SM_pattern_64 hl (by decide) rfl (fun ls hl => ?_)
        have loop : ∀ (fu : Nat) (k : Nat) (scj : Nat → Int32) (fj : Wd) (ls : Array Slot) (H : Heap) (locs : List Loc), npc t n - k < fu → k ≤ npc t n → Mw G mo ar scj av fj → Mx mo ar f fj → (∀ k, k < 13 → scj k = sc k) → (clsU t n k).length ≤ y0 → ms G.1 (Af f sz) fj s H locs → lv_has ls 8 [(5, .int (nI (clsU t n k).length)), (7, .int (nI (b + pst t n k))), (0, .ref mo), (2, .int (nI y0)), (3, .int al), (6, .int (nI (b + n)))] → W p l e ({ frames := 3, cells := 0, slots := 0, locals := 80 }) s m ([.ref mo, .int x, .int y, .int al] : List Value).toArray below meth c H locs 0 0 (MQ below (va_Qi (fun v f' => (noF fl x → v = -1) ∧ (∀ (k : Nat) (vv : FV), k < 10 → x = nI k → fl k = some vv → v = ptv vv y al) ∧ MRR G c0 mo ar f f' pn pt nn nt mn mt dp rf by_ co tx lx fl) (Bw G f sz) (Af f sz)) ([.ref mo, .int x, .int y, .int al] : List Value).toArray s 0 0 (Af f sz)) (F0 m 66 ls []) := by
          intro fu
          induction fu with
          | zero => intro k scj fj ls H locs h0; exact absurd h0 (Nat.not_lt_zero _)
          | succ fu ih =>
            intro k scj fj ls H locs hfu hk hMj hXj hfj hyi hw hl
            have hpl := pst_le (t := t) (n := n) hk
            have hcl0 := clsU_len t n k
            refine lv_iload hx hb d_SM_pattern_66 (lv_at hl 1 rfl) ?_
            refine lv_iload hx hb d_SM_pattern_68 (lv_at hl 5 rfl) ?_
            refine lv_icmp_gt (tgt := 147) hx hb d_SM_pattern_70 (by decide) (fun c27 => ?_) (fun c27 => ?_)
            · have c27n : (b + n) < (b + pst t n k) := (nI_ltI (a := (b + n)) (b := (b + pst t n k)) (by omega) (by omega)).mp c27
              refine lv_iconst (v := (-1)) hx hb d_SM_pattern_147 (by decide) ?_
              have hke : k = npc t n := pst_e hk (by omega)
              rw [hke] at hyi
              have hptv : ptv v0 y al = -1 := by rw [hv0]; exact pif_f (fun z => absurd z.2.2 (by rw [hyy]; exact nI_nlt hyi hyl))
              exact m_iret hc hr hlk hw ⟨by first | decide | (dsimp only; omega), by first | decide | (dsimp only; omega)⟩ d_SM_pattern_148 ⟨fun z => absurd ((hSL.no (by omega)).mpr z) hns, fun k vv q1 q2 q3 => by have ek : k = k0 := (nI_eq (by omega) (by omega)).mp (q2.symm.trans hxk0); subst ek; have ev : vv = v0 := Option.some.inj (q3.symm.trans hfl0); subst ev; exact hptv.symm, ⟨_, av, _, _, hMj, hMS0.fr (fun k hk => hfj k (by omega))⟩, hXj⟩
            · have c27n : ¬ ((b + n) < (b + pst t n k)) := fun z => c27 ((nI_ltI (a := (b + n)) (b := (b + pst t n k)) (by omega) (by omega)).mpr z)
              have hkn : k < npc t n := pst_k hk (by omega)
              have hps := (pst_in (t := t) k hkn).1
              have hpx := pnx_in (t := t) hps
              refine lv_aload_n hx hb d_SM_pattern_73 rfl (lv_at hl 2 rfl) ?_
              refine lv_iload hx hb d_SM_pattern_74 (lv_at hl 1 rfl) ?_
              refine lv_iload hx hb d_SM_pattern_76 (lv_at hl 5 rfl) ?_
              refine m_calli hw (m_runV (As := [.int (nI (b + pst t n k)), .int (nI (b + n))]) (rest := []) hc hE hw (c_SM_piece G l H.size fj hMj (a := b + pst t n k) (E0 := b + n) (e0 := b + pnx t n (pst t n k)) (by omega) hbn hS (pnx_sh hA hps).symm) hMj.1 rfl cw_SM_133 se_SM_piece rfl hl.1 rfl (Nat.le_of_ble_eq_true rfl) d_SM_pattern_78 ⟨rfl, rfl, by decide, by decide⟩ ⟨by first | decide | (dsimp only; omega), by first | decide | (dsimp only; omega)⟩) (fun r31 g30 H locs p29 hw => ?_)
              obtain ⟨scz28, hMz28, hXz28, hfz28, hvz28, hpcz28⟩ := p29
              replace hpcz28 := pcr_of hA hpx.1 hpx.2 hpcz28
              replace hvz28 : r31 = nI (pk t n k) := hvz28.trans (congrArg nI (pkd_sh hA hpx.1 hpx.2))
              subst hvz28
              have hpkl := pkd_in t (pst t n k) (pnx t n (pst t n k))
              change pk t n k ≤ 3 at hpkl
              have hXXz28 := hXj.tr hXz28
              refine lv_iconst (v := 2) hx hb d_SM_pattern_81 (by decide) ?_
              refine lv_icmp_ne (tgt := 136) hx hb d_SM_pattern_82 (by decide) (fun c32 => ?_) (fun c32 => ?_)
              · have c32n : ¬ ((pk t n k) = 2) := fun z => c32 ((nI_eq (a := (pk t n k)) (b := 2) (by omega) (by omega)).mpr z)
                refine lv_aload_n hx hb d_SM_pattern_136 rfl (lv_at hl 2 rfl) ?_
                refine m_mget (v := .int (scz28 14)) hc hE hw hMz28 l_SM_108_SM rfl d_SM_pattern_137 ?_
                refine m_top (y := nI (b + pnx t n (pst t n k))) hpcz28.1 ?_
                refine lv_iconst (v := 1) hx hb d_SM_pattern_140 (by decide) ?_
                refine lv_iadd hx hb d_SM_pattern_141 ?_
                refine m_top (y := (nI ((b + pnx t n (pst t n k)) + 1))) (nI_add (b + pnx t n (pst t n k)) 1) ?_
                refine lv_istore (lv' := [(7, .int (nI ((b + pnx t n (pst t n k)) + 1))), (5, .int (nI (clsU t n k).length)), (0, .ref mo), (2, .int (nI y0)), (3, .int al), (6, .int (nI (b + n)))]) hx hb d_SM_pattern_142 hl (by decide) rfl (fun ls hl => ?_)
                refine lv_goto (tgt := 66) hx hb d_SM_pattern_144 (by decide) ?_
                have hcl : clsU t n (k + 1) = clsU t n k := pif_f c32n
                exact ih (k + 1) scz28 g30 ls H locs (by omega) (by omega) hMz28 hXXz28 (fun j hj => (hfz28 j hj).trans (hfj j hj)) (by rw [hcl]; exact hyi) hw (by rw [hcl]; exact (lv_sub hl [1, 0, 2, 3, 4, 5] rfl))
              · have c32n : (pk t n k) = 2 := (nI_eq (a := (pk t n k)) (b := 2) (by omega) (by omega)).mp c32
                have hcx := cxi_at hkn c32n
                have hae := pkd_ne (t := t) hpx.1 (show ¬ pkd t (pst t n k) (pnx t n (pst t n k)) = 0 from fun z => absurd (c32n.symm.trans z) (by decide))
                have hp2 := hpcz28.2.2 c32n
                have hq0 := q0c_in (t := t) hae
                refine lv_iload hx hb d_SM_pattern_85 (lv_at hl 0 rfl) ?_
                refine lv_iload_n hx hb d_SM_pattern_87 rfl (lv_at hl 3 rfl) ?_
                refine lv_icmp_ne (tgt := 133) hx hb d_SM_pattern_88 (by decide) (fun c33 => ?_) (fun c33 => ?_)
                · have c33n : ¬ ((clsU t n k).length = y0) := fun z => c33 ((nI_eq (a := (clsU t n k).length) (b := y0) (by omega) (by omega)).mpr z)
                  refine lv_iinc (v := (nI ((clsU t n k).length + 1))) (lv' := [(5, .int (nI ((clsU t n k).length + 1))), (7, .int (nI (b + pst t n k))), (0, .ref mo), (2, .int (nI y0)), (3, .int al), (6, .int (nI (b + n)))]) hx hb d_SM_pattern_133 hl (k := 0) rfl (nI_1 _) (by decide) rfl (fun ls hl => ?_)
                  refine lv_aload_n hx hb d_SM_pattern_136 rfl (lv_at hl 2 rfl) ?_
                  refine m_mget (v := .int (scz28 14)) hc hE hw hMz28 l_SM_108_SM rfl d_SM_pattern_137 ?_
                  refine m_top (y := nI (b + pnx t n (pst t n k))) hpcz28.1 ?_
                  refine lv_iconst (v := 1) hx hb d_SM_pattern_140 (by decide) ?_
                  refine lv_iadd hx hb d_SM_pattern_141 ?_
                  refine m_top (y := (nI ((b + pnx t n (pst t n k)) + 1))) (nI_add (b + pnx t n (pst t n k)) 1) ?_
                  refine lv_istore (lv' := [(7, .int (nI ((b + pnx t n (pst t n k)) + 1))), (5, .int (nI ((clsU t n k).length + 1))), (0, .ref mo), (2, .int (nI y0)), (3, .int al), (6, .int (nI (b + n)))]) hx hb d_SM_pattern_142 hl (by decide) rfl (fun ls hl => ?_)
                  refine lv_goto (tgt := 66) hx hb d_SM_pattern_144 (by decide) ?_
                  have hcl : (clsU t n (k + 1)).length = (clsU t n k).length + 1 := by rw [show clsU t n (k + 1) = clsU t n k ++ [k] from pif_t c32n, List.length_append]; rfl
                  exact ih (k + 1) scz28 g30 ls H locs (by omega) (by omega) hMz28 hXXz28 (fun j hj => (hfz28 j hj).trans (hfj j hj)) (by rw [hcl]; omega) hw (by rw [hcl]; exact (lv_sub hl [1, 0, 2, 3, 4, 5] rfl))
                · have c33n : (clsU t n k).length = y0 := (nI_eq (a := (clsU t n k).length) (b := y0) (by omega) (by omega)).mp c33
                  refine lv_iload_n hx hb d_SM_pattern_91 rfl (lv_at hl 4 rfl) ?_
                  refine lv_if_eq (tgt := 120) hx hb d_SM_pattern_92 (by decide) (fun c34 => ?_) (fun c34 => ?_)
                  · refine lv_aload_n hx hb d_SM_pattern_120 rfl (lv_at hl 2 rfl) ?_
                    refine m_mget (v := .int (scz28 17)) hc hE hw hMz28 l_SM_114_SM rfl d_SM_pattern_121 ?_
                    refine m_top (y := (bI (t (pst t n k) = 33))) hp2.1 ?_
                    refine lv_if_eq (tgt := 131) hx hb d_SM_pattern_124 (by decide) (fun c35 => ?_) (fun c35 => ?_)
                    · have c35n : ¬ (t (pst t n k) = 33) := bI_0.mp c35
                      refine lv_iconst (v := 1) hx hb d_SM_pattern_131 (by decide) ?_
                      have hye : (clsU t n k).length = y0 := by omega
                      rw [hye] at hcx
                      have hyc : y.toNatClampNeg = y0 := by rw [hyy]; exact nI_clamp hyl
                      have hV : Vt t n y0 = 1 := by unfold Vt; rw [hcx.1]; exact vdc_0 c35
                      have hptv : ptv v0 y al = 1 := by rw [hv0]; exact (pif_t ⟨rfl, hy0, by rw [hyy]; exact nI_lt hcx.2 (show (clsU t n (npc t n)).length < 2 ^ 31 by have := clsU_len t n (npc t n); omega)⟩).trans ((pif_t c34).trans (by rw [hyc]; exact hV))
                      exact m_iret hc hr hlk hw ⟨by first | decide | (dsimp only; omega), by first | decide | (dsimp only; omega)⟩ d_SM_pattern_132 ⟨fun z => absurd ((hSL.no (by omega)).mpr z) hns, fun k vv q1 q2 q3 => by have ek : k = k0 := (nI_eq (by omega) (by omega)).mp (q2.symm.trans hxk0); subst ek; have ev : vv = v0 := Option.some.inj (q3.symm.trans hfl0); subst ev; exact hptv.symm, ⟨_, av, _, _, hMz28, hMS0.fr (fun k hk => (hfz28 k (by omega)).trans (hfj k (by omega)))⟩, hXXz28⟩
                    · have c35n : (t (pst t n k) = 33) := bI_n.mp c35
                      refine lv_iconst (v := 2) hx hb d_SM_pattern_127 (by decide) ?_
                      refine lv_goto (tgt := 132) hx hb d_SM_pattern_128 (by decide) ?_
                      have hye : (clsU t n k).length = y0 := by omega
                      rw [hye] at hcx
                      have hyc : y.toNatClampNeg = y0 := by rw [hyy]; exact nI_clamp hyl
                      have hV : Vt t n y0 = 2 := by unfold Vt; rw [hcx.1]; exact vdc_n c35
                      have hptv : ptv v0 y al = 2 := by rw [hv0]; exact (pif_t ⟨rfl, hy0, by rw [hyy]; exact nI_lt hcx.2 (show (clsU t n (npc t n)).length < 2 ^ 31 by have := clsU_len t n (npc t n); omega)⟩).trans ((pif_t c34).trans (by rw [hyc]; exact hV))
                      exact m_iret hc hr hlk hw ⟨by first | decide | (dsimp only; omega), by first | decide | (dsimp only; omega)⟩ d_SM_pattern_132 ⟨fun z => absurd ((hSL.no (by omega)).mpr z) hns, fun k vv q1 q2 q3 => by have ek : k = k0 := (nI_eq (by omega) (by omega)).mp (q2.symm.trans hxk0); subst ek; have ev : vv = v0 := Option.some.inj (q3.symm.trans hfl0); subst ev; exact hptv.symm, ⟨_, av, _, _, hMz28, hMS0.fr (fun k hk => (hfz28 k (by omega)).trans (hfj k (by omega)))⟩, hXXz28⟩
                  · refine lv_aload_n hx hb d_SM_pattern_95 rfl (lv_at hl 2 rfl) ?_
                    refine m_mget (v := .int (scz28 22)) hc hE hw hMz28 l_SM_130_SM rfl d_SM_pattern_96 ?_
                    refine m_top (y := nI (shp t (q0c t (pst t n k) (pnx t n (pst t n k))) (pnx t n (pst t n k)))) hp2.2.2.2.2.2 ?_
                    refine lv_aload_n hx hb d_SM_pattern_99 rfl (lv_at hl 2 rfl) ?_
                    refine m_mget (v := .int (scz28 19)) hc hE hw hMz28 l_SM_127_SM rfl d_SM_pattern_100 ?_
                    refine m_top (y := nI (b + m1c t (pst t n k) (pnx t n (pst t n k)))) hp2.2.2.1 ?_
                    refine lv_aload_n hx hb d_SM_pattern_103 rfl (lv_at hl 2 rfl) ?_
                    refine m_mget (v := .int (scz28 18)) hc hE hw hMz28 l_SM_124_SM rfl d_SM_pattern_104 ?_
                    refine m_top (y := nI (b + m0c t (pst t n k))) hp2.2.1 ?_
                    refine lv_icmp_le (tgt := 115) hx hb d_SM_pattern_107 (by decide) (fun c36 => ?_) (fun c36 => ?_)
                    · have c36n : (b + m1c t (pst t n k) (pnx t n (pst t n k))) ≤ (b + m0c t (pst t n k)) := (nI_leI (a := (b + m1c t (pst t n k) (pnx t n (pst t n k)))) (b := (b + m0c t (pst t n k))) (by omega) (by omega)).mp c36
                      refine lv_iconst (v := 0) hx hb d_SM_pattern_115 (by decide) ?_
                      refine lv_iadd hx hb d_SM_pattern_116 ?_
                      refine m_top (y := (nI ((shp t (q0c t (pst t n k) (pnx t n (pst t n k))) (pnx t n (pst t n k))) + 0))) (nI_add (shp t (q0c t (pst t n k) (pnx t n (pst t n k))) (pnx t n (pst t n k))) 0) ?_
                      refine lv_goto (tgt := 132) hx hb d_SM_pattern_117 (by decide) ?_
                      have hye : (clsU t n k).length = y0 := by omega
                      rw [hye] at hcx
                      have hyc : y.toNatClampNeg = y0 := by rw [hyy]; exact nI_clamp hyl
                      have hSh : Sht t n y0 = nI ((shp t (q0c t (pst t n k) (pnx t n (pst t n k))) (pnx t n (pst t n k))) + 0) := by unfold Sht; rw [hcx.1]; exact (fsh_n (by omega)).trans rfl
                      have hptv : ptv v0 y al = nI ((shp t (q0c t (pst t n k) (pnx t n (pst t n k))) (pnx t n (pst t n k))) + 0) := by rw [hv0]; exact (pif_t ⟨rfl, hy0, by rw [hyy]; exact nI_lt hcx.2 (show (clsU t n (npc t n)).length < 2 ^ 31 by have := clsU_len t n (npc t n); omega)⟩).trans ((pif_f c34).trans (by rw [hyc]; exact hSh))
                      exact m_iret hc hr hlk hw ⟨by first | decide | (dsimp only; omega), by first | decide | (dsimp only; omega)⟩ d_SM_pattern_132 ⟨fun z => absurd ((hSL.no (by omega)).mpr z) hns, fun k vv q1 q2 q3 => by have ek : k = k0 := (nI_eq (by omega) (by omega)).mp (q2.symm.trans hxk0); subst ek; have ev : vv = v0 := Option.some.inj (q3.symm.trans hfl0); subst ev; exact hptv.symm, ⟨_, av, _, _, hMz28, hMS0.fr (fun k hk => (hfz28 k (by omega)).trans (hfj k (by omega)))⟩, hXXz28⟩
                    · have c36n : ¬ ((b + m1c t (pst t n k) (pnx t n (pst t n k))) ≤ (b + m0c t (pst t n k))) := fun z => c36 ((nI_leI (a := (b + m1c t (pst t n k) (pnx t n (pst t n k)))) (b := (b + m0c t (pst t n k))) (by omega) (by omega)).mpr z)
                      refine lv_bipush (v := 10) hx hb d_SM_pattern_110 (by decide) ?_
                      refine lv_goto (tgt := 116) hx hb d_SM_pattern_112 (by decide) ?_
                      refine lv_iadd hx hb d_SM_pattern_116 ?_
                      refine m_top (y := (nI ((shp t (q0c t (pst t n k) (pnx t n (pst t n k))) (pnx t n (pst t n k))) + 10))) (nI_add (shp t (q0c t (pst t n k) (pnx t n (pst t n k))) (pnx t n (pst t n k))) 10) ?_
                      refine lv_goto (tgt := 132) hx hb d_SM_pattern_117 (by decide) ?_
                      have hye : (clsU t n k).length = y0 := by omega
                      rw [hye] at hcx
                      have hyc : y.toNatClampNeg = y0 := by rw [hyy]; exact nI_clamp hyl
                      have hSh : Sht t n y0 = nI ((shp t (q0c t (pst t n k) (pnx t n (pst t n k))) (pnx t n (pst t n k))) + 10) := by unfold Sht; rw [hcx.1]; exact (fsh_y (by omega)).trans ((nI_add 10 _).trans (by rw [Nat.add_comm]))
                      have hptv : ptv v0 y al = nI ((shp t (q0c t (pst t n k) (pnx t n (pst t n k))) (pnx t n (pst t n k))) + 10) := by rw [hv0]; exact (pif_t ⟨rfl, hy0, by rw [hyy]; exact nI_lt hcx.2 (show (clsU t n (npc t n)).length < 2 ^ 31 by have := clsU_len t n (npc t n); omega)⟩).trans ((pif_f c34).trans (by rw [hyc]; exact hSh))
                      exact m_iret hc hr hlk hw ⟨by first | decide | (dsimp only; omega), by first | decide | (dsimp only; omega)⟩ d_SM_pattern_132 ⟨fun z => absurd ((hSL.no (by omega)).mpr z) hns, fun k vv q1 q2 q3 => by have ek : k = k0 := (nI_eq (by omega) (by omega)).mp (q2.symm.trans hxk0); subst ek; have ev : vv = v0 := Option.some.inj (q3.symm.trans hfl0); subst ev; exact hptv.symm, ⟨_, av, _, _, hMz28, hMS0.fr (fun k hk => (hfz28 k (by omega)).trans (hfj k (by omega)))⟩, hXXz28⟩
        exact loop (npc t n + 1) 0 sc f ls H locs (by omega) (Nat.zero_le _) hM hX (fun _ _ => rfl) (Nat.zero_le _) hw (by rw [← hyy]; exact (lv_sub hl [2, 0, 4, 6, 7, 1] rfl))
      · refine lv_iconst (v := (-1)) hx hb d_SM_pattern_27 (by decide) ?_
        have hptv : ptv v0 y al = -1 := pif_f (fun z => c26 z.2.1)
        exact m_iret hc hr hlk hw ⟨by first | decide | (dsimp only; omega), by first | decide | (dsimp only; omega)⟩ d_SM_pattern_28 ⟨fun z => absurd ((hSL.no (by omega)).mpr z) hns, fun k vv q1 q2 q3 => by have ek : k = k0 := (nI_eq (by omega) (by omega)).mp (q2.symm.trans hxk0); subst ek; have ev : vv = v0 := Option.some.inj (q3.symm.trans hfl0); subst ev; exact hptv.symm, ⟨_, av, _, _, hM, hMS0.fr (fun _ _ => rfl)⟩, hX⟩
