/-! THE REFERENCE'S STACK runs a node: by its height -/
theorem tr4 {a : Int32 × Tr} {x y z w : Int32} (h : (x, y, z, w) = a) : x = a.1 ∧ (y, z, w) = a.2 := by
  subst h; exact ⟨rfl, rfl⟩
theorem tr4' {x y z w x' y' z' w' : Int32} (h0 : x = x') (h1 : y = y') (h2 : z = z') (h3 : w = w') : ((x, y, z, w) : Int32 × Tr) = (x', y', z', w') := by
  subst h0; subst h1; subst h2; subst h3; rfl
abbrev GoC (G : GG) (l : Launch) (mo : Nat) (so di le : Int32) (f1 : Wd) (post : Wd → Prop) : Prop := ∀ z : Nat, Cv G l y_SM_goOn b_SM_goOn 6 none ({ frames := 6, cells := 0, slots := 0, locals := 157 }) z f1 [.ref mo, .int so, .int di, .int le] post
theorem run_all {G : GG} {l : Launch} {mo : Nat} {ar : Nat → Nat} {f : Wd} {sc0 : Nat → Int32} {av0 : Nat → Nat → Int32} {T md nn mn : Nat} {so di le : Int32} {Go : Wd → Prop}
    (hT : T ≤ 4200) (hmd : md ≤ 520) (hS : sgs (av0 0) T) (hnn : sc0 2 = nI nn) (hmn : sc0 3 = nI mn) (hn : nn ≤ 40) (hmm : mn ≤ 12)
    (iter : ∀ (f1 : Wd) (sc1 : Nat → Int32) (av1 : Nat → Nat → Int32) (tp : Nat) (post : Wd → Prop), Mw G mo ar sc1 av1 f1 → Mx mo ar f f1 → sc1 11 = nI (tp + 1) → tp < 19 → GoC G l mo so di le f1 post → (∀ f2, post f2 → Go f2) → Go f1) :
    ∀ (d tp k : Nat) (v : FV) (sc1 : Nat → Int32) (av1 : Nat → Nat → Int32) (f1 : Wd), NV av0 T md d k v → tp + d ≤ 19 → Mw G mo ar sc1 av1 f1 → Mx mo ar f f1 → (∀ j, j < 8 → sc1 j = sc0 j) → (∀ j, j < 12 → av1 j = av0 j) → sc1 11 = nI (tp + 1) → av1 12 tp = nI k → av1 13 tp = 0 →
      (∀ (sc2 : Nat → Int32) (av2 : Nat → Nat → Int32) (f2 : Wd), Mw G mo ar sc2 av2 f2 → Mx mo ar f f2 → (∀ j, j < 8 → sc2 j = sc0 j) → Stk av1 av2 tp → sc2 11 = nI tp → (sc2 12, sc2 8, sc2 9, sc2 10) = v.2.2.2.1 (nn, av0 1, mn, av0 2, sc0 5, sc0 6, sc0 7, so, di, le) (sc1 8, sc1 9, sc1 10) → Go f2) → Go f1 := by
  intro d
  induction d with
  | zero => intro tp k v sc1 av1 f1 hN; exact hN.elim
  | succ d ih =>
    intro tp k v sc1 av1 f1 hN htd hM hX h8 h12 htp hno hst cont
    obtain ⟨hk, h3, h9, h10, hN⟩ := hN
    have hk5 : k < 520 := by omega
    have rw1 : ∀ (av' : Nat → Nat → Int32) (r : Nat), (∀ j, j < 12 → av' j = av0 j) → r < 12 → ∀ x, av' r x = av0 r x := fun av' r h hr x => by rw [h r hr]
    rcases hN with ⟨b, n, t, lm, a6, a7, hb, hA, hbs, hlm, rfl⟩ | ⟨i, j, vi, vj, a4, a5, hNi, hNj, rfl⟩ | ⟨i, vi, a4, hNi, hal, rfl⟩ | ⟨i, vi, a4, hNi, hgv, rfl⟩ | ⟨i, b, n, t, vi, a4, hNi, a6, a7, hb, hA, rfl⟩
    · -- a text
      refine iter f1 sc1 av1 tp _ hM hX htp (by omega) (fun z => c_SM_goOn1 G l z f1 hM htp (by omega) hk5 hno so di le ((rw1 av1 3 h12 (by decide) k).trans h3) (b := b) (n := n) (t := t) (by rw [h12 0 (by decide)]; exact hA) (by omega) (by rw [h12 0 (by decide)]; exact fun j hj => hS j (by omega)) ((rw1 av1 6 h12 (by decide) k).trans a6) ((rw1 av1 7 h12 (by decide) k).trans a7) ((h8 2 (by decide)).trans hnn) ((h8 3 (by decide)).trans hmn) hn hmm) (fun f2 hp => ?_)
      obtain ⟨sc2, hM2, hX2, hf2, ht2, hv2⟩ := hp
      refine cont sc2 av1 f2 hM2 (hX.tr hX2) (fun j hj => (hf2 j hj).trans (h8 j hj)) Stk.rf ht2 ?_
      rw [hv2, h12 8 (by decide), h12 1 (by decide), h12 2 (by decide), h8 5 (by decide), h8 6 (by decide), h8 7 (by decide)]
      exact (congrFun (congrFun (anT_lm hlm) _) _).symm
    · -- joined
      refine iter f1 sc1 av1 tp _ hM hX htp (by omega) (fun z => c_SM_goOn20 G l z f1 hM htp (by omega) hk5 hno so di le ((rw1 av1 3 h12 (by decide) k).trans h3) hst) (fun f2 hp => ?_)
      obtain ⟨sc2, av2, hM2, hX2, hs2, hf2, ht2, b12, b13, b14, c12, c13⟩ := hp
      have g2 : ∀ j, j < 12 → av2 j = av0 j := fun j hj => (hs2.1 j hj).trans (h12 j hj)
      refine ih (tp + 1) i vi sc2 av2 f2 hNi (by omega) hM2 (hX.tr hX2) (fun j hj => (hf2 j (by omega) (by omega)).trans (h8 j hj)) g2 ht2 (c12.trans ((rw1 av1 4 h12 (by decide) k).trans a4)) c13 (fun sc3 av3 f3 hM3 hX3 h83 hs3 ht3 hv3 => ?_)
      rw [hf2 8 (by decide) (by decide), hf2 9 (by decide) (by decide), hf2 10 (by decide) (by decide)] at hv3
      obtain ⟨r3, q3⟩ := tr4 hv3
      have s3 := hs3.2 tp (by omega)
      have g3 : ∀ j, j < 12 → av3 j = av0 j := fun j hj => (hs3.1 j hj).trans (g2 j hj)
      by_cases r : sc3 12 = 2
      · refine iter f3 sc3 av3 tp _ hM3 hX3 ht3 (by omega) (fun z => c_SM_goOn21 G l z f3 hM3 ht3 (by omega) hk5 (s3.1.trans (b12.trans hno)) so di le ((rw1 av3 3 g3 (by decide) k).trans h3) (s3.2.1.trans b13)) (fun f4 hp => ?_)
        obtain ⟨sc4, av4, hM4, hX4, hs4, hf4, ht4, hr4⟩ := hp.2 r
        refine cont sc4 av4 f4 hM4 (hX3.tr hX4) (fun j hj => (hf4 j (by omega) (by omega) (by omega)).trans (h83 j hj)) ((hs2.tr hs3 (by omega)).tr hs4 (Nat.le_refl _)) ht4 ?_
        rw [hr4, hf4 8 (by decide) (by decide) (by decide), hf4 9 (by decide) (by decide) (by decide), hf4 10 (by decide) (by decide) (by decide)]
        show _ = anJ _ _ _ _
        unfold anJ
        rw [pif_t (r3.symm.trans r), ← q3, r]
      · refine iter f3 sc3 av3 tp _ hM3 hX3 ht3 (by omega) (fun z => c_SM_goOn21 G l z f3 hM3 ht3 (by omega) hk5 (s3.1.trans (b12.trans hno)) so di le ((rw1 av3 3 g3 (by decide) k).trans h3) (s3.2.1.trans b13)) (fun f4 hp => ?_)
        obtain ⟨sc4, av4, hM4, hX4, hs4, hf4, ht4, d12, d13, d14, e12, e13⟩ := hp.1 r
        have g4 : ∀ j, j < 12 → av4 j = av0 j := fun j hj => (hs4.1 j hj).trans (g3 j hj)
        refine ih (tp + 1) j vj sc4 av4 f4 hNj (by omega) hM4 (hX3.tr hX4) (fun j hj => (hf4 j (by omega) (by omega)).trans (h83 j hj)) g4 ht4 (e12.trans ((rw1 av3 5 g3 (by decide) k).trans a5)) e13 (fun sc5 av5 f5 hM5 hX5 h85 hs5 ht5 hv5 => ?_)
        rw [hf4 8 (by decide) (by decide), hf4 9 (by decide) (by decide), hf4 10 (by decide) (by decide), q3] at hv5
        obtain ⟨r5, q5⟩ := tr4 hv5
        have s5 := hs5.2 tp (by omega)
        have g5 : ∀ j, j < 12 → av5 j = av0 j := fun j hj => (hs5.1 j hj).trans (g4 j hj)
        refine iter f5 sc5 av5 tp _ hM5 hX5 ht5 (by omega) (fun z => c_SM_goOn22 G l z f5 hM5 ht5 (by omega) hk5 (s5.1.trans (d12.trans (s3.1.trans (b12.trans hno)))) so di le ((rw1 av5 3 g5 (by decide) k).trans h3) (s5.2.1.trans d13)) (fun f6 hp => ?_)
        obtain ⟨sc6, av6, hM6, hX6, hs6, hf6, ht6, hr6⟩ := hp
        refine cont sc6 av6 f6 hM6 (hX5.tr hX6) (fun j hj => (hf6 j (by omega) (by omega) (by omega)).trans (h85 j hj)) ((((hs2.tr hs3 (by omega)).tr hs4 (Nat.le_refl _)).tr hs5 (by omega)).tr hs6 (Nat.le_refl _)) ht6 ?_
        rw [hr6, hf6 8 (by decide) (by decide) (by decide), hf6 9 (by decide) (by decide) (by decide), hf6 10 (by decide) (by decide) (by decide), s5.2.2.trans d14]
        have v1 := NV.rng _ _ _ hNi (nn, av0 1, mn, av0 2, sc0 5, sc0 6, sc0 7, so, di, le) (sc1 8, sc1 9, sc1 10)
        have v2 := NV.rng _ _ _ hNj (nn, av0 1, mn, av0 2, sc0 5, sc0 6, sc0 7, so, di, le) (vi.2.2.2.1 (nn, av0 1, mn, av0 2, sc0 5, sc0 6, sc0 7, so, di, le) (sc1 8, sc1 9, sc1 10)).2
        show _ = anJ _ _ _ _
        unfold anJ
        rw [pif_f (fun z => r (r3.trans z))]
        rw [← r5] at v2 ⊢
        rw [← r3] at v1 ⊢
        rw [← q5]
        rcases v2 with z | z | z
        · rw [pif_t z, pif_f (show ¬ sc5 12 = 2 by rw [z]; decide)]
          rcases v1 with y | y | y
          · rw [pif_f (show ¬ (sc3 12 = 1 ∨ sc5 12 = 1) by rw [y, z]; decide), y]
          · rw [pif_t (Or.inl y), y]
          · exact absurd y r
        · rw [pif_f (show ¬ sc5 12 = 0 by rw [z]; decide), pif_f (show ¬ sc5 12 = 2 by rw [z]; decide), pif_t (Or.inr z), z]
        · rw [pif_f (show ¬ sc5 12 = 0 by rw [z]; decide), pif_t z, z]
    · -- strict
      refine iter f1 sc1 av1 tp _ hM hX htp (by omega) (fun z => c_SM_goOn30 G l z f1 hM htp (by omega) hk5 hno so di le ((rw1 av1 3 h12 (by decide) k).trans h3) hst) (fun f2 hp => ?_)
      obtain ⟨sc2, av2, hM2, hX2, hs2, hf2, ht2, b12, b13, b14, c12, c13⟩ := hp
      have g2 : ∀ j, j < 12 → av2 j = av0 j := fun j hj => (hs2.1 j hj).trans (h12 j hj)
      refine ih (tp + 1) i vi sc2 av2 f2 hNi (by omega) hM2 (hX.tr hX2) (fun j hj => (hf2 j (by omega) (by omega)).trans (h8 j hj)) g2 ht2 (c12.trans ((rw1 av1 4 h12 (by decide) k).trans a4)) c13 (fun sc3 av3 f3 hM3 hX3 h83 hs3 ht3 hv3 => ?_)
      rw [hf2 8 (by decide) (by decide), hf2 9 (by decide) (by decide), hf2 10 (by decide) (by decide)] at hv3
      obtain ⟨r3, q3⟩ := tr4 hv3
      have s3 := hs3.2 tp (by omega)
      have g3 : ∀ j, j < 12 → av3 j = av0 j := fun j hj => (hs3.1 j hj).trans (g2 j hj)
      refine iter f3 sc3 av3 tp _ hM3 hX3 ht3 (by omega) (fun z => c_SM_goOn31 G l z f3 hM3 ht3 (by omega) hk5 (s3.1.trans (b12.trans hno)) so di le ((rw1 av3 3 g3 (by decide) k).trans h3) (s3.2.1.trans b13)) (fun f4 hp => ?_)
      obtain ⟨sc4, av4, hM4, hX4, hs4, hf4, ht4, hr4⟩ := hp
      refine cont sc4 av4 f4 hM4 (hX3.tr hX4) (fun j hj => (hf4 j (by omega) (by omega) (by omega)).trans (h83 j hj)) ((hs2.tr hs3 (by omega)).tr hs4 (Nat.le_refl _)) ht4 ?_
      rw [hr4, hf4 8 (by decide) (by decide) (by decide), hf4 9 (by decide) (by decide) (by decide), hf4 10 (by decide) (by decide) (by decide), g3 8 (by decide)]
      show _ = anS (av0 8 k) _ _ _
      unfold anS
      show _ = (pif ((vi.2.2.2.1 _ _).1 = 0 ∧ (so = 1 ∨ (so = 0 ∧ ¬ av0 8 k = 0))) 2 (vi.2.2.2.1 _ _).1, (vi.2.2.2.1 _ _).2)
      rw [← r3, ← q3]
      have e : (av0 8 k = 1) = (¬ av0 8 k = 0) := propext ⟨fun z y => absurd (z.symm.trans y) (by decide), fun z => hal.resolve_left z⟩
      rw [e]
    · -- default
      refine iter f1 sc1 av1 tp _ hM hX htp (by omega) (fun z => c_SM_goOn40 G l z f1 hM htp (by omega) hk5 hno so di le ((rw1 av1 3 h12 (by decide) k).trans h3) hst) (fun f2 hp => ?_)
      obtain ⟨sc2, av2, hM2, hX2, hs2, hf2, ht2, b12, b13, b14, c12, c13⟩ := hp
      have g2 : ∀ j, j < 12 → av2 j = av0 j := fun j hj => (hs2.1 j hj).trans (h12 j hj)
      refine ih (tp + 1) i vi sc2 av2 f2 hNi (by omega) hM2 (hX.tr hX2) (fun j hj => (hf2 j (by omega) (by omega)).trans (h8 j hj)) g2 ht2 (c12.trans ((rw1 av1 4 h12 (by decide) k).trans a4)) c13 (fun sc3 av3 f3 hM3 hX3 h83 hs3 ht3 hv3 => ?_)
      rw [hf2 8 (by decide) (by decide), hf2 9 (by decide) (by decide), hf2 10 (by decide) (by decide)] at hv3
      obtain ⟨r3, q3⟩ := tr4 hv3
      have s3 := hs3.2 tp (by omega)
      have g3 : ∀ j, j < 12 → av3 j = av0 j := fun j hj => (hs3.1 j hj).trans (g2 j hj)
      refine iter f3 sc3 av3 tp _ hM3 hX3 ht3 (by omega) (fun z => c_SM_goOn41 G l z f3 hM3 ht3 (by omega) hk5 (s3.1.trans (b12.trans hno)) so di le ((rw1 av3 3 g3 (by decide) k).trans h3) (s3.2.1.trans b13)) (fun f4 hp => ?_)
      obtain ⟨sc4, av4, hM4, hX4, hs4, hf4, ht4, hr4⟩ := hp
      refine cont sc4 av4 f4 hM4 (hX3.tr hX4) (fun j hj => (hf4 j (by omega) (by omega) (by omega)).trans (h83 j hj)) ((hs2.tr hs3 (by omega)).tr hs4 (Nat.le_refl _)) ht4 ?_
      rw [hr4, hf4 8 (by decide) (by decide) (by decide), hf4 9 (by decide) (by decide) (by decide), hf4 10 (by decide) (by decide) (by decide), g3 8 (by decide)]
      show _ = (pif ((vi.2.2.2.1 _ _).1 = 0) (av0 8 k) (vi.2.2.2.1 _ _).1, (vi.2.2.2.1 _ _).2)
      rw [← r3, ← q3]
    · -- only
      have hA1 : agr (av1 0) b t n := by rw [h12 0 (by decide)]; exact hA
      have eb : bgn nn (av1 1) (av1 0) b (b + n) ↔ bgn nn (av0 1) t 0 n := by rw [h12 1 (by decide)]; exact bgn_sh (m0 := 0) (m1 := n) hA1 (Nat.le_refl _)
      have hgo := fun z => c_SM_goOn50 G l z f1 hM htp (by omega) hk5 hno so di le ((rw1 av1 3 h12 (by decide) k).trans h3) hst hA1 (by omega) (by rw [h12 0 (by decide)]; exact fun j hj => hS j (by omega)) ((rw1 av1 6 h12 (by decide) k).trans a6) ((rw1 av1 7 h12 (by decide) k).trans a7) ((h8 2 (by decide)).trans hnn) ((h8 3 (by decide)).trans hmn) hn hmm
      by_cases hc : so = 1 ∧ bgn nn (av0 1) t 0 n
      · refine iter f1 sc1 av1 tp _ hM hX htp (by omega) hgo (fun f2 hp => ?_)
        obtain ⟨sc2, av2, hM2, hX2, hs2, hf2, ht2, b12, b13, b14, c12, c13⟩ := hp.1 ⟨hc.1, eb.mpr hc.2⟩
        have g2 : ∀ j, j < 12 → av2 j = av0 j := fun j hj => (hs2.1 j hj).trans (h12 j hj)
        refine ih (tp + 1) i vi sc2 av2 f2 hNi (by omega) hM2 (hX.tr hX2) (fun j hj => (hf2 j (by omega) (by omega)).trans (h8 j hj)) g2 ht2 (c12.trans ((rw1 av1 4 h12 (by decide) k).trans a4)) c13 (fun sc3 av3 f3 hM3 hX3 h83 hs3 ht3 hv3 => ?_)
        rw [hf2 8 (by decide) (by decide), hf2 9 (by decide) (by decide), hf2 10 (by decide) (by decide)] at hv3
        have s3 := hs3.2 tp (by omega)
        have g3 : ∀ j, j < 12 → av3 j = av0 j := fun j hj => (hs3.1 j hj).trans (g2 j hj)
        refine iter f3 sc3 av3 tp _ hM3 hX3 ht3 (by omega) (fun z => c_SM_goOn51 G l z f3 hM3 ht3 (by omega) hk5 (s3.1.trans (b12.trans hno)) so di le ((rw1 av3 3 g3 (by decide) k).trans h3) (s3.2.1.trans b13)) (fun f4 hp => ?_)
        obtain ⟨sc4, av4, hM4, hX4, hs4, hf4, ht4, hr4⟩ := hp
        refine cont sc4 av4 f4 hM4 (hX3.tr hX4) (fun j hj => (hf4 j (by omega) (by omega) (by omega)).trans (h83 j hj)) ((hs2.tr hs3 (by omega)).tr hs4 (Nat.le_refl _)) ht4 ?_
        rw [hr4, hf4 8 (by decide) (by decide) (by decide), hf4 9 (by decide) (by decide) (by decide), hf4 10 (by decide) (by decide) (by decide)]
        show _ = (pif (so = 1 ∧ bgn nn (av0 1) t 0 n) _ _ : Int32 × Tr)
        rw [pif_t hc]
        exact hv3
      · refine iter f1 sc1 av1 tp _ hM hX htp (by omega) hgo (fun f2 hp => ?_)
        obtain ⟨sc4, av4, hM4, hX4, hs4, hf4, ht4, hr4⟩ := hp.2 (fun z => hc ⟨z.1, eb.mp z.2⟩)
        refine cont sc4 av4 f2 hM4 (hX.tr hX4) (fun j hj => (hf4 j (by omega) (by omega) (by omega)).trans (h8 j hj)) hs4 ht4 ?_
        rw [hr4, hf4 8 (by decide) (by decide) (by decide), hf4 9 (by decide) (by decide) (by decide), hf4 10 (by decide) (by decide) (by decide)]
        show _ = (pif (so = 1 ∧ bgn nn (av0 1) t 0 n) _ _ : Int32 × Tr)
        rw [pif_f hc]
