/-! NODES: what the reference's rows say of a filter; its stack -/
/-- node k has the value v, and is at most d high; T signs stand in the log, md nodes are made -/
def NV (av : Nat → Nat → Int32) (T md : Nat) : Nat → Nat → FV → Prop
  | 0, _, _ => False
  | d + 1, k, v => k < md ∧ av 3 k = v.1 ∧ av 9 k = v.2.1 ∧ av 10 k = v.2.2.1 ∧
    ((∃ (b n : Nat) (t lm : Nat → Int32), av 6 k = nI b ∧ av 7 k = nI n ∧ b + n ≤ T ∧ agr (av 0) b t n ∧ (av 8 k = 0 ∨ av 8 k = 1) ∧ (∀ j, j < 4 → lm j = lmU t n (npc t n) j) ∧ v = (1, 1, 1, anT (av 8 k) lm (clsU t n (npc t n)).length (Mt t n) (Vt t n), (clsU t n (npc t n)).length, lm, av 8 k, Vt t n, Sht t n))
    ∨ (∃ (i j : Nat) (vi vj : FV), av 4 k = nI i ∧ av 5 k = nI j ∧ NV av T md d i vi ∧ NV av T md d j vj ∧ v = (2, vi.2.1 + vj.2.1, 1 + mxh vi.2.2.1 vj.2.2.1, anJ vi.2.2.2.1 vj.2.2.2.1, TI0))
    ∨ (∃ (i : Nat) (vi : FV), av 4 k = nI i ∧ NV av T md d i vi ∧ (av 8 k = 0 ∨ av 8 k = 1) ∧ v = (3, vi.2.1, 1 + vi.2.2.1, anS (av 8 k) vi.2.2.2.1, TI0))
    ∨ (∃ (i : Nat) (vi : FV), av 4 k = nI i ∧ NV av T md d i vi ∧ (av 8 k = 0 ∨ av 8 k = 1 ∨ av 8 k = 2) ∧ v = (4, vi.2.1, 1 + vi.2.2.1, anD (av 8 k) vi.2.2.2.1, TI0))
    ∨ (∃ (i b n : Nat) (t : Nat → Int32) (vi : FV), av 4 k = nI i ∧ NV av T md d i vi ∧ av 6 k = nI b ∧ av 7 k = nI n ∧ b + n ≤ T ∧ agr (av 0) b t n ∧ v = (5, vi.2.1, 1 + vi.2.2.1, anO n t vi.2.2.2.1, TI0)))
theorem agr_mono {S S' : Nat → Int32} {b n T : Nat} {t : Nat → Int32} (h : agr S b t n) (hb : b + n ≤ T) (hs : ∀ j, j < T → S' j = S j) : agr S' b t n := fun j hj => by
  rw [hs (b + j) (by omega)]; exact h j hj
theorem NV.mono {av av' : Nat → Nat → Int32} {T md T' md' : Nat} (hs : ∀ j, j < T → av' 0 j = av 0 j) (hr : ∀ r, 3 ≤ r → r ≤ 10 → ∀ j, j < md → av' r j = av r j) (hT : T ≤ T') (hmd : md ≤ md') : ∀ (d k : Nat) (v : FV), NV av T md d k v → NV av' T' md' d k v := by
  intro d
  induction d with
  | zero => intro k v h; exact h.elim
  | succ d ih =>
    intro k v h
    obtain ⟨hk, h3, h9, h10, h⟩ := h
    refine ⟨by omega, by rw [hr 3 (by decide) (by decide) k hk]; exact h3, by rw [hr 9 (by decide) (by decide) k hk]; exact h9, by rw [hr 10 (by decide) (by decide) k hk]; exact h10, ?_⟩
    rw [hr 4 (by decide) (by decide) k hk, hr 5 (by decide) (by decide) k hk, hr 6 (by decide) (by decide) k hk, hr 7 (by decide) (by decide) k hk, hr 8 (by decide) (by decide) k hk]
    rcases h with ⟨b, n, t, lm, a1, a2, a3, a4, a5⟩ | ⟨i, j, vi, vj, a1, a2, a3, a4, a5⟩ | ⟨i, vi, a1, a2, a3⟩ | ⟨i, vi, a1, a2, a3⟩ | ⟨i, b, n, t, vi, a1, a2, a3, a4, a5, a6, a7⟩
    · exact Or.inl ⟨b, n, t, lm, a1, a2, by omega, agr_mono a4 a3 hs, a5⟩
    · exact Or.inr (Or.inl ⟨i, j, vi, vj, a1, a2, ih _ _ a3, ih _ _ a4, a5⟩)
    · exact Or.inr (Or.inr (Or.inl ⟨i, vi, a1, ih _ _ a2, a3⟩))
    · exact Or.inr (Or.inr (Or.inr (Or.inl ⟨i, vi, a1, ih _ _ a2, a3⟩)))
    · exact Or.inr (Or.inr (Or.inr (Or.inr ⟨i, b, n, t, vi, a1, ih _ _ a2, a3, a4, by omega, agr_mono a6 a5 hs, a7⟩)))
theorem NV.up {av : Nat → Nat → Int32} {T md : Nat} : ∀ (d k : Nat) (v : FV), NV av T md d k v → NV av T md (d + 1) k v := by
  intro d
  induction d with
  | zero => intro k v h; exact h.elim
  | succ d ih =>
    intro k v h
    obtain ⟨hk, h3, h9, h10, h⟩ := h
    refine ⟨hk, h3, h9, h10, ?_⟩
    rcases h with h | ⟨i, j, vi, vj, a1, a2, a3, a4, a5⟩ | ⟨i, vi, a1, a2, a3⟩ | ⟨i, vi, a1, a2, a3⟩ | ⟨i, b, n, t, vi, a1, a2, a3⟩
    · exact Or.inl h
    · exact Or.inr (Or.inl ⟨i, j, vi, vj, a1, a2, ih _ _ a3, ih _ _ a4, a5⟩)
    · exact Or.inr (Or.inr (Or.inl ⟨i, vi, a1, ih _ _ a2, a3⟩))
    · exact Or.inr (Or.inr (Or.inr (Or.inl ⟨i, vi, a1, ih _ _ a2, a3⟩)))
    · exact Or.inr (Or.inr (Or.inr (Or.inr ⟨i, b, n, t, vi, a1, ih _ _ a2, a3⟩)))
theorem NV.le {av : Nat → Nat → Int32} {T md d : Nat} {k : Nat} {v : FV} (h : NV av T md d k v) : ∀ m, NV av T md (d + m) k v := by
  intro m
  induction m with
  | zero => exact h
  | succ m ih => exact NV.up _ _ _ ih
theorem NV.lt {av : Nat → Nat → Int32} {T md d k : Nat} {v : FV} (h : NV av T md d k v) : k < md := by
  cases d with
  | zero => exact h.elim
  | succ d => exact h.1
theorem vdc_r (x : Int32) : vdc x = 0 ∨ vdc x = 1 ∨ vdc x = 2 := by
  by_cases h : x = 0
  · exact Or.inr (Or.inl (vdc_0 h))
  · exact Or.inr (Or.inr (vdc_n h))
theorem cmpP_r {M : Nat → Prop} {V : Nat → Int32} (hV : ∀ i, V i = 0 ∨ V i = 1 ∨ V i = 2) : ∀ m i c l, (cmpP M V m i c l).1 = 0 ∨ (cmpP M V m i c l).1 = 1 ∨ (cmpP M V m i c l).1 = 2 := by
  intro m
  induction m with
  | zero => intro i c l; exact Or.inl rfl
  | succ m ih =>
    intro i c l
    have e : cmpP M V (m + 1) i c l = pif (M i) (V i, c + 1, nI i) (cmpP M V m (i + 1) (c + 1) l) := rfl
    rw [e]
    by_cases h : M i
    · rw [pif_t h]; exact hV i
    · rw [pif_f h]; exact ih _ _ _
theorem pif_r {P : Prop} {x y : Int32} (hx : x = 0 ∨ x = 1 ∨ x = 2) (hy : y = 0 ∨ y = 1 ∨ y = 2) : pif P x y = 0 ∨ pif P x y = 1 ∨ pif P x y = 2 := by
  by_cases h : P
  · rw [pif_t h]; exact hx
  · rw [pif_f h]; exact hy
theorem anT_r {bs : Int32} {lm : Nat → Int32} {np : Nat} {M : Nat → Nat → (Nat → Int32) → Nat → (Nat → Int32) → Prop} {V : Nat → Int32} (hV : ∀ i, V i = 0 ∨ V i = 1 ∨ V i = 2) (Q : Qn) (tr : Tr) : (anT bs lm np M V Q tr).1 = 0 ∨ (anT bs lm np M V Q tr).1 = 1 ∨ (anT bs lm np M V Q tr).1 = 2 := by
  obtain ⟨nn, nt, mn, mt, dp, rf, by_, so, di, le⟩ := Q
  obtain ⟨co, tx, lx⟩ := tr
  rw [anT_eq]
  by_cases h1 : abv dp (lm 0) ∨ abv rf (lm 1) ∨ abv by_ (lm 2)
  · rw [pif_t h1]; exact Or.inr (Or.inr rfl)
  · rw [pif_f h1]
    by_cases h2 : so = 0
    · rw [pif_t h2]; exact Or.inl rfl
    · rw [pif_f h2]
      by_cases h3 : 0 < di ∧ abv le (lm 3)
      · rw [pif_t h3]; exact Or.inr (Or.inr rfl)
      · rw [pif_f h3]
        by_cases h4 : 0 < di ∧ bs = 0
        · rw [pif_t h4]; exact Or.inl rfl
        · rw [pif_f h4]
          by_cases h5 : so = 2
          · rw [pif_t h5]; exact Or.inl rfl
          · rw [pif_f h5]; exact cmpP_r hV _ _ _ _
theorem NV.rng {av : Nat → Nat → Int32} {T md : Nat} : ∀ (d k : Nat) (v : FV), NV av T md d k v → ∀ (Q : Qn) (tr : Tr), (v.2.2.2.1 Q tr).1 = 0 ∨ (v.2.2.2.1 Q tr).1 = 1 ∨ (v.2.2.2.1 Q tr).1 = 2 := by
  intro d
  induction d with
  | zero => intro k v h; exact h.elim
  | succ d ih =>
    intro k v h Q tr
    obtain ⟨hk, h3, h9, h10, h⟩ := h
    rcases h with ⟨b, n, t, lm, a1, a2, a3, a4, a5, a6, rfl⟩ | ⟨i, j, vi, vj, a1, a2, a3, a4, rfl⟩ | ⟨i, vi, a1, a2, a3, rfl⟩ | ⟨i, vi, a1, a2, a3, rfl⟩ | ⟨i, b, n, t, vi, a1, a2, a3, a4, a5, a6, rfl⟩
    · exact anT_r (fun i => vdc_r _) Q tr
    · show (pif _ _ (pif _ _ _) : Int32 × Tr).1 = 0 ∨ (pif _ _ (pif _ _ _) : Int32 × Tr).1 = 1 ∨ (pif _ _ (pif _ _ _) : Int32 × Tr).1 = 2
      by_cases z1 : (vi.2.2.2.1 Q tr).1 = 2
      · rw [pif_t z1]; exact Or.inr (Or.inr rfl)
      · rw [pif_f z1]
        by_cases z2 : (vj.2.2.2.1 Q (vi.2.2.2.1 Q tr).2).1 = 2
        · rw [pif_t z2]; exact Or.inr (Or.inr rfl)
        · rw [pif_f z2]; exact pif_r (Or.inr (Or.inl rfl)) (Or.inl rfl)
    · obtain ⟨nn, nt, mn, mt, dp, rf, by_, so, di, le⟩ := Q
      exact pif_r (Or.inr (Or.inr rfl)) (ih _ _ a2 _ _)
    · exact pif_r a3 (ih _ _ a2 _ _)
    · obtain ⟨nn, nt, mn, mt, dp, rf, by_, so, di, le⟩ := Q
      show (pif (so = 1 ∧ bgn nn nt t 0 n) _ _ : Int32 × Tr).1 = 0 ∨ (pif (so = 1 ∧ bgn nn nt t 0 n) _ _ : Int32 × Tr).1 = 1 ∨ (pif (so = 1 ∧ bgn nn nt t 0 n) _ _ : Int32 × Tr).1 = 2
      by_cases z : so = 1 ∧ bgn nn nt t 0 n
      · rw [pif_t z]; exact ih _ _ a2 _ _
      · rw [pif_f z]; exact Or.inl rfl
/-- rows 0 .. 11 and the stack below tp are as they were -/
def Stk (av av' : Nat → Nat → Int32) (tp : Nat) : Prop := (∀ j, j < 12 → av' j = av j) ∧ ∀ j, j < tp → av' 12 j = av 12 j ∧ av' 13 j = av 13 j ∧ av' 14 j = av 14 j
def PSH (G : GG) (mo : Nat) (ar : Nat → Nat) (sc : Nat → Int32) (av : Nat → Nat → Int32) (f : Wd) (tp : Nat) (st kp x : Int32) : Wd → Prop := fun f' => ∃ (sc' : Nat → Int32) (av' : Nat → Nat → Int32), Mw G mo ar sc' av' f' ∧ Mx mo ar f f' ∧ Stk av av' tp ∧ (∀ j, j < 13 → j ≠ 11 → sc' j = sc j) ∧ sc' 11 = nI (tp + 2) ∧ av' 12 tp = av 12 tp ∧ av' 13 tp = st ∧ av' 14 tp = kp ∧ av' 12 (tp + 1) = x ∧ av' 13 (tp + 1) = 0
def POP (G : GG) (mo : Nat) (ar : Nat → Nat) (sc : Nat → Int32) (av : Nat → Nat → Int32) (f : Wd) (tp : Nat) (r : Int32) : Wd → Prop := fun f' => ∃ (sc' : Nat → Int32) (av' : Nat → Nat → Int32), Mw G mo ar sc' av' f' ∧ Mx mo ar f f' ∧ Stk av av' tp ∧ (∀ j, j < 13 → j ≠ 11 → j ≠ 12 → sc' j = sc j) ∧ sc' 11 = nI tp ∧ sc' 12 = r
theorem Stk.rf {av : Nat → Nat → Int32} {tp : Nat} : Stk av av tp := ⟨fun _ _ => rfl, fun _ _ => ⟨rfl, rfl, rfl⟩⟩
theorem Stk.tr {av av' av'' : Nat → Nat → Int32} {tp tq : Nat} (h : Stk av av' tp) (h' : Stk av' av'' tq) (hq : tp ≤ tq) : Stk av av'' tp := ⟨fun j hj => (h'.1 j hj).trans (h.1 j hj), fun j hj => by
  obtain ⟨a1, a2, a3⟩ := h.2 j hj
  obtain ⟨b1, b2, b3⟩ := h'.2 j (by omega)
  exact ⟨b1.trans a1, b2.trans a2, b3.trans a3⟩⟩
/-- one row of the stack is written, at tp -/
theorem Stk.w {av : Nat → Nat → Int32} {tp r i : Nat} {x : Int32} (hr : 12 ≤ r) (hi : tp ≤ i) : Stk av (va_up av r (upd (av r) i x)) tp := by
  refine ⟨fun j hj => va_up_ne _ _ (by omega), fun j hj => ?_⟩
  have h : ∀ q, va_up av r (upd (av r) i x) q j = av q j := by
    intro q
    by_cases e : q = r
    · subst e; rw [va_up_self, upd_ne' _ _ _ (by omega)]
    · rw [va_up_ne _ _ e]
  exact ⟨h 12, h 13, h 14⟩
