/-! REGISTERS: the cells that change, by their places; and a map of cells that never change -/
theorem wne {f : Wd} {a b : Nat} {x y : va_E} (ha : f a = some x) (hb : f b = some y) (h : x ≠ y) : a ≠ b := fun e => h (by
  subst e
  exact Option.some.inj (ha.symm.trans hb))
theorem wnf {f : Wd} {a b : Nat} {x : va_E} (ha : f a = some x) (hb : f b = none) : a ≠ b := fun e => by
  subst e
  rw [ha] at hb
  cases hb
/-- g' holds all that g holds -/
def gle (g g' : Wd) : Prop := ∀ (q : Nat) (e : va_E), g q = some e → g' q = some e
theorem gle.rf {g : Wd} : gle g g := fun _ _ h => h
theorem gle.tr {g g' g'' : Wd} (h : gle g g') (h' : gle g' g'') : gle g g'' := fun q e z => h' q e (h q e z)
theorem gle.up {g : Wd} {q : Nat} {e : va_E} (h : g q = none) : gle g (va_up g q (some e)) := fun b x hb => by
  rw [va_up_ne _ _ (wnf hb h)]
  exact hb
def Rg (n : Nat) (ad : Nat → Nat) (E : Nat → va_E) (g f : Wd) : Prop :=
  (∀ k, k < n → f (ad k) = some (E k)) ∧ (∀ i j, i < n → j < n → ad i = ad j → i = j) ∧ gle g f ∧ ∀ k, k < n → g (ad k) = none
theorem Rg.get {n : Nat} {ad : Nat → Nat} {E : Nat → va_E} {g f : Wd} (h : Rg n ad E g f) (k : Nat) (hk : k < n) {e : va_E} (he : E k = e) : f (ad k) = some e := by rw [← he]; exact h.1 k hk
theorem Rg.up {n : Nat} {ad : Nat → Nat} {E : Nat → va_E} {g f : Wd} (h : Rg n ad E g f) (j : Nat) (hj : j < n) (e : va_E) : Rg n ad (va_up E j e) g (va_up f (ad j) (some e)) := by
  obtain ⟨h1, h2, h3, h4⟩ := h
  refine ⟨fun k hk => ?_, h2, fun q x hx => ?_, h4⟩
  · by_cases hkj : k = j
    · subst hkj
      rw [va_up_self, va_up_self]
    · rw [va_up_ne _ _ hkj, va_up_ne _ _ (fun z => hkj (h2 k j hk hj z))]
      exact h1 k hk
  · rw [va_up_ne _ _ (wnf hx (h4 j hj))]
    exact h3 q x hx
theorem Rg.non {n : Nat} {ad : Nat → Nat} {E : Nat → va_E} {g f : Wd} (h : Rg n ad E g f) {q : Nat} (hq : f q = none) : g q = none := by
  cases hg : g q with
  | none => rfl
  | some e => rw [h.2.2.1 q e hg] at hq; cases hq
theorem Rg.new {n : Nat} {ad : Nat → Nat} {E : Nat → va_E} {g f : Wd} (h : Rg n ad E g f) {q : Nat} (e : va_E) (hq : f q = none) : Rg n ad E (va_up g q (some e)) (va_up f q (some e)) := by
  obtain ⟨h1, h2, h3, h4⟩ := h
  have hn : ∀ k, k < n → ad k ≠ q := fun k hk => wnf (h1 k hk) hq
  refine ⟨fun k hk => ?_, h2, fun b x hx => ?_, fun k hk => ?_⟩
  · rw [va_up_ne _ _ (hn k hk)]
    exact h1 k hk
  · by_cases hb : b = q
    · subst hb
      rw [va_up_self] at hx ⊢
      exact hx
    · rw [va_up_ne _ _ hb] at hx ⊢
      exact h3 b x hx
  · rw [va_up_ne _ _ (hn k hk)]
    exact h4 k hk
theorem Rg.upG {n : Nat} {ad : Nat → Nat} {E : Nat → va_E} {g f : Wd} (h : Rg n ad E g f) {q : Nat} {e0 : va_E} (e : va_E) (hq : g q = some e0) : Rg n ad E (va_up g q (some e)) (va_up f q (some e)) := by
  obtain ⟨h1, h2, h3, h4⟩ := h
  have hn : ∀ k, k < n → ad k ≠ q := fun k hk => Ne.symm (wnf hq (h4 k hk))
  refine ⟨fun k hk => ?_, h2, fun b x hx => ?_, fun k hk => ?_⟩
  · rw [va_up_ne _ _ (hn k hk)]
    exact h1 k hk
  · by_cases hb : b = q
    · subst hb
      rw [va_up_self] at hx ⊢
      exact hx
    · rw [va_up_ne _ _ hb] at hx ⊢
      exact h3 b x hx
  · rw [va_up_ne _ _ (hn k hk)]
    exact h4 k hk
