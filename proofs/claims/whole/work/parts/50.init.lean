/-! A NEW REGISTER -/
theorem Rg.add {n : Nat} {ad : Nat → Nat} {E : Nat → va_E} {g f : Wd} (h : Rg n ad E g f) {q : Nat} (e : va_E) (hq : f q = none) : Rg (n + 1) (va_up ad n q) (va_up E n e) g (va_up f q (some e)) := by
  obtain ⟨h1, h2, h3, h4⟩ := h
  have hn : ∀ k, k < n → ad k ≠ q := fun k hk => wnf (h1 k hk) hq
  have hgq : g q = none := Rg.non ⟨h1, h2, h3, h4⟩ hq
  refine ⟨fun k hk => ?_, fun i j hi hj => ?_, h3.upf hgq, fun k hk => ?_⟩
  · by_cases hkn : k = n
    · subst hkn; rw [va_up_self, va_up_self, va_up_self]
    · rw [va_up_ne _ _ hkn, va_up_ne _ _ hkn, va_up_ne _ _ (hn k (by omega))]
      exact h1 k (by omega)
  · by_cases hi2 : i = n
    · by_cases hj2 : j = n
      · intro _; omega
      · rw [hi2, va_up_self, va_up_ne _ _ hj2]
        intro z
        exact absurd z.symm (hn j (by omega))
    · by_cases hj2 : j = n
      · rw [hj2, va_up_self, va_up_ne _ _ hi2]
        intro z
        exact absurd z (hn i (by omega))
      · rw [va_up_ne _ _ hi2, va_up_ne _ _ hj2]
        exact h2 i j (by omega) (by omega)
  · by_cases hkn : k = n
    · subst hkn; rw [va_up_self]; exact hgq
    · rw [va_up_ne _ _ hkn]; exact h4 k (by omega)
theorem Rg.zero {f : Wd} : Rg 0 (fun _ => 0) (fun _ => .inr (0, [])) f f := ⟨fun k hk => absurd hk (Nat.not_lt_zero _), fun i j hi => absurd hi (Nat.not_lt_zero _), gle.rf, fun k hk => absurd hk (Nat.not_lt_zero _)⟩
