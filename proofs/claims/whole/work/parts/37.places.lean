/-! PLACES of filters -/
/-- no filter is at the place x (or x is no place) -/
def noF (fl : Nat → Option FV) (x : Int32) : Prop := ∀ k, k < 10 → x = nI k → fl k = none
theorem plc {k : Nat} (h : k < 10) : ¬ nI k < 0 ∧ ¬ 10 ≤ nI k := ⟨nI_pos (by omega), nI_ge (b := 10) h (by decide)⟩
theorem noF_out {fl : Nat → Option FV} {x : Int32} (h : ¬ (¬ x < 0 ∧ ¬ 10 ≤ x)) : noF fl x := fun k hk hx => absurd (by rw [hx]; exact plc hk) h
theorem noF_in {fl : Nat → Option FV} {x : Int32} {k : Nat} (hk : k < 10) (hx : x = nI k) (h : fl k = none) : noF fl x := fun k2 h2 hx2 => by
  have e : k = k2 := (nI_eq (by omega) (by omega)).mp (hx.symm.trans hx2)
  rw [← e]; exact h
theorem FL.put {G : GG} {g : Wd} {fa : Nat → Option Nat} {fl : Nat → Option FV} {k a : Nat} {v : FV} (h : FL G g fa fl) (hr : RH G g a v) : FL G g (va_up fa k (some a)) (va_up fl k (some v)) := fun j hj => by
  by_cases e : j = k
  · subst e; rw [va_up_self, va_up_self]; exact Or.inr ⟨a, v, rfl, rfl, hr⟩
  · rw [va_up_ne _ _ e, va_up_ne _ _ e]; exact h j hj
theorem FL.del {G : GG} {g : Wd} {fa : Nat → Option Nat} {fl : Nat → Option FV} {k : Nat} (h : FL G g fa fl) : FL G g (va_up fa k none) (va_up fl k none) := fun j hj => by
  by_cases e : j = k
  · subst e; rw [va_up_self, va_up_self]; exact Or.inl ⟨rfl, rfl⟩
  · rw [va_up_ne _ _ e, va_up_ne _ _ e]; exact h j hj
theorem RF.head {G : GG} {g : Wd} {d a : Nat} {v : FV} (h : RF G g d a v) : ∃ (ci : Nat) (r : List Value), FC ci ∧ g a = some (.inr (ci, .int v.1 :: .int v.2.1 :: .int v.2.2.1 :: r)) := by
  cases d with
  | zero => exact h.elim
  | succ d =>
    rcases h with ⟨bs, lm, np, V, Sh, M, ⟨la, pa, pf, h1, -⟩, rfl⟩ | ⟨b, c2, vb, vc, h1, h2, h3, rfl⟩ | ⟨b, vb, al, h1, h2, h3, rfl⟩ | ⟨b, vb, gv, h1, h2, rfl⟩ | ⟨b, sa, sr, scap, bn, bt, vb, h1, h2, h3, rfl⟩
    · exact ⟨_, _, Or.inl rfl, h1⟩
    · exact ⟨_, _, Or.inr (Or.inl rfl), h1⟩
    · exact ⟨_, _, Or.inr (Or.inr (Or.inl rfl)), h1⟩
    · exact ⟨_, _, Or.inr (Or.inr (Or.inr (Or.inl rfl))), h1⟩
    · exact ⟨_, _, Or.inr (Or.inr (Or.inr (Or.inr rfl))), h1⟩
