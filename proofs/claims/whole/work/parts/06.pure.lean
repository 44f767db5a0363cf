/-! PURE ROWS: truth as an int, a sign's place, signs by their numbers -/
noncomputable def bI (P : Prop) : Int32 := @ite Int32 P (Classical.propDecidable P) 1 0
theorem bI_t {P : Prop} (h : P) : bI P = 1 := by unfold bI; exact if_pos h
theorem bI_f {P : Prop} (h : ¬ P) : bI P = 0 := by unfold bI; exact if_neg h
theorem bI_0 {P : Prop} : bI P = 0 ↔ ¬ P := by
  by_cases h : P
  · rw [bI_t h]; exact ⟨fun z => absurd z (by decide), fun z => absurd h z⟩
  · rw [bI_f h]; exact ⟨fun _ => h, fun _ => rfl⟩
theorem bI_n {P : Prop} : ¬ bI P = 0 ↔ P := by rw [bI_0]; exact Classical.not_not
theorem bI_1 {P : Prop} : bI P = 1 ↔ P := by
  by_cases h : P
  · rw [bI_t h]; exact ⟨fun _ => h, fun _ => rfl⟩
  · rw [bI_f h]; exact ⟨fun z => absurd z (by decide), fun z => absurd z h⟩
theorem bI_or (P : Prop) : bI P = 0 ∨ bI P = 1 := by
  by_cases h : P
  · exact Or.inr (bI_t h)
  · exact Or.inl (bI_f h)
theorem bI_nar (P : Prop) : narrow .boolean (.int (bI P)) = .int (bI P) := by
  rcases bI_or P with h | h <;> rw [h] <;> rfl
theorem bI_fit (P : Prop) : fits .boolean (.int (bI P)) = true := by
  rcases bI_or P with h | h <;> rw [h] <;> rfl
theorem bI_c {P Q : Prop} (h : P ↔ Q) : bI P = bI Q := by rw [propext h]
/-- where x first stands from a on, before a + k; else a + k -/
def fnd (t : Nat → Int32) (x : Int32) : Nat → Nat → Nat
  | 0, a => a
  | k + 1, a => if t a = x then a else fnd t x k (a + 1)
theorem fnd_in (t : Nat → Int32) (x : Int32) : ∀ k a : Nat, a ≤ fnd t x k a ∧ fnd t x k a ≤ a + k
  | 0, a => ⟨Nat.le_refl _, Nat.le_refl _⟩
  | k + 1, a => by
    unfold fnd
    by_cases h : t a = x
    · rw [if_pos h]; omega
    · rw [if_neg h]
      have := fnd_in t x k (a + 1)
      omega
theorem fnd_hit (t : Nat → Int32) (x : Int32) : ∀ k a : Nat, fnd t x k a < a + k → t (fnd t x k a) = x
  | 0, a => fun h => absurd h (Nat.lt_irrefl _)
  | k + 1, a => by
    unfold fnd
    by_cases h : t a = x
    · rw [if_pos h]; exact fun _ => h
    · rw [if_neg h]
      intro z
      exact fnd_hit t x k (a + 1) (by omega)
theorem fnd_miss (t : Nat → Int32) (x : Int32) : ∀ k a : Nat, ∀ j, a ≤ j → j < fnd t x k a → ¬ t j = x
  | 0, a => fun j h1 h2 => absurd h2 (Nat.not_lt.mpr h1)
  | k + 1, a => by
    intro j h1 h2
    unfold fnd at h2
    by_cases h : t a = x
    · rw [if_pos h] at h2; omega
    · rw [if_neg h] at h2
      by_cases hj : j = a
      · subst hj; exact h
      · exact fnd_miss t x k (a + 1) j (by omega) h2
/-- the least place with x from a on before b is the same for whoever looks -/
theorem fnd_eq {t : Nat → Int32} {x : Int32} {a b i : Nat} (h1 : a ≤ i) (h2 : i ≤ b) (hm : ∀ j, a ≤ j → j < i → ¬ t j = x) (hh : i < b → t i = x) : fnd t x (b - a) a = i := by
  have hin := fnd_in t x (b - a) a
  rcases Nat.lt_trichotomy (fnd t x (b - a) a) i with h | h | h
  · exact absurd (fnd_hit t x (b - a) a (by omega)) (hm _ hin.1 h)
  · exact h
  · exact absurd (hh (by omega)) (fnd_miss t x (b - a) a i h1 h)
/-- sign i of n signs t, -1 if there is none -/
noncomputable def atv (n : Nat) (t : Nat → Int32) (i : Int32) : Int32 := @ite Int32 (0 ≤ i ∧ i < nI n) (Classical.propDecidable _) (t i.toNatClampNeg) (-1)
theorem atv_in {n : Nat} {t : Nat → Int32} {i : Nat} (h : i < n) (hn : n < 2 ^ 31) : atv n t (nI i) = t i := by
  unfold atv
  rw [if_pos ⟨nI_pos' (by omega), nI_lt h hn⟩, nI_clamp (by omega)]
theorem atv_lo {n : Nat} {t : Nat → Int32} {i : Int32} (h : i < 0) : atv n t i = -1 := by
  unfold atv
  exact if_neg (fun z => absurd z.1 (Int32.not_le.mpr h))
theorem atv_hi {n : Nat} {t : Nat → Int32} {i : Int32} (h : nI n ≤ i) : atv n t i = -1 := by
  unfold atv
  exact if_neg (fun z => absurd z.2 (Int32.not_lt.mpr h))
theorem atv_ok {n : Nat} {t : Nat → Int32} {i : Int32} (h1 : ¬ i < 0) (h2 : ¬ nI n ≤ i) : atv n t i = t i.toNatClampNeg := by
  unfold atv
  exact if_pos ⟨Int32.not_lt.mp h1, Int32.not_le.mp h2⟩
theorem vin {i : Int32} {n cap : Nat} (h1 : ¬ i < 0) (h2 : ¬ nI n ≤ i) (h : n ≤ cap) (hc : cap < 2 ^ 31) : vp_in i cap := by
  rw [vp_in_iff]
  rw [Int32.lt_iff_toInt_lt] at h1
  rw [Int32.le_iff_toInt_le, nI_toInt (by omega)] at h2
  rw [Int32.toInt_zero] at h1
  omega
theorem wd_oa {o : Nat × List Value} {x : ClassId × vp_A} : (Sum.inr o : va_E) ≠ Sum.inl x := fun z => by cases z
theorem wd_ao {o : Nat × List Value} {x : ClassId × vp_A} : (Sum.inl x : va_E) ≠ Sum.inr o := fun z => by cases z
theorem wd_oo {i j : Nat} {u v : List Value} (h : i ≠ j) : (Sum.inr (i, u) : va_E) ≠ Sum.inr (j, v) := fun z => h (congrArg Prod.fst (Sum.inr.inj z))
theorem up_uu {f : Wd} {a : Nat} {x y : Option va_E} : va_up (va_up f a x) a y = va_up f a y := by
  funext j
  by_cases h : j = a <;> simp [va_up, h]
theorem up_sw {f : Wd} {a b : Nat} {x y : Option va_E} (h : a ≠ b) : va_up (va_up f a x) b y = va_up (va_up f b y) a x := by
  funext j
  by_cases h1 : j = a
  · subst h1
    simp [va_up, h]
  · simp [va_up, h1]
theorem nar_nar (x : Int32) : vp_nar .char (vp_nar .char x) = vp_nar .char x := by
  have e : vp_nar .char x = (x.toUInt32 % 65536).toInt32 := by rw [vp_nar_char]; simp
  rw [e]
  exact pk_vc x
section MT
variable {p : Program} {l : Launch} {e : Env} {R : Room} {s : State} {m : MethodId} {args : Array Value} {below : List Frame} {meth : Method} {c : Code} {H : Heap} {locs : List Loc} {cells slots : Nat} {Q : State → Prop} {pc : Nat} {ls : Array Slot} {rest : List Value}
theorem m_top {x y : Int32} (h : x = y) (k : W p l e R s m args below meth c H locs cells slots Q (F0 m pc ls (.int y :: rest))) : W p l e R s m args below meth c H locs cells slots Q (F0 m pc ls (.int x :: rest)) := by
  rw [h]
  exact k
end MT
