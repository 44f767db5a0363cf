/-! TYPING, purely: what a buffer's signs are after the m highest bytes -/
noncomputable def apT (t : Nat → Int32) (n : Nat) (s : Int64) : Nat → Nat → Int32
  | 0 => t
  | m + 1 => pif (byt s (7 - m) = 0) (apT t n s m) (upd (apT t n s m) (n + cnT s m) (nI (byt s (7 - m))))
theorem apT_z {t : Nat → Int32} {n : Nat} {s : Int64} {m : Nat} (h : byt s (7 - m) = 0) : apT t n s (m + 1) = apT t n s m := pif_t h
theorem apT_n {t : Nat → Int32} {n : Nat} {s : Int64} {m : Nat} (h : ¬ byt s (7 - m) = 0) : apT t n s (m + 1) = upd (apT t n s m) (n + cnT s m) (nI (byt s (7 - m))) := pif_f h
theorem cnT_z {s : Int64} {m : Nat} (h : byt s (7 - m) = 0) : cnT s (m + 1) = cnT s m := by
  show cnT s m + (if byt s (7 - m) = 0 then 0 else 1) = _
  rw [if_pos h]; rfl
theorem cnT_n {s : Int64} {m : Nat} (h : ¬ byt s (7 - m) = 0) : cnT s (m + 1) = cnT s m + 1 := by
  show cnT s m + (if byt s (7 - m) = 0 then 0 else 1) = _
  rw [if_neg h]
theorem cnT_mono (s : Int64) (a : Nat) : ∀ k, cnT s a ≤ cnT s (a + k) := by
  intro k
  induction k with
  | zero => exact Nat.le_refl _
  | succ k ih =>
    refine Nat.le_trans ih ?_
    show cnT s (a + k) ≤ cnT s (a + k) + _
    omega
theorem i2c_b : ∀ b, b < 256 → vp_nar .char ((nI b).toUInt32 % 65536).toInt32 = nI b := by decide +kernel
theorem nar_b : ∀ b, b < 256 → vp_nar .char (nI b) = nI b := by decide +kernel
theorem upd_self' (t : Nat → Int32) (k : Nat) (x : Int32) : upd t k x k = x := by simp [upd]
theorem upd_ne' (t : Nat → Int32) (k : Nat) (x : Int32) {j : Nat} (h : j ≠ k) : upd t k x j = t j := by simp [upd, h]
theorem BF.app {G : GG} {N : Nat} {ad : Nat → Nat} {E : Nat → va_E} {k cap n : Nat} {t : Nat → Int32} (h : BF G ad E k cap n t) (hn : n < cap) (x : Int32) (hx : vp_nar .char x = x) : BF G ad (va_up (va_up E (k + 1) (.inl (G.2.1 1, cap, .inl (upd t n x)))) k (.inr (CI_Signs, [.ref (ad (k + 1)), .int (nI (n + 1))]))) k cap (n + 1) (upd t n x) := by
  refine ⟨va_up_self _ _ _, ?_, hn, fun j hj => ?_⟩
  · rw [va_up_ne _ _ (by omega), va_up_self]
  · by_cases hjn : j = n
    · rw [hjn, upd_self']; exact hx
    · rw [upd_ne' _ _ _ hjn]; exact h.2.2.2 j (by omega)
