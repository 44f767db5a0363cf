/-! BYTES of a long -/
def uN (x : Int64) : Nat := x.toUInt64.toNat
theorem uN_shr (x : Int64) (s : UInt64) : uN (x.toUInt64 >>> s).toInt64 = uN x / 2 ^ (s.toNat % 64) := by
  show (x.toUInt64 >>> s).toNat = _
  rw [UInt64.toNat_shiftRight, Nat.shiftRight_eq_div_pow]
  rfl
theorem uN_sk (x : Int64) {k : Nat} (hk : k < 64) : uN (x.toUInt64 >>> ((nI k).toInt64.toUInt64 &&& Int64.toUInt64 63)).toInt64 = uN x / 2 ^ k := by
  have h : ((nI k).toInt64.toUInt64 &&& Int64.toUInt64 63).toNat % 64 = k := by
    rw [nI_l (by omega), UInt64.toNat_and]
    have e : (lN k).toUInt64.toNat = k % 2 ^ 64 := rfl
    have e2 : (Int64.toUInt64 63).toNat = 2 ^ 6 - 1 := by decide
    rw [e, e2, Nat.and_two_pow_sub_one_eq_mod]
    omega
  rw [uN_shr, h]
/-- byte k of a long, 0 the lowest -/
def byt (s : Int64) (k : Nat) : Nat := uN s / 2 ^ (8 * k) % 256
theorem byt_lt (s : Int64) (k : Nat) : byt s k < 256 := Nat.mod_lt _ (by decide)
theorem l2i_and (y : Int64) : y.toInt32 &&& 255 = nI (uN y % 256) := by
  rw [pk_and y.toInt32 (m := 255) 8 (by decide)]
  congr 1
  have h : y.toInt32.toBitVec = y.toBitVec.setWidth 32 := by
    rw [Int64.toBitVec_toInt32]
    exact BitVec.signExtend_eq_setWidth_of_le _ (by decide)
  rw [h, BitVec.toNat_setWidth]
  show y.toBitVec.toNat % 2 ^ 32 % 2 ^ 8 = y.toBitVec.toNat % 256
  omega
theorem byt_u (s : Int64) {k : Nat} (hk : k < 8) : ((s.toUInt64 >>> ((nI (8 * k)).toInt64.toUInt64 &&& Int64.toUInt64 63)).toInt64).toInt32 &&& 255 = nI (byt s k) := by
  rw [l2i_and, uN_sk s (by omega)]
  rfl
/-- a byte that is no sign, or one that is -/
def okb (b : Nat) : Prop := b = 0 ∨ (33 ≤ b ∧ b ≤ 126)
/-- how many of the m highest bytes are signs -/
def cnT (s : Int64) : Nat → Nat
  | 0 => 0
  | m + 1 => cnT s m + (if byt s (7 - m) = 0 then 0 else 1)
theorem cnT_le (s : Int64) : ∀ m, cnT s m ≤ m := by
  intro m
  induction m with
  | zero => exact Nat.le_refl _
  | succ m ih =>
    show cnT s m + (if byt s (7 - m) = 0 then 0 else 1) ≤ m + 1
    by_cases h : byt s (7 - m) = 0
    · rw [if_pos h]; omega
    · rw [if_neg h]; omega
/-- the shifts 56, 48 .. 0, -8 -/
def shv (m : Nat) : Int32 := ([56, 48, 40, 32, 24, 16, 8, 0, -8] : List Int32).getD m 0
theorem shv_n : ∀ m, m < 8 → shv m + (-8) = shv (m + 1) := by decide
theorem shv_e : ∀ m, m < 8 → shv m = nI (8 * (7 - m)) := by decide
theorem shv_p : ∀ m, m < 8 → ¬ shv m < 0 := by decide
