/-! TYPING in the reference -/
theorem upd_uu {f : Nat → Int32} {k : Nat} {x y : Int32} : upd (upd f k x) k y = upd f k y := by
  funext j
  by_cases h : j = k
  · rw [h, upd_self', upd_self']
  · rw [upd_ne' _ _ _ h, upd_ne' _ _ _ h, upd_ne' _ _ _ h]
theorem va_uu {α : Type} {f : Nat → α} {k : Nat} {x y : α} : va_up (va_up f k x) k y = va_up f k y := by
  funext j
  by_cases h : j = k
  · rw [h, va_up_self, va_up_self]
  · rw [va_up_ne _ _ h, va_up_ne _ _ h, va_up_ne _ _ h]
theorem ssh_mod (x : BitVec 64) {n : Nat} (h : n ≤ 56) : (x.sshiftRight n).toNat % 256 = x.toNat / 2 ^ n % 256 := by
  have e : (x.sshiftRight n).setWidth 8 = (x >>> n).setWidth 8 := by
    apply BitVec.eq_of_getLsbD_eq
    intro i hi
    rw [BitVec.getLsbD_setWidth, BitVec.getLsbD_setWidth, BitVec.getLsbD_sshiftRight, BitVec.getLsbD_ushiftRight]
    simp only [show n + i < 64 by omega, if_true, show ¬ 64 ≤ i by omega, decide_false, Bool.not_false, Bool.true_and]
  have e2 := congrArg BitVec.toNat e
  rw [BitVec.toNat_setWidth, BitVec.toNat_setWidth, BitVec.toNat_ushiftRight, Nat.shiftRight_eq_div_pow] at e2
  exact e2
theorem byt_s (s : Int64) {k : Nat} (hk : k < 8) : (s >>> ((nI (8 * k)).toInt64 &&& 63)).toInt32 &&& 255 = nI (byt s k) := by
  rw [l2i_and]
  have hz : (((nI (8 * k)).toInt64 &&& 63).toBitVec.smod 64).toNat = 8 * k := by
    rcases (show k = 0 ∨ k = 1 ∨ k = 2 ∨ k = 3 ∨ k = 4 ∨ k = 5 ∨ k = 6 ∨ k = 7 by omega) with rfl | rfl | rfl | rfl | rfl | rfl | rfl | rfl <;> decide
  have e : uN (s >>> ((nI (8 * k)).toInt64 &&& 63)) = (s.toBitVec.sshiftRight (8 * k)).toNat := by
    show (s >>> ((nI (8 * k)).toInt64 &&& 63)).toBitVec.toNat = _
    rw [Int64.toBitVec_shiftRight]
    show (s.toBitVec.sshiftRight (((nI (8 * k)).toInt64 &&& 63).toBitVec.smod 64).toNat).toNat = _
    rw [hz]
  rw [e, ssh_mod _ (by omega)]
  rfl
def bz (s : Int64) (k : Nat) : Nat := if byt s k = 0 then 0 else 1
def cnU (s : Int64) : Nat → Nat
  | 0 => 0
  | k + 1 => cnU s k + bz s k
theorem cnU8 (s : Int64) : cnU s 8 = cnT s 8 := by
  show 0 + bz s 0 + bz s 1 + bz s 2 + bz s 3 + bz s 4 + bz s 5 + bz s 6 + bz s 7 = 0 + bz s 7 + bz s 6 + bz s 5 + bz s 4 + bz s 3 + bz s 2 + bz s 1 + bz s 0
  omega
theorem cnU_le (s : Int64) : ∀ k, cnU s k ≤ k := by
  intro k
  induction k with
  | zero => exact Nat.le_refl _
  | succ k ih =>
    show cnU s k + bz s k ≤ k + 1
    have : bz s k ≤ 1 := by
      unfold bz
      by_cases h : byt s k = 0
      · rw [if_pos h]; omega
      · rw [if_neg h]; omega
    omega
theorem bz_0 {s : Int64} {k : Nat} (h : byt s k = 0) : cnU s (k + 1) = cnU s k + 0 := by
  show cnU s k + bz s k = _
  unfold bz
  rw [if_pos h]
theorem bz_1 {s : Int64} {k : Nat} (h : ¬ byt s k = 0) : cnU s (k + 1) = cnU s k + 1 := by
  show cnU s k + bz s k = _
  unfold bz
  rw [if_neg h]
def kv (m : Nat) : Int32 := ([7, 6, 5, 4, 3, 2, 1, 0, -1] : List Int32).getD m 0
theorem kv_n : ∀ m, m < 8 → kv m + (-1) = kv (m + 1) := by decide
theorem kv_e : ∀ m, m < 8 → kv m = nI (7 - m) := by decide
theorem kv_p : ∀ m, m < 8 → ¬ kv m < 0 := by decide
theorem apT_old {S : Nat → Int32} {L : Nat} {s : Int64} : ∀ m j, j < L → apT S L s m j = S j := by
  intro m
  induction m with
  | zero => intro j _; rfl
  | succ m ih =>
    intro j hj
    by_cases h : byt s (7 - m) = 0
    · rw [apT_z h]; exact ih j hj
    · rw [apT_n h, upd_ne' _ _ _ (by omega)]; exact ih j hj
theorem agr_ap {S t : Nat → Int32} {b n : Nat} {s : Int64} (h : agr S b t n) : ∀ m, agr (apT S (b + n) s m) b (apT t n s m) (n + cnT s m) := by
  intro m
  induction m with
  | zero => exact h
  | succ m ih =>
    by_cases z : byt s (7 - m) = 0
    · rw [apT_z z, apT_z z, cnT_z z]; exact ih
    · rw [apT_n z, apT_n z, cnT_n z]
      intro j hj
      by_cases e : j = n + cnT s m
      · rw [e, show b + (n + cnT s m) = b + n + cnT s m by omega, upd_self', upd_self']
      · rw [upd_ne' _ _ _ e, upd_ne' _ _ _ (by omega)]; exact ih j (by omega)
theorem sgs_ap {S : Nat → Int32} {L : Nat} {s : Int64} (h : sgs S L) (hok : ∀ k, k < 8 → okb (byt s k)) : ∀ m, m ≤ 8 → sgs (apT S L s m) (L + cnT s m) := by
  intro m
  induction m with
  | zero => intro _; exact h
  | succ m ih =>
    intro hm
    by_cases z : byt s (7 - m) = 0
    · rw [apT_z z, cnT_z z]; exact ih (by omega)
    · rw [apT_n z, cnT_n z]
      intro j hj
      by_cases e : j = L + cnT s m
      · rw [e, upd_self']
        have := (hok (7 - m) (by omega)).resolve_left z
        exact ⟨_, this.1, this.2, rfl⟩
      · rw [upd_ne' _ _ _ e]; exact ih (by omega) j (by omega)
section MST
variable {c b md : Nat} {sc : Nat → Int32} {av : Nat → Nat → Int32} {pn nn mn : Nat} {pt nt mt : Nat → Int32} {dp rf by_ co tx lx : Int32} {fl : Nat → Option FV} {s : Int64}
theorem MSb.t0 (h : MSb c b md sc av pn pt nn nt mn mt dp rf by_ co tx lx fl) (hok : ∀ k, k < 8 → okb (byt s k)) (hcap : pn + cnT s 8 ≤ 90) : MSb (c + 1) b md (upd sc 0 (nI (b + pn + cnT s 8))) (va_up av 0 (apT (av 0) (b + pn) s 8)) (pn + cnT s 8) (apT pt pn s 8) nn nt mn mt dp rf by_ co tx lx fl := by
  obtain ⟨⟨h0, h1, h2, h3, h4⟩, h5, h8, ⟨hA, hnt, hmt, hS⟩, ⟨hbc, hmd, hpn, hnn, hmn⟩, hSL⟩ := h
  have hc := cnT_le s 8
  refine ⟨⟨by rw [← Nat.add_assoc]; rfl, h1, h2, h3, h4⟩, h5, h8, ⟨agr_ap hA 8, hnt, hmt, by rw [← Nat.add_assoc]; exact sgs_ap hS hok 8 (Nat.le_refl _)⟩, ⟨by omega, by omega, hcap, hnn, hmn⟩, SL.mono (fun j hj => apT_old 8 j hj) (fun r h1 h2 j _ => by rw [va_up_ne _ _ (by omega)]) (by omega) (Nat.le_refl _) rfl hSL⟩
theorem MSb.t1 (h : MSb c b md sc av pn pt nn nt mn mt dp rf by_ co tx lx fl) (hcap : nn + cnT s 8 ≤ 40) : MSb (c + 1) b md (upd sc 2 (nI (nn + cnT s 8))) (va_up av 1 (apT (av 1) nn s 8)) pn pt (nn + cnT s 8) (apT nt nn s 8) mn mt dp rf by_ co tx lx fl := by
  obtain ⟨⟨h0, h1, h2, h3, h4⟩, h5, h8, ⟨hA, hnt, hmt, hS⟩, ⟨hbc, hmd, hpn, hnn, hmn⟩, hSL⟩ := h
  refine ⟨⟨h0, h1, rfl, h3, h4⟩, h5, h8, ⟨hA, by rw [va_up_self, hnt], hmt, hS⟩, ⟨by omega, by omega, hpn, hcap, hmn⟩, SL.mono (av := av) (fun j hj => rfl) (fun r h1 h2 j _ => by rw [va_up_ne _ _ (by omega)]) (Nat.le_refl _) (Nat.le_refl _) rfl hSL⟩
theorem MSb.t2 (h : MSb c b md sc av pn pt nn nt mn mt dp rf by_ co tx lx fl) (hcap : mn + cnT s 8 ≤ 12) : MSb (c + 1) b md (upd sc 3 (nI (mn + cnT s 8))) (va_up av 2 (apT (av 2) mn s 8)) pn pt nn nt (mn + cnT s 8) (apT mt mn s 8) dp rf by_ co tx lx fl := by
  obtain ⟨⟨h0, h1, h2, h3, h4⟩, h5, h8, ⟨hA, hnt, hmt, hS⟩, ⟨hbc, hmd, hpn, hnn, hmn⟩, hSL⟩ := h
  refine ⟨⟨h0, h1, h2, rfl, h4⟩, h5, h8, ⟨hA, hnt, by rw [va_up_self, hmt], hS⟩, ⟨by omega, by omega, hpn, hnn, hcap⟩, SL.mono (av := av) (fun j hj => rfl) (fun r h1 h2 j _ => by rw [va_up_ne _ _ (by omega)]) (Nat.le_refl _) (Nat.le_refl _) rfl hSL⟩
end MST
