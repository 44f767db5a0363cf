/-! a text's node -/
theorem NV.text {av : Nat → Nat → Int32} {T md d k : Nat} {v : FV} (h : NV av T md d k v) (h1 : v.1 = 1) : ∃ (b n : Nat) (t lm : Nat → Int32), av 6 k = nI b ∧ av 7 k = nI n ∧ b + n ≤ T ∧ agr (av 0) b t n ∧ (av 8 k = 0 ∨ av 8 k = 1) ∧ (∀ j, j < 4 → lm j = lmU t n (npc t n) j) ∧ v = (1, 1, 1, anT (av 8 k) lm (clsU t n (npc t n)).length (Mt t n) (Vt t n), (clsU t n (npc t n)).length, lm, av 8 k, Vt t n, Sht t n) := by
  cases d with
  | zero => exact h.elim
  | succ d =>
    obtain ⟨hk, h3, h9, h10, h⟩ := h
    rcases h with h | ⟨i, j, vi, vj, a1, a2, a3, a4, rfl⟩ | ⟨i, vi, a1, a2, a3, rfl⟩ | ⟨i, vi, a1, a2, a3, rfl⟩ | ⟨i, b, n, t, vi, a1, a2, a3, a4, a5, a6, rfl⟩
    · exact h
    · exact absurd h1 (by show ¬ (2 : Int32) = 1; decide)
    · exact absurd h1 (by show ¬ (3 : Int32) = 1; decide)
    · exact absurd h1 (by show ¬ (4 : Int32) = 1; decide)
    · exact absurd h1 (by show ¬ (5 : Int32) = 1; decide)
theorem okj {vv vw : FV} {l0 l1 g0 g1 : Nat} (hl : vv.2.1 = nI l0) (hg : vv.2.2.1 = nI g0) (hl1 : vw.2.1 = nI l1) (hg1 : vw.2.2.1 = nI g1) (b1 : l0 ≤ 24) (b2 : l1 ≤ 24) (b3 : g0 ≤ 8) (b4 : g1 ≤ 8) : (l0 + l1 ≤ 24 ∧ 1 + max g0 g1 ≤ 8) ↔ ¬ (¬ vv.2.1 + vw.2.1 ≤ 24 ∨ ¬ mxh vv.2.2.1 vw.2.2.1 < 8) := by
  rw [hl, hl1, hg, hg1, mxh_n b3 b4, nI_add, show (nI (l0 + l1) ≤ 24) = (l0 + l1 ≤ 24) from propext (nI_leI (b := 24) (by omega) (by omega)), show (nI (max g0 g1) < 8) = (max g0 g1 < 8) from propext (nI_ltI (b := 8) (by omega) (by omega))]
  omega
