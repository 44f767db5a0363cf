/-! a question is one -/
theorem isQ_iff {so di : Int32} : isQ so di ↔ (¬ (so < 0 ∨ 3 ≤ so) ∧ ¬ (di < 0 ∨ 4 ≤ di) ∧ ¬ (so = 0 ∧ 0 < di) ∧ ¬ (so = 2 ∧ di = 0)) := by
  have t0 : (0 : Int32).toInt = 0 := by decide
  have t1 : (1 : Int32).toInt = 1 := by decide
  have t2 : (2 : Int32).toInt = 2 := by decide
  have t3 : (3 : Int32).toInt = 3 := by decide
  have t4 : (4 : Int32).toInt = 4 := by decide
  unfold isQ
  rw [Int32.lt_iff_toInt_lt, Int32.lt_iff_toInt_lt, Int32.lt_iff_toInt_lt, Int32.le_iff_toInt_le, Int32.le_iff_toInt_le, Int32.le_iff_toInt_le, Int32.le_iff_toInt_le, ← Int32.toInt_inj, ← Int32.toInt_inj, ← Int32.toInt_inj, ← Int32.toInt_inj, t0, t1, t2, t3, t4]
  omega
