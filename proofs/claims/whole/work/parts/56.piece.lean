/-! A PIECE as the reference reads it -/
noncomputable def qtm (t : Nat → Int32) (b e : Nat) : Nat := pif (s2 t b e) (e - 2) (pif (s1 t b e) (e - 2) (pif (s3 t b e) (e - 1) e))
def pcd (S : Nat → Int32) (a e : Nat) (sc' : Nat → Int32) : Prop := sc' 14 = nI e ∧ (pkd S a e = 1 → sc' 15 = lmV S a (eqc S a e) ∧ sc' 16 = nmb S (eqc S a e + 1) (e - (eqc S a e + 1))) ∧ (pkd S a e = 2 → sc' 17 = bI (S a = 33) ∧ sc' 18 = nI (m0c S a) ∧ sc' 19 = nI (m1c S a e) ∧ sc' 20 = nI (q0c S a e) ∧ sc' 21 = nI (qtm S (q0c S a e) e) ∧ sc' 22 = nI (shp S (q0c S a e) e))
section PK
variable {S : Nat → Int32} {a e b : Nat}
theorem pkd0 (h : a = e) : pkd S a e = 0 := by unfold pkd; exact pif_t h
theorem pkd_l (h : ¬ a = e) (h1 : eqc S a e < e) : pkd S a e = pif (lok S a (eqc S a e) e) 1 3 := by unfold pkd; rw [pif_f h, pif_t h1]
theorem pkd2 (h : ¬ a = e) (h1 : ¬ eqc S a e < e) (h2 : okC S a e) : pkd S a e = 2 := by unfold pkd; rw [pif_f h, pif_f h1, pif_t h2]
theorem pkd3 (h : ¬ a = e) (h1 : ¬ eqc S a e < e) (h2 : ¬ okC S a e) : pkd S a e = 3 := by unfold pkd; rw [pif_f h, pif_f h1, pif_f h2]
theorem shp2 (h : s2 S b e) : shp S b e = 2 := pif_t h
theorem shp1 (h : ¬ s2 S b e) (h1 : s1 S b e) : shp S b e = 1 := (pif_f h).trans (pif_t h1)
theorem shp3 (h : ¬ s2 S b e) (h1 : ¬ s1 S b e) (h3 : s3 S b e) : shp S b e = 3 := (pif_f h).trans ((pif_f h1).trans (pif_t h3))
theorem shp0 (h : ¬ s2 S b e) (h1 : ¬ s1 S b e) (h3 : ¬ s3 S b e) : shp S b e = 0 := (pif_f h).trans ((pif_f h1).trans (pif_f h3))
theorem qtm2 (h : s2 S b e) : qtm S b e = e - 2 := pif_t h
theorem qtm1 (h : ¬ s2 S b e) (h1 : s1 S b e) : qtm S b e = e - 2 := (pif_f h).trans (pif_t h1)
theorem qtm3 (h : ¬ s2 S b e) (h1 : ¬ s1 S b e) (h3 : s3 S b e) : qtm S b e = e - 1 := (pif_f h).trans ((pif_f h1).trans (pif_t h3))
theorem qtm0 (h : ¬ s2 S b e) (h1 : ¬ s1 S b e) (h3 : ¬ s3 S b e) : qtm S b e = e := (pif_f h).trans ((pif_f h1).trans (pif_f h3))
end PK
