/-! PICTURES of the class's cells -/
/-- a row of signs at a, its chars at r -/
def sg (G : GG) (f : Wd) (a r cap n : Nat) (t : Nat → Int32) : Prop := f a = some (.inr (CI_Signs, [.ref r, .int (nI n)])) ∧ f r = some (.inl (G.2.1 1, cap, .inl t)) ∧ n ≤ cap ∧ cap ≤ 90 ∧ ∀ j, j < n → vp_nar .char (t j) = t j
theorem sg.mono {G : GG} {g f : Wd} {a r cap n : Nat} {t : Nat → Int32} (h : sg G g a r cap n t) (hg : gle g f) : sg G f a r cap n t := ⟨hg _ _ h.1, hg _ _ h.2.1, h.2.2⟩
/-- a class pattern at a, of the text t -/
def cp (G : GG) (f : Wd) (a ta tr tcap tn : Nat) (t : Nat → Int32) (rj : Int32) (sh m0 m1 n0 n1 : Nat) : Prop := f a = some (.inr (CI_ClassPattern, [.ref ta, .int rj, .int (nI sh), .int (nI m0), .int (nI m1), .int (nI n0), .int (nI n1)])) ∧ sg G f ta tr tcap tn t ∧ m0 ≤ m1 ∧ m1 ≤ tn ∧ n0 ≤ n1 ∧ n1 ≤ tn ∧ sh ≤ 3
theorem cp.mono {G : GG} {g f : Wd} {a ta tr tcap tn : Nat} {t : Nat → Int32} {rj : Int32} {sh m0 m1 n0 n1 : Nat} (h : cp G g a ta tr tcap tn t rj sh m0 m1 n0 n1) (hg : gle g f) : cp G f a ta tr tcap tn t rj sh m0 m1 n0 n1 := ⟨hg _ _ h.1, h.2.1.mono hg, h.2.2⟩
/-- the name begins with the signs n0 .. n1 of t -/
def bgn (nn : Nat) (nt t : Nat → Int32) (n0 n1 : Nat) : Prop := n1 - n0 ≤ nn ∧ ∀ j, j < n1 - n0 → nt j = t (n0 + j)
/-- the name is the signs n0 .. n1 of t -/
def isp (nn : Nat) (nt t : Nat → Int32) (n0 n1 : Nat) : Prop := nn = n1 - n0 ∧ ∀ j, j < nn → nt j = t (n0 + j)
noncomputable def vdc (rj : Int32) : Int32 := if rj = 0 then 1 else 2
theorem vdc_0 {rj : Int32} (h : rj = 0) : vdc rj = 1 := by unfold vdc; exact if_pos h
theorem vdc_n {rj : Int32} (h : ¬ rj = 0) : vdc rj = 2 := by unfold vdc; exact if_neg h
noncomputable def fsh (sh m0 m1 : Nat) : Int32 := if m0 < m1 then 10 + nI sh else nI sh
theorem fsh_y {sh m0 m1 : Nat} (h : m0 < m1) : fsh sh m0 m1 = 10 + nI sh := by unfold fsh; exact if_pos h
theorem fsh_n {sh m0 m1 : Nat} (h : ¬ m0 < m1) : fsh sh m0 m1 = nI sh := by unfold fsh; exact if_neg h
/-- a class pattern matches a name and a module -/
def mat (t : Nat → Int32) (sh m0 m1 n0 n1 : Nat) (nn : Nat) (nt : Nat → Int32) (mn : Nat) (mt : Nat → Int32) : Prop :=
  (m0 < m1 → isp mn mt t m0 m1) ∧ (sh = 0 → isp nn nt t n0 n1) ∧ (sh = 1 → bgn nn nt t n0 n1 ∧ ¬ fnd nt 46 (nn - (n1 - n0)) (n1 - n0) < nn) ∧ (2 ≤ sh → bgn nn nt t n0 n1)
/-- the question at q -/
def qs (G : GG) (f : Wd) (q na nr ncap nn : Nat) (nt : Nat → Int32) (ma mr mcap mn : Nat) (mt : Nat → Int32) (dp rf by_ so di le co ta la : Int32) : Prop := f q = some (.inr (CI_Question, [.ref na, .ref ma, .int dp, .int rf, .int by_, .int so, .int di, .int le, .int co, .int ta, .int la])) ∧ sg G f na nr ncap nn nt ∧ sg G f ma mr mcap mn mt
