/-! THE CLASS'S STATE over registers: 0, 1 PATTERN and its row; 2 the question; 3, 4 NAME; 5, 6 MODULE; 7 the reader; 8 the filters. The object itself never changes. -/
/-- a value's numbers are in range, and the filter is as high as they say -/
def RH (G : GG) (g : Wd) (a : Nat) (v : FV) : Prop := ∃ l h : Nat, v.2.1 = nI l ∧ v.2.2.1 = nI h ∧ 1 ≤ l ∧ l ≤ 24 ∧ 1 ≤ h ∧ h ≤ 8 ∧ RF G g h a v
theorem RH.mono {G : GG} {g g' : Wd} {a : Nat} {v : FV} (h : RH G g a v) (hg : gle g g') : RH G g' a v := by
  obtain ⟨l, h, h1, h2, h3, h4, h5, h6, h7⟩ := h
  exact ⟨l, h, h1, h2, h3, h4, h5, h6, RF.mono hg _ _ _ h7⟩
/-- the filters' places -/
def FL (G : GG) (g : Wd) (fa : Nat → Option Nat) (fl : Nat → Option FV) : Prop := ∀ k, k < 10 → (fa k = none ∧ fl k = none) ∨ ∃ (a : Nat) (v : FV), fa k = some a ∧ fl k = some v ∧ RH G g a v
theorem FL.mono {G : GG} {g g' : Wd} {fa : Nat → Option Nat} {fl : Nat → Option FV} (h : FL G g fa fl) (hg : gle g g') : FL G g' fa fl := fun k hk => (h k hk).elim Or.inl (fun z => Or.inr (by
  obtain ⟨a, v, h1, h2, h3⟩ := z
  exact ⟨a, v, h1, h2, h3.mono hg⟩))
/-- n signs t of a buffer: registers k (its object) and k + 1 (its row) -/
def BF (G : GG) (ad : Nat → Nat) (E : Nat → va_E) (k cap n : Nat) (t : Nat → Int32) : Prop := E k = .inr (CI_Signs, [.ref (ad (k + 1)), .int (nI n)]) ∧ E (k + 1) = .inl (G.2.1 1, cap, .inl t) ∧ n ≤ cap ∧ ∀ j, j < n → vp_nar .char (t j) = t j
theorem BF.sg {G : GG} {N : Nat} {ad : Nat → Nat} {E : Nat → va_E} {g f : Wd} {k cap n : Nat} {t : Nat → Int32} (h : BF G ad E k cap n t) (hR : Rg N ad E g f) (hk : k + 1 < N) (hc : cap ≤ 90) : sg G f (ad k) (ad (k + 1)) cap n t := ⟨hR.get k (by omega) h.1, hR.get (k + 1) hk h.2.1, h.2.2.1, hc, h.2.2.2⟩
/-- the question's register -/
def QR (ad : Nat → Nat) (E : Nat → va_E) (dp rf by_ co tx lx : Int32) : Prop := ∃ so di le : Int32, E 2 = .inr (CI_Question, [.ref (ad 3), .ref (ad 5), .int dp, .int rf, .int by_, .int so, .int di, .int le, .int co, .int tx, .int lx])
/-- the reader's register -/
def RR (ad : Nat → Nat) (E : Nat → va_E) : Prop := ∃ fr en pi li nu rj sh mf me nf ne : Int32, E 7 = .inr (CI_PieceReader, [.ref (ad 0), .int fr, .int en, .int pi, .int li, .int nu, .int rj, .int sh, .int mf, .int me, .int nf, .int ne])
def SC (G : GG) (ad : Nat → Nat) (E : Nat → va_E) (g : Wd) (root pn : Nat) (pt : Nat → Int32) (nn : Nat) (nt : Nat → Int32) (mn : Nat) (mt : Nat → Int32) (dp rf by_ co tx lx : Int32) (fl : Nat → Option FV) : Prop :=
  g root = some (.inr (CI_SF, [.ref (ad 0), .ref (ad 2), .ref (ad 7), .ref (ad 8)])) ∧ BF G ad E 0 90 pn pt ∧ BF G ad E 3 40 nn nt ∧ BF G ad E 5 12 mn mt ∧ QR ad E dp rf by_ co tx lx ∧ RR ad E ∧ ∃ fa : Nat → Option Nat, E 8 = .inl (G.2.1 2, 10, .inr (.inr (.inr (.inr fa)))) ∧ FL G g fa fl
