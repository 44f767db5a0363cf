/-! THE CLASS'S STATE over registers: 0, 1 PATTERN and its row; 2 the question; 3, 4 NAME; 5, 6 MODULE; 7 the reader; 8 the filters. The object itself never changes. -/
/-- a value's numbers are in range, and the filter is as high as they say -/
def RH (G : GG) (g : Wd) (a : Nat) (v : FV) : Prop := ∃ l h : Nat, v.2.1 = nI l ∧ v.2.2.1 = nI h ∧ 1 ≤ l ∧ l ≤ 24 ∧ 1 ≤ h ∧ h ≤ 8 ∧ RF G g h a v
theorem RH.mono {G : GG} {g g' : Wd} {a : Nat} {v : FV} (h : RH G g a v) (hg : gle g g') : RH G g' a v := by
  obtain ⟨l, h, h1, h2, h3, h4, h5, h6, h7⟩ := h
  exact ⟨l, h, h1, h2, h3, h4, h5, h6, RF.mono hg _ _ _ h7⟩
/-- the filters' places -/
def FL (G : GG) (g : Wd) (fa : Nat → Option Nat) (fl : Nat → Option FV) : Prop := ∀ k, k < 10 → (fa k = none ∧ fl k = none) ∨ ∃ (a : Nat) (v : FV), fa k = some a ∧ fl k = some v ∧ RH G g a v
theorem FL.mono {G : GG} {g g' : Wd} {fa : Nat → Option Nat} {fl : Nat → Option FV} (h : FL G g fa fl) (hg : gle g g') : FL G g' fa fl := fun k hk => (h k hk).elim Or.inl (fun z => Or.inr (by
  obtain ⟨a, v, h1, h2, h3⟩ := z
  exact ⟨a, v, h1, h2, h3.mono hg⟩))
/-- n signs t of a buffer: registers k (its object) and k + 1 (its row) -/
def BF (G : GG) (ad : Nat → Nat) (E : Nat → va_E) (k cap n : Nat) (t : Nat → Int32) : Prop := E k = .inr (CI_Signs, [.ref (ad (k + 1)), .int (nI n)]) ∧ E (k + 1) = .inl (G.2.1 1, cap, .inl t) ∧ n ≤ cap ∧ ∀ j, j < n → vp_nar .char (t j) = t j
theorem BF.sg {G : GG} {N : Nat} {ad : Nat → Nat} {E : Nat → va_E} {g f : Wd} {k cap n : Nat} {t : Nat → Int32} (h : BF G ad E k cap n t) (hR : Rg N ad E g f) (hk : k + 1 < N) (hc : cap ≤ 90) : sg G f (ad k) (ad (k + 1)) cap n t := ⟨hR.get k (by omega) h.1, hR.get (k + 1) hk h.2.1, h.2.2.1, hc, h.2.2.2⟩
/-- the question's register -/
def QR (ad : Nat → Nat) (E : Nat → va_E) (dp rf by_ co tx lx : Int32) : Prop := ∃ so di le : Int32, E 2 = .inr (CI_Question, [.ref (ad 3), .ref (ad 5), .int dp, .int rf, .int by_, .int so, .int di, .int le, .int co, .int tx, .int lx])
/-- the reader's register -/
def RR (ad : Nat → Nat) (E : Nat → va_E) : Prop := ∃ fr en pi li nu rj sh mf me nf ne : Int32, E 7 = .inr (CI_PieceReader, [.ref (ad 0), .int fr, .int en, .int pi, .int li, .int nu, .int rj, .int sh, .int mf, .int me, .int nf, .int ne])
def SC (G : GG) (ad : Nat → Nat) (E : Nat → va_E) (g : Wd) (root pn : Nat) (pt : Nat → Int32) (nn : Nat) (nt : Nat → Int32) (mn : Nat) (mt : Nat → Int32) (dp rf by_ co tx lx : Int32) (fl : Nat → Option FV) : Prop :=
  g root = some (.inr (CI_SF, [.ref (ad 0), .ref (ad 2), .ref (ad 7), .ref (ad 8)])) ∧ BF G ad E 0 90 pn pt ∧ BF G ad E 3 40 nn nt ∧ BF G ad E 5 12 mn mt ∧ QR ad E dp rf by_ co tx lx ∧ RR ad E ∧ ∃ fa : Nat → Option Nat, E 8 = .inl (G.2.1 2, 10, .inr (.inr (.inr (.inr fa)))) ∧ FL G g fa fl
theorem BF.of {G : GG} {ad : Nat → Nat} {E E' : Nat → va_E} {k cap n : Nat} {t : Nat → Int32} (h : BF G ad E k cap n t) (h1 : E' k = E k) (h2 : E' (k + 1) = E (k + 1)) : BF G ad E' k cap n t := ⟨h1.trans h.1, h2.trans h.2.1, h.2.2⟩
section SCU
variable {G : GG} {ad : Nat → Nat} {E : Nat → va_E} {g : Wd} {root pn nn mn : Nat} {pt nt mt : Nat → Int32} {dp rf by_ co tx lx : Int32} {fl : Nat → Option FV}
/-- the question's register changes -/
theorem SC.q (h : SC G ad E g root pn pt nn nt mn mt dp rf by_ co tx lx fl) (dp2 rf2 by2 so2 di2 le2 co2 tx2 lx2 : Int32) : SC G ad (va_up E 2 (.inr (CI_Question, [.ref (ad 3), .ref (ad 5), .int dp2, .int rf2, .int by2, .int so2, .int di2, .int le2, .int co2, .int tx2, .int lx2]))) g root pn pt nn nt mn mt dp2 rf2 by2 co2 tx2 lx2 fl := by
  obtain ⟨h1, h2, h3, h4, -, ⟨fr, en, pi, li, nu, rj, sh, mf, me, nf, ne, h6⟩, fa, h7, h8⟩ := h
  exact ⟨h1, h2.of rfl rfl, h3.of rfl rfl, h4.of rfl rfl, ⟨so2, di2, le2, rfl⟩, ⟨fr, en, pi, li, nu, rj, sh, mf, me, nf, ne, h6⟩, fa, h7, h8⟩
/-- the reader's register changes -/
theorem SC.r (h : SC G ad E g root pn pt nn nt mn mt dp rf by_ co tx lx fl) (fr en pi li nu rj sh mf me nf ne : Int32) : SC G ad (va_up E 7 (.inr (CI_PieceReader, [.ref (ad 0), .int fr, .int en, .int pi, .int li, .int nu, .int rj, .int sh, .int mf, .int me, .int nf, .int ne]))) g root pn pt nn nt mn mt dp rf by_ co tx lx fl := by
  obtain ⟨h1, h2, h3, h4, ⟨so, di, le, h5⟩, -, fa, h7, h8⟩ := h
  exact ⟨h1, h2.of rfl rfl, h3.of rfl rfl, h4.of rfl rfl, ⟨so, di, le, h5⟩, ⟨fr, en, pi, li, nu, rj, sh, mf, me, nf, ne, rfl⟩, fa, h7, h8⟩
/-- a buffer's two registers change -/
theorem SC.p (h : SC G ad E g root pn pt nn nt mn mt dp rf by_ co tx lx fl) {E' : Nat → va_E} (n2 : Nat) (t2 : Nat → Int32) (hb : BF G ad E' 0 90 n2 t2) (he : ∀ k, k ≠ 0 → k ≠ 1 → E' k = E k) : SC G ad E' g root n2 t2 nn nt mn mt dp rf by_ co tx lx fl := by
  obtain ⟨h1, h2, h3, h4, ⟨so, di, le, h5⟩, ⟨fr, en, pi, li, nu, rj, sh, mf, me, nf, ne, h6⟩, fa, h7, h8⟩ := h
  exact ⟨h1, hb, h3.of (he 3 (by decide) (by decide)) (he 4 (by decide) (by decide)), h4.of (he 5 (by decide) (by decide)) (he 6 (by decide) (by decide)), ⟨so, di, le, (he 2 (by decide) (by decide)).trans h5⟩, ⟨fr, en, pi, li, nu, rj, sh, mf, me, nf, ne, (he 7 (by decide) (by decide)).trans h6⟩, fa, (he 8 (by decide) (by decide)).trans h7, h8⟩
theorem SC.n (h : SC G ad E g root pn pt nn nt mn mt dp rf by_ co tx lx fl) {E' : Nat → va_E} (n2 : Nat) (t2 : Nat → Int32) (hb : BF G ad E' 3 40 n2 t2) (he : ∀ k, k ≠ 3 → k ≠ 4 → E' k = E k) : SC G ad E' g root pn pt n2 t2 mn mt dp rf by_ co tx lx fl := by
  obtain ⟨h1, h2, h3, h4, ⟨so, di, le, h5⟩, ⟨fr, en, pi, li, nu, rj, sh, mf, me, nf, ne, h6⟩, fa, h7, h8⟩ := h
  exact ⟨h1, h2.of (he 0 (by decide) (by decide)) (he 1 (by decide) (by decide)), hb, h4.of (he 5 (by decide) (by decide)) (he 6 (by decide) (by decide)), ⟨so, di, le, (he 2 (by decide) (by decide)).trans h5⟩, ⟨fr, en, pi, li, nu, rj, sh, mf, me, nf, ne, (he 7 (by decide) (by decide)).trans h6⟩, fa, (he 8 (by decide) (by decide)).trans h7, h8⟩
theorem SC.m (h : SC G ad E g root pn pt nn nt mn mt dp rf by_ co tx lx fl) {E' : Nat → va_E} (n2 : Nat) (t2 : Nat → Int32) (hb : BF G ad E' 5 12 n2 t2) (he : ∀ k, k ≠ 5 → k ≠ 6 → E' k = E k) : SC G ad E' g root pn pt nn nt n2 t2 dp rf by_ co tx lx fl := by
  obtain ⟨h1, h2, h3, h4, ⟨so, di, le, h5⟩, ⟨fr, en, pi, li, nu, rj, sh, mf, me, nf, ne, h6⟩, fa, h7, h8⟩ := h
  exact ⟨h1, h2.of (he 0 (by decide) (by decide)) (he 1 (by decide) (by decide)), h3.of (he 3 (by decide) (by decide)) (he 4 (by decide) (by decide)), hb, ⟨so, di, le, (he 2 (by decide) (by decide)).trans h5⟩, ⟨fr, en, pi, li, nu, rj, sh, mf, me, nf, ne, (he 7 (by decide) (by decide)).trans h6⟩, fa, (he 8 (by decide) (by decide)).trans h7, h8⟩
/-- the filters' register changes, and what stays has grown -/
theorem SC.f (h : SC G ad E g root pn pt nn nt mn mt dp rf by_ co tx lx fl) {g' : Wd} (hg : gle g g') (fa : Nat → Option Nat) (fl2 : Nat → Option FV) (hf : FL G g' fa fl2) : SC G ad (va_up E 8 (.inl (G.2.1 2, 10, .inr (.inr (.inr (.inr fa)))))) g' root pn pt nn nt mn mt dp rf by_ co tx lx fl2 := by
  obtain ⟨h1, h2, h3, h4, ⟨so, di, le, h5⟩, ⟨fr, en, pi, li, nu, rj, sh, mf, me, nf, ne, h6⟩, -, -, -⟩ := h
  exact ⟨hg _ _ h1, h2.of rfl rfl, h3.of rfl rfl, h4.of rfl rfl, ⟨so, di, le, h5⟩, ⟨fr, en, pi, li, nu, rj, sh, mf, me, nf, ne, h6⟩, fa, rfl, hf⟩
theorem SC.gr (h : SC G ad E g root pn pt nn nt mn mt dp rf by_ co tx lx fl) {g' : Wd} (hg : gle g g') : SC G ad E g' root pn pt nn nt mn mt dp rf by_ co tx lx fl := by
  obtain ⟨h1, h2, h3, h4, h5, h6, fa, h7, h8⟩ := h
  exact ⟨hg _ _ h1, h2, h3, h4, h5, h6, fa, h7, h8.mono hg⟩
/-- behind a call: the registers from 9 on are as they were, the class's state is the one told -/
def SCR (G : GG) (N : Nat) (ad : Nat → Nat) (E : Nat → va_E) (g : Wd) (root : Nat) (f' : Wd) (pn : Nat) (pt : Nat → Int32) (nn : Nat) (nt : Nat → Int32) (mn : Nat) (mt : Nat → Int32) (dp rf by_ co tx lx : Int32) (fl : Nat → Option FV) : Prop :=
  ∃ (E' : Nat → va_E) (g' : Wd), Rg N ad E' g' f' ∧ gle g g' ∧ (∀ k, 9 ≤ k → E' k = E k) ∧ SC G ad E' g' root pn pt nn nt mn mt dp rf by_ co tx lx fl
end SCU
