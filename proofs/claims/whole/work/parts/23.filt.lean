/-! FILTERS, purely: a question (name, module, DEPTH, REFS, BYTES, SORT, DIMENSIONS, LENGTH), a trace (COMPARED, asked, matched), an answer -/
abbrev Qn : Type := Nat × (Nat → Int32) × Nat × (Nat → Int32) × Int32 × Int32 × Int32 × Int32 × Int32 × Int32
abbrev Tr : Type := Int32 × Int32 × Int32
abbrev An : Type := Qn → Tr → Int32 × Tr
/-- a number is above a limit -/
def abv (v lim : Int32) : Prop := ¬ lim = -2 ∧ lim < v
/-- patterns compared in order, from i on: what is said, how many were compared, which matched -/
noncomputable def cmpP (M : Nat → Prop) (V : Nat → Int32) : Nat → Nat → Int32 → Int32 → Int32 × Int32 × Int32
  | 0, _, co, la => (0, co, la)
  | m + 1, i, co, la => pif (M i) (V i, co + 1, nI i) (cmpP M V m (i + 1) (co + 1) la)
noncomputable def anT (bs : Int32) (lm : Nat → Int32) (np : Nat) (M : Nat → Nat → (Nat → Int32) → Nat → (Nat → Int32) → Prop) (V : Nat → Int32) : An := fun Q tr =>
  match Q with
  | (nn, nt, mn, mt, dp, rf, by_, so, di, le) =>
    pif (abv dp (lm 0) ∨ abv rf (lm 1) ∨ abv by_ (lm 2)) (2, tr.1, tr.2.1 + 1, tr.2.2)
      (pif (so = 0) (0, tr.1, tr.2.1 + 1, tr.2.2)
        (pif (0 < di ∧ abv le (lm 3)) (2, tr.1, tr.2.1 + 1, tr.2.2)
          (pif (0 < di ∧ bs = 0) (0, tr.1, tr.2.1 + 1, tr.2.2)
            (pif (so = 2) (0, tr.1, tr.2.1 + 1, tr.2.2)
              ((cmpP (fun i => M i nn nt mn mt) V np 0 tr.1 tr.2.2).1, (cmpP (fun i => M i nn nt mn mt) V np 0 tr.1 tr.2.2).2.1, tr.2.1 + 1, (cmpP (fun i => M i nn nt mn mt) V np 0 tr.1 tr.2.2).2.2)))))
noncomputable def anJ (a b : An) : An := fun Q tr =>
  pif ((a Q tr).1 = 2) (2, (a Q tr).2) (pif ((b Q (a Q tr).2).1 = 2) (2, (b Q (a Q tr).2).2) (pif ((a Q tr).1 = 1 ∨ (b Q (a Q tr).2).1 = 1) 1 0, (b Q (a Q tr).2).2))
noncomputable def anS (al : Int32) (a : An) : An := fun Q tr =>
  match Q with
  | (_, _, _, _, _, _, _, so, _, _) => (pif ((a Q tr).1 = 0 ∧ (so = 1 ∨ (so = 0 ∧ ¬ al = 0))) 2 (a Q tr).1, (a Q tr).2)
noncomputable def anD (gv : Int32) (a : An) : An := fun Q tr => (pif ((a Q tr).1 = 0) gv (a Q tr).1, (a Q tr).2)
noncomputable def anO (bn : Nat) (bt : Nat → Int32) (a : An) : An := fun Q tr =>
  match Q with
  | (nn, nt, _, _, _, _, _, so, _, _) => pif (so = 1 ∧ bgn nn nt bt 0 bn) (a Q tr) (0, tr)
/-- a text filter at a in the map g: bases, limits, np patterns: what each says, its shape, when it matches -/
def tf (G : GG) (g : Wd) (a : Nat) (bs : Int32) (lm : Nat → Int32) (np : Nat) (V Sh : Nat → Int32) (M : Nat → Nat → (Nat → Int32) → Nat → (Nat → Int32) → Prop) : Prop :=
  ∃ (la pa : Nat) (pf : Nat → Option Nat), g a = some (.inr (CI_TextFilter, [.int 1, .int 1, .int 1, .int bs, .ref la, .ref pa])) ∧ g la = some (.inl (G.2.1 0, 4, .inl lm)) ∧ g pa = some (.inl (G.2.1 3, np, .inr (.inr (.inr (.inr pf))))) ∧ np ≤ 91 ∧ (bs = 0 ∨ bs = 1) ∧
    ∀ i, i < np → ∃ (pk ta tr tcap tn : Nat) (t : Nat → Int32) (rj : Int32) (sh m0 m1 n0 n1 : Nat), pf i = some pk ∧ cp G g pk ta tr tcap tn t rj sh m0 m1 n0 n1 ∧ V i = vdc rj ∧ Sh i = fsh sh m0 m1 ∧ ∀ nn nt mn mt, M i nn nt mn mt ↔ mat t sh m0 m1 n0 n1 nn nt mn mt
theorem tf.mono {G : GG} {g g' : Wd} {a : Nat} {bs : Int32} {lm : Nat → Int32} {np : Nat} {V Sh : Nat → Int32} {M : Nat → Nat → (Nat → Int32) → Nat → (Nat → Int32) → Prop} (h : tf G g a bs lm np V Sh M) (hg : gle g g') : tf G g' a bs lm np V Sh M := by
  obtain ⟨la, pa, pf, h1, h2, h3, h4, h5, h6⟩ := h
  refine ⟨la, pa, pf, hg _ _ h1, hg _ _ h2, hg _ _ h3, h4, h5, fun i hi => ?_⟩
  obtain ⟨pk, ta, tr, tcap, tn, t, rj, sh, m0, m1, n0, n1, e1, e2, e3, e4, e5⟩ := h6 i hi
  exact ⟨pk, ta, tr, tcap, tn, t, rj, sh, m0, m1, n0, n1, e1, e2.mono hg, e3, e4, e5⟩
theorem gle.upf {g f : Wd} {q : Nat} {e : va_E} (h : gle g f) (hq : g q = none) : gle g (va_up f q (some e)) := fun b x hb => by
  rw [va_up_ne _ _ (wnf hb hq)]
  exact h b x hb
theorem anT_eq {bs : Int32} {lm : Nat → Int32} {np : Nat} {M : Nat → Nat → (Nat → Int32) → Nat → (Nat → Int32) → Prop} {V : Nat → Int32} {nn mn : Nat} {nt mt : Nat → Int32} {dp rf by_ so di le co tx lx : Int32} : anT bs lm np M V (nn, nt, mn, mt, dp, rf, by_, so, di, le) (co, tx, lx) =
    pif (abv dp (lm 0) ∨ abv rf (lm 1) ∨ abv by_ (lm 2)) (2, co, tx + 1, lx)
      (pif (so = 0) (0, co, tx + 1, lx)
        (pif (0 < di ∧ abv le (lm 3)) (2, co, tx + 1, lx)
          (pif (0 < di ∧ bs = 0) (0, co, tx + 1, lx)
            (pif (so = 2) (0, co, tx + 1, lx)
              ((cmpP (fun i => M i nn nt mn mt) V np 0 co lx).1, (cmpP (fun i => M i nn nt mn mt) V np 0 co lx).2.1, tx + 1, (cmpP (fun i => M i nn nt mn mt) V np 0 co lx).2.2))))) := rfl
