/-! THE LAW: both worlds side by side: registers 0 .. 8 the class's, 9 the reference, 10 .. 24 its rows -/
theorem MR.keep {G : GG} {c : Nat} {ad : Nat → Nat} {E E1 : Nat → va_E} {g g1 f f1 : Wd} {pn nn mn : Nat} {pt nt mt : Nat → Int32} {dp rf by_ co tx lx : Int32} {fl : Nat → Option FV} (h : MR G c (ad 9) (fun k => ad (10 + k)) f pn pt nn nt mn mt dp rf by_ co tx lx fl) (hR : Rg 25 ad E g f) (hR1 : Rg 25 ad E1 g1 f1) (hk : ∀ k, 9 ≤ k → E1 k = E k) : MR G c (ad 9) (fun k => ad (10 + k)) f1 pn pt nn nt mn mt dp rf by_ co tx lx fl := by
  obtain ⟨sc, av, b, md, ⟨h1, h2, h3⟩, hS⟩ := h
  refine ⟨sc, av, b, md, ⟨?_, fun k hk15 => ?_, h3⟩, hS⟩
  · rw [hR1.1 9 (by decide), hk 9 (by decide), ← hR.1 9 (by decide)]
    exact h1
  · show f1 (ad (10 + k)) = _
    rw [hR1.1 (10 + k) (by omega), hk (10 + k) (by omega), ← hR.1 (10 + k) (by omega)]
    exact h2 k hk15
theorem MR.mo {G : GG} {c mo : Nat} {ar : Nat → Nat} {f : Wd} {pn nn mn : Nat} {pt nt mt : Nat → Int32} {dp rf by_ co tx lx : Int32} {fl : Nat → Option FV} (h : MR G c mo ar f pn pt nn nt mn mt dp rf by_ co tx lx fl) : ∃ fs, f mo = some (.inr (CI_SM, fs)) := by
  obtain ⟨sc, av, b, md, ⟨h1, h2, h3⟩, hS⟩ := h
  exact ⟨_, h1⟩
theorem Rg.mx {G : GG} {c : Nat} {ad : Nat → Nat} {E : Nat → va_E} {g f f2 : Wd} {pn nn mn : Nat} {pt nt mt : Nat → Int32} {dp rf by_ co tx lx : Int32} {fl : Nat → Option FV} (hR : Rg 25 ad E g f) (h : MR G c (ad 9) (fun k => ad (10 + k)) f2 pn pt nn nt mn mt dp rf by_ co tx lx fl) (hX : Mx (ad 9) (fun k => ad (10 + k)) f f2) : ∃ E2 : Nat → va_E, Rg 25 ad E2 g f2 ∧ ∀ k, k < 9 → E2 k = E k := by
  obtain ⟨sc, av, b, md, ⟨h1, h2, h3⟩, hS⟩ := h
  obtain ⟨r1, r2, r3, r4⟩ := hR
  have hno : ∀ q, (∀ k, 9 ≤ k → k < 25 → q ≠ ad k) → f2 q = f q := fun q hq => hX q (hq 9 (by decide) (by decide)) (fun k hk => hq (10 + k) (by omega) (by omega))
  refine ⟨fun k => if k < 9 then E k else if k = 9 then MO (fun k => ad (10 + k)) sc else .inl (G.2.1 0, mlen (k - 10), .inl (av (k - 10))), ⟨fun k hk => ?_, r2, fun q e hq => ?_, r4⟩, fun k hk => if_pos hk⟩
  · by_cases h9 : k < 9
    · show f2 (ad k) = some (if k < 9 then E k else _)
      rw [if_pos h9, hno (ad k) (fun i h1 h2 z => absurd (r2 k i hk h2 z) (by omega))]
      exact r1 k hk
    · by_cases e9 : k = 9
      · subst e9; exact h1
      · show f2 (ad k) = some (if k < 9 then E k else if k = 9 then _ else .inl (G.2.1 0, mlen (k - 10), .inl (av (k - 10))))
        rw [if_neg h9, if_neg e9]
        have := h2 (k - 10) (by omega)
        change f2 (ad (10 + (k - 10))) = _ at this
        rw [show 10 + (k - 10) = k by omega] at this
        exact this
  · rw [hno q (fun k h1 h2 z => by subst z; rw [r4 k h2] at hq; cases hq)]
    exact r3 q e hq
theorem SC.lo {G : GG} {ad : Nat → Nat} {E E2 : Nat → va_E} {g : Wd} {root pn nn mn : Nat} {pt nt mt : Nat → Int32} {dp rf by_ co tx lx : Int32} {fl : Nat → Option FV} (h : SC G ad E g root pn pt nn nt mn mt dp rf by_ co tx lx fl) (he : ∀ k, k < 9 → E2 k = E k) : SC G ad E2 g root pn pt nn nt mn mt dp rf by_ co tx lx fl := by
  obtain ⟨h1, h2, h3, h4, ⟨so, di, le, h5⟩, ⟨fr, en, pi, li, nu, rj, sh, mf, me, nf, ne, h6⟩, fa, h7, h8⟩ := h
  exact ⟨h1, h2.of (he 0 (by decide)) (he 1 (by decide)), h3.of (he 3 (by decide)) (he 4 (by decide)), h4.of (he 5 (by decide)) (he 6 (by decide)), ⟨so, di, le, (he 2 (by decide)).trans h5⟩, ⟨fr, en, pi, li, nu, rj, sh, mf, me, nf, ne, (he 7 (by decide)).trans h6⟩, fa, (he 8 (by decide)).trans h7, h8⟩
theorem noF_ex {fl : Nat → Option FV} {x : Int32} (h : ¬ noF fl x) : ∃ (k : Nat) (vv : FV), k < 10 ∧ x = nI k ∧ fl k = some vv := by
  refine Classical.byContradiction (fun z => h (fun k hk hx => ?_))
  cases hf : fl k with
  | none => rfl
  | some vv => exact absurd ⟨k, vv, hk, hx, hf⟩ z
theorem plc_ex {x : Int32} (h : ¬ x < 0 ∧ ¬ 10 ≤ x) : ∃ k, k < 10 ∧ x = nI k := plc_of (fun z => z.elim h.1 h.2)
/-! which way a call goes -/
theorem cs_x (x : Int32) : x = 0 ∨ x = 1 ∨ x = 2 ∨ (¬ x = 0 ∧ ¬ x = 1 ∧ ¬ x = 2) := by
  by_cases h0 : x = 0
  · exact Or.inl h0
  · by_cases h1 : x = 1
    · exact Or.inr (Or.inl h1)
    · by_cases h2 : x = 2
      · exact Or.inr (Or.inr (Or.inl h2))
      · exact Or.inr (Or.inr (Or.inr ⟨h0, h1, h2⟩))
theorem cs_2 (P Q : Prop) : ¬ P ∨ (P ∧ ¬ Q) ∨ (P ∧ Q) := by
  by_cases h : P
  · by_cases q : Q
    · exact Or.inr (Or.inr ⟨h, q⟩)
    · exact Or.inr (Or.inl ⟨h, q⟩)
  · exact Or.inl h
theorem cs_drop (fl : Nat → Option FV) (x : Int32) : noF fl x ∨ ∃ (k : Nat) (vv : FV), k < 10 ∧ x = nI k ∧ fl k = some vv := by
  by_cases h : noF fl x
  · exact Or.inl h
  · exact Or.inr (noF_ex h)
theorem cs_one (fl : Nat → Option FV) (xt x : Int32) : (¬ (¬ xt < 0 ∧ ¬ 10 ≤ xt) ∨ noF fl x) ∨ ∃ (kt k : Nat) (vv : FV), kt < 10 ∧ xt = nI kt ∧ k < 10 ∧ x = nI k ∧ fl k = some vv ∧ (8 ≤ vv.2.2.1 ∨ ¬ 8 ≤ vv.2.2.1) := by
  by_cases h : ¬ xt < 0 ∧ ¬ 10 ≤ xt
  · by_cases q : noF fl x
    · exact Or.inl (Or.inr q)
    · obtain ⟨kt, a1, a2⟩ := plc_ex h
      obtain ⟨k, vv, b1, b2, b3⟩ := noF_ex q
      exact Or.inr ⟨kt, k, vv, a1, a2, b1, b2, b3, Classical.em _⟩
  · exact Or.inl (Or.inl h)
theorem cs_oth (fl : Nat → Option FV) (xt x gv : Int32) : (¬ (¬ xt < 0 ∧ ¬ 10 ≤ xt) ∨ noF fl x ∨ gv < 0 ∨ ¬ gv ≤ 2) ∨ ∃ (kt k : Nat) (vv : FV), kt < 10 ∧ xt = nI kt ∧ k < 10 ∧ x = nI k ∧ fl k = some vv ∧ ¬ (gv < 0 ∨ ¬ gv ≤ 2) ∧ (8 ≤ vv.2.2.1 ∨ ¬ 8 ≤ vv.2.2.1) := by
  by_cases z : gv < 0 ∨ ¬ gv ≤ 2
  · exact Or.inl (Or.inr (Or.inr z))
  · rcases cs_one fl xt x with h | ⟨kt, k, vv, q1, q2, q3, q4, q5, q6⟩
    · exact Or.inl (h.elim Or.inl (fun y => Or.inr (Or.inl y)))
    · exact Or.inr ⟨kt, k, vv, q1, q2, q3, q4, q5, z, q6⟩
theorem cs_join (fl : Nat → Option FV) (xt x y : Int32) : (¬ (¬ xt < 0 ∧ ¬ 10 ≤ xt) ∨ noF fl x ∨ noF fl y) ∨ ∃ (kt k j : Nat) (vv vw : FV), kt < 10 ∧ xt = nI kt ∧ k < 10 ∧ x = nI k ∧ j < 10 ∧ y = nI j ∧ fl k = some vv ∧ fl j = some vw ∧ ((¬ vv.2.1 + vw.2.1 ≤ 24 ∨ ¬ mxh vv.2.2.1 vw.2.2.1 < 8) ∨ ¬ (¬ vv.2.1 + vw.2.1 ≤ 24 ∨ ¬ mxh vv.2.2.1 vw.2.2.1 < 8)) := by
  by_cases h : ¬ xt < 0 ∧ ¬ 10 ≤ xt
  · by_cases q : noF fl x
    · exact Or.inl (Or.inr (Or.inl q))
    · by_cases q2 : noF fl y
      · exact Or.inl (Or.inr (Or.inr q2))
      · obtain ⟨kt, a1, a2⟩ := plc_ex h
        obtain ⟨k, vv, b1, b2, b3⟩ := noF_ex q
        obtain ⟨j, vw, c1, c2, c3⟩ := noF_ex q2
        exact Or.inr ⟨kt, k, j, vv, vw, a1, a2, b1, b2, c1, c2, b3, c3, Classical.em _⟩
  · exact Or.inl (Or.inl h)
theorem cs_read (xt z : Int32) : ¬ (¬ xt < 0 ∧ ¬ 10 ≤ xt) ∨ ((¬ xt < 0 ∧ ¬ 10 ≤ xt) ∧ ¬ z = -2) ∨ ∃ kt : Nat, kt < 10 ∧ xt = nI kt ∧ z = -2 := by
  by_cases h : ¬ xt < 0 ∧ ¬ 10 ≤ xt
  · by_cases q : z = -2
    · obtain ⟨kt, a1, a2⟩ := plc_ex h
      exact Or.inr (Or.inr ⟨kt, a1, a2, q⟩)
    · exact Or.inr (Or.inl ⟨h, q⟩)
  · exact Or.inl h
theorem cs_ask (fl : Nat → Option FV) (x so di : Int32) : (noF fl x ∨ ¬ isQ so di) ∨ ∃ (k : Nat) (vv : FV), k < 10 ∧ x = nI k ∧ fl k = some vv ∧ isQ so di := by
  by_cases h : noF fl x
  · exact Or.inl (Or.inl h)
  · by_cases q : isQ so di
    · obtain ⟨k, vv, b1, b2, b3⟩ := noF_ex h
      exact Or.inr ⟨k, vv, b1, b2, b3, q⟩
    · exact Or.inl (Or.inr q)
theorem eq_flt {fl : Nat → Option FV} {x y r1 r2 : Int32} (a1 : ¬ (¬ x < 0 ∧ ¬ 10 ≤ x) → r1 = -1) (a2 : ∀ k : Nat, k < 10 → x = nI k → r1 = flv (fl k) y) (b1 : ¬ (¬ x < 0 ∧ ¬ 10 ≤ x) → r2 = -1) (b2 : ∀ k : Nat, k < 10 → x = nI k → r2 = flv (fl k) y) : r2 = r1 := by
  by_cases h : ¬ x < 0 ∧ ¬ 10 ≤ x
  · obtain ⟨k, hk, hx⟩ := plc_ex h
    rw [a2 k hk hx, b2 k hk hx]
  · rw [a1 h, b1 h]
theorem eq_pat {fl : Nat → Option FV} {x y al r1 r2 : Int32} (a1 : noF fl x → r1 = -1) (a2 : ∀ (k : Nat) (vv : FV), k < 10 → x = nI k → fl k = some vv → r1 = ptv vv y al) (b1 : noF fl x → r2 = -1) (b2 : ∀ (k : Nat) (vv : FV), k < 10 → x = nI k → fl k = some vv → r2 = ptv vv y al) : r2 = r1 := by
  rcases cs_drop fl x with h | ⟨k, vv, h1, h2, h3⟩
  · rw [a1 h, b1 h]
  · rw [a2 k vv h1 h2 h3, b2 k vv h1 h2 h3]
/-! the law's goals -/
def Al (s : State) : Nat → Prop := fun q => s.heap.size ≤ q
abbrev LG (p : Program) (l : Launch) (e : Env) (s : State) (m : MethodId) (below : List Frame) (meth : Method) (c : Code) (b : Nat) (H : Heap) (locs : List Loc) (cells slots pc : Nat) (ls : Array Slot) (st : List Value) : Prop := W p l e room_1 s m #[Value.ref b] below meth c H locs cells slots (lw_Z below #[Value.ref b] s) (F0 m pc ls st)
def LawC (p : Program) (s : State) (m : MethodId) (meth : Method) (c : Code) (G : GG) (b L : Nat) (xs : Nat → Int32) : Prop := CallFix p m c code 4 s #[Value.ref b] TB R_law ∧ meth.sig.returnType = ret ∧ meth.locks = false ∧ va_X b L xs s s.heap ∧ b < s.heap.size ∧ ev G (Al s) s ∧ L ≤ 2560
/-- at the loop's head, j calls done -/
def Hd (p : Program) (l : Launch) (e : Env) (s : State) (m : MethodId) (below : List Frame) (meth : Method) (c : Code) (G : GG) (b j : Nat) : Prop :=
  ∀ (ad : Nat → Nat) (E : Nat → va_E) (g f : Wd) (root pn : Nat) (pt : Nat → Int32) (nn : Nat) (nt : Nat → Int32) (mn : Nat) (mt : Nat → Int32) (dp rf by_ co tx lx : Int32) (fl : Nat → Option FV) (ls : Array Slot) (H : Heap) (locs : List Loc),
    Rg 25 ad E g f → SC G ad E g root pn pt nn nt mn mt dp rf by_ co tx lx fl → MR G j (ad 9) (fun k => ad (10 + k)) f pn pt nn nt mn mt dp rf by_ co tx lx fl → ms G.1 (Al s) f s H locs → lv_has ls 4 [(3, .int (nI (5 * j))), (0, .ref b), (1, .ref root), (2, .ref (ad 9))] → LG p l e s m below meth c b H locs (60 + 100 * j) (9600 + 900 * j) 18 ls []
