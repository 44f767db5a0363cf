/-! links of the pools, as the walks ask for them -/
/-! decode rows -/
/-- a filter's value: kind, LEAVES, HIGH, its answers, and of a text filter how many patterns, limits, bases, what its patterns say, their shapes -/
abbrev FV : Type := Int32 × Int32 × Int32 × An × Nat × (Nat → Int32) × Int32 × (Nat → Int32) × (Nat → Int32)
def TI0 : Nat × (Nat → Int32) × Int32 × (Nat → Int32) × (Nat → Int32) := (0, fun _ => 0, 0, fun _ => 0, fun _ => 0)
/-- the filter at a in the map g has the value v, and is at most d high -/
def RF (G : GG) (g : Wd) : Nat → Nat → FV → Prop
  | 0, _, _ => False
  | d + 1, a, v =>
    (∃ (bs : Int32) (lm : Nat → Int32) (np : Nat) (V Sh : Nat → Int32) (M : Nat → Nat → (Nat → Int32) → Nat → (Nat → Int32) → Prop), tf G g a bs lm np V Sh M ∧ v = (1, 1, 1, anT bs lm np M V, np, lm, bs, V, Sh))
    ∨ (∃ (b c2 : Nat) (vb vc : FV), g a = some (.inr (6, [.int 2, .int (vb.2.1 + vc.2.1), .int (1 + (if vb.2.2.1 < vc.2.2.1 then vc.2.2.1 else vb.2.2.1)), .ref b, .ref c2])) ∧ RF G g d b vb ∧ RF G g d c2 vc ∧ v = (2, (vb.2.1 + vc.2.1), (1 + (if vb.2.2.1 < vc.2.2.1 then vc.2.2.1 else vb.2.2.1)), (anJ vb.2.2.2.1 vc.2.2.2.1), TI0))
    ∨ (∃ (b : Nat) (vb : FV) (al : Int32), g a = some (.inr (7, [.int 3, .int vb.2.1, .int (1 + vb.2.2.1), .ref b, .int al])) ∧ RF G g d b vb ∧ (al = 0 ∨ al = 1) ∧ v = (3, vb.2.1, (1 + vb.2.2.1), (anS al vb.2.2.2.1), TI0))
    ∨ (∃ (b : Nat) (vb : FV) (gv : Int32), g a = some (.inr (8, [.int 4, .int vb.2.1, .int (1 + vb.2.2.1), .ref b, .int gv])) ∧ RF G g d b vb ∧ v = (4, vb.2.1, (1 + vb.2.2.1), (anD gv vb.2.2.2.1), TI0))
    ∨ (∃ (b sa sr scap bn : Nat) (bt : Nat → Int32) (vb : FV), g a = some (.inr (9, [.int 5, .int vb.2.1, .int (1 + vb.2.2.1), .ref b, .ref sa])) ∧ sg G g sa sr scap bn bt ∧ RF G g d b vb ∧ v = (5, vb.2.1, (1 + vb.2.2.1), (anO bn bt vb.2.2.2.1), TI0))
theorem RF.mono {G : GG} {g g' : Wd} (hg : gle g g') : ∀ (d a : Nat) (v : FV), RF G g d a v → RF G g' d a v := by
  intro d
  induction d with
  | zero => intro a v h; exact h.elim
  | succ d ih =>
    intro a v h
    rcases h with ⟨bs, lm, np, V, Sh, M, h1, h2⟩ | ⟨b, c2, vb, vc, h1, h2, h3, h4⟩ | ⟨b, vb, al, h1, h2, h3, h4⟩ | ⟨b, vb, gv, h1, h2, h3⟩ | ⟨b, sa, sr, scap, bn, bt, vb, h1, h2, h3, h4⟩
    · exact Or.inl ⟨bs, lm, np, V, Sh, M, h1.mono hg, h2⟩
    · exact Or.inr (Or.inl ⟨b, c2, vb, vc, hg _ _ h1, ih _ _ h2, ih _ _ h3, h4⟩)
    · exact Or.inr (Or.inr (Or.inl ⟨b, vb, al, hg _ _ h1, ih _ _ h2, h3, h4⟩))
    · exact Or.inr (Or.inr (Or.inr (Or.inl ⟨b, vb, gv, hg _ _ h1, ih _ _ h2, h3⟩)))
    · exact Or.inr (Or.inr (Or.inr (Or.inr ⟨b, sa, sr, scap, bn, bt, vb, hg _ _ h1, h2.mono hg, ih _ _ h3, h4⟩)))
theorem RF.up {G : GG} {g : Wd} : ∀ (d a : Nat) (v : FV), RF G g d a v → RF G g (d + 1) a v := by
  intro d
  induction d with
  | zero => intro a v h; exact h.elim
  | succ d ih =>
    intro a v h
    rcases h with h | ⟨b, c2, vb, vc, h1, h2, h3, h4⟩ | ⟨b, vb, al, h1, h2, h3, h4⟩ | ⟨b, vb, gv, h1, h2, h3⟩ | ⟨b, sa, sr, scap, bn, bt, vb, h1, h2, h3, h4⟩
    · exact Or.inl h
    · exact Or.inr (Or.inl ⟨b, c2, vb, vc, h1, ih _ _ h2, ih _ _ h3, h4⟩)
    · exact Or.inr (Or.inr (Or.inl ⟨b, vb, al, h1, ih _ _ h2, h3, h4⟩))
    · exact Or.inr (Or.inr (Or.inr (Or.inl ⟨b, vb, gv, h1, ih _ _ h2, h3⟩)))
    · exact Or.inr (Or.inr (Or.inr (Or.inr ⟨b, sa, sr, scap, bn, bt, vb, h1, h2, ih _ _ h3, h4⟩)))
/-- what a filter's answer says and does -/
def anP (f : Wd) (q na ma : Nat) (nn : Nat) (nt : Nat → Int32) (mn : Nat) (mt : Nat → Int32) (dp rf by_ so di le co tx lx : Int32) (an : An) : Int32 → Wd → Prop := fun v f' => v = (an (nn, nt, mn, mt, dp, rf, by_, so, di, le) (co, tx, lx)).1 ∧ f' = va_up f q (some (.inr (2, [.ref na, .ref ma, .int dp, .int rf, .int by_, .int so, .int di, .int le, .int ((an (nn, nt, mn, mt, dp, rf, by_, so, di, le) (co, tx, lx)).2.1), .int ((an (nn, nt, mn, mt, dp, rf, by_, so, di, le) (co, tx, lx)).2.2.1), .int ((an (nn, nt, mn, mt, dp, rf, by_, so, di, le) (co, tx, lx)).2.2.2)])))
/-- the contracts of answer, of filters over those at most d high -/
def ANS (G : GG) (l : Launch) (d : Nat) : Prop :=
  (∀ (sz : Nat) (f g : Wd) (a : Nat) (b c2 : Nat) (vb vc : FV) (q na nr ncap nn : Nat) (nt : Nat → Int32) (ma mr mcap mn : Nat) (mt : Nat → Int32) (dp rf by_ so di le co tx lx : Int32), g a = some (.inr (6, [.int 2, .int (vb.2.1 + vc.2.1), .int (1 + (if vb.2.2.1 < vc.2.2.1 then vc.2.2.1 else vb.2.2.1)), .ref b, .ref c2])) → RF G g d b vb → RF G g d c2 vc → qs G f q na nr ncap nn nt ma mr mcap mn mt dp rf by_ so di le co tx lx → gle g f → g q = none → Ci G l y_JoinedFilter_answer b_JoinedFilter_answer 4 (some .int) { frames := 5 + (d + 1), cells := 0, slots := 0, locals := 118 + 30 * (d + 1) } sz f [.ref a, .ref q] (anP f q na ma nn nt mn mt dp rf by_ so di le co tx lx (anJ vb.2.2.2.1 vc.2.2.2.1))) ∧
  (∀ (sz : Nat) (f g : Wd) (a : Nat) (b : Nat) (vb : FV) (al : Int32) (q na nr ncap nn : Nat) (nt : Nat → Int32) (ma mr mcap mn : Nat) (mt : Nat → Int32) (dp rf by_ so di le co tx lx : Int32), g a = some (.inr (7, [.int 3, .int vb.2.1, .int (1 + vb.2.2.1), .ref b, .int al])) → RF G g d b vb → qs G f q na nr ncap nn nt ma mr mcap mn mt dp rf by_ so di le co tx lx → gle g f → g q = none → Ci G l y_StrictFilter_answer b_StrictFilter_answer 4 (some .int) { frames := 5 + (d + 1), cells := 0, slots := 0, locals := 118 + 30 * (d + 1) } sz f [.ref a, .ref q] (anP f q na ma nn nt mn mt dp rf by_ so di le co tx lx (anS al vb.2.2.2.1))) ∧
  (∀ (sz : Nat) (f g : Wd) (a : Nat) (b : Nat) (vb : FV) (gv : Int32) (q na nr ncap nn : Nat) (nt : Nat → Int32) (ma mr mcap mn : Nat) (mt : Nat → Int32) (dp rf by_ so di le co tx lx : Int32), g a = some (.inr (8, [.int 4, .int vb.2.1, .int (1 + vb.2.2.1), .ref b, .int gv])) → RF G g d b vb → qs G f q na nr ncap nn nt ma mr mcap mn mt dp rf by_ so di le co tx lx → gle g f → g q = none → Ci G l y_DefaultFilter_answer b_DefaultFilter_answer 3 (some .int) { frames := 5 + (d + 1), cells := 0, slots := 0, locals := 118 + 30 * (d + 1) } sz f [.ref a, .ref q] (anP f q na ma nn nt mn mt dp rf by_ so di le co tx lx (anD gv vb.2.2.2.1))) ∧
  (∀ (sz : Nat) (f g : Wd) (a : Nat) (b sa sr scap bn : Nat) (bt : Nat → Int32) (vb : FV) (q na nr ncap nn : Nat) (nt : Nat → Int32) (ma mr mcap mn : Nat) (mt : Nat → Int32) (dp rf by_ so di le co tx lx : Int32), g a = some (.inr (9, [.int 5, .int vb.2.1, .int (1 + vb.2.2.1), .ref b, .ref sa])) → sg G g sa sr scap bn bt → RF G g d b vb → qs G f q na nr ncap nn nt ma mr mcap mn mt dp rf by_ so di le co tx lx → gle g f → g q = none → Ci G l y_OnlyFilter_answer b_OnlyFilter_answer 3 (some .int) { frames := 5 + (d + 1), cells := 0, slots := 0, locals := 118 + 30 * (d + 1) } sz f [.ref a, .ref q] (anP f q na ma nn nt mn mt dp rf by_ so di le co tx lx (anO bn bt vb.2.2.2.1)))

def y_Filter_answer : MethodName := ⟨"StreamFilters$Filter", "answer", "(LStreamFilters$Question;)I"⟩
theorem aw_TextFilter : Cond.code y_TextFilter_answer b_TextFilter_answer 2 (some .int) ∈ TB ∧ Cond.initialized y_TextFilter_answer.cls ∈ TB := ⟨(tb 532 (by decide +kernel) rfl), (tb 13 (by decide +kernel) rfl)⟩
theorem as_TextFilter : Cond.sameMethod y_Filter_answer.cls y_Filter_answer.cls y_Filter_answer.name y_Filter_answer.desc ∈ TB ∧ Cond.instanceMethod y_TextFilter_answer ∈ TB ∧ Cond.selects R_TextFilter y_Filter_answer y_TextFilter_answer ∈ TB ∧ Cond.declares y_Filter_answer ∈ EB := ⟨(tb 512 (by decide +kernel) rfl), (tb 531 (by decide +kernel) rfl), (tb 579 (by decide +kernel) rfl), (eb 511 (by decide +kernel) rfl)⟩
theorem aw_JoinedFilter : Cond.code y_JoinedFilter_answer b_JoinedFilter_answer 4 (some .int) ∈ TB ∧ Cond.initialized y_JoinedFilter_answer.cls ∈ TB := ⟨(tb 518 (by decide +kernel) rfl), (tb 14 (by decide +kernel) rfl)⟩
theorem as_JoinedFilter : Cond.sameMethod y_Filter_answer.cls y_Filter_answer.cls y_Filter_answer.name y_Filter_answer.desc ∈ TB ∧ Cond.instanceMethod y_JoinedFilter_answer ∈ TB ∧ Cond.selects R_JoinedFilter y_Filter_answer y_JoinedFilter_answer ∈ TB ∧ Cond.declares y_Filter_answer ∈ EB := ⟨(tb 512 (by decide +kernel) rfl), (tb 517 (by decide +kernel) rfl), (tb 576 (by decide +kernel) rfl), (eb 511 (by decide +kernel) rfl)⟩
theorem aw_StrictFilter : Cond.code y_StrictFilter_answer b_StrictFilter_answer 4 (some .int) ∈ TB ∧ Cond.initialized y_StrictFilter_answer.cls ∈ TB := ⟨(tb 529 (by decide +kernel) rfl), (tb 15 (by decide +kernel) rfl)⟩
theorem as_StrictFilter : Cond.sameMethod y_Filter_answer.cls y_Filter_answer.cls y_Filter_answer.name y_Filter_answer.desc ∈ TB ∧ Cond.instanceMethod y_StrictFilter_answer ∈ TB ∧ Cond.selects R_StrictFilter y_Filter_answer y_StrictFilter_answer ∈ TB ∧ Cond.declares y_Filter_answer ∈ EB := ⟨(tb 512 (by decide +kernel) rfl), (tb 528 (by decide +kernel) rfl), (tb 578 (by decide +kernel) rfl), (eb 511 (by decide +kernel) rfl)⟩
theorem aw_DefaultFilter : Cond.code y_DefaultFilter_answer b_DefaultFilter_answer 3 (some .int) ∈ TB ∧ Cond.initialized y_DefaultFilter_answer.cls ∈ TB := ⟨(tb 515 (by decide +kernel) rfl), (tb 16 (by decide +kernel) rfl)⟩
theorem as_DefaultFilter : Cond.sameMethod y_Filter_answer.cls y_Filter_answer.cls y_Filter_answer.name y_Filter_answer.desc ∈ TB ∧ Cond.instanceMethod y_DefaultFilter_answer ∈ TB ∧ Cond.selects R_DefaultFilter y_Filter_answer y_DefaultFilter_answer ∈ TB ∧ Cond.declares y_Filter_answer ∈ EB := ⟨(tb 512 (by decide +kernel) rfl), (tb 514 (by decide +kernel) rfl), (tb 513 (by decide +kernel) rfl), (eb 511 (by decide +kernel) rfl)⟩
theorem aw_OnlyFilter : Cond.code y_OnlyFilter_answer b_OnlyFilter_answer 3 (some .int) ∈ TB ∧ Cond.initialized y_OnlyFilter_answer.cls ∈ TB := ⟨(tb 521 (by decide +kernel) rfl), (tb 17 (by decide +kernel) rfl)⟩
theorem as_OnlyFilter : Cond.sameMethod y_Filter_answer.cls y_Filter_answer.cls y_Filter_answer.name y_Filter_answer.desc ∈ TB ∧ Cond.instanceMethod y_OnlyFilter_answer ∈ TB ∧ Cond.selects R_OnlyFilter y_Filter_answer y_OnlyFilter_answer ∈ TB ∧ Cond.declares y_Filter_answer ∈ EB := ⟨(tb 512 (by decide +kernel) rfl), (tb 520 (by decide +kernel) rfl), (tb 577 (by decide +kernel) rfl), (eb 511 (by decide +kernel) rfl)⟩
section RA
variable {p : Program} {l : Launch} {e : Env} {R : Room} {s : State} {m : MethodId} {args : Array Value} {below : List Frame} {meth : Method} {c : Code} {H : Heap} {locs : List Loc} {cells slots : Nat}
variable {cc : ByteArray} {pc nL idx : Nat} {ls : Array Slot} {rest : List Value} {G : GG} {A : Nat → Prop} {f g : Wd} {own : String}
set_option maxHeartbeats 4000000 in
theorem run_ans {d : Nat} (hIH : ∀ d', d = d' + 1 → ANS G l d') (hc : CallFix p m c cc nL s args TB own) (hE : ev G A s) (hw : ms G.1 A f s H locs) {b : Nat} {vb : FV} (hrf : RF G g d b vb) {q na nr ncap nn : Nat} {nt : Nat → Int32} {ma mr mcap mn : Nat} {mt : Nat → Int32} {dp rf by_ so di le co tx lx : Int32} (hq : qs G f q na nr ncap nn nt ma mr mcap mn mt dp rf by_ so di le co tx lx) (hg : gle g f) (hgq : g q = none) (hl : Cond.methodLink own idx y_Filter_answer ∈ TB) (hsize : ls.size = nL) (hW : (rest.map fun v => v.category).sum ≤ 8) (hdg : decode cc pc = .ok (.invokevirtual idx, 3)) (hR : 6 + d ≤ R.frames ∧ 141 + 30 * d ≤ R.locals) (hf : cells ≤ R.cells ∧ slots ≤ R.slots) :
    va_Run p l e R s m args below meth c H locs cells slots 0 0 (F0 m pc ls (.ref q :: .ref b :: rest)) rest (va_Qi (anP f q na ma nn nt mn mt dp rf by_ so di le co tx lx vb.2.2.2.1) (Bw G f H.size) (Af f H.size) (Value.ref b :: [Value.ref q]).toArray) (Af f H.size) := by
  cases d with
  | zero => exact hrf.elim
  | succ d =>
    have IH := hIH d rfl
    rcases hrf with ⟨bs, lm, np, V, Sh, M, h1, rfl⟩ | ⟨b1, c2, v1, vc, h1, h2, h3, rfl⟩ | ⟨b1, v1, al, h1, h2, h3, rfl⟩ | ⟨b1, v1, gv, h1, h2, rfl⟩ | ⟨b1, sa, sr, scap, bn, bt, v1, h1, h2, h3, rfl⟩
    · have h0 := h1
      obtain ⟨la, pa, pf, hta, -⟩ := h0
      exact m_runA (As := [.ref q]) (n := 1) hc hE hw (c_TextFilter_answer G l H.size f hq hg hgq h1) (hg _ _ hta) rfl ⟨hl, aw_TextFilter.1, aw_TextFilter.2, by decide, by decide, by decide +kernel⟩ as_TextFilter rfl hsize rfl hW hdg ⟨rfl, rfl, by dsimp only; omega, by dsimp only; omega⟩ ⟨hf.1, hf.2⟩
    · exact m_runA (As := [.ref q]) (n := 1) hc hE hw (IH.1 H.size f g b b1 c2 v1 vc _ _ _ _ _ _ _ _ _ _ _ _ _ _ _ _ _ _ _ _ h1 h2 h3 hq hg hgq) (hg _ _ h1) rfl ⟨hl, aw_JoinedFilter.1, aw_JoinedFilter.2, by decide, by decide, by decide +kernel⟩ as_JoinedFilter rfl hsize rfl hW hdg ⟨rfl, rfl, by dsimp only; omega, by dsimp only; omega⟩ ⟨hf.1, hf.2⟩
    · exact m_runA (As := [.ref q]) (n := 1) hc hE hw (IH.2.1 H.size f g b b1 v1 al _ _ _ _ _ _ _ _ _ _ _ _ _ _ _ _ _ _ _ _ h1 h2 hq hg hgq) (hg _ _ h1) rfl ⟨hl, aw_StrictFilter.1, aw_StrictFilter.2, by decide, by decide, by decide +kernel⟩ as_StrictFilter rfl hsize rfl hW hdg ⟨rfl, rfl, by dsimp only; omega, by dsimp only; omega⟩ ⟨hf.1, hf.2⟩
    · exact m_runA (As := [.ref q]) (n := 1) hc hE hw (IH.2.2.1 H.size f g b b1 v1 gv _ _ _ _ _ _ _ _ _ _ _ _ _ _ _ _ _ _ _ _ h1 h2 hq hg hgq) (hg _ _ h1) rfl ⟨hl, aw_DefaultFilter.1, aw_DefaultFilter.2, by decide, by decide, by decide +kernel⟩ as_DefaultFilter rfl hsize rfl hW hdg ⟨rfl, rfl, by dsimp only; omega, by dsimp only; omega⟩ ⟨hf.1, hf.2⟩
    · exact m_runA (As := [.ref q]) (n := 1) hc hE hw (IH.2.2.2 H.size f g b b1 sa sr scap bn bt v1 _ _ _ _ _ _ _ _ _ _ _ _ _ _ _ _ _ _ _ _ h1 h2 h3 hq hg hgq) (hg _ _ h1) rfl ⟨hl, aw_OnlyFilter.1, aw_OnlyFilter.2, by decide, by decide, by decide +kernel⟩ as_OnlyFilter rfl hsize rfl hW hdg ⟨rfl, rfl, by dsimp only; omega, by dsimp only; omega⟩ ⟨hf.1, hf.2⟩
end RA
