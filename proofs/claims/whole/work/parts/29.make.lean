/-! WHAT makeFilter MAKES, purely and as cells -/
/-- the limit k after the first i pieces -/
noncomputable def lmU (t : Nat → Int32) (n : Nat) : Nat → Nat → Int32
  | 0, _ => -2
  | i + 1, k => pif (pk t n i = 1 ∧ lmV t (pst t n i) (eqc t (pst t n i) (pnx t n (pst t n i))) = nI k) (nmb t (eqc t (pst t n i) (pnx t n (pst t n i)) + 1) (pnx t n (pst t n i) - (eqc t (pst t n i) (pnx t n (pst t n i)) + 1))) (lmU t n i k)
/-- the fields of the class pattern that piece k is -/
noncomputable def pcl (t : Nat → Int32) (n ka k : Nat) : List Value := [.ref ka, .int (bI (t (pst t n k) = 33)), .int (nI (shp t (q0c t (pst t n k) (pnx t n (pst t n k))) (pnx t n (pst t n k)))), .int (nI (m0c t (pst t n k))), .int (nI (m1c t (pst t n k) (pnx t n (pst t n k)))), .int (nI (q0c t (pst t n k) (pnx t n (pst t n k)))), .int (nI (nmE t (q0c t (pst t n k) (pnx t n (pst t n k))) (pnx t n (pst t n k))))]
noncomputable def cxi (t : Nat → Int32) (n i : Nat) : Nat := (clsU t n (npc t n)).getD i 0
noncomputable def Vt (t : Nat → Int32) (n i : Nat) : Int32 := vdc (bI (t (pst t n (cxi t n i)) = 33))
noncomputable def Sht (t : Nat → Int32) (n i : Nat) : Int32 := fsh (shp t (q0c t (pst t n (cxi t n i)) (pnx t n (pst t n (cxi t n i)))) (pnx t n (pst t n (cxi t n i)))) (m0c t (pst t n (cxi t n i))) (m1c t (pst t n (cxi t n i)) (pnx t n (pst t n (cxi t n i))))
def Mt (t : Nat → Int32) (n i : Nat) (nn : Nat) (nt : Nat → Int32) (mn : Nat) (mt : Nat → Int32) : Prop := mat t (shp t (q0c t (pst t n (cxi t n i)) (pnx t n (pst t n (cxi t n i)))) (pnx t n (pst t n (cxi t n i)))) (m0c t (pst t n (cxi t n i))) (m1c t (pst t n (cxi t n i)) (pnx t n (pst t n (cxi t n i)))) (q0c t (pst t n (cxi t n i)) (pnx t n (pst t n (cxi t n i)))) (nmE t (q0c t (pst t n (cxi t n i)) (pnx t n (pst t n (cxi t n i)))) (pnx t n (pst t n (cxi t n i)))) nn nt mn mt
/-- the cells of f' that f hasn't -/
def nw (f f' : Wd) : Wd := fun q => if f q = none then f' q else none
theorem nw_of {f f' : Wd} {q : Nat} {e : va_E} (h : f q = none) (h' : f' q = some e) : nw f f' q = some e := by unfold nw; rw [if_pos h]; exact h'
theorem clsU_mem {t : Nat → Int32} {n : Nat} : ∀ i j, j < (clsU t n i).length → (clsU t n i).getD j 0 < i ∧ pk t n ((clsU t n i).getD j 0) = 2 := by
  intro i
  induction i with
  | zero => intro j h; exact absurd h (Nat.not_lt_zero _)
  | succ i ih =>
    intro j h
    by_cases hp : pk t n i = 2
    · have e : clsU t n (i + 1) = clsU t n i ++ [i] := pif_t hp
      rw [e] at h ⊢
      rw [List.length_append] at h
      rcases Nat.lt_or_ge j (clsU t n i).length with q | q
      · have e2 : (clsU t n i ++ [i]).getD j 0 = (clsU t n i).getD j 0 := by
          rw [List.getD_eq_getElem?_getD, List.getD_eq_getElem?_getD, List.getElem?_append_left q]
        rw [e2]
        have := ih j q
        exact ⟨by omega, this.2⟩
      · have h1 : j < (clsU t n i).length + 1 := h
        have e2 : (clsU t n i ++ [i]).getD j 0 = i := by
          rw [List.getD_eq_getElem?_getD, List.getElem?_append_right q, show j - (clsU t n i).length = 0 by omega]
          rfl
        rw [e2]
        exact ⟨by omega, hp⟩
    · have e : clsU t n (i + 1) = clsU t n i := pif_f hp
      rw [e] at h ⊢
      have := ih j h
      exact ⟨by omega, this.2⟩
theorem clsU_grow {t : Nat → Int32} {n i j : Nat} (h : j < (clsU t n i).length) : (clsU t n (i + 1)).getD j 0 = (clsU t n i).getD j 0 ∧ j < (clsU t n (i + 1)).length := by
  by_cases hp : pk t n i = 2
  · have e : clsU t n (i + 1) = clsU t n i ++ [i] := pif_t hp
    rw [e, List.getD_eq_getElem?_getD, List.getD_eq_getElem?_getD, List.getElem?_append_left h, List.length_append]
    exact ⟨rfl, by omega⟩
  · have e : clsU t n (i + 1) = clsU t n i := pif_f hp
    rw [e]
    exact ⟨rfl, h⟩
theorem clsU_lenle {t : Nat → Int32} {n : Nat} : ∀ i k, (clsU t n i).length ≤ (clsU t n (i + k)).length := by
  intro i k
  induction k with
  | zero => exact Nat.le_refl _
  | succ k ih =>
    have : (clsU t n (i + k)).length ≤ (clsU t n (i + k + 1)).length := by
      by_cases hp : pk t n (i + k) = 2
      · have e : clsU t n (i + k + 1) = clsU t n (i + k) ++ [i + k] := pif_t hp
        rw [e, List.length_append]; omega
      · have e : clsU t n (i + k + 1) = clsU t n (i + k) := pif_f hp
        rw [e]; omega
    exact Nat.le_trans ih this
theorem bgn_congr {nn : Nat} {nt t u : Nat → Int32} {n0 n1 : Nat} (h : ∀ j, j < n1 → u j = t j) (h0 : n0 ≤ n1) : bgn nn nt u n0 n1 ↔ bgn nn nt t n0 n1 := by
  unfold bgn
  constructor
  · exact fun z => ⟨z.1, fun j q => by rw [← h (n0 + j) (by omega)]; exact z.2 j q⟩
  · exact fun z => ⟨z.1, fun j q => by rw [h (n0 + j) (by omega)]; exact z.2 j q⟩
theorem isp_congr {nn : Nat} {nt t u : Nat → Int32} {n0 n1 : Nat} (h : ∀ j, j < n1 → u j = t j) (h0 : n0 ≤ n1) : isp nn nt u n0 n1 ↔ isp nn nt t n0 n1 := by
  unfold isp
  constructor
  · exact fun z => ⟨z.1, fun j q => by rw [← h (n0 + j) (by omega)]; exact z.2 j q⟩
  · exact fun z => ⟨z.1, fun j q => by rw [h (n0 + j) (by omega)]; exact z.2 j q⟩
theorem mat_congr {t u : Nat → Int32} {n sh m0 m1 n0 n1 nn mn : Nat} {nt mt : Nat → Int32} (h : ∀ j, j < n → u j = t j) (h1 : m0 ≤ m1) (h2 : m1 ≤ n) (h3 : n0 ≤ n1) (h4 : n1 ≤ n) : mat u sh m0 m1 n0 n1 nn nt mn mt ↔ mat t sh m0 m1 n0 n1 nn nt mn mt := by
  have a1 := isp_congr (nn := mn) (nt := mt) (t := t) (u := u) (fun j q => h j (Nat.lt_of_lt_of_le q h2)) h1
  have a2 := isp_congr (nn := nn) (nt := nt) (t := t) (u := u) (fun j q => h j (Nat.lt_of_lt_of_le q h4)) h3
  have a3 := bgn_congr (nn := nn) (nt := nt) (t := t) (u := u) (fun j q => h j (Nat.lt_of_lt_of_le q h4)) h3
  unfold mat
  rw [a1, a2, a3]
/-- three registers -/
def ad3 (a b c : Nat) : Nat → Nat := fun k => if k = 0 then a else if k = 1 then b else c
def E3 (x y z : va_E) : Nat → va_E := fun k => if k = 0 then x else if k = 1 then y else z
theorem ad3_inj {a b c : Nat} (h1 : a ≠ b) (h2 : a ≠ c) (h3 : b ≠ c) : ∀ i j, i < 3 → j < 3 → ad3 a b c i = ad3 a b c j → i = j := by
  intro i j hi hj
  rcases (show i = 0 ∨ i = 1 ∨ i = 2 by omega) with rfl | rfl | rfl <;> rcases (show j = 0 ∨ j = 1 ∨ j = 2 by omega) with rfl | rfl | rfl <;> intro h <;> first | rfl | exact absurd h h1 | exact absurd h h2 | exact absurd h h3 | exact absurd h (Ne.symm h1) | exact absurd h (Ne.symm h2) | exact absurd h (Ne.symm h3)
/-- all but three cells of a world, as what stays -/
def but3 (f : Wd) (a b c : Nat) : Wd := fun q => if q = a ∨ q = b ∨ q = c then none else f q
theorem but3_of {f : Wd} {a b c q : Nat} {e : va_E} (h : f q = some e) (h1 : q ≠ a) (h2 : q ≠ b) (h3 : q ≠ c) : but3 f a b c q = some e := by
  unfold but3
  rw [if_neg (fun z => z.elim h1 (fun z => z.elim h2 h3))]
  exact h
theorem Rg3 {f : Wd} {a b c : Nat} {x y z : va_E} (h1 : f a = some x) (h2 : f b = some y) (h3 : f c = some z) (n1 : a ≠ b) (n2 : a ≠ c) (n3 : b ≠ c) : Rg 3 (ad3 a b c) (E3 x y z) (but3 f a b c) f := by
  refine ⟨fun k hk => ?_, ad3_inj n1 n2 n3, fun q e h => ?_, fun k hk => ?_⟩
  · rcases (show k = 0 ∨ k = 1 ∨ k = 2 by omega) with rfl | rfl | rfl
    · exact h1
    · exact h2
    · exact h3
  · unfold but3 at h
    by_cases hq : q = a ∨ q = b ∨ q = c
    · rw [if_pos hq] at h; cases h
    · rw [if_neg hq] at h; exact h
  · rcases (show k = 0 ∨ k = 1 ∨ k = 2 by omega) with rfl | rfl | rfl
    · unfold but3; exact if_pos (Or.inl rfl)
    · unfold but3; exact if_pos (Or.inr (Or.inl rfl))
    · unfold but3; exact if_pos (Or.inr (Or.inr rfl))
theorem Rg.E {n : Nat} {ad : Nat → Nat} {E E' : Nat → va_E} {g f : Wd} (h : Rg n ad E g f) (he : ∀ k, k < n → E k = E' k) : Rg n ad E' g f := ⟨fun k hk => by rw [← he k hk]; exact h.1 k hk, h.2⟩
/-- all old cells but one are as they were -/
def hld (f fk : Wd) (ra : Nat) : Prop := ∀ (q : Nat) (e : va_E), f q = some e → q ≠ ra → fk q = some e
theorem hld.rf {f : Wd} {ra : Nat} : hld f f ra := fun _ _ h _ => h
theorem hld.at {f fk : Wd} {ra : Nat} {v : Option va_E} (h : hld f fk ra) : hld f (va_up fk ra v) ra := fun q e h1 h2 => by
  rw [va_up_ne _ _ h2]; exact h q e h1 h2
theorem hld.new {f fk : Wd} {ra x : Nat} {v : Option va_E} (h : hld f fk ra) (hx : f x = none) : hld f (va_up fk x v) ra := fun q e h1 h2 => by
  rw [va_up_ne _ _ (wnf h1 hx)]; exact h q e h1 h2
theorem hld.fresh {f fk : Wd} {ra x : Nat} {e : va_E} (h : hld f fk ra) (hr : fk ra = some e) (hx : fk x = none) : f x = none := by
  cases hf : f x with
  | none => rfl
  | some y =>
    by_cases hq : x = ra
    · subst hq; rw [hr] at hx; cases hx
    · rw [h x y hf hq] at hx; cases hx
theorem pk_lim {t : Nat → Int32} {a e : Nat} (h : pkd t a e = 1) : ∃ k, k < 4 ∧ lmV t a (eqc t a e) = nI k := by
  unfold pkd at h
  by_cases h0 : a = e
  · rw [pif_t h0] at h; omega
  · rw [pif_f h0] at h
    by_cases h1 : eqc t a e < e
    · rw [pif_t h1] at h
      by_cases h2 : lok t a (eqc t a e) e
      · have hn := h2.1
        unfold lmV at hn ⊢
        by_cases w0 : isw t a (eqc t a e) (bytTx.getD 0 [])
        · rw [pif_t w0]; exact ⟨0, by omega, rfl⟩
        · rw [pif_f w0] at hn ⊢
          by_cases w1 : isw t a (eqc t a e) (bytTx.getD 1 [])
          · rw [pif_t w1]; exact ⟨1, by omega, rfl⟩
          · rw [pif_f w1] at hn ⊢
            by_cases w2 : isw t a (eqc t a e) (bytTx.getD 2 [])
            · rw [pif_t w2]; exact ⟨2, by omega, rfl⟩
            · rw [pif_f w2] at hn ⊢
              by_cases w3 : isw t a (eqc t a e) (bytTx.getD 3 [])
              · rw [pif_t w3]; exact ⟨3, by omega, rfl⟩
              · rw [pif_f w3] at hn; exact absurd rfl hn
      · rw [pif_f h2] at h; omega
    · rw [pif_f h1] at h
      by_cases h2 : okC t a e
      · rw [pif_t h2] at h; omega
      · rw [pif_f h2] at h; omega
