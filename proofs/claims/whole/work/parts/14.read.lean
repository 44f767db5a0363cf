/-! READING, purely: a text is its signs t and its length; a piece is from a (it counts) to e (it doesn't) -/
noncomputable def pif {α : Type} (P : Prop) (x y : α) : α := @ite α P (Classical.propDecidable P) x y
theorem pif_t {α : Type} {P : Prop} {x y : α} (h : P) : pif P x y = x := by unfold pif; exact if_pos h
theorem pif_f {α : Type} {P : Prop} {x y : α} (h : ¬ P) : pif P x y = y := by unfold pif; exact if_neg h
theorem up_id {f : Wd} {a : Nat} {e : va_E} (h : f a = some e) : va_up f a (some e) = f := by
  funext j
  by_cases hj : j = a
  · subst hj; rw [va_up_self]; exact h.symm
  · rw [va_up_ne _ _ hj]
/-- the signs from a to b are the word w -/
def isw (t : Nat → Int32) (a b : Nat) (w : List Int32) : Prop := b - a = w.length ∧ ∀ j, j < w.length → t (a + j) = w.getD j 0
theorem tx_ok : ∀ k, k < nTx → lenTx.getD k 0 = (bytTx.getD k []).length ∧ lenTx.getD k 0 < 2 ^ 31 ∧ ∀ j, j < lenTx.getD k 0 → (bytTx.getD k []).getD j 0 &&& 255 = (bytTx.getD k []).getD j 0 := by decide +kernel
/-- which limit a name is; -2: none -/
noncomputable def lmV (t : Nat → Int32) (a q : Nat) : Int32 := pif (isw t a q (bytTx.getD 0 [])) 0 (pif (isw t a q (bytTx.getD 1 [])) 1 (pif (isw t a q (bytTx.getD 2 [])) 2 (pif (isw t a q (bytTx.getD 3 [])) 3 (-2))))
/-- one to nine digits from d to e -/
def nok (t : Nat → Int32) (d e : Nat) : Prop := 1 ≤ e - d ∧ e - d ≤ 9 ∧ ∀ j, j < e - d → 48 ≤ t (d + j) ∧ t (d + j) ≤ 57
/-- the number that k digits from d on are -/
def nmb (t : Nat → Int32) (d : Nat) : Nat → Int32
  | 0 => 0
  | k + 1 => nmb t d k * 10 + (t (d + k) - 48)
def lok (t : Nat → Int32) (a q e : Nat) : Prop := ¬ lmV t a q = -2 ∧ nok t (q + 1) e
/-- a name's shape, from b to e -/
def s2 (t : Nat → Int32) (b e : Nat) : Prop := 3 ≤ e - b ∧ t (e - 1) = 42 ∧ t (e - 2) = 42 ∧ t (e - 3) = 46
def s1 (t : Nat → Int32) (b e : Nat) : Prop := 2 ≤ e - b ∧ t (e - 1) = 42 ∧ t (e - 2) = 46
def s3 (t : Nat → Int32) (b e : Nat) : Prop := 1 ≤ e - b ∧ t (e - 1) = 42
noncomputable def shp (t : Nat → Int32) (b e : Nat) : Nat := pif (s2 t b e) 2 (pif (s1 t b e) 1 (pif (s3 t b e) 3 0))
/-- the end of the signs that a class's name must begin with -/
noncomputable def nmE (t : Nat → Int32) (b e : Nat) : Nat := pif (s2 t b e) (e - 2) (pif (s1 t b e) (e - 1) (pif (s3 t b e) (e - 1) e))
def okN (t : Nat → Int32) (b e : Nat) : Prop := (s2 t b e → 2 ≤ e - 2 - b) ∧ (¬ s2 t b e → s1 t b e → 2 ≤ e - 1 - b) ∧ (¬ s2 t b e → ¬ s1 t b e → ¬ s3 t b e → b < e)
noncomputable def m0c (t : Nat → Int32) (a : Nat) : Nat := pif (t a = 33) (a + 1) a
noncomputable def slc (t : Nat → Int32) (a e : Nat) : Nat := fnd t 47 (e - m0c t a) (m0c t a)
noncomputable def m1c (t : Nat → Int32) (a e : Nat) : Nat := pif (slc t a e = e) (m0c t a) (slc t a e)
noncomputable def q0c (t : Nat → Int32) (a e : Nat) : Nat := pif (slc t a e = e) (m0c t a) (slc t a e + 1)
def okC (t : Nat → Int32) (a e : Nat) : Prop := (¬ slc t a e = e → m0c t a < slc t a e) ∧ okN t (q0c t a e) e
/-- where '=' first stands in a piece -/
def eqc (t : Nat → Int32) (a e : Nat) : Nat := fnd t 61 (e - a) a
/-- a piece's kind: 0 empty, 1 a limit, 2 a class pattern, 3 bad -/
noncomputable def pkd (t : Nat → Int32) (a e : Nat) : Nat := pif (a = e) 0 (pif (eqc t a e < e) (pif (lok t a (eqc t a e) e) 1 3) (pif (okC t a e) 2 3))
/-- a piece's end; the pieces' starts; how many pieces -/
def pnx (t : Nat → Int32) (n a : Nat) : Nat := fnd t 59 (n - a) a
def pst (t : Nat → Int32) (n : Nat) : Nat → Nat
  | 0 => 0
  | k + 1 => pnx t n (pst t n k) + 1
def cntS (t : Nat → Int32) : Nat → Nat
  | 0 => 0
  | n + 1 => cntS t n + (if t n = 59 then 1 else 0)
def npc (t : Nat → Int32) (n : Nat) : Nat := cntS t n + 1
theorem m0c_in {t : Nat → Int32} {a e : Nat} (h : a < e) : a ≤ m0c t a ∧ m0c t a ≤ e := by
  unfold m0c
  by_cases h1 : t a = 33
  · rw [pif_t h1]; omega
  · rw [pif_f h1]; omega
theorem slc_in {t : Nat → Int32} {a e : Nat} (h : a < e) : m0c t a ≤ slc t a e ∧ slc t a e ≤ e := by
  have h1 := m0c_in (t := t) h
  have h2 := fnd_in t 47 (e - m0c t a) (m0c t a)
  unfold slc
  omega
theorem q0c_in {t : Nat → Int32} {a e : Nat} (h : a < e) : a ≤ q0c t a e ∧ q0c t a e ≤ e ∧ m0c t a ≤ m1c t a e ∧ m1c t a e ≤ e := by
  have h1 := m0c_in (t := t) h
  have h2 := slc_in (t := t) h
  unfold q0c m1c
  by_cases h3 : slc t a e = e
  · rw [pif_t h3, pif_t h3]; omega
  · rw [pif_f h3, pif_f h3]; omega
theorem nmE_in {t : Nat → Int32} {b e : Nat} (h : b ≤ e) : b ≤ nmE t b e ∧ nmE t b e ≤ e := by
  unfold nmE
  by_cases h2 : s2 t b e
  · rw [pif_t h2]; have := h2.1; omega
  · rw [pif_f h2]
    by_cases h1 : s1 t b e
    · rw [pif_t h1]; have := h1.1; omega
    · rw [pif_f h1]
      by_cases h3 : s3 t b e
      · rw [pif_t h3]; have := h3.1; omega
      · rw [pif_f h3]; omega
theorem shp_in (t : Nat → Int32) (b e : Nat) : shp t b e ≤ 3 := by
  unfold shp
  by_cases h2 : s2 t b e
  · rw [pif_t h2]; omega
  · rw [pif_f h2]
    by_cases h1 : s1 t b e
    · rw [pif_t h1]; omega
    · rw [pif_f h1]
      by_cases h3 : s3 t b e
      · rw [pif_t h3]; omega
      · rw [pif_f h3]; omega
theorem pnx_in {t : Nat → Int32} {n a : Nat} (h : a ≤ n) : a ≤ pnx t n a ∧ pnx t n a ≤ n := by
  have h2 := fnd_in t 59 (n - a) a
  unfold pnx
  omega
theorem cntS_no {t : Nat → Int32} {a : Nat} : ∀ b, a ≤ b → (∀ j, a ≤ j → j < b → ¬ t j = 59) → cntS t b = cntS t a := by
  intro b
  induction b with
  | zero => intro h _; rw [show a = 0 by omega]
  | succ b ih =>
    intro h hn
    by_cases hab : a = b + 1
    · rw [hab]
    · show cntS t b + (if t b = 59 then 1 else 0) = _
      rw [if_neg (hn b (by omega) (by omega)), ih (by omega) (fun j h1 h2 => hn j h1 (by omega))]
      omega
theorem cntS_le {t : Nat → Int32} {a : Nat} : ∀ b, a ≤ b → cntS t a ≤ cntS t b := by
  intro b
  induction b with
  | zero => intro h; rw [show a = 0 by omega]; omega
  | succ b ih =>
    intro h
    by_cases hab : a = b + 1
    · rw [hab]; omega
    · have := ih (by omega)
      show _ ≤ cntS t b + (if t b = 59 then 1 else 0)
      omega
/-- piece k starts within the text, and k of the signs before it are ';' -/
theorem pst_in {t : Nat → Int32} {n : Nat} : ∀ k, k < npc t n → pst t n k ≤ n ∧ cntS t (pst t n k) = k := by
  intro k
  induction k with
  | zero => intro _; exact ⟨Nat.zero_le _, rfl⟩
  | succ k ih =>
    intro h
    obtain ⟨h1, h2⟩ := ih (by omega)
    have h3 := pnx_in (t := t) h1
    have hm : ∀ j, pst t n k ≤ j → j < pnx t n (pst t n k) → ¬ t j = 59 := fnd_miss t 59 (n - pst t n k) (pst t n k)
    have h4 := cntS_no (t := t) _ h3.1 hm
    have hlt : pnx t n (pst t n k) < n := by
      rcases Nat.lt_or_ge (pnx t n (pst t n k)) n with q | q
      · exact q
      · have e : pnx t n (pst t n k) = n := by omega
        rw [e] at h4
        unfold npc at h
        omega
    have hh : t (pnx t n (pst t n k)) = 59 := fnd_hit t 59 (n - pst t n k) (pst t n k) (by unfold pnx at hlt; omega)
    refine ⟨by show pnx t n (pst t n k) + 1 ≤ n; omega, ?_⟩
    show cntS t (pnx t n (pst t n k)) + (if t (pnx t n (pst t n k)) = 59 then 1 else 0) = k + 1
    rw [if_pos hh]
    omega
/-- a piece that isn't the last ends before the text does; the last ends with it -/
theorem pst_last {t : Nat → Int32} {n k : Nat} (h : k < npc t n) : (k + 1 < npc t n ↔ pnx t n (pst t n k) < n) := by
  obtain ⟨h1, h2⟩ := pst_in k h
  have h3 := pnx_in (t := t) h1
  constructor
  · intro q
    have := (pst_in (k + 1) q).1
    show pnx t n (pst t n k) < n
    have e : pst t n (k + 1) = pnx t n (pst t n k) + 1 := rfl
    omega
  · intro q
    have hm : ∀ j, pst t n k ≤ j → j < pnx t n (pst t n k) → ¬ t j = 59 := fnd_miss t 59 (n - pst t n k) (pst t n k)
    have h4 := cntS_no (t := t) _ h3.1 hm
    have hh : t (pnx t n (pst t n k)) = 59 := fnd_hit t 59 (n - pst t n k) (pst t n k) (by unfold pnx at q; omega)
    have h5 := cntS_le (t := t) n (show pnx t n (pst t n k) + 1 ≤ n by omega)
    have h6 : cntS t (pnx t n (pst t n k) + 1) = cntS t (pnx t n (pst t n k)) + 1 := by
      show cntS t (pnx t n (pst t n k)) + (if t (pnx t n (pst t n k)) = 59 then 1 else 0) = _
      rw [if_pos hh]
    unfold npc
    omega
theorem npc_le {t : Nat → Int32} : ∀ n, npc t n ≤ n + 1 := by
  intro n
  unfold npc
  have : ∀ n, cntS t n ≤ n := by
    intro n
    induction n with
    | zero => exact Nat.le_refl _
    | succ n ih =>
      show cntS t n + (if t n = 59 then 1 else 0) ≤ n + 1
      by_cases h : t n = 59
      · rw [if_pos h]; omega
      · rw [if_neg h]; omega
  have := this n
  omega
/-- how many pieces come before the first bad one -/
noncomputable def fbk (t : Nat → Int32) (n : Nat) : Nat → Nat → Int32
  | 0, _ => -2
  | m + 1, k => pif (pkd t (pst t n k) (pnx t n (pst t n k)) = 3) (nI k) (fbk t n m (k + 1))
/-- a word's end of a name, as a shape -/
theorem isw_e {t : Nat → Int32} {b e : Nat} (h : b ≤ e) : (isw t (max b (e - 3)) e [46, 42, 42] ↔ s2 t b e) ∧ (isw t (max b (e - 2)) e [46, 42] ↔ s1 t b e) ∧ (isw t (max b (e - 1)) e [42] ↔ s3 t b e) := by
  refine ⟨⟨fun z => ?_, fun z => ?_⟩, ⟨fun z => ?_, fun z => ?_⟩, ⟨fun z => ?_, fun z => ?_⟩⟩
  · have h1 : e - max b (e - 3) = 3 := z.1
    have a0 := z.2 0 (by decide)
    have a1 := z.2 1 (by decide)
    have a2 := z.2 2 (by decide)
    rw [show max b (e - 3) = e - 3 by omega] at a0 a1 a2
    rw [show e - 3 + 0 = e - 3 by omega] at a0
    rw [show e - 3 + 1 = e - 2 by omega] at a1
    rw [show e - 3 + 2 = e - 1 by omega] at a2
    exact ⟨by omega, a2, a1, a0⟩
  · obtain ⟨h1, h2, h3, h4⟩ := z
    refine ⟨by show e - max b (e - 3) = 3; omega, fun j hj => ?_⟩
    have hj : j < 3 := hj
    rw [show max b (e - 3) = e - 3 by omega]
    rcases (show j = 0 ∨ j = 1 ∨ j = 2 by omega) with rfl | rfl | rfl
    · rw [show e - 3 + 0 = e - 3 by omega]; exact h4
    · rw [show e - 3 + 1 = e - 2 by omega]; exact h3
    · rw [show e - 3 + 2 = e - 1 by omega]; exact h2
  · have h1 : e - max b (e - 2) = 2 := z.1
    have a0 := z.2 0 (by decide)
    have a1 := z.2 1 (by decide)
    rw [show max b (e - 2) = e - 2 by omega] at a0 a1
    rw [show e - 2 + 0 = e - 2 by omega] at a0
    rw [show e - 2 + 1 = e - 1 by omega] at a1
    exact ⟨by omega, a1, a0⟩
  · obtain ⟨h1, h2, h3⟩ := z
    refine ⟨by show e - max b (e - 2) = 2; omega, fun j hj => ?_⟩
    have hj : j < 2 := hj
    rw [show max b (e - 2) = e - 2 by omega]
    rcases (show j = 0 ∨ j = 1 by omega) with rfl | rfl
    · rw [show e - 2 + 0 = e - 2 by omega]; exact h3
    · rw [show e - 2 + 1 = e - 1 by omega]; exact h2
  · have h1 : e - max b (e - 1) = 1 := z.1
    have a0 := z.2 0 (by decide)
    rw [show max b (e - 1) = e - 1 by omega] at a0
    exact ⟨by omega, a0⟩
  · obtain ⟨h1, h2⟩ := z
    refine ⟨by show e - max b (e - 1) = 1; omega, fun j hj => ?_⟩
    have hj : j < 1 := hj
    rw [show max b (e - 1) = e - 1 by omega, show j = 0 by omega]
    exact h2
theorem sg_up {G : GG} {f : Wd} {a r cap n b : Nat} {t : Nat → Int32} {e0 e : va_E} (h : sg G f a r cap n t) (hb : f b = some e0) (hd : (∀ u, e0 ≠ .inr (CI_Signs, u)) ∧ ∀ x, e0 ≠ .inl x) : sg G (va_up f b (some e)) a r cap n t := by
  refine ⟨?_, ?_, h.2.2⟩
  · rw [va_up_ne _ _ (Ne.symm (wne hb h.1 (hd.1 _)))]; exact h.1
  · rw [va_up_ne _ _ (Ne.symm (wne hb h.2.1 (hd.2 _)))]; exact h.2.1
theorem wd_x {i : Nat} {u : List Value} (h : i ≠ CI_Signs := by decide) : (∀ w, (Sum.inr (i, u) : va_E) ≠ .inr (CI_Signs, w)) ∧ ∀ x, (Sum.inr (i, u) : va_E) ≠ .inl x := ⟨fun _ => wd_oo h, fun _ => wd_oa⟩
theorem mxk {b e k : Nat} (hb : b ≤ 90) (he : e ≤ 90) (hk : k ≤ 3) : (if nI b < nI e - nI k then nI e - nI k else nI b) = nI (max b (e - k)) := by
  have h1 : (nI e - nI k).toInt = (e : Int) - k := pk_sub_toInt (by omega) (by omega)
  by_cases h : b < e - k
  · rw [if_pos, pk_sub (by omega), show max b (e - k) = e - k by omega]
    rw [Int32.lt_iff_toInt_lt, h1, nI_toInt (by omega)]
    omega
  · rw [if_neg, show max b (e - k) = b by omega]
    rw [Int32.lt_iff_toInt_lt, h1, nI_toInt (by omega)]
    omega
theorem sbk {e k : Nat} (h : k ≤ e) : nI e - nI k = nI (e - k) := pk_sub h
theorem pkd_in (t : Nat → Int32) (a e : Nat) : pkd t a e ≤ 3 := by
  unfold pkd
  by_cases h0 : a = e
  · rw [pif_t h0]; omega
  · rw [pif_f h0]
    by_cases h1 : eqc t a e < e
    · rw [pif_t h1]
      by_cases h2 : lok t a (eqc t a e) e
      · rw [pif_t h2]; omega
      · rw [pif_f h2]; omega
    · rw [pif_f h1]
      by_cases h2 : okC t a e
      · rw [pif_t h2]; omega
      · rw [pif_f h2]; omega
/-- the kind of piece k -/
noncomputable def pk (t : Nat → Int32) (n k : Nat) : Nat := pkd t (pst t n k) (pnx t n (pst t n k))
/-- the numbers of the class patterns among the first i pieces -/
noncomputable def clsU (t : Nat → Int32) (n : Nat) : Nat → List Nat
  | 0 => []
  | i + 1 => pif (pk t n i = 2) (clsU t n i ++ [i]) (clsU t n i)
theorem clsU_len (t : Nat → Int32) (n : Nat) : ∀ i, (clsU t n i).length ≤ i := by
  intro i
  induction i with
  | zero => exact Nat.le_refl _
  | succ i ih =>
    show (pif (pk t n i = 2) (clsU t n i ++ [i]) (clsU t n i)).length ≤ i + 1
    by_cases h : pk t n i = 2
    · rw [pif_t h, List.length_append]; show _ + 1 ≤ _; omega
    · rw [pif_f h]; omega
