/-! THE LOG holds a text: sign b + j of the log S is sign j of the text t, of n signs -/
def agr (S : Nat → Int32) (b : Nat) (t : Nat → Int32) (n : Nat) : Prop := ∀ j, j < n → S (b + j) = t j
section SH
variable {S t : Nat → Int32} {b n : Nat}
theorem fnd_sh (h : agr S b t n) (x : Int32) : ∀ k a, a + k ≤ n → fnd S x k (b + a) = b + fnd t x k a := by
  intro k
  induction k with
  | zero => intro a _; rfl
  | succ k ih =>
    intro a ha
    show (if S (b + a) = x then b + a else fnd S x k (b + a + 1)) = b + (if t a = x then a else fnd t x k (a + 1))
    rw [h a (by omega)]
    by_cases q : t a = x
    · rw [if_pos q, if_pos q]
    · rw [if_neg q, if_neg q]; exact ih (a + 1) (by omega)
theorem pnx_sh (h : agr S b t n) {a : Nat} (ha : a ≤ n) : pnx S (b + n) (b + a) = b + pnx t n a := by
  unfold pnx
  rw [show b + n - (b + a) = n - a by omega]
  exact fnd_sh h 59 _ _ (by omega)
theorem eqc_sh (h : agr S b t n) {a e : Nat} (hae : a ≤ e) (he : e ≤ n) : eqc S (b + a) (b + e) = b + eqc t a e := by
  unfold eqc
  rw [show b + e - (b + a) = e - a by omega]
  exact fnd_sh h 61 _ _ (by omega)
theorem isw_sh (h : agr S b t n) {a q : Nat} (hq : q ≤ n) (haq : a ≤ q) {w : List Int32} : isw S (b + a) (b + q) w ↔ isw t a q w := by
  unfold isw
  rw [show b + q - (b + a) = q - a by omega]
  constructor
  · rintro ⟨z1, z2⟩
    refine ⟨z1, fun j hj => ?_⟩
    rw [← h (a + j) (by omega), ← Nat.add_assoc]
    exact z2 j hj
  · rintro ⟨z1, z2⟩
    refine ⟨z1, fun j hj => ?_⟩
    rw [Nat.add_assoc, h (a + j) (by omega)]
    exact z2 j hj
theorem lmV_sh (h : agr S b t n) {a q : Nat} (hq : q ≤ n) (haq : a ≤ q) : lmV S (b + a) (b + q) = lmV t a q := by
  unfold lmV
  rw [propext (isw_sh h hq haq (w := bytTx.getD 0 [])), propext (isw_sh h hq haq (w := bytTx.getD 1 [])), propext (isw_sh h hq haq (w := bytTx.getD 2 [])), propext (isw_sh h hq haq (w := bytTx.getD 3 []))]
theorem nok_sh (h : agr S b t n) {d e : Nat} (he : e ≤ n) : nok S (b + d) (b + e) ↔ nok t d e := by
  unfold nok
  rw [show b + e - (b + d) = e - d by omega]
  constructor
  · rintro ⟨z1, z2, z3⟩
    refine ⟨z1, z2, fun j hj => ?_⟩
    rw [← h (d + j) (by omega), ← Nat.add_assoc]
    exact z3 j hj
  · rintro ⟨z1, z2, z3⟩
    refine ⟨z1, z2, fun j hj => ?_⟩
    rw [Nat.add_assoc, h (d + j) (by omega)]
    exact z3 j hj
theorem nmb_sh (h : agr S b t n) {d : Nat} : ∀ k, d + k ≤ n → nmb S (b + d) k = nmb t d k := by
  intro k
  induction k with
  | zero => intro _; rfl
  | succ k ih =>
    intro hk
    show nmb S (b + d) k * 10 + (S (b + d + k) - 48) = nmb t d k * 10 + (t (d + k) - 48)
    rw [ih (by omega), Nat.add_assoc, h (d + k) (by omega)]
theorem lok_sh (h : agr S b t n) {a q e : Nat} (haq : a ≤ q) (hq : q ≤ n) (he : e ≤ n) : lok S (b + a) (b + q) (b + e) ↔ lok t a q e := by
  unfold lok
  rw [lmV_sh h hq haq, Nat.add_assoc, nok_sh h he]
theorem sg_sh (h : agr S b t n) {e k : Nat} (hk : 1 ≤ k) (hke : k ≤ e) (he : e ≤ n) : S (b + e - k) = t (e - k) := by
  rw [show b + e - k = b + (e - k) by omega]
  exact h _ (by omega)
theorem s2_sh (h : agr S b t n) {c e : Nat} (he : e ≤ n) : s2 S (b + c) (b + e) ↔ s2 t c e := by
  unfold s2
  rw [show b + e - (b + c) = e - c by omega]
  by_cases z : 3 ≤ e - c
  · rw [sg_sh h (by omega) (by omega) he, sg_sh h (by omega) (by omega) he, sg_sh h (by omega) (by omega) he]
  · exact ⟨fun y => absurd y.1 z, fun y => absurd y.1 z⟩
theorem s1_sh (h : agr S b t n) {c e : Nat} (he : e ≤ n) : s1 S (b + c) (b + e) ↔ s1 t c e := by
  unfold s1
  rw [show b + e - (b + c) = e - c by omega]
  by_cases z : 2 ≤ e - c
  · rw [sg_sh h (by omega) (by omega) he, sg_sh h (by omega) (by omega) he]
  · exact ⟨fun y => absurd y.1 z, fun y => absurd y.1 z⟩
theorem s3_sh (h : agr S b t n) {c e : Nat} (he : e ≤ n) : s3 S (b + c) (b + e) ↔ s3 t c e := by
  unfold s3
  rw [show b + e - (b + c) = e - c by omega]
  by_cases z : 1 ≤ e - c
  · rw [sg_sh h (by omega) (by omega) he]
  · exact ⟨fun y => absurd y.1 z, fun y => absurd y.1 z⟩
theorem shp_sh (h : agr S b t n) {c e : Nat} (he : e ≤ n) : shp S (b + c) (b + e) = shp t c e := by
  unfold shp
  rw [propext (s2_sh h he), propext (s1_sh h he), propext (s3_sh h he)]
theorem pif_add {P : Prop} {x y c : Nat} : c + pif P x y = pif P (c + x) (c + y) := by
  by_cases z : P
  · rw [pif_t z, pif_t z]
  · rw [pif_f z, pif_f z]
theorem qtm_sh (h : agr S b t n) {c e : Nat} (he : e ≤ n) : qtm S (b + c) (b + e) = b + qtm t c e := by
  unfold qtm
  rw [propext (s2_sh h he), propext (s1_sh h he), propext (s3_sh h he)]
  by_cases z2 : s2 t c e
  · rw [pif_t z2, pif_t z2]; have := z2.1; omega
  · rw [pif_f z2, pif_f z2]
    by_cases z1 : s1 t c e
    · rw [pif_t z1, pif_t z1]; have := z1.1; omega
    · rw [pif_f z1, pif_f z1]
      by_cases z3 : s3 t c e
      · rw [pif_t z3, pif_t z3]; have := z3.1; omega
      · rw [pif_f z3, pif_f z3]
theorem okN_sh (h : agr S b t n) {c e : Nat} (he : e ≤ n) : okN S (b + c) (b + e) ↔ okN t c e := by
  unfold okN
  rw [propext (s2_sh h he), propext (s1_sh h he), propext (s3_sh h he), show b + e - 2 - (b + c) = e - 2 - c by omega, show b + e - 1 - (b + c) = e - 1 - c by omega, show (b + c < b + e) = (c < e) from propext (by omega)]
theorem m0c_sh (h : agr S b t n) {a : Nat} (ha : a < n) : m0c S (b + a) = b + m0c t a := by
  unfold m0c
  rw [h a ha, pif_add]
  rfl
theorem slc_sh (h : agr S b t n) {a e : Nat} (ha : a < e) (he : e ≤ n) : slc S (b + a) (b + e) = b + slc t a e := by
  have h1 := m0c_in (t := t) ha
  unfold slc
  rw [m0c_sh h (by omega), show b + e - (b + m0c t a) = e - m0c t a by omega]
  exact fnd_sh h 47 _ _ (by omega)
theorem m1c_sh (h : agr S b t n) {a e : Nat} (ha : a < e) (he : e ≤ n) : m1c S (b + a) (b + e) = b + m1c t a e := by
  unfold m1c
  rw [slc_sh h ha he, m0c_sh h (by omega), show (b + slc t a e = b + e) = (slc t a e = e) from propext (by omega), pif_add]
theorem q0c_sh (h : agr S b t n) {a e : Nat} (ha : a < e) (he : e ≤ n) : q0c S (b + a) (b + e) = b + q0c t a e := by
  unfold q0c
  rw [slc_sh h ha he, m0c_sh h (by omega), show (b + slc t a e = b + e) = (slc t a e = e) from propext (by omega), pif_add]
  rfl
theorem okC_sh (h : agr S b t n) {a e : Nat} (ha : a < e) (he : e ≤ n) : okC S (b + a) (b + e) ↔ okC t a e := by
  unfold okC
  rw [q0c_sh h ha he, okN_sh h he, slc_sh h ha he, m0c_sh h (by omega), show (b + slc t a e = b + e) = (slc t a e = e) from propext (by omega), show (b + m0c t a < b + slc t a e) = (m0c t a < slc t a e) from propext (by omega)]
theorem pkd_sh (h : agr S b t n) {a e : Nat} (ha : a ≤ e) (he : e ≤ n) : pkd S (b + a) (b + e) = pkd t a e := by
  by_cases z0 : a = e
  · rw [pkd0 z0, pkd0 (by omega)]
  · have hin := fnd_in t 61 (e - a) a
    change a ≤ eqc t a e ∧ eqc t a e ≤ a + (e - a) at hin
    have he1 := eqc_sh h ha he
    by_cases z1 : eqc t a e < e
    · rw [pkd_l z0 z1, pkd_l (by omega) (by omega), he1, propext (lok_sh h hin.1 (by omega) he)]
    · by_cases z2 : okC t a e
      · rw [pkd2 z0 z1 z2, pkd2 (by omega) (by omega) ((okC_sh h (by omega) he).mpr z2)]
      · rw [pkd3 z0 z1 z2, pkd3 (by omega) (by omega) (fun y => z2 ((okC_sh h (by omega) he).mp y))]
theorem pkd_ne {a e : Nat} (ha : a ≤ e) (h : ¬ pkd t a e = 0) : a < e := by
  rcases Nat.lt_or_ge a e with z | z
  · exact z
  · exact absurd (pkd0 (S := t) (show a = e by omega)) h
/-- a piece's data, told over the text -/
def pcr (b : Nat) (t : Nat → Int32) (a e : Nat) (sc' : Nat → Int32) : Prop := sc' 14 = nI (b + e) ∧ (pkd t a e = 1 → sc' 15 = lmV t a (eqc t a e) ∧ sc' 16 = nmb t (eqc t a e + 1) (e - (eqc t a e + 1))) ∧ (pkd t a e = 2 → sc' 17 = bI (t a = 33) ∧ sc' 18 = nI (b + m0c t a) ∧ sc' 19 = nI (b + m1c t a e) ∧ sc' 20 = nI (b + q0c t a e) ∧ sc' 21 = nI (b + qtm t (q0c t a e) e) ∧ sc' 22 = nI (shp t (q0c t a e) e))
theorem pcr_of (h : agr S b t n) {a e : Nat} {sc' : Nat → Int32} (ha : a ≤ e) (he : e ≤ n) (hp : pcd S (b + a) (b + e) sc') : pcr b t a e sc' := by
  obtain ⟨p1, p2, p3⟩ := hp
  have hin := fnd_in t 61 (e - a) a
  change a ≤ eqc t a e ∧ eqc t a e ≤ a + (e - a) at hin
  rw [pkd_sh h ha he] at p2 p3
  refine ⟨p1, fun z => ?_, fun z => ?_⟩
  · have hae := pkd_ne (t := t) ha (by omega)
    obtain ⟨q1, q2⟩ := p2 z
    have hlt : eqc t a e < e := by
      rcases Nat.lt_or_ge (eqc t a e) e with y | y
      · exact y
      · exfalso
        by_cases w : okC t a e
        · rw [pkd2 (by omega) (by omega) w] at z; omega
        · rw [pkd3 (by omega) (by omega) w] at z; omega
    rw [eqc_sh h ha he] at q1 q2
    rw [lmV_sh h (by omega) hin.1] at q1
    rw [Nat.add_assoc, show b + e - (b + (eqc t a e + 1)) = e - (eqc t a e + 1) by omega, nmb_sh h _ (by omega)] at q2
    exact ⟨q1, q2⟩
  · have hae := pkd_ne (t := t) ha (by omega)
    have p3 := p3 z
    rw [h a (by omega), m0c_sh h (by omega), m1c_sh h hae he, q0c_sh h hae he, qtm_sh h he, shp_sh h he] at p3
    exact p3
end SH
theorem pst_end (t : Nat → Int32) (n : Nat) : pst t n (npc t n) = n + 1 := by
  have h0 : npc t n = cntS t n + 1 := rfl
  obtain ⟨h1, h2⟩ := pst_in (t := t) (n := n) (cntS t n) (by omega)
  have h3 := pnx_in (t := t) h1
  have h4 := (pst_last (t := t) (n := n) (k := cntS t n) (by omega))
  rw [h0]
  show pnx t n (pst t n (cntS t n)) + 1 = n + 1
  rcases Nat.lt_or_ge (pnx t n (pst t n (cntS t n))) n with z | z
  · have := h4.mpr z; omega
  · omega
theorem pst_k {t : Nat → Int32} {n k : Nat} (hk : k ≤ npc t n) (h : pst t n k ≤ n) : k < npc t n := by
  rcases Nat.lt_or_ge k (npc t n) with z | z
  · exact z
  · have e : k = npc t n := by omega
    rw [e, pst_end] at h; omega
theorem pst_e {t : Nat → Int32} {n k : Nat} (hk : k ≤ npc t n) (h : ¬ pst t n k ≤ n) : k = npc t n := by
  rcases Nat.lt_or_ge k (npc t n) with z | z
  · exact absurd (pst_in (t := t) k z).1 h
  · omega
theorem pst_le {t : Nat → Int32} {n k : Nat} (hk : k ≤ npc t n) : pst t n k ≤ n + 1 := by
  rcases Nat.lt_or_ge k (npc t n) with z | z
  · have := (pst_in (t := t) k z).1; omega
  · rw [show k = npc t n by omega, pst_end]; omega
theorem fbk_s {t : Nat → Int32} {n k : Nat} (hk : k < npc t n) : fbk t n (npc t n - k) k = pif (pkd t (pst t n k) (pnx t n (pst t n k)) = 3) (nI k) (fbk t n (npc t n - (k + 1)) (k + 1)) := by
  rw [show npc t n - k = (npc t n - (k + 1)) + 1 by omega]
  rfl
/-- class pattern i, counted over the pieces, is the piece's -/
theorem cxi_at {t : Nat → Int32} {n k : Nat} (hk : k < npc t n) (hp : pk t n k = 2) : cxi t n (clsU t n k).length = k ∧ (clsU t n k).length < (clsU t n (npc t n)).length := by
  have hg : ∀ m, k + 1 ≤ m → m ≤ npc t n → (clsU t n m).getD (clsU t n k).length 0 = k ∧ (clsU t n k).length < (clsU t n m).length := by
    intro m
    induction m with
    | zero => intro h; omega
    | succ m ih =>
      intro h1 h2
      rcases Nat.lt_or_ge k m with z | z
      · obtain ⟨i1, i2⟩ := ih z (by omega)
        obtain ⟨g1, g2⟩ := clsU_grow (t := t) (n := n) i2
        exact ⟨g1.trans i1, g2⟩
      · have e : m = k := by omega
        subst e
        have e : clsU t n (m + 1) = clsU t n m ++ [m] := pif_t hp
        rw [e, List.getD_eq_getElem?_getD, List.getElem?_append_right (Nat.le_refl _), Nat.sub_self, List.length_append]
        exact ⟨rfl, Nat.lt_succ_self _⟩
  exact hg (npc t n) hk (Nat.le_refl _)
