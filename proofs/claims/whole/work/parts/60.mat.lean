/-! A CLASS PATTERN as the reference matches it -/
def mtm (S : Nat → Int32) (sh M0 M1 Q0 QT nn : Nat) (nt : Nat → Int32) (mn : Nat) (mt : Nat → Int32) : Prop := (M0 < M1 → isp mn mt S M0 M1) ∧ bgn nn nt S Q0 QT ∧ (sh = 0 → nn = QT - Q0) ∧ (sh = 1 → QT - Q0 < nn ∧ nt (QT - Q0) = 46 ∧ ∀ k, QT - Q0 + 1 ≤ k → k < nn → ¬ nt k = 46)
theorem qtm_in {t : Nat → Int32} {b e : Nat} (h : b ≤ e) : b ≤ qtm t b e ∧ qtm t b e ≤ e := by
  by_cases z2 : s2 t b e
  · rw [qtm2 z2]; have := z2.1; omega
  · by_cases z1 : s1 t b e
    · rw [qtm1 z2 z1]; have := z1.1; omega
    · by_cases z3 : s3 t b e
      · rw [qtm3 z2 z1 z3]; have := z3.1; omega
      · rw [qtm0 z2 z1 z3]; omega
theorem isp_sh {S t : Nat → Int32} {b n : Nat} (h : agr S b t n) {mn : Nat} {mt : Nat → Int32} {m0 m1 : Nat} (h1 : m1 ≤ n) : isp mn mt S (b + m0) (b + m1) ↔ isp mn mt t m0 m1 := by
  unfold isp
  rw [show b + m1 - (b + m0) = m1 - m0 by omega]
  constructor
  · rintro ⟨z1, z2⟩
    exact ⟨z1, fun j hj => by rw [← h (m0 + j) (by omega), ← Nat.add_assoc]; exact z2 j hj⟩
  · rintro ⟨z1, z2⟩
    exact ⟨z1, fun j hj => by rw [Nat.add_assoc, h (m0 + j) (by omega)]; exact z2 j hj⟩
theorem bgn_sh {S t : Nat → Int32} {b n : Nat} (h : agr S b t n) {nn : Nat} {nt : Nat → Int32} {m0 m1 : Nat} (h1 : m1 ≤ n) : bgn nn nt S (b + m0) (b + m1) ↔ bgn nn nt t m0 m1 := by
  unfold bgn
  rw [show b + m1 - (b + m0) = m1 - m0 by omega]
  constructor
  · rintro ⟨z1, z2⟩
    exact ⟨z1, fun j hj => by rw [← h (m0 + j) (by omega), ← Nat.add_assoc]; exact z2 j hj⟩
  · rintro ⟨z1, z2⟩
    exact ⟨z1, fun j hj => by rw [Nat.add_assoc, h (m0 + j) (by omega)]; exact z2 j hj⟩
theorem mtm_mat {S t : Nat → Int32} {b n : Nat} (h : agr S b t n) {m0 m1 q e nn mn : Nat} {nt mt : Nat → Int32} (hm : m1 ≤ n) (hq : q ≤ e) (he : e ≤ n) : mtm S (shp t q e) (b + m0) (b + m1) (b + q) (b + qtm t q e) nn nt mn mt ↔ mat t (shp t q e) m0 m1 q (nmE t q e) nn nt mn mt := by
  have hqi := qtm_in (t := t) hq
  unfold mtm mat
  rw [isp_sh h hm, bgn_sh h (m1 := qtm t q e) (by omega), show (b + m0 < b + m1) = (m0 < m1) from propext (by omega), show b + qtm t q e - (b + q) = qtm t q e - q by omega]
  by_cases z2 : s2 t q e
  · rw [shp2 z2, qtm2 z2, show nmE t q e = e - 2 from pif_t z2]
    exact ⟨fun z => ⟨z.1, fun y => absurd y (by decide), fun y => absurd y (by decide), fun _ => z.2.1⟩, fun z => ⟨z.1, z.2.2.2 (by decide), fun y => absurd y (by decide), fun y => absurd y (by decide)⟩⟩
  · by_cases z1 : s1 t q e
    · rw [shp1 z2 z1, qtm1 z2 z1, show nmE t q e = e - 1 from (pif_f z2).trans (pif_t z1)]
      have h2 := z1.1
      have hdot := z1.2.2
      constructor
      · rintro ⟨y1, y2, -, y4⟩
        obtain ⟨w1, w2, w3⟩ := y4 rfl
        refine ⟨y1, fun y => absurd y (by decide), fun _ => ⟨⟨by omega, fun j hj => ?_⟩, fun hlt => ?_⟩, fun y => absurd y (by decide)⟩
        · rcases Nat.lt_or_ge j (e - 2 - q) with x | x
          · exact y2.2 j x
          · rw [show j = e - 2 - q by omega, w2, show q + (e - 2 - q) = e - 2 by omega, hdot]
        · have hf := fnd_in nt 46 (nn - (e - 1 - q)) (e - 1 - q)
          exact w3 _ (by omega) hlt (fnd_hit nt 46 (nn - (e - 1 - q)) (e - 1 - q) (by omega))
      · rintro ⟨y1, -, y3, -⟩
        obtain ⟨⟨w1, w2⟩, w3⟩ := y3 rfl
        refine ⟨y1, ⟨by omega, fun j hj => w2 j (by omega)⟩, fun y => absurd y (by decide), fun _ => ⟨by omega, ?_, fun k hk1 hk2 hk3 => w3 ?_⟩⟩
        · have := w2 (e - 2 - q) (by omega)
          rw [show q + (e - 2 - q) = e - 2 by omega, hdot] at this
          exact this
        · have hf := fnd_in nt 46 (nn - (e - 1 - q)) (e - 1 - q)
          rcases Nat.lt_or_ge (fnd nt 46 (nn - (e - 1 - q)) (e - 1 - q)) nn with x | x
          · exact x
          · exact absurd hk3 (fnd_miss nt 46 (nn - (e - 1 - q)) (e - 1 - q) k (by omega) (by omega))
    · by_cases z3 : s3 t q e
      · rw [shp3 z2 z1 z3, qtm3 z2 z1 z3, show nmE t q e = e - 1 from (pif_f z2).trans ((pif_f z1).trans (pif_t z3))]
        exact ⟨fun z => ⟨z.1, fun y => absurd y (by decide), fun y => absurd y (by decide), fun _ => z.2.1⟩, fun z => ⟨z.1, z.2.2.2 (by decide), fun y => absurd y (by decide), fun y => absurd y (by decide)⟩⟩
      · rw [shp0 z2 z1 z3, qtm0 z2 z1 z3, show nmE t q e = e from (pif_f z2).trans ((pif_f z1).trans (pif_f z3))]
        constructor
        · rintro ⟨y1, y2, y3, -⟩
          have y3 := y3 rfl
          exact ⟨y1, fun _ => ⟨y3, fun j hj => y2.2 j (by omega)⟩, fun y => absurd y (by decide), fun y => absurd y (by decide)⟩
        · rintro ⟨y1, y2, -, -⟩
          obtain ⟨w1, w2⟩ := y2 rfl
          exact ⟨y1, ⟨by omega, fun j hj => w2 j (by omega)⟩, fun _ => w1, fun y => absurd y (by decide)⟩
theorem cmpP_s {M : Nat → Prop} {V : Nat → Int32} {i np : Nat} {c l : Int32} (h : i < np) : cmpP M V (np - i) i c l = pif (M i) (V i, c + 1, nI i) (cmpP M V (np - (i + 1)) (i + 1) (c + 1) l) := by
  rw [show np - i = (np - (i + 1)) + 1 by omega]
  rfl
theorem anT_lm {bs : Int32} {lm lm' : Nat → Int32} {np : Nat} {M : Nat → Nat → (Nat → Int32) → Nat → (Nat → Int32) → Prop} {V : Nat → Int32} (h : ∀ k, k < 4 → lm k = lm' k) : anT bs lm np M V = anT bs lm' np M V := by
  funext Q tr
  obtain ⟨nn, nt, mn, mt, dp, rf, by_, so, di, le⟩ := Q
  obtain ⟨co, tx, lx⟩ := tr
  rw [anT_eq, anT_eq, h 0 (by decide), h 1 (by decide), h 2 (by decide), h 3 (by decide)]
