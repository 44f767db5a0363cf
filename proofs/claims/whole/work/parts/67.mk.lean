/-! NEW NODES have the values of the class's new filters -/
theorem NV.lh {av : Nat → Nat → Int32} {T md d k : Nat} {v : FV} (h : NV av T md d k v) : av 3 k = v.1 ∧ av 9 k = v.2.1 ∧ av 10 k = v.2.2.1 := by
  cases d with
  | zero => exact h.elim
  | succ d => exact ⟨h.2.1, h.2.2.1, h.2.2.2.1⟩
theorem SL.some {av : Nat → Nat → Int32} {T md : Nat} {fl : Nat → Option FV} (h : SL av T md fl) {x : Int32} (hx : ¬ noS (av 11) x) : ∃ (k nd : Nat) (v : FV), k < 10 ∧ x = nI k ∧ fl k = some v ∧ av 11 k = nI nd ∧ NH av T md nd v := by
  obtain ⟨k, hk, hxk⟩ := plc_of (x := x) (fun z => hx (noS_out z))
  rcases h k hk with ⟨e, _⟩ | ⟨nd, v, e1, e2, hN⟩
  · exact absurd (noS_in hk hxk (by rw [e]; decide)) hx
  · exact ⟨k, nd, v, hk, hxk, e2, e1, hN⟩
theorem fbk_or {t : Nat → Int32} {n : Nat} : ∀ m k, k + m < 2 ^ 31 → fbk t n m k = -2 ∨ ¬ fbk t n m k < 0 := by
  intro m
  induction m with
  | zero => intro k _; exact Or.inl rfl
  | succ m ih =>
    intro k hk
    have e : fbk t n (m + 1) k = pif (pkd t (pst t n k) (pnx t n (pst t n k)) = 3) (nI k) (fbk t n m (k + 1)) := rfl
    rw [e]
    by_cases z : pkd t (pst t n k) (pnx t n (pst t n k)) = 3
    · rw [pif_t z]; exact Or.inr (nI_pos (by omega))
    · rw [pif_f z]; exact ih (k + 1) (by omega)
section MKN
variable {av : Nat → Nat → Int32} {md kt T nd0 l0 g0 : Nat} {v0 : FV} {ta tl : Int32}
theorem mk_strict {al : Int32} (hNV : NV av T md g0 nd0 v0) (hl : v0.2.1 = nI l0) (hg : v0.2.2.1 = nI g0) (h1 : 1 ≤ l0) (h2 : l0 ≤ 24) (h3 : 1 + g0 ≤ 8) (hal : al = 0 ∨ al = 1) : NH (mkA av md kt 3 (nI nd0) (-1) ta tl al (nI l0) (nI (1 + g0))) T (md + 1) md (3, v0.2.1, 1 + v0.2.2.1, anS al v0.2.2.2.1, TI0) := by
  have hh : 1 + v0.2.2.1 = nI (1 + g0) := by rw [hg]; exact nI_add 1 g0
  obtain ⟨m3, m4, m5, m6, m7, m8, m9, m10⟩ := mkA_at (av := av) (md := md) (kt := kt) (what := 3) (a := nI nd0) (b := -1) (ta := ta) (tl := tl) (num := al) (l := nI l0) (h := nI (1 + g0))
  refine ⟨l0, g0 + 1, hl, hh.trans (by rw [Nat.add_comm]), h1, h2, by omega, by omega, Nat.lt_succ_self _, m3, m9.trans hl.symm, m10.trans hh.symm, Or.inr (Or.inr (Or.inl ⟨nd0, v0, m4, NV.mk hNV, by rw [m8]; exact hal, by rw [m8]⟩))⟩
theorem mk_default {gv : Int32} (hNV : NV av T md g0 nd0 v0) (hl : v0.2.1 = nI l0) (hg : v0.2.2.1 = nI g0) (h1 : 1 ≤ l0) (h2 : l0 ≤ 24) (h3 : 1 + g0 ≤ 8) (hgv : gv = 0 ∨ gv = 1 ∨ gv = 2) : NH (mkA av md kt 4 (nI nd0) (-1) ta tl gv (nI l0) (nI (1 + g0))) T (md + 1) md (4, v0.2.1, 1 + v0.2.2.1, anD gv v0.2.2.2.1, TI0) := by
  have hh : 1 + v0.2.2.1 = nI (1 + g0) := by rw [hg]; exact nI_add 1 g0
  obtain ⟨m3, m4, m5, m6, m7, m8, m9, m10⟩ := mkA_at (av := av) (md := md) (kt := kt) (what := 4) (a := nI nd0) (b := -1) (ta := ta) (tl := tl) (num := gv) (l := nI l0) (h := nI (1 + g0))
  refine ⟨l0, g0 + 1, hl, hh.trans (by rw [Nat.add_comm]), h1, h2, by omega, by omega, Nat.lt_succ_self _, m3, m9.trans hl.symm, m10.trans hh.symm, Or.inr (Or.inr (Or.inr (Or.inl ⟨nd0, v0, m4, NV.mk hNV, by rw [m8]; exact hgv, by rw [m8]⟩)))⟩
theorem mk_only {b pn : Nat} {pt : Nat → Int32} {num : Int32} (hNV : NV av T md g0 nd0 v0) (hl : v0.2.1 = nI l0) (hg : v0.2.2.1 = nI g0) (h1 : 1 ≤ l0) (h2 : l0 ≤ 24) (h3 : 1 + g0 ≤ 8) (hA : agr (av 0) b pt pn) (hT : b + pn ≤ T) : NH (mkA av md kt 5 (nI nd0) (-1) (nI b) (nI pn) num (nI l0) (nI (1 + g0))) T (md + 1) md (5, v0.2.1, 1 + v0.2.2.1, anO pn pt v0.2.2.2.1, TI0) := by
  have hh : 1 + v0.2.2.1 = nI (1 + g0) := by rw [hg]; exact nI_add 1 g0
  obtain ⟨m3, m4, m5, m6, m7, m8, m9, m10⟩ := mkA_at (av := av) (md := md) (kt := kt) (what := 5) (a := nI nd0) (b := -1) (ta := nI b) (tl := nI pn) (num := num) (l := nI l0) (h := nI (1 + g0))
  refine ⟨l0, g0 + 1, hl, hh.trans (by rw [Nat.add_comm]), h1, h2, by omega, by omega, Nat.lt_succ_self _, m3, m9.trans hl.symm, m10.trans hh.symm, Or.inr (Or.inr (Or.inr (Or.inr ⟨nd0, b, pn, pt, v0, m4, NV.mk hNV, m6, m7, hT, by rw [mkA_lo (by decide)]; exact hA, rfl⟩)))⟩
theorem mk_join {nd1 l1 g1 : Nat} {v1 : FV} {num : Int32} (hNV : NV av T md g0 nd0 v0) (hNV1 : NV av T md g1 nd1 v1) (hl : v0.2.1 = nI l0) (hg : v0.2.2.1 = nI g0) (hl1 : v1.2.1 = nI l1) (hg1 : v1.2.2.1 = nI g1) (h1 : 1 ≤ l0) (h2 : l0 + l1 ≤ 24) (h0 : g0 ≤ 8) (h01 : g1 ≤ 8) (h3 : 1 + max g0 g1 ≤ 8) : NH (mkA av md kt 2 (nI nd0) (nI nd1) ta tl num (nI (l0 + l1)) (nI (1 + max g0 g1))) T (md + 1) md (2, v0.2.1 + v1.2.1, 1 + mxh v0.2.2.1 v1.2.2.1, anJ v0.2.2.2.1 v1.2.2.2.1, TI0) := by
  have hh : 1 + mxh v0.2.2.1 v1.2.2.1 = nI (1 + max g0 g1) := by rw [hg, hg1, mxh_n h0 h01]; exact nI_add 1 _
  have hs : v0.2.1 + v1.2.1 = nI (l0 + l1) := by rw [hl, hl1]; exact nI_add _ _
  obtain ⟨m3, m4, m5, m6, m7, m8, m9, m10⟩ := mkA_at (av := av) (md := md) (kt := kt) (what := 2) (a := nI nd0) (b := nI nd1) (ta := ta) (tl := tl) (num := num) (l := nI (l0 + l1)) (h := nI (1 + max g0 g1))
  have n0 := hNV.le (max g0 g1 - g0)
  have n1 := hNV1.le (max g0 g1 - g1)
  rw [show g0 + (max g0 g1 - g0) = max g0 g1 by omega] at n0
  rw [show g1 + (max g0 g1 - g1) = max g0 g1 by omega] at n1
  refine ⟨l0 + l1, max g0 g1 + 1, hs, hh.trans (by rw [Nat.add_comm]), by omega, h2, by omega, by omega, Nat.lt_succ_self _, m3, m9.trans hs.symm, m10.trans hh.symm, Or.inr (Or.inl ⟨nd0, nd1, v0, v1, m4, m5, NV.mk n0, NV.mk n1, rfl⟩)⟩
theorem mk_text {b pn : Nat} {pt lm : Nat → Int32} {bs : Int32} (hbs : bs = 0 ∨ bs = 1) (hA : agr (av 0) b pt pn) (hT : b + pn ≤ T) (hlm : ∀ k, k < 4 → lm k = lmU pt pn (npc pt pn) k) : NH (mkA av md kt 1 (-1) (-1) (nI b) (nI pn) bs 1 1) T (md + 1) md (1, 1, 1, anT bs lm (clsU pt pn (npc pt pn)).length (Mt pt pn) (Vt pt pn), (clsU pt pn (npc pt pn)).length, lm, bs, Vt pt pn, Sht pt pn) := by
  obtain ⟨m3, m4, m5, m6, m7, m8, m9, m10⟩ := mkA_at (av := av) (md := md) (kt := kt) (what := 1) (a := -1) (b := -1) (ta := nI b) (tl := nI pn) (num := bs) (l := 1) (h := 1)
  refine ⟨1, 1, rfl, rfl, by omega, by omega, by omega, by omega, Nat.lt_succ_self _, m3, m9, m10, Or.inl ⟨b, pn, pt, lm, m6, m7, hT, by rw [mkA_lo (by decide)]; exact hA, by rw [m8]; exact hbs, hlm, by rw [m8]⟩⟩
end MKN
