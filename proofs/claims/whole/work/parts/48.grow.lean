/-! GROWTH: what stays is joined with all new cells -/
def gu (g h : Wd) : Wd := fun q => match g q with | some e => some e | none => h q
theorem gu_l {g h : Wd} {q : Nat} {e : va_E} (x : g q = some e) : gu g h q = some e := by unfold gu; rw [x]
theorem gu_r {g h : Wd} {q : Nat} (x : g q = none) : gu g h q = h q := by unfold gu; rw [x]
theorem gle.gu {g h : Wd} : gle g (gu g h) := fun _ _ x => gu_l x
theorem nw_le {f f' : Wd} {q : Nat} {e : va_E} (h : nw f f' q = some e) : f q = none ∧ f' q = some e := by
  unfold nw at h
  by_cases hq : f q = none
  · rw [if_pos hq] at h; exact ⟨hq, h⟩
  · rw [if_neg hq] at h; cases h
theorem nw_no {f f' : Wd} {q : Nat} {e : va_E} (h : f q = some e) : nw f f' q = none := by
  unfold nw
  rw [if_neg]
  rw [h]; exact fun z => by cases z
theorem Rg.grow {n : Nat} {ad : Nat → Nat} {E : Nat → va_E} {g f f' : Wd} (h : Rg n ad E g f) {j : Nat} (hj : j < n) (hl : hld f f' (ad j)) {e : va_E} (he : f' (ad j) = some e) : Rg n ad (va_up E j e) (gu g (nw f f')) f' := by
  obtain ⟨h1, h2, h3, h4⟩ := h
  refine ⟨fun k hk => ?_, h2, fun q x hx => ?_, fun k hk => ?_⟩
  · by_cases hkj : k = j
    · subst hkj; rw [va_up_self]; exact he
    · rw [va_up_ne _ _ hkj]
      exact hl _ _ (h1 k hk) (fun z => hkj (h2 k j hk hj z))
  · cases hg : g q with
    | some y =>
      rw [gu_l hg] at hx
      cases hx
      exact hl _ _ (h3 _ _ hg) (wnf hg (h4 j hj))
    | none =>
      rw [gu_r hg] at hx
      exact (nw_le hx).2
  · rw [gu_r (h4 k hk)]
    exact nw_no (h1 k hk)
theorem Rg.nwle {n : Nat} {ad : Nat → Nat} {E : Nat → va_E} {g f f' : Wd} (h : Rg n ad E g f) : gle (nw f f') (gu g (nw f f')) := fun q e hx => by
  rw [gu_r (h.non (nw_le hx).1)]; exact hx
