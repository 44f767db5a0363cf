/-! THE REFERENCE'S STATE, told by the same words as the class's -/
def NH (av : Nat → Nat → Int32) (T md k : Nat) (v : FV) : Prop := ∃ l h : Nat, v.2.1 = nI l ∧ v.2.2.1 = nI h ∧ 1 ≤ l ∧ l ≤ 24 ∧ 1 ≤ h ∧ h ≤ 8 ∧ NV av T md h k v
def SL (av : Nat → Nat → Int32) (T md : Nat) (fl : Nat → Option FV) : Prop := ∀ j, j < 10 → (av 11 j = -1 ∧ fl j = none) ∨ ∃ (k : Nat) (v : FV), av 11 j = nI k ∧ fl j = some v ∧ NH av T md k v
def MSb (c b md : Nat) (sc : Nat → Int32) (av : Nat → Nat → Int32) (pn : Nat) (pt : Nat → Int32) (nn : Nat) (nt : Nat → Int32) (mn : Nat) (mt : Nat → Int32) (dp rf by_ co tx lx : Int32) (fl : Nat → Option FV) : Prop :=
  (sc 0 = nI (b + pn) ∧ sc 1 = nI b ∧ sc 2 = nI nn ∧ sc 3 = nI mn ∧ sc 4 = nI md) ∧ (sc 5 = dp ∧ sc 6 = rf ∧ sc 7 = by_) ∧ (sc 8 = co ∧ sc 9 = tx ∧ sc 10 = lx) ∧ (agr (av 0) b pt pn ∧ av 1 = nt ∧ av 2 = mt ∧ sgs (av 0) (b + pn)) ∧ (b + pn ≤ 8 * c ∧ md ≤ c ∧ pn ≤ 90 ∧ nn ≤ 40 ∧ mn ≤ 12) ∧ SL av (b + pn) md fl
def MR (G : GG) (c mo : Nat) (ar : Nat → Nat) (f : Wd) (pn : Nat) (pt : Nat → Int32) (nn : Nat) (nt : Nat → Int32) (mn : Nat) (mt : Nat → Int32) (dp rf by_ co tx lx : Int32) (fl : Nat → Option FV) : Prop :=
  ∃ (sc : Nat → Int32) (av : Nat → Nat → Int32) (b md : Nat), Mw G mo ar sc av f ∧ MSb c b md sc av pn pt nn nt mn mt dp rf by_ co tx lx fl
/-- behind a call -/
def MRR (G : GG) (c mo : Nat) (ar : Nat → Nat) (f f' : Wd) (pn : Nat) (pt : Nat → Int32) (nn : Nat) (nt : Nat → Int32) (mn : Nat) (mt : Nat → Int32) (dp rf by_ co tx lx : Int32) (fl : Nat → Option FV) : Prop := MR G (c + 1) mo ar f' pn pt nn nt mn mt dp rf by_ co tx lx fl ∧ Mx mo ar f f'
section MSx
variable {c b md : Nat} {sc sc' : Nat → Int32} {av av' : Nat → Nat → Int32} {pn nn mn : Nat} {pt nt mt : Nat → Int32} {dp rf by_ co tx lx : Int32} {fl : Nat → Option FV}
theorem MSb.fr (h : MSb c b md sc av pn pt nn nt mn mt dp rf by_ co tx lx fl) (hs : ∀ k, k < 11 → sc' k = sc k) : MSb (c + 1) b md sc' av pn pt nn nt mn mt dp rf by_ co tx lx fl := by
  obtain ⟨⟨h0, h1, h2, h3, h4⟩, ⟨h5, h6, h7⟩, ⟨h8, h9, h10⟩, hl, ⟨g1, g2, g3, g4, g5⟩, hsl⟩ := h
  exact ⟨⟨(hs 0 (by decide)).trans h0, (hs 1 (by decide)).trans h1, (hs 2 (by decide)).trans h2, (hs 3 (by decide)).trans h3, (hs 4 (by decide)).trans h4⟩, ⟨(hs 5 (by decide)).trans h5, (hs 6 (by decide)).trans h6, (hs 7 (by decide)).trans h7⟩, ⟨(hs 8 (by decide)).trans h8, (hs 9 (by decide)).trans h9, (hs 10 (by decide)).trans h10⟩, hl, ⟨by omega, by omega, g3, g4, g5⟩, hsl⟩
theorem SL.no {T : Nat} (h : SL av T md fl) (hmd : md ≤ 520) {x : Int32} : noS (av 11) x ↔ noF fl x := by
  constructor
  · intro z k hk hx
    rcases h k hk with ⟨_, e⟩ | ⟨nd, v, e, _, l, hh, _, _, _, _, _, _, hN⟩
    · exact e
    · have := z k hk hx
      rw [e] at this
      exact absurd this (nI_pos (by have := hN.lt; omega))
  · intro z k hk hx
    rcases h k hk with ⟨e, _⟩ | ⟨nd, v, e, e2, _⟩
    · rw [e]; decide
    · rw [z k hk hx] at e2; cases e2
theorem SL.at {T : Nat} (h : SL av T md fl) {k : Nat} (hk : k < 10) {v : FV} (hv : fl k = some v) : ∃ nd : Nat, av 11 k = nI nd ∧ NH av T md nd v := by
  rcases h k hk with ⟨_, e⟩ | ⟨nd, w, e, e2, hN⟩
  · rw [e] at hv; cases hv
  · rw [e2] at hv; cases hv; exact ⟨nd, e, hN⟩
theorem SL.emp {T : Nat} (h : SL av T md fl) {k : Nat} (hk : k < 10) (hv : fl k = none) : av 11 k = -1 := by
  rcases h k hk with ⟨e, _⟩ | ⟨nd, w, e, e2, hN⟩
  · exact e
  · rw [e2] at hv; cases hv
theorem NH.lt {T k : Nat} {v : FV} (h : NH av T md k v) : k < md := by
  obtain ⟨l, hh, _, _, _, _, _, _, hN⟩ := h
  exact hN.lt
theorem NH.mono {T T' md' : Nat} (hs : ∀ j, j < T → av' 0 j = av 0 j) (hr : ∀ r, 3 ≤ r → r ≤ 10 → ∀ j, j < md → av' r j = av r j) (hT : T ≤ T') (hmd : md ≤ md') {k : Nat} {v : FV} (h : NH av T md k v) : NH av' T' md' k v := by
  obtain ⟨l, hh, e1, e2, e3, e4, e5, e6, hN⟩ := h
  exact ⟨l, hh, e1, e2, e3, e4, e5, e6, NV.mono hs hr hT hmd _ _ _ hN⟩
theorem SL.mono {T T' md' : Nat} (hs : ∀ j, j < T → av' 0 j = av 0 j) (hr : ∀ r, 3 ≤ r → r ≤ 10 → ∀ j, j < md → av' r j = av r j) (hT : T ≤ T') (hmd : md ≤ md') (h11 : av' 11 = av 11) (h : SL av T md fl) : SL av' T' md' fl := fun j hj => by
  rw [h11]
  rcases h j hj with z | ⟨k, v, e1, e2, hN⟩
  · exact Or.inl z
  · exact Or.inr ⟨k, v, e1, e2, hN.mono hs hr hT hmd⟩
theorem SL.del {T k : Nat} (h : SL av T md fl) : SL (va_up av 11 (upd (av 11) k (-1))) T md (va_up fl k none) := fun j hj => by
  rw [va_up_self]
  by_cases e : j = k
  · subst e
    exact Or.inl ⟨upd_self' _ _ _, va_up_self _ _ _⟩
  · rw [upd_ne' _ _ _ e, va_up_ne _ _ e]
    rcases h j hj with z | ⟨nd, v, e1, e2, hN⟩
    · exact Or.inl z
    · exact Or.inr ⟨nd, v, e1, e2, NH.mono (fun _ _ => by rw [va_up_ne _ _ (by decide)]) (fun r h1 h2 _ _ => by rw [va_up_ne _ _ (by omega)]) (Nat.le_refl _) (Nat.le_refl _) hN⟩
end MSx
/-- the rows behind a new node -/
def mkA (av : Nat → Nat → Int32) (md kt : Nat) (what a b ta tl num l h : Int32) : Nat → Nat → Int32 := va_up (va_up (va_up (va_up (va_up (va_up (va_up (va_up (va_up av 3 (upd (av 3) md what)) 4 (upd (av 4) md a)) 5 (upd (av 5) md b)) 6 (upd (av 6) md ta)) 7 (upd (av 7) md tl)) 8 (upd (av 8) md num)) 9 (upd (av 9) md l)) 10 (upd (av 10) md h)) 11 (upd (av 11) kt (nI md))
theorem mkA_lo {av : Nat → Nat → Int32} {md kt : Nat} {what a b ta tl num l h : Int32} {r : Nat} (hr : r < 3) : mkA av md kt what a b ta tl num l h r = av r := by
  unfold mkA
  rw [va_up_ne _ _ (by omega), va_up_ne _ _ (by omega), va_up_ne _ _ (by omega), va_up_ne _ _ (by omega), va_up_ne _ _ (by omega), va_up_ne _ _ (by omega), va_up_ne _ _ (by omega), va_up_ne _ _ (by omega), va_up_ne _ _ (by omega)]
theorem mkA_old {av : Nat → Nat → Int32} {md kt : Nat} {what a b ta tl num l h : Int32} : ∀ r, 3 ≤ r → r ≤ 10 → ∀ j, j < md → mkA av md kt what a b ta tl num l h r j = av r j := by
  intro r h1 h2 j hj
  rcases (show r = 3 ∨ r = 4 ∨ r = 5 ∨ r = 6 ∨ r = 7 ∨ r = 8 ∨ r = 9 ∨ r = 10 by omega) with rfl | rfl | rfl | rfl | rfl | rfl | rfl | rfl
  · exact upd_ne' _ _ _ (by omega)
  · exact upd_ne' _ _ _ (by omega)
  · exact upd_ne' _ _ _ (by omega)
  · exact upd_ne' _ _ _ (by omega)
  · exact upd_ne' _ _ _ (by omega)
  · exact upd_ne' _ _ _ (by omega)
  · exact upd_ne' _ _ _ (by omega)
  · exact upd_ne' _ _ _ (by omega)
theorem mkA_at {av : Nat → Nat → Int32} {md kt : Nat} {what a b ta tl num l h : Int32} : mkA av md kt what a b ta tl num l h 3 md = what ∧ mkA av md kt what a b ta tl num l h 4 md = a ∧ mkA av md kt what a b ta tl num l h 5 md = b ∧ mkA av md kt what a b ta tl num l h 6 md = ta ∧ mkA av md kt what a b ta tl num l h 7 md = tl ∧ mkA av md kt what a b ta tl num l h 8 md = num ∧ mkA av md kt what a b ta tl num l h 9 md = l ∧ mkA av md kt what a b ta tl num l h 10 md = h := ⟨upd_self' _ _ _, upd_self' _ _ _, upd_self' _ _ _, upd_self' _ _ _, upd_self' _ _ _, upd_self' _ _ _, upd_self' _ _ _, upd_self' _ _ _⟩
theorem NV.mk {av : Nat → Nat → Int32} {md kt T : Nat} {what a b ta tl num l h : Int32} {d k : Nat} {v : FV} (hN : NV av T md d k v) : NV (mkA av md kt what a b ta tl num l h) T (md + 1) d k v := NV.mono (fun j _ => by rw [mkA_lo (by decide)]) mkA_old (Nat.le_refl _) (Nat.le_succ _) _ _ _ hN
/-- a new node in a place -/
theorem MSb.mk {c bb md : Nat} {sc : Nat → Int32} {av : Nat → Nat → Int32} {pn nn mn : Nat} {pt nt mt : Nat → Int32} {dp rf by_ co tx lx : Int32} {fl : Nat → Option FV} (hS : MSb c bb md sc av pn pt nn nt mn mt dp rf by_ co tx lx fl) {kt : Nat} {what a b ta tl num l h : Int32} {sc' : Nat → Int32} (h4 : sc' 4 = nI (md + 1)) (hs : ∀ k, k < 11 → k ≠ 4 → sc' k = sc k) {v : FV} (hN : NH (mkA av md kt what a b ta tl num l h) (bb + pn) (md + 1) md v) : MSb (c + 1) bb (md + 1) sc' (mkA av md kt what a b ta tl num l h) pn pt nn nt mn mt dp rf by_ co tx lx (va_up fl kt (some v)) := by
  obtain ⟨⟨h0, h1, h2, h3, _⟩, ⟨h5, h6, h7⟩, ⟨h8, h9, h10⟩, ⟨l1, l2, l3, l4⟩, ⟨g1, g2, g3, g4, g5⟩, hsl⟩ := hS
  have e0 : mkA av md kt what a b ta tl num l h 0 = av 0 := mkA_lo (by decide)
  have e1 : mkA av md kt what a b ta tl num l h 1 = av 1 := mkA_lo (by decide)
  have e2 : mkA av md kt what a b ta tl num l h 2 = av 2 := mkA_lo (by decide)
  refine ⟨⟨(hs 0 (by decide) (by decide)).trans h0, (hs 1 (by decide) (by decide)).trans h1, (hs 2 (by decide) (by decide)).trans h2, (hs 3 (by decide) (by decide)).trans h3, h4⟩, ⟨(hs 5 (by decide) (by decide)).trans h5, (hs 6 (by decide) (by decide)).trans h6, (hs 7 (by decide) (by decide)).trans h7⟩, ⟨(hs 8 (by decide) (by decide)).trans h8, (hs 9 (by decide) (by decide)).trans h9, (hs 10 (by decide) (by decide)).trans h10⟩, ⟨by rw [e0]; exact l1, e1.trans l2, e2.trans l3, by rw [e0]; exact l4⟩, ⟨by omega, by omega, g3, g4, g5⟩, fun j hj => ?_⟩
  show (upd (av 11) kt (nI md) j = -1 ∧ _) ∨ ∃ (k : Nat) (v' : FV), upd (av 11) kt (nI md) j = nI k ∧ _ ∧ _
  by_cases e : j = kt
  · subst e
    rw [upd_self', va_up_self]
    exact Or.inr ⟨md, v, rfl, rfl, hN⟩
  · rw [upd_ne' _ _ _ e, va_up_ne _ _ e]
    rcases hsl j hj with z | ⟨nd, w, z1, z2, hN2⟩
    · exact Or.inl z
    · exact Or.inr ⟨nd, w, z1, z2, NH.mono (fun j _ => by rw [e0]) mkA_old (Nat.le_refl _) (Nat.le_succ _) hN2⟩
