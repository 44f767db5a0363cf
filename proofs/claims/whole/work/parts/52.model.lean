/-! THE REFERENCE'S WORLD: one object mo (23 numbers sc, the addresses ar of 15 rows), the rows av -/
def MOl (ar : Nat → Nat) (sc : Nat → Int32) : List Value := [.ref (ar 0), .int (sc 0), .int (sc 1), .ref (ar 1), .int (sc 2), .ref (ar 2), .int (sc 3), .ref (ar 3), .ref (ar 4), .ref (ar 5), .ref (ar 6), .ref (ar 7), .ref (ar 8), .ref (ar 9), .ref (ar 10), .int (sc 4), .ref (ar 11), .int (sc 5), .int (sc 6), .int (sc 7), .int (sc 8), .int (sc 9), .int (sc 10), .int (sc 13), .int (sc 14), .int (sc 15), .int (sc 16), .int (sc 17), .int (sc 18), .int (sc 19), .int (sc 20), .int (sc 21), .int (sc 22), .ref (ar 12), .ref (ar 13), .ref (ar 14), .int (sc 11), .int (sc 12)]
abbrev MO (ar : Nat → Nat) (sc : Nat → Int32) : va_E := .inr (CI_SM, MOl ar sc)
def mlen (k : Nat) : Nat := ([4200, 40, 12, 520, 520, 520, 520, 520, 520, 520, 520, 10, 20, 20, 20] : List Nat).getD k 0
def Mw (G : GG) (mo : Nat) (ar : Nat → Nat) (sc : Nat → Int32) (av : Nat → Nat → Int32) (f : Wd) : Prop := f mo = some (MO ar sc) ∧ (∀ k, k < 15 → f (ar k) = some (.inl (G.2.1 0, mlen k, .inl (av k)))) ∧ ∀ i j, i < 15 → j < 15 → ar i = ar j → i = j
/-- only the reference's cells differ -/
def Mx (mo : Nat) (ar : Nat → Nat) (f f' : Wd) : Prop := ∀ q, q ≠ mo → (∀ k, k < 15 → q ≠ ar k) → f' q = f q
theorem Mx.rf {mo : Nat} {ar : Nat → Nat} {f : Wd} : Mx mo ar f f := fun _ _ _ => rfl
theorem Mx.tr {mo : Nat} {ar : Nat → Nat} {f f' f'' : Wd} (h : Mx mo ar f f') (h' : Mx mo ar f' f'') : Mx mo ar f f'' := fun q h1 h2 => (h' q h1 h2).trans (h q h1 h2)
theorem Mx.o {mo : Nat} {ar : Nat → Nat} {f f' : Wd} (h : Mx mo ar f f') (e : Option va_E) : Mx mo ar f (va_up f' mo e) := fun q h1 h2 => by
  rw [va_up_ne _ _ h1]; exact h q h1 h2
theorem Mx.a {mo : Nat} {ar : Nat → Nat} {f f' : Wd} (h : Mx mo ar f f') {k : Nat} (hk : k < 15) (e : Option va_E) : Mx mo ar f (va_up f' (ar k) e) := fun q h1 h2 => by
  rw [va_up_ne _ _ (h2 k hk)]; exact h q h1 h2
theorem Mw.o {G : GG} {mo : Nat} {ar : Nat → Nat} {sc : Nat → Int32} {av : Nat → Nat → Int32} {f : Wd} (h : Mw G mo ar sc av f) (sc' : Nat → Int32) : Mw G mo ar sc' av (va_up f mo (some (MO ar sc'))) := by
  obtain ⟨h1, h2, h3⟩ := h
  refine ⟨va_up_self _ _ _, fun k hk => ?_, h3⟩
  rw [va_up_ne _ _ (wne (h2 k hk) h1 wd_ao)]
  exact h2 k hk
theorem Mw.a {G : GG} {mo : Nat} {ar : Nat → Nat} {sc : Nat → Int32} {av : Nat → Nat → Int32} {f : Wd} (h : Mw G mo ar sc av f) {k : Nat} (hk : k < 15) (t : Nat → Int32) : Mw G mo ar sc (va_up av k t) (va_up f (ar k) (some (.inl (G.2.1 0, mlen k, .inl t)))) := by
  obtain ⟨h1, h2, h3⟩ := h
  refine ⟨?_, fun j hj => ?_, h3⟩
  · rw [va_up_ne _ _ (wne h1 (h2 k hk) wd_oa)]
    exact h1
  · by_cases e : j = k
    · subst e
      rw [va_up_self, va_up_self]
    · rw [va_up_ne _ _ e, va_up_ne _ _ (fun z => e (h3 j k hj hk z))]
      exact h2 j hj
section MM
variable {p : Program} {l : Launch} {e : Env} {R : Room} {s : State} {m : MethodId} {args : Array Value} {below : List Frame} {meth : Method} {c : Code} {H : Heap} {locs : List Loc} {cells slots : Nat} {Q : State → Prop}
variable {cc : ByteArray} {pc nL : Nat} {ls : Array Slot} {rest : List Value} {G : GG} {A : Nat → Prop} {f f0 : Wd} {own : String} {mo : Nat} {ar : Nat → Nat} {sc : Nat → Int32} {av : Nat → Nat → Int32}
theorem m_mget (hc : CallFix p m c cc nL s args TB own) (hE : ev G A s) (hw : ms G.1 A f s H locs) {k idx : Nat} {v : Value} (hM : Mw G mo ar sc av f) (hl : lnk own idx F_SM 38 k) (hv : (MOl ar sc)[k]? = some v) (hdg : decode cc pc = .ok (.getfield idx, 3))
    (kk : W p l e R s m args below meth c H locs cells slots Q (F0 m (pc + 3) ls (v :: rest))) : W p l e R s m args below meth c H locs cells slots Q (F0 m pc ls (.ref mo :: rest)) := m_get hc hE hw hM.1 kc_SM hl hv hdg kk
theorem m_mput (hc : CallFix p m c cc nL s args TB own) (hE : ev G A s) (hw : ms G.1 A f s H locs) {k idx : Nat} {v : Value} {ty : FieldType} (hM : Mw G mo ar sc av f) (hX : Mx mo ar f0 f) {sc' : Nat → Int32} (hl : lnk own idx F_SM 38 k) (hfin : (F_SM k).2.2.2 = false) (hd : parseFieldDescriptor (F_SM k).2.2.1 = some ty) (hn : narrow ty v = v) (hfit : fits ty v = true) (hs : (MOl ar sc).set k v = MOl ar sc') (hdg : decode cc pc = .ok (.putfield idx, 3))
    (kk : ∀ (H1 : Heap) (locs1 : List Loc) (f1 : Wd), Mw G mo ar sc' av f1 → Mx mo ar f0 f1 → ms G.1 A f1 s H1 locs1 → W p l e R s m args below meth c H1 locs1 cells slots Q (F0 m (pc + 3) ls rest)) : W p l e R s m args below meth c H locs cells slots Q (F0 m pc ls (v :: .ref mo :: rest)) := by
  refine m_put hc hE hw hM.1 kc_SM hl hfin hd hn hfit (Nat.lt_of_lt_of_le hl.1 (Nat.le_of_eq rfl)) hdg (fun H1 locs1 hw1 => kk H1 locs1 _ (hM.o sc') (hX.o _) ?_)
  rw [hs] at hw1
  exact hw1
theorem m_mald (hc : CallFix p m c cc nL s args TB own) (hE : ev G A s) (hw : ms G.1 A f s H locs) (hM : Mw G mo ar sc av f) {k : Nat} (hk : k < 15) {i v : Int32} (hin : vp_in i (mlen k)) (hv : av k i.toNatClampNeg = v) (hdg : decode cc pc = .ok (.iaload, 1))
    (kk : W p l e R s m args below meth c H locs cells slots Q (F0 m (pc + 1) ls (.int v :: rest))) : W p l e R s m args below meth c H locs cells slots Q (F0 m pc ls (.int i :: .ref (ar k) :: rest)) := by
  refine m_iald hc hE hw 0 (hM.2.1 k hk) rfl hin hdg ?_
  rw [hv]
  exact kk
theorem m_mast (hc : CallFix p m c cc nL s args TB own) (hE : ev G A s) (hw : ms G.1 A f s H locs) (hM : Mw G mo ar sc av f) (hX : Mx mo ar f0 f) {k : Nat} (hk : k < 15) {i x : Int32} {j : Nat} (hj : i.toNatClampNeg = j) (hin : vp_in i (mlen k)) (hdg : decode cc pc = .ok (.iastore, 1))
    (kk : ∀ (H1 : Heap) (locs1 : List Loc) (f1 : Wd), Mw G mo ar sc (va_up av k (upd (av k) j x)) f1 → Mx mo ar f0 f1 → ms G.1 A f1 s H1 locs1 → W p l e R s m args below meth c H1 locs1 cells slots Q (F0 m (pc + 1) ls rest)) : W p l e R s m args below meth c H locs cells slots Q (F0 m pc ls (.int x :: .int i :: .ref (ar k) :: rest)) := by
  subst hj
  exact m_iast hc hE hw 0 (hM.2.1 k hk) rfl hin hdg (fun H1 locs1 hw1 => kk H1 locs1 _ (hM.a hk _) (hX.a hk _) hw1)
theorem m_lc2 (hc : CallFix p m c cc nL s args TB own) {idx : Nat} {v : Int64} (hl : Cond.constantLong own idx v ∈ TB) (hdg : decode cc pc = .ok (.ldc2_w idx, 3))
    (kk : W p l e R s m args below meth c H locs cells slots Q (F0 m (pc + 3) ls (.long v :: rest))) : W p l e R s m args below meth c H locs cells slots Q (F0 m pc ls rest) := lv_ldc2 hc.1 hc.2.1 hc.2.2.2.1 (hc.2.2.2.2 _ hl) hdg kk
theorem m_lcmp (hexec : p.tables.exec = Jvm.exec) (hb : c.code = cc) {x y : Int64} (hdg : decode cc pc = .ok (.lcmp, 1))
    (k : ∀ v : Int32, (v = 0 ↔ x = y) → W p l e R s m args below meth c H locs cells slots Q (F0 m (pc + 1) ls (.int v :: rest))) : W p l e R s m args below meth c H locs cells slots Q (F0 m pc ls (.long y :: .long x :: rest)) := by
  by_cases h1 : x > y
  · intro T hT X
    obtain ⟨t, a, b⟩ := k 1 ⟨fun z => absurd z (by decide), fun z => by subst z; exact absurd h1 (Int64.lt_irrefl)⟩ T hT X
    refine ⟨t, ?_, b⟩
    jvm_step X.here [X.here.top, hexec, hb, hdg, h1]
    exact a
  · by_cases h2 : x = y
    · intro T hT X
      obtain ⟨t, a, b⟩ := k 0 ⟨fun _ => h2, fun _ => rfl⟩ T hT X
      refine ⟨t, ?_, b⟩
      jvm_step X.here [X.here.top, hexec, hb, hdg, h1, h2]
      exact a
    · intro T hT X
      obtain ⟨t, a, b⟩ := k (-1) ⟨fun z => absurd z (by decide), fun z => absurd z h2⟩ T hT X
      refine ⟨t, ?_, b⟩
      jvm_step X.here [X.here.top, hexec, hb, hdg, h1, h2]
      exact a
end MM
theorem m_topL {p : Program} {l : Launch} {e : Env} {R : Room} {s : State} {m : MethodId} {args : Array Value} {below : List Frame} {meth : Method} {c : Code} {H : Heap} {locs : List Loc} {cells slots : Nat} {Q : State → Prop} {pc : Nat} {ls : Array Slot} {rest : List Value} {x y : Int64} (h : x = y) (k : W p l e R s m args below meth c H locs cells slots Q (F0 m pc ls (.long y :: rest))) : W p l e R s m args below meth c H locs cells slots Q (F0 m pc ls (.long x :: rest)) := by
  rw [h]
  exact k
/-- no node stands at the place x (or x is no place) -/
def noS (A : Nat → Int32) (x : Int32) : Prop := ∀ k, k < 10 → x = nI k → A k < 0
theorem plc_of {x : Int32} (h : ¬ (x < 0 ∨ 10 ≤ x)) : ∃ k, k < 10 ∧ x = nI k := vp_in_of (vin (n := 10) (fun z => h (Or.inl z)) (fun z => h (Or.inr z)) (Nat.le_refl 10) (by decide)) (by decide)
theorem noS_out {A : Nat → Int32} {x : Int32} (h : x < 0 ∨ 10 ≤ x) : noS A x := fun k hk hx => by
  subst hx
  exact absurd h (fun z => z.elim (plc hk).1 (plc hk).2)
theorem noS_in {A : Nat → Int32} {x : Int32} {k : Nat} (hk : k < 10) (hx : x = nI k) (h : A k < 0) : noS A x := fun k2 h2 hx2 => by
  have e : k = k2 := (nI_eq (by omega) (by omega)).mp (hx.symm.trans hx2)
  rw [← e]; exact h
