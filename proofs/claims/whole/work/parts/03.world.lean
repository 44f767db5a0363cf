/-! THE WORLD AS A MAP: what each cell that the system made holds; rows of the kit told over it. -/
abbrev Wd : Type := Nat → Option va_E
def mw (D : va_G) (A : Nat → Prop) (f : Wd) (H : Heap) : Prop := ∃ ws : va_W, va_P D classes ws H ∧ va_D A ws ∧ ∀ (a : Nat) (e : va_E), f a = some e ↔ (a, e) ∈ ws
theorem mw.at {D : va_G} {A : Nat → Prop} {f : Wd} {H : Heap} {a : Nat} {e : va_E} (h : mw D A f H) (he : f a = some e) : va_at D classes (a, e) H := by
  obtain ⟨ws, hP, -, hf⟩ := h
  obtain ⟨k, hk⟩ := List.getElem?_of_mem ((hf a e).mp he)
  exact hP k _ hk
theorem mw.one {D : va_G} {A : Nat → Prop} {f : Wd} {H : Heap} {a : Nat} {e : va_E} (h : mw D A f H) (he : f a = some e) : va_P D classes [(a, e)] H := by
  intro k q hk
  match k, hk with
  | 0, hk => cases hk; exact h.at he
  | k + 1, hk => simp at hk
theorem mw.inA {D : va_G} {A : Nat → Prop} {f : Wd} {H : Heap} {a : Nat} {e : va_E} (h : mw D A f H) (he : f a = some e) : A a := by
  obtain ⟨ws, -, hD, hf⟩ := h
  obtain ⟨k, hk⟩ := List.getElem?_of_mem ((hf a e).mp he)
  exact hD.2 k _ hk
theorem mw.lt {D : va_G} {A : Nat → Prop} {f : Wd} {H : Heap} {a : Nat} {e : va_E} (h : mw D A f H) (he : f a = some e) : a < H.size := (h.at he).lt
theorem mw.weaken {D : va_G} {A B : Nat → Prop} {f : Wd} {H : Heap} (h : mw D A f H) (hAB : ∀ (a : Nat) (e : va_E), f a = some e → A a → B a) : mw D B f H := by
  obtain ⟨ws, hP, hD, hf⟩ := h
  exact ⟨ws, hP, hD.weaken (fun k q hk hA => hAB q.1 q.2 ((hf _ _).mpr (List.mem_of_getElem? hk)) hA), hf⟩
theorem mw_set {A : Nat → Prop} {ws : va_W} {f : Wd} {k a : Nat} {e0 e1 : va_E} (hD : va_D A ws) (hk : ws[k]? = some (a, e0)) (hf : ∀ (a : Nat) (e : va_E), f a = some e ↔ (a, e) ∈ ws) : ∀ (b : Nat) (e : va_E), va_up f a (some e1) b = some e ↔ (b, e) ∈ ws.set k (a, e1) := by
  have hl := (List.getElem?_eq_some_iff.mp hk).1
  intro b e
  rw [List.mem_iff_getElem?]
  by_cases hb : b = a
  · subst hb
    rw [va_up_self]
    constructor
    · intro h
      cases h
      exact ⟨k, List.getElem?_set_self hl⟩
    · rintro ⟨i, hi⟩
      by_cases hik : i = k
      · subst hik
        rw [List.getElem?_set_self hl] at hi
        cases hi
        rfl
      · rw [List.getElem?_set_ne (Ne.symm hik)] at hi
        exact absurd (hD.1 i k _ _ hi hk rfl) hik
  · rw [va_up_ne _ _ hb, hf b e, List.mem_iff_getElem?]
    constructor
    · rintro ⟨i, hi⟩
      refine ⟨i, ?_⟩
      have hik : i ≠ k := fun h => by
        subst h
        rw [hk] at hi
        cases hi
        exact hb rfl
      rw [List.getElem?_set_ne (Ne.symm hik)]
      exact hi
    · rintro ⟨i, hi⟩
      refine ⟨i, ?_⟩
      have hik : i ≠ k := fun h => by
        subst h
        rw [List.getElem?_set_self hl] at hi
        cases hi
        exact hb rfl
      rw [List.getElem?_set_ne (Ne.symm hik)] at hi
      exact hi
theorem mw_push {A : Nat → Prop} {ws : va_W} {f : Wd} {q : Nat} {e1 : va_E} (hD : va_D A (ws ++ [(q, e1)])) (hf : ∀ (a : Nat) (e : va_E), f a = some e ↔ (a, e) ∈ ws) : f q = none ∧ ∀ (b : Nat) (e : va_E), va_up f q (some e1) b = some e ↔ (b, e) ∈ ws ++ [(q, e1)] := by
  have hn : f q = none := by
    cases h : f q with
    | none => rfl
    | some e =>
      obtain ⟨i, hi⟩ := List.getElem?_of_mem ((hf q e).mp h)
      have hl := (List.getElem?_eq_some_iff.mp hi).1
      have h1 : (ws ++ [(q, e1)])[i]? = some (q, e) := by rw [List.getElem?_append_left hl]; exact hi
      have h2 : (ws ++ [(q, e1)])[ws.length]? = some (q, e1) := by rw [List.getElem?_append_right (Nat.le_refl _), Nat.sub_self]; rfl
      have := hD.1 _ _ _ _ h1 h2 rfl
      omega
  refine ⟨hn, fun b e => ?_⟩
  by_cases hb : b = q
  · subst hb
    rw [va_up_self]
    constructor
    · intro h
      cases h
      exact List.mem_append_right _ (List.mem_singleton.mpr rfl)
    · intro h
      rcases List.mem_append.mp h with h | h
      · rw [(hf b e).mpr h] at hn
        cases hn
      · cases List.mem_singleton.mp h
        rfl
  · rw [va_up_ne _ _ hb, hf b e]
    constructor
    · exact fun h => List.mem_append_left _ h
    · intro h
      rcases List.mem_append.mp h with h | h
      · exact h
      · cases List.mem_singleton.mp h
        exact absurd rfl hb
/-- the walk's world: the map, what has changed since the start, what may -/
def ms (D : va_G) (A : Nat → Prop) (f : Wd) (s : State) (H : Heap) (locs : List Loc) : Prop := mw D A f H ∧ va_S A s.heap H locs ∧ ∀ q : Nat, s.heap.size ≤ q → A q
/-- which cells a method may change: those of its world, and new ones -/
def Af (f : Wd) (sz : Nat) : Nat → Prop := fun q => f q ≠ none ∨ sz ≤ q
theorem ms.AF {D : va_G} {A : Nat → Prop} {f : Wd} {s : State} {H : Heap} {locs : List Loc} (h : ms D A f s H locs) : ∀ q, Af f H.size q → A q := by
  intro q hq
  rcases hq with hq | hq
  · cases he : f q with
    | none => exact absurd he hq
    | some e => exact h.1.inA he
  · exact h.2.2 q (Nat.le_trans h.2.1.1 hq)
theorem mw.self {D : va_G} {A : Nat → Prop} {f : Wd} {H : Heap} {sz : Nat} (h : mw D A f H) : mw D (Af f sz) f H := h.weaken (fun a e he _ => Or.inl (by rw [he]; exact fun z => by cases z))
/-- what is known beside the world: the classes, the words that a call doesn't carry, the texts -/
def ev (G : GG) (A : Nat → Prop) (U : State) : Prop :=
  va_K G.1 classes (Gt G) U ∧ (∀ w ∈ EB, va_Nw w U) ∧ (∀ C ∈ AOs, va_AO C U) ∧ (∀ q ∈ NCs, va_Nc q.1 q.2 U) ∧ vk_S nTx lenTx bytTx G.2.2.1 G.2.2.2 A U U.heap ∧ (∀ q ∈ SRs, vk_R q.1 q.2.1 q.2.2.1 (G.2.2.1 q.2.2.2) U) ∧ va_Z "java/lang/String" "COMPACT_STRINGS" "Z" (.int 1) A U U.heap ∧ va_Zq "jdk/internal/util/Preconditions" "SIOOBE_FORMATTER" "Ljava/util/function/BiFunction;" A U U.heap
theorem eb_warm {w : Cond} (h : w ∈ EB) {s U : State} (hW : s.WarmedH U.vm) (hZ : va_Nw w s) : va_Nw w U := by
  have h := (List.mem_filter.mp h).2
  cases w <;> first | exact va_Nw.warmF hW hZ | exact va_Nw.warmM hW hZ | exact va_Nw.warmD hW hZ | exact va_Nw.warmC hW hZ | (simp [isE] at h)
theorem eb_tab {w : Cond} (h : w ∈ EB) : w.onTables = true := by
  have h := (List.mem_filter.mp h).2
  cases w <;> first | rfl | (simp [isE] at h)
theorem ev.call {G : GG} {A : Nat → Prop} {s : State} {f : Wd} {H : Heap} {locs : List Loc} (hE : ev G A s) (hw : ms G.1 A f s H locs) {U : State} (hU : U.heap = H) (hW : s.WarmedH U.vm) : ev G (Af f H.size) U := by
  obtain ⟨h1, h2, h3, h4, h5, h6, h7, h8⟩ := hE
  refine ⟨va_K.moved hW.alike h1, fun w hw' => eb_warm hw' hW (h2 w hw'), fun C hC => (h3 C hC).moved hW.alike, fun q hq => (h4 q hq).moved hW.alike, ?_, fun q hq => (h6 q hq).warm hW, ?_, ?_⟩
  · rw [hU]
    exact ((h5.kept hw.2.1.2.1).narrow hw.AF).moved hW.alike
  · rw [hU]
    exact ((h7.kept hw.2.1.2.1).narrow hw.AF).moved hW.alike
  · rw [hU]
    exact ((h8.kept hw.2.1.2.1).narrow hw.AF).moved hW.alike
theorem ev.blind {G : GG} {A : Nat → Prop} {U : State} (hE : ev G A U) (g : JFrame) (mk : MethodId) (a : Array Value) : ev G A (U.calling g mk a) := by
  obtain ⟨h1, h2, h3, h4, h5, h6, h7, h8⟩ := hE
  exact ⟨va_K.moved (u := U) (U := U.calling g mk a) (Vm.Alike.refl U.vm) h1, fun w hw' => va_Nw.same (u := U) (U := U.calling g mk a) (eb_tab hw') rfl (h2 w hw'), fun C hC => va_AO.moved (u := U) (U := U.calling g mk a) (Vm.Alike.refl U.vm) (h3 C hC), fun q hq => va_Nc.moved (u := U) (U := U.calling g mk a) (Vm.Alike.refl U.vm) (h4 q hq), vk_S.moved (u := U) (U := U.calling g mk a) (Vm.Alike.refl U.vm) h5, fun q hq => vk_R.same (u := U) (U := U.calling g mk a) rfl (h6 q hq), va_Z.moved (u := U) (U := U.calling g mk a) (Vm.Alike.refl U.vm) h7, va_Zq.moved (u := U) (U := U.calling g mk a) (Vm.Alike.refl U.vm) h8⟩
/-! contracts -/
def Pre (G : GG) (f : Wd) (sz : Nat) : State → Prop := fun U => U.heap.size = sz ∧ mw G.1 (fun _ => True) f U.heap ∧ ev G (Af f sz) U
def Bw (G : GG) (f : Wd) (sz : Nat) : Wd → State → Prop := fun f' t => mw G.1 (Af f sz) f' t.heap
theorem Pre.blind {G : GG} {f : Wd} {sz : Nat} {av : List Value} : FrameBlind (va_Pc av (Pre G f sz)) := by
  intro a U g mk h
  obtain ⟨h0, h1, h2, h3⟩ := h
  exact ⟨h0, h1, h2, h3.blind g mk a⟩
theorem Pre.of {G : GG} {A : Nat → Prop} {s : State} {f : Wd} {H : Heap} {locs : List Loc} (hE : ev G A s) (hw : ms G.1 A f s H locs) : ∀ U : State, U.heap = H → s.WarmedH U.vm → Pre G f H.size U := fun U hU hW => ⟨by rw [hU], by rw [hU]; exact hw.1.weaken (fun _ _ _ _ => trivial), hE.call hw hU hW⟩
abbrev wsOf (y : MethodName) (b : ByteArray) (nL : Nat) (ret : Option FieldType) : List Cond := Cond.code y b nL ret :: TB
/-- a contract: an int (or boolean ..) is answered; nothing; a reference (maybe null) -/
def Ci (G : GG) (l : Launch) (y : MethodName) (b : ByteArray) (nL : Nat) (ret : Option FieldType) (rm : Room) (sz : Nat) (f : Wd) (av : List Value) (post : Int32 → Wd → Prop) : Prop := Met l y (wsOf y b nL ret) rm (va_Pc av (Pre G f sz)) (va_Qi post (Bw G f sz) (Af f sz)) rm.cells rm.slots (Af f sz)
def Cv (G : GG) (l : Launch) (y : MethodName) (b : ByteArray) (nL : Nat) (ret : Option FieldType) (rm : Room) (sz : Nat) (f : Wd) (av : List Value) (post : Wd → Prop) : Prop := Met l y (wsOf y b nL ret) rm (va_Pc av (Pre G f sz)) (va_Qv post (Bw G f sz) (Af f sz)) rm.cells rm.slots (Af f sz)
def Cq (G : GG) (l : Launch) (y : MethodName) (b : ByteArray) (nL : Nat) (ret : Option FieldType) (rm : Room) (sz : Nat) (f : Wd) (av : List Value) (post : Option Nat → Wd → Prop) : Prop := Met l y (wsOf y b nL ret) rm (va_Pc av (Pre G f sz)) (va_Qq post (Bw G f sz) (Af f sz)) rm.cells rm.slots (Af f sz)
/-- what holds at a method's entry -/
def En (G : GG) (p : Program) (s : State) (m : MethodId) (meth : Method) (c : Code) (y : MethodName) (b : ByteArray) (nL : Nat) (ret : Option FieldType) (sz : Nat) (f : Wd) (av : List Value) (ls : Array Slot) (H : Heap) (locs : List Loc) : Prop :=
  CallFix p m c b nL s av.toArray TB y.cls ∧ meth.sig.returnType = ret ∧ meth.locks = false ∧ meth.name = y.name ∧ ev G (Af f sz) s ∧ ms G.1 (Af f sz) f s H locs ∧ s.heap.size = sz ∧ lv_has ls nL (lv_args 0 av)
theorem ct_of {G : GG} {l : Launch} {y : MethodName} {b : ByteArray} {nL : Nat} {ret : Option FieldType} {rm : Room} {sz : Nat} {f : Wd} {av : List Value} {Qc : Array Value → State → Outcome → State → Prop} {mc ms' : Nat} {free : Addr → Prop} (hy : plainName y.cls = true) (hn : (lg_sl av).length ≤ nL)
    (body : ∀ (p : Program) (e : Env) (s : State) (m : MethodId) (below : List Frame) (meth : Method) (c : Code) (ls : Array Slot) (H : Heap) (locs : List Loc), En G p s m meth c y b nL ret sz f av ls H locs → W p l e rm s m av.toArray below meth c H locs 0 0 (MQ below Qc av.toArray s mc ms' free) (F0 m 0 ls [])) :
    Met l y (wsOf y b nL ret) rm (va_Pc av (Pre G f sz)) Qc mc ms' free := by
  refine Met.ofW (cc := b) (maxL := nL) (ret := ret) hy rfl ?_
  intro p e s m args below meth c s₁ B hml hv
  obtain ⟨rfl, hsz, hM, hE⟩ := hv
  have hts := atoms_spec (ws := wsOf y b nL ret) B.pre
  have hown : s.vm.findClass y.cls = some m.cls := findClass_of_methodNamed B.named
  have hl := lv_entry av (n := nL) hn
  rw [lg_entry_eq]
  generalize (lg_sl av ++ List.replicate (nL - (lg_sl av).length) Slot.unset).toArray = ls at hl ⊢
  refine body p e s m below meth c ls s.heap [] ⟨⟨B.exec, B.bytes, hml, hown, fun w hw => hts w (List.mem_cons_of_mem _ hw)⟩, B.returns, B.notSynchronized, (name_of_methodNamed B.named B.method).1, hE, ⟨hM.self, va_S.rf, fun q hq => Or.inr (by rw [← hsz]; exact hq)⟩, hsz, hl⟩
