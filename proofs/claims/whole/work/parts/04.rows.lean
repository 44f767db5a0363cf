/-! ROWS: instructions and calls over the map -/
/-- a class of the table: its words, its place, its fields' types -/
def kc (ci : Nat) (C : String) (T : u_T) (N : Nat) : Prop := (∀ w ∈ u_ws C T N, w ∈ TB) ∧ classes[ci]? = some (C, T, N) ∧ (∃ ty : Nat → FieldType, ∀ k, k < N → parseFieldDescriptor (T k).2.2.1 = some (ty k)) ∧ ∀ a, a < N → ∀ b, b < N → a ≠ b → (T a).2.1 ≠ (T b).2.1
/-- a field's link out of a class's pool -/
def lnk (own : String) (idx : Nat) (T : u_T) (N k : Nat) : Prop := k < N ∧ ∃ ref : String, ((T k).1 = ref ∨ Cond.sameField ref (T k).1 (T k).2.1 (T k).2.2.1 ∈ TB) ∧ (Cond.fieldLink own idx ref (T k).2.1 (T k).2.2.1 ∈ TB ∨ ∃ host : String, Cond.fieldLinkNest own idx ref (T k).2.1 (T k).2.2.1 host ∈ EB)
/-- a new object's words -/
def nwk (own : String) (idx : Nat) (C : String) (N : Nat) : Prop := Cond.classLink own idx C ∈ TB ∧ Cond.instantiable C N ∈ TB ∧ Cond.initialized C ∈ TB
/-- a call's words: its link, the callee's code, how many arguments -/
def cwk (own : String) (idx : Nat) (y : MethodName) (b : ByteArray) (nL : Nat) (ret : Option FieldType) (n : Nat) : Prop :=
  (Cond.methodLink own idx y ∈ TB ∨ ∃ host : String, Cond.methodLinkNest own idx y host ∈ EB) ∧ Cond.code y b nL ret ∈ TB ∧ Cond.initialized y.cls ∈ TB ∧ y.cls ≠ "java/lang/invoke/MethodHandle" ∧ y.cls ≠ "java/lang/invoke/VarHandle" ∧ (parseMethodDescriptor y.desc).map (fun d => d.parameters.length) = some n
theorem tb_G {w : Cond} (h : w ∈ TB) : GoodIn TB (w :: TB) := fun x hx => by
  rcases List.mem_cons.mp hx with rfl | hx
  · exact ⟨h, tb_good h⟩
  · exact ⟨hx, tb_good hx⟩
section MR
variable {p : Program} {l : Launch} {e : Env} {R : Room} {s : State} {m : MethodId} {args : Array Value} {below : List Frame} {meth : Method} {c : Code} {H : Heap} {locs : List Loc} {cells slots : Nat} {Q : State → Prop}
variable {cc : ByteArray} {pc nL : Nat} {ls : Array Slot} {rest : List Value} {G : GG} {A : Nat → Prop} {a : Nat} {f : Wd} {own : String}
theorem m_same {ref o n d : String} (hc : CallFix p m c cc nL s args TB own) (h : o = ref ∨ Cond.sameField ref o n d ∈ TB) : ∀ x, s.fieldFound? o n d = some x → s.fieldFound? ref n d = some x := by
  rcases h with rfl | h
  · exact fun _ h => h
  · exact fun x hx => u_same (hc.2.2.2.2 _ h) x hx
theorem m_get (hc : CallFix p m c cc nL s args TB own) (hE : ev G A s) (hw : ms G.1 A f s H locs) {C : String} {T : u_T} {N ci k idx : Nat} {fs : List Value} {v : Value} (he : f a = some (.inr (ci, fs))) (hk : kc ci C T N) (hl : lnk own idx T N k) (hv : fs[k]? = some v) (hdg : decode cc pc = .ok (.getfield idx, 3))
    (kk : W p l e R s m args below meth c H locs cells slots Q (F0 m (pc + 3) ls (v :: rest))) : W p l e R s m args below meth c H locs cells slots Q (F0 m pc ls (.ref a :: rest)) := by
  obtain ⟨hk0, ref, hs, hl | ⟨host, hl⟩⟩ := hl
  · exact va_get hc.1 hc.2.1 hc.2.2.2.2 hk.1 hc.2.2.2.1 hE.1 (hw.1.one he) 0 rfl hk.2.1 k hk0 (hc.2.2.2.2 _ hl) (m_same hc hs) hv hdg kk
  · exact va_getN hc.1 hc.2.1 hc.2.2.2.2 hk.1 hc.2.2.2.1 hE.1 (hw.1.one he) 0 rfl hk.2.1 k hk0 (va_Nw.use rfl (hE.2.1 _ hl)) (m_same hc hs) hv hdg kk
theorem m_put (hc : CallFix p m c cc nL s args TB own) (hE : ev G A s) (hw : ms G.1 A f s H locs) {C : String} {T : u_T} {N ci k idx : Nat} {fs : List Value} {v : Value} {ty : FieldType} (he : f a = some (.inr (ci, fs))) (hk : kc ci C T N) (hl : lnk own idx T N k) (hfin : (T k).2.2.2 = false) (hd : parseFieldDescriptor (T k).2.2.1 = some ty) (hn : narrow ty v = v) (hfit : fits ty v = true) (hlen : k < fs.length) (hdg : decode cc pc = .ok (.putfield idx, 3))
    (kk : ∀ (H1 : Heap) (locs1 : List Loc), ms G.1 A (va_up f a (some (.inr (ci, fs.set k v)))) s H1 locs1 → W p l e R s m args below meth c H1 locs1 cells slots Q (F0 m (pc + 3) ls rest)) : W p l e R s m args below meth c H locs cells slots Q (F0 m pc ls (v :: .ref a :: rest)) := by
  obtain ⟨hk0, ref, hs, hl⟩ := hl
  obtain ⟨h1, h2, ⟨ty0, h3⟩, h4⟩ := hk
  obtain ⟨⟨ws, hP, hD, hf⟩, hS, hA⟩ := hw
  obtain ⟨q0, hq0⟩ := List.getElem?_of_mem ((hf _ _).mp he)
  rcases hl with hl | ⟨host, hl⟩
  · exact va_put hc.1 hc.2.1 hc.2.2.2.2 h1 ty0 h3 h4 hc.2.2.2.1 hE.1 hP hD hS q0 hq0 h2 k hk0 (hc.2.2.2.2 _ hl) (m_same hc hs) hfin hd hn hfit hlen hdg (fun H1 locs1 hP1 hD1 hS1 => kk H1 locs1 ⟨⟨_, hP1, hD1, mw_set hD hq0 hf⟩, hS1, hA⟩)
  · exact va_putN hc.1 hc.2.1 hc.2.2.2.2 h1 ty0 h3 h4 hc.2.2.2.1 hE.1 hP hD hS q0 hq0 h2 k hk0 (va_Nw.use rfl (hE.2.1 _ hl)) (m_same hc hs) hfin hd hn hfit hlen hdg (fun H1 locs1 hP1 hD1 hS1 => kk H1 locs1 ⟨⟨_, hP1, hD1, mw_set hD hq0 hf⟩, hS1, hA⟩)
theorem m_putF (hc : CallFix p m c cc nL s args TB own) (hE : ev G A s) (hw : ms G.1 A f s H locs) {C : String} {T : u_T} {N ci k idx : Nat} {fs : List Value} {v : Value} {ty : FieldType} (hin : meth.name = "<init>") (he : f a = some (.inr (ci, fs))) (hk : kc ci C T N) (hl : k < N ∧ Cond.fieldLink own idx own (T k).2.1 (T k).2.2.1 ∈ TB) (hfin : (T k).2.2.2 = true) (hdecl : (T k).1 = own) (hd : parseFieldDescriptor (T k).2.2.1 = some ty) (hn : narrow ty v = v) (hfit : fits ty v = true) (hlen : k < fs.length) (hdg : decode cc pc = .ok (.putfield idx, 3))
    (kk : ∀ (H1 : Heap) (locs1 : List Loc), ms G.1 A (va_up f a (some (.inr (ci, fs.set k v)))) s H1 locs1 → W p l e R s m args below meth c H1 locs1 cells slots Q (F0 m (pc + 3) ls rest)) : W p l e R s m args below meth c H locs cells slots Q (F0 m pc ls (v :: .ref a :: rest)) := by
  obtain ⟨hk0, hl⟩ := hl
  obtain ⟨h1, h2, ⟨ty0, h3⟩, h4⟩ := hk
  obtain ⟨⟨ws, hP, hD, hf⟩, hS, hA⟩ := hw
  obtain ⟨q0, hq0⟩ := List.getElem?_of_mem ((hf _ _).mp he)
  exact va_putF hc.1 hc.2.1 hc.2.2.2.2 h1 ty0 h3 h4 hc.2.2.2.1 hE.1 hP hD hS q0 hq0 h2 k hk0 (hc.2.2.2.2 _ hl) (m_same hc (Or.inl hdecl)) hfin hin hdecl hd hn hfit hlen hdg (fun H1 locs1 hP1 hD1 hS1 => kk H1 locs1 ⟨⟨_, hP1, hD1, mw_set hD hq0 hf⟩, hS1, hA⟩)
theorem m_new (hc : CallFix p m c cc nL s args TB own) (hE : ev G A s) (hw : ms G.1 A f s H locs) {C : String} {T : u_T} {N ci idx : Nat} {fs : List Value} (hk : kc ci C T N) (hl : nwk own idx C N) (hfs : ∀ j, j < N → ∀ ty, parseFieldDescriptor (T j).2.2.1 = some ty → defaultValue ty = vp_V fs j) (hcells : cells + 1 ≤ R.cells) (hslots : slots + N ≤ R.slots) (hdg : decode cc pc = .ok (.new idx, 3))
    (kk : ∀ (q : Nat) (H1 : Heap), f q = none → ms G.1 A (va_up f q (some (.inr (ci, fs)))) s H1 locs → W p l e R s m args below meth c H1 locs (cells + 1) (slots + N) Q (F0 m (pc + 3) ls (.ref q :: rest))) : W p l e R s m args below meth c H locs cells slots Q (F0 m pc ls rest) := by
  obtain ⟨l1, l2, l3⟩ := hl
  obtain ⟨h1, h2, ⟨ty0, h3⟩, h4⟩ := hk
  obtain ⟨⟨ws, hP, hD, hf⟩, hS, hA⟩ := hw
  exact va_new hc.1 hc.2.1 hc.2.2.2.2 h1 ty0 h3 hc.2.2.2.1 (hc.2.2.2.2 _ l1) (hc.2.2.2.2 _ l2) (hc.2.2.2.2 _ l3) hE.1 hP hD hS hA h2 (fun j hj => hfs j hj _ (h3 j hj)) hcells hslots hdg (fun q H1 hP1 hD1 hS1 => kk q H1 (mw_push hD1 hf).1 ⟨⟨_, hP1, hD1, (mw_push hD1 hf).2⟩, hS1, hA⟩)
theorem va_RA.one {U : State} {c1 c2 : ClassId} {ty : FieldType} (h1 : va_RA U c1 ty) (h2 : va_RA U c2 ty) : c1 = c2 := by
  cases ty with
  | object C =>
    obtain ⟨_, _, _, _, _, a⟩ := h1
    obtain ⟨_, _, _, _, _, b⟩ := h2
    exact Option.some.inj (a.symm.trans b)
  | _ => exact Option.some.inj (Eq.trans (Eq.symm h1) h2)
theorem m_newa (hc : CallFix p m c cc nL s args TB own) (hE : ev G A s) (hw : ms G.1 A f s H locs) {atype : ArrayType} {ty : FieldType} (harr : Cond.arrayClass ty ∈ TB) (hty : newarray.typeOf atype = ty) (t0 : Nat) {cA : ClassId} (ht : (Gt G)[t0]? = some (cA, ty)) {n : Int32} {N' : Nat} {a0 : vp_A} (ha : ∀ cA : ClassId, vp_cell cA a0 = arrV cA N' (fun _ => defaultValue ty)) (hn : ¬ n < 0) (hN : n.toNatClampNeg = N') (hbytes : N' * componentBytes ty ≤ 536870912) (hcells : cells + 1 ≤ R.cells) (hslots : slots + N' ≤ R.slots) (hdg : decode cc pc = .ok (.newarray atype, 2))
    (kk : ∀ (q : Nat) (H1 : Heap), f q = none → ms G.1 A (va_up f q (some (.inl (cA, a0)))) s H1 locs → W p l e R s m args below meth c H1 locs (cells + 1) (slots + N') Q (F0 m (pc + 2) ls (.ref q :: rest))) : W p l e R s m args below meth c H locs cells slots Q (F0 m pc ls (.int n :: rest)) := by
  obtain ⟨⟨ws, hP, hD, hf⟩, hS, hA⟩ := hw
  refine va_newa hc.1 hc.2.1 (by rw [hty]; exact hc.2.2.2.2 _ harr) hty hE.1 hP hD hS hA ha hn hN hbytes hcells hslots hdg (fun q cB H1 hK1 hP1 hD1 hS1 => ?_)
  have hB := hK1.2 (Gt G).length (cB, ty) (by rw [List.getElem?_append_right (Nat.le_refl _), Nat.sub_self]; rfl)
  have e1 : cB = cA := va_RA.one hB.2 (hE.1.2 t0 _ ht).2
  subst e1
  exact kk q H1 (mw_push hD1 hf).1 ⟨⟨_, hP1, hD1, (mw_push hD1 hf).2⟩, hS1, hA⟩
theorem m_newq (hc : CallFix p m c cc nL s args TB own) (hE : ev G A s) (hw : ms G.1 A f s H locs) {C : String} {idx : Nat} (hl : Cond.classLink own idx C ∈ TB) (ho : C ∈ AOs) (t0 : Nat) {cA : ClassId} (ht : (Gt G)[t0]? = some (cA, .object C)) {n : Int32} {N' : Nat} (hn : ¬ n < 0) (hN : n.toNatClampNeg = N') (hbytes : N' * 4 ≤ 536870912) (hcells : cells + 1 ≤ R.cells) (hslots : slots + N' ≤ R.slots) (hdg : decode cc pc = .ok (.anewarray idx, 3))
    (kk : ∀ (q : Nat) (H1 : Heap), f q = none → ms G.1 A (va_up f q (some (.inl (cA, N', .inr (.inr (.inr (.inr (fun _ => none)))))))) s H1 locs → W p l e R s m args below meth c H1 locs (cells + 1) (slots + N') Q (F0 m (pc + 3) ls (.ref q :: rest))) : W p l e R s m args below meth c H locs cells slots Q (F0 m pc ls (.int n :: rest)) := by
  obtain ⟨⟨ws, hP, hD, hf⟩, hS, hA⟩ := hw
  refine va_newq hc.1 hc.2.1 hc.2.2.2.1 (hc.2.2.2.2 _ hl) (hE.2.2.1 C ho) hE.1 hP hD hS hA hn hN hbytes hcells hslots hdg (fun q cB H1 hK1 hP1 hD1 hS1 => ?_)
  have hB := hK1.2 (Gt G).length (cB, .object C) (by rw [List.getElem?_append_right (Nat.le_refl _), Nat.sub_self]; rfl)
  have e1 : cB = cA := va_RA.one hB.2 (hE.1.2 t0 _ ht).2
  subst e1
  exact kk q H1 (mw_push hD1 hf).1 ⟨⟨_, hP1, hD1, (mw_push hD1 hf).2⟩, hS1, hA⟩
theorem m_iald (hc : CallFix p m c cc nL s args TB own) (hE : ev G A s) (hw : ms G.1 A f s H locs) (t0 : Nat) {cA : ClassId} {n : Nat} {g : Nat → Int32} (he : f a = some (.inl (cA, n, .inl g))) (ht : (Gt G)[t0]? = some (cA, .int)) {i : Int32} (hin : vp_in i n) (hdg : decode cc pc = .ok (.iaload, 1))
    (kk : W p l e R s m args below meth c H locs cells slots Q (F0 m (pc + 1) ls (.int (g i.toNatClampNeg) :: rest))) : W p l e R s m args below meth c H locs cells slots Q (F0 m pc ls (.int i :: .ref a :: rest)) := va_iald hc.1 hc.2.1 hE.1 (hw.1.one he) 0 t0 rfl ht hin hdg kk
theorem m_cald (hc : CallFix p m c cc nL s args TB own) (hE : ev G A s) (hw : ms G.1 A f s H locs) (t0 : Nat) {cA : ClassId} {n : Nat} {g : Nat → Int32} (he : f a = some (.inl (cA, n, .inl g))) (ht : (Gt G)[t0]? = some (cA, .char)) {i : Int32} (hin : vp_in i n) (hdg : decode cc pc = .ok (.caload, 1))
    (kk : W p l e R s m args below meth c H locs cells slots Q (F0 m (pc + 1) ls (.int (g i.toNatClampNeg) :: rest))) : W p l e R s m args below meth c H locs cells slots Q (F0 m pc ls (.int i :: .ref a :: rest)) := va_cald hc.1 hc.2.1 hE.1 (hw.1.one he) 0 t0 rfl ht hin hdg kk
theorem m_zald (hc : CallFix p m c cc nL s args TB own) (hE : ev G A s) (hw : ms G.1 A f s H locs) (t0 : Nat) {cA : ClassId} {n : Nat} {g : Nat → Int32} (he : f a = some (.inl (cA, n, .inl g))) (ht : (Gt G)[t0]? = some (cA, .boolean)) {i : Int32} (hin : vp_in i n) (hdg : decode cc pc = .ok (.baload, 1))
    (kk : W p l e R s m args below meth c H locs cells slots Q (F0 m (pc + 1) ls (.int (g i.toNatClampNeg) :: rest))) : W p l e R s m args below meth c H locs cells slots Q (F0 m pc ls (.int i :: .ref a :: rest)) := va_zald hc.1 hc.2.1 hE.1 (hw.1.one he) 0 t0 rfl ht hin hdg kk
theorem m_aald (hc : CallFix p m c cc nL s args TB own) (hE : ev G A s) (hw : ms G.1 A f s H locs) (t0 : Nat) {cA : ClassId} {C : String} {n : Nat} {g : Nat → Option Nat} (he : f a = some (.inl (cA, n, .inr (.inr (.inr (.inr g)))))) (ht : (Gt G)[t0]? = some (cA, .object C)) {i : Int32} (hin : vp_in i n) (hdg : decode cc pc = .ok (.aaload, 1))
    (kk : W p l e R s m args below meth c H locs cells slots Q (F0 m (pc + 1) ls (va_rf (g i.toNatClampNeg) :: rest))) : W p l e R s m args below meth c H locs cells slots Q (F0 m pc ls (.int i :: .ref a :: rest)) := va_aldq hc.1 hc.2.1 hE.1 (hw.1.one he) 0 t0 rfl ht hin hdg kk
theorem m_alen (hc : CallFix p m c cc nL s args TB own) (hE : ev G A s) (hw : ms G.1 A f s H locs) (t0 : Nat) {cA : ClassId} {x : vp_A} {ty : FieldType} (he : f a = some (.inl (cA, x))) (ht : (Gt G)[t0]? = some (cA, ty)) (hdg : decode cc pc = .ok (.arraylength, 1))
    (kk : W p l e R s m args below meth c H locs cells slots Q (F0 m (pc + 1) ls (.int (nI x.1) :: rest))) : W p l e R s m args below meth c H locs cells slots Q (F0 m pc ls (.ref a :: rest)) := va_alen hc.1 hc.2.1 hE.1 (hw.1.one he) 0 t0 rfl ht rfl hdg kk
theorem m_iast (hc : CallFix p m c cc nL s args TB own) (hE : ev G A s) (hw : ms G.1 A f s H locs) (t0 : Nat) {cA : ClassId} {n : Nat} {g : Nat → Int32} (he : f a = some (.inl (cA, n, .inl g))) (ht : (Gt G)[t0]? = some (cA, .int)) {i x : Int32} (hin : vp_in i n) (hdg : decode cc pc = .ok (.iastore, 1))
    (kk : ∀ (H1 : Heap) (locs1 : List Loc), ms G.1 A (va_up f a (some (.inl (cA, n, .inl (upd g i.toNatClampNeg x))))) s H1 locs1 → W p l e R s m args below meth c H1 locs1 cells slots Q (F0 m (pc + 1) ls rest)) : W p l e R s m args below meth c H locs cells slots Q (F0 m pc ls (.int x :: .int i :: .ref a :: rest)) := by
  obtain ⟨⟨ws, hP, hD, hf⟩, hS, hA⟩ := hw
  obtain ⟨q0, hq0⟩ := List.getElem?_of_mem ((hf _ _).mp he)
  exact va_iast hc.1 hc.2.1 hE.1 hP hD hS q0 t0 hq0 ht hin hdg (fun H1 locs1 hP1 hD1 hS1 => kk H1 locs1 ⟨⟨_, hP1, hD1, mw_set hD hq0 hf⟩, hS1, hA⟩)
theorem m_cast (hc : CallFix p m c cc nL s args TB own) (hE : ev G A s) (hw : ms G.1 A f s H locs) (t0 : Nat) {cA : ClassId} {n : Nat} {g : Nat → Int32} (he : f a = some (.inl (cA, n, .inl g))) (ht : (Gt G)[t0]? = some (cA, .char)) {i x : Int32} (hin : vp_in i n) (hdg : decode cc pc = .ok (.castore, 1))
    (kk : ∀ (H1 : Heap) (locs1 : List Loc), ms G.1 A (va_up f a (some (.inl (cA, n, .inl (upd g i.toNatClampNeg (vp_nar .char x)))))) s H1 locs1 → W p l e R s m args below meth c H1 locs1 cells slots Q (F0 m (pc + 1) ls rest)) : W p l e R s m args below meth c H locs cells slots Q (F0 m pc ls (.int x :: .int i :: .ref a :: rest)) := by
  obtain ⟨⟨ws, hP, hD, hf⟩, hS, hA⟩ := hw
  obtain ⟨q0, hq0⟩ := List.getElem?_of_mem ((hf _ _).mp he)
  exact va_cast hc.1 hc.2.1 hE.1 hP hD hS q0 t0 hq0 ht hin hdg (fun H1 locs1 hP1 hD1 hS1 => kk H1 locs1 ⟨⟨_, hP1, hD1, mw_set hD hq0 hf⟩, hS1, hA⟩)
theorem m_zast (hc : CallFix p m c cc nL s args TB own) (hE : ev G A s) (hw : ms G.1 A f s H locs) (t0 : Nat) {cA : ClassId} {n : Nat} {g : Nat → Int32} (he : f a = some (.inl (cA, n, .inl g))) (ht : (Gt G)[t0]? = some (cA, .boolean)) {i x : Int32} (hin : vp_in i n) (hdg : decode cc pc = .ok (.bastore, 1))
    (kk : ∀ (H1 : Heap) (locs1 : List Loc), ms G.1 A (va_up f a (some (.inl (cA, n, .inl (upd g i.toNatClampNeg (vp_nar .boolean x)))))) s H1 locs1 → W p l e R s m args below meth c H1 locs1 cells slots Q (F0 m (pc + 1) ls rest)) : W p l e R s m args below meth c H locs cells slots Q (F0 m pc ls (.int x :: .int i :: .ref a :: rest)) := by
  obtain ⟨⟨ws, hP, hD, hf⟩, hS, hA⟩ := hw
  obtain ⟨q0, hq0⟩ := List.getElem?_of_mem ((hf _ _).mp he)
  exact va_zast hc.1 hc.2.1 hE.1 hP hD hS q0 t0 hq0 ht hin hdg (fun H1 locs1 hP1 hD1 hS1 => kk H1 locs1 ⟨⟨_, hP1, hD1, mw_set hD hq0 hf⟩, hS1, hA⟩)
theorem m_recv (hE : ev G A s) (hw : ms G.1 A f s H locs) {C : String} {T : u_T} {N ci : Nat} {fs : List Value} (he : f a = some (.inr (ci, fs))) (hk : classes[ci]? = some (C, T, N)) : ∃ cell : Cell, H[a]? = some cell ∧ cell.vm.isStatics = false ∧ s.vm.findClass C = some cell.cls := va_recv (q := (C, T, N)) hE.1 (hw.1.one he) hk (q0 := 0) rfl
/-- a reference goes into a row of references -/
theorem m_aast (hc : CallFix p m c cc nL s args TB own) (hE : ev G A s) (hw : ms G.1 A f s H locs) (t0 : Nat) {cA : ClassId} {E : String} {n v : Nat} {g : Nat → Option Nat} (he : f a = some (.inl (cA, n, .inr (.inr (.inr (.inr g)))))) (ht : (Gt G)[t0]? = some (cA, .object E)) {C : String} {T : u_T} {N ci : Nat} {fs : List Value} (hv : f v = some (.inr (ci, fs))) (hk : classes[ci]? = some (C, T, N)) (hca : C = E ∨ Cond.castable C E ∈ EB) {i : Int32} (hin : vp_in i n) (hdg : decode cc pc = .ok (.aastore, 1))
    (kk : ∀ (H1 : Heap) (locs1 : List Loc), ms G.1 A (va_up f a (some (.inl (cA, n, .inr (.inr (.inr (.inr (va_up g i.toNatClampNeg (some v))))))))) s H1 locs1 → W p l e R s m args below meth c H1 locs1 cells slots Q (F0 m (pc + 1) ls rest)) : W p l e R s m args below meth c H locs cells slots Q (F0 m pc ls (.ref v :: .int i :: .ref a :: rest)) := by
  have hany : va_Any E s H v := by
    refine va_rAny (r := (C, T, N)) hE.1 (hw.1.one hv) (q0 := 0) rfl hk (fun comp c0 h1 h2 => ?_)
    rcases hca with rfl | hca
    · cases h1.symm.trans h2
      exact va_asg _ _
    · obtain ⟨c1, t1, f1, f2, f3⟩ := Cond.castable_spec (va_Nw.use (A := args) rfl (hE.2.1 _ hca))
      cases h2.symm.trans f1
      cases h1.symm.trans f2
      exact f3
  obtain ⟨⟨ws, hP, hD, hf⟩, hS, hA⟩ := hw
  obtain ⟨q0, hq0⟩ := List.getElem?_of_mem ((hf _ _).mp he)
  exact va_astqM hc.1 hc.2.1 hE.1 hP hD hS q0 t0 hq0 ht hany hin hdg (fun H1 locs1 hP1 hD1 hS1 => kk H1 locs1 ⟨⟨_, hP1, hD1, mw_set hD hq0 hf⟩, hS1, hA⟩)
theorem m_aastN (hc : CallFix p m c cc nL s args TB own) (hE : ev G A s) (hw : ms G.1 A f s H locs) (t0 : Nat) {cA : ClassId} {E : String} {n : Nat} {g : Nat → Option Nat} (he : f a = some (.inl (cA, n, .inr (.inr (.inr (.inr g)))))) (ht : (Gt G)[t0]? = some (cA, .object E)) {i : Int32} (hin : vp_in i n) (hdg : decode cc pc = .ok (.aastore, 1))
    (kk : ∀ (H1 : Heap) (locs1 : List Loc), ms G.1 A (va_up f a (some (.inl (cA, n, .inr (.inr (.inr (.inr (va_up g i.toNatClampNeg none)))))))) s H1 locs1 → W p l e R s m args below meth c H1 locs1 cells slots Q (F0 m (pc + 1) ls rest)) : W p l e R s m args below meth c H locs cells slots Q (F0 m pc ls (.null :: .int i :: .ref a :: rest)) := by
  obtain ⟨⟨ws, hP, hD, hf⟩, hS, hA⟩ := hw
  obtain ⟨q0, hq0⟩ := List.getElem?_of_mem ((hf _ _).mp he)
  exact va_astqN hc.1 hc.2.1 hE.1 hP hD hS q0 t0 hq0 ht hin hdg (fun H1 locs1 hP1 hD1 hS1 => kk H1 locs1 ⟨⟨_, hP1, hD1, mw_set hD hq0 hf⟩, hS1, hA⟩)
/-- instanceof and checkcast of an object of the table -/
theorem m_instY (hc : CallFix p m c cc nL s args TB own) (hE : ev G A s) (hw : ms G.1 A f s H locs) {C E : String} {T : u_T} {N ci idx : Nat} {fs : List Value} (he : f a = some (.inr (ci, fs))) (hk : classes[ci]? = some (C, T, N)) (hl : Cond.classLink own idx E ∈ TB) (hca : C = E ∨ Cond.castable C E ∈ EB) (hdg : decode cc pc = .ok (.instanceof idx, 3))
    (kk : W p l e R s m args below meth c H locs cells slots Q (F0 m (pc + 3) ls (.int 1 :: rest))) : W p l e R s m args below meth c H locs cells slots Q (F0 m pc ls (.ref a :: rest)) := by
  rcases hca with rfl | hca
  · exact va_instE hc.1 hc.2.1 hc.2.2.2.1 (hc.2.2.2.2 _ hl) (m_recv hE hw he hk) hdg kk
  · exact va_instY hc.1 hc.2.1 hc.2.2.2.1 (hc.2.2.2.2 _ hl) (hE.2.1 _ hca) (m_recv hE hw he hk) hdg kk
theorem m_instN (hc : CallFix p m c cc nL s args TB own) (hE : ev G A s) (hw : ms G.1 A f s H locs) {C E : String} {T : u_T} {N ci idx : Nat} {fs : List Value} (he : f a = some (.inr (ci, fs))) (hk : classes[ci]? = some (C, T, N)) (hl : Cond.classLink own idx E ∈ TB) (hca : (C, E) ∈ NCs) (hdg : decode cc pc = .ok (.instanceof idx, 3))
    (kk : W p l e R s m args below meth c H locs cells slots Q (F0 m (pc + 3) ls (.int 0 :: rest))) : W p l e R s m args below meth c H locs cells slots Q (F0 m pc ls (.ref a :: rest)) := va_instNo hc.1 hc.2.1 hc.2.2.2.1 (hc.2.2.2.2 _ hl) (hE.2.2.2.1 _ hca) (m_recv hE hw he hk) hdg kk
theorem m_castY (hc : CallFix p m c cc nL s args TB own) (hE : ev G A s) (hw : ms G.1 A f s H locs) {C E : String} {T : u_T} {N ci idx : Nat} {fs : List Value} (he : f a = some (.inr (ci, fs))) (hk : classes[ci]? = some (C, T, N)) (hl : Cond.classLink own idx E ∈ TB) (hca : C = E ∨ Cond.castable C E ∈ EB) (hdg : decode cc pc = .ok (.checkcast idx, 3))
    (kk : W p l e R s m args below meth c H locs cells slots Q (F0 m (pc + 3) ls (.ref a :: rest))) : W p l e R s m args below meth c H locs cells slots Q (F0 m pc ls (.ref a :: rest)) := by
  rcases hca with rfl | hca
  · exact va_castE hc.1 hc.2.1 hc.2.2.2.1 (hc.2.2.2.2 _ hl) (m_recv hE hw he hk) hdg kk
  · exact va_castY hc.1 hc.2.1 hc.2.2.2.1 (hc.2.2.2.2 _ hl) (hE.2.1 _ hca) (m_recv hE hw he hk) hdg kk
theorem m_objInit (hc : CallFix p m c cc nL s args TB own) {idx : Nat} (hl : Cond.methodLink own idx Lib.objectInit ∈ TB) (h2 : Cond.instanceMethod Lib.objectInit ∈ TB ∧ Cond.code Lib.objectInit ⟨#[0xb1]⟩ 1 none ∈ TB) (hsize : ls.size = nL) (hdg : decode cc pc = .ok (.invokespecial idx, 3)) (hframes : 1 ≤ R.frames) (hlocals : (rest.map fun v => v.category).sum + 12 ≤ R.locals)
    (kk : W p l e R s m args below meth c H locs cells slots Q (F0 m (pc + 3) ls rest)) : W p l e R s m args below meth c H locs cells slots Q (F0 m pc ls (.ref a :: rest)) :=
  W.objInit hc.1 hc.2.1 hc.2.2.2.1 (hc.2.2.2.2 _ hl) (hc.2.2.2.2 _ h2.1) (hc.2.2.2.2 _ h2.2) rfl (hsize.trans hc.2.2.1.symm) rfl hdg hframes (by show 2 * 0 + _ + 12 ≤ _; omega) kk
/-! calls -/
variable {y : MethodName} {b : ByteArray} {nL' n idx mc ms' : Nat} {ret : Option FieldType} {rm : Room} {As st0 : List Value} {Qc : Array Value → State → Outcome → State → Prop} {free : Addr → Prop}
theorem m_runV0 (hc : CallFix p m c cc nL s args TB own) (hE : ev G A s) (hw : ms G.1 A f s H locs) (hM : Met l y (wsOf y b nL' ret) rm (va_Pc (.ref a :: As) (Pre G f H.size)) Qc mc ms' free) {C : String} (hrc : ∃ cell : Cell, H[a]? = some cell ∧ cell.vm.isStatics = false ∧ s.vm.findClass C = some cell.cls) (hcw : cwk own idx y b nL' ret n) (hsel : Cond.instanceMethod y ∈ TB ∧ Cond.selects C y y ∈ TB) (hn : As.length = n) (hsize : ls.size = nL) (hst : st0 = As.reverse ++ .ref a :: rest) (hW : (rest.map fun v => v.category).sum ≤ 8) (hdg : decode cc pc = .ok (.invokevirtual idx, 3)) (hrm : rm.cells = mc ∧ rm.slots = ms' ∧ rm.frames + 1 ≤ R.frames ∧ 8 + (nL' + 11) + rm.locals ≤ R.locals) (hf : cells + mc ≤ R.cells ∧ slots + ms' ≤ R.slots) :
    va_Run p l e R s m args below meth c H locs cells slots mc ms' (F0 m pc ls st0) rest (Qc (Value.ref a :: As).toArray) free := by
  obtain ⟨hlk, hco, hini, hd⟩ := hcw
  have hp : PreV s H C a (va_Pc (.ref a :: As) (Pre G f H.size)) As := ⟨Pre.blind, hrc, fun U hU hW => ⟨rfl, Pre.of hE hw U hU hW⟩⟩
  have hW' : 2 * (F0 m pc ls st0).monitorRoom + (rest.map fun v => v.category).sum ≤ 8 := by show 2 * 0 + _ ≤ 8; omega
  rcases hlk with hlk | ⟨host, hlk⟩
  · exact va_runV hc hM ⟨callB_of n hc.2.2.2.2 (tb_G hco) rfl hrm.1 hrm.2.1 (hc.2.2.2.2 _ hini) (hc.2.2.2.2 _ hlk) hd hrm.2.2, hc.2.2.2.2 _ hsel.1, hc.2.2.2.2 _ hsel.2⟩ hp rfl hn hsize hst hW' hdg hf
  · exact va_runVN hc hM ⟨va_cnB n hc.2.2.2.2 (tb_G hco) rfl hrm.1 hrm.2.1 (hE.2.1 _ hlk) (hc.2.2.2.2 _ hini) hd hrm.2.2, hc.2.2.2.2 _ hsel.1, hc.2.2.2.2 _ hsel.2⟩ hp rfl hn hsize hst hW' hdg hf
theorem m_runV (hc : CallFix p m c cc nL s args TB own) (hE : ev G A s) (hw : ms G.1 A f s H locs) (hM : Met l y (wsOf y b nL' ret) rm (va_Pc (.ref a :: As) (Pre G f H.size)) Qc mc ms' free) {C : String} {T : u_T} {N ci : Nat} {fs : List Value} (he : f a = some (.inr (ci, fs))) (hk : classes[ci]? = some (C, T, N)) (hcw : cwk own idx y b nL' ret n) (hsel : Cond.instanceMethod y ∈ TB ∧ Cond.selects C y y ∈ TB) (hn : As.length = n) (hsize : ls.size = nL) (hst : st0 = As.reverse ++ .ref a :: rest) (hW : (rest.map fun v => v.category).sum ≤ 8) (hdg : decode cc pc = .ok (.invokevirtual idx, 3)) (hrm : rm.cells = mc ∧ rm.slots = ms' ∧ rm.frames + 1 ≤ R.frames ∧ 8 + (nL' + 11) + rm.locals ≤ R.locals) (hf : cells + mc ≤ R.cells ∧ slots + ms' ≤ R.slots) :
    va_Run p l e R s m args below meth c H locs cells slots mc ms' (F0 m pc ls st0) rest (Qc (Value.ref a :: As).toArray) free := m_runV0 hc hE hw hM (m_recv hE hw he hk) hcw hsel hn hsize hst hW hdg hrm hf
theorem m_runS (hc : CallFix p m c cc nL s args TB own) (hE : ev G A s) (hw : ms G.1 A f s H locs) (hM : Met l y (wsOf y b nL' ret) rm (va_Pc As (Pre G f H.size)) Qc mc ms' free) (hcw : cwk own idx y b nL' ret n) (hsta : Cond.static y ∈ TB) (hn : As.length = n) (hsize : ls.size = nL) (hst : st0 = As.reverse ++ rest) (hW : (rest.map fun v => v.category).sum ≤ 8) (hdg : decode cc pc = .ok (.invokestatic idx, 3)) (hrm : rm.cells = mc ∧ rm.slots = ms' ∧ rm.frames + 1 ≤ R.frames ∧ 8 + (nL' + 11) + rm.locals ≤ R.locals) (hf : cells + mc ≤ R.cells ∧ slots + ms' ≤ R.slots) :
    va_Run p l e R s m args below meth c H locs cells slots mc ms' (F0 m pc ls st0) rest (Qc As.toArray) free := by
  obtain ⟨hlk, hco, hini, hd⟩ := hcw
  have hp : PreS s H (va_Pc As (Pre G f H.size)) As := ⟨Pre.blind, fun U hU hW => ⟨rfl, Pre.of hE hw U hU hW⟩⟩
  have hW' : 2 * (F0 m pc ls st0).monitorRoom + (rest.map fun v => v.category).sum ≤ 8 := by show 2 * 0 + _ ≤ 8; omega
  rcases hlk with hlk | ⟨host, hlk⟩
  · exact va_runS hc hM ⟨callB_of n hc.2.2.2.2 (tb_G hco) rfl hrm.1 hrm.2.1 (hc.2.2.2.2 _ hini) (hc.2.2.2.2 _ hlk) hd hrm.2.2, hc.2.2.2.2 _ hsta⟩ hp rfl hn hsize hst hW' hdg hf
  · exact va_runSN hc hM ⟨va_cnB n hc.2.2.2.2 (tb_G hco) rfl hrm.1 hrm.2.1 (hE.2.1 _ hlk) (hc.2.2.2.2 _ hini) hd hrm.2.2, hc.2.2.2.2 _ hsta, trivial⟩ hp rfl hn hsize hst hW' hdg hf
theorem m_runI (hc : CallFix p m c cc nL s args TB own) (hE : ev G A s) (hw : ms G.1 A f s H locs) (hM : Met l y (wsOf y b nL' none) rm (va_Pc (.ref a :: As) (Pre G f H.size)) Qc mc ms' free) (hcw : cwk own idx y b nL' none n) (hin : y.name = "<init>" ∧ Cond.instanceMethod y ∈ TB) (hn : As.length = n) (hsize : ls.size = nL) (hst : st0 = As.reverse ++ .ref a :: rest) (hW : (rest.map fun v => v.category).sum ≤ 8) (hdg : decode cc pc = .ok (.invokespecial idx, 3)) (hrm : rm.cells = mc ∧ rm.slots = ms' ∧ rm.frames + 1 ≤ R.frames ∧ 8 + (nL' + 11) + rm.locals ≤ R.locals) (hf : cells + mc ≤ R.cells ∧ slots + ms' ≤ R.slots) :
    va_Run p l e R s m args below meth c H locs cells slots mc ms' (F0 m pc ls st0) rest (Qc (Value.ref a :: As).toArray) free := by
  obtain ⟨hlk, hco, hini, hd⟩ := hcw
  have hp : PreS s H (va_Pc (.ref a :: As) (Pre G f H.size)) (.ref a :: As) := ⟨Pre.blind, fun U hU hW => ⟨rfl, Pre.of hE hw U hU hW⟩⟩
  have hW' : 2 * (F0 m pc ls st0).monitorRoom + (rest.map fun v => v.category).sum ≤ 8 := by show 2 * 0 + _ ≤ 8; omega
  rcases hlk with hlk | ⟨host, hlk⟩
  · exact va_runI hc hM ⟨callB_of n hc.2.2.2.2 (tb_G hco) rfl hrm.1 hrm.2.1 (hc.2.2.2.2 _ hini) (hc.2.2.2.2 _ hlk) hd hrm.2.2, hin.1, hc.2.2.2.2 _ hin.2⟩ hp rfl hn hsize hst hW' hdg hf
  · exact va_runIN hc hM ⟨va_cnB n hc.2.2.2.2 (tb_G hco) rfl hrm.1 hrm.2.1 (hE.2.1 _ hlk) (hc.2.2.2.2 _ hini) hd hrm.2.2, hin.1, hc.2.2.2.2 _ hin.2⟩ hp rfl hn hsize hst hW' hdg hf
/-- a call whose named method x is abstract; y is what runs -/
theorem m_runA (hc : CallFix p m c cc nL s args TB own) (hE : ev G A s) (hw : ms G.1 A f s H locs) {x : MethodName} (hM : Met l y (wsOf y b nL' ret) rm (va_Pc (.ref a :: As) (Pre G f H.size)) Qc mc ms' free) {C : String} {T : u_T} {N ci : Nat} {fs : List Value} (he : f a = some (.inr (ci, fs))) (hk : classes[ci]? = some (C, T, N)) (hcw : Cond.methodLink own idx x ∈ TB ∧ Cond.code y b nL' ret ∈ TB ∧ Cond.initialized y.cls ∈ TB ∧ x.cls ≠ "java/lang/invoke/MethodHandle" ∧ x.cls ≠ "java/lang/invoke/VarHandle" ∧ (parseMethodDescriptor x.desc).map (fun d => d.parameters.length) = some n) (hsel : Cond.sameMethod x.cls x.cls x.name x.desc ∈ TB ∧ Cond.instanceMethod y ∈ TB ∧ Cond.selects C x y ∈ TB ∧ Cond.declares x ∈ EB) (hn : As.length = n) (hsize : ls.size = nL) (hst : st0 = As.reverse ++ .ref a :: rest) (hW : (rest.map fun v => v.category).sum ≤ 8) (hdg : decode cc pc = .ok (.invokevirtual idx, 3)) (hrm : rm.cells = mc ∧ rm.slots = ms' ∧ rm.frames + 1 ≤ R.frames ∧ 8 + (nL' + 11) + rm.locals ≤ R.locals) (hf : cells + mc ≤ R.cells ∧ slots + ms' ≤ R.slots) :
    va_Run p l e R s m args below meth c H locs cells slots mc ms' (F0 m pc ls st0) rest (Qc (Value.ref a :: As).toArray) free := by
  obtain ⟨hlk, hco, hini, hd⟩ := hcw
  obtain ⟨s1, s2, s3, s4⟩ := hsel
  have hp : PreV s H C a (va_Pc (.ref a :: As) (Pre G f H.size)) As := ⟨Pre.blind, m_recv hE hw he hk, fun U hU hW => ⟨rfl, Pre.of hE hw U hU hW⟩⟩
  have hW' : 2 * (F0 m pc ls st0).monitorRoom + (rest.map fun v => v.category).sum ≤ 8 := by show 2 * 0 + _ ≤ 8; omega
  refine va_runU hc hM (owner := x.cls) (va_cwA n hc.2.2.2.2 ?_ rfl hrm.1 hrm.2.1 (hE.2.1 _ s4) hd hrm.2.2) hp rfl hn hsize hst hW' hdg hf
  intro w hw'
  unfold va_wsU at hw'
  rcases List.mem_append.mp hw' with h | h
  · simp only [List.mem_cons, List.mem_nil_iff, or_false] at h
    rcases h with rfl | rfl | rfl | rfl | rfl
    · exact ⟨hlk, tb_good hlk⟩
    · exact ⟨s1, tb_good s1⟩
    · exact ⟨s3, tb_good s3⟩
    · exact ⟨s2, tb_good s2⟩
    · exact ⟨hini, tb_good hini⟩
  · exact tb_G hco w h
/-! texts: their fields, their bytes; two statics -/
theorem m_strecv (hE : ev G A s) (hw : ms G.1 A f s H locs) {k : Nat} (hk : k < nTx) : ∃ cell : Cell, H[G.2.2.1 k]? = some cell ∧ cell.vm.isStatics = false ∧ s.vm.findClass "java/lang/String" = some cell.cls := vk_recv hE.2.2.2.2.1 hk hw.2.1
theorem m_sval (hc : CallFix p m c cc nL s args TB own) (hE : ev G A s) (hw : ms G.1 A f s H locs) {k : Nat} (hk : k < nTx) (hl : Cond.fieldLink own idx "java/lang/String" "value" "[B" ∈ TB) (hdg : decode cc pc = .ok (.getfield idx, 3))
    (kk : W p l e R s m args below meth c H locs cells slots Q (F0 m (pc + 3) ls (.ref (G.2.2.2 k) :: rest))) : W p l e R s m args below meth c H locs cells slots Q (F0 m pc ls (.ref (G.2.2.1 k) :: rest)) := vk_getf hc.1 hc.2.1 (hE.2.2.2.2.1.1 k hk).2.2.1 hw.2.1 hc.2.2.2.1 (hc.2.2.2.2 _ hl) (fun _ h => h) hdg kk
theorem m_scod (hc : CallFix p m c cc nL s args TB own) (hE : ev G A s) (hw : ms G.1 A f s H locs) {k : Nat} (hk : k < nTx) (hl : Cond.fieldLink own idx "java/lang/String" "coder" "B" ∈ TB) (hdg : decode cc pc = .ok (.getfield idx, 3))
    (kk : W p l e R s m args below meth c H locs cells slots Q (F0 m (pc + 3) ls (.int 0 :: rest))) : W p l e R s m args below meth c H locs cells slots Q (F0 m pc ls (.ref (G.2.2.1 k) :: rest)) := vk_getf hc.1 hc.2.1 (hE.2.2.2.2.1.1 k hk).2.1 hw.2.1 hc.2.2.2.1 (hc.2.2.2.2 _ hl) (fun _ h => h) hdg kk
theorem m_slen (hc : CallFix p m c cc nL s args TB own) (hE : ev G A s) (hw : ms G.1 A f s H locs) {k : Nat} (hk : k < nTx) (hdg : decode cc pc = .ok (.arraylength, 1))
    (kk : W p l e R s m args below meth c H locs cells slots Q (F0 m (pc + 1) ls (.int (nI (lenTx.getD k 0)) :: rest))) : W p l e R s m args below meth c H locs cells slots Q (F0 m pc ls (.ref (G.2.2.2 k) :: rest)) := va_tlen hc.1 hc.2.1 (hE.2.2.2.2.1.1 k hk).2.2.2 hw.2.1 rfl hdg kk
theorem m_sbal (hc : CallFix p m c cc nL s args TB own) (hE : ev G A s) (hw : ms G.1 A f s H locs) {k : Nat} (hk : k < nTx) {i : Int32} (hin : vp_in i (lenTx.getD k 0)) (hdg : decode cc pc = .ok (.baload, 1))
    (kk : W p l e R s m args below meth c H locs cells slots Q (F0 m (pc + 1) ls (.int ((bytTx.getD k []).getD i.toNatClampNeg 0) :: rest))) : W p l e R s m args below meth c H locs cells slots Q (F0 m pc ls (.int i :: .ref (G.2.2.2 k) :: rest)) := va_tb hc.1 hc.2.1 (hE.2.2.2.2.1.1 k hk).2.2.2 hw.2.1 hin rfl hdg kk
theorem m_ldc (hc : CallFix p m c cc nL s args TB own) (hE : ev G A s) {k : Nat} {tx : String} (hq : (own, idx, tx, k) ∈ SRs) (hdg : decode cc pc = .ok (.ldc idx, 2))
    (kk : W p l e R s m args below meth c H locs cells slots Q (F0 m (pc + 2) ls (.ref (G.2.2.1 k) :: rest))) : W p l e R s m args below meth c H locs cells slots Q (F0 m pc ls rest) := va_ldcS hc.1 hc.2.1 hc.2.2.2.1 (hE.2.2.2.2.2.1 _ hq) hdg kk
theorem m_compact (hc : CallFix p m c cc nL s args TB own) (hE : ev G A s) (hw : ms G.1 A f s H locs) (hl : Cond.fieldLink own idx "java/lang/String" "COMPACT_STRINGS" "Z" ∈ TB) (hdg : decode cc pc = .ok (.getstatic idx, 3))
    (kk : W p l e R s m args below meth c H locs cells slots Q (F0 m (pc + 3) ls (.int 1 :: rest))) : W p l e R s m args below meth c H locs cells slots Q (F0 m pc ls rest) := va_gets hc.1 hc.2.1 hE.2.2.2.2.2.2.1 hw.2.1 hc.2.2.2.1 (hc.2.2.2.2 _ hl) (fun _ h => h) hdg kk
theorem m_former (hc : CallFix p m c cc nL s args TB own) (hE : ev G A s) (hw : ms G.1 A f s H locs) (hl : Cond.fieldLink own idx "jdk/internal/util/Preconditions" "SIOOBE_FORMATTER" "Ljava/util/function/BiFunction;" ∈ TB) (hdg : decode cc pc = .ok (.getstatic idx, 3))
    (kk : ∀ r : Option Nat, W p l e R s m args below meth c H locs cells slots Q (F0 m (pc + 3) ls (va_rf r :: rest))) : W p l e R s m args below meth c H locs cells slots Q (F0 m pc ls rest) := by
  rcases hE.2.2.2.2.2.2.2 with h | ⟨t, h⟩
  · exact va_gets hc.1 hc.2.1 h hw.2.1 hc.2.2.2.1 (hc.2.2.2.2 _ hl) (fun _ h => h) hdg (kk none)
  · exact va_gets hc.1 hc.2.1 h hw.2.1 hc.2.2.2.1 (hc.2.2.2.2 _ hl) (fun _ h => h) hdg (kk (some t))
theorem m_mmax (hc : CallFix p m c cc nL s args TB own) {x y : Int32} (hl : Cond.methodLink own idx Lib.Math.max.name ∈ TB) (h3 : Cond.static Lib.Math.max.name ∈ TB ∧ Cond.initialized "java/lang/Math" ∈ TB ∧ Cond.code Lib.Math.max.name Lib.Math.max.code 2 (some .int) ∈ TB) (hsize : ls.size = nL) (hframes : 1 ≤ R.frames) (hlocals : (rest.map fun v => v.category).sum + 13 ≤ R.locals) (hcs : cells ≤ R.cells ∧ slots ≤ R.slots) (hdg : decode cc pc = .ok (.invokestatic idx, 3))
    (kk : W p l e R s m args below meth c H locs cells slots Q (F0 m (pc + 3) ls (.int (if x < y then y else x) :: rest))) : W p l e R s m args below meth c H locs cells slots Q (F0 m pc ls (.int y :: .int x :: rest)) :=
  va_mmax hc.1 hc.2.1 (hc.2.2.1.trans hsize.symm) hc.2.2.2.1 (hc.2.2.2.2 _ hl) (hc.2.2.2.2 _ h3.1) (hc.2.2.2.2 _ h3.2.1) (hc.2.2.2.2 _ h3.2.2) hframes hlocals hcs.1 hcs.2 hdg kk
variable {A1 : Array Value}
theorem m_calli {post : Int32 → Wd → Prop} (hw : ms G.1 A f s H locs) (hr : va_Run p l e R s m args below meth c H locs cells slots mc ms' (F0 m pc ls st0) rest (va_Qi post (Bw G f H.size) (Af f H.size) A1) (Af f H.size))
    (kk : ∀ (r : Int32) (f' : Wd) (H1 : Heap) (locs1 : List Loc), post r f' → ms G.1 A f' s H1 locs1 → W p l e R s m args below meth c H1 locs1 (cells + mc) (slots + ms') Q (F0 m (pc + 3) ls (.int r :: rest))) : W p l e R s m args below meth c H locs cells slots Q (F0 m pc ls st0) :=
  va_calli hr hw.2.1 (fun q _ h => hw.AF q h) hw.AF (fun r u t H1 locs1 ht _ hp hB _ _ hS => kk r u H1 locs1 hp ⟨by rw [← ht]; exact hB.weaken (fun a _ _ h => hw.AF a h), hS, hw.2.2⟩)
theorem m_callv {post : Wd → Prop} (hw : ms G.1 A f s H locs) (hr : va_Run p l e R s m args below meth c H locs cells slots mc ms' (F0 m pc ls st0) rest (va_Qv post (Bw G f H.size) (Af f H.size) A1) (Af f H.size))
    (kk : ∀ (f' : Wd) (H1 : Heap) (locs1 : List Loc), post f' → ms G.1 A f' s H1 locs1 → W p l e R s m args below meth c H1 locs1 (cells + mc) (slots + ms') Q (F0 m (pc + 3) ls rest)) : W p l e R s m args below meth c H locs cells slots Q (F0 m pc ls st0) :=
  va_callv hr hw.2.1 (fun q _ h => hw.AF q h) hw.AF (fun u t H1 locs1 ht _ hp hB _ _ hS => kk u H1 locs1 hp ⟨by rw [← ht]; exact hB.weaken (fun a _ _ h => hw.AF a h), hS, hw.2.2⟩)
theorem m_callq {post : Option Nat → Wd → Prop} (hw : ms G.1 A f s H locs) (hr : va_Run p l e R s m args below meth c H locs cells slots mc ms' (F0 m pc ls st0) rest (va_Qq post (Bw G f H.size) (Af f H.size) A1) (Af f H.size))
    (kk : ∀ (r : Option Nat) (f' : Wd) (H1 : Heap) (locs1 : List Loc), post r f' → ms G.1 A f' s H1 locs1 → W p l e R s m args below meth c H1 locs1 (cells + mc) (slots + ms') Q (F0 m (pc + 3) ls (va_rf r :: rest))) : W p l e R s m args below meth c H locs cells slots Q (F0 m pc ls st0) :=
  va_callq hr hw.2.1 (fun q _ h => hw.AF q h) hw.AF (fun r u t H1 locs1 ht _ hp hB _ _ hS => kk r u H1 locs1 hp ⟨by rw [← ht]; exact hB.weaken (fun a _ _ h => hw.AF a h), hS, hw.2.2⟩)
/-! ends -/
variable {f0 : Wd} {sz kC kS : Nat}
theorem m_iret {post : Int32 → Wd → Prop} {v : Int32} (hc : CallFix p m c cc nL s args TB own) (hr : meth.sig.returnType = some .int) (hlk : meth.locks = false) (hw : ms G.1 (Af f0 sz) f s H locs) (hk : cells ≤ kC ∧ slots ≤ kS) (hdg : decode cc pc = .ok (.ireturn, 1)) (hq : post v f) : W p l e R s m args below meth c H locs cells slots (MQ below (va_Qi post (Bw G f0 sz) (Af f0 sz)) args s kC kS (Af f0 sz)) (F0 m pc ls [.int v]) :=
  W.widen hk.1 hk.2 (W.iret hc.1 hc.2.1 hr (fun t ht _ => ⟨⟨v, f, rfl, hq, by unfold Bw; rw [ht]; exact hw.1⟩, hw.2.1.F ht⟩) hw.2.1.2.2 hdg hlk)
theorem m_zret {post : Int32 → Wd → Prop} {v : Int32} {ty : FieldType} (hc : CallFix p m c cc nL s args TB own) (hr : meth.sig.returnType = some ty) (hlk : meth.locks = false) (hw : ms G.1 (Af f0 sz) f s H locs) (hk : cells ≤ kC ∧ slots ≤ kS) (hdg : decode cc pc = .ok (.ireturn, 1)) (hn : narrow ty (.int v) = .int v) (hq : post v f) : W p l e R s m args below meth c H locs cells slots (MQ below (va_Qi post (Bw G f0 sz) (Af f0 sz)) args s kC kS (Af f0 sz)) (F0 m pc ls [.int v]) :=
  W.widen hk.1 hk.2 (W.zret hc.1 hc.2.1 hr hn (fun t ht _ => ⟨⟨v, f, rfl, hq, by unfold Bw; rw [ht]; exact hw.1⟩, hw.2.1.F ht⟩) hw.2.1.2.2 hdg hlk)
theorem m_vret {post : Wd → Prop} (hc : CallFix p m c cc nL s args TB own) (hr : meth.sig.returnType = none) (hlk : meth.locks = false) (hw : ms G.1 (Af f0 sz) f s H locs) (hk : cells ≤ kC ∧ slots ≤ kS) (hdg : decode cc pc = .ok (.return_, 1)) (hq : post f) : W p l e R s m args below meth c H locs cells slots (MQ below (va_Qv post (Bw G f0 sz) (Af f0 sz)) args s kC kS (Af f0 sz)) (F0 m pc ls []) :=
  W.widen hk.1 hk.2 (W.vret hc.1 hc.2.1 hr (fun t ht _ => ⟨⟨f, rfl, hq, by unfold Bw; rw [ht]; exact hw.1⟩, hw.2.1.F ht⟩) hw.2.1.2.2 hdg hlk)
theorem m_aret {post : Option Nat → Wd → Prop} {r : Option Nat} {C : String} (hc : CallFix p m c cc nL s args TB own) (hr : meth.sig.returnType = some (.object C)) (hlk : meth.locks = false) (hw : ms G.1 (Af f0 sz) f s H locs) (hk : cells ≤ kC ∧ slots ≤ kS) (hdg : decode cc pc = .ok (.areturn, 1)) (hq : post r f) : W p l e R s m args below meth c H locs cells slots (MQ below (va_Qq post (Bw G f0 sz) (Af f0 sz)) args s kC kS (Af f0 sz)) (F0 m pc ls [va_rf r]) :=
  W.widen hk.1 hk.2 (W.aret hc.1 hc.2.1 hr (Or.inl ⟨C, rfl⟩) (va_rf_or r) (fun t ht _ => ⟨⟨r, f, rfl, hq, by unfold Bw; rw [ht]; exact hw.1⟩, hw.2.1.F ht⟩) hw.2.1.2.2 hdg hlk)
end MR
