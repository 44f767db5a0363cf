/-! filters of any kind; booleans as numbers -/
theorem bz_nar {v : Int32} (h : v = 0 ∨ v = 1) : narrow .boolean (.int v) = .int v := by rcases h with rfl | rfl <;> rfl
theorem bz_fit {v : Int32} (h : v = 0 ∨ v = 1) : fits .boolean (.int v) = true := by rcases h with rfl | rfl <;> rfl
/-- the class numbers of the five kinds of filters -/
def FC (ci : Nat) : Prop := ci = CI_TextFilter ∨ ci = CI_JoinedFilter ∨ ci = CI_StrictFilter ∨ ci = CI_DefaultFilter ∨ ci = CI_OnlyFilter
section MF
variable {p : Program} {l : Launch} {e : Env} {R : Room} {s : State} {m : MethodId} {args : Array Value} {below : List Frame} {meth : Method} {c : Code} {H : Heap} {locs : List Loc} {cells slots : Nat} {Q : State → Prop}
variable {cc : ByteArray} {pc nL : Nat} {ls : Array Slot} {rest : List Value} {G : GG} {A : Nat → Prop} {a : Nat} {f : Wd} {own : String}
theorem m_getF (hc : CallFix p m c cc nL s args TB own) (hE : ev G A s) (hw : ms G.1 A f s H locs) {ci k idx : Nat} {fs : List Value} {v : Value} (he : f a = some (.inr (ci, fs))) (hf : FC ci) (hl : lnk own idx F_TextFilter 6 k ∧ lnk own idx F_JoinedFilter 5 k ∧ lnk own idx F_StrictFilter 5 k ∧ lnk own idx F_DefaultFilter 5 k ∧ lnk own idx F_OnlyFilter 5 k) (hv : fs[k]? = some v) (hdg : decode cc pc = .ok (.getfield idx, 3))
    (kk : W p l e R s m args below meth c H locs cells slots Q (F0 m (pc + 3) ls (v :: rest))) : W p l e R s m args below meth c H locs cells slots Q (F0 m pc ls (.ref a :: rest)) := by
  rcases hf with rfl | rfl | rfl | rfl | rfl
  · exact m_get hc hE hw he kc_TextFilter hl.1 hv hdg kk
  · exact m_get hc hE hw he kc_JoinedFilter hl.2.1 hv hdg kk
  · exact m_get hc hE hw he kc_StrictFilter hl.2.2.1 hv hdg kk
  · exact m_get hc hE hw he kc_DefaultFilter hl.2.2.2.1 hv hdg kk
  · exact m_get hc hE hw he kc_OnlyFilter hl.2.2.2.2 hv hdg kk
end MF
