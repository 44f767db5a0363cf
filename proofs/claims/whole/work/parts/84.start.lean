/-! links of the pools, as the walks ask for them -/
theorem nw_law_10 : nwk "StreamFiltersLaw" 10 R_SM 38 := ⟨(tb 608 (by decide +kernel) rfl), (tb 609 (by decide +kernel) rfl), (tb 5 (by decide +kernel) rfl)⟩
theorem nw_law_7 : nwk "StreamFiltersLaw" 7 R_SF 4 := ⟨(tb 18 (by decide +kernel) rfl), (tb 19 (by decide +kernel) rfl), (tb 1 (by decide +kernel) rfl)⟩
theorem cw_law_12 : cwk "StreamFiltersLaw" 12 y_SM_init b_SM_init 2 none 0 := ⟨Or.inl (tb 610 (by decide +kernel) rfl), (tb 612 (by decide +kernel) rfl), (tb 5 (by decide +kernel) rfl), by decide, by decide, by decide +kernel⟩
theorem cw_law_9 : cwk "StreamFiltersLaw" 9 y_SF_init b_SF_init 1 none 0 := ⟨Or.inl (tb 20 (by decide +kernel) rfl), (tb 22 (by decide +kernel) rfl), (tb 1 (by decide +kernel) rfl), by decide, by decide, by decide +kernel⟩
theorem si_SF_init : Cond.instanceMethod y_SF_init ∈ TB := (tb 21 (by decide +kernel) rfl)
theorem si_SM_init : Cond.instanceMethod y_SM_init ∈ TB := (tb 611 (by decide +kernel) rfl)
/-! decode rows -/
theorem lwt (i : Nat) {w : Cond} (h : tables_1[i]? = some w) : w ∈ lw_tbl := List.mem_append_right _ (List.mem_of_getElem? h)
def tmK (i : Nat) : Term := Term.string "StreamFilters$PieceReader" ([82, 88, 90, 92, 110, 124, 126].getD i 0)
def FLT : List Cond := flatC (Jvm.Cond.and given_1 narrow_1)
theorem tm_ex : ∀ i, i < nTx → Cond.exactly (tmK i) "java/lang/String" ∈ FLT := by decide +kernel
theorem tm_co : ∀ i, i < nTx → Cond.eq (.field (tmK i) "java/lang/String" "coder" "B") (.int 0) ∈ FLT := by decide +kernel
theorem tm_ar : ∀ i, i < nTx → Cond.arrayOf (.field (tmK i) "java/lang/String" "value" "[B") .byte ∈ FLT := by decide +kernel
theorem tm_le : ∀ i, i < nTx → Cond.eq (.length (.field (tmK i) "java/lang/String" "value" "[B")) (.int (Int32.ofNat (lenTx.getD i 0))) ∈ FLT := by decide +kernel
theorem tm_el : ∀ i, i < nTx → ∀ j, j < lenTx.getD i 0 → Cond.eq (.elem (.field (tmK i) "java/lang/String" "value" "[B") (.int (Int32.ofNat j))) (.int ((bytTx.getD i []).getD j 0)) ∈ FLT := by decide +kernel
theorem tm_ne : ∀ i, i < nTx → ∀ j, j < nTx → i ≠ j → Cond.not (Cond.eq (tmK i) (tmK j)) ∈ FLT ∨ Cond.not (Cond.eq (tmK j) (tmK i)) ∈ FLT := by decide +kernel
theorem nc_fl : ∀ q ∈ NCs, Cond.not (.castable q.1 q.2) ∈ FLT := by decide +kernel
theorem sr_in : ∀ q ∈ SRs, Cond.stringRef q.1 q.2.1 q.2.2.1 ∈ lw_tbl ∧ q.2.2.2 < nTx ∧ tmK q.2.2.2 = Term.string q.1 q.2.1 := by decide +kernel
theorem ao_in : ∀ C ∈ AOs, Cond.arrayOver (.object C) ∈ lw_tbl := by decide +kernel
theorem arr_p {args : Array Value} {s : State} {ty : FieldType} (hty : ty = .int ∨ ty = .char ∨ ty = .byte) (h : (Cond.arrayClass ty).before args s = true) : ∃ cA : ClassId, ArrOfT s cA ty ∧ va_RA s cA ty := by
  obtain ⟨cA, kA, comp, h1, h2, h3⟩ := Cond.arrayClass_spec h
  refine ⟨cA, fun n z => ⟨fun k h => (by cases h), kA, h2, comp, h3⟩, ?_⟩
  rcases hty with rfl | rfl | rfl <;> exact h1
theorem arr_o {s : State} {C : String} (h : va_AO C s) : ∃ cA : ClassId, ArrOfT s cA (.object C) ∧ va_RA s cA (.object C) := by
  obtain ⟨comp, cA, kA, h1, h2, h3, h4, h5⟩ := Cond.arrayOver_spec h
  exact ⟨cA, fun n z => ⟨fun k h => (by cases h), kA, h3, comp, h4⟩, kA, comp, h3, h4, h1, h5⟩
set_option maxRecDepth 100000 in
set_option maxHeartbeats 4000000 in
/-- what the Statement gives of the start is what every contract asks -/
theorem ev_start {s : State} {args : Array Value} (hts : ∀ w ∈ lw_tbl, w.before args s = true) (hgv : (Jvm.Cond.and given_1 narrow_1).before args s = true) : ∃ G : GG, ev G (Al s) s := by
  have hA : ∀ a : Nat, a < s.heap.size → ¬ Al s a := fun a h => Nat.not_le.mpr h
  have hT : ∀ w ∈ TB, w.before args s = true := fun w h => hts w (List.mem_filter.mp h).1
  have hF : ∀ w ∈ FLT, w.before args s = true := flat_of_before _ hgv
  obtain ⟨c0, i0, hK0⟩ := u_known (C := R_SF) (T := F_SF) (N := 4) (n := 4) hT kc_SF.1 (hT _ (tb 19 (by decide +kernel) rfl))
  obtain ⟨c1, i1, hK1⟩ := u_known (C := R_Signs) (T := F_Signs) (N := 2) (n := 2) hT kc_Signs.1 (hT _ (tb 27 (by decide +kernel) rfl))
  obtain ⟨c2, i2, hK2⟩ := u_known (C := R_Question) (T := F_Question) (N := 11) (n := 11) hT kc_Question.1 (hT _ (tb 41 (by decide +kernel) rfl))
  obtain ⟨c3, i3, hK3⟩ := u_known (C := R_PieceReader) (T := F_PieceReader) (N := 12) (n := 12) hT kc_PieceReader.1 (hT _ (tb 102 (by decide +kernel) rfl))
  obtain ⟨c4, i4, hK4⟩ := u_known (C := R_ClassPattern) (T := F_ClassPattern) (N := 7) (n := 7) hT kc_ClassPattern.1 (hT _ (tb 327 (by decide +kernel) rfl))
  obtain ⟨c5, i5, hK5⟩ := u_known (C := R_TextFilter) (T := F_TextFilter) (N := 6) (n := 6) hT kc_TextFilter.1 (hT _ (tb 357 (by decide +kernel) rfl))
  obtain ⟨c6, i6, hK6⟩ := u_known (C := R_JoinedFilter) (T := F_JoinedFilter) (N := 5) (n := 5) hT kc_JoinedFilter.1 (hT _ (tb 414 (by decide +kernel) rfl))
  obtain ⟨c7, i7, hK7⟩ := u_known (C := R_StrictFilter) (T := F_StrictFilter) (N := 5) (n := 5) hT kc_StrictFilter.1 (hT _ (tb 435 (by decide +kernel) rfl))
  obtain ⟨c8, i8, hK8⟩ := u_known (C := R_DefaultFilter) (T := F_DefaultFilter) (N := 5) (n := 5) hT kc_DefaultFilter.1 (hT _ (tb 455 (by decide +kernel) rfl))
  obtain ⟨c9, i9, hK9⟩ := u_known (C := R_OnlyFilter) (T := F_OnlyFilter) (N := 5) (n := 5) hT kc_OnlyFilter.1 (hT _ (tb 475 (by decide +kernel) rfl))
  obtain ⟨c10, i10, hK10⟩ := u_known (C := R_SM) (T := F_SM) (N := 38) (n := 38) hT kc_SM.1 (hT _ (tb 609 (by decide +kernel) rfl))
  have hAO : ∀ C ∈ AOs, va_AO C s := fun C hC => va_AO.of (hts _ (ao_in C hC))
  obtain ⟨r0, hr0⟩ := arr_p (ty := .int) (by decide) (hts _ (lwt 355 (by decide +kernel)))
  obtain ⟨r1, hr1⟩ := arr_p (ty := .char) (by decide) (hts _ (lwt 39 (by decide +kernel)))
  obtain ⟨r2, hr2⟩ := arr_o (hAO "StreamFilters$Filter" (by decide))
  obtain ⟨r3, hr3⟩ := arr_o (hAO "StreamFilters$ClassPattern" (by decide))
  obtain ⟨r4, hr4⟩ := arr_p (ty := .byte) (by decide) (hts _ (lwt 354 (by decide +kernel)))
  obtain ⟨adK, adV, hStr, hev⟩ := vk_Sof (args := args) (s := s) (N := nTx) (tm := tmK) (len := lenTx) (byt := bytTx) (A := Al s) (fun i hi => (tx_ok i hi).2.1) (fun i hi => hF _ (tm_ex i hi)) (fun i hi => hF _ (tm_co i hi)) (fun i hi => hF _ (tm_ar i hi)) (fun i hi => hF _ (tm_le i hi)) (fun i hi j hj => hF _ (tm_el i hi j hj)) (fun i j hi hj h => (tm_ne i hi j hj h).imp (fun z => hF _ z) (fun z => hF _ z)) hA
  refine ⟨((fun k => [c0, c1, c2, c3, c4, c5, c6, c7, c8, c9, c10].getD k c0, fun k => [i0, i1, i2, i3, i4, i5, i6, i7, i8, i9, i10].getD k i0), fun k => [r0, r1, r2, r3, r4].getD k r0, adK, adV), ⟨fun k q hq => ?_, fun k q hq => ?_⟩, fun w hw => va_Nw.of (eb_tab hw) (hts w (List.mem_filter.mp hw).1), hAO, fun q hq => va_Nc.of (hF _ (nc_fl q hq)), hStr, fun q hq => ?_, ?_, ?_⟩
  · match k, hq with
    | 0, hq => cases hq; exact hK0
    | 1, hq => cases hq; exact hK1
    | 2, hq => cases hq; exact hK2
    | 3, hq => cases hq; exact hK3
    | 4, hq => cases hq; exact hK4
    | 5, hq => cases hq; exact hK5
    | 6, hq => cases hq; exact hK6
    | 7, hq => cases hq; exact hK7
    | 8, hq => cases hq; exact hK8
    | 9, hq => cases hq; exact hK9
    | 10, hq => cases hq; exact hK10
    | k + 11, hq => simp [classes] at hq
  · match k, hq with
    | 0, hq => cases hq; exact hr0
    | 1, hq => cases hq; exact hr1
    | 2, hq => cases hq; exact hr2
    | 3, hq => cases hq; exact hr3
    | 4, hq => cases hq; exact hr4
    | k + 5, hq => simp [Gt] at hq
  · obtain ⟨h1, h2, h3⟩ := sr_in q hq
    have h4 := hev q.2.2.2 h2
    rw [h3] at h4
    exact vk_R.of (hts _ h1) h4
  · exact va_Zof (hts _ (lwt 250 (by decide +kernel))) (hts _ (lwt 6 (by decide +kernel))) (va_eqt (hF _ (by decide +kernel))) hA
  · exact va_Zqof (hts _ (lwt 266 (by decide +kernel))) (hts _ (lwt 8 (by decide +kernel))) (hF _ (by decide +kernel)) hA
theorem SC.adr {G : GG} {ad ad2 : Nat → Nat} {E : Nat → va_E} {g : Wd} {root pn nn mn : Nat} {pt nt mt : Nat → Int32} {dp rf by_ co tx lx : Int32} {fl : Nat → Option FV} (h : SC G ad E g root pn pt nn nt mn mt dp rf by_ co tx lx fl) (he : ∀ k, k < 9 → ad2 k = ad k) : SC G ad2 E g root pn pt nn nt mn mt dp rf by_ co tx lx fl := by
  obtain ⟨h1, ⟨b1, b2⟩, ⟨b3, b4⟩, ⟨b5, b6⟩, ⟨so, di, le, h5⟩, ⟨fr, en, pi, li, nu, rj, sh, mf, me, nf, ne, h6⟩, h7⟩ := h
  refine ⟨by rw [he 0 (by decide), he 2 (by decide), he 7 (by decide), he 8 (by decide)]; exact h1, ⟨by rw [he (0 + 1) (by decide)]; exact b1, b2⟩, ⟨by rw [he (3 + 1) (by decide)]; exact b3, b4⟩, ⟨by rw [he (5 + 1) (by decide)]; exact b5, b6⟩, ⟨so, di, le, by rw [he 3 (by decide), he 5 (by decide)]; exact h5⟩, ⟨fr, en, pi, li, nu, rj, sh, mf, me, nf, ne, by rw [he 0 (by decide)]; exact h6⟩, h7⟩
set_option maxHeartbeats 4000000 in
set_option maxRecDepth 100000 in
theorem whole_start {p : Program} {e : Env} {s : State} {m : MethodId} {below : List Frame} {meth : Method} {c : Code} (l : Launch) {b L : Nat} {xs : Nat → Int32} (hL : L ≤ 2560) (C0 : lw_At p s m meth c b L xs) : W p l e room_1 s m #[Value.ref b] below meth c s.heap [] 0 0 (lw_Z below #[Value.ref b] s) (entryFrame m ([Value.ref b] : List Value).toArray 4) := by
  obtain ⟨hx, hb, hr, hml, hown, hts, hX, hbl, hlocks, hgv⟩ := id C0
  obtain ⟨G, hE⟩ := ev_start hts hgv
  have hT : ∀ w ∈ TB, w.before #[Value.ref b] s = true := fun w h => hts w (List.mem_filter.mp h).1
  have hc : CallFix p m c code 4 s #[Value.ref b] TB R_law := ⟨hx, hb, hml, hown, hT⟩
  have hC : LawC p s m meth c G b L xs := ⟨hc, hr, hlocks, hX, hbl, hE, hL⟩
  obtain ⟨f0, hf0⟩ : ∃ z : Wd, z = fun _ => none := ⟨_, rfl⟩
  obtain ⟨H, hH⟩ : ∃ z : Heap, z = s.heap := ⟨_, rfl⟩
  obtain ⟨locs, hlo⟩ : ∃ z : List Loc, z = [] := ⟨_, rfl⟩
  have hw : ms G.1 (Al s) f0 s H locs := by
    rw [hH, hlo, hf0]
    refine ⟨⟨[], fun k q h => by simp at h, ⟨fun i j p q h => by simp at h, fun k q h => by simp at h⟩, fun a e => ⟨fun z => (by cases z), fun z => (by cases z)⟩⟩, va_S.rf, fun q h => h⟩
  have hl := lv_entry ([.ref b]) (n := 4) (Nat.le_of_ble_eq_true rfl)
  rw [lg_entry_eq, ← hH, ← hlo]
  generalize (lg_sl ([.ref b]) ++ List.replicate (4 - (lg_sl ([.ref b])).length) Slot.unset).toArray = ls at hl ⊢
  have hl : lv_has ls 4 [(0, .ref b)] := hl
  refine m_new hc hE hw (fs := [.null, .null, .null, .null]) kc_SF nw_law_7 bl_SF (by first | decide | (dsimp only [room_1]; omega)) (by first | decide | (dsimp only [room_1]; omega)) d_law_0 (fun q21 H u22 hw => ?_)
  obtain ⟨f23, ef23⟩ : ∃ z : Wd, z = va_up f0 q21 (some (.inr (0, [.null, .null, .null, .null]))) := ⟨_, rfl⟩
  replace hw : ms G.1 (Al s) f23 s H locs := by rw [ef23]; exact hw
  have h24 : f23 q21 = some (.inr (0, [.null, .null, .null, .null])) := by rw [ef23, va_up_self]
  refine lv_dup hx hb d_law_3 rfl ?_
  refine m_callv hw (m_runI (As := []) (rest := [.ref q21]) hc hE hw (c_SF_init G l H.size f23 h24) cw_law_9 ⟨rfl, si_SF_init⟩ rfl hl.1 rfl (Nat.le_of_ble_eq_true rfl) d_law_4 ⟨rfl, rfl, by decide, by decide⟩ ⟨by dsimp only [room_1]; omega, by dsimp only [room_1]; omega⟩) (fun g26 H locs p25 hw => ?_)
  obtain ⟨ad, E, g, hRg, hSC, hold⟩ := p25
  refine lv_astore_n (lv' := [(1, .ref q21), (0, .ref b)]) hx hb d_law_7 rfl hl (by decide) rfl (fun ls hl => ?_)
  refine m_new hc hE hw (fs := [.null, .int 0, .int 0, .null, .int 0, .null, .int 0, .null, .null, .null, .null, .null, .null, .null, .null, .int 0, .null, .int 0, .int 0, .int 0, .int 0, .int 0, .int 0, .int 0, .int 0, .int 0, .int 0, .int 0, .int 0, .int 0, .int 0, .int 0, .int 0, .null, .null, .null, .int 0, .int 0]) kc_SM nw_law_10 bl_SM (by first | decide | (dsimp only [room_1]; omega)) (by first | decide | (dsimp only [room_1]; omega)) d_law_8 (fun q27 H u28 hw => ?_)
  obtain ⟨f29, ef29⟩ : ∃ z : Wd, z = va_up g26 q27 (some (.inr (10, [.null, .int 0, .int 0, .null, .int 0, .null, .int 0, .null, .null, .null, .null, .null, .null, .null, .null, .int 0, .null, .int 0, .int 0, .int 0, .int 0, .int 0, .int 0, .int 0, .int 0, .int 0, .int 0, .int 0, .int 0, .int 0, .int 0, .int 0, .int 0, .null, .null, .null, .int 0, .int 0]))) := ⟨_, rfl⟩
  replace hw : ms G.1 (Al s) f29 s H locs := by rw [ef29]; exact hw
  have h30 : f29 q27 = some (.inr (10, [.null, .int 0, .int 0, .null, .int 0, .null, .int 0, .null, .null, .null, .null, .null, .null, .null, .null, .int 0, .null, .int 0, .int 0, .int 0, .int 0, .int 0, .int 0, .int 0, .int 0, .int 0, .int 0, .int 0, .int 0, .int 0, .int 0, .int 0, .int 0, .null, .null, .null, .int 0, .int 0])) := by rw [ef29, va_up_self]
  refine lv_dup hx hb d_law_11 rfl ?_
  have hR10 := hRg.add (q := q27) (.inr (10, [.null, .int 0, .int 0, .null, .int 0, .null, .int 0, .null, .null, .null, .null, .null, .null, .null, .null, .int 0, .null, .int 0, .int 0, .int 0, .int 0, .int 0, .int 0, .int 0, .int 0, .int 0, .int 0, .int 0, .int 0, .int 0, .int 0, .int 0, .int 0, .null, .null, .null, .int 0, .int 0])) u28
  rw [← ef29] at hR10
  refine m_callv hw (m_runI (As := []) (rest := [.ref q27]) hc hE hw (c_SM_init G l H.size f29 (ad := va_up ad 9 q27) (mo := q27) (va_up_self _ _ _).symm hR10 (va_up_self _ _ _)) cw_law_12 ⟨rfl, si_SM_init⟩ rfl hl.1 rfl (Nat.le_of_ble_eq_true rfl) d_law_12 ⟨rfl, rfl, by decide, by decide⟩ ⟨by dsimp only [room_1]; omega, by dsimp only [room_1]; omega⟩) (fun g32 H locs p31 hw => ?_)
  obtain ⟨ad2, E2, sc, av, hR25, had, hlo9, hE9, hEr, hMS⟩ := p31
  refine lv_astore_n (lv' := [(2, .ref q27), (1, .ref q21), (0, .ref b)]) hx hb d_law_15 rfl hl (by decide) rfl (fun ls hl => ?_)
  refine lv_iconst (v := 0) hx hb d_law_16 (by decide) ?_
  refine lv_istore_n (lv' := [(3, .int 0), (2, .ref q27), (1, .ref q21), (0, .ref b)]) hx hb d_law_17 rfl hl (by decide) rfl (fun ls hl => ?_)
  have hmo9 : ad2 9 = q27 := (had 9 (by decide)).trans (va_up_self _ _ _)
  have hlo : ∀ k, k < 9 → E2 k = E k := fun k hk => (hlo9 k hk).trans (va_up_ne _ _ (by omega))
  have hadl : ∀ k, k < 9 → ad2 k = ad k := fun k hk => (had k (by omega)).trans (va_up_ne _ _ (by omega))
  have hSC2 := (hSC.adr hadl).lo hlo
  have hMw : Mw G (ad2 9) (fun k => ad2 (10 + k)) sc av g32 := ⟨hR25.get 9 (by decide) hE9, fun k hk => hR25.get (10 + k) (by omega) (hEr k hk), fun i j hi hj z => by have := hR25.2.1 (10 + i) (10 + j) (by omega) (by omega) z; omega⟩
  refine W.widen (k := 60 + 100 * 0) (n := 9600 + 900 * 0) (by dsimp only; omega) (by dsimp only; omega) ?_
  exact law_loop hC (L + 1) 0 (by omega) (by omega) ad2 E2 g g32 q21 0 (fun _ => 0) 0 (fun _ => 0) 0 (fun _ => 0) 0 0 0 0 0 (-2) (fun _ => none) ls H locs hR25 hSC2 ⟨sc, av, 0, 0, hMw, hMS⟩ hw (by rw [hmo9]; exact (lv_sub hl [0, 3, 2, 1] rfl))
