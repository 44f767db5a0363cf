/-! links of the pools, as the walks ask for them -/
theorem nw_PieceReader_29 : nwk "StreamFilters$PieceReader" 29 R_ClassPattern 7 := ⟨(tb 318 (by decide +kernel) rfl), (tb 327 (by decide +kernel) rfl), (tb 11 (by decide +kernel) rfl)⟩
theorem nw_PieceReader_46 : nwk "StreamFilters$PieceReader" 46 R_TextFilter 6 := ⟨(tb 356 (by decide +kernel) rfl), (tb 357 (by decide +kernel) rfl), (tb 13 (by decide +kernel) rfl)⟩
theorem cl_PieceReader_29 : Cond.classLink "StreamFilters$PieceReader" 29 "StreamFilters$ClassPattern" ∈ TB := (tb 318 (by decide +kernel) rfl)
theorem cw_PieceReader_26 : cwk "StreamFilters$PieceReader" 26 y_PieceReader_countClasses b_PieceReader_countClasses 4 (some .int) 0 := ⟨Or.inl (tb 314 (by decide +kernel) rfl), (tb 317 (by decide +kernel) rfl), (tb 4 (by decide +kernel) rfl), by decide, by decide, by decide +kernel⟩
theorem cw_PieceReader_31 : cwk "StreamFilters$PieceReader" 31 y_Signs_copy b_Signs_copy 3 (some (.object "StreamFilters$Signs")) 0 := ⟨Or.inl (tb 320 (by decide +kernel) rfl), (tb 323 (by decide +kernel) rfl), (tb 2 (by decide +kernel) rfl), by decide, by decide, by decide +kernel⟩
theorem cw_PieceReader_43 : cwk "StreamFilters$PieceReader" 43 y_ClassPattern_init b_ClassPattern_init 3 none 2 := ⟨Or.inl (tb 328 (by decide +kernel) rfl), (tb 330 (by decide +kernel) rfl), (tb 11 (by decide +kernel) rfl), by decide, by decide, by decide +kernel⟩
theorem cw_PieceReader_48 : cwk "StreamFilters$PieceReader" 48 y_TextFilter_init b_TextFilter_init 4 none 3 := ⟨Or.inl (tb 358 (by decide +kernel) rfl), (tb 360 (by decide +kernel) rfl), (tb 13 (by decide +kernel) rfl), by decide, by decide, by decide +kernel⟩
theorem se_PieceReader_countClasses : Cond.instanceMethod y_PieceReader_countClasses ∈ TB ∧ Cond.selects "StreamFilters$PieceReader" y_PieceReader_countClasses y_PieceReader_countClasses ∈ TB := ⟨(tb 316 (by decide +kernel) rfl), (tbs 8 (by decide +kernel) rfl)⟩
theorem se_Signs_copy : Cond.instanceMethod y_Signs_copy ∈ TB ∧ Cond.selects "StreamFilters$Signs" y_Signs_copy y_Signs_copy ∈ TB := ⟨(tb 321 (by decide +kernel) rfl), (tb 322 (by decide +kernel) rfl)⟩
theorem si_ClassPattern_init : Cond.instanceMethod y_ClassPattern_init ∈ TB := (tb 329 (by decide +kernel) rfl)
theorem si_TextFilter_init : Cond.instanceMethod y_TextFilter_init ∈ TB := (tb 359 (by decide +kernel) rfl)
theorem ar_int : Cond.arrayClass .int ∈ TB := (tb 355 (by decide +kernel) rfl)
theorem ao_ClassPattern : "StreamFilters$ClassPattern" ∈ AOs := by decide
/-! decode rows -/
theorem d_PieceReader_makeFilter_0 : decode b_PieceReader_makeFilter 0 = .ok (.iconst 4, 1) := by decide +kernel
theorem d_PieceReader_makeFilter_1 : decode b_PieceReader_makeFilter 1 = .ok (.newarray .int, 2) := by decide +kernel
theorem d_PieceReader_makeFilter_3 : decode b_PieceReader_makeFilter 3 = .ok (.astore_n 2, 1) := by decide +kernel
theorem d_PieceReader_makeFilter_4 : decode b_PieceReader_makeFilter 4 = .ok (.iconst 0, 1) := by decide +kernel
theorem d_PieceReader_makeFilter_5 : decode b_PieceReader_makeFilter 5 = .ok (.istore_n 3, 1) := by decide +kernel
theorem d_PieceReader_makeFilter_6 : decode b_PieceReader_makeFilter 6 = .ok (.iload_n 3, 1) := by decide +kernel
theorem d_PieceReader_makeFilter_7 : decode b_PieceReader_makeFilter 7 = .ok (.iconst 4, 1) := by decide +kernel
theorem d_PieceReader_makeFilter_8 : decode b_PieceReader_makeFilter 8 = .ok (.if_icmp .ge 14, 3) := by decide +kernel
theorem d_PieceReader_makeFilter_11 : decode b_PieceReader_makeFilter 11 = .ok (.aload_n 2, 1) := by decide +kernel
theorem d_PieceReader_makeFilter_12 : decode b_PieceReader_makeFilter 12 = .ok (.iload_n 3, 1) := by decide +kernel
theorem d_PieceReader_makeFilter_13 : decode b_PieceReader_makeFilter 13 = .ok (.bipush (-2), 2) := by decide +kernel
theorem d_PieceReader_makeFilter_15 : decode b_PieceReader_makeFilter 15 = .ok (.iastore, 1) := by decide +kernel
theorem d_PieceReader_makeFilter_16 : decode b_PieceReader_makeFilter 16 = .ok (.iinc 3 1, 3) := by decide +kernel
theorem d_PieceReader_makeFilter_19 : decode b_PieceReader_makeFilter 19 = .ok (.goto (-13), 3) := by decide +kernel
theorem d_PieceReader_makeFilter_22 : decode b_PieceReader_makeFilter 22 = .ok (.aload_n 0, 1) := by decide +kernel
theorem d_PieceReader_makeFilter_23 : decode b_PieceReader_makeFilter 23 = .ok (.invokevirtual 26, 3) := by decide +kernel
theorem d_PieceReader_makeFilter_26 : decode b_PieceReader_makeFilter 26 = .ok (.anewarray 29, 3) := by decide +kernel
theorem d_PieceReader_makeFilter_29 : decode b_PieceReader_makeFilter 29 = .ok (.astore_n 3, 1) := by decide +kernel
theorem d_PieceReader_makeFilter_30 : decode b_PieceReader_makeFilter 30 = .ok (.aload_n 0, 1) := by decide +kernel
theorem d_PieceReader_makeFilter_31 : decode b_PieceReader_makeFilter 31 = .ok (.getfield 9, 3) := by decide +kernel
theorem d_PieceReader_makeFilter_34 : decode b_PieceReader_makeFilter 34 = .ok (.invokevirtual 31, 3) := by decide +kernel
theorem d_PieceReader_makeFilter_37 : decode b_PieceReader_makeFilter 37 = .ok (.astore 4, 2) := by decide +kernel
theorem d_PieceReader_makeFilter_39 : decode b_PieceReader_makeFilter 39 = .ok (.iconst 0, 1) := by decide +kernel
theorem d_PieceReader_makeFilter_40 : decode b_PieceReader_makeFilter 40 = .ok (.istore 5, 2) := by decide +kernel
theorem d_PieceReader_makeFilter_42 : decode b_PieceReader_makeFilter 42 = .ok (.aload_n 0, 1) := by decide +kernel
theorem d_PieceReader_makeFilter_43 : decode b_PieceReader_makeFilter 43 = .ok (.invokevirtual 15, 3) := by decide +kernel
theorem d_PieceReader_makeFilter_46 : decode b_PieceReader_makeFilter 46 = .ok (.istore 6, 2) := by decide +kernel
theorem d_PieceReader_makeFilter_48 : decode b_PieceReader_makeFilter 48 = .ok (.iconst 0, 1) := by decide +kernel
theorem d_PieceReader_makeFilter_49 : decode b_PieceReader_makeFilter 49 = .ok (.istore 7, 2) := by decide +kernel
theorem d_PieceReader_makeFilter_51 : decode b_PieceReader_makeFilter 51 = .ok (.iload 7, 2) := by decide +kernel
theorem d_PieceReader_makeFilter_53 : decode b_PieceReader_makeFilter 53 = .ok (.iload 6, 2) := by decide +kernel
theorem d_PieceReader_makeFilter_55 : decode b_PieceReader_makeFilter 55 = .ok (.if_icmp .ge 81, 3) := by decide +kernel
theorem d_PieceReader_makeFilter_58 : decode b_PieceReader_makeFilter 58 = .ok (.aload_n 0, 1) := by decide +kernel
theorem d_PieceReader_makeFilter_59 : decode b_PieceReader_makeFilter 59 = .ok (.invokevirtual 19, 3) := by decide +kernel
theorem d_PieceReader_makeFilter_62 : decode b_PieceReader_makeFilter 62 = .ok (.aload_n 0, 1) := by decide +kernel
theorem d_PieceReader_makeFilter_63 : decode b_PieceReader_makeFilter 63 = .ok (.getfield 22, 3) := by decide +kernel
theorem d_PieceReader_makeFilter_66 : decode b_PieceReader_makeFilter 66 = .ok (.iconst 1, 1) := by decide +kernel
theorem d_PieceReader_makeFilter_67 : decode b_PieceReader_makeFilter 67 = .ok (.if_icmp .ne 31, 3) := by decide +kernel
theorem d_PieceReader_makeFilter_70 : decode b_PieceReader_makeFilter 70 = .ok (.aload_n 0, 1) := by decide +kernel
theorem d_PieceReader_makeFilter_71 : decode b_PieceReader_makeFilter 71 = .ok (.getfield 37, 3) := by decide +kernel
theorem d_PieceReader_makeFilter_74 : decode b_PieceReader_makeFilter 74 = .ok (.ifCond .lt 24, 3) := by decide +kernel
theorem d_PieceReader_makeFilter_77 : decode b_PieceReader_makeFilter 77 = .ok (.aload_n 0, 1) := by decide +kernel
theorem d_PieceReader_makeFilter_78 : decode b_PieceReader_makeFilter 78 = .ok (.getfield 37, 3) := by decide +kernel
theorem d_PieceReader_makeFilter_81 : decode b_PieceReader_makeFilter 81 = .ok (.iconst 4, 1) := by decide +kernel
theorem d_PieceReader_makeFilter_82 : decode b_PieceReader_makeFilter 82 = .ok (.if_icmp .ge 16, 3) := by decide +kernel
theorem d_PieceReader_makeFilter_85 : decode b_PieceReader_makeFilter 85 = .ok (.aload_n 2, 1) := by decide +kernel
theorem d_PieceReader_makeFilter_86 : decode b_PieceReader_makeFilter 86 = .ok (.aload_n 0, 1) := by decide +kernel
theorem d_PieceReader_makeFilter_87 : decode b_PieceReader_makeFilter 87 = .ok (.getfield 37, 3) := by decide +kernel
theorem d_PieceReader_makeFilter_90 : decode b_PieceReader_makeFilter 90 = .ok (.aload_n 0, 1) := by decide +kernel
theorem d_PieceReader_makeFilter_91 : decode b_PieceReader_makeFilter 91 = .ok (.getfield 40, 3) := by decide +kernel
theorem d_PieceReader_makeFilter_94 : decode b_PieceReader_makeFilter 94 = .ok (.iastore, 1) := by decide +kernel
theorem d_PieceReader_makeFilter_95 : decode b_PieceReader_makeFilter 95 = .ok (.goto 35, 3) := by decide +kernel
theorem d_PieceReader_makeFilter_98 : decode b_PieceReader_makeFilter 98 = .ok (.aload_n 0, 1) := by decide +kernel
theorem d_PieceReader_makeFilter_99 : decode b_PieceReader_makeFilter 99 = .ok (.getfield 22, 3) := by decide +kernel
theorem d_PieceReader_makeFilter_102 : decode b_PieceReader_makeFilter 102 = .ok (.iconst 2, 1) := by decide +kernel
theorem d_PieceReader_makeFilter_103 : decode b_PieceReader_makeFilter 103 = .ok (.if_icmp .ne 27, 3) := by decide +kernel
theorem d_PieceReader_makeFilter_106 : decode b_PieceReader_makeFilter 106 = .ok (.iload 5, 2) := by decide +kernel
theorem d_PieceReader_makeFilter_108 : decode b_PieceReader_makeFilter 108 = .ok (.aload_n 3, 1) := by decide +kernel
theorem d_PieceReader_makeFilter_109 : decode b_PieceReader_makeFilter 109 = .ok (.arraylength, 1) := by decide +kernel
theorem d_PieceReader_makeFilter_110 : decode b_PieceReader_makeFilter 110 = .ok (.if_icmp .ge 20, 3) := by decide +kernel
theorem d_PieceReader_makeFilter_113 : decode b_PieceReader_makeFilter 113 = .ok (.aload_n 3, 1) := by decide +kernel
theorem d_PieceReader_makeFilter_114 : decode b_PieceReader_makeFilter 114 = .ok (.iload 5, 2) := by decide +kernel
theorem d_PieceReader_makeFilter_116 : decode b_PieceReader_makeFilter 116 = .ok (.new 29, 3) := by decide +kernel
theorem d_PieceReader_makeFilter_119 : decode b_PieceReader_makeFilter 119 = .ok (.dup, 1) := by decide +kernel
theorem d_PieceReader_makeFilter_120 : decode b_PieceReader_makeFilter 120 = .ok (.aload 4, 2) := by decide +kernel
theorem d_PieceReader_makeFilter_122 : decode b_PieceReader_makeFilter 122 = .ok (.aload_n 0, 1) := by decide +kernel
theorem d_PieceReader_makeFilter_123 : decode b_PieceReader_makeFilter 123 = .ok (.invokespecial 43, 3) := by decide +kernel
theorem d_PieceReader_makeFilter_126 : decode b_PieceReader_makeFilter 126 = .ok (.aastore, 1) := by decide +kernel
theorem d_PieceReader_makeFilter_127 : decode b_PieceReader_makeFilter 127 = .ok (.iinc 5 1, 3) := by decide +kernel
theorem d_PieceReader_makeFilter_130 : decode b_PieceReader_makeFilter 130 = .ok (.iinc 7 1, 3) := by decide +kernel
theorem d_PieceReader_makeFilter_133 : decode b_PieceReader_makeFilter 133 = .ok (.goto (-82), 3) := by decide +kernel
theorem d_PieceReader_makeFilter_136 : decode b_PieceReader_makeFilter 136 = .ok (.new 46, 3) := by decide +kernel
theorem d_PieceReader_makeFilter_139 : decode b_PieceReader_makeFilter 139 = .ok (.dup, 1) := by decide +kernel
theorem d_PieceReader_makeFilter_140 : decode b_PieceReader_makeFilter 140 = .ok (.iload_n 1, 1) := by decide +kernel
theorem d_PieceReader_makeFilter_141 : decode b_PieceReader_makeFilter 141 = .ok (.aload_n 2, 1) := by decide +kernel
theorem d_PieceReader_makeFilter_142 : decode b_PieceReader_makeFilter 142 = .ok (.aload_n 3, 1) := by decide +kernel
theorem d_PieceReader_makeFilter_143 : decode b_PieceReader_makeFilter 143 = .ok (.invokespecial 48, 3) := by decide +kernel
theorem d_PieceReader_makeFilter_146 : decode b_PieceReader_makeFilter 146 = .ok (.areturn, 1) := by decide +kernel
set_option maxHeartbeats 4000000 in
set_option maxRecDepth 100000 in
/-- makeFilter(bs) -/
theorem c_PieceReader_makeFilter (G : GG) (l : Launch) (sz : Nat) (f : Wd) {ra ta tr cap n : Nat} {t : Nat → Int32} {vfr ven vpi vli vnu vrj vsh vmf vme vnf vne : Int32} {bs : Int32} (h_bs : bs = 0 ∨ bs = 1) (hR : f ra = some (.inr (3, [.ref ta, .int vfr, .int ven, .int vpi, .int vli, .int vnu, .int vrj, .int vsh, .int vmf, .int vme, .int vnf, .int vne]))) (hT : sg G f ta tr cap n t) : Cq G l y_PieceReader_makeFilter b_PieceReader_makeFilter 8 (some (.object "StreamFilters$TextFilter")) ({ frames := 9, cells := 96, slots := 830, locals := 197 }) sz f [.ref ra, .int bs] (fun v f' => ∃ (a : Nat) (fr en pi li nu rj sh mf me nf ne : Int32) (lm : Nat → Int32), v = some a ∧ f' ra = some (.inr (3, [.ref ta, .int fr, .int en, .int pi, .int li, .int nu, .int rj, .int sh, .int mf, .int me, .int nf, .int ne])) ∧ hld f f' ra ∧ tf G (nw f f') a bs lm (clsU t n (npc t n)).length (Vt t n) (Sht t n) (Mt t n) ∧ ∀ k, k < 4 → lm k = lmU t n (npc t n) k) := by
  refine ct_of (by decide) (Nat.le_of_ble_eq_true rfl) ?_
  intro p e s m below meth c ls H locs hEn
  obtain ⟨hc, hr, hlk, hin, hE, hw, hsz, hl⟩ := hEn
  have hx := hc.1
  have hb := hc.2.1
  have hl : lv_has ls 8 [(0, .ref ra), (1, .int bs)] := hl
  have hn9 : n ≤ 90 := by have := hT.2.2.1; have := hT.2.2.2.1; omega
  have hnp := npc_le (t := t) n
  have hcl : (clsU t n (npc t n)).length ≤ 91 := by have := clsU_len t n (npc t n); omega
  have hold_f : hld f f ra := hld.rf
  refine lv_iconst (v := 4) hx hb d_PieceReader_makeFilter_0 (by decide) ?_
  refine m_newa hc hE hw (N' := 4) (a0 := (4, .inl (fun _ => 0))) ar_int rfl 0 rfl (fun _ => rfl) (by decide) (by decide) (by decide) (by first | decide | (dsimp only; omega)) (by first | decide | (dsimp only; omega)) d_PieceReader_makeFilter_1 (fun q1 H u2 hw => ?_)
  have fr_q1 : f q1 = none := hold_f.fresh hR u2
  obtain ⟨f3, ef3⟩ : ∃ z : Wd, z = va_up f q1 (some (.inl (G.2.1 0, 4, .inl (fun _ => 0)))) := ⟨_, rfl⟩
  replace hw : ms G.1 (Af f sz) f3 s H locs := by rw [ef3]; exact hw
  have n_ra_q1 : ra ≠ q1 := wnf hR u2
  have h4 : f3 ra = some (.inr (3, [.ref ta, .int vfr, .int ven, .int vpi, .int vli, .int vnu, .int vrj, .int vsh, .int vmf, .int vme, .int vnf, .int vne])) := by rw [ef3, va_up_ne _ _ n_ra_q1]; exact hR
  have n_ta_q1 : ta ≠ q1 := wnf hT.1 u2
  have h5 : f3 ta = some (.inr (1, [.ref tr, .int (nI n)])) := by rw [ef3, va_up_ne _ _ n_ta_q1]; exact hT.1
  have n_tr_q1 : tr ≠ q1 := wnf hT.2.1 u2
  have h6 : f3 tr = some (.inl (G.2.1 1, cap, .inl t)) := by rw [ef3, va_up_ne _ _ n_tr_q1]; exact hT.2.1
  have h7 : f3 q1 = some (.inl (G.2.1 0, 4, .inl (fun _ => 0))) := by rw [ef3, va_up_self]
  have hold_f3 : hld f f3 ra := by rw [ef3]; exact hold_f.new fr_q1
  refine lv_astore_n (lv' := [(2, .ref q1), (0, .ref ra), (1, .int bs)]) hx hb d_PieceReader_makeFilter_3 rfl hl (by decide) rfl (fun ls hl => ?_)
  refine lv_iconst (v := 0) hx hb d_PieceReader_makeFilter_4 (by decide) ?_
  refine lv_istore_n (lv' := [(3, .int 0), (2, .ref q1), (0, .ref ra), (1, .int bs)]) hx hb d_PieceReader_makeFilter_5 rfl hl (by decide) rfl (fun ls hl => ?_)
  refine lv_iload_n hx hb d_PieceReader_makeFilter_6 rfl (lv_at hl 0 rfl) ?_
  refine lv_iconst (v := 4) hx hb d_PieceReader_makeFilter_7 (by decide) ?_
  refine lv_icmp_ge (tgt := 22) hx hb d_PieceReader_makeFilter_8 (by decide) (fun z => absurd z (by decide)) (fun _ => ?_)
  refine lv_aload_n hx hb d_PieceReader_makeFilter_11 rfl (lv_at hl 1 rfl) ?_
  refine lv_iload_n hx hb d_PieceReader_makeFilter_12 rfl (lv_at hl 0 rfl) ?_
  refine lv_bipush (v := (-2)) hx hb d_PieceReader_makeFilter_13 (by decide) ?_
  refine m_iast hc hE hw 0 h7 rfl (by first | assumption | (unfold vp_in; decide) | exact vp_in_nI (by omega) (by omega)) d_PieceReader_makeFilter_15 (fun H locs hw => ?_)
  obtain ⟨f8, ef8⟩ : ∃ z : Wd, z = va_up f3 q1 (some (.inl (G.2.1 0, 4, .inl (upd (fun _ => 0) (0 : Int32).toNatClampNeg (-2))))) := ⟨_, rfl⟩
  replace hw : ms G.1 (Af f sz) f8 s H locs := by rw [ef8]; exact hw
  have h9 : f8 ra = some (.inr (3, [.ref ta, .int vfr, .int ven, .int vpi, .int vli, .int vnu, .int vrj, .int vsh, .int vmf, .int vme, .int vnf, .int vne])) := by rw [ef8, va_up_ne _ _ n_ra_q1]; exact h4
  have h10 : f8 ta = some (.inr (1, [.ref tr, .int (nI n)])) := by rw [ef8, va_up_ne _ _ n_ta_q1]; exact h5
  have h11 : f8 tr = some (.inl (G.2.1 1, cap, .inl t)) := by rw [ef8, va_up_ne _ _ n_tr_q1]; exact h6
  have h12 : f8 q1 = some (.inl (G.2.1 0, 4, .inl (upd (fun _ => 0) (0 : Int32).toNatClampNeg (-2)))) := by rw [ef8, va_up_self]
  have hold_f8 : hld f f8 ra := by rw [ef8]; exact hold_f3.new fr_q1
  refine lv_iinc (v := 1) (lv' := [(3, .int 1), (2, .ref q1), (0, .ref ra), (1, .int bs)]) hx hb d_PieceReader_makeFilter_16 hl (k := 0) rfl (by decide) (by decide) rfl (fun ls hl => ?_)
  refine lv_goto (tgt := 6) hx hb d_PieceReader_makeFilter_19 (by decide) ?_
  refine lv_iload_n hx hb d_PieceReader_makeFilter_6 rfl (lv_at hl 0 rfl) ?_
  refine lv_iconst (v := 4) hx hb d_PieceReader_makeFilter_7 (by decide) ?_
  refine lv_icmp_ge (tgt := 22) hx hb d_PieceReader_makeFilter_8 (by decide) (fun z => absurd z (by decide)) (fun _ => ?_)
  refine lv_aload_n hx hb d_PieceReader_makeFilter_11 rfl (lv_at hl 1 rfl) ?_
  refine lv_iload_n hx hb d_PieceReader_makeFilter_12 rfl (lv_at hl 0 rfl) ?_
  refine lv_bipush (v := (-2)) hx hb d_PieceReader_makeFilter_13 (by decide) ?_
  refine m_iast hc hE hw 0 h12 rfl (by first | assumption | (unfold vp_in; decide) | exact vp_in_nI (by omega) (by omega)) d_PieceReader_makeFilter_15 (fun H locs hw => ?_)
  obtain ⟨f13, ef13⟩ : ∃ z : Wd, z = va_up f8 q1 (some (.inl (G.2.1 0, 4, .inl (upd (upd (fun _ => 0) (0 : Int32).toNatClampNeg (-2)) (1 : Int32).toNatClampNeg (-2))))) := ⟨_, rfl⟩
  replace hw : ms G.1 (Af f sz) f13 s H locs := by rw [ef13]; exact hw
  have h14 : f13 ra = some (.inr (3, [.ref ta, .int vfr, .int ven, .int vpi, .int vli, .int vnu, .int vrj, .int vsh, .int vmf, .int vme, .int vnf, .int vne])) := by rw [ef13, va_up_ne _ _ n_ra_q1]; exact h9
  have h15 : f13 ta = some (.inr (1, [.ref tr, .int (nI n)])) := by rw [ef13, va_up_ne _ _ n_ta_q1]; exact h10
  have h16 : f13 tr = some (.inl (G.2.1 1, cap, .inl t)) := by rw [ef13, va_up_ne _ _ n_tr_q1]; exact h11
  have h17 : f13 q1 = some (.inl (G.2.1 0, 4, .inl (upd (upd (fun _ => 0) (0 : Int32).toNatClampNeg (-2)) (1 : Int32).toNatClampNeg (-2)))) := by rw [ef13, va_up_self]
  have hold_f13 : hld f f13 ra := by rw [ef13]; exact hold_f8.new fr_q1
  refine lv_iinc (v := 2) (lv' := [(3, .int 2), (2, .ref q1), (0, .ref ra), (1, .int bs)]) hx hb d_PieceReader_makeFilter_16 hl (k := 0) rfl (by decide) (by decide) rfl (fun ls hl => ?_)
  refine lv_goto (tgt := 6) hx hb d_PieceReader_makeFilter_19 (by decide) ?_
  refine lv_iload_n hx hb d_PieceReader_makeFilter_6 rfl (lv_at hl 0 rfl) ?_
  refine lv_iconst (v := 4) hx hb d_PieceReader_makeFilter_7 (by decide) ?_
  refine lv_icmp_ge (tgt := 22) hx hb d_PieceReader_makeFilter_8 (by decide) (fun z => absurd z (by decide)) (fun _ => ?_)
  refine lv_aload_n hx hb d_PieceReader_makeFilter_11 rfl (lv_at hl 1 rfl) ?_
  refine lv_iload_n hx hb d_PieceReader_makeFilter_12 rfl (lv_at hl 0 rfl) ?_
  refine lv_bipush (v := (-2)) hx hb d_PieceReader_makeFilter_13 (by decide) ?_
  refine m_iast hc hE hw 0 h17 rfl (by first | assumption | (unfold vp_in; decide) | exact vp_in_nI (by omega) (by omega)) d_PieceReader_makeFilter_15 (fun H locs hw => ?_)
  obtain ⟨f18, ef18⟩ : ∃ z : Wd, z = va_up f13 q1 (some (.inl (G.2.1 0, 4, .inl (upd (upd (upd (fun _ => 0) (0 : Int32).toNatClampNeg (-2)) (1 : Int32).toNatClampNeg (-2)) (2 : Int32).toNatClampNeg (-2))))) := ⟨_, rfl⟩
  replace hw : ms G.1 (Af f sz) f18 s H locs := by rw [ef18]; exact hw
  have h19 : f18 ra = some (.inr (3, [.ref ta, .int vfr, .int ven, .int vpi, .int vli, .int vnu, .int vrj, .int vsh, .int vmf, .int vme, .int vnf, .int vne])) := by rw [ef18, va_up_ne _ _ n_ra_q1]; exact h14
  have h20 : f18 ta = some (.inr (1, [.ref tr, .int (nI n)])) := by rw [ef18, va_up_ne _ _ n_ta_q1]; exact h15
  have h21 : f18 tr = some (.inl (G.2.1 1, cap, .inl t)) := by rw [ef18, va_up_ne _ _ n_tr_q1]; exact h16
  have h22 : f18 q1 = some (.inl (G.2.1 0, 4, .inl (upd (upd (upd (fun _ => 0) (0 : Int32).toNatClampNeg (-2)) (1 : Int32).toNatClampNeg (-2)) (2 : Int32).toNatClampNeg (-2)))) := by rw [ef18, va_up_self]
  have hold_f18 : hld f f18 ra := by rw [ef18]; exact hold_f13.new fr_q1
  refine lv_iinc (v := 3) (lv' := [(3, .int 3), (2, .ref q1), (0, .ref ra), (1, .int bs)]) hx hb d_PieceReader_makeFilter_16 hl (k := 0) rfl (by decide) (by decide) rfl (fun ls hl => ?_)
  refine lv_goto (tgt := 6) hx hb d_PieceReader_makeFilter_19 (by decide) ?_
  refine lv_iload_n hx hb d_PieceReader_makeFilter_6 rfl (lv_at hl 0 rfl) ?_
  refine lv_iconst (v := 4) hx hb d_PieceReader_makeFilter_7 (by decide) ?_
  refine lv_icmp_ge (tgt := 22) hx hb d_PieceReader_makeFilter_8 (by decide) (fun z => absurd z (by decide)) (fun _ => ?_)
  refine lv_aload_n hx hb d_PieceReader_makeFilter_11 rfl (lv_at hl 1 rfl) ?_
  refine lv_iload_n hx hb d_PieceReader_makeFilter_12 rfl (lv_at hl 0 rfl) ?_
  refine lv_bipush (v := (-2)) hx hb d_PieceReader_makeFilter_13 (by decide) ?_
  refine m_iast hc hE hw 0 h22 rfl (by first | assumption | (unfold vp_in; decide) | exact vp_in_nI (by omega) (by omega)) d_PieceReader_makeFilter_15 (fun H locs hw => ?_)
  obtain ⟨f23, ef23⟩ : ∃ z : Wd, z = va_up f18 q1 (some (.inl (G.2.1 0, 4, .inl (upd (upd (upd (upd (fun _ => 0) (0 : Int32).toNatClampNeg (-2)) (1 : Int32).toNatClampNeg (-2)) (2 : Int32).toNatClampNeg (-2)) (3 : Int32).toNatClampNeg (-2))))) := ⟨_, rfl⟩
  replace hw : ms G.1 (Af f sz) f23 s H locs := by rw [ef23]; exact hw
  have h24 : f23 ra = some (.inr (3, [.ref ta, .int vfr, .int ven, .int vpi, .int vli, .int vnu, .int vrj, .int vsh, .int vmf, .int vme, .int vnf, .int vne])) := by rw [ef23, va_up_ne _ _ n_ra_q1]; exact h19
  have h25 : f23 ta = some (.inr (1, [.ref tr, .int (nI n)])) := by rw [ef23, va_up_ne _ _ n_ta_q1]; exact h20
  have h26 : f23 tr = some (.inl (G.2.1 1, cap, .inl t)) := by rw [ef23, va_up_ne _ _ n_tr_q1]; exact h21
  have h27 : f23 q1 = some (.inl (G.2.1 0, 4, .inl (upd (upd (upd (upd (fun _ => 0) (0 : Int32).toNatClampNeg (-2)) (1 : Int32).toNatClampNeg (-2)) (2 : Int32).toNatClampNeg (-2)) (3 : Int32).toNatClampNeg (-2)))) := by rw [ef23, va_up_self]
  have hold_f23 : hld f f23 ra := by rw [ef23]; exact hold_f18.new fr_q1
  refine lv_iinc (v := 4) (lv' := [(3, .int 4), (2, .ref q1), (0, .ref ra), (1, .int bs)]) hx hb d_PieceReader_makeFilter_16 hl (k := 0) rfl (by decide) (by decide) rfl (fun ls hl => ?_)
  refine lv_goto (tgt := 6) hx hb d_PieceReader_makeFilter_19 (by decide) ?_
  refine lv_iload_n hx hb d_PieceReader_makeFilter_6 rfl (lv_at hl 0 rfl) ?_
  refine lv_iconst (v := 4) hx hb d_PieceReader_makeFilter_7 (by decide) ?_
  refine lv_icmp_ge (tgt := 22) hx hb d_PieceReader_makeFilter_8 (by decide) (fun _ => ?_) (fun z => absurd z (by decide))
  refine lv_aload_n hx hb d_PieceReader_makeFilter_22 rfl (lv_at hl 2 rfl) ?_
  refine m_calli hw (m_runV (As := []) (rest := []) hc hE hw (c_PieceReader_countClasses G l H.size f23 h24 ⟨h25, h26, hT.2.2⟩) h24 rfl cw_PieceReader_26 se_PieceReader_countClasses rfl hl.1 rfl (Nat.le_of_ble_eq_true rfl) d_PieceReader_makeFilter_23 ⟨rfl, rfl, by decide, by decide⟩ ⟨by first | decide | (dsimp only; omega), by first | decide | (dsimp only; omega)⟩) (fun r30 g29 H locs p28 hw => ?_)
  obtain ⟨fr1, en1, pi1, li1, nu1, rj1, sh1, mf1, me1, nf1, ne1, hfc, p28⟩ := p28
  subst p28
  have h31 : g29 ta = some (.inr (1, [.ref tr, .int (nI n)])) := by rw [hfc, va_up_ne _ _ (wne h25 h24 (wd_oo (by decide)))]; exact h25
  have h32 : g29 tr = some (.inl (G.2.1 1, cap, .inl t)) := by rw [hfc, va_up_ne _ _ (wne h26 h24 wd_ao)]; exact h26
  have h33 : g29 q1 = some (.inl (G.2.1 0, 4, .inl (upd (upd (upd (upd (fun _ => 0) (0 : Int32).toNatClampNeg (-2)) (1 : Int32).toNatClampNeg (-2)) (2 : Int32).toNatClampNeg (-2)) (3 : Int32).toNatClampNeg (-2)))) := by rw [hfc, va_up_ne _ _ (Ne.symm n_ra_q1)]; exact h27
  have h34 : g29 ra = some (.inr (3, [.ref ta, .int fr1, .int en1, .int pi1, .int li1, .int nu1, .int rj1, .int sh1, .int mf1, .int me1, .int nf1, .int ne1])) := by rw [hfc, va_up_self]
  have hold_g29 : hld f g29 ra := by rw [hfc]; exact hold_f23.at
  refine m_newq hc hE hw (N' := (clsU t n (npc t n)).length) cl_PieceReader_29 ao_ClassPattern 3 rfl (nI_pos (by omega)) (nI_clamp (by omega)) (by omega) (by first | decide | (dsimp only; omega)) (by first | decide | (dsimp only; omega)) d_PieceReader_makeFilter_26 (fun q35 H u36 hw => ?_)
  have fr_q35 : f q35 = none := hold_g29.fresh h34 u36
  obtain ⟨f37, ef37⟩ : ∃ z : Wd, z = va_up g29 q35 (some (.inl (G.2.1 3, (clsU t n (npc t n)).length, .inr (.inr (.inr (.inr (fun _ => none))))))) := ⟨_, rfl⟩
  replace hw : ms G.1 (Af f sz) f37 s H locs := by rw [ef37]; exact hw
  have n_ra_q35 : ra ≠ q35 := wnf h34 u36
  have h38 : f37 ra = some (.inr (3, [.ref ta, .int fr1, .int en1, .int pi1, .int li1, .int nu1, .int rj1, .int sh1, .int mf1, .int me1, .int nf1, .int ne1])) := by rw [ef37, va_up_ne _ _ n_ra_q35]; exact h34
  have n_ta_q35 : ta ≠ q35 := wnf h31 u36
  have h39 : f37 ta = some (.inr (1, [.ref tr, .int (nI n)])) := by rw [ef37, va_up_ne _ _ n_ta_q35]; exact h31
  have n_tr_q35 : tr ≠ q35 := wnf h32 u36
  have h40 : f37 tr = some (.inl (G.2.1 1, cap, .inl t)) := by rw [ef37, va_up_ne _ _ n_tr_q35]; exact h32
  have n_q1_q35 : q1 ≠ q35 := wnf h33 u36
  have h41 : f37 q1 = some (.inl (G.2.1 0, 4, .inl (upd (upd (upd (upd (fun _ => 0) (0 : Int32).toNatClampNeg (-2)) (1 : Int32).toNatClampNeg (-2)) (2 : Int32).toNatClampNeg (-2)) (3 : Int32).toNatClampNeg (-2)))) := by rw [ef37, va_up_ne _ _ n_q1_q35]; exact h33
  have h42 : f37 q35 = some (.inl (G.2.1 3, (clsU t n (npc t n)).length, .inr (.inr (.inr (.inr (fun _ => none)))))) := by rw [ef37, va_up_self]
  have hold_f37 : hld f f37 ra := by rw [ef37]; exact hold_g29.new fr_q35
  refine lv_astore_n (lv' := [(3, .ref q35), (2, .ref q1), (0, .ref ra), (1, .int bs)]) hx hb d_PieceReader_makeFilter_29 rfl hl (by decide) rfl (fun ls hl => ?_)
  refine lv_aload_n hx hb d_PieceReader_makeFilter_30 rfl (lv_at hl 2 rfl) ?_
  refine m_get hc hE hw h38 kc_PieceReader l_PieceReader_9_PieceReader rfl d_PieceReader_makeFilter_31 ?_
  refine m_callq hw (m_runV (As := []) (rest := []) hc hE hw (c_Signs_copy G l H.size f37 ⟨h39, h40, hT.2.2⟩) h39 rfl cw_PieceReader_31 se_Signs_copy rfl hl.1 rfl (Nat.le_of_ble_eq_true rfl) d_PieceReader_makeFilter_34 ⟨rfl, rfl, by decide, by decide⟩ ⟨by first | decide | (dsimp only; omega), by first | decide | (dsimp only; omega)⟩) (fun r45 g44 H locs p43 hw => ?_)
  obtain ⟨ka, kr, u, p43, hka, hkr, n_ka_kr, hfk, hu⟩ := p43
  subst p43
  have fr_ka : f ka = none := hold_f37.fresh h38 hka
  have fr_kr : f kr = none := hold_f37.fresh h38 hkr
  have n_ra_ka : ra ≠ ka := wnf h38 hka
  have n_ra_kr : ra ≠ kr := wnf h38 hkr
  have h46 : g44 ra = some (.inr (3, [.ref ta, .int fr1, .int en1, .int pi1, .int li1, .int nu1, .int rj1, .int sh1, .int mf1, .int me1, .int nf1, .int ne1])) := by rw [hfk, va_up_ne _ _ n_ra_ka, va_up_ne _ _ n_ra_kr]; exact h38
  have n_ta_ka : ta ≠ ka := wnf h39 hka
  have n_ta_kr : ta ≠ kr := wnf h39 hkr
  have h47 : g44 ta = some (.inr (1, [.ref tr, .int (nI n)])) := by rw [hfk, va_up_ne _ _ n_ta_ka, va_up_ne _ _ n_ta_kr]; exact h39
  have n_tr_ka : tr ≠ ka := wnf h40 hka
  have n_tr_kr : tr ≠ kr := wnf h40 hkr
  have h48 : g44 tr = some (.inl (G.2.1 1, cap, .inl t)) := by rw [hfk, va_up_ne _ _ n_tr_ka, va_up_ne _ _ n_tr_kr]; exact h40
  have n_q1_ka : q1 ≠ ka := wnf h41 hka
  have n_q1_kr : q1 ≠ kr := wnf h41 hkr
  have h49 : g44 q1 = some (.inl (G.2.1 0, 4, .inl (upd (upd (upd (upd (fun _ => 0) (0 : Int32).toNatClampNeg (-2)) (1 : Int32).toNatClampNeg (-2)) (2 : Int32).toNatClampNeg (-2)) (3 : Int32).toNatClampNeg (-2)))) := by rw [hfk, va_up_ne _ _ n_q1_ka, va_up_ne _ _ n_q1_kr]; exact h41
  have n_q35_ka : q35 ≠ ka := wnf h42 hka
  have n_q35_kr : q35 ≠ kr := wnf h42 hkr
  have h50 : g44 q35 = some (.inl (G.2.1 3, (clsU t n (npc t n)).length, .inr (.inr (.inr (.inr (fun _ => none)))))) := by rw [hfk, va_up_ne _ _ n_q35_ka, va_up_ne _ _ n_q35_kr]; exact h42
  have h51 : g44 kr = some (.inl (G.2.1 1, n, .inl u)) := by rw [hfk, va_up_ne _ _ (Ne.symm n_ka_kr), va_up_self]
  have h52 : g44 ka = some (.inr (1, [.ref kr, .int (nI n)])) := by rw [hfk, va_up_self]
  have hold_g44 : hld f g44 ra := by rw [hfk]; exact (hold_f37.new fr_kr).new fr_ka
  refine lv_astore (lv' := [(4, .ref ka), (3, .ref q35), (2, .ref q1), (0, .ref ra), (1, .int bs)]) hx hb d_PieceReader_makeFilter_37 hl (by decide) rfl (fun ls hl => ?_)
  refine lv_iconst (v := 0) hx hb d_PieceReader_makeFilter_39 (by decide) ?_
  refine lv_istore (lv' := [(5, .int 0), (4, .ref ka), (3, .ref q35), (2, .ref q1), (0, .ref ra), (1, .int bs)]) hx hb d_PieceReader_makeFilter_40 hl (by decide) rfl (fun ls hl => ?_)
  refine lv_aload_n hx hb d_PieceReader_makeFilter_42 rfl (lv_at hl 4 rfl) ?_
  refine m_calli hw (m_runV (As := []) (rest := []) hc hE hw (c_PieceReader_startOver G l H.size g44 h46 ⟨h47, h48, hT.2.2⟩) h46 rfl cw_PieceReader_15 se_PieceReader_startOver rfl hl.1 rfl (Nat.le_of_ble_eq_true rfl) d_PieceReader_makeFilter_43 ⟨rfl, rfl, by decide, by decide⟩ ⟨by first | decide | (dsimp only; omega), by first | decide | (dsimp only; omega)⟩) (fun r55 g54 H locs p53 hw => ?_)
  obtain ⟨hfs, p53⟩ := p53
  subst p53
  have h56 : g54 ta = some (.inr (1, [.ref tr, .int (nI n)])) := by rw [hfs, va_up_ne _ _ (wne h47 h46 (wd_oo (by decide)))]; exact h47
  have h57 : g54 tr = some (.inl (G.2.1 1, cap, .inl t)) := by rw [hfs, va_up_ne _ _ (wne h48 h46 wd_ao)]; exact h48
  have h58 : g54 q1 = some (.inl (G.2.1 0, 4, .inl (upd (upd (upd (upd (fun _ => 0) (0 : Int32).toNatClampNeg (-2)) (1 : Int32).toNatClampNeg (-2)) (2 : Int32).toNatClampNeg (-2)) (3 : Int32).toNatClampNeg (-2)))) := by rw [hfs, va_up_ne _ _ (Ne.symm n_ra_q1)]; exact h49
  have h59 : g54 q35 = some (.inl (G.2.1 3, (clsU t n (npc t n)).length, .inr (.inr (.inr (.inr (fun _ => none)))))) := by rw [hfs, va_up_ne _ _ (Ne.symm n_ra_q35)]; exact h50
  have h60 : g54 kr = some (.inl (G.2.1 1, n, .inl u)) := by rw [hfs, va_up_ne _ _ (Ne.symm n_ra_kr)]; exact h51
  have h61 : g54 ka = some (.inr (1, [.ref kr, .int (nI n)])) := by rw [hfs, va_up_ne _ _ (Ne.symm n_ra_ka)]; exact h52
  have h62 : g54 ra = some (.inr (3, [.ref ta, .int fr1, .int (-1), .int pi1, .int li1, .int nu1, .int rj1, .int sh1, .int mf1, .int me1, .int nf1, .int ne1])) := by rw [hfs, va_up_self]
  have hold_g54 : hld f g54 ra := by rw [hfs]; exact hold_g44.at
  refine lv_istore (lv' := [(6, .int (nI (npc t n))), (5, .int 0), (4, .ref ka), (3, .ref q35), (2, .ref q1), (0, .ref ra), (1, .int bs)]) hx hb d_PieceReader_makeFilter_46 hl (by decide) rfl (fun ls hl => ?_)
  refine lv_iconst (v := 0) hx hb d_PieceReader_makeFilter_48 (by decide) ?_
  refine lv_istore (lv' := [(7, .int 0), (6, .int (nI (npc t n))), (5, .int 0), (4, .ref ka), (3, .ref q35), (2, .ref q1), (0, .ref ra), (1, .int bs)]) hx hb d_PieceReader_makeFilter_49 hl (by decide) rfl (fun ls hl => ?_)
  have hRg0 := Rg3 h62 h58 h59 n_ra_q1 n_ra_q35 n_q1_q35
  have hBta : but3 g54 ra q1 q35 ta = some (.inr (1, [.ref tr, .int (nI n)])) := but3_of h56 (wne h56 h62 (wd_oo (by decide))) n_ta_q1 n_ta_q35
  have hBtr : but3 g54 ra q1 q35 tr = some (.inl (G.2.1 1, cap, .inl t)) := but3_of h57 (wne h57 h62 wd_ao) n_tr_q1 n_tr_q35
  have hBka : but3 g54 ra q1 q35 ka = some (.inr (1, [.ref kr, .int (nI n)])) := but3_of h61 (Ne.symm n_ra_ka) (Ne.symm n_q1_ka) (Ne.symm n_q35_ka)
  have hBkr : but3 g54 ra q1 q35 kr = some (.inl (G.2.1 1, n, .inl u)) := but3_of h60 (Ne.symm n_ra_kr) (Ne.symm n_q1_kr) (Ne.symm n_q35_kr)
  have hlm0 : ∀ k, k < 4 → (upd (upd (upd (upd (fun _ => 0) (0 : Int32).toNatClampNeg (-2)) (1 : Int32).toNatClampNeg (-2)) (2 : Int32).toNatClampNeg (-2)) (3 : Int32).toNatClampNeg (-2)) k = (-2 : Int32) := by decide
  refine W.widen (k := 4) (n := 187) (by first | decide | (dsimp only; omega)) (by first | decide | (dsimp only; omega)) ?_
  have loop : ∀ (fu : Nat) (i : Nat) (fw gg : Wd) (lm : Nat → Int32) (pf : Nat → Option Nat) (fr en pi li nu rj sh mf me nf ne : Int32) (cs ss : Nat) (ls : Array Slot) (H : Heap) (locs : List Loc), npc t n - i < fu → i ≤ npc t n → Rg 3 (ad3 ra q1 q35) (E3 (.inr (3, [.ref ta, .int fr, .int en, .int pi, .int li, .int nu, .int rj, .int sh, .int mf, .int me, .int nf, .int ne])) (.inl (G.2.1 0, 4, .inl lm)) (.inl (G.2.1 3, (clsU t n (npc t n)).length, .inr (.inr (.inr (.inr pf)))))) gg fw → gle (but3 g54 ra q1 q35) gg → hld f fw ra → (i < npc t n → en + 1 = nI (pst t n i)) → (∀ k, k < 4 → lm k = lmU t n i k) → (∀ j, j < (clsU t n i).length → ∃ pk0, pf j = some pk0 ∧ f pk0 = none ∧ gg pk0 = some (.inr (4, pcl t n ka ((clsU t n i).getD j 0)))) → cs ≤ 4 + i ∧ ss ≤ 187 + 7 * i → ms G.1 (Af f sz) fw s H locs → lv_has ls 8 [(7, .int (nI i)), (6, .int (nI (npc t n))), (5, .int (nI (clsU t n i).length)), (4, .ref ka), (3, .ref q35), (2, .ref q1), (0, .ref ra), (1, .int bs)] → W p l e ({ frames := 9, cells := 96, slots := 830, locals := 197 }) s m ([.ref ra, .int bs] : List Value).toArray below meth c H locs cs ss (MQ below (va_Qq (fun v f' => ∃ (a : Nat) (fr en pi li nu rj sh mf me nf ne : Int32) (lm : Nat → Int32), v = some a ∧ f' ra = some (.inr (3, [.ref ta, .int fr, .int en, .int pi, .int li, .int nu, .int rj, .int sh, .int mf, .int me, .int nf, .int ne])) ∧ hld f f' ra ∧ tf G (nw f f') a bs lm (clsU t n (npc t n)).length (Vt t n) (Sht t n) (Mt t n) ∧ ∀ k, k < 4 → lm k = lmU t n (npc t n) k) (Bw G f sz) (Af f sz)) ([.ref ra, .int bs] : List Value).toArray s 96 830 (Af f sz)) (F0 m 51 ls []) := by
    intro fu
    induction fu with
    | zero => intro i fw gg lm pf fr en pi li nu rj sh mf me nf ne cs ss ls H locs h0; exact absurd h0 (Nat.not_lt_zero _)
    | succ fu ih =>
      intro i fw gg lm pf fr en pi li nu rj sh mf me nf ne cs ss ls H locs hfu hi hRg hgg hold hen hlm hpf hcs hw hl
      refine lv_iload hx hb d_PieceReader_makeFilter_51 (lv_at hl 0 rfl) ?_
      refine lv_iload hx hb d_PieceReader_makeFilter_53 (lv_at hl 1 rfl) ?_
      refine lv_icmp_ge (tgt := 136) hx hb d_PieceReader_makeFilter_55 (by decide) (fun c63 => ?_) (fun c63 => ?_)
      · have hin2 : i = npc t n := by have := (nI_leI (by omega) (by omega)).mp c63; omega
        subst hin2
        refine m_new hc hE hw (fs := [.int 0, .int 0, .int 0, .int 0, .null, .null]) kc_TextFilter nw_PieceReader_46 bl_TextFilter (by first | decide | (dsimp only; omega)) (by first | decide | (dsimp only; omega)) d_PieceReader_makeFilter_136 (fun q64 H u65 hw => ?_)
        have fr_q64 : f q64 = none := hold.fresh (hRg.get 0 (by decide) rfl) u65
        have gn_q64 : gg q64 = none := hRg.non u65
        obtain ⟨f66, ef66⟩ : ∃ z : Wd, z = va_up fw q64 (some (.inr (5, [.int 0, .int 0, .int 0, .int 0, .null, .null]))) := ⟨_, rfl⟩
        replace hw : ms G.1 (Af f sz) f66 s H locs := by rw [ef66]; exact hw
        have hRg67 : Rg 3 (ad3 ra q1 q35) (E3 (.inr (3, [.ref ta, .int fr, .int en, .int pi, .int li, .int nu, .int rj, .int sh, .int mf, .int me, .int nf, .int ne])) (.inl (G.2.1 0, 4, .inl lm)) (.inl (G.2.1 3, (clsU t n (npc t n)).length, .inr (.inr (.inr (.inr pf)))))) (va_up gg q64 (some (.inr (5, [.int 0, .int 0, .int 0, .int 0, .null, .null])))) f66 := by rw [ef66]; exact hRg.new _ u65
        have hold68 : hld f f66 ra := by rw [ef66]; exact hold.new fr_q64
        have hgx_q64 : (va_up gg q64 (some (.inr (5, [.int 0, .int 0, .int 0, .int 0, .null, .null])))) q64 = some (.inr (5, [.int 0, .int 0, .int 0, .int 0, .null, .null])) := va_up_self _ _ _
        refine lv_dup hx hb d_PieceReader_makeFilter_139 rfl ?_
        refine lv_iload_n hx hb d_PieceReader_makeFilter_140 rfl (lv_at hl 7 rfl) ?_
        refine lv_aload_n hx hb d_PieceReader_makeFilter_141 rfl (lv_at hl 5 rfl) ?_
        refine lv_aload_n hx hb d_PieceReader_makeFilter_142 rfl (lv_at hl 4 rfl) ?_
        refine m_callv hw (m_runI (As := [.int bs, .ref q1, .ref q35]) (rest := [.ref q64]) hc hE hw (c_TextFilter_init G l H.size f66 (hRg67.2.2.1 _ _ hgx_q64) h_bs q1 q35) cw_PieceReader_48 ⟨rfl, si_TextFilter_init⟩ rfl hl.1 rfl (Nat.le_of_ble_eq_true rfl) d_PieceReader_makeFilter_143 ⟨rfl, rfl, by decide, by decide⟩ ⟨by first | decide | (dsimp only; omega), by first | decide | (dsimp only; omega)⟩) (fun g70 H locs p69 hw => ?_)
        have hRg71 : Rg 3 (ad3 ra q1 q35) (E3 (.inr (3, [.ref ta, .int fr, .int en, .int pi, .int li, .int nu, .int rj, .int sh, .int mf, .int me, .int nf, .int ne])) (.inl (G.2.1 0, 4, .inl lm)) (.inl (G.2.1 3, (clsU t n (npc t n)).length, .inr (.inr (.inr (.inr pf)))))) (va_up (va_up gg q64 (some (.inr (5, [.int 0, .int 0, .int 0, .int 0, .null, .null])))) q64 (some (.inr (5, [.int 1, .int 1, .int 1, .int bs, .ref q1, .ref q35])))) g70 := by rw [p69]; exact hRg67.upG _ hgx_q64
        have hold72 : hld f g70 ra := by rw [p69]; exact hold68.new fr_q64
        have hgx : gle gg g70 := fun x y hx => hRg71.2.2.1 x y (by rw [up_uu]; exact gle.up gn_q64 x y hx)
        have hka2 := hgx _ _ (hgg _ _ hBka)
        have hkr2 := hgx _ _ (hgg _ _ hBkr)
        have hf9 : tf G (nw f g70) q64 bs lm (clsU t n (npc t n)).length (Vt t n) (Sht t n) (Mt t n) := by
          refine ⟨q1, q35, pf, nw_of fr_q64 (hRg71.2.2.1 _ _ (va_up_self _ _ _)), nw_of fr_q1 (hRg71.get 1 (by decide) rfl), nw_of fr_q35 (hRg71.get 2 (by decide) rfl), hcl, h_bs, fun j hj => ?_⟩
          obtain ⟨pk0, a1, a2, a3⟩ := hpf j hj
          obtain ⟨hcm, hcp⟩ := clsU_mem (t := t) (n := n) _ j hj
          have hps := pst_in (t := t) _ hcm
          have hpx := pnx_in (t := t) hps.1
          have hae : pst t n ((clsU t n (npc t n)).getD j 0) < pnx t n (pst t n ((clsU t n (npc t n)).getD j 0)) := by
            rcases Nat.lt_or_ge (pst t n ((clsU t n (npc t n)).getD j 0)) (pnx t n (pst t n ((clsU t n (npc t n)).getD j 0))) with z | z
            · exact z
            · have : pk t n ((clsU t n (npc t n)).getD j 0) = 0 := pif_t (by omega)
              omega
          have hq0 := q0c_in (t := t) hae
          have hm0 := m0c_in (t := t) hae
          have hnm := nmE_in (t := t) hq0.2.1
          refine ⟨pk0, ka, kr, n, n, u, _, _, _, _, _, _, a1, ⟨nw_of a2 (hgx _ _ a3), ⟨nw_of fr_ka hka2, nw_of fr_kr hkr2, Nat.le_refl _, hn9, fun j2 q2 => by rw [hu j2 q2]; exact hT.2.2.2.2 j2 q2⟩, hq0.2.2.1, by omega, hnm.1, by omega, shp_in _ _ _⟩, rfl, rfl, fun nn nt mn mt => (mat_congr hu hq0.2.2.1 (by omega) hnm.1 (by omega)).symm⟩
        exact m_aret (r := (some q64)) hc hr hlk hw ⟨by first | decide | (dsimp only; omega), by first | decide | (dsimp only; omega)⟩ d_PieceReader_makeFilter_146 ⟨q64, _, _, _, _, _, _, _, _, _, _, _, lm, rfl, hRg71.get 0 (by decide) rfl, hold72, hf9, hlm⟩
      · refine lv_aload_n hx hb d_PieceReader_makeFilter_58 rfl (lv_at hl 6 rfl) ?_
        have hlt : i < npc t n := Nat.not_le.mp (fun z => c63 (nI_le z (by omega)))
        have hps := pst_in (t := t) i hlt
        refine m_callv hw (m_runV (As := []) (rest := []) hc hE hw (c_PieceReader_readNext G l H.size fw (hRg.get 0 (by decide) rfl) ⟨hRg.2.2.1 _ _ (hgg _ _ hBta), hRg.2.2.1 _ _ (hgg _ _ hBtr), hT.2.2⟩ (a := pst t n i) (hen hlt) hps.1) (hRg.get 0 (by decide) rfl) rfl cw_PieceReader_19 se_PieceReader_readNext rfl hl.1 rfl (Nat.le_of_ble_eq_true rfl) d_PieceReader_makeFilter_59 ⟨rfl, rfl, by decide, by decide⟩ ⟨by first | decide | (dsimp only; omega), by first | decide | (dsimp only; omega)⟩) (fun g74 H locs p73 hw => ?_)
        obtain ⟨li2, nu2, rj2, sh2, mf2, me2, nf2, ne2, hfe, hp1, hp2⟩ := p73
        have hRg75 : Rg 3 (ad3 ra q1 q35) (E3 (.inr (3, [.ref ta, .int (nI (pst t n i)), .int (nI (pnx t n (pst t n i))), .int (nI (pk t n i)), .int li2, .int nu2, .int rj2, .int sh2, .int mf2, .int me2, .int nf2, .int ne2])) (.inl (G.2.1 0, 4, .inl lm)) (.inl (G.2.1 3, (clsU t n (npc t n)).length, .inr (.inr (.inr (.inr pf)))))) gg g74 := by rw [hfe]; exact (hRg.up 0 (by decide) _).E (fun k hk => by rcases (show k = 0 ∨ k = 1 ∨ k = 2 by omega) with rfl | rfl | rfl <;> rfl)
        have hold76 : hld f g74 ra := by rw [hfe]; exact hold.at
        have hnx : nI (pnx t n (pst t n i)) + 1 = nI (pst t n (i + 1)) := nI_1 _
        have hpk3 : pk t n i ≤ 3 := pkd_in t _ _
        refine lv_aload_n hx hb d_PieceReader_makeFilter_62 rfl (lv_at hl 6 rfl) ?_
        refine m_get hc hE hw (hRg75.get 0 (by decide) rfl) kc_PieceReader l_PieceReader_22_PieceReader rfl d_PieceReader_makeFilter_63 ?_
        refine lv_iconst (v := 1) hx hb d_PieceReader_makeFilter_66 (by decide) ?_
        refine lv_icmp_ne (tgt := 98) hx hb d_PieceReader_makeFilter_67 (by decide) (fun c77 => ?_) (fun c77 => ?_)
        · have hp_1 : ¬ pk t n i = 1 := fun z => c77 (by rw [z]; rfl)
          refine lv_aload_n hx hb d_PieceReader_makeFilter_98 rfl (lv_at hl 6 rfl) ?_
          refine m_get hc hE hw (hRg75.get 0 (by decide) rfl) kc_PieceReader l_PieceReader_22_PieceReader rfl d_PieceReader_makeFilter_99 ?_
          refine lv_iconst (v := 2) hx hb d_PieceReader_makeFilter_102 (by decide) ?_
          refine lv_icmp_ne (tgt := 130) hx hb d_PieceReader_makeFilter_103 (by decide) (fun c78 => ?_) (fun c78 => ?_)
          · refine lv_iinc (v := (nI (i + 1))) (lv' := [(7, .int (nI (i + 1))), (6, .int (nI (npc t n))), (5, .int (nI (clsU t n i).length)), (4, .ref ka), (3, .ref q35), (2, .ref q1), (0, .ref ra), (1, .int bs)]) hx hb d_PieceReader_makeFilter_130 hl (k := 0) rfl (nI_1 _) (by decide) rfl (fun ls hl => ?_)
            refine lv_goto (tgt := 51) hx hb d_PieceReader_makeFilter_133 (by decide) ?_
            have hpk : ¬ pk t n i = 2 := fun z => c78 (by rw [z]; rfl)
            have hcu : clsU t n (i + 1) = clsU t n i := pif_f hpk
            refine ih (i + 1) g74 gg _ _ _ _ _ _ _ _ _ _ _ _ _ cs ss ls H locs (by omega) (by omega) hRg75 hgg hold76 (fun _ => hnx) (fun k hk => ?_) (fun j hj => ?_) ⟨by first | omega | (dsimp only; omega), by first | omega | (dsimp only; omega)⟩ hw (by rw [hcu]; exact (lv_sub hl [0, 1, 2, 3, 4, 5, 6, 7] rfl))
            · exact (hlm k hk).trans (pif_f (fun z => hp_1 z.1)).symm
            · rw [hcu] at hj ⊢; exact hpf j hj
          · refine lv_iload hx hb d_PieceReader_makeFilter_106 (lv_at hl 2 rfl) ?_
            refine lv_aload_n hx hb d_PieceReader_makeFilter_108 rfl (lv_at hl 4 rfl) ?_
            refine m_alen hc hE hw 3 (hRg75.get 2 (by decide) rfl) rfl d_PieceReader_makeFilter_109 ?_
            refine lv_icmp_ge (tgt := 130) hx hb d_PieceReader_makeFilter_110 (by decide) (fun c79 => ?_) (fun c79 => ?_)
            · have hpk : pk t n i = 2 := (nI_eq (b := 2) (by omega) (by decide)).mp c78
              have hc1 : (clsU t n (i + 1)).length = (clsU t n i).length + 1 := (congrArg List.length (pif_t hpk)).trans (by rw [List.length_append]; rfl)
              have hc2 := clsU_lenle (t := t) (n := n) (i + 1) (npc t n - (i + 1))
              rw [show i + 1 + (npc t n - (i + 1)) = npc t n by omega] at hc2
              exact absurd ((nI_leI (by omega) (by omega)).mp c79) (by omega)
            · refine lv_aload_n hx hb d_PieceReader_makeFilter_113 rfl (lv_at hl 4 rfl) ?_
              refine lv_iload hx hb d_PieceReader_makeFilter_114 (lv_at hl 2 rfl) ?_
              have hpk : pk t n i = 2 := (nI_eq (b := 2) (by omega) (by decide)).mp c78
              obtain ⟨hrj, hsh, hmf, hme, hnf, hne⟩ := hp2 hpk
              subst hrj hsh hmf hme hnf hne
              have hcli := clsU_len t n i
              have hmlt : (clsU t n i).length < (clsU t n (npc t n)).length := Nat.not_le.mp (fun z => c79 (nI_le z (by omega)))
              refine m_new hc hE hw (fs := [.null, .int 0, .int 0, .int 0, .int 0, .int 0, .int 0]) kc_ClassPattern nw_PieceReader_29 bl_ClassPattern (by first | decide | (dsimp only; omega)) (by first | decide | (dsimp only; omega)) d_PieceReader_makeFilter_116 (fun q80 H u81 hw => ?_)
              have fr_q80 : f q80 = none := hold76.fresh (hRg75.get 0 (by decide) rfl) u81
              have gn_q80 : gg q80 = none := hRg75.non u81
              obtain ⟨f82, ef82⟩ : ∃ z : Wd, z = va_up g74 q80 (some (.inr (4, [.null, .int 0, .int 0, .int 0, .int 0, .int 0, .int 0]))) := ⟨_, rfl⟩
              replace hw : ms G.1 (Af f sz) f82 s H locs := by rw [ef82]; exact hw
              have hRg83 : Rg 3 (ad3 ra q1 q35) (E3 (.inr (3, [.ref ta, .int (nI (pst t n i)), .int (nI (pnx t n (pst t n i))), .int (nI (pk t n i)), .int li2, .int nu2, .int (bI (t (pst t n i) = 33)), .int (nI (shp t (q0c t (pst t n i) (pnx t n (pst t n i))) (pnx t n (pst t n i)))), .int (nI (m0c t (pst t n i))), .int (nI (m1c t (pst t n i) (pnx t n (pst t n i)))), .int (nI (q0c t (pst t n i) (pnx t n (pst t n i)))), .int (nI (nmE t (q0c t (pst t n i) (pnx t n (pst t n i))) (pnx t n (pst t n i))))])) (.inl (G.2.1 0, 4, .inl lm)) (.inl (G.2.1 3, (clsU t n (npc t n)).length, .inr (.inr (.inr (.inr pf)))))) (va_up gg q80 (some (.inr (4, [.null, .int 0, .int 0, .int 0, .int 0, .int 0, .int 0])))) f82 := by rw [ef82]; exact hRg75.new _ u81
              have hold84 : hld f f82 ra := by rw [ef82]; exact hold76.new fr_q80
              have hgx_q80 : (va_up gg q80 (some (.inr (4, [.null, .int 0, .int 0, .int 0, .int 0, .int 0, .int 0])))) q80 = some (.inr (4, [.null, .int 0, .int 0, .int 0, .int 0, .int 0, .int 0])) := va_up_self _ _ _
              refine lv_dup hx hb d_PieceReader_makeFilter_119 rfl ?_
              refine lv_aload hx hb d_PieceReader_makeFilter_120 (lv_at hl 3 rfl) ?_
              refine lv_aload_n hx hb d_PieceReader_makeFilter_122 rfl (lv_at hl 6 rfl) ?_
              refine m_callv hw (m_runI (As := [.ref ka, .ref ra]) (rest := [.ref q80, .int (nI (clsU t n i).length), .ref q35]) hc hE hw (c_ClassPattern_init G l H.size f82 (hRg83.2.2.1 _ _ hgx_q80) (hRg83.get 0 (by decide) rfl) ka) cw_PieceReader_43 ⟨rfl, si_ClassPattern_init⟩ rfl hl.1 rfl (Nat.le_of_ble_eq_true rfl) d_PieceReader_makeFilter_123 ⟨rfl, rfl, by decide, by decide⟩ ⟨by first | decide | (dsimp only; omega), by first | decide | (dsimp only; omega)⟩) (fun g86 H locs p85 hw => ?_)
              have hRg87 : Rg 3 (ad3 ra q1 q35) (E3 (.inr (3, [.ref ta, .int (nI (pst t n i)), .int (nI (pnx t n (pst t n i))), .int (nI (pk t n i)), .int li2, .int nu2, .int (bI (t (pst t n i) = 33)), .int (nI (shp t (q0c t (pst t n i) (pnx t n (pst t n i))) (pnx t n (pst t n i)))), .int (nI (m0c t (pst t n i))), .int (nI (m1c t (pst t n i) (pnx t n (pst t n i)))), .int (nI (q0c t (pst t n i) (pnx t n (pst t n i)))), .int (nI (nmE t (q0c t (pst t n i) (pnx t n (pst t n i))) (pnx t n (pst t n i))))])) (.inl (G.2.1 0, 4, .inl lm)) (.inl (G.2.1 3, (clsU t n (npc t n)).length, .inr (.inr (.inr (.inr pf)))))) (va_up (va_up gg q80 (some (.inr (4, [.null, .int 0, .int 0, .int 0, .int 0, .int 0, .int 0])))) q80 (some (.inr (4, [.ref ka, .int (bI (t (pst t n i) = 33)), .int (nI (shp t (q0c t (pst t n i) (pnx t n (pst t n i))) (pnx t n (pst t n i)))), .int (nI (m0c t (pst t n i))), .int (nI (m1c t (pst t n i) (pnx t n (pst t n i)))), .int (nI (q0c t (pst t n i) (pnx t n (pst t n i)))), .int (nI (nmE t (q0c t (pst t n i) (pnx t n (pst t n i))) (pnx t n (pst t n i))))])))) g86 := by rw [p85]; exact hRg83.upG _ hgx_q80
              have hold88 : hld f g86 ra := by rw [p85]; exact hold84.new fr_q80
              have hgy_q80 : (va_up (va_up gg q80 (some (.inr (4, [.null, .int 0, .int 0, .int 0, .int 0, .int 0, .int 0])))) q80 (some (.inr (4, [.ref ka, .int (bI (t (pst t n i) = 33)), .int (nI (shp t (q0c t (pst t n i) (pnx t n (pst t n i))) (pnx t n (pst t n i)))), .int (nI (m0c t (pst t n i))), .int (nI (m1c t (pst t n i) (pnx t n (pst t n i)))), .int (nI (q0c t (pst t n i) (pnx t n (pst t n i)))), .int (nI (nmE t (q0c t (pst t n i) (pnx t n (pst t n i))) (pnx t n (pst t n i))))])))) q80 = some (.inr (4, [.ref ka, .int (bI (t (pst t n i) = 33)), .int (nI (shp t (q0c t (pst t n i) (pnx t n (pst t n i))) (pnx t n (pst t n i)))), .int (nI (m0c t (pst t n i))), .int (nI (m1c t (pst t n i) (pnx t n (pst t n i)))), .int (nI (q0c t (pst t n i) (pnx t n (pst t n i)))), .int (nI (nmE t (q0c t (pst t n i) (pnx t n (pst t n i))) (pnx t n (pst t n i))))])) := va_up_self _ _ _
              refine m_aast hc hE hw 3 (hRg87.get 2 (by decide) rfl) rfl (hRg87.2.2.1 _ _ hgy_q80) rfl (Or.inl rfl) (vp_in_nI hmlt (by omega)) d_PieceReader_makeFilter_126 (fun H locs hw => ?_)
              obtain ⟨f89, ef89⟩ : ∃ z : Wd, z = va_up g86 q35 (some (.inl (G.2.1 3, (clsU t n (npc t n)).length, .inr (.inr (.inr (.inr (va_up pf (nI (clsU t n i).length).toNatClampNeg (some q80)))))))) := ⟨_, rfl⟩
              replace hw : ms G.1 (Af f sz) f89 s H locs := by rw [ef89]; exact hw
              have hRg90 : Rg 3 (ad3 ra q1 q35) (E3 (.inr (3, [.ref ta, .int (nI (pst t n i)), .int (nI (pnx t n (pst t n i))), .int (nI (pk t n i)), .int li2, .int nu2, .int (bI (t (pst t n i) = 33)), .int (nI (shp t (q0c t (pst t n i) (pnx t n (pst t n i))) (pnx t n (pst t n i)))), .int (nI (m0c t (pst t n i))), .int (nI (m1c t (pst t n i) (pnx t n (pst t n i)))), .int (nI (q0c t (pst t n i) (pnx t n (pst t n i)))), .int (nI (nmE t (q0c t (pst t n i) (pnx t n (pst t n i))) (pnx t n (pst t n i))))])) (.inl (G.2.1 0, 4, .inl lm)) (.inl (G.2.1 3, (clsU t n (npc t n)).length, .inr (.inr (.inr (.inr (va_up pf (nI (clsU t n i).length).toNatClampNeg (some q80)))))))) (va_up (va_up gg q80 (some (.inr (4, [.null, .int 0, .int 0, .int 0, .int 0, .int 0, .int 0])))) q80 (some (.inr (4, [.ref ka, .int (bI (t (pst t n i) = 33)), .int (nI (shp t (q0c t (pst t n i) (pnx t n (pst t n i))) (pnx t n (pst t n i)))), .int (nI (m0c t (pst t n i))), .int (nI (m1c t (pst t n i) (pnx t n (pst t n i)))), .int (nI (q0c t (pst t n i) (pnx t n (pst t n i)))), .int (nI (nmE t (q0c t (pst t n i) (pnx t n (pst t n i))) (pnx t n (pst t n i))))])))) f89 := by rw [ef89]; exact (hRg87.up 2 (by decide) _).E (fun k hk => by rcases (show k = 0 ∨ k = 1 ∨ k = 2 by omega) with rfl | rfl | rfl <;> rfl)
              have hold91 : hld f f89 ra := by rw [ef89]; exact hold88.new fr_q35
              refine lv_iinc (v := (nI ((clsU t n i).length + 1))) (lv' := [(5, .int (nI ((clsU t n i).length + 1))), (7, .int (nI i)), (6, .int (nI (npc t n))), (4, .ref ka), (3, .ref q35), (2, .ref q1), (0, .ref ra), (1, .int bs)]) hx hb d_PieceReader_makeFilter_127 hl (k := 2) rfl (nI_1 _) (by decide) rfl (fun ls hl => ?_)
              refine lv_iinc (v := (nI (i + 1))) (lv' := [(7, .int (nI (i + 1))), (5, .int (nI ((clsU t n i).length + 1))), (6, .int (nI (npc t n))), (4, .ref ka), (3, .ref q35), (2, .ref q1), (0, .ref ra), (1, .int bs)]) hx hb d_PieceReader_makeFilter_130 hl (k := 1) rfl (nI_1 _) (by decide) rfl (fun ls hl => ?_)
              refine lv_goto (tgt := 51) hx hb d_PieceReader_makeFilter_133 (by decide) ?_
              have hcu : clsU t n (i + 1) = clsU t n i ++ [i] := pif_t hpk
              have hcl2 : (clsU t n (i + 1)).length = (clsU t n i).length + 1 := by rw [hcu, List.length_append]; rfl
              refine ih (i + 1) f89 (va_up (va_up gg q80 (some (.inr (4, [.null, .int 0, .int 0, .int 0, .int 0, .int 0, .int 0])))) q80 (some (.inr (4, [.ref ka, .int (bI (t (pst t n i) = 33)), .int (nI (shp t (q0c t (pst t n i) (pnx t n (pst t n i))) (pnx t n (pst t n i)))), .int (nI (m0c t (pst t n i))), .int (nI (m1c t (pst t n i) (pnx t n (pst t n i)))), .int (nI (q0c t (pst t n i) (pnx t n (pst t n i)))), .int (nI (nmE t (q0c t (pst t n i) (pnx t n (pst t n i))) (pnx t n (pst t n i))))])))) _ _ _ _ _ _ _ _ _ _ _ _ _ _ _ ls H locs (by omega) (by omega) hRg90 (hgg.tr (fun x y hx => by rw [up_uu]; exact gle.up gn_q80 x y hx)) hold91 (fun _ => hnx) (fun k hk => ?_) (fun j hj => ?_) ⟨by dsimp only; omega, by dsimp only; omega⟩ hw (by rw [hcl2]; exact (lv_sub hl [0, 2, 1, 3, 4, 5, 6, 7] rfl))
              · exact (hlm k hk).trans (pif_f (fun z => hp_1 z.1)).symm
              · rw [nI_clamp (by omega)]
                rcases Nat.lt_or_ge j (clsU t n i).length with hq1 | hq1
                · obtain ⟨pk0, a1, a2, a3⟩ := hpf j hq1
                  refine ⟨pk0, by rw [va_up_ne _ _ (by omega)]; exact a1, a2, ?_⟩
                  rw [(clsU_grow hq1).1, up_uu, va_up_ne _ _ (wnf a3 gn_q80)]; exact a3
                · have hj2 : j = (clsU t n i).length := by omega
                  have hgd : (clsU t n (i + 1)).getD j 0 = i := by rw [hcu, List.getD_eq_getElem?_getD, List.getElem?_append_right hq1, hj2, Nat.sub_self]; rfl
                  refine ⟨q80, by rw [hj2, va_up_self], fr_q80, ?_⟩
                  rw [hgd, va_up_self]; rfl
        · refine lv_aload_n hx hb d_PieceReader_makeFilter_70 rfl (lv_at hl 6 rfl) ?_
          refine m_get hc hE hw (hRg75.get 0 (by decide) rfl) kc_PieceReader l_PieceReader_37_PieceReader rfl d_PieceReader_makeFilter_71 ?_
          refine lv_if_lt (tgt := 98) hx hb d_PieceReader_makeFilter_74 (by decide) (fun c92 => ?_) (fun c92 => ?_)
          · have hpk : pk t n i = 1 := (nI_eq (b := 1) (by omega) (by decide)).mp c77
            obtain ⟨k0, hk0, hkl⟩ := pk_lim hpk
            have hli : li2 = nI k0 := (hp1 hpk).1.trans hkl
            exact absurd c92 (by rw [hli]; exact nI_pos (by omega))
          · refine lv_aload_n hx hb d_PieceReader_makeFilter_77 rfl (lv_at hl 6 rfl) ?_
            refine m_get hc hE hw (hRg75.get 0 (by decide) rfl) kc_PieceReader l_PieceReader_37_PieceReader rfl d_PieceReader_makeFilter_78 ?_
            refine lv_iconst (v := 4) hx hb d_PieceReader_makeFilter_81 (by decide) ?_
            refine lv_icmp_ge (tgt := 98) hx hb d_PieceReader_makeFilter_82 (by decide) (fun c93 => ?_) (fun c93 => ?_)
            · have hpk : pk t n i = 1 := (nI_eq (b := 1) (by omega) (by decide)).mp c77
              obtain ⟨k0, hk0, hkl⟩ := pk_lim hpk
              have hli : li2 = nI k0 := (hp1 hpk).1.trans hkl
              exact absurd c93 (by rw [hli]; exact nI_ge (b := 4) hk0 (by decide))
            · refine lv_aload_n hx hb d_PieceReader_makeFilter_85 rfl (lv_at hl 5 rfl) ?_
              refine lv_aload_n hx hb d_PieceReader_makeFilter_86 rfl (lv_at hl 6 rfl) ?_
              refine m_get hc hE hw (hRg75.get 0 (by decide) rfl) kc_PieceReader l_PieceReader_37_PieceReader rfl d_PieceReader_makeFilter_87 ?_
              refine lv_aload_n hx hb d_PieceReader_makeFilter_90 rfl (lv_at hl 6 rfl) ?_
              refine m_get hc hE hw (hRg75.get 0 (by decide) rfl) kc_PieceReader l_PieceReader_40_PieceReader rfl d_PieceReader_makeFilter_91 ?_
              refine m_iast hc hE hw 0 (hRg75.get 1 (by decide) rfl) rfl (vin (n := 4) c92 c93 (Nat.le_refl 4) (by decide)) d_PieceReader_makeFilter_94 (fun H locs hw => ?_)
              obtain ⟨f94, ef94⟩ : ∃ z : Wd, z = va_up g74 q1 (some (.inl (G.2.1 0, 4, .inl (upd lm li2.toNatClampNeg nu2)))) := ⟨_, rfl⟩
              replace hw : ms G.1 (Af f sz) f94 s H locs := by rw [ef94]; exact hw
              have hRg95 : Rg 3 (ad3 ra q1 q35) (E3 (.inr (3, [.ref ta, .int (nI (pst t n i)), .int (nI (pnx t n (pst t n i))), .int (nI (pk t n i)), .int li2, .int nu2, .int rj2, .int sh2, .int mf2, .int me2, .int nf2, .int ne2])) (.inl (G.2.1 0, 4, .inl (upd lm li2.toNatClampNeg nu2))) (.inl (G.2.1 3, (clsU t n (npc t n)).length, .inr (.inr (.inr (.inr pf)))))) gg f94 := by rw [ef94]; exact (hRg75.up 1 (by decide) _).E (fun k hk => by rcases (show k = 0 ∨ k = 1 ∨ k = 2 by omega) with rfl | rfl | rfl <;> rfl)
              have hold96 : hld f f94 ra := by rw [ef94]; exact hold76.new fr_q1
              refine lv_goto (tgt := 130) hx hb d_PieceReader_makeFilter_95 (by decide) ?_
              refine lv_iinc (v := (nI (i + 1))) (lv' := [(7, .int (nI (i + 1))), (6, .int (nI (npc t n))), (5, .int (nI (clsU t n i).length)), (4, .ref ka), (3, .ref q35), (2, .ref q1), (0, .ref ra), (1, .int bs)]) hx hb d_PieceReader_makeFilter_130 hl (k := 0) rfl (nI_1 _) (by decide) rfl (fun ls hl => ?_)
              refine lv_goto (tgt := 51) hx hb d_PieceReader_makeFilter_133 (by decide) ?_
              have hpk : pk t n i = 1 := (nI_eq (b := 1) (by omega) (by decide)).mp c77
              have hcu : clsU t n (i + 1) = clsU t n i := pif_f (by omega)
              obtain ⟨k0, hk0, hkl⟩ := pk_lim hpk
              have hli : li2 = nI k0 := (hp1 hpk).1.trans hkl
              refine ih (i + 1) f94 gg _ _ _ _ _ _ _ _ _ _ _ _ _ cs ss ls H locs (by omega) (by omega) hRg95 hgg hold96 (fun _ => hnx) (fun k hk => ?_) (fun j hj => ?_) ⟨by first | omega | (dsimp only; omega), by first | omega | (dsimp only; omega)⟩ hw (by rw [hcu]; exact (lv_sub hl [0, 1, 2, 3, 4, 5, 6, 7] rfl))
              · rw [hli, nI_clamp (by omega)]
                by_cases hkk : k = k0
                · subst hkk; rw [pk_us]; exact (hp1 hpk).2.trans (pif_t ⟨hpk, hkl⟩).symm
                · rw [pk_un hkk]; exact (hlm k hk).trans (pif_f (fun z => hkk ((nI_eq (by omega) (by omega)).mp (z.2.symm.trans hkl)))).symm
              · rw [hcu] at hj ⊢; exact hpf j hj
  exact loop (npc t n + 1) 0 g54 _ _ _ _ _ _ _ _ _ _ _ _ _ _ 4 187 ls H locs (by omega) (Nat.zero_le _) hRg0 gle.rf hold_g54 (fun _ => (by decide : (-1 : Int32) + 1 = nI 0)) hlm0 (fun j hj => absurd hj (Nat.not_lt_zero _)) ⟨by omega, by omega⟩ hw (lv_sub hl [0, 1, 2, 3, 4, 5, 6, 7] rfl)
