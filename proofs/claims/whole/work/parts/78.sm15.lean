/-! links of the pools, as the walks ask for them -/
theorem lf_SM_13_SM : 3 < 38 ∧ Cond.fieldLink "StreamFiltersModel" 13 "StreamFiltersModel" (F_SM 3).2.1 (F_SM 3).2.2.1 ∈ TB := ⟨by decide, (tb 617 (by decide +kernel) rfl)⟩
theorem lf_SM_16_SM : 5 < 38 ∧ Cond.fieldLink "StreamFiltersModel" 16 "StreamFiltersModel" (F_SM 5).2.1 (F_SM 5).2.2.1 ∈ TB := ⟨by decide, (tb 619 (by decide +kernel) rfl)⟩
theorem lf_SM_19_SM : 7 < 38 ∧ Cond.fieldLink "StreamFiltersModel" 19 "StreamFiltersModel" (F_SM 7).2.1 (F_SM 7).2.2.1 ∈ TB := ⟨by decide, (tb 621 (by decide +kernel) rfl)⟩
theorem lf_SM_22_SM : 8 < 38 ∧ Cond.fieldLink "StreamFiltersModel" 22 "StreamFiltersModel" (F_SM 8).2.1 (F_SM 8).2.2.1 ∈ TB := ⟨by decide, (tb 622 (by decide +kernel) rfl)⟩
theorem lf_SM_25_SM : 9 < 38 ∧ Cond.fieldLink "StreamFiltersModel" 25 "StreamFiltersModel" (F_SM 9).2.1 (F_SM 9).2.2.1 ∈ TB := ⟨by decide, (tb 623 (by decide +kernel) rfl)⟩
theorem lf_SM_28_SM : 10 < 38 ∧ Cond.fieldLink "StreamFiltersModel" 28 "StreamFiltersModel" (F_SM 10).2.1 (F_SM 10).2.2.1 ∈ TB := ⟨by decide, (tb 624 (by decide +kernel) rfl)⟩
theorem lf_SM_31_SM : 11 < 38 ∧ Cond.fieldLink "StreamFiltersModel" 31 "StreamFiltersModel" (F_SM 11).2.1 (F_SM 11).2.2.1 ∈ TB := ⟨by decide, (tb 625 (by decide +kernel) rfl)⟩
theorem lf_SM_34_SM : 12 < 38 ∧ Cond.fieldLink "StreamFiltersModel" 34 "StreamFiltersModel" (F_SM 12).2.1 (F_SM 12).2.2.1 ∈ TB := ⟨by decide, (tb 626 (by decide +kernel) rfl)⟩
theorem lf_SM_37_SM : 13 < 38 ∧ Cond.fieldLink "StreamFiltersModel" 37 "StreamFiltersModel" (F_SM 13).2.1 (F_SM 13).2.2.1 ∈ TB := ⟨by decide, (tb 627 (by decide +kernel) rfl)⟩
theorem lf_SM_40_SM : 14 < 38 ∧ Cond.fieldLink "StreamFiltersModel" 40 "StreamFiltersModel" (F_SM 14).2.1 (F_SM 14).2.2.1 ∈ TB := ⟨by decide, (tb 628 (by decide +kernel) rfl)⟩
theorem lf_SM_43_SM : 16 < 38 ∧ Cond.fieldLink "StreamFiltersModel" 43 "StreamFiltersModel" (F_SM 16).2.1 (F_SM 16).2.2.1 ∈ TB := ⟨by decide, (tb 630 (by decide +kernel) rfl)⟩
theorem lf_SM_50_SM : 33 < 38 ∧ Cond.fieldLink "StreamFiltersModel" 50 "StreamFiltersModel" (F_SM 33).2.1 (F_SM 33).2.2.1 ∈ TB := ⟨by decide, (tb 647 (by decide +kernel) rfl)⟩
theorem lf_SM_53_SM : 34 < 38 ∧ Cond.fieldLink "StreamFiltersModel" 53 "StreamFiltersModel" (F_SM 34).2.1 (F_SM 34).2.2.1 ∈ TB := ⟨by decide, (tb 648 (by decide +kernel) rfl)⟩
theorem lf_SM_56_SM : 35 < 38 ∧ Cond.fieldLink "StreamFiltersModel" 56 "StreamFiltersModel" (F_SM 35).2.1 (F_SM 35).2.2.1 ∈ TB := ⟨by decide, (tb 649 (by decide +kernel) rfl)⟩
theorem lf_SM_7_SM : 0 < 38 ∧ Cond.fieldLink "StreamFiltersModel" 7 "StreamFiltersModel" (F_SM 0).2.1 (F_SM 0).2.2.1 ∈ TB := ⟨by decide, (tb 614 (by decide +kernel) rfl)⟩
theorem oi_SM_1 : Cond.methodLink "StreamFiltersModel" 1 Lib.objectInit ∈ TB := (tb 613 (by decide +kernel) rfl)
/-! decode rows -/
theorem d_SM_init_0 : decode b_SM_init 0 = .ok (.aload_n 0, 1) := by decide +kernel
theorem d_SM_init_1 : decode b_SM_init 1 = .ok (.invokespecial 1, 3) := by decide +kernel
theorem d_SM_init_4 : decode b_SM_init 4 = .ok (.aload_n 0, 1) := by decide +kernel
theorem d_SM_init_5 : decode b_SM_init 5 = .ok (.sipush 4200, 3) := by decide +kernel
theorem d_SM_init_8 : decode b_SM_init 8 = .ok (.newarray .int, 2) := by decide +kernel
theorem d_SM_init_10 : decode b_SM_init 10 = .ok (.putfield 7, 3) := by decide +kernel
theorem d_SM_init_13 : decode b_SM_init 13 = .ok (.aload_n 0, 1) := by decide +kernel
theorem d_SM_init_14 : decode b_SM_init 14 = .ok (.bipush 40, 2) := by decide +kernel
theorem d_SM_init_16 : decode b_SM_init 16 = .ok (.newarray .int, 2) := by decide +kernel
theorem d_SM_init_18 : decode b_SM_init 18 = .ok (.putfield 13, 3) := by decide +kernel
theorem d_SM_init_21 : decode b_SM_init 21 = .ok (.aload_n 0, 1) := by decide +kernel
theorem d_SM_init_22 : decode b_SM_init 22 = .ok (.bipush 12, 2) := by decide +kernel
theorem d_SM_init_24 : decode b_SM_init 24 = .ok (.newarray .int, 2) := by decide +kernel
theorem d_SM_init_26 : decode b_SM_init 26 = .ok (.putfield 16, 3) := by decide +kernel
theorem d_SM_init_29 : decode b_SM_init 29 = .ok (.aload_n 0, 1) := by decide +kernel
theorem d_SM_init_30 : decode b_SM_init 30 = .ok (.sipush 520, 3) := by decide +kernel
theorem d_SM_init_33 : decode b_SM_init 33 = .ok (.newarray .int, 2) := by decide +kernel
theorem d_SM_init_35 : decode b_SM_init 35 = .ok (.putfield 19, 3) := by decide +kernel
theorem d_SM_init_38 : decode b_SM_init 38 = .ok (.aload_n 0, 1) := by decide +kernel
theorem d_SM_init_39 : decode b_SM_init 39 = .ok (.sipush 520, 3) := by decide +kernel
theorem d_SM_init_42 : decode b_SM_init 42 = .ok (.newarray .int, 2) := by decide +kernel
theorem d_SM_init_44 : decode b_SM_init 44 = .ok (.putfield 22, 3) := by decide +kernel
theorem d_SM_init_47 : decode b_SM_init 47 = .ok (.aload_n 0, 1) := by decide +kernel
theorem d_SM_init_48 : decode b_SM_init 48 = .ok (.sipush 520, 3) := by decide +kernel
theorem d_SM_init_51 : decode b_SM_init 51 = .ok (.newarray .int, 2) := by decide +kernel
theorem d_SM_init_53 : decode b_SM_init 53 = .ok (.putfield 25, 3) := by decide +kernel
theorem d_SM_init_56 : decode b_SM_init 56 = .ok (.aload_n 0, 1) := by decide +kernel
theorem d_SM_init_57 : decode b_SM_init 57 = .ok (.sipush 520, 3) := by decide +kernel
theorem d_SM_init_60 : decode b_SM_init 60 = .ok (.newarray .int, 2) := by decide +kernel
theorem d_SM_init_62 : decode b_SM_init 62 = .ok (.putfield 28, 3) := by decide +kernel
theorem d_SM_init_65 : decode b_SM_init 65 = .ok (.aload_n 0, 1) := by decide +kernel
theorem d_SM_init_66 : decode b_SM_init 66 = .ok (.sipush 520, 3) := by decide +kernel
theorem d_SM_init_69 : decode b_SM_init 69 = .ok (.newarray .int, 2) := by decide +kernel
theorem d_SM_init_71 : decode b_SM_init 71 = .ok (.putfield 31, 3) := by decide +kernel
theorem d_SM_init_74 : decode b_SM_init 74 = .ok (.aload_n 0, 1) := by decide +kernel
theorem d_SM_init_75 : decode b_SM_init 75 = .ok (.sipush 520, 3) := by decide +kernel
theorem d_SM_init_78 : decode b_SM_init 78 = .ok (.newarray .int, 2) := by decide +kernel
theorem d_SM_init_80 : decode b_SM_init 80 = .ok (.putfield 34, 3) := by decide +kernel
theorem d_SM_init_83 : decode b_SM_init 83 = .ok (.aload_n 0, 1) := by decide +kernel
theorem d_SM_init_84 : decode b_SM_init 84 = .ok (.sipush 520, 3) := by decide +kernel
theorem d_SM_init_87 : decode b_SM_init 87 = .ok (.newarray .int, 2) := by decide +kernel
theorem d_SM_init_89 : decode b_SM_init 89 = .ok (.putfield 37, 3) := by decide +kernel
theorem d_SM_init_92 : decode b_SM_init 92 = .ok (.aload_n 0, 1) := by decide +kernel
theorem d_SM_init_93 : decode b_SM_init 93 = .ok (.sipush 520, 3) := by decide +kernel
theorem d_SM_init_96 : decode b_SM_init 96 = .ok (.newarray .int, 2) := by decide +kernel
theorem d_SM_init_98 : decode b_SM_init 98 = .ok (.putfield 40, 3) := by decide +kernel
theorem d_SM_init_101 : decode b_SM_init 101 = .ok (.aload_n 0, 1) := by decide +kernel
theorem d_SM_init_102 : decode b_SM_init 102 = .ok (.bipush 10, 2) := by decide +kernel
theorem d_SM_init_104 : decode b_SM_init 104 = .ok (.newarray .int, 2) := by decide +kernel
theorem d_SM_init_106 : decode b_SM_init 106 = .ok (.putfield 43, 3) := by decide +kernel
theorem d_SM_init_109 : decode b_SM_init 109 = .ok (.aload_n 0, 1) := by decide +kernel
theorem d_SM_init_110 : decode b_SM_init 110 = .ok (.bipush (-2), 2) := by decide +kernel
theorem d_SM_init_112 : decode b_SM_init 112 = .ok (.putfield 46, 3) := by decide +kernel
theorem d_SM_init_115 : decode b_SM_init 115 = .ok (.aload_n 0, 1) := by decide +kernel
theorem d_SM_init_116 : decode b_SM_init 116 = .ok (.bipush 20, 2) := by decide +kernel
theorem d_SM_init_118 : decode b_SM_init 118 = .ok (.newarray .int, 2) := by decide +kernel
theorem d_SM_init_120 : decode b_SM_init 120 = .ok (.putfield 50, 3) := by decide +kernel
theorem d_SM_init_123 : decode b_SM_init 123 = .ok (.aload_n 0, 1) := by decide +kernel
theorem d_SM_init_124 : decode b_SM_init 124 = .ok (.bipush 20, 2) := by decide +kernel
theorem d_SM_init_126 : decode b_SM_init 126 = .ok (.newarray .int, 2) := by decide +kernel
theorem d_SM_init_128 : decode b_SM_init 128 = .ok (.putfield 53, 3) := by decide +kernel
theorem d_SM_init_131 : decode b_SM_init 131 = .ok (.aload_n 0, 1) := by decide +kernel
theorem d_SM_init_132 : decode b_SM_init 132 = .ok (.bipush 20, 2) := by decide +kernel
theorem d_SM_init_134 : decode b_SM_init 134 = .ok (.newarray .int, 2) := by decide +kernel
theorem d_SM_init_136 : decode b_SM_init 136 = .ok (.putfield 56, 3) := by decide +kernel
theorem d_SM_init_139 : decode b_SM_init 139 = .ok (.iconst 0, 1) := by decide +kernel
theorem d_SM_init_140 : decode b_SM_init 140 = .ok (.istore_n 1, 1) := by decide +kernel
theorem d_SM_init_141 : decode b_SM_init 141 = .ok (.iload_n 1, 1) := by decide +kernel
theorem d_SM_init_142 : decode b_SM_init 142 = .ok (.bipush 10, 2) := by decide +kernel
theorem d_SM_init_144 : decode b_SM_init 144 = .ok (.if_icmp .ge 16, 3) := by decide +kernel
theorem d_SM_init_147 : decode b_SM_init 147 = .ok (.aload_n 0, 1) := by decide +kernel
theorem d_SM_init_148 : decode b_SM_init 148 = .ok (.getfield 43, 3) := by decide +kernel
theorem d_SM_init_151 : decode b_SM_init 151 = .ok (.iload_n 1, 1) := by decide +kernel
theorem d_SM_init_152 : decode b_SM_init 152 = .ok (.iconst (-1), 1) := by decide +kernel
theorem d_SM_init_153 : decode b_SM_init 153 = .ok (.iastore, 1) := by decide +kernel
theorem d_SM_init_154 : decode b_SM_init 154 = .ok (.iinc 1 1, 3) := by decide +kernel
theorem d_SM_init_157 : decode b_SM_init 157 = .ok (.goto (-16), 3) := by decide +kernel
theorem d_SM_init_160 : decode b_SM_init 160 = .ok (.return_, 1) := by decide +kernel
set_option maxHeartbeats 4000000 in
set_option maxRecDepth 100000 in
/-- StreamFiltersModel.<init> -/
theorem c_SM_init (G : GG) (l : Launch) (sz : Nat) (f : Wd) {ad : Nat → Nat} {E : Nat → va_E} {g : Wd} {mo : Nat} (ha : mo = ad 9) (hR : Rg 10 ad E g f) (hE9 : E 9 = .inr (10, [.null, .int 0, .int 0, .null, .int 0, .null, .int 0, .null, .null, .null, .null, .null, .null, .null, .null, .int 0, .null, .int 0, .int 0, .int 0, .int 0, .int 0, .int 0, .int 0, .int 0, .int 0, .int 0, .int 0, .int 0, .int 0, .int 0, .int 0, .int 0, .null, .null, .null, .int 0, .int 0])) : Cv G l y_SM_init b_SM_init 2 none ({ frames := 1, cells := 15, slots := 8482, locals := 20 }) sz f [.ref mo] (fun f' => ∃ (ad' : Nat → Nat) (E' : Nat → va_E) (sc : Nat → Int32) (av : Nat → Nat → Int32), Rg 25 ad' E' g f' ∧ (∀ k, k < 10 → ad' k = ad k) ∧ (∀ k, k < 9 → E' k = E k) ∧ E' 9 = MO (fun k => ad' (10 + k)) sc ∧ (∀ k, k < 15 → E' (10 + k) = .inl (G.2.1 0, mlen k, .inl (av k))) ∧ MSb 0 0 0 sc av 0 (fun _ => 0) 0 (fun _ => 0) 0 (fun _ => 0) 0 0 0 0 0 (-2) (fun _ => none)) := by
  refine ct_of (by decide) (Nat.le_of_ble_eq_true rfl) ?_
  intro p e s m below meth c ls H locs hEn
  obtain ⟨hc, hr, hlk, hin, hE, hw, hsz, hl⟩ := hEn
  have hx := hc.1
  have hb := hc.2.1
  have hl : lv_has ls 2 [(0, .ref mo)] := hl
  have hm0 : f mo = some (.inr (10, [.null, .int 0, .int 0, .null, .int 0, .null, .int 0, .null, .null, .null, .null, .null, .null, .null, .null, .int 0, .null, .int 0, .int 0, .int 0, .int 0, .int 0, .int 0, .int 0, .int 0, .int 0, .int 0, .int 0, .int 0, .int 0, .int 0, .int 0, .int 0, .null, .null, .null, .int 0, .int 0])) := by rw [ha]; exact hR.get 9 (by decide) hE9
  refine lv_aload_n hx hb d_SM_init_0 rfl (lv_at hl 0 rfl) ?_
  refine m_objInit hc oi_SM_1 oi_w hl.1 d_SM_init_1 (Nat.le_of_ble_eq_true rfl) (Nat.le_of_ble_eq_true rfl) ?_
  refine lv_aload_n hx hb d_SM_init_4 rfl (lv_at hl 0 rfl) ?_
  refine lv_sipush (v := 4200) hx hb d_SM_init_5 (by decide) ?_
  refine m_newa hc hE hw (N' := 4200) (a0 := (4200, .inl (fun _ => 0))) ar_int rfl 0 rfl (fun _ => rfl) (by decide) (by decide) (by decide) (by first | decide | (dsimp only; omega)) (by first | decide | (dsimp only; omega)) d_SM_init_8 (fun q31 H u32 hw => ?_)
  obtain ⟨f33, ef33⟩ : ∃ z : Wd, z = va_up f q31 (some (.inl (G.2.1 0, 4200, .inl (fun _ => 0)))) := ⟨_, rfl⟩
  replace hw : ms G.1 (Af f sz) f33 s H locs := by rw [ef33]; exact hw
  have n_mo_q31 : mo ≠ q31 := wnf hm0 u32
  have h34 : f33 mo = some (.inr (10, [.null, .int 0, .int 0, .null, .int 0, .null, .int 0, .null, .null, .null, .null, .null, .null, .null, .null, .int 0, .null, .int 0, .int 0, .int 0, .int 0, .int 0, .int 0, .int 0, .int 0, .int 0, .int 0, .int 0, .int 0, .int 0, .int 0, .int 0, .int 0, .null, .null, .null, .int 0, .int 0])) := by rw [ef33, va_up_ne _ _ n_mo_q31]; exact hm0
  have h35 : f33 q31 = some (.inl (G.2.1 0, 4200, .inl (fun _ => 0))) := by rw [ef33, va_up_self]
  obtain ⟨E36, eE36⟩ : ∃ z, z = va_up E 10 (.inl (G.2.1 0, 4200, .inl (fun _ => 0))) := ⟨_, rfl⟩
  have hR37 : Rg 11 (va_up ad 10 q31) E36 g f33 := by rw [ef33, eE36]; exact hR.add _ u32
  refine m_putF hc hE hw hin h34 kc_SM lf_SM_7_SM rfl rfl ds_SM_0 rfl rfl (Nat.le_of_ble_eq_true rfl) d_SM_init_10 (fun H locs hw => ?_)
  obtain ⟨f38, ef38⟩ : ∃ z : Wd, z = va_up f33 mo (some (.inr (10, [.ref q31, .int 0, .int 0, .null, .int 0, .null, .int 0, .null, .null, .null, .null, .null, .null, .null, .null, .int 0, .null, .int 0, .int 0, .int 0, .int 0, .int 0, .int 0, .int 0, .int 0, .int 0, .int 0, .int 0, .int 0, .int 0, .int 0, .int 0, .int 0, .null, .null, .null, .int 0, .int 0]))) := ⟨_, rfl⟩
  replace hw : ms G.1 (Af f sz) f38 s H locs := by rw [ef38]; exact hw
  have h39 : f38 mo = some (.inr (10, [.ref q31, .int 0, .int 0, .null, .int 0, .null, .int 0, .null, .null, .null, .null, .null, .null, .null, .null, .int 0, .null, .int 0, .int 0, .int 0, .int 0, .int 0, .int 0, .int 0, .int 0, .int 0, .int 0, .int 0, .int 0, .int 0, .int 0, .int 0, .int 0, .null, .null, .null, .int 0, .int 0])) := by rw [ef38, va_up_self]
  obtain ⟨E40, eE40⟩ : ∃ z, z = va_up E36 9 (.inr (10, [.ref q31, .int 0, .int 0, .null, .int 0, .null, .int 0, .null, .null, .null, .null, .null, .null, .null, .null, .int 0, .null, .int 0, .int 0, .int 0, .int 0, .int 0, .int 0, .int 0, .int 0, .int 0, .int 0, .int 0, .int 0, .int 0, .int 0, .int 0, .int 0, .null, .null, .null, .int 0, .int 0])) := ⟨_, rfl⟩
  have hR41 : Rg 11 (va_up ad 10 q31) E40 g f38 := by rw [ef38, eE40, ha]; exact hR37.up 9 (by decide) _
  refine lv_aload_n hx hb d_SM_init_13 rfl (lv_at hl 0 rfl) ?_
  refine lv_bipush (v := 40) hx hb d_SM_init_14 (by decide) ?_
  refine m_newa hc hE hw (N' := 40) (a0 := (40, .inl (fun _ => 0))) ar_int rfl 0 rfl (fun _ => rfl) (by decide) (by decide) (by decide) (by first | decide | (dsimp only; omega)) (by first | decide | (dsimp only; omega)) d_SM_init_16 (fun q42 H u43 hw => ?_)
  obtain ⟨f44, ef44⟩ : ∃ z : Wd, z = va_up f38 q42 (some (.inl (G.2.1 0, 40, .inl (fun _ => 0)))) := ⟨_, rfl⟩
  replace hw : ms G.1 (Af f sz) f44 s H locs := by rw [ef44]; exact hw
  have n_mo_q42 : mo ≠ q42 := wnf h39 u43
  have h45 : f44 mo = some (.inr (10, [.ref q31, .int 0, .int 0, .null, .int 0, .null, .int 0, .null, .null, .null, .null, .null, .null, .null, .null, .int 0, .null, .int 0, .int 0, .int 0, .int 0, .int 0, .int 0, .int 0, .int 0, .int 0, .int 0, .int 0, .int 0, .int 0, .int 0, .int 0, .int 0, .null, .null, .null, .int 0, .int 0])) := by rw [ef44, va_up_ne _ _ n_mo_q42]; exact h39
  have h46 : f44 q42 = some (.inl (G.2.1 0, 40, .inl (fun _ => 0))) := by rw [ef44, va_up_self]
  obtain ⟨E47, eE47⟩ : ∃ z, z = va_up E40 11 (.inl (G.2.1 0, 40, .inl (fun _ => 0))) := ⟨_, rfl⟩
  have hR48 : Rg 12 (va_up (va_up ad 10 q31) 11 q42) E47 g f44 := by rw [ef44, eE47]; exact hR41.add _ u43
  refine m_putF hc hE hw hin h45 kc_SM lf_SM_13_SM rfl rfl ds_SM_3 rfl rfl (Nat.le_of_ble_eq_true rfl) d_SM_init_18 (fun H locs hw => ?_)
  obtain ⟨f49, ef49⟩ : ∃ z : Wd, z = va_up f44 mo (some (.inr (10, [.ref q31, .int 0, .int 0, .ref q42, .int 0, .null, .int 0, .null, .null, .null, .null, .null, .null, .null, .null, .int 0, .null, .int 0, .int 0, .int 0, .int 0, .int 0, .int 0, .int 0, .int 0, .int 0, .int 0, .int 0, .int 0, .int 0, .int 0, .int 0, .int 0, .null, .null, .null, .int 0, .int 0]))) := ⟨_, rfl⟩
  replace hw : ms G.1 (Af f sz) f49 s H locs := by rw [ef49]; exact hw
  have h50 : f49 mo = some (.inr (10, [.ref q31, .int 0, .int 0, .ref q42, .int 0, .null, .int 0, .null, .null, .null, .null, .null, .null, .null, .null, .int 0, .null, .int 0, .int 0, .int 0, .int 0, .int 0, .int 0, .int 0, .int 0, .int 0, .int 0, .int 0, .int 0, .int 0, .int 0, .int 0, .int 0, .null, .null, .null, .int 0, .int 0])) := by rw [ef49, va_up_self]
  obtain ⟨E51, eE51⟩ : ∃ z, z = va_up E47 9 (.inr (10, [.ref q31, .int 0, .int 0, .ref q42, .int 0, .null, .int 0, .null, .null, .null, .null, .null, .null, .null, .null, .int 0, .null, .int 0, .int 0, .int 0, .int 0, .int 0, .int 0, .int 0, .int 0, .int 0, .int 0, .int 0, .int 0, .int 0, .int 0, .int 0, .int 0, .null, .null, .null, .int 0, .int 0])) := ⟨_, rfl⟩
  have hR52 : Rg 12 (va_up (va_up ad 10 q31) 11 q42) E51 g f49 := by rw [ef49, eE51, ha]; exact hR48.up 9 (by decide) _
  refine lv_aload_n hx hb d_SM_init_21 rfl (lv_at hl 0 rfl) ?_
  refine lv_bipush (v := 12) hx hb d_SM_init_22 (by decide) ?_
  refine m_newa hc hE hw (N' := 12) (a0 := (12, .inl (fun _ => 0))) ar_int rfl 0 rfl (fun _ => rfl) (by decide) (by decide) (by decide) (by first | decide | (dsimp only; omega)) (by first | decide | (dsimp only; omega)) d_SM_init_24 (fun q53 H u54 hw => ?_)
  obtain ⟨f55, ef55⟩ : ∃ z : Wd, z = va_up f49 q53 (some (.inl (G.2.1 0, 12, .inl (fun _ => 0)))) := ⟨_, rfl⟩
  replace hw : ms G.1 (Af f sz) f55 s H locs := by rw [ef55]; exact hw
  have n_mo_q53 : mo ≠ q53 := wnf h50 u54
  have h56 : f55 mo = some (.inr (10, [.ref q31, .int 0, .int 0, .ref q42, .int 0, .null, .int 0, .null, .null, .null, .null, .null, .null, .null, .null, .int 0, .null, .int 0, .int 0, .int 0, .int 0, .int 0, .int 0, .int 0, .int 0, .int 0, .int 0, .int 0, .int 0, .int 0, .int 0, .int 0, .int 0, .null, .null, .null, .int 0, .int 0])) := by rw [ef55, va_up_ne _ _ n_mo_q53]; exact h50
  have h57 : f55 q53 = some (.inl (G.2.1 0, 12, .inl (fun _ => 0))) := by rw [ef55, va_up_self]
  obtain ⟨E58, eE58⟩ : ∃ z, z = va_up E51 12 (.inl (G.2.1 0, 12, .inl (fun _ => 0))) := ⟨_, rfl⟩
  have hR59 : Rg 13 (va_up (va_up (va_up ad 10 q31) 11 q42) 12 q53) E58 g f55 := by rw [ef55, eE58]; exact hR52.add _ u54
  refine m_putF hc hE hw hin h56 kc_SM lf_SM_16_SM rfl rfl ds_SM_5 rfl rfl (Nat.le_of_ble_eq_true rfl) d_SM_init_26 (fun H locs hw => ?_)
  obtain ⟨f60, ef60⟩ : ∃ z : Wd, z = va_up f55 mo (some (.inr (10, [.ref q31, .int 0, .int 0, .ref q42, .int 0, .ref q53, .int 0, .null, .null, .null, .null, .null, .null, .null, .null, .int 0, .null, .int 0, .int 0, .int 0, .int 0, .int 0, .int 0, .int 0, .int 0, .int 0, .int 0, .int 0, .int 0, .int 0, .int 0, .int 0, .int 0, .null, .null, .null, .int 0, .int 0]))) := ⟨_, rfl⟩
  replace hw : ms G.1 (Af f sz) f60 s H locs := by rw [ef60]; exact hw
  have h61 : f60 mo = some (.inr (10, [.ref q31, .int 0, .int 0, .ref q42, .int 0, .ref q53, .int 0, .null, .null, .null, .null, .null, .null, .null, .null, .int 0, .null, .int 0, .int 0, .int 0, .int 0, .int 0, .int 0, .int 0, .int 0, .int 0, .int 0, .int 0, .int 0, .int 0, .int 0, .int 0, .int 0, .null, .null, .null, .int 0, .int 0])) := by rw [ef60, va_up_self]
  obtain ⟨E62, eE62⟩ : ∃ z, z = va_up E58 9 (.inr (10, [.ref q31, .int 0, .int 0, .ref q42, .int 0, .ref q53, .int 0, .null, .null, .null, .null, .null, .null, .null, .null, .int 0, .null, .int 0, .int 0, .int 0, .int 0, .int 0, .int 0, .int 0, .int 0, .int 0, .int 0, .int 0, .int 0, .int 0, .int 0, .int 0, .int 0, .null, .null, .null, .int 0, .int 0])) := ⟨_, rfl⟩
  have hR63 : Rg 13 (va_up (va_up (va_up ad 10 q31) 11 q42) 12 q53) E62 g f60 := by rw [ef60, eE62, ha]; exact hR59.up 9 (by decide) _
  refine lv_aload_n hx hb d_SM_init_29 rfl (lv_at hl 0 rfl) ?_
  refine lv_sipush (v := 520) hx hb d_SM_init_30 (by decide) ?_
  refine m_newa hc hE hw (N' := 520) (a0 := (520, .inl (fun _ => 0))) ar_int rfl 0 rfl (fun _ => rfl) (by decide) (by decide) (by decide) (by first | decide | (dsimp only; omega)) (by first | decide | (dsimp only; omega)) d_SM_init_33 (fun q64 H u65 hw => ?_)
  obtain ⟨f66, ef66⟩ : ∃ z : Wd, z = va_up f60 q64 (some (.inl (G.2.1 0, 520, .inl (fun _ => 0)))) := ⟨_, rfl⟩
  replace hw : ms G.1 (Af f sz) f66 s H locs := by rw [ef66]; exact hw
  have n_mo_q64 : mo ≠ q64 := wnf h61 u65
  have h67 : f66 mo = some (.inr (10, [.ref q31, .int 0, .int 0, .ref q42, .int 0, .ref q53, .int 0, .null, .null, .null, .null, .null, .null, .null, .null, .int 0, .null, .int 0, .int 0, .int 0, .int 0, .int 0, .int 0, .int 0, .int 0, .int 0, .int 0, .int 0, .int 0, .int 0, .int 0, .int 0, .int 0, .null, .null, .null, .int 0, .int 0])) := by rw [ef66, va_up_ne _ _ n_mo_q64]; exact h61
  have h68 : f66 q64 = some (.inl (G.2.1 0, 520, .inl (fun _ => 0))) := by rw [ef66, va_up_self]
  obtain ⟨E69, eE69⟩ : ∃ z, z = va_up E62 13 (.inl (G.2.1 0, 520, .inl (fun _ => 0))) := ⟨_, rfl⟩
  have hR70 : Rg 14 (va_up (va_up (va_up (va_up ad 10 q31) 11 q42) 12 q53) 13 q64) E69 g f66 := by rw [ef66, eE69]; exact hR63.add _ u65
  refine m_putF hc hE hw hin h67 kc_SM lf_SM_19_SM rfl rfl ds_SM_7 rfl rfl (Nat.le_of_ble_eq_true rfl) d_SM_init_35 (fun H locs hw => ?_)
  obtain ⟨f71, ef71⟩ : ∃ z : Wd, z = va_up f66 mo (some (.inr (10, [.ref q31, .int 0, .int 0, .ref q42, .int 0, .ref q53, .int 0, .ref q64, .null, .null, .null, .null, .null, .null, .null, .int 0, .null, .int 0, .int 0, .int 0, .int 0, .int 0, .int 0, .int 0, .int 0, .int 0, .int 0, .int 0, .int 0, .int 0, .int 0, .int 0, .int 0, .null, .null, .null, .int 0, .int 0]))) := ⟨_, rfl⟩
  replace hw : ms G.1 (Af f sz) f71 s H locs := by rw [ef71]; exact hw
  have h72 : f71 mo = some (.inr (10, [.ref q31, .int 0, .int 0, .ref q42, .int 0, .ref q53, .int 0, .ref q64, .null, .null, .null, .null, .null, .null, .null, .int 0, .null, .int 0, .int 0, .int 0, .int 0, .int 0, .int 0, .int 0, .int 0, .int 0, .int 0, .int 0, .int 0, .int 0, .int 0, .int 0, .int 0, .null, .null, .null, .int 0, .int 0])) := by rw [ef71, va_up_self]
  obtain ⟨E73, eE73⟩ : ∃ z, z = va_up E69 9 (.inr (10, [.ref q31, .int 0, .int 0, .ref q42, .int 0, .ref q53, .int 0, .ref q64, .null, .null, .null, .null, .null, .null, .null, .int 0, .null, .int 0, .int 0, .int 0, .int 0, .int 0, .int 0, .int 0, .int 0, .int 0, .int 0, .int 0, .int 0, .int 0, .int 0, .int 0, .int 0, .null, .null, .null, .int 0, .int 0])) := ⟨_, rfl⟩
  have hR74 : Rg 14 (va_up (va_up (va_up (va_up ad 10 q31) 11 q42) 12 q53) 13 q64) E73 g f71 := by rw [ef71, eE73, ha]; exact hR70.up 9 (by decide) _
  refine lv_aload_n hx hb d_SM_init_38 rfl (lv_at hl 0 rfl) ?_
  refine lv_sipush (v := 520) hx hb d_SM_init_39 (by decide) ?_
  refine m_newa hc hE hw (N' := 520) (a0 := (520, .inl (fun _ => 0))) ar_int rfl 0 rfl (fun _ => rfl) (by decide) (by decide) (by decide) (by first | decide | (dsimp only; omega)) (by first | decide | (dsimp only; omega)) d_SM_init_42 (fun q75 H u76 hw => ?_)
  obtain ⟨f77, ef77⟩ : ∃ z : Wd, z = va_up f71 q75 (some (.inl (G.2.1 0, 520, .inl (fun _ => 0)))) := ⟨_, rfl⟩
  replace hw : ms G.1 (Af f sz) f77 s H locs := by rw [ef77]; exact hw
  have n_mo_q75 : mo ≠ q75 := wnf h72 u76
  have h78 : f77 mo = some (.inr (10, [.ref q31, .int 0, .int 0, .ref q42, .int 0, .ref q53, .int 0, .ref q64, .null, .null, .null, .null, .null, .null, .null, .int 0, .null, .int 0, .int 0, .int 0, .int 0, .int 0, .int 0, .int 0, .int 0, .int 0, .int 0, .int 0, .int 0, .int 0, .int 0, .int 0, .int 0, .null, .null, .null, .int 0, .int 0])) := by rw [ef77, va_up_ne _ _ n_mo_q75]; exact h72
  have h79 : f77 q75 = some (.inl (G.2.1 0, 520, .inl (fun _ => 0))) := by rw [ef77, va_up_self]
  obtain ⟨E80, eE80⟩ : ∃ z, z = va_up E73 14 (.inl (G.2.1 0, 520, .inl (fun _ => 0))) := ⟨_, rfl⟩
  have hR81 : Rg 15 (va_up (va_up (va_up (va_up (va_up ad 10 q31) 11 q42) 12 q53) 13 q64) 14 q75) E80 g f77 := by rw [ef77, eE80]; exact hR74.add _ u76
  refine m_putF hc hE hw hin h78 kc_SM lf_SM_22_SM rfl rfl ds_SM_8 rfl rfl (Nat.le_of_ble_eq_true rfl) d_SM_init_44 (fun H locs hw => ?_)
  obtain ⟨f82, ef82⟩ : ∃ z : Wd, z = va_up f77 mo (some (.inr (10, [.ref q31, .int 0, .int 0, .ref q42, .int 0, .ref q53, .int 0, .ref q64, .ref q75, .null, .null, .null, .null, .null, .null, .int 0, .null, .int 0, .int 0, .int 0, .int 0, .int 0, .int 0, .int 0, .int 0, .int 0, .int 0, .int 0, .int 0, .int 0, .int 0, .int 0, .int 0, .null, .null, .null, .int 0, .int 0]))) := ⟨_, rfl⟩
  replace hw : ms G.1 (Af f sz) f82 s H locs := by rw [ef82]; exact hw
  have h83 : f82 mo = some (.inr (10, [.ref q31, .int 0, .int 0, .ref q42, .int 0, .ref q53, .int 0, .ref q64, .ref q75, .null, .null, .null, .null, .null, .null, .int 0, .null, .int 0, .int 0, .int 0, .int 0, .int 0, .int 0, .int 0, .int 0, .int 0, .int 0, .int 0, .int 0, .int 0, .int 0, .int 0, .int 0, .null, .null, .null, .int 0, .int 0])) := by rw [ef82, va_up_self]
  obtain ⟨E84, eE84⟩ : ∃ z, z = va_up E80 9 (.inr (10, [.ref q31, .int 0, .int 0, .ref q42, .int 0, .ref q53, .int 0, .ref q64, .ref q75, .null, .null, .null, .null, .null, .null, .int 0, .null, .int 0, .int 0, .int 0, .int 0, .int 0, .int 0, .int 0, .int 0, .int 0, .int 0, .int 0, .int 0, .int 0, .int 0, .int 0, .int 0, .null, .null, .null, .int 0, .int 0])) := ⟨_, rfl⟩
  have hR85 : Rg 15 (va_up (va_up (va_up (va_up (va_up ad 10 q31) 11 q42) 12 q53) 13 q64) 14 q75) E84 g f82 := by rw [ef82, eE84, ha]; exact hR81.up 9 (by decide) _
  refine lv_aload_n hx hb d_SM_init_47 rfl (lv_at hl 0 rfl) ?_
  refine lv_sipush (v := 520) hx hb d_SM_init_48 (by decide) ?_
  refine m_newa hc hE hw (N' := 520) (a0 := (520, .inl (fun _ => 0))) ar_int rfl 0 rfl (fun _ => rfl) (by decide) (by decide) (by decide) (by first | decide | (dsimp only; omega)) (by first | decide | (dsimp only; omega)) d_SM_init_51 (fun q86 H u87 hw => ?_)
  obtain ⟨f88, ef88⟩ : ∃ z : Wd, z = va_up f82 q86 (some (.inl (G.2.1 0, 520, .inl (fun _ => 0)))) := ⟨_, rfl⟩
  replace hw : ms G.1 (Af f sz) f88 s H locs := by rw [ef88]; exact hw
  have n_mo_q86 : mo ≠ q86 := wnf h83 u87
  have h89 : f88 mo = some (.inr (10, [.ref q31, .int 0, .int 0, .ref q42, .int 0, .ref q53, .int 0, .ref q64, .ref q75, .null, .null, .null, .null, .null, .null, .int 0, .null, .int 0, .int 0, .int 0, .int 0, .int 0, .int 0, .int 0, .int 0, .int 0, .int 0, .int 0, .int 0, .int 0, .int 0, .int 0, .int 0, .null, .null, .null, .int 0, .int 0])) := by rw [ef88, va_up_ne _ _ n_mo_q86]; exact h83
  have h90 : f88 q86 = some (.inl (G.2.1 0, 520, .inl (fun _ => 0))) := by rw [ef88, va_up_self]
  obtain ⟨E91, eE91⟩ : ∃ z, z = va_up E84 15 (.inl (G.2.1 0, 520, .inl (fun _ => 0))) := ⟨_, rfl⟩
  have hR92 : Rg 16 (va_up (va_up (va_up (va_up (va_up (va_up ad 10 q31) 11 q42) 12 q53) 13 q64) 14 q75) 15 q86) E91 g f88 := by rw [ef88, eE91]; exact hR85.add _ u87
  refine m_putF hc hE hw hin h89 kc_SM lf_SM_25_SM rfl rfl ds_SM_9 rfl rfl (Nat.le_of_ble_eq_true rfl) d_SM_init_53 (fun H locs hw => ?_)
  obtain ⟨f93, ef93⟩ : ∃ z : Wd, z = va_up f88 mo (some (.inr (10, [.ref q31, .int 0, .int 0, .ref q42, .int 0, .ref q53, .int 0, .ref q64, .ref q75, .ref q86, .null, .null, .null, .null, .null, .int 0, .null, .int 0, .int 0, .int 0, .int 0, .int 0, .int 0, .int 0, .int 0, .int 0, .int 0, .int 0, .int 0, .int 0, .int 0, .int 0, .int 0, .null, .null, .null, .int 0, .int 0]))) := ⟨_, rfl⟩
  replace hw : ms G.1 (Af f sz) f93 s H locs := by rw [ef93]; exact hw
  have h94 : f93 mo = some (.inr (10, [.ref q31, .int 0, .int 0, .ref q42, .int 0, .ref q53, .int 0, .ref q64, .ref q75, .ref q86, .null, .null, .null, .null, .null, .int 0, .null, .int 0, .int 0, .int 0, .int 0, .int 0, .int 0, .int 0, .int 0, .int 0, .int 0, .int 0, .int 0, .int 0, .int 0, .int 0, .int 0, .null, .null, .null, .int 0, .int 0])) := by rw [ef93, va_up_self]
  obtain ⟨E95, eE95⟩ : ∃ z, z = va_up E91 9 (.inr (10, [.ref q31, .int 0, .int 0, .ref q42, .int 0, .ref q53, .int 0, .ref q64, .ref q75, .ref q86, .null, .null, .null, .null, .null, .int 0, .null, .int 0, .int 0, .int 0, .int 0, .int 0, .int 0, .int 0, .int 0, .int 0, .int 0, .int 0, .int 0, .int 0, .int 0, .int 0, .int 0, .null, .null, .null, .int 0, .int 0])) := ⟨_, rfl⟩
  have hR96 : Rg 16 (va_up (va_up (va_up (va_up (va_up (va_up ad 10 q31) 11 q42) 12 q53) 13 q64) 14 q75) 15 q86) E95 g f93 := by rw [ef93, eE95, ha]; exact hR92.up 9 (by decide) _
  refine lv_aload_n hx hb d_SM_init_56 rfl (lv_at hl 0 rfl) ?_
  refine lv_sipush (v := 520) hx hb d_SM_init_57 (by decide) ?_
  refine m_newa hc hE hw (N' := 520) (a0 := (520, .inl (fun _ => 0))) ar_int rfl 0 rfl (fun _ => rfl) (by decide) (by decide) (by decide) (by first | decide | (dsimp only; omega)) (by first | decide | (dsimp only; omega)) d_SM_init_60 (fun q97 H u98 hw => ?_)
  obtain ⟨f99, ef99⟩ : ∃ z : Wd, z = va_up f93 q97 (some (.inl (G.2.1 0, 520, .inl (fun _ => 0)))) := ⟨_, rfl⟩
  replace hw : ms G.1 (Af f sz) f99 s H locs := by rw [ef99]; exact hw
  have n_mo_q97 : mo ≠ q97 := wnf h94 u98
  have h100 : f99 mo = some (.inr (10, [.ref q31, .int 0, .int 0, .ref q42, .int 0, .ref q53, .int 0, .ref q64, .ref q75, .ref q86, .null, .null, .null, .null, .null, .int 0, .null, .int 0, .int 0, .int 0, .int 0, .int 0, .int 0, .int 0, .int 0, .int 0, .int 0, .int 0, .int 0, .int 0, .int 0, .int 0, .int 0, .null, .null, .null, .int 0, .int 0])) := by rw [ef99, va_up_ne _ _ n_mo_q97]; exact h94
  have h101 : f99 q97 = some (.inl (G.2.1 0, 520, .inl (fun _ => 0))) := by rw [ef99, va_up_self]
  obtain ⟨E102, eE102⟩ : ∃ z, z = va_up E95 16 (.inl (G.2.1 0, 520, .inl (fun _ => 0))) := ⟨_, rfl⟩
  have hR103 : Rg 17 (va_up (va_up (va_up (va_up (va_up (va_up (va_up ad 10 q31) 11 q42) 12 q53) 13 q64) 14 q75) 15 q86) 16 q97) E102 g f99 := by rw [ef99, eE102]; exact hR96.add _ u98
  refine m_putF hc hE hw hin h100 kc_SM lf_SM_28_SM rfl rfl ds_SM_10 rfl rfl (Nat.le_of_ble_eq_true rfl) d_SM_init_62 (fun H locs hw => ?_)
  obtain ⟨f104, ef104⟩ : ∃ z : Wd, z = va_up f99 mo (some (.inr (10, [.ref q31, .int 0, .int 0, .ref q42, .int 0, .ref q53, .int 0, .ref q64, .ref q75, .ref q86, .ref q97, .null, .null, .null, .null, .int 0, .null, .int 0, .int 0, .int 0, .int 0, .int 0, .int 0, .int 0, .int 0, .int 0, .int 0, .int 0, .int 0, .int 0, .int 0, .int 0, .int 0, .null, .null, .null, .int 0, .int 0]))) := ⟨_, rfl⟩
  replace hw : ms G.1 (Af f sz) f104 s H locs := by rw [ef104]; exact hw
  have h105 : f104 mo = some (.inr (10, [.ref q31, .int 0, .int 0, .ref q42, .int 0, .ref q53, .int 0, .ref q64, .ref q75, .ref q86, .ref q97, .null, .null, .null, .null, .int 0, .null, .int 0, .int 0, .int 0, .int 0, .int 0, .int 0, .int 0, .int 0, .int 0, .int 0, .int 0, .int 0, .int 0, .int 0, .int 0, .int 0, .null, .null, .null, .int 0, .int 0])) := by rw [ef104, va_up_self]
  obtain ⟨E106, eE106⟩ : ∃ z, z = va_up E102 9 (.inr (10, [.ref q31, .int 0, .int 0, .ref q42, .int 0, .ref q53, .int 0, .ref q64, .ref q75, .ref q86, .ref q97, .null, .null, .null, .null, .int 0, .null, .int 0, .int 0, .int 0, .int 0, .int 0, .int 0, .int 0, .int 0, .int 0, .int 0, .int 0, .int 0, .int 0, .int 0, .int 0, .int 0, .null, .null, .null, .int 0, .int 0])) := ⟨_, rfl⟩
  have hR107 : Rg 17 (va_up (va_up (va_up (va_up (va_up (va_up (va_up ad 10 q31) 11 q42) 12 q53) 13 q64) 14 q75) 15 q86) 16 q97) E106 g f104 := by rw [ef104, eE106, ha]; exact hR103.up 9 (by decide) _
  refine lv_aload_n hx hb d_SM_init_65 rfl (lv_at hl 0 rfl) ?_
  refine lv_sipush (v := 520) hx hb d_SM_init_66 (by decide) ?_
  refine m_newa hc hE hw (N' := 520) (a0 := (520, .inl (fun _ => 0))) ar_int rfl 0 rfl (fun _ => rfl) (by decide) (by decide) (by decide) (by first | decide | (dsimp only; omega)) (by first | decide | (dsimp only; omega)) d_SM_init_69 (fun q108 H u109 hw => ?_)
  obtain ⟨f110, ef110⟩ : ∃ z : Wd, z = va_up f104 q108 (some (.inl (G.2.1 0, 520, .inl (fun _ => 0)))) := ⟨_, rfl⟩
  replace hw : ms G.1 (Af f sz) f110 s H locs := by rw [ef110]; exact hw
  have n_mo_q108 : mo ≠ q108 := wnf h105 u109
  have h111 : f110 mo = some (.inr (10, [.ref q31, .int 0, .int 0, .ref q42, .int 0, .ref q53, .int 0, .ref q64, .ref q75, .ref q86, .ref q97, .null, .null, .null, .null, .int 0, .null, .int 0, .int 0, .int 0, .int 0, .int 0, .int 0, .int 0, .int 0, .int 0, .int 0, .int 0, .int 0, .int 0, .int 0, .int 0, .int 0, .null, .null, .null, .int 0, .int 0])) := by rw [ef110, va_up_ne _ _ n_mo_q108]; exact h105
  have h112 : f110 q108 = some (.inl (G.2.1 0, 520, .inl (fun _ => 0))) := by rw [ef110, va_up_self]
  obtain ⟨E113, eE113⟩ : ∃ z, z = va_up E106 17 (.inl (G.2.1 0, 520, .inl (fun _ => 0))) := ⟨_, rfl⟩
  have hR114 : Rg 18 (va_up (va_up (va_up (va_up (va_up (va_up (va_up (va_up ad 10 q31) 11 q42) 12 q53) 13 q64) 14 q75) 15 q86) 16 q97) 17 q108) E113 g f110 := by rw [ef110, eE113]; exact hR107.add _ u109
  refine m_putF hc hE hw hin h111 kc_SM lf_SM_31_SM rfl rfl ds_SM_11 rfl rfl (Nat.le_of_ble_eq_true rfl) d_SM_init_71 (fun H locs hw => ?_)
  obtain ⟨f115, ef115⟩ : ∃ z : Wd, z = va_up f110 mo (some (.inr (10, [.ref q31, .int 0, .int 0, .ref q42, .int 0, .ref q53, .int 0, .ref q64, .ref q75, .ref q86, .ref q97, .ref q108, .null, .null, .null, .int 0, .null, .int 0, .int 0, .int 0, .int 0, .int 0, .int 0, .int 0, .int 0, .int 0, .int 0, .int 0, .int 0, .int 0, .int 0, .int 0, .int 0, .null, .null, .null, .int 0, .int 0]))) := ⟨_, rfl⟩
  replace hw : ms G.1 (Af f sz) f115 s H locs := by rw [ef115]; exact hw
  have h116 : f115 mo = some (.inr (10, [.ref q31, .int 0, .int 0, .ref q42, .int 0, .ref q53, .int 0, .ref q64, .ref q75, .ref q86, .ref q97, .ref q108, .null, .null, .null, .int 0, .null, .int 0, .int 0, .int 0, .int 0, .int 0, .int 0, .int 0, .int 0, .int 0, .int 0, .int 0, .int 0, .int 0, .int 0, .int 0, .int 0, .null, .null, .null, .int 0, .int 0])) := by rw [ef115, va_up_self]
  obtain ⟨E117, eE117⟩ : ∃ z, z = va_up E113 9 (.inr (10, [.ref q31, .int 0, .int 0, .ref q42, .int 0, .ref q53, .int 0, .ref q64, .ref q75, .ref q86, .ref q97, .ref q108, .null, .null, .null, .int 0, .null, .int 0, .int 0, .int 0, .int 0, .int 0, .int 0, .int 0, .int 0, .int 0, .int 0, .int 0, .int 0, .int 0, .int 0, .int 0, .int 0, .null, .null, .null, .int 0, .int 0])) := ⟨_, rfl⟩
  have hR118 : Rg 18 (va_up (va_up (va_up (va_up (va_up (va_up (va_up (va_up ad 10 q31) 11 q42) 12 q53) 13 q64) 14 q75) 15 q86) 16 q97) 17 q108) E117 g f115 := by rw [ef115, eE117, ha]; exact hR114.up 9 (by decide) _
  refine lv_aload_n hx hb d_SM_init_74 rfl (lv_at hl 0 rfl) ?_
  refine lv_sipush (v := 520) hx hb d_SM_init_75 (by decide) ?_
  refine m_newa hc hE hw (N' := 520) (a0 := (520, .inl (fun _ => 0))) ar_int rfl 0 rfl (fun _ => rfl) (by decide) (by decide) (by decide) (by first | decide | (dsimp only; omega)) (by first | decide | (dsimp only; omega)) d_SM_init_78 (fun q119 H u120 hw => ?_)
  obtain ⟨f121, ef121⟩ : ∃ z : Wd, z = va_up f115 q119 (some (.inl (G.2.1 0, 520, .inl (fun _ => 0)))) := ⟨_, rfl⟩
  replace hw : ms G.1 (Af f sz) f121 s H locs := by rw [ef121]; exact hw
  have n_mo_q119 : mo ≠ q119 := wnf h116 u120
  have h122 : f121 mo = some (.inr (10, [.ref q31, .int 0, .int 0, .ref q42, .int 0, .ref q53, .int 0, .ref q64, .ref q75, .ref q86, .ref q97, .ref q108, .null, .null, .null, .int 0, .null, .int 0, .int 0, .int 0, .int 0, .int 0, .int 0, .int 0, .int 0, .int 0, .int 0, .int 0, .int 0, .int 0, .int 0, .int 0, .int 0, .null, .null, .null, .int 0, .int 0])) := by rw [ef121, va_up_ne _ _ n_mo_q119]; exact h116
  have h123 : f121 q119 = some (.inl (G.2.1 0, 520, .inl (fun _ => 0))) := by rw [ef121, va_up_self]
  obtain ⟨E124, eE124⟩ : ∃ z, z = va_up E117 18 (.inl (G.2.1 0, 520, .inl (fun _ => 0))) := ⟨_, rfl⟩
  have hR125 : Rg 19 (va_up (va_up (va_up (va_up (va_up (va_up (va_up (va_up (va_up ad 10 q31) 11 q42) 12 q53) 13 q64) 14 q75) 15 q86) 16 q97) 17 q108) 18 q119) E124 g f121 := by rw [ef121, eE124]; exact hR118.add _ u120
  refine m_putF hc hE hw hin h122 kc_SM lf_SM_34_SM rfl rfl ds_SM_12 rfl rfl (Nat.le_of_ble_eq_true rfl) d_SM_init_80 (fun H locs hw => ?_)
  obtain ⟨f126, ef126⟩ : ∃ z : Wd, z = va_up f121 mo (some (.inr (10, [.ref q31, .int 0, .int 0, .ref q42, .int 0, .ref q53, .int 0, .ref q64, .ref q75, .ref q86, .ref q97, .ref q108, .ref q119, .null, .null, .int 0, .null, .int 0, .int 0, .int 0, .int 0, .int 0, .int 0, .int 0, .int 0, .int 0, .int 0, .int 0, .int 0, .int 0, .int 0, .int 0, .int 0, .null, .null, .null, .int 0, .int 0]))) := ⟨_, rfl⟩
  replace hw : ms G.1 (Af f sz) f126 s H locs := by rw [ef126]; exact hw
  have h127 : f126 mo = some (.inr (10, [.ref q31, .int 0, .int 0, .ref q42, .int 0, .ref q53, .int 0, .ref q64, .ref q75, .ref q86, .ref q97, .ref q108, .ref q119, .null, .null, .int 0, .null, .int 0, .int 0, .int 0, .int 0, .int 0, .int 0, .int 0, .int 0, .int 0, .int 0, .int 0, .int 0, .int 0, .int 0, .int 0, .int 0, .null, .null, .null, .int 0, .int 0])) := by rw [ef126, va_up_self]
  obtain ⟨E128, eE128⟩ : ∃ z, z = va_up E124 9 (.inr (10, [.ref q31, .int 0, .int 0, .ref q42, .int 0, .ref q53, .int 0, .ref q64, .ref q75, .ref q86, .ref q97, .ref q108, .ref q119, .null, .null, .int 0, .null, .int 0, .int 0, .int 0, .int 0, .int 0, .int 0, .int 0, .int 0, .int 0, .int 0, .int 0, .int 0, .int 0, .int 0, .int 0, .int 0, .null, .null, .null, .int 0, .int 0])) := ⟨_, rfl⟩
  have hR129 : Rg 19 (va_up (va_up (va_up (va_up (va_up (va_up (va_up (va_up (va_up ad 10 q31) 11 q42) 12 q53) 13 q64) 14 q75) 15 q86) 16 q97) 17 q108) 18 q119) E128 g f126 := by rw [ef126, eE128, ha]; exact hR125.up 9 (by decide) _
  refine lv_aload_n hx hb d_SM_init_83 rfl (lv_at hl 0 rfl) ?_
  refine lv_sipush (v := 520) hx hb d_SM_init_84 (by decide) ?_
  refine m_newa hc hE hw (N' := 520) (a0 := (520, .inl (fun _ => 0))) ar_int rfl 0 rfl (fun _ => rfl) (by decide) (by decide) (by decide) (by first | decide | (dsimp only; omega)) (by first | decide | (dsimp only; omega)) d_SM_init_87 (fun q130 H u131 hw => ?_)
  obtain ⟨f132, ef132⟩ : ∃ z : Wd, z = va_up f126 q130 (some (.inl (G.2.1 0, 520, .inl (fun _ => 0)))) := ⟨_, rfl⟩
  replace hw : ms G.1 (Af f sz) f132 s H locs := by rw [ef132]; exact hw
  have n_mo_q130 : mo ≠ q130 := wnf h127 u131
  have h133 : f132 mo = some (.inr (10, [.ref q31, .int 0, .int 0, .ref q42, .int 0, .ref q53, .int 0, .ref q64, .ref q75, .ref q86, .ref q97, .ref q108, .ref q119, .null, .null, .int 0, .null, .int 0, .int 0, .int 0, .int 0, .int 0, .int 0, .int 0, .int 0, .int 0, .int 0, .int 0, .int 0, .int 0, .int 0, .int 0, .int 0, .null, .null, .null, .int 0, .int 0])) := by rw [ef132, va_up_ne _ _ n_mo_q130]; exact h127
  have h134 : f132 q130 = some (.inl (G.2.1 0, 520, .inl (fun _ => 0))) := by rw [ef132, va_up_self]
  obtain ⟨E135, eE135⟩ : ∃ z, z = va_up E128 19 (.inl (G.2.1 0, 520, .inl (fun _ => 0))) := ⟨_, rfl⟩
  have hR136 : Rg 20 (va_up (va_up (va_up (va_up (va_up (va_up (va_up (va_up (va_up (va_up ad 10 q31) 11 q42) 12 q53) 13 q64) 14 q75) 15 q86) 16 q97) 17 q108) 18 q119) 19 q130) E135 g f132 := by rw [ef132, eE135]; exact hR129.add _ u131
  refine m_putF hc hE hw hin h133 kc_SM lf_SM_37_SM rfl rfl ds_SM_13 rfl rfl (Nat.le_of_ble_eq_true rfl) d_SM_init_89 (fun H locs hw => ?_)
  obtain ⟨f137, ef137⟩ : ∃ z : Wd, z = va_up f132 mo (some (.inr (10, [.ref q31, .int 0, .int 0, .ref q42, .int 0, .ref q53, .int 0, .ref q64, .ref q75, .ref q86, .ref q97, .ref q108, .ref q119, .ref q130, .null, .int 0, .null, .int 0, .int 0, .int 0, .int 0, .int 0, .int 0, .int 0, .int 0, .int 0, .int 0, .int 0, .int 0, .int 0, .int 0, .int 0, .int 0, .null, .null, .null, .int 0, .int 0]))) := ⟨_, rfl⟩
  replace hw : ms G.1 (Af f sz) f137 s H locs := by rw [ef137]; exact hw
  have h138 : f137 mo = some (.inr (10, [.ref q31, .int 0, .int 0, .ref q42, .int 0, .ref q53, .int 0, .ref q64, .ref q75, .ref q86, .ref q97, .ref q108, .ref q119, .ref q130, .null, .int 0, .null, .int 0, .int 0, .int 0, .int 0, .int 0, .int 0, .int 0, .int 0, .int 0, .int 0, .int 0, .int 0, .int 0, .int 0, .int 0, .int 0, .null, .null, .null, .int 0, .int 0])) := by rw [ef137, va_up_self]
  obtain ⟨E139, eE139⟩ : ∃ z, z = va_up E135 9 (.inr (10, [.ref q31, .int 0, .int 0, .ref q42, .int 0, .ref q53, .int 0, .ref q64, .ref q75, .ref q86, .ref q97, .ref q108, .ref q119, .ref q130, .null, .int 0, .null, .int 0, .int 0, .int 0, .int 0, .int 0, .int 0, .int 0, .int 0, .int 0, .int 0, .int 0, .int 0, .int 0, .int 0, .int 0, .int 0, .null, .null, .null, .int 0, .int 0])) := ⟨_, rfl⟩
  have hR140 : Rg 20 (va_up (va_up (va_up (va_up (va_up (va_up (va_up (va_up (va_up (va_up ad 10 q31) 11 q42) 12 q53) 13 q64) 14 q75) 15 q86) 16 q97) 17 q108) 18 q119) 19 q130) E139 g f137 := by rw [ef137, eE139, ha]; exact hR136.up 9 (by decide) _
  refine lv_aload_n hx hb d_SM_init_92 rfl (lv_at hl 0 rfl) ?_
  refine lv_sipush (v := 520) hx hb d_SM_init_93 (by decide) ?_
  refine m_newa hc hE hw (N' := 520) (a0 := (520, .inl (fun _ => 0))) ar_int rfl 0 rfl (fun _ => rfl) (by decide) (by decide) (by decide) (by first | decide | (dsimp only; omega)) (by first | decide | (dsimp only; omega)) d_SM_init_96 (fun q141 H u142 hw => ?_)
  obtain ⟨f143, ef143⟩ : ∃ z : Wd, z = va_up f137 q141 (some (.inl (G.2.1 0, 520, .inl (fun _ => 0)))) := ⟨_, rfl⟩
  replace hw : ms G.1 (Af f sz) f143 s H locs := by rw [ef143]; exact hw
  have n_mo_q141 : mo ≠ q141 := wnf h138 u142
  have h144 : f143 mo = some (.inr (10, [.ref q31, .int 0, .int 0, .ref q42, .int 0, .ref q53, .int 0, .ref q64, .ref q75, .ref q86, .ref q97, .ref q108, .ref q119, .ref q130, .null, .int 0, .null, .int 0, .int 0, .int 0, .int 0, .int 0, .int 0, .int 0, .int 0, .int 0, .int 0, .int 0, .int 0, .int 0, .int 0, .int 0, .int 0, .null, .null, .null, .int 0, .int 0])) := by rw [ef143, va_up_ne _ _ n_mo_q141]; exact h138
  have h145 : f143 q141 = some (.inl (G.2.1 0, 520, .inl (fun _ => 0))) := by rw [ef143, va_up_self]
  obtain ⟨E146, eE146⟩ : ∃ z, z = va_up E139 20 (.inl (G.2.1 0, 520, .inl (fun _ => 0))) := ⟨_, rfl⟩
  have hR147 : Rg 21 (va_up (va_up (va_up (va_up (va_up (va_up (va_up (va_up (va_up (va_up (va_up ad 10 q31) 11 q42) 12 q53) 13 q64) 14 q75) 15 q86) 16 q97) 17 q108) 18 q119) 19 q130) 20 q141) E146 g f143 := by rw [ef143, eE146]; exact hR140.add _ u142
  refine m_putF hc hE hw hin h144 kc_SM lf_SM_40_SM rfl rfl ds_SM_14 rfl rfl (Nat.le_of_ble_eq_true rfl) d_SM_init_98 (fun H locs hw => ?_)
  obtain ⟨f148, ef148⟩ : ∃ z : Wd, z = va_up f143 mo (some (.inr (10, [.ref q31, .int 0, .int 0, .ref q42, .int 0, .ref q53, .int 0, .ref q64, .ref q75, .ref q86, .ref q97, .ref q108, .ref q119, .ref q130, .ref q141, .int 0, .null, .int 0, .int 0, .int 0, .int 0, .int 0, .int 0, .int 0, .int 0, .int 0, .int 0, .int 0, .int 0, .int 0, .int 0, .int 0, .int 0, .null, .null, .null, .int 0, .int 0]))) := ⟨_, rfl⟩
  replace hw : ms G.1 (Af f sz) f148 s H locs := by rw [ef148]; exact hw
  have h149 : f148 mo = some (.inr (10, [.ref q31, .int 0, .int 0, .ref q42, .int 0, .ref q53, .int 0, .ref q64, .ref q75, .ref q86, .ref q97, .ref q108, .ref q119, .ref q130, .ref q141, .int 0, .null, .int 0, .int 0, .int 0, .int 0, .int 0, .int 0, .int 0, .int 0, .int 0, .int 0, .int 0, .int 0, .int 0, .int 0, .int 0, .int 0, .null, .null, .null, .int 0, .int 0])) := by rw [ef148, va_up_self]
  obtain ⟨E150, eE150⟩ : ∃ z, z = va_up E146 9 (.inr (10, [.ref q31, .int 0, .int 0, .ref q42, .int 0, .ref q53, .int 0, .ref q64, .ref q75, .ref q86, .ref q97, .ref q108, .ref q119, .ref q130, .ref q141, .int 0, .null, .int 0, .int 0, .int 0, .int 0, .int 0, .int 0, .int 0, .int 0, .int 0, .int 0, .int 0, .int 0, .int 0, .int 0, .int 0, .int 0, .null, .null, .null, .int 0, .int 0])) := ⟨_, rfl⟩
  have hR151 : Rg 21 (va_up (va_up (va_up (va_up (va_up (va_up (va_up (va_up (va_up (va_up (va_up ad 10 q31) 11 q42) 12 q53) 13 q64) 14 q75) 15 q86) 16 q97) 17 q108) 18 q119) 19 q130) 20 q141) E150 g f148 := by rw [ef148, eE150, ha]; exact hR147.up 9 (by decide) _
  refine lv_aload_n hx hb d_SM_init_101 rfl (lv_at hl 0 rfl) ?_
  refine lv_bipush (v := 10) hx hb d_SM_init_102 (by decide) ?_
  refine m_newa hc hE hw (N' := 10) (a0 := (10, .inl (fun _ => 0))) ar_int rfl 0 rfl (fun _ => rfl) (by decide) (by decide) (by decide) (by first | decide | (dsimp only; omega)) (by first | decide | (dsimp only; omega)) d_SM_init_104 (fun q152 H u153 hw => ?_)
  obtain ⟨f154, ef154⟩ : ∃ z : Wd, z = va_up f148 q152 (some (.inl (G.2.1 0, 10, .inl (fun _ => 0)))) := ⟨_, rfl⟩
  replace hw : ms G.1 (Af f sz) f154 s H locs := by rw [ef154]; exact hw
  have n_mo_q152 : mo ≠ q152 := wnf h149 u153
  have h155 : f154 mo = some (.inr (10, [.ref q31, .int 0, .int 0, .ref q42, .int 0, .ref q53, .int 0, .ref q64, .ref q75, .ref q86, .ref q97, .ref q108, .ref q119, .ref q130, .ref q141, .int 0, .null, .int 0, .int 0, .int 0, .int 0, .int 0, .int 0, .int 0, .int 0, .int 0, .int 0, .int 0, .int 0, .int 0, .int 0, .int 0, .int 0, .null, .null, .null, .int 0, .int 0])) := by rw [ef154, va_up_ne _ _ n_mo_q152]; exact h149
  have h156 : f154 q152 = some (.inl (G.2.1 0, 10, .inl (fun _ => 0))) := by rw [ef154, va_up_self]
  obtain ⟨E157, eE157⟩ : ∃ z, z = va_up E150 21 (.inl (G.2.1 0, 10, .inl (fun _ => 0))) := ⟨_, rfl⟩
  have hR158 : Rg 22 (va_up (va_up (va_up (va_up (va_up (va_up (va_up (va_up (va_up (va_up (va_up (va_up ad 10 q31) 11 q42) 12 q53) 13 q64) 14 q75) 15 q86) 16 q97) 17 q108) 18 q119) 19 q130) 20 q141) 21 q152) E157 g f154 := by rw [ef154, eE157]; exact hR151.add _ u153
  refine m_putF hc hE hw hin h155 kc_SM lf_SM_43_SM rfl rfl ds_SM_16 rfl rfl (Nat.le_of_ble_eq_true rfl) d_SM_init_106 (fun H locs hw => ?_)
  obtain ⟨f159, ef159⟩ : ∃ z : Wd, z = va_up f154 mo (some (.inr (10, [.ref q31, .int 0, .int 0, .ref q42, .int 0, .ref q53, .int 0, .ref q64, .ref q75, .ref q86, .ref q97, .ref q108, .ref q119, .ref q130, .ref q141, .int 0, .ref q152, .int 0, .int 0, .int 0, .int 0, .int 0, .int 0, .int 0, .int 0, .int 0, .int 0, .int 0, .int 0, .int 0, .int 0, .int 0, .int 0, .null, .null, .null, .int 0, .int 0]))) := ⟨_, rfl⟩
  replace hw : ms G.1 (Af f sz) f159 s H locs := by rw [ef159]; exact hw
  have h160 : f159 q152 = some (.inl (G.2.1 0, 10, .inl (fun _ => 0))) := by rw [ef159, va_up_ne _ _ (Ne.symm n_mo_q152)]; exact h156
  have h161 : f159 mo = some (.inr (10, [.ref q31, .int 0, .int 0, .ref q42, .int 0, .ref q53, .int 0, .ref q64, .ref q75, .ref q86, .ref q97, .ref q108, .ref q119, .ref q130, .ref q141, .int 0, .ref q152, .int 0, .int 0, .int 0, .int 0, .int 0, .int 0, .int 0, .int 0, .int 0, .int 0, .int 0, .int 0, .int 0, .int 0, .int 0, .int 0, .null, .null, .null, .int 0, .int 0])) := by rw [ef159, va_up_self]
  obtain ⟨E162, eE162⟩ : ∃ z, z = va_up E157 9 (.inr (10, [.ref q31, .int 0, .int 0, .ref q42, .int 0, .ref q53, .int 0, .ref q64, .ref q75, .ref q86, .ref q97, .ref q108, .ref q119, .ref q130, .ref q141, .int 0, .ref q152, .int 0, .int 0, .int 0, .int 0, .int 0, .int 0, .int 0, .int 0, .int 0, .int 0, .int 0, .int 0, .int 0, .int 0, .int 0, .int 0, .null, .null, .null, .int 0, .int 0])) := ⟨_, rfl⟩
  have hR163 : Rg 22 (va_up (va_up (va_up (va_up (va_up (va_up (va_up (va_up (va_up (va_up (va_up (va_up ad 10 q31) 11 q42) 12 q53) 13 q64) 14 q75) 15 q86) 16 q97) 17 q108) 18 q119) 19 q130) 20 q141) 21 q152) E162 g f159 := by rw [ef159, eE162, ha]; exact hR158.up 9 (by decide) _
  refine lv_aload_n hx hb d_SM_init_109 rfl (lv_at hl 0 rfl) ?_
  refine lv_bipush (v := (-2)) hx hb d_SM_init_110 (by decide) ?_
  refine m_put hc hE hw h161 kc_SM l_SM_46_SM rfl ds_SM_22 rfl rfl (Nat.le_of_ble_eq_true rfl) d_SM_init_112 (fun H locs hw => ?_)
  obtain ⟨f164, ef164⟩ : ∃ z : Wd, z = va_up f159 mo (some (.inr (10, [.ref q31, .int 0, .int 0, .ref q42, .int 0, .ref q53, .int 0, .ref q64, .ref q75, .ref q86, .ref q97, .ref q108, .ref q119, .ref q130, .ref q141, .int 0, .ref q152, .int 0, .int 0, .int 0, .int 0, .int 0, .int (-2), .int 0, .int 0, .int 0, .int 0, .int 0, .int 0, .int 0, .int 0, .int 0, .int 0, .null, .null, .null, .int 0, .int 0]))) := ⟨_, rfl⟩
  replace hw : ms G.1 (Af f sz) f164 s H locs := by rw [ef164]; exact hw
  have h165 : f164 q152 = some (.inl (G.2.1 0, 10, .inl (fun _ => 0))) := by rw [ef164, va_up_ne _ _ (Ne.symm n_mo_q152)]; exact h160
  have h166 : f164 mo = some (.inr (10, [.ref q31, .int 0, .int 0, .ref q42, .int 0, .ref q53, .int 0, .ref q64, .ref q75, .ref q86, .ref q97, .ref q108, .ref q119, .ref q130, .ref q141, .int 0, .ref q152, .int 0, .int 0, .int 0, .int 0, .int 0, .int (-2), .int 0, .int 0, .int 0, .int 0, .int 0, .int 0, .int 0, .int 0, .int 0, .int 0, .null, .null, .null, .int 0, .int 0])) := by rw [ef164, va_up_self]
  obtain ⟨E167, eE167⟩ : ∃ z, z = va_up E162 9 (.inr (10, [.ref q31, .int 0, .int 0, .ref q42, .int 0, .ref q53, .int 0, .ref q64, .ref q75, .ref q86, .ref q97, .ref q108, .ref q119, .ref q130, .ref q141, .int 0, .ref q152, .int 0, .int 0, .int 0, .int 0, .int 0, .int (-2), .int 0, .int 0, .int 0, .int 0, .int 0, .int 0, .int 0, .int 0, .int 0, .int 0, .null, .null, .null, .int 0, .int 0])) := ⟨_, rfl⟩
  have hR168 : Rg 22 (va_up (va_up (va_up (va_up (va_up (va_up (va_up (va_up (va_up (va_up (va_up (va_up ad 10 q31) 11 q42) 12 q53) 13 q64) 14 q75) 15 q86) 16 q97) 17 q108) 18 q119) 19 q130) 20 q141) 21 q152) E167 g f164 := by rw [ef164, eE167, ha]; exact hR163.up 9 (by decide) _
  refine lv_aload_n hx hb d_SM_init_115 rfl (lv_at hl 0 rfl) ?_
  refine lv_bipush (v := 20) hx hb d_SM_init_116 (by decide) ?_
  refine m_newa hc hE hw (N' := 20) (a0 := (20, .inl (fun _ => 0))) ar_int rfl 0 rfl (fun _ => rfl) (by decide) (by decide) (by decide) (by first | decide | (dsimp only; omega)) (by first | decide | (dsimp only; omega)) d_SM_init_118 (fun q169 H u170 hw => ?_)
  obtain ⟨f171, ef171⟩ : ∃ z : Wd, z = va_up f164 q169 (some (.inl (G.2.1 0, 20, .inl (fun _ => 0)))) := ⟨_, rfl⟩
  replace hw : ms G.1 (Af f sz) f171 s H locs := by rw [ef171]; exact hw
  have n_mo_q169 : mo ≠ q169 := wnf h166 u170
  have h172 : f171 mo = some (.inr (10, [.ref q31, .int 0, .int 0, .ref q42, .int 0, .ref q53, .int 0, .ref q64, .ref q75, .ref q86, .ref q97, .ref q108, .ref q119, .ref q130, .ref q141, .int 0, .ref q152, .int 0, .int 0, .int 0, .int 0, .int 0, .int (-2), .int 0, .int 0, .int 0, .int 0, .int 0, .int 0, .int 0, .int 0, .int 0, .int 0, .null, .null, .null, .int 0, .int 0])) := by rw [ef171, va_up_ne _ _ n_mo_q169]; exact h166
  have n_q152_q169 : q152 ≠ q169 := wnf h165 u170
  have h173 : f171 q152 = some (.inl (G.2.1 0, 10, .inl (fun _ => 0))) := by rw [ef171, va_up_ne _ _ n_q152_q169]; exact h165
  have h174 : f171 q169 = some (.inl (G.2.1 0, 20, .inl (fun _ => 0))) := by rw [ef171, va_up_self]
  obtain ⟨E175, eE175⟩ : ∃ z, z = va_up E167 22 (.inl (G.2.1 0, 20, .inl (fun _ => 0))) := ⟨_, rfl⟩
  have hR176 : Rg 23 (va_up (va_up (va_up (va_up (va_up (va_up (va_up (va_up (va_up (va_up (va_up (va_up (va_up ad 10 q31) 11 q42) 12 q53) 13 q64) 14 q75) 15 q86) 16 q97) 17 q108) 18 q119) 19 q130) 20 q141) 21 q152) 22 q169) E175 g f171 := by rw [ef171, eE175]; exact hR168.add _ u170
  refine m_putF hc hE hw hin h172 kc_SM lf_SM_50_SM rfl rfl ds_SM_33 rfl rfl (Nat.le_of_ble_eq_true rfl) d_SM_init_120 (fun H locs hw => ?_)
  obtain ⟨f177, ef177⟩ : ∃ z : Wd, z = va_up f171 mo (some (.inr (10, [.ref q31, .int 0, .int 0, .ref q42, .int 0, .ref q53, .int 0, .ref q64, .ref q75, .ref q86, .ref q97, .ref q108, .ref q119, .ref q130, .ref q141, .int 0, .ref q152, .int 0, .int 0, .int 0, .int 0, .int 0, .int (-2), .int 0, .int 0, .int 0, .int 0, .int 0, .int 0, .int 0, .int 0, .int 0, .int 0, .ref q169, .null, .null, .int 0, .int 0]))) := ⟨_, rfl⟩
  replace hw : ms G.1 (Af f sz) f177 s H locs := by rw [ef177]; exact hw
  have h178 : f177 q152 = some (.inl (G.2.1 0, 10, .inl (fun _ => 0))) := by rw [ef177, va_up_ne _ _ (Ne.symm n_mo_q152)]; exact h173
  have h179 : f177 mo = some (.inr (10, [.ref q31, .int 0, .int 0, .ref q42, .int 0, .ref q53, .int 0, .ref q64, .ref q75, .ref q86, .ref q97, .ref q108, .ref q119, .ref q130, .ref q141, .int 0, .ref q152, .int 0, .int 0, .int 0, .int 0, .int 0, .int (-2), .int 0, .int 0, .int 0, .int 0, .int 0, .int 0, .int 0, .int 0, .int 0, .int 0, .ref q169, .null, .null, .int 0, .int 0])) := by rw [ef177, va_up_self]
  obtain ⟨E180, eE180⟩ : ∃ z, z = va_up E175 9 (.inr (10, [.ref q31, .int 0, .int 0, .ref q42, .int 0, .ref q53, .int 0, .ref q64, .ref q75, .ref q86, .ref q97, .ref q108, .ref q119, .ref q130, .ref q141, .int 0, .ref q152, .int 0, .int 0, .int 0, .int 0, .int 0, .int (-2), .int 0, .int 0, .int 0, .int 0, .int 0, .int 0, .int 0, .int 0, .int 0, .int 0, .ref q169, .null, .null, .int 0, .int 0])) := ⟨_, rfl⟩
  have hR181 : Rg 23 (va_up (va_up (va_up (va_up (va_up (va_up (va_up (va_up (va_up (va_up (va_up (va_up (va_up ad 10 q31) 11 q42) 12 q53) 13 q64) 14 q75) 15 q86) 16 q97) 17 q108) 18 q119) 19 q130) 20 q141) 21 q152) 22 q169) E180 g f177 := by rw [ef177, eE180, ha]; exact hR176.up 9 (by decide) _
  refine lv_aload_n hx hb d_SM_init_123 rfl (lv_at hl 0 rfl) ?_
  refine lv_bipush (v := 20) hx hb d_SM_init_124 (by decide) ?_
  refine m_newa hc hE hw (N' := 20) (a0 := (20, .inl (fun _ => 0))) ar_int rfl 0 rfl (fun _ => rfl) (by decide) (by decide) (by decide) (by first | decide | (dsimp only; omega)) (by first | decide | (dsimp only; omega)) d_SM_init_126 (fun q182 H u183 hw => ?_)
  obtain ⟨f184, ef184⟩ : ∃ z : Wd, z = va_up f177 q182 (some (.inl (G.2.1 0, 20, .inl (fun _ => 0)))) := ⟨_, rfl⟩
  replace hw : ms G.1 (Af f sz) f184 s H locs := by rw [ef184]; exact hw
  have n_mo_q182 : mo ≠ q182 := wnf h179 u183
  have h185 : f184 mo = some (.inr (10, [.ref q31, .int 0, .int 0, .ref q42, .int 0, .ref q53, .int 0, .ref q64, .ref q75, .ref q86, .ref q97, .ref q108, .ref q119, .ref q130, .ref q141, .int 0, .ref q152, .int 0, .int 0, .int 0, .int 0, .int 0, .int (-2), .int 0, .int 0, .int 0, .int 0, .int 0, .int 0, .int 0, .int 0, .int 0, .int 0, .ref q169, .null, .null, .int 0, .int 0])) := by rw [ef184, va_up_ne _ _ n_mo_q182]; exact h179
  have n_q152_q182 : q152 ≠ q182 := wnf h178 u183
  have h186 : f184 q152 = some (.inl (G.2.1 0, 10, .inl (fun _ => 0))) := by rw [ef184, va_up_ne _ _ n_q152_q182]; exact h178
  have h187 : f184 q182 = some (.inl (G.2.1 0, 20, .inl (fun _ => 0))) := by rw [ef184, va_up_self]
  obtain ⟨E188, eE188⟩ : ∃ z, z = va_up E180 23 (.inl (G.2.1 0, 20, .inl (fun _ => 0))) := ⟨_, rfl⟩
  have hR189 : Rg 24 (va_up (va_up (va_up (va_up (va_up (va_up (va_up (va_up (va_up (va_up (va_up (va_up (va_up (va_up ad 10 q31) 11 q42) 12 q53) 13 q64) 14 q75) 15 q86) 16 q97) 17 q108) 18 q119) 19 q130) 20 q141) 21 q152) 22 q169) 23 q182) E188 g f184 := by rw [ef184, eE188]; exact hR181.add _ u183
  refine m_putF hc hE hw hin h185 kc_SM lf_SM_53_SM rfl rfl ds_SM_34 rfl rfl (Nat.le_of_ble_eq_true rfl) d_SM_init_128 (fun H locs hw => ?_)
  obtain ⟨f190, ef190⟩ : ∃ z : Wd, z = va_up f184 mo (some (.inr (10, [.ref q31, .int 0, .int 0, .ref q42, .int 0, .ref q53, .int 0, .ref q64, .ref q75, .ref q86, .ref q97, .ref q108, .ref q119, .ref q130, .ref q141, .int 0, .ref q152, .int 0, .int 0, .int 0, .int 0, .int 0, .int (-2), .int 0, .int 0, .int 0, .int 0, .int 0, .int 0, .int 0, .int 0, .int 0, .int 0, .ref q169, .ref q182, .null, .int 0, .int 0]))) := ⟨_, rfl⟩
  replace hw : ms G.1 (Af f sz) f190 s H locs := by rw [ef190]; exact hw
  have h191 : f190 q152 = some (.inl (G.2.1 0, 10, .inl (fun _ => 0))) := by rw [ef190, va_up_ne _ _ (Ne.symm n_mo_q152)]; exact h186
  have h192 : f190 mo = some (.inr (10, [.ref q31, .int 0, .int 0, .ref q42, .int 0, .ref q53, .int 0, .ref q64, .ref q75, .ref q86, .ref q97, .ref q108, .ref q119, .ref q130, .ref q141, .int 0, .ref q152, .int 0, .int 0, .int 0, .int 0, .int 0, .int (-2), .int 0, .int 0, .int 0, .int 0, .int 0, .int 0, .int 0, .int 0, .int 0, .int 0, .ref q169, .ref q182, .null, .int 0, .int 0])) := by rw [ef190, va_up_self]
  obtain ⟨E193, eE193⟩ : ∃ z, z = va_up E188 9 (.inr (10, [.ref q31, .int 0, .int 0, .ref q42, .int 0, .ref q53, .int 0, .ref q64, .ref q75, .ref q86, .ref q97, .ref q108, .ref q119, .ref q130, .ref q141, .int 0, .ref q152, .int 0, .int 0, .int 0, .int 0, .int 0, .int (-2), .int 0, .int 0, .int 0, .int 0, .int 0, .int 0, .int 0, .int 0, .int 0, .int 0, .ref q169, .ref q182, .null, .int 0, .int 0])) := ⟨_, rfl⟩
  have hR194 : Rg 24 (va_up (va_up (va_up (va_up (va_up (va_up (va_up (va_up (va_up (va_up (va_up (va_up (va_up (va_up ad 10 q31) 11 q42) 12 q53) 13 q64) 14 q75) 15 q86) 16 q97) 17 q108) 18 q119) 19 q130) 20 q141) 21 q152) 22 q169) 23 q182) E193 g f190 := by rw [ef190, eE193, ha]; exact hR189.up 9 (by decide) _
  refine lv_aload_n hx hb d_SM_init_131 rfl (lv_at hl 0 rfl) ?_
  refine lv_bipush (v := 20) hx hb d_SM_init_132 (by decide) ?_
  refine m_newa hc hE hw (N' := 20) (a0 := (20, .inl (fun _ => 0))) ar_int rfl 0 rfl (fun _ => rfl) (by decide) (by decide) (by decide) (by first | decide | (dsimp only; omega)) (by first | decide | (dsimp only; omega)) d_SM_init_134 (fun q195 H u196 hw => ?_)
  obtain ⟨f197, ef197⟩ : ∃ z : Wd, z = va_up f190 q195 (some (.inl (G.2.1 0, 20, .inl (fun _ => 0)))) := ⟨_, rfl⟩
  replace hw : ms G.1 (Af f sz) f197 s H locs := by rw [ef197]; exact hw
  have n_mo_q195 : mo ≠ q195 := wnf h192 u196
  have h198 : f197 mo = some (.inr (10, [.ref q31, .int 0, .int 0, .ref q42, .int 0, .ref q53, .int 0, .ref q64, .ref q75, .ref q86, .ref q97, .ref q108, .ref q119, .ref q130, .ref q141, .int 0, .ref q152, .int 0, .int 0, .int 0, .int 0, .int 0, .int (-2), .int 0, .int 0, .int 0, .int 0, .int 0, .int 0, .int 0, .int 0, .int 0, .int 0, .ref q169, .ref q182, .null, .int 0, .int 0])) := by rw [ef197, va_up_ne _ _ n_mo_q195]; exact h192
  have n_q152_q195 : q152 ≠ q195 := wnf h191 u196
  have h199 : f197 q152 = some (.inl (G.2.1 0, 10, .inl (fun _ => 0))) := by rw [ef197, va_up_ne _ _ n_q152_q195]; exact h191
  have h200 : f197 q195 = some (.inl (G.2.1 0, 20, .inl (fun _ => 0))) := by rw [ef197, va_up_self]
  obtain ⟨E201, eE201⟩ : ∃ z, z = va_up E193 24 (.inl (G.2.1 0, 20, .inl (fun _ => 0))) := ⟨_, rfl⟩
  have hR202 : Rg 25 (va_up (va_up (va_up (va_up (va_up (va_up (va_up (va_up (va_up (va_up (va_up (va_up (va_up (va_up (va_up ad 10 q31) 11 q42) 12 q53) 13 q64) 14 q75) 15 q86) 16 q97) 17 q108) 18 q119) 19 q130) 20 q141) 21 q152) 22 q169) 23 q182) 24 q195) E201 g f197 := by rw [ef197, eE201]; exact hR194.add _ u196
  refine m_putF hc hE hw hin h198 kc_SM lf_SM_56_SM rfl rfl ds_SM_35 rfl rfl (Nat.le_of_ble_eq_true rfl) d_SM_init_136 (fun H locs hw => ?_)
  obtain ⟨f203, ef203⟩ : ∃ z : Wd, z = va_up f197 mo (some (.inr (10, [.ref q31, .int 0, .int 0, .ref q42, .int 0, .ref q53, .int 0, .ref q64, .ref q75, .ref q86, .ref q97, .ref q108, .ref q119, .ref q130, .ref q141, .int 0, .ref q152, .int 0, .int 0, .int 0, .int 0, .int 0, .int (-2), .int 0, .int 0, .int 0, .int 0, .int 0, .int 0, .int 0, .int 0, .int 0, .int 0, .ref q169, .ref q182, .ref q195, .int 0, .int 0]))) := ⟨_, rfl⟩
  replace hw : ms G.1 (Af f sz) f203 s H locs := by rw [ef203]; exact hw
  have h204 : f203 q152 = some (.inl (G.2.1 0, 10, .inl (fun _ => 0))) := by rw [ef203, va_up_ne _ _ (Ne.symm n_mo_q152)]; exact h199
  have h205 : f203 mo = some (.inr (10, [.ref q31, .int 0, .int 0, .ref q42, .int 0, .ref q53, .int 0, .ref q64, .ref q75, .ref q86, .ref q97, .ref q108, .ref q119, .ref q130, .ref q141, .int 0, .ref q152, .int 0, .int 0, .int 0, .int 0, .int 0, .int (-2), .int 0, .int 0, .int 0, .int 0, .int 0, .int 0, .int 0, .int 0, .int 0, .int 0, .ref q169, .ref q182, .ref q195, .int 0, .int 0])) := by rw [ef203, va_up_self]
  obtain ⟨E206, eE206⟩ : ∃ z, z = va_up E201 9 (.inr (10, [.ref q31, .int 0, .int 0, .ref q42, .int 0, .ref q53, .int 0, .ref q64, .ref q75, .ref q86, .ref q97, .ref q108, .ref q119, .ref q130, .ref q141, .int 0, .ref q152, .int 0, .int 0, .int 0, .int 0, .int 0, .int (-2), .int 0, .int 0, .int 0, .int 0, .int 0, .int 0, .int 0, .int 0, .int 0, .int 0, .ref q169, .ref q182, .ref q195, .int 0, .int 0])) := ⟨_, rfl⟩
  have hR207 : Rg 25 (va_up (va_up (va_up (va_up (va_up (va_up (va_up (va_up (va_up (va_up (va_up (va_up (va_up (va_up (va_up ad 10 q31) 11 q42) 12 q53) 13 q64) 14 q75) 15 q86) 16 q97) 17 q108) 18 q119) 19 q130) 20 q141) 21 q152) 22 q169) 23 q182) 24 q195) E206 g f203 := by rw [ef203, eE206, ha]; exact hR202.up 9 (by decide) _
  refine lv_iconst (v := 0) hx hb d_SM_init_139 (by decide) ?_
  refine lv_istore_n (lv' := [(1, .int 0), (0, .ref mo)]) hx hb d_SM_init_140 rfl hl (by decide) rfl (fun ls hl => ?_)
  refine lv_iload_n hx hb d_SM_init_141 rfl (lv_at hl 0 rfl) ?_
  refine lv_bipush (v := 10) hx hb d_SM_init_142 (by decide) ?_
  refine lv_icmp_ge (tgt := 160) hx hb d_SM_init_144 (by decide) (fun z => absurd z (by decide)) (fun _ => ?_)
  refine lv_aload_n hx hb d_SM_init_147 rfl (lv_at hl 1 rfl) ?_
  refine m_get hc hE hw h205 kc_SM l_SM_43_SM rfl d_SM_init_148 ?_
  refine lv_iload_n hx hb d_SM_init_151 rfl (lv_at hl 0 rfl) ?_
  refine lv_iconst (v := (-1)) hx hb d_SM_init_152 (by decide) ?_
  refine m_iast hc hE hw 0 h204 rfl (by first | assumption | (unfold vp_in; decide) | exact vp_in_nI (by omega) (by omega)) d_SM_init_153 (fun H locs hw => ?_)
  obtain ⟨f208, ef208⟩ : ∃ z : Wd, z = va_up f203 q152 (some (.inl (G.2.1 0, 10, .inl (upd (fun _ => 0) (0 : Int32).toNatClampNeg (-1))))) := ⟨_, rfl⟩
  replace hw : ms G.1 (Af f sz) f208 s H locs := by rw [ef208]; exact hw
  have h209 : f208 mo = some (.inr (10, [.ref q31, .int 0, .int 0, .ref q42, .int 0, .ref q53, .int 0, .ref q64, .ref q75, .ref q86, .ref q97, .ref q108, .ref q119, .ref q130, .ref q141, .int 0, .ref q152, .int 0, .int 0, .int 0, .int 0, .int 0, .int (-2), .int 0, .int 0, .int 0, .int 0, .int 0, .int 0, .int 0, .int 0, .int 0, .int 0, .ref q169, .ref q182, .ref q195, .int 0, .int 0])) := by rw [ef208, va_up_ne _ _ n_mo_q152]; exact h205
  have h210 : f208 q152 = some (.inl (G.2.1 0, 10, .inl (upd (fun _ => 0) (0 : Int32).toNatClampNeg (-1)))) := by rw [ef208, va_up_self]
  obtain ⟨E211, eE211⟩ : ∃ z, z = va_up E206 21 (.inl (G.2.1 0, 10, .inl (upd (fun _ => 0) (0 : Int32).toNatClampNeg (-1)))) := ⟨_, rfl⟩
  have hR212 : Rg 25 (va_up (va_up (va_up (va_up (va_up (va_up (va_up (va_up (va_up (va_up (va_up (va_up (va_up (va_up (va_up ad 10 q31) 11 q42) 12 q53) 13 q64) 14 q75) 15 q86) 16 q97) 17 q108) 18 q119) 19 q130) 20 q141) 21 q152) 22 q169) 23 q182) 24 q195) E211 g f208 := by rw [ef208, eE211]; exact hR207.up 21 (by decide) _
  refine lv_iinc (v := 1) (lv' := [(1, .int 1), (0, .ref mo)]) hx hb d_SM_init_154 hl (k := 0) rfl (by decide) (by decide) rfl (fun ls hl => ?_)
  refine lv_goto (tgt := 141) hx hb d_SM_init_157 (by decide) ?_
  refine lv_iload_n hx hb d_SM_init_141 rfl (lv_at hl 0 rfl) ?_
  refine lv_bipush (v := 10) hx hb d_SM_init_142 (by decide) ?_
  refine lv_icmp_ge (tgt := 160) hx hb d_SM_init_144 (by decide) (fun z => absurd z (by decide)) (fun _ => ?_)
  refine lv_aload_n hx hb d_SM_init_147 rfl (lv_at hl 1 rfl) ?_
  refine m_get hc hE hw h209 kc_SM l_SM_43_SM rfl d_SM_init_148 ?_
  refine lv_iload_n hx hb d_SM_init_151 rfl (lv_at hl 0 rfl) ?_
  refine lv_iconst (v := (-1)) hx hb d_SM_init_152 (by decide) ?_
  refine m_iast hc hE hw 0 h210 rfl (by first | assumption | (unfold vp_in; decide) | exact vp_in_nI (by omega) (by omega)) d_SM_init_153 (fun H locs hw => ?_)
  obtain ⟨f213, ef213⟩ : ∃ z : Wd, z = va_up f208 q152 (some (.inl (G.2.1 0, 10, .inl (upd (upd (fun _ => 0) (0 : Int32).toNatClampNeg (-1)) (1 : Int32).toNatClampNeg (-1))))) := ⟨_, rfl⟩
  replace hw : ms G.1 (Af f sz) f213 s H locs := by rw [ef213]; exact hw
  have h214 : f213 mo = some (.inr (10, [.ref q31, .int 0, .int 0, .ref q42, .int 0, .ref q53, .int 0, .ref q64, .ref q75, .ref q86, .ref q97, .ref q108, .ref q119, .ref q130, .ref q141, .int 0, .ref q152, .int 0, .int 0, .int 0, .int 0, .int 0, .int (-2), .int 0, .int 0, .int 0, .int 0, .int 0, .int 0, .int 0, .int 0, .int 0, .int 0, .ref q169, .ref q182, .ref q195, .int 0, .int 0])) := by rw [ef213, va_up_ne _ _ n_mo_q152]; exact h209
  have h215 : f213 q152 = some (.inl (G.2.1 0, 10, .inl (upd (upd (fun _ => 0) (0 : Int32).toNatClampNeg (-1)) (1 : Int32).toNatClampNeg (-1)))) := by rw [ef213, va_up_self]
  obtain ⟨E216, eE216⟩ : ∃ z, z = va_up E211 21 (.inl (G.2.1 0, 10, .inl (upd (upd (fun _ => 0) (0 : Int32).toNatClampNeg (-1)) (1 : Int32).toNatClampNeg (-1)))) := ⟨_, rfl⟩
  have hR217 : Rg 25 (va_up (va_up (va_up (va_up (va_up (va_up (va_up (va_up (va_up (va_up (va_up (va_up (va_up (va_up (va_up ad 10 q31) 11 q42) 12 q53) 13 q64) 14 q75) 15 q86) 16 q97) 17 q108) 18 q119) 19 q130) 20 q141) 21 q152) 22 q169) 23 q182) 24 q195) E216 g f213 := by rw [ef213, eE216]; exact hR212.up 21 (by decide) _
  refine lv_iinc (v := 2) (lv' := [(1, .int 2), (0, .ref mo)]) hx hb d_SM_init_154 hl (k := 0) rfl (by decide) (by decide) rfl (fun ls hl => ?_)
  refine lv_goto (tgt := 141) hx hb d_SM_init_157 (by decide) ?_
  refine lv_iload_n hx hb d_SM_init_141 rfl (lv_at hl 0 rfl) ?_
  refine lv_bipush (v := 10) hx hb d_SM_init_142 (by decide) ?_
  refine lv_icmp_ge (tgt := 160) hx hb d_SM_init_144 (by decide) (fun z => absurd z (by decide)) (fun _ => ?_)
  refine lv_aload_n hx hb d_SM_init_147 rfl (lv_at hl 1 rfl) ?_
  refine m_get hc hE hw h214 kc_SM l_SM_43_SM rfl d_SM_init_148 ?_
  refine lv_iload_n hx hb d_SM_init_151 rfl (lv_at hl 0 rfl) ?_
  refine lv_iconst (v := (-1)) hx hb d_SM_init_152 (by decide) ?_
  refine m_iast hc hE hw 0 h215 rfl (by first | assumption | (unfold vp_in; decide) | exact vp_in_nI (by omega) (by omega)) d_SM_init_153 (fun H locs hw => ?_)
  obtain ⟨f218, ef218⟩ : ∃ z : Wd, z = va_up f213 q152 (some (.inl (G.2.1 0, 10, .inl (upd (upd (upd (fun _ => 0) (0 : Int32).toNatClampNeg (-1)) (1 : Int32).toNatClampNeg (-1)) (2 : Int32).toNatClampNeg (-1))))) := ⟨_, rfl⟩
  replace hw : ms G.1 (Af f sz) f218 s H locs := by rw [ef218]; exact hw
  have h219 : f218 mo = some (.inr (10, [.ref q31, .int 0, .int 0, .ref q42, .int 0, .ref q53, .int 0, .ref q64, .ref q75, .ref q86, .ref q97, .ref q108, .ref q119, .ref q130, .ref q141, .int 0, .ref q152, .int 0, .int 0, .int 0, .int 0, .int 0, .int (-2), .int 0, .int 0, .int 0, .int 0, .int 0, .int 0, .int 0, .int 0, .int 0, .int 0, .ref q169, .ref q182, .ref q195, .int 0, .int 0])) := by rw [ef218, va_up_ne _ _ n_mo_q152]; exact h214
  have h220 : f218 q152 = some (.inl (G.2.1 0, 10, .inl (upd (upd (upd (fun _ => 0) (0 : Int32).toNatClampNeg (-1)) (1 : Int32).toNatClampNeg (-1)) (2 : Int32).toNatClampNeg (-1)))) := by rw [ef218, va_up_self]
  obtain ⟨E221, eE221⟩ : ∃ z, z = va_up E216 21 (.inl (G.2.1 0, 10, .inl (upd (upd (upd (fun _ => 0) (0 : Int32).toNatClampNeg (-1)) (1 : Int32).toNatClampNeg (-1)) (2 : Int32).toNatClampNeg (-1)))) := ⟨_, rfl⟩
  have hR222 : Rg 25 (va_up (va_up (va_up (va_up (va_up (va_up (va_up (va_up (va_up (va_up (va_up (va_up (va_up (va_up (va_up ad 10 q31) 11 q42) 12 q53) 13 q64) 14 q75) 15 q86) 16 q97) 17 q108) 18 q119) 19 q130) 20 q141) 21 q152) 22 q169) 23 q182) 24 q195) E221 g f218 := by rw [ef218, eE221]; exact hR217.up 21 (by decide) _
  refine lv_iinc (v := 3) (lv' := [(1, .int 3), (0, .ref mo)]) hx hb d_SM_init_154 hl (k := 0) rfl (by decide) (by decide) rfl (fun ls hl => ?_)
  refine lv_goto (tgt := 141) hx hb d_SM_init_157 (by decide) ?_
  refine lv_iload_n hx hb d_SM_init_141 rfl (lv_at hl 0 rfl) ?_
  refine lv_bipush (v := 10) hx hb d_SM_init_142 (by decide) ?_
  refine lv_icmp_ge (tgt := 160) hx hb d_SM_init_144 (by decide) (fun z => absurd z (by decide)) (fun _ => ?_)
  refine lv_aload_n hx hb d_SM_init_147 rfl (lv_at hl 1 rfl) ?_
  refine m_get hc hE hw h219 kc_SM l_SM_43_SM rfl d_SM_init_148 ?_
  refine lv_iload_n hx hb d_SM_init_151 rfl (lv_at hl 0 rfl) ?_
  refine lv_iconst (v := (-1)) hx hb d_SM_init_152 (by decide) ?_
  refine m_iast hc hE hw 0 h220 rfl (by first | assumption | (unfold vp_in; decide) | exact vp_in_nI (by omega) (by omega)) d_SM_init_153 (fun H locs hw => ?_)
  obtain ⟨f223, ef223⟩ : ∃ z : Wd, z = va_up f218 q152 (some (.inl (G.2.1 0, 10, .inl (upd (upd (upd (upd (fun _ => 0) (0 : Int32).toNatClampNeg (-1)) (1 : Int32).toNatClampNeg (-1)) (2 : Int32).toNatClampNeg (-1)) (3 : Int32).toNatClampNeg (-1))))) := ⟨_, rfl⟩
  replace hw : ms G.1 (Af f sz) f223 s H locs := by rw [ef223]; exact hw
  have h224 : f223 mo = some (.inr (10, [.ref q31, .int 0, .int 0, .ref q42, .int 0, .ref q53, .int 0, .ref q64, .ref q75, .ref q86, .ref q97, .ref q108, .ref q119, .ref q130, .ref q141, .int 0, .ref q152, .int 0, .int 0, .int 0, .int 0, .int 0, .int (-2), .int 0, .int 0, .int 0, .int 0, .int 0, .int 0, .int 0, .int 0, .int 0, .int 0, .ref q169, .ref q182, .ref q195, .int 0, .int 0])) := by rw [ef223, va_up_ne _ _ n_mo_q152]; exact h219
  have h225 : f223 q152 = some (.inl (G.2.1 0, 10, .inl (upd (upd (upd (upd (fun _ => 0) (0 : Int32).toNatClampNeg (-1)) (1 : Int32).toNatClampNeg (-1)) (2 : Int32).toNatClampNeg (-1)) (3 : Int32).toNatClampNeg (-1)))) := by rw [ef223, va_up_self]
  obtain ⟨E226, eE226⟩ : ∃ z, z = va_up E221 21 (.inl (G.2.1 0, 10, .inl (upd (upd (upd (upd (fun _ => 0) (0 : Int32).toNatClampNeg (-1)) (1 : Int32).toNatClampNeg (-1)) (2 : Int32).toNatClampNeg (-1)) (3 : Int32).toNatClampNeg (-1)))) := ⟨_, rfl⟩
  have hR227 : Rg 25 (va_up (va_up (va_up (va_up (va_up (va_up (va_up (va_up (va_up (va_up (va_up (va_up (va_up (va_up (va_up ad 10 q31) 11 q42) 12 q53) 13 q64) 14 q75) 15 q86) 16 q97) 17 q108) 18 q119) 19 q130) 20 q141) 21 q152) 22 q169) 23 q182) 24 q195) E226 g f223 := by rw [ef223, eE226]; exact hR222.up 21 (by decide) _
  refine lv_iinc (v := 4) (lv' := [(1, .int 4), (0, .ref mo)]) hx hb d_SM_init_154 hl (k := 0) rfl (by decide) (by decide) rfl (fun ls hl => ?_)
  refine lv_goto (tgt := 141) hx hb d_SM_init_157 (by decide) ?_
  refine lv_iload_n hx hb d_SM_init_141 rfl (lv_at hl 0 rfl) ?_
  refine lv_bipush (v := 10) hx hb d_SM_init_142 (by decide) ?_
  refine lv_icmp_ge (tgt := 160) hx hb d_SM_init_144 (by decide) (fun z => absurd z (by decide)) (fun _ => ?_)
  refine lv_aload_n hx hb d_SM_init_147 rfl (lv_at hl 1 rfl) ?_
  refine m_get hc hE hw h224 kc_SM l_SM_43_SM rfl d_SM_init_148 ?_
  refine lv_iload_n hx hb d_SM_init_151 rfl (lv_at hl 0 rfl) ?_
  refine lv_iconst (v := (-1)) hx hb d_SM_init_152 (by decide) ?_
  refine m_iast hc hE hw 0 h225 rfl (by first | assumption | (unfold vp_in; decide) | exact vp_in_nI (by omega) (by omega)) d_SM_init_153 (fun H locs hw => ?_)
  obtain ⟨f228, ef228⟩ : ∃ z : Wd, z = va_up f223 q152 (some (.inl (G.2.1 0, 10, .inl (upd (upd (upd (upd (upd (fun _ => 0) (0 : Int32).toNatClampNeg (-1)) (1 : Int32).toNatClampNeg (-1)) (2 : Int32).toNatClampNeg (-1)) (3 : Int32).toNatClampNeg (-1)) (4 : Int32).toNatClampNeg (-1))))) := ⟨_, rfl⟩
  replace hw : ms G.1 (Af f sz) f228 s H locs := by rw [ef228]; exact hw
  have h229 : f228 mo = some (.inr (10, [.ref q31, .int 0, .int 0, .ref q42, .int 0, .ref q53, .int 0, .ref q64, .ref q75, .ref q86, .ref q97, .ref q108, .ref q119, .ref q130, .ref q141, .int 0, .ref q152, .int 0, .int 0, .int 0, .int 0, .int 0, .int (-2), .int 0, .int 0, .int 0, .int 0, .int 0, .int 0, .int 0, .int 0, .int 0, .int 0, .ref q169, .ref q182, .ref q195, .int 0, .int 0])) := by rw [ef228, va_up_ne _ _ n_mo_q152]; exact h224
  have h230 : f228 q152 = some (.inl (G.2.1 0, 10, .inl (upd (upd (upd (upd (upd (fun _ => 0) (0 : Int32).toNatClampNeg (-1)) (1 : Int32).toNatClampNeg (-1)) (2 : Int32).toNatClampNeg (-1)) (3 : Int32).toNatClampNeg (-1)) (4 : Int32).toNatClampNeg (-1)))) := by rw [ef228, va_up_self]
  obtain ⟨E231, eE231⟩ : ∃ z, z = va_up E226 21 (.inl (G.2.1 0, 10, .inl (upd (upd (upd (upd (upd (fun _ => 0) (0 : Int32).toNatClampNeg (-1)) (1 : Int32).toNatClampNeg (-1)) (2 : Int32).toNatClampNeg (-1)) (3 : Int32).toNatClampNeg (-1)) (4 : Int32).toNatClampNeg (-1)))) := ⟨_, rfl⟩
  have hR232 : Rg 25 (va_up (va_up (va_up (va_up (va_up (va_up (va_up (va_up (va_up (va_up (va_up (va_up (va_up (va_up (va_up ad 10 q31) 11 q42) 12 q53) 13 q64) 14 q75) 15 q86) 16 q97) 17 q108) 18 q119) 19 q130) 20 q141) 21 q152) 22 q169) 23 q182) 24 q195) E231 g f228 := by rw [ef228, eE231]; exact hR227.up 21 (by decide) _
  refine lv_iinc (v := 5) (lv' := [(1, .int 5), (0, .ref mo)]) hx hb d_SM_init_154 hl (k := 0) rfl (by decide) (by decide) rfl (fun ls hl => ?_)
  refine lv_goto (tgt := 141) hx hb d_SM_init_157 (by decide) ?_
  refine lv_iload_n hx hb d_SM_init_141 rfl (lv_at hl 0 rfl) ?_
  refine lv_bipush (v := 10) hx hb d_SM_init_142 (by decide) ?_
  refine lv_icmp_ge (tgt := 160) hx hb d_SM_init_144 (by decide) (fun z => absurd z (by decide)) (fun _ => ?_)
  refine lv_aload_n hx hb d_SM_init_147 rfl (lv_at hl 1 rfl) ?_
  refine m_get hc hE hw h229 kc_SM l_SM_43_SM rfl d_SM_init_148 ?_
  refine lv_iload_n hx hb d_SM_init_151 rfl (lv_at hl 0 rfl) ?_
  refine lv_iconst (v := (-1)) hx hb d_SM_init_152 (by decide) ?_
  refine m_iast hc hE hw 0 h230 rfl (by first | assumption | (unfold vp_in; decide) | exact vp_in_nI (by omega) (by omega)) d_SM_init_153 (fun H locs hw => ?_)
  obtain ⟨f233, ef233⟩ : ∃ z : Wd, z = va_up f228 q152 (some (.inl (G.2.1 0, 10, .inl (upd (upd (upd (upd (upd (upd (fun _ => 0) (0 : Int32).toNatClampNeg (-1)) (1 : Int32).toNatClampNeg (-1)) (2 : Int32).toNatClampNeg (-1)) (3 : Int32).toNatClampNeg (-1)) (4 : Int32).toNatClampNeg (-1)) (5 : Int32).toNatClampNeg (-1))))) := ⟨_, rfl⟩
  replace hw : ms G.1 (Af f sz) f233 s H locs := by rw [ef233]; exact hw
  have h234 : f233 mo = some (.inr (10, [.ref q31, .int 0, .int 0, .ref q42, .int 0, .ref q53, .int 0, .ref q64, .ref q75, .ref q86, .ref q97, .ref q108, .ref q119, .ref q130, .ref q141, .int 0, .ref q152, .int 0, .int 0, .int 0, .int 0, .int 0, .int (-2), .int 0, .int 0, .int 0, .int 0, .int 0, .int 0, .int 0, .int 0, .int 0, .int 0, .ref q169, .ref q182, .ref q195, .int 0, .int 0])) := by rw [ef233, va_up_ne _ _ n_mo_q152]; exact h229
  have h235 : f233 q152 = some (.inl (G.2.1 0, 10, .inl (upd (upd (upd (upd (upd (upd (fun _ => 0) (0 : Int32).toNatClampNeg (-1)) (1 : Int32).toNatClampNeg (-1)) (2 : Int32).toNatClampNeg (-1)) (3 : Int32).toNatClampNeg (-1)) (4 : Int32).toNatClampNeg (-1)) (5 : Int32).toNatClampNeg (-1)))) := by rw [ef233, va_up_self]
  obtain ⟨E236, eE236⟩ : ∃ z, z = va_up E231 21 (.inl (G.2.1 0, 10, .inl (upd (upd (upd (upd (upd (upd (fun _ => 0) (0 : Int32).toNatClampNeg (-1)) (1 : Int32).toNatClampNeg (-1)) (2 : Int32).toNatClampNeg (-1)) (3 : Int32).toNatClampNeg (-1)) (4 : Int32).toNatClampNeg (-1)) (5 : Int32).toNatClampNeg (-1)))) := ⟨_, rfl⟩
  have hR237 : Rg 25 (va_up (va_up (va_up (va_up (va_up (va_up (va_up (va_up (va_up (va_up (va_up (va_up (va_up (va_up (va_up ad 10 q31) 11 q42) 12 q53) 13 q64) 14 q75) 15 q86) 16 q97) 17 q108) 18 q119) 19 q130) 20 q141) 21 q152) 22 q169) 23 q182) 24 q195) E236 g f233 := by rw [ef233, eE236]; exact hR232.up 21 (by decide) _
  refine lv_iinc (v := 6) (lv' := [(1, .int 6), (0, .ref mo)]) hx hb d_SM_init_154 hl (k := 0) rfl (by decide) (by decide) rfl (fun ls hl => ?_)
  refine lv_goto (tgt := 141) hx hb d_SM_init_157 (by decide) ?_
  refine lv_iload_n hx hb d_SM_init_141 rfl (lv_at hl 0 rfl) ?_
  refine lv_bipush (v := 10) hx hb d_SM_init_142 (by decide) ?_
  refine lv_icmp_ge (tgt := 160) hx hb d_SM_init_144 (by decide) (fun z => absurd z (by decide)) (fun _ => ?_)
  refine lv_aload_n hx hb d_SM_init_147 rfl (lv_at hl 1 rfl) ?_
  refine m_get hc hE hw h234 kc_SM l_SM_43_SM rfl d_SM_init_148 ?_
  refine lv_iload_n hx hb d_SM_init_151 rfl (lv_at hl 0 rfl) ?_
  refine lv_iconst (v := (-1)) hx hb d_SM_init_152 (by decide) ?_
  refine m_iast hc hE hw 0 h235 rfl (by first | assumption | (unfold vp_in; decide) | exact vp_in_nI (by omega) (by omega)) d_SM_init_153 (fun H locs hw => ?_)
  obtain ⟨f238, ef238⟩ : ∃ z : Wd, z = va_up f233 q152 (some (.inl (G.2.1 0, 10, .inl (upd (upd (upd (upd (upd (upd (upd (fun _ => 0) (0 : Int32).toNatClampNeg (-1)) (1 : Int32).toNatClampNeg (-1)) (2 : Int32).toNatClampNeg (-1)) (3 : Int32).toNatClampNeg (-1)) (4 : Int32).toNatClampNeg (-1)) (5 : Int32).toNatClampNeg (-1)) (6 : Int32).toNatClampNeg (-1))))) := ⟨_, rfl⟩
  replace hw : ms G.1 (Af f sz) f238 s H locs := by rw [ef238]; exact hw
  have h239 : f238 mo = some (.inr (10, [.ref q31, .int 0, .int 0, .ref q42, .int 0, .ref q53, .int 0, .ref q64, .ref q75, .ref q86, .ref q97, .ref q108, .ref q119, .ref q130, .ref q141, .int 0, .ref q152, .int 0, .int 0, .int 0, .int 0, .int 0, .int (-2), .int 0, .int 0, .int 0, .int 0, .int 0, .int 0, .int 0, .int 0, .int 0, .int 0, .ref q169, .ref q182, .ref q195, .int 0, .int 0])) := by rw [ef238, va_up_ne _ _ n_mo_q152]; exact h234
  have h240 : f238 q152 = some (.inl (G.2.1 0, 10, .inl (upd (upd (upd (upd (upd (upd (upd (fun _ => 0) (0 : Int32).toNatClampNeg (-1)) (1 : Int32).toNatClampNeg (-1)) (2 : Int32).toNatClampNeg (-1)) (3 : Int32).toNatClampNeg (-1)) (4 : Int32).toNatClampNeg (-1)) (5 : Int32).toNatClampNeg (-1)) (6 : Int32).toNatClampNeg (-1)))) := by rw [ef238, va_up_self]
  obtain ⟨E241, eE241⟩ : ∃ z, z = va_up E236 21 (.inl (G.2.1 0, 10, .inl (upd (upd (upd (upd (upd (upd (upd (fun _ => 0) (0 : Int32).toNatClampNeg (-1)) (1 : Int32).toNatClampNeg (-1)) (2 : Int32).toNatClampNeg (-1)) (3 : Int32).toNatClampNeg (-1)) (4 : Int32).toNatClampNeg (-1)) (5 : Int32).toNatClampNeg (-1)) (6 : Int32).toNatClampNeg (-1)))) := ⟨_, rfl⟩
  have hR242 : Rg 25 (va_up (va_up (va_up (va_up (va_up (va_up (va_up (va_up (va_up (va_up (va_up (va_up (va_up (va_up (va_up ad 10 q31) 11 q42) 12 q53) 13 q64) 14 q75) 15 q86) 16 q97) 17 q108) 18 q119) 19 q130) 20 q141) 21 q152) 22 q169) 23 q182) 24 q195) E241 g f238 := by rw [ef238, eE241]; exact hR237.up 21 (by decide) _
  refine lv_iinc (v := 7) (lv' := [(1, .int 7), (0, .ref mo)]) hx hb d_SM_init_154 hl (k := 0) rfl (by decide) (by decide) rfl (fun ls hl => ?_)
  refine lv_goto (tgt := 141) hx hb d_SM_init_157 (by decide) ?_
  refine lv_iload_n hx hb d_SM_init_141 rfl (lv_at hl 0 rfl) ?_
  refine lv_bipush (v := 10) hx hb d_SM_init_142 (by decide) ?_
  refine lv_icmp_ge (tgt := 160) hx hb d_SM_init_144 (by decide) (fun z => absurd z (by decide)) (fun _ => ?_)
  refine lv_aload_n hx hb d_SM_init_147 rfl (lv_at hl 1 rfl) ?_
  refine m_get hc hE hw h239 kc_SM l_SM_43_SM rfl d_SM_init_148 ?_
  refine lv_iload_n hx hb d_SM_init_151 rfl (lv_at hl 0 rfl) ?_
  refine lv_iconst (v := (-1)) hx hb d_SM_init_152 (by decide) ?_
  refine m_iast hc hE hw 0 h240 rfl (by first | assumption | (unfold vp_in; decide) | exact vp_in_nI (by omega) (by omega)) d_SM_init_153 (fun H locs hw => ?_)
  obtain ⟨f243, ef243⟩ : ∃ z : Wd, z = va_up f238 q152 (some (.inl (G.2.1 0, 10, .inl (upd (upd (upd (upd (upd (upd (upd (upd (fun _ => 0) (0 : Int32).toNatClampNeg (-1)) (1 : Int32).toNatClampNeg (-1)) (2 : Int32).toNatClampNeg (-1)) (3 : Int32).toNatClampNeg (-1)) (4 : Int32).toNatClampNeg (-1)) (5 : Int32).toNatClampNeg (-1)) (6 : Int32).toNatClampNeg (-1)) (7 : Int32).toNatClampNeg (-1))))) := ⟨_, rfl⟩
  replace hw : ms G.1 (Af f sz) f243 s H locs := by rw [ef243]; exact hw
  have h244 : f243 mo = some (.inr (10, [.ref q31, .int 0, .int 0, .ref q42, .int 0, .ref q53, .int 0, .ref q64, .ref q75, .ref q86, .ref q97, .ref q108, .ref q119, .ref q130, .ref q141, .int 0, .ref q152, .int 0, .int 0, .int 0, .int 0, .int 0, .int (-2), .int 0, .int 0, .int 0, .int 0, .int 0, .int 0, .int 0, .int 0, .int 0, .int 0, .ref q169, .ref q182, .ref q195, .int 0, .int 0])) := by rw [ef243, va_up_ne _ _ n_mo_q152]; exact h239
  have h245 : f243 q152 = some (.inl (G.2.1 0, 10, .inl (upd (upd (upd (upd (upd (upd (upd (upd (fun _ => 0) (0 : Int32).toNatClampNeg (-1)) (1 : Int32).toNatClampNeg (-1)) (2 : Int32).toNatClampNeg (-1)) (3 : Int32).toNatClampNeg (-1)) (4 : Int32).toNatClampNeg (-1)) (5 : Int32).toNatClampNeg (-1)) (6 : Int32).toNatClampNeg (-1)) (7 : Int32).toNatClampNeg (-1)))) := by rw [ef243, va_up_self]
  obtain ⟨E246, eE246⟩ : ∃ z, z = va_up E241 21 (.inl (G.2.1 0, 10, .inl (upd (upd (upd (upd (upd (upd (upd (upd (fun _ => 0) (0 : Int32).toNatClampNeg (-1)) (1 : Int32).toNatClampNeg (-1)) (2 : Int32).toNatClampNeg (-1)) (3 : Int32).toNatClampNeg (-1)) (4 : Int32).toNatClampNeg (-1)) (5 : Int32).toNatClampNeg (-1)) (6 : Int32).toNatClampNeg (-1)) (7 : Int32).toNatClampNeg (-1)))) := ⟨_, rfl⟩
  have hR247 : Rg 25 (va_up (va_up (va_up (va_up (va_up (va_up (va_up (va_up (va_up (va_up (va_up (va_up (va_up (va_up (va_up ad 10 q31) 11 q42) 12 q53) 13 q64) 14 q75) 15 q86) 16 q97) 17 q108) 18 q119) 19 q130) 20 q141) 21 q152) 22 q169) 23 q182) 24 q195) E246 g f243 := by rw [ef243, eE246]; exact hR242.up 21 (by decide) _
  refine lv_iinc (v := 8) (lv' := [(1, .int 8), (0, .ref mo)]) hx hb d_SM_init_154 hl (k := 0) rfl (by decide) (by decide) rfl (fun ls hl => ?_)
  refine lv_goto (tgt := 141) hx hb d_SM_init_157 (by decide) ?_
  refine lv_iload_n hx hb d_SM_init_141 rfl (lv_at hl 0 rfl) ?_
  refine lv_bipush (v := 10) hx hb d_SM_init_142 (by decide) ?_
  refine lv_icmp_ge (tgt := 160) hx hb d_SM_init_144 (by decide) (fun z => absurd z (by decide)) (fun _ => ?_)
  refine lv_aload_n hx hb d_SM_init_147 rfl (lv_at hl 1 rfl) ?_
  refine m_get hc hE hw h244 kc_SM l_SM_43_SM rfl d_SM_init_148 ?_
  refine lv_iload_n hx hb d_SM_init_151 rfl (lv_at hl 0 rfl) ?_
  refine lv_iconst (v := (-1)) hx hb d_SM_init_152 (by decide) ?_
  refine m_iast hc hE hw 0 h245 rfl (by first | assumption | (unfold vp_in; decide) | exact vp_in_nI (by omega) (by omega)) d_SM_init_153 (fun H locs hw => ?_)
  obtain ⟨f248, ef248⟩ : ∃ z : Wd, z = va_up f243 q152 (some (.inl (G.2.1 0, 10, .inl (upd (upd (upd (upd (upd (upd (upd (upd (upd (fun _ => 0) (0 : Int32).toNatClampNeg (-1)) (1 : Int32).toNatClampNeg (-1)) (2 : Int32).toNatClampNeg (-1)) (3 : Int32).toNatClampNeg (-1)) (4 : Int32).toNatClampNeg (-1)) (5 : Int32).toNatClampNeg (-1)) (6 : Int32).toNatClampNeg (-1)) (7 : Int32).toNatClampNeg (-1)) (8 : Int32).toNatClampNeg (-1))))) := ⟨_, rfl⟩
  replace hw : ms G.1 (Af f sz) f248 s H locs := by rw [ef248]; exact hw
  have h249 : f248 mo = some (.inr (10, [.ref q31, .int 0, .int 0, .ref q42, .int 0, .ref q53, .int 0, .ref q64, .ref q75, .ref q86, .ref q97, .ref q108, .ref q119, .ref q130, .ref q141, .int 0, .ref q152, .int 0, .int 0, .int 0, .int 0, .int 0, .int (-2), .int 0, .int 0, .int 0, .int 0, .int 0, .int 0, .int 0, .int 0, .int 0, .int 0, .ref q169, .ref q182, .ref q195, .int 0, .int 0])) := by rw [ef248, va_up_ne _ _ n_mo_q152]; exact h244
  have h250 : f248 q152 = some (.inl (G.2.1 0, 10, .inl (upd (upd (upd (upd (upd (upd (upd (upd (upd (fun _ => 0) (0 : Int32).toNatClampNeg (-1)) (1 : Int32).toNatClampNeg (-1)) (2 : Int32).toNatClampNeg (-1)) (3 : Int32).toNatClampNeg (-1)) (4 : Int32).toNatClampNeg (-1)) (5 : Int32).toNatClampNeg (-1)) (6 : Int32).toNatClampNeg (-1)) (7 : Int32).toNatClampNeg (-1)) (8 : Int32).toNatClampNeg (-1)))) := by rw [ef248, va_up_self]
  obtain ⟨E251, eE251⟩ : ∃ z, z = va_up E246 21 (.inl (G.2.1 0, 10, .inl (upd (upd (upd (upd (upd (upd (upd (upd (upd (fun _ => 0) (0 : Int32).toNatClampNeg (-1)) (1 : Int32).toNatClampNeg (-1)) (2 : Int32).toNatClampNeg (-1)) (3 : Int32).toNatClampNeg (-1)) (4 : Int32).toNatClampNeg (-1)) (5 : Int32).toNatClampNeg (-1)) (6 : Int32).toNatClampNeg (-1)) (7 : Int32).toNatClampNeg (-1)) (8 : Int32).toNatClampNeg (-1)))) := ⟨_, rfl⟩
  have hR252 : Rg 25 (va_up (va_up (va_up (va_up (va_up (va_up (va_up (va_up (va_up (va_up (va_up (va_up (va_up (va_up (va_up ad 10 q31) 11 q42) 12 q53) 13 q64) 14 q75) 15 q86) 16 q97) 17 q108) 18 q119) 19 q130) 20 q141) 21 q152) 22 q169) 23 q182) 24 q195) E251 g f248 := by rw [ef248, eE251]; exact hR247.up 21 (by decide) _
  refine lv_iinc (v := 9) (lv' := [(1, .int 9), (0, .ref mo)]) hx hb d_SM_init_154 hl (k := 0) rfl (by decide) (by decide) rfl (fun ls hl => ?_)
  refine lv_goto (tgt := 141) hx hb d_SM_init_157 (by decide) ?_
  refine lv_iload_n hx hb d_SM_init_141 rfl (lv_at hl 0 rfl) ?_
  refine lv_bipush (v := 10) hx hb d_SM_init_142 (by decide) ?_
  refine lv_icmp_ge (tgt := 160) hx hb d_SM_init_144 (by decide) (fun z => absurd z (by decide)) (fun _ => ?_)
  refine lv_aload_n hx hb d_SM_init_147 rfl (lv_at hl 1 rfl) ?_
  refine m_get hc hE hw h249 kc_SM l_SM_43_SM rfl d_SM_init_148 ?_
  refine lv_iload_n hx hb d_SM_init_151 rfl (lv_at hl 0 rfl) ?_
  refine lv_iconst (v := (-1)) hx hb d_SM_init_152 (by decide) ?_
  refine m_iast hc hE hw 0 h250 rfl (by first | assumption | (unfold vp_in; decide) | exact vp_in_nI (by omega) (by omega)) d_SM_init_153 (fun H locs hw => ?_)
  obtain ⟨f253, ef253⟩ : ∃ z : Wd, z = va_up f248 q152 (some (.inl (G.2.1 0, 10, .inl (upd (upd (upd (upd (upd (upd (upd (upd (upd (upd (fun _ => 0) (0 : Int32).toNatClampNeg (-1)) (1 : Int32).toNatClampNeg (-1)) (2 : Int32).toNatClampNeg (-1)) (3 : Int32).toNatClampNeg (-1)) (4 : Int32).toNatClampNeg (-1)) (5 : Int32).toNatClampNeg (-1)) (6 : Int32).toNatClampNeg (-1)) (7 : Int32).toNatClampNeg (-1)) (8 : Int32).toNatClampNeg (-1)) (9 : Int32).toNatClampNeg (-1))))) := ⟨_, rfl⟩
  replace hw : ms G.1 (Af f sz) f253 s H locs := by rw [ef253]; exact hw
  have h254 : f253 mo = some (.inr (10, [.ref q31, .int 0, .int 0, .ref q42, .int 0, .ref q53, .int 0, .ref q64, .ref q75, .ref q86, .ref q97, .ref q108, .ref q119, .ref q130, .ref q141, .int 0, .ref q152, .int 0, .int 0, .int 0, .int 0, .int 0, .int (-2), .int 0, .int 0, .int 0, .int 0, .int 0, .int 0, .int 0, .int 0, .int 0, .int 0, .ref q169, .ref q182, .ref q195, .int 0, .int 0])) := by rw [ef253, va_up_ne _ _ n_mo_q152]; exact h249
  have h255 : f253 q152 = some (.inl (G.2.1 0, 10, .inl (upd (upd (upd (upd (upd (upd (upd (upd (upd (upd (fun _ => 0) (0 : Int32).toNatClampNeg (-1)) (1 : Int32).toNatClampNeg (-1)) (2 : Int32).toNatClampNeg (-1)) (3 : Int32).toNatClampNeg (-1)) (4 : Int32).toNatClampNeg (-1)) (5 : Int32).toNatClampNeg (-1)) (6 : Int32).toNatClampNeg (-1)) (7 : Int32).toNatClampNeg (-1)) (8 : Int32).toNatClampNeg (-1)) (9 : Int32).toNatClampNeg (-1)))) := by rw [ef253, va_up_self]
  obtain ⟨E256, eE256⟩ : ∃ z, z = va_up E251 21 (.inl (G.2.1 0, 10, .inl (upd (upd (upd (upd (upd (upd (upd (upd (upd (upd (fun _ => 0) (0 : Int32).toNatClampNeg (-1)) (1 : Int32).toNatClampNeg (-1)) (2 : Int32).toNatClampNeg (-1)) (3 : Int32).toNatClampNeg (-1)) (4 : Int32).toNatClampNeg (-1)) (5 : Int32).toNatClampNeg (-1)) (6 : Int32).toNatClampNeg (-1)) (7 : Int32).toNatClampNeg (-1)) (8 : Int32).toNatClampNeg (-1)) (9 : Int32).toNatClampNeg (-1)))) := ⟨_, rfl⟩
  have hR257 : Rg 25 (va_up (va_up (va_up (va_up (va_up (va_up (va_up (va_up (va_up (va_up (va_up (va_up (va_up (va_up (va_up ad 10 q31) 11 q42) 12 q53) 13 q64) 14 q75) 15 q86) 16 q97) 17 q108) 18 q119) 19 q130) 20 q141) 21 q152) 22 q169) 23 q182) 24 q195) E256 g f253 := by rw [ef253, eE256]; exact hR252.up 21 (by decide) _
  refine lv_iinc (v := 10) (lv' := [(1, .int 10), (0, .ref mo)]) hx hb d_SM_init_154 hl (k := 0) rfl (by decide) (by decide) rfl (fun ls hl => ?_)
  refine lv_goto (tgt := 141) hx hb d_SM_init_157 (by decide) ?_
  refine lv_iload_n hx hb d_SM_init_141 rfl (lv_at hl 0 rfl) ?_
  refine lv_bipush (v := 10) hx hb d_SM_init_142 (by decide) ?_
  refine lv_icmp_ge (tgt := 160) hx hb d_SM_init_144 (by decide) (fun _ => ?_) (fun z => absurd z (by decide))
  subst eE256 eE251 eE246 eE241 eE236 eE231 eE226 eE221 eE216 eE211 eE206 eE201 eE193 eE188 eE180 eE175 eE167 eE162 eE157 eE150 eE146 eE139 eE135 eE128 eE124 eE117 eE113 eE106 eE102 eE95 eE91 eE84 eE80 eE73 eE69 eE62 eE58 eE51 eE47 eE40 eE36
  have hslot : ∀ j : Nat, j < 10 → (upd (upd (upd (upd (upd (upd (upd (upd (upd (upd (fun _ => 0) (0 : Int32).toNatClampNeg (-1)) (1 : Int32).toNatClampNeg (-1)) (2 : Int32).toNatClampNeg (-1)) (3 : Int32).toNatClampNeg (-1)) (4 : Int32).toNatClampNeg (-1)) (5 : Int32).toNatClampNeg (-1)) (6 : Int32).toNatClampNeg (-1)) (7 : Int32).toNatClampNeg (-1)) (8 : Int32).toNatClampNeg (-1)) (9 : Int32).toNatClampNeg (-1)) j = -1 := by decide
  refine m_vret hc hr hlk hw ⟨by first | decide | (dsimp only; omega), by first | decide | (dsimp only; omega)⟩ d_SM_init_160 ⟨_, _, (fun k => if k = 10 then -2 else 0), (fun k => if k = 11 then (upd (upd (upd (upd (upd (upd (upd (upd (upd (upd (fun _ => 0) (0 : Int32).toNatClampNeg (-1)) (1 : Int32).toNatClampNeg (-1)) (2 : Int32).toNatClampNeg (-1)) (3 : Int32).toNatClampNeg (-1)) (4 : Int32).toNatClampNeg (-1)) (5 : Int32).toNatClampNeg (-1)) (6 : Int32).toNatClampNeg (-1)) (7 : Int32).toNatClampNeg (-1)) (8 : Int32).toNatClampNeg (-1)) (9 : Int32).toNatClampNeg (-1)) else fun _ => 0), hR257, fun k hk => ?_, fun k hk => ?_, rfl, fun k hk => ?_, ⟨rfl, rfl, rfl, rfl, rfl⟩, ⟨rfl, rfl, rfl⟩, ⟨rfl, rfl, rfl⟩, ⟨fun j hj => absurd hj (Nat.not_lt_zero _), rfl, rfl, fun j hj => absurd hj (Nat.not_lt_zero _)⟩, ⟨by omega, by omega, by omega, by omega, by omega⟩, fun j hj => Or.inl ⟨?_, rfl⟩⟩
  · rcases (show k = 0 ∨ k = 1 ∨ k = 2 ∨ k = 3 ∨ k = 4 ∨ k = 5 ∨ k = 6 ∨ k = 7 ∨ k = 8 ∨ k = 9 by omega) with rfl | rfl | rfl | rfl | rfl | rfl | rfl | rfl | rfl | rfl <;> rfl
  · rcases (show k = 0 ∨ k = 1 ∨ k = 2 ∨ k = 3 ∨ k = 4 ∨ k = 5 ∨ k = 6 ∨ k = 7 ∨ k = 8 by omega) with rfl | rfl | rfl | rfl | rfl | rfl | rfl | rfl | rfl <;> rfl
  · rcases (show k = 0 ∨ k = 1 ∨ k = 2 ∨ k = 3 ∨ k = 4 ∨ k = 5 ∨ k = 6 ∨ k = 7 ∨ k = 8 ∨ k = 9 ∨ k = 10 ∨ k = 11 ∨ k = 12 ∨ k = 13 ∨ k = 14 by omega) with rfl | rfl | rfl | rfl | rfl | rfl | rfl | rfl | rfl | rfl | rfl | rfl | rfl | rfl | rfl <;> rfl
  · exact hslot j hj
