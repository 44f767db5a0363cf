/-! links of the pools, as the walks ask for them -/
theorem cw_SM_79 : cwk "StreamFiltersModel" 79 y_SM_add b_SM_add 3 none 2 := ⟨Or.inl (tb 741 (by decide +kernel) rfl), (tb 744 (by decide +kernel) rfl), (tb 5 (by decide +kernel) rfl), by decide, by decide, by decide +kernel⟩
theorem se_SM_add : Cond.instanceMethod y_SM_add ∈ TB ∧ Cond.selects "StreamFiltersModel" y_SM_add y_SM_add ∈ TB := ⟨(tb 743 (by decide +kernel) rfl), (tbs 16 (by decide +kernel) rfl)⟩
/-! decode rows -/
theorem d_SM_type_0 : decode b_SM_type 0 = .ok (.aload_n 0, 1) := by decide +kernel
theorem d_SM_type_1 : decode b_SM_type 1 = .ok (.iload_n 1, 1) := by decide +kernel
theorem d_SM_type_2 : decode b_SM_type 2 = .ok (.iconst 3, 1) := by decide +kernel
theorem d_SM_type_3 : decode b_SM_type 3 = .ok (.invokevirtual 71, 3) := by decide +kernel
theorem d_SM_type_6 : decode b_SM_type 6 = .ok (.ifCond .eq 5, 3) := by decide +kernel
theorem d_SM_type_9 : decode b_SM_type 9 = .ok (.iconst (-1), 1) := by decide +kernel
theorem d_SM_type_10 : decode b_SM_type 10 = .ok (.ireturn, 1) := by decide +kernel
theorem d_SM_type_11 : decode b_SM_type 11 = .ok (.iconst 0, 1) := by decide +kernel
theorem d_SM_type_12 : decode b_SM_type 12 = .ok (.istore 4, 2) := by decide +kernel
theorem d_SM_type_14 : decode b_SM_type 14 = .ok (.iconst 0, 1) := by decide +kernel
theorem d_SM_type_15 : decode b_SM_type 15 = .ok (.istore 5, 2) := by decide +kernel
theorem d_SM_type_17 : decode b_SM_type 17 = .ok (.iload 5, 2) := by decide +kernel
theorem d_SM_type_19 : decode b_SM_type 19 = .ok (.bipush 8, 2) := by decide +kernel
theorem d_SM_type_21 : decode b_SM_type 21 = .ok (.if_icmp .ge 59, 3) := by decide +kernel
theorem d_SM_type_24 : decode b_SM_type 24 = .ok (.lload_n 2, 1) := by decide +kernel
theorem d_SM_type_25 : decode b_SM_type 25 = .ok (.bipush 8, 2) := by decide +kernel
theorem d_SM_type_27 : decode b_SM_type 27 = .ok (.iload 5, 2) := by decide +kernel
theorem d_SM_type_29 : decode b_SM_type 29 = .ok (.imul, 1) := by decide +kernel
theorem d_SM_type_30 : decode b_SM_type 30 = .ok (.lshr, 1) := by decide +kernel
theorem d_SM_type_31 : decode b_SM_type 31 = .ok (.l2i, 1) := by decide +kernel
theorem d_SM_type_32 : decode b_SM_type 32 = .ok (.sipush 255, 3) := by decide +kernel
theorem d_SM_type_35 : decode b_SM_type 35 = .ok (.iand, 1) := by decide +kernel
theorem d_SM_type_36 : decode b_SM_type 36 = .ok (.istore 6, 2) := by decide +kernel
theorem d_SM_type_38 : decode b_SM_type 38 = .ok (.iload 6, 2) := by decide +kernel
theorem d_SM_type_40 : decode b_SM_type 40 = .ok (.ifCond .eq 19, 3) := by decide +kernel
theorem d_SM_type_43 : decode b_SM_type 43 = .ok (.iload 6, 2) := by decide +kernel
theorem d_SM_type_45 : decode b_SM_type 45 = .ok (.bipush 33, 2) := by decide +kernel
theorem d_SM_type_47 : decode b_SM_type 47 = .ok (.if_icmp .lt 10, 3) := by decide +kernel
theorem d_SM_type_50 : decode b_SM_type 50 = .ok (.iload 6, 2) := by decide +kernel
theorem d_SM_type_52 : decode b_SM_type 52 = .ok (.bipush 126, 2) := by decide +kernel
theorem d_SM_type_54 : decode b_SM_type 54 = .ok (.if_icmp .le 5, 3) := by decide +kernel
theorem d_SM_type_57 : decode b_SM_type 57 = .ok (.iconst (-1), 1) := by decide +kernel
theorem d_SM_type_58 : decode b_SM_type 58 = .ok (.ireturn, 1) := by decide +kernel
theorem d_SM_type_59 : decode b_SM_type 59 = .ok (.iload 4, 2) := by decide +kernel
theorem d_SM_type_61 : decode b_SM_type 61 = .ok (.iload 6, 2) := by decide +kernel
theorem d_SM_type_63 : decode b_SM_type 63 = .ok (.ifCond .eq 7, 3) := by decide +kernel
theorem d_SM_type_66 : decode b_SM_type 66 = .ok (.iconst 1, 1) := by decide +kernel
theorem d_SM_type_67 : decode b_SM_type 67 = .ok (.goto 4, 3) := by decide +kernel
theorem d_SM_type_70 : decode b_SM_type 70 = .ok (.iconst 0, 1) := by decide +kernel
theorem d_SM_type_71 : decode b_SM_type 71 = .ok (.iadd, 1) := by decide +kernel
theorem d_SM_type_72 : decode b_SM_type 72 = .ok (.istore 4, 2) := by decide +kernel
theorem d_SM_type_74 : decode b_SM_type 74 = .ok (.iinc 5 1, 3) := by decide +kernel
theorem d_SM_type_77 : decode b_SM_type 77 = .ok (.goto (-60), 3) := by decide +kernel
theorem d_SM_type_80 : decode b_SM_type 80 = .ok (.aload_n 0, 1) := by decide +kernel
theorem d_SM_type_81 : decode b_SM_type 81 = .ok (.iload_n 1, 1) := by decide +kernel
theorem d_SM_type_82 : decode b_SM_type 82 = .ok (.invokevirtual 75, 3) := by decide +kernel
theorem d_SM_type_85 : decode b_SM_type 85 = .ok (.iload 4, 2) := by decide +kernel
theorem d_SM_type_87 : decode b_SM_type 87 = .ok (.iadd, 1) := by decide +kernel
theorem d_SM_type_88 : decode b_SM_type 88 = .ok (.iload_n 1, 1) := by decide +kernel
theorem d_SM_type_89 : decode b_SM_type 89 = .ok (.ifCond .ne 8, 3) := by decide +kernel
theorem d_SM_type_92 : decode b_SM_type 92 = .ok (.bipush 90, 2) := by decide +kernel
theorem d_SM_type_94 : decode b_SM_type 94 = .ok (.goto 15, 3) := by decide +kernel
theorem d_SM_type_97 : decode b_SM_type 97 = .ok (.iload_n 1, 1) := by decide +kernel
theorem d_SM_type_98 : decode b_SM_type 98 = .ok (.iconst 1, 1) := by decide +kernel
theorem d_SM_type_99 : decode b_SM_type 99 = .ok (.if_icmp .ne 8, 3) := by decide +kernel
theorem d_SM_type_102 : decode b_SM_type 102 = .ok (.bipush 40, 2) := by decide +kernel
theorem d_SM_type_104 : decode b_SM_type 104 = .ok (.goto 5, 3) := by decide +kernel
theorem d_SM_type_107 : decode b_SM_type 107 = .ok (.bipush 12, 2) := by decide +kernel
theorem d_SM_type_109 : decode b_SM_type 109 = .ok (.if_icmp .le 6, 3) := by decide +kernel
theorem d_SM_type_112 : decode b_SM_type 112 = .ok (.bipush (-3), 2) := by decide +kernel
theorem d_SM_type_114 : decode b_SM_type 114 = .ok (.ireturn, 1) := by decide +kernel
theorem d_SM_type_115 : decode b_SM_type 115 = .ok (.bipush 7, 2) := by decide +kernel
theorem d_SM_type_117 : decode b_SM_type 117 = .ok (.istore 5, 2) := by decide +kernel
theorem d_SM_type_119 : decode b_SM_type 119 = .ok (.iload 5, 2) := by decide +kernel
theorem d_SM_type_121 : decode b_SM_type 121 = .ok (.ifCond .lt 35, 3) := by decide +kernel
theorem d_SM_type_124 : decode b_SM_type 124 = .ok (.lload_n 2, 1) := by decide +kernel
theorem d_SM_type_125 : decode b_SM_type 125 = .ok (.bipush 8, 2) := by decide +kernel
theorem d_SM_type_127 : decode b_SM_type 127 = .ok (.iload 5, 2) := by decide +kernel
theorem d_SM_type_129 : decode b_SM_type 129 = .ok (.imul, 1) := by decide +kernel
theorem d_SM_type_130 : decode b_SM_type 130 = .ok (.lshr, 1) := by decide +kernel
theorem d_SM_type_131 : decode b_SM_type 131 = .ok (.l2i, 1) := by decide +kernel
theorem d_SM_type_132 : decode b_SM_type 132 = .ok (.sipush 255, 3) := by decide +kernel
theorem d_SM_type_135 : decode b_SM_type 135 = .ok (.iand, 1) := by decide +kernel
theorem d_SM_type_136 : decode b_SM_type 136 = .ok (.istore 6, 2) := by decide +kernel
theorem d_SM_type_138 : decode b_SM_type 138 = .ok (.iload 6, 2) := by decide +kernel
theorem d_SM_type_140 : decode b_SM_type 140 = .ok (.ifCond .eq 10, 3) := by decide +kernel
theorem d_SM_type_143 : decode b_SM_type 143 = .ok (.aload_n 0, 1) := by decide +kernel
theorem d_SM_type_144 : decode b_SM_type 144 = .ok (.iload_n 1, 1) := by decide +kernel
theorem d_SM_type_145 : decode b_SM_type 145 = .ok (.iload 6, 2) := by decide +kernel
theorem d_SM_type_147 : decode b_SM_type 147 = .ok (.invokevirtual 79, 3) := by decide +kernel
theorem d_SM_type_150 : decode b_SM_type 150 = .ok (.iinc 5 (-1), 3) := by decide +kernel
theorem d_SM_type_153 : decode b_SM_type 153 = .ok (.goto (-34), 3) := by decide +kernel
theorem d_SM_type_156 : decode b_SM_type 156 = .ok (.aload_n 0, 1) := by decide +kernel
theorem d_SM_type_157 : decode b_SM_type 157 = .ok (.iload_n 1, 1) := by decide +kernel
theorem d_SM_type_158 : decode b_SM_type 158 = .ok (.invokevirtual 75, 3) := by decide +kernel
theorem d_SM_type_161 : decode b_SM_type 161 = .ok (.ireturn, 1) := by decide +kernel
theorem d_SM_add_0 : decode b_SM_add 0 = .ok (.iload_n 1, 1) := by decide +kernel
theorem d_SM_add_1 : decode b_SM_add 1 = .ok (.ifCond .ne 26, 3) := by decide +kernel
theorem d_SM_add_4 : decode b_SM_add 4 = .ok (.aload_n 0, 1) := by decide +kernel
theorem d_SM_add_5 : decode b_SM_add 5 = .ok (.getfield 7, 3) := by decide +kernel
theorem d_SM_add_8 : decode b_SM_add 8 = .ok (.aload_n 0, 1) := by decide +kernel
theorem d_SM_add_9 : decode b_SM_add 9 = .ok (.getfield 59, 3) := by decide +kernel
theorem d_SM_add_12 : decode b_SM_add 12 = .ok (.iload_n 2, 1) := by decide +kernel
theorem d_SM_add_13 : decode b_SM_add 13 = .ok (.iastore, 1) := by decide +kernel
theorem d_SM_add_14 : decode b_SM_add 14 = .ok (.aload_n 0, 1) := by decide +kernel
theorem d_SM_add_15 : decode b_SM_add 15 = .ok (.dup, 1) := by decide +kernel
theorem d_SM_add_16 : decode b_SM_add 16 = .ok (.getfield 59, 3) := by decide +kernel
theorem d_SM_add_19 : decode b_SM_add 19 = .ok (.iconst 1, 1) := by decide +kernel
theorem d_SM_add_20 : decode b_SM_add 20 = .ok (.iadd, 1) := by decide +kernel
theorem d_SM_add_21 : decode b_SM_add 21 = .ok (.putfield 59, 3) := by decide +kernel
theorem d_SM_add_24 : decode b_SM_add 24 = .ok (.goto 51, 3) := by decide +kernel
theorem d_SM_add_27 : decode b_SM_add 27 = .ok (.iload_n 1, 1) := by decide +kernel
theorem d_SM_add_28 : decode b_SM_add 28 = .ok (.iconst 1, 1) := by decide +kernel
theorem d_SM_add_29 : decode b_SM_add 29 = .ok (.if_icmp .ne 26, 3) := by decide +kernel
theorem d_SM_add_32 : decode b_SM_add 32 = .ok (.aload_n 0, 1) := by decide +kernel
theorem d_SM_add_33 : decode b_SM_add 33 = .ok (.getfield 13, 3) := by decide +kernel
theorem d_SM_add_36 : decode b_SM_add 36 = .ok (.aload_n 0, 1) := by decide +kernel
theorem d_SM_add_37 : decode b_SM_add 37 = .ok (.getfield 65, 3) := by decide +kernel
theorem d_SM_add_40 : decode b_SM_add 40 = .ok (.iload_n 2, 1) := by decide +kernel
theorem d_SM_add_41 : decode b_SM_add 41 = .ok (.iastore, 1) := by decide +kernel
theorem d_SM_add_42 : decode b_SM_add 42 = .ok (.aload_n 0, 1) := by decide +kernel
theorem d_SM_add_43 : decode b_SM_add 43 = .ok (.dup, 1) := by decide +kernel
theorem d_SM_add_44 : decode b_SM_add 44 = .ok (.getfield 65, 3) := by decide +kernel
theorem d_SM_add_47 : decode b_SM_add 47 = .ok (.iconst 1, 1) := by decide +kernel
theorem d_SM_add_48 : decode b_SM_add 48 = .ok (.iadd, 1) := by decide +kernel
theorem d_SM_add_49 : decode b_SM_add 49 = .ok (.putfield 65, 3) := by decide +kernel
theorem d_SM_add_52 : decode b_SM_add 52 = .ok (.goto 23, 3) := by decide +kernel
theorem d_SM_add_55 : decode b_SM_add 55 = .ok (.aload_n 0, 1) := by decide +kernel
theorem d_SM_add_56 : decode b_SM_add 56 = .ok (.getfield 16, 3) := by decide +kernel
theorem d_SM_add_59 : decode b_SM_add 59 = .ok (.aload_n 0, 1) := by decide +kernel
theorem d_SM_add_60 : decode b_SM_add 60 = .ok (.getfield 68, 3) := by decide +kernel
theorem d_SM_add_63 : decode b_SM_add 63 = .ok (.iload_n 2, 1) := by decide +kernel
theorem d_SM_add_64 : decode b_SM_add 64 = .ok (.iastore, 1) := by decide +kernel
theorem d_SM_add_65 : decode b_SM_add 65 = .ok (.aload_n 0, 1) := by decide +kernel
theorem d_SM_add_66 : decode b_SM_add 66 = .ok (.dup, 1) := by decide +kernel
theorem d_SM_add_67 : decode b_SM_add 67 = .ok (.getfield 68, 3) := by decide +kernel
theorem d_SM_add_70 : decode b_SM_add 70 = .ok (.iconst 1, 1) := by decide +kernel
theorem d_SM_add_71 : decode b_SM_add 71 = .ok (.iadd, 1) := by decide +kernel
theorem d_SM_add_72 : decode b_SM_add 72 = .ok (.putfield 68, 3) := by decide +kernel
theorem d_SM_add_75 : decode b_SM_add 75 = .ok (.return_, 1) := by decide +kernel
set_option maxHeartbeats 4000000 in
set_option maxRecDepth 100000 in
/-- add -/
theorem c_SM_add0 (G : GG) (l : Launch) (sz : Nat) (f : Wd) {mo : Nat} {ar : Nat → Nat} {sc : Nat → Int32} {av : Nat → Nat → Int32} (hM : Mw G mo ar sc av f) {L : Nat} (hL : sc 0 = nI L) (hlt : L < 4200) (cc0 : Int32) : Cv G l y_SM_add b_SM_add 3 none ({ frames := 0, cells := 0, slots := 0, locals := 0 }) sz f [.ref mo, .int 0, .int cc0] (fun f' => Mw G mo ar (upd sc 0 (nI (L + 1))) (va_up av 0 (upd (av 0) L cc0)) f' ∧ Mx mo ar f f') := by
  refine ct_of (by decide) (Nat.le_of_ble_eq_true rfl) ?_
  intro p e s m below meth c ls H locs hEn
  obtain ⟨hc, hr, hlk, hin, hE, hw, hsz, hl⟩ := hEn
  have hx := hc.1
  have hb := hc.2.1
  have hl : lv_has ls 3 [(0, .ref mo), (1, .int 0), (2, .int cc0)] := hl
  have hX : Mx mo ar f f := Mx.rf
  refine lv_iload_n hx hb d_SM_add_0 rfl (lv_at hl 1 rfl) ?_
  refine lv_if_ne (tgt := 27) hx hb d_SM_add_1 (by decide) (fun z => absurd z (by decide)) (fun _ => ?_)
  refine lv_aload_n hx hb d_SM_add_4 rfl (lv_at hl 0 rfl) ?_
  refine m_mget (v := .ref (ar 0)) hc hE hw hM l_SM_7_SM rfl d_SM_add_5 ?_
  refine lv_aload_n hx hb d_SM_add_8 rfl (lv_at hl 0 rfl) ?_
  refine m_mget (v := .int (sc 0)) hc hE hw hM l_SM_59_SM rfl d_SM_add_9 ?_
  refine m_top (y := nI L) hL ?_
  refine lv_iload_n hx hb d_SM_add_12 rfl (lv_at hl 2 rfl) ?_
  refine m_mast (k := 0) (j := L) hc hE hw hM hX (by decide) (nI_clamp (n := L) (by omega)) (vp_in_nI (N := 4200) (by omega) (by decide)) d_SM_add_13 (fun H locs f21 hM22 hX23 hw => ?_)
  replace hM22 : Mw G mo ar sc (va_up av 0 (upd (av 0) L cc0)) f21 := hM22
  refine lv_aload_n hx hb d_SM_add_14 rfl (lv_at hl 0 rfl) ?_
  refine lv_dup hx hb d_SM_add_15 rfl ?_
  refine m_mget (v := .int (sc 0)) hc hE hw hM22 l_SM_59_SM rfl d_SM_add_16 ?_
  refine m_top (y := nI L) hL ?_
  refine lv_iconst (v := 1) hx hb d_SM_add_19 (by decide) ?_
  refine lv_iadd hx hb d_SM_add_20 ?_
  refine m_top (y := (nI (L + 1))) (nI_add L 1) ?_
  refine m_mput (sc' := (upd sc 0 (nI (L + 1)))) hc hE hw hM22 hX23 l_SM_59_SM rfl ds_SM_1 rfl rfl rfl d_SM_add_21 (fun H locs f24 hM25 hX26 hw => ?_)
  refine lv_goto (tgt := 75) hx hb d_SM_add_24 (by decide) ?_
  exact m_vret hc hr hlk hw ⟨by first | decide | (dsimp only; omega), by first | decide | (dsimp only; omega)⟩ d_SM_add_75 ⟨hM25, hX26⟩

set_option maxHeartbeats 4000000 in
set_option maxRecDepth 100000 in
/-- add -/
theorem c_SM_add1 (G : GG) (l : Launch) (sz : Nat) (f : Wd) {mo : Nat} {ar : Nat → Nat} {sc : Nat → Int32} {av : Nat → Nat → Int32} (hM : Mw G mo ar sc av f) {L : Nat} (hL : sc 2 = nI L) (hlt : L < 40) (cc0 : Int32) : Cv G l y_SM_add b_SM_add 3 none ({ frames := 0, cells := 0, slots := 0, locals := 0 }) sz f [.ref mo, .int 1, .int cc0] (fun f' => Mw G mo ar (upd sc 2 (nI (L + 1))) (va_up av 1 (upd (av 1) L cc0)) f' ∧ Mx mo ar f f') := by
  refine ct_of (by decide) (Nat.le_of_ble_eq_true rfl) ?_
  intro p e s m below meth c ls H locs hEn
  obtain ⟨hc, hr, hlk, hin, hE, hw, hsz, hl⟩ := hEn
  have hx := hc.1
  have hb := hc.2.1
  have hl : lv_has ls 3 [(0, .ref mo), (1, .int 1), (2, .int cc0)] := hl
  have hX : Mx mo ar f f := Mx.rf
  refine lv_iload_n hx hb d_SM_add_0 rfl (lv_at hl 1 rfl) ?_
  refine lv_if_ne (tgt := 27) hx hb d_SM_add_1 (by decide) (fun _ => ?_) (fun z => absurd z (by decide))
  refine lv_iload_n hx hb d_SM_add_27 rfl (lv_at hl 1 rfl) ?_
  refine lv_iconst (v := 1) hx hb d_SM_add_28 (by decide) ?_
  refine lv_icmp_ne (tgt := 55) hx hb d_SM_add_29 (by decide) (fun z => absurd z (by decide)) (fun _ => ?_)
  refine lv_aload_n hx hb d_SM_add_32 rfl (lv_at hl 0 rfl) ?_
  refine m_mget (v := .ref (ar 1)) hc hE hw hM l_SM_13_SM rfl d_SM_add_33 ?_
  refine lv_aload_n hx hb d_SM_add_36 rfl (lv_at hl 0 rfl) ?_
  refine m_mget (v := .int (sc 2)) hc hE hw hM l_SM_65_SM rfl d_SM_add_37 ?_
  refine m_top (y := nI L) hL ?_
  refine lv_iload_n hx hb d_SM_add_40 rfl (lv_at hl 2 rfl) ?_
  refine m_mast (k := 1) (j := L) hc hE hw hM hX (by decide) (nI_clamp (n := L) (by omega)) (vp_in_nI (N := 40) (by omega) (by decide)) d_SM_add_41 (fun H locs f21 hM22 hX23 hw => ?_)
  replace hM22 : Mw G mo ar sc (va_up av 1 (upd (av 1) L cc0)) f21 := hM22
  refine lv_aload_n hx hb d_SM_add_42 rfl (lv_at hl 0 rfl) ?_
  refine lv_dup hx hb d_SM_add_43 rfl ?_
  refine m_mget (v := .int (sc 2)) hc hE hw hM22 l_SM_65_SM rfl d_SM_add_44 ?_
  refine m_top (y := nI L) hL ?_
  refine lv_iconst (v := 1) hx hb d_SM_add_47 (by decide) ?_
  refine lv_iadd hx hb d_SM_add_48 ?_
  refine m_top (y := (nI (L + 1))) (nI_add L 1) ?_
  refine m_mput (sc' := (upd sc 2 (nI (L + 1)))) hc hE hw hM22 hX23 l_SM_65_SM rfl ds_SM_4 rfl rfl rfl d_SM_add_49 (fun H locs f24 hM25 hX26 hw => ?_)
  refine lv_goto (tgt := 75) hx hb d_SM_add_52 (by decide) ?_
  exact m_vret hc hr hlk hw ⟨by first | decide | (dsimp only; omega), by first | decide | (dsimp only; omega)⟩ d_SM_add_75 ⟨hM25, hX26⟩

set_option maxHeartbeats 4000000 in
set_option maxRecDepth 100000 in
/-- add -/
theorem c_SM_add2 (G : GG) (l : Launch) (sz : Nat) (f : Wd) {mo : Nat} {ar : Nat → Nat} {sc : Nat → Int32} {av : Nat → Nat → Int32} (hM : Mw G mo ar sc av f) {L : Nat} (hL : sc 3 = nI L) (hlt : L < 12) (cc0 : Int32) : Cv G l y_SM_add b_SM_add 3 none ({ frames := 0, cells := 0, slots := 0, locals := 0 }) sz f [.ref mo, .int 2, .int cc0] (fun f' => Mw G mo ar (upd sc 3 (nI (L + 1))) (va_up av 2 (upd (av 2) L cc0)) f' ∧ Mx mo ar f f') := by
  refine ct_of (by decide) (Nat.le_of_ble_eq_true rfl) ?_
  intro p e s m below meth c ls H locs hEn
  obtain ⟨hc, hr, hlk, hin, hE, hw, hsz, hl⟩ := hEn
  have hx := hc.1
  have hb := hc.2.1
  have hl : lv_has ls 3 [(0, .ref mo), (1, .int 2), (2, .int cc0)] := hl
  have hX : Mx mo ar f f := Mx.rf
  refine lv_iload_n hx hb d_SM_add_0 rfl (lv_at hl 1 rfl) ?_
  refine lv_if_ne (tgt := 27) hx hb d_SM_add_1 (by decide) (fun _ => ?_) (fun z => absurd z (by decide))
  refine lv_iload_n hx hb d_SM_add_27 rfl (lv_at hl 1 rfl) ?_
  refine lv_iconst (v := 1) hx hb d_SM_add_28 (by decide) ?_
  refine lv_icmp_ne (tgt := 55) hx hb d_SM_add_29 (by decide) (fun _ => ?_) (fun z => absurd z (by decide))
  refine lv_aload_n hx hb d_SM_add_55 rfl (lv_at hl 0 rfl) ?_
  refine m_mget (v := .ref (ar 2)) hc hE hw hM l_SM_16_SM rfl d_SM_add_56 ?_
  refine lv_aload_n hx hb d_SM_add_59 rfl (lv_at hl 0 rfl) ?_
  refine m_mget (v := .int (sc 3)) hc hE hw hM l_SM_68_SM rfl d_SM_add_60 ?_
  refine m_top (y := nI L) hL ?_
  refine lv_iload_n hx hb d_SM_add_63 rfl (lv_at hl 2 rfl) ?_
  refine m_mast (k := 2) (j := L) hc hE hw hM hX (by decide) (nI_clamp (n := L) (by omega)) (vp_in_nI (N := 12) (by omega) (by decide)) d_SM_add_64 (fun H locs f21 hM22 hX23 hw => ?_)
  replace hM22 : Mw G mo ar sc (va_up av 2 (upd (av 2) L cc0)) f21 := hM22
  refine lv_aload_n hx hb d_SM_add_65 rfl (lv_at hl 0 rfl) ?_
  refine lv_dup hx hb d_SM_add_66 rfl ?_
  refine m_mget (v := .int (sc 3)) hc hE hw hM22 l_SM_68_SM rfl d_SM_add_67 ?_
  refine m_top (y := nI L) hL ?_
  refine lv_iconst (v := 1) hx hb d_SM_add_70 (by decide) ?_
  refine lv_iadd hx hb d_SM_add_71 ?_
  refine m_top (y := (nI (L + 1))) (nI_add L 1) ?_
  refine m_mput (sc' := (upd sc 3 (nI (L + 1)))) hc hE hw hM22 hX23 l_SM_68_SM rfl ds_SM_6 rfl rfl rfl d_SM_add_72 (fun H locs f24 hM25 hX26 hw => ?_)
  exact m_vret hc hr hlk hw ⟨by first | decide | (dsimp only; omega), by first | decide | (dsimp only; omega)⟩ d_SM_add_75 ⟨hM25, hX26⟩

set_option maxHeartbeats 4000000 in
set_option maxRecDepth 100000 in
/-- type -/
theorem c_SM_type0 (G : GG) (l : Launch) (sz : Nat) (f : Wd) {mo c0 pn nn mn : Nat} {ar : Nat → Nat} {pt nt mt : Nat → Int32} {dp rf by_ co tx lx : Int32} {fl : Nat → Option FV} (hR : MR G c0 mo ar f pn pt nn nt mn mt dp rf by_ co tx lx fl) (hc0 : c0 < 512) (sg0 : Int64) : Ci G l y_SM_type b_SM_type 7 (some .int) ({ frames := 1, cells := 0, slots := 0, locals := 22 }) sz f [.ref mo, .int 0, .long sg0] (fun v f' => (¬ (∀ k, k < 8 → okb (byt sg0 k)) → v = -1 ∧ MRR G c0 mo ar f f' pn pt nn nt mn mt dp rf by_ co tx lx fl) ∧ ((∀ k, k < 8 → okb (byt sg0 k)) → ¬ pn + cnT sg0 8 ≤ 90 → v = -3 ∧ MRR G c0 mo ar f f' pn pt nn nt mn mt dp rf by_ co tx lx fl) ∧ ((∀ k, k < 8 → okb (byt sg0 k)) → pn + cnT sg0 8 ≤ 90 → v = nI (pn + cnT sg0 8) ∧ MRR G c0 mo ar f f' (pn + cnT sg0 8) (apT pt pn sg0 8) nn nt mn mt dp rf by_ co tx lx fl)) := by
  refine ct_of (by decide) (Nat.le_of_ble_eq_true rfl) ?_
  intro p e s m below meth c ls H locs hEn
  obtain ⟨hc, hr, hlk, hin, hE, hw, hsz, hl⟩ := hEn
  have hx := hc.1
  have hb := hc.2.1
  have hl : lv_has ls 7 [(0, .ref mo), (1, .int 0), (2, .long sg0)] := hl
  have hX : Mx mo ar f f := Mx.rf
  obtain ⟨sc, av, b, md, hM, hMS⟩ := hR
  have hMS0 := hMS
  obtain ⟨⟨h0, h1, h2, h3, h4⟩, ⟨h5, h6, h7⟩, ⟨h8, h9, h10⟩, ⟨hA, hnt, hmt, hS⟩, ⟨hbc, hmd, hpn, hnn, hmn⟩, hSL⟩ := hMS
  have hbn : b + pn ≤ 4200 := by omega
  have hcn := cnT_le sg0 8
  refine lv_aload_n hx hb d_SM_type_0 rfl (lv_at hl 0 rfl) ?_
  refine lv_iload_n hx hb d_SM_type_1 rfl (lv_at hl 1 rfl) ?_
  refine lv_iconst (v := 3) hx hb d_SM_type_2 (by decide) ?_
  refine m_calli hw (m_runV (As := [.int 0, .int 3]) (rest := []) hc hE hw (c_SM_out G l H.size f hM 0 3) hM.1 rfl cw_SM_71 se_SM_out rfl hl.1 rfl (Nat.le_of_ble_eq_true rfl) d_SM_type_3 ⟨rfl, rfl, by decide, by decide⟩ ⟨by first | decide | (dsimp only; omega), by first | decide | (dsimp only; omega)⟩) (fun r23 g22 H locs p21 hw => ?_)
  obtain ⟨rfl, p21⟩ := p21
  subst p21
  refine m_top (y := 0) (bI_f (by decide)) ?_
  refine lv_if_eq (tgt := 11) hx hb d_SM_type_6 (by decide) (fun _ => ?_) (fun z => absurd z (by decide))
  refine lv_iconst (v := 0) hx hb d_SM_type_11 (by decide) ?_
  refine lv_istore (lv' := [(4, .int 0), (0, .ref mo), (1, .int 0), (2, .long sg0)]) hx hb d_SM_type_12 hl (by decide) rfl (fun ls hl => ?_)
  refine lv_iconst (v := 0) hx hb d_SM_type_14 (by decide) ?_
  refine lv_istore (lv' := [(5, .int 0), (4, .int 0), (0, .ref mo), (1, .int 0), (2, .long sg0)]) hx hb d_SM_type_15 hl (by decide) rfl (fun ls hl => ?_)
  have loop : ∀ (fu : Nat) (k : Nat) (ls : Array Slot) (H : Heap) (locs : List Loc), 8 - k < fu → k ≤ 8 → (∀ j, j < k → okb (byt sg0 j)) → ms G.1 (Af f sz) f s H locs → lv_has ls 7 [(5, .int (nI k)), (4, .int (nI (cnU sg0 k))), (0, .ref mo), (1, .int 0), (2, .long sg0)] → W p l e ({ frames := 1, cells := 0, slots := 0, locals := 22 }) s m ([.ref mo, .int 0, .long sg0] : List Value).toArray below meth c H locs 0 0 (MQ below (va_Qi (fun v f' => (¬ (∀ k, k < 8 → okb (byt sg0 k)) → v = -1 ∧ MRR G c0 mo ar f f' pn pt nn nt mn mt dp rf by_ co tx lx fl) ∧ ((∀ k, k < 8 → okb (byt sg0 k)) → ¬ pn + cnT sg0 8 ≤ 90 → v = -3 ∧ MRR G c0 mo ar f f' pn pt nn nt mn mt dp rf by_ co tx lx fl) ∧ ((∀ k, k < 8 → okb (byt sg0 k)) → pn + cnT sg0 8 ≤ 90 → v = nI (pn + cnT sg0 8) ∧ MRR G c0 mo ar f f' (pn + cnT sg0 8) (apT pt pn sg0 8) nn nt mn mt dp rf by_ co tx lx fl)) (Bw G f sz) (Af f sz)) ([.ref mo, .int 0, .long sg0] : List Value).toArray s 0 0 (Af f sz)) (F0 m 17 ls []) := by
    intro fu
    induction fu with
    | zero => intro k ls H locs h0; exact absurd h0 (Nat.not_lt_zero _)
    | succ fu ih =>
      intro k ls H locs hfu hk hok hw hl
      have hcu := cnU_le sg0 k
      have hbl := byt_lt sg0 k
      refine lv_iload hx hb d_SM_type_17 (lv_at hl 0 rfl) ?_
      refine lv_bipush (v := 8) hx hb d_SM_type_19 (by decide) ?_
      refine lv_icmp_ge (tgt := 80) hx hb d_SM_type_21 (by decide) (fun c24 => ?_) (fun c24 => ?_)
      · have c24n : 8 ≤ k := (nI_leI (a := 8) (b := k) (by omega) (by omega)).mp c24
        have hk8 : k = 8 := by omega
        subst hk8
        refine lv_aload_n hx hb d_SM_type_80 rfl (lv_at hl 2 rfl) ?_
        refine lv_iload_n hx hb d_SM_type_81 rfl (lv_at hl 3 rfl) ?_
        refine m_calli hw (m_runV (As := [.int 0]) (rest := []) hc hE hw (c_SM_lengthOf G l H.size f hM 0) hM.1 rfl cw_SM_75 se_SM_lengthOf rfl hl.1 rfl (Nat.le_of_ble_eq_true rfl) d_SM_type_82 ⟨rfl, rfl, by decide, by decide⟩ ⟨by first | decide | (dsimp only; omega), by first | decide | (dsimp only; omega)⟩) (fun r27 g26 H locs p25 hw => ?_)
        obtain ⟨rfl, p25⟩ := p25
        subst p25
        refine m_top (y := nI pn) ((pif_t rfl).trans (by rw [h0, h1, pk_sub (by omega)]; congr 1; omega)) ?_
        refine lv_iload hx hb d_SM_type_85 (lv_at hl 1 rfl) ?_
        refine lv_iadd hx hb d_SM_type_87 ?_
        refine m_top (y := (nI (pn + cnT sg0 8))) (by rw [cnU8]; exact nI_add _ _) ?_
        refine lv_iload_n hx hb d_SM_type_88 rfl (lv_at hl 3 rfl) ?_
        refine lv_if_ne (tgt := 97) hx hb d_SM_type_89 (by decide) (fun z => absurd z (by decide)) (fun _ => ?_)
        refine lv_bipush (v := 90) hx hb d_SM_type_92 (by decide) ?_
        refine lv_goto (tgt := 109) hx hb d_SM_type_94 (by decide) ?_
        refine lv_icmp_le (tgt := 115) hx hb d_SM_type_109 (by decide) (fun c28 => ?_) (fun c28 => ?_)
        · have c28n : (pn + cnT sg0 8) ≤ 90 := (nI_leI (a := (pn + cnT sg0 8)) (b := 90) (by omega) (by omega)).mp c28
          refine lv_bipush (v := 7) hx hb d_SM_type_115 (by decide) ?_
          refine lv_istore (lv' := [(5, .int 7), (4, .int (nI (cnU sg0 8))), (0, .ref mo), (1, .int 0), (2, .long sg0)]) hx hb d_SM_type_117 hl (by decide) rfl (fun ls hl => ?_)
          have hfit : pn + cnT sg0 8 ≤ 90 := by omega
          have loop2 : ∀ (fu : Nat) (m0 : Nat) (fj : Wd) (ls : Array Slot) (H : Heap) (locs : List Loc), 8 - m0 < fu → m0 ≤ 8 → Mw G mo ar (upd sc 0 (nI (b + pn + cnT sg0 m0))) (va_up av 0 (apT (av 0) (b + pn) sg0 m0)) fj → Mx mo ar f fj → ms G.1 (Af f sz) fj s H locs → lv_has ls 7 [(5, .int (kv m0)), (0, .ref mo), (1, .int 0), (2, .long sg0)] → W p l e ({ frames := 1, cells := 0, slots := 0, locals := 22 }) s m ([.ref mo, .int 0, .long sg0] : List Value).toArray below meth c H locs 0 0 (MQ below (va_Qi (fun v f' => (¬ (∀ k, k < 8 → okb (byt sg0 k)) → v = -1 ∧ MRR G c0 mo ar f f' pn pt nn nt mn mt dp rf by_ co tx lx fl) ∧ ((∀ k, k < 8 → okb (byt sg0 k)) → ¬ pn + cnT sg0 8 ≤ 90 → v = -3 ∧ MRR G c0 mo ar f f' pn pt nn nt mn mt dp rf by_ co tx lx fl) ∧ ((∀ k, k < 8 → okb (byt sg0 k)) → pn + cnT sg0 8 ≤ 90 → v = nI (pn + cnT sg0 8) ∧ MRR G c0 mo ar f f' (pn + cnT sg0 8) (apT pt pn sg0 8) nn nt mn mt dp rf by_ co tx lx fl)) (Bw G f sz) (Af f sz)) ([.ref mo, .int 0, .long sg0] : List Value).toArray s 0 0 (Af f sz)) (F0 m 119 ls []) := by
            intro fu
            induction fu with
            | zero => intro m0 fj ls H locs h0; exact absurd h0 (Nat.not_lt_zero _)
            | succ fu ih =>
              intro m0 fj ls H locs hfu hm hMj hXj hw hl
              refine lv_iload hx hb d_SM_type_119 (lv_at hl 0 rfl) ?_
              refine lv_if_lt (tgt := 156) hx hb d_SM_type_121 (by decide) (fun c29 => ?_) (fun c29 => ?_)
              · have hm9 : m0 = 8 := by
                  rcases Nat.lt_or_ge m0 8 with z | z
                  · exact absurd c29 (kv_p m0 z)
                  · omega
                subst hm9
                refine lv_aload_n hx hb d_SM_type_156 rfl (lv_at hl 1 rfl) ?_
                refine lv_iload_n hx hb d_SM_type_157 rfl (lv_at hl 2 rfl) ?_
                refine m_calli hw (m_runV (As := [.int 0]) (rest := []) hc hE hw (c_SM_lengthOf G l H.size fj hMj 0) hMj.1 rfl cw_SM_75 se_SM_lengthOf rfl hl.1 rfl (Nat.le_of_ble_eq_true rfl) d_SM_type_158 ⟨rfl, rfl, by decide, by decide⟩ ⟨by first | decide | (dsimp only; omega), by first | decide | (dsimp only; omega)⟩) (fun r32 g31 H locs p30 hw => ?_)
                obtain ⟨rfl, p30⟩ := p30
                subst p30
                refine m_top (y := nI (pn + cnT sg0 8)) ((pif_t rfl).trans (show nI (b + pn + cnT sg0 8) - sc 1 = _ by rw [h1, pk_sub (by omega)]; congr 1; omega)) ?_
                exact m_iret hc hr hlk hw ⟨by first | decide | (dsimp only; omega), by first | decide | (dsimp only; omega)⟩ d_SM_type_161 ⟨fun z => absurd hok z, fun _ z => absurd hfit z, fun _ _ => ⟨rfl, ⟨_, _, b, md, hMj, hMS0.t0 hok hfit⟩, hXj⟩⟩
              · have hm8 : m0 < 8 := by
                  rcases Nat.lt_or_ge m0 8 with z | z
                  · exact z
                  · exact absurd (show kv m0 < 0 by rw [show m0 = 8 by omega]; decide) c29
                have hbl2 := byt_lt sg0 (7 - m0)
                refine lv_lload_n hx hb d_SM_type_124 rfl (lv_at hl 3 rfl) ?_
                refine lv_bipush (v := 8) hx hb d_SM_type_125 (by decide) ?_
                refine lv_iload hx hb d_SM_type_127 (lv_at hl 0 rfl) ?_
                refine m_top (y := nI (7 - m0)) (kv_e m0 hm8) ?_
                refine lv_imul hx hb d_SM_type_129 ?_
                refine m_top (y := (nI (8 * (7 - m0)))) (pk_mul 8 (7 - m0)) ?_
                refine lv_lshr hx hb d_SM_type_130 rfl ?_
                refine lv_l2i hx hb d_SM_type_131 rfl ?_
                refine lv_sipush (v := 255) hx hb d_SM_type_132 (by decide) ?_
                refine lv_iand hx hb d_SM_type_135 ?_
                refine m_top (y := (nI (byt sg0 (7 - m0)))) (byt_s sg0 (by omega)) ?_
                refine lv_istore (lv' := [(6, .int (nI (byt sg0 (7 - m0)))), (5, .int (kv m0)), (0, .ref mo), (1, .int 0), (2, .long sg0)]) hx hb d_SM_type_136 hl (by decide) rfl (fun ls hl => ?_)
                refine lv_iload hx hb d_SM_type_138 (lv_at hl 0 rfl) ?_
                refine lv_if_eq (tgt := 150) hx hb d_SM_type_140 (by decide) (fun c33 => ?_) (fun c33 => ?_)
                · have c33n : (byt sg0 (7 - m0)) = 0 := (nI_eq (a := (byt sg0 (7 - m0))) (b := 0) (by omega) (by omega)).mp c33
                  refine lv_iinc (v := (kv (m0 + 1))) (lv' := [(5, .int (kv (m0 + 1))), (6, .int (nI (byt sg0 (7 - m0)))), (0, .ref mo), (1, .int 0), (2, .long sg0)]) hx hb d_SM_type_150 hl (k := 1) rfl (kv_n m0 hm8) (by decide) rfl (fun ls hl => ?_)
                  refine lv_goto (tgt := 119) hx hb d_SM_type_153 (by decide) ?_
                  have hz := c33n
                  exact ih (m0 + 1) fj ls H locs (by omega) (by omega) (by rw [cnT_z hz, apT_z hz]; exact hMj) hXj hw (lv_sub hl [0, 2, 3, 4] rfl)
                · have c33n : ¬ ((byt sg0 (7 - m0)) = 0) := fun z => c33 ((nI_eq (a := (byt sg0 (7 - m0))) (b := 0) (by omega) (by omega)).mpr z)
                  refine lv_aload_n hx hb d_SM_type_143 rfl (lv_at hl 2 rfl) ?_
                  refine lv_iload_n hx hb d_SM_type_144 rfl (lv_at hl 3 rfl) ?_
                  refine lv_iload hx hb d_SM_type_145 (lv_at hl 0 rfl) ?_
                  have hz := c33n
                  have hct := cnT_n (s := sg0) hz
                  have hcm := cnT_mono sg0 (m0 + 1) (7 - m0)
                  rw [show m0 + 1 + (7 - m0) = 8 by omega] at hcm
                  refine m_callv hw (m_runV (As := [.int 0, .int (nI (byt sg0 (7 - m0)))]) (rest := []) hc hE hw (c_SM_add0 G l H.size fj hMj (L := b + pn + cnT sg0 m0) (upd_self' _ _ _) (by omega) (nI (byt sg0 (7 - m0)))) hMj.1 rfl cw_SM_79 se_SM_add rfl hl.1 rfl (Nat.le_of_ble_eq_true rfl) d_SM_type_147 ⟨rfl, rfl, by decide, by decide⟩ ⟨by first | decide | (dsimp only; omega), by first | decide | (dsimp only; omega)⟩) (fun g35 H locs p34 hw => ?_)
                  obtain ⟨hMa, hXa⟩ := p34
                  rw [upd_uu, va_uu] at hMa
                  replace hMa : Mw G mo ar (upd sc 0 (nI (b + pn + cnT sg0 (m0 + 1)))) (va_up av 0 (apT (av 0) (b + pn) sg0 (m0 + 1))) g35 := by rw [hct, apT_n hz]; exact hMa
                  refine lv_iinc (v := (kv (m0 + 1))) (lv' := [(5, .int (kv (m0 + 1))), (6, .int (nI (byt sg0 (7 - m0)))), (0, .ref mo), (1, .int 0), (2, .long sg0)]) hx hb d_SM_type_150 hl (k := 1) rfl (kv_n m0 hm8) (by decide) rfl (fun ls hl => ?_)
                  refine lv_goto (tgt := 119) hx hb d_SM_type_153 (by decide) ?_
                  exact ih (m0 + 1) g35 ls H locs (by omega) (by omega) hMa (hXj.tr hXa) hw (lv_sub hl [0, 2, 3, 4] rfl)
          have hM0 : Mw G mo ar (upd sc 0 (nI (b + pn + cnT sg0 0))) (va_up av 0 (apT (av 0) (b + pn) sg0 0)) f := by
            have e1 : (upd sc 0 (nI (b + pn + cnT sg0 0))) = sc := by funext j; by_cases z : j = 0; rw [z, upd_self']; exact h0.symm; exact upd_ne' _ _ _ z
            have e2 : (va_up av 0 (apT (av 0) (b + pn) sg0 0)) = av := by funext j; by_cases z : j = 0; rw [z, va_up_self]; rfl; rw [va_up_ne _ _ z]
            rw [e1, e2]; exact hM
          exact loop2 9 0 f ls H locs (by omega) (by omega) hM0 Mx.rf hw (lv_sub hl [0, 2, 3, 4] rfl)
        · have c28n : ¬ ((pn + cnT sg0 8) ≤ 90) := fun z => c28 ((nI_leI (a := (pn + cnT sg0 8)) (b := 90) (by omega) (by omega)).mpr z)
          refine lv_bipush (v := (-3)) hx hb d_SM_type_112 (by decide) ?_
          exact m_iret hc hr hlk hw ⟨by first | decide | (dsimp only; omega), by first | decide | (dsimp only; omega)⟩ d_SM_type_114 ⟨fun z => absurd hok z, fun _ _ => ⟨rfl, ⟨⟨_, av, b, md, hM, hMS0.fr (fun _ _ => rfl)⟩, hX⟩⟩, fun _ z => absurd z (by omega)⟩
      · have c24n : ¬ (8 ≤ k) := fun z => c24 ((nI_leI (a := 8) (b := k) (by omega) (by omega)).mpr z)
        refine lv_lload_n hx hb d_SM_type_24 rfl (lv_at hl 4 rfl) ?_
        refine lv_bipush (v := 8) hx hb d_SM_type_25 (by decide) ?_
        refine lv_iload hx hb d_SM_type_27 (lv_at hl 0 rfl) ?_
        refine lv_imul hx hb d_SM_type_29 ?_
        refine m_top (y := (nI (8 * k))) (pk_mul 8 k) ?_
        refine lv_lshr hx hb d_SM_type_30 rfl ?_
        refine lv_l2i hx hb d_SM_type_31 rfl ?_
        refine lv_sipush (v := 255) hx hb d_SM_type_32 (by decide) ?_
        refine lv_iand hx hb d_SM_type_35 ?_
        refine m_top (y := (nI (byt sg0 k))) (byt_s sg0 (by omega)) ?_
        refine lv_istore (lv' := [(6, .int (nI (byt sg0 k))), (5, .int (nI k)), (4, .int (nI (cnU sg0 k))), (0, .ref mo), (1, .int 0), (2, .long sg0)]) hx hb d_SM_type_36 hl (by decide) rfl (fun ls hl => ?_)
        refine lv_iload hx hb d_SM_type_38 (lv_at hl 0 rfl) ?_
        refine lv_if_eq (tgt := 59) hx hb d_SM_type_40 (by decide) (fun c36 => ?_) (fun c36 => ?_)
        · have c36n : (byt sg0 k) = 0 := (nI_eq (a := (byt sg0 k)) (b := 0) (by omega) (by omega)).mp c36
          refine lv_iload hx hb d_SM_type_59 (lv_at hl 2 rfl) ?_
          refine lv_iload hx hb d_SM_type_61 (lv_at hl 0 rfl) ?_
          refine lv_if_eq (tgt := 70) hx hb d_SM_type_63 (by decide) (fun c37 => ?_) (fun c37 => ?_)
          · have c37n : (byt sg0 k) = 0 := (nI_eq (a := (byt sg0 k)) (b := 0) (by omega) (by omega)).mp c37
            refine lv_iconst (v := 0) hx hb d_SM_type_70 (by decide) ?_
            refine lv_iadd hx hb d_SM_type_71 ?_
            refine m_top (y := (nI (cnU sg0 (k + 1)))) (by rw [bz_0 c36n]; exact nI_add _ 0) ?_
            refine lv_istore (lv' := [(4, .int (nI (cnU sg0 (k + 1)))), (6, .int (nI (byt sg0 k))), (5, .int (nI k)), (0, .ref mo), (1, .int 0), (2, .long sg0)]) hx hb d_SM_type_72 hl (by decide) rfl (fun ls hl => ?_)
            refine lv_iinc (v := (nI (k + 1))) (lv' := [(5, .int (nI (k + 1))), (4, .int (nI (cnU sg0 (k + 1)))), (6, .int (nI (byt sg0 k))), (0, .ref mo), (1, .int 0), (2, .long sg0)]) hx hb d_SM_type_74 hl (k := 2) rfl (nI_1 _) (by decide) rfl (fun ls hl => ?_)
            refine lv_goto (tgt := 17) hx hb d_SM_type_77 (by decide) ?_
            exact ih (k + 1) ls H locs (by omega) (by omega) (fun j hj => by rcases Nat.lt_or_ge j k with z | z; exact hok j z; rw [show j = k by omega]; exact Or.inl c36n) hw (lv_sub hl [0, 1, 3, 4, 5] rfl)
          · have c37n : ¬ ((byt sg0 k) = 0) := fun z => c37 ((nI_eq (a := (byt sg0 k)) (b := 0) (by omega) (by omega)).mpr z)
            exact absurd c36n c37n
        · have c36n : ¬ ((byt sg0 k) = 0) := fun z => c36 ((nI_eq (a := (byt sg0 k)) (b := 0) (by omega) (by omega)).mpr z)
          refine lv_iload hx hb d_SM_type_43 (lv_at hl 0 rfl) ?_
          refine lv_bipush (v := 33) hx hb d_SM_type_45 (by decide) ?_
          refine lv_icmp_lt (tgt := 57) hx hb d_SM_type_47 (by decide) (fun c38 => ?_) (fun c38 => ?_)
          · have c38n : (byt sg0 k) < 33 := (nI_ltI (a := (byt sg0 k)) (b := 33) (by omega) (by omega)).mp c38
            refine lv_iconst (v := (-1)) hx hb d_SM_type_57 (by decide) ?_
            exact m_iret hc hr hlk hw ⟨by first | decide | (dsimp only; omega), by first | decide | (dsimp only; omega)⟩ d_SM_type_58 ⟨fun _ => ⟨rfl, ⟨⟨_, av, b, md, hM, hMS0.fr (fun _ _ => rfl)⟩, hX⟩⟩, fun z => absurd (z k (by omega)) (fun y => y.elim c36n (fun y => absurd y (by omega))), fun z => absurd (z k (by omega)) (fun y => y.elim c36n (fun y => absurd y (by omega)))⟩
          · have c38n : ¬ ((byt sg0 k) < 33) := fun z => c38 ((nI_ltI (a := (byt sg0 k)) (b := 33) (by omega) (by omega)).mpr z)
            refine lv_iload hx hb d_SM_type_50 (lv_at hl 0 rfl) ?_
            refine lv_bipush (v := 126) hx hb d_SM_type_52 (by decide) ?_
            refine lv_icmp_le (tgt := 59) hx hb d_SM_type_54 (by decide) (fun c39 => ?_) (fun c39 => ?_)
            · have c39n : (byt sg0 k) ≤ 126 := (nI_leI (a := (byt sg0 k)) (b := 126) (by omega) (by omega)).mp c39
              refine lv_iload hx hb d_SM_type_59 (lv_at hl 2 rfl) ?_
              refine lv_iload hx hb d_SM_type_61 (lv_at hl 0 rfl) ?_
              refine lv_if_eq (tgt := 70) hx hb d_SM_type_63 (by decide) (fun c40 => ?_) (fun c40 => ?_)
              · have c40n : (byt sg0 k) = 0 := (nI_eq (a := (byt sg0 k)) (b := 0) (by omega) (by omega)).mp c40
                exact absurd c40n c36n
              · have c40n : ¬ ((byt sg0 k) = 0) := fun z => c40 ((nI_eq (a := (byt sg0 k)) (b := 0) (by omega) (by omega)).mpr z)
                refine lv_iconst (v := 1) hx hb d_SM_type_66 (by decide) ?_
                refine lv_goto (tgt := 71) hx hb d_SM_type_67 (by decide) ?_
                refine lv_iadd hx hb d_SM_type_71 ?_
                refine m_top (y := (nI (cnU sg0 (k + 1)))) (by rw [bz_1 c36n]; exact nI_add _ 1) ?_
                refine lv_istore (lv' := [(4, .int (nI (cnU sg0 (k + 1)))), (6, .int (nI (byt sg0 k))), (5, .int (nI k)), (0, .ref mo), (1, .int 0), (2, .long sg0)]) hx hb d_SM_type_72 hl (by decide) rfl (fun ls hl => ?_)
                refine lv_iinc (v := (nI (k + 1))) (lv' := [(5, .int (nI (k + 1))), (4, .int (nI (cnU sg0 (k + 1)))), (6, .int (nI (byt sg0 k))), (0, .ref mo), (1, .int 0), (2, .long sg0)]) hx hb d_SM_type_74 hl (k := 2) rfl (nI_1 _) (by decide) rfl (fun ls hl => ?_)
                refine lv_goto (tgt := 17) hx hb d_SM_type_77 (by decide) ?_
                exact ih (k + 1) ls H locs (by omega) (by omega) (fun j hj => by rcases Nat.lt_or_ge j k with z | z; exact hok j z; rw [show j = k by omega]; exact Or.inr ⟨by omega, by omega⟩) hw (lv_sub hl [0, 1, 3, 4, 5] rfl)
            · have c39n : ¬ ((byt sg0 k) ≤ 126) := fun z => c39 ((nI_leI (a := (byt sg0 k)) (b := 126) (by omega) (by omega)).mpr z)
              refine lv_iconst (v := (-1)) hx hb d_SM_type_57 (by decide) ?_
              exact m_iret hc hr hlk hw ⟨by first | decide | (dsimp only; omega), by first | decide | (dsimp only; omega)⟩ d_SM_type_58 ⟨fun _ => ⟨rfl, ⟨⟨_, av, b, md, hM, hMS0.fr (fun _ _ => rfl)⟩, hX⟩⟩, fun z => absurd (z k (by omega)) (fun y => y.elim c36n (fun y => absurd y (by omega))), fun z => absurd (z k (by omega)) (fun y => y.elim c36n (fun y => absurd y (by omega)))⟩
  exact loop 9 0 ls H locs (by omega) (by omega) (fun j hj => absurd hj (Nat.not_lt_zero _)) hw (lv_sub hl [0, 1, 2, 3, 4] rfl)

set_option maxHeartbeats 4000000 in
set_option maxRecDepth 100000 in
/-- type -/
theorem c_SM_type1 (G : GG) (l : Launch) (sz : Nat) (f : Wd) {mo c0 pn nn mn : Nat} {ar : Nat → Nat} {pt nt mt : Nat → Int32} {dp rf by_ co tx lx : Int32} {fl : Nat → Option FV} (hR : MR G c0 mo ar f pn pt nn nt mn mt dp rf by_ co tx lx fl) (hc0 : c0 < 512) (sg0 : Int64) : Ci G l y_SM_type b_SM_type 7 (some .int) ({ frames := 1, cells := 0, slots := 0, locals := 22 }) sz f [.ref mo, .int 1, .long sg0] (fun v f' => (¬ (∀ k, k < 8 → okb (byt sg0 k)) → v = -1 ∧ MRR G c0 mo ar f f' pn pt nn nt mn mt dp rf by_ co tx lx fl) ∧ ((∀ k, k < 8 → okb (byt sg0 k)) → ¬ nn + cnT sg0 8 ≤ 40 → v = -3 ∧ MRR G c0 mo ar f f' pn pt nn nt mn mt dp rf by_ co tx lx fl) ∧ ((∀ k, k < 8 → okb (byt sg0 k)) → nn + cnT sg0 8 ≤ 40 → v = nI (nn + cnT sg0 8) ∧ MRR G c0 mo ar f f' pn pt (nn + cnT sg0 8) (apT nt nn sg0 8) mn mt dp rf by_ co tx lx fl)) := by
  refine ct_of (by decide) (Nat.le_of_ble_eq_true rfl) ?_
  intro p e s m below meth c ls H locs hEn
  obtain ⟨hc, hr, hlk, hin, hE, hw, hsz, hl⟩ := hEn
  have hx := hc.1
  have hb := hc.2.1
  have hl : lv_has ls 7 [(0, .ref mo), (1, .int 1), (2, .long sg0)] := hl
  have hX : Mx mo ar f f := Mx.rf
  obtain ⟨sc, av, b, md, hM, hMS⟩ := hR
  have hMS0 := hMS
  obtain ⟨⟨h0, h1, h2, h3, h4⟩, ⟨h5, h6, h7⟩, ⟨h8, h9, h10⟩, ⟨hA, hnt, hmt, hS⟩, ⟨hbc, hmd, hpn, hnn, hmn⟩, hSL⟩ := hMS
  have hbn : b + pn ≤ 4200 := by omega
  have hcn := cnT_le sg0 8
  refine lv_aload_n hx hb d_SM_type_0 rfl (lv_at hl 0 rfl) ?_
  refine lv_iload_n hx hb d_SM_type_1 rfl (lv_at hl 1 rfl) ?_
  refine lv_iconst (v := 3) hx hb d_SM_type_2 (by decide) ?_
  refine m_calli hw (m_runV (As := [.int 1, .int 3]) (rest := []) hc hE hw (c_SM_out G l H.size f hM 1 3) hM.1 rfl cw_SM_71 se_SM_out rfl hl.1 rfl (Nat.le_of_ble_eq_true rfl) d_SM_type_3 ⟨rfl, rfl, by decide, by decide⟩ ⟨by first | decide | (dsimp only; omega), by first | decide | (dsimp only; omega)⟩) (fun r23 g22 H locs p21 hw => ?_)
  obtain ⟨rfl, p21⟩ := p21
  subst p21
  refine m_top (y := 0) (bI_f (by decide)) ?_
  refine lv_if_eq (tgt := 11) hx hb d_SM_type_6 (by decide) (fun _ => ?_) (fun z => absurd z (by decide))
  refine lv_iconst (v := 0) hx hb d_SM_type_11 (by decide) ?_
  refine lv_istore (lv' := [(4, .int 0), (0, .ref mo), (1, .int 1), (2, .long sg0)]) hx hb d_SM_type_12 hl (by decide) rfl (fun ls hl => ?_)
  refine lv_iconst (v := 0) hx hb d_SM_type_14 (by decide) ?_
  refine lv_istore (lv' := [(5, .int 0), (4, .int 0), (0, .ref mo), (1, .int 1), (2, .long sg0)]) hx hb d_SM_type_15 hl (by decide) rfl (fun ls hl => ?_)
  have loop : ∀ (fu : Nat) (k : Nat) (ls : Array Slot) (H : Heap) (locs : List Loc), 8 - k < fu → k ≤ 8 → (∀ j, j < k → okb (byt sg0 j)) → ms G.1 (Af f sz) f s H locs → lv_has ls 7 [(5, .int (nI k)), (4, .int (nI (cnU sg0 k))), (0, .ref mo), (1, .int 1), (2, .long sg0)] → W p l e ({ frames := 1, cells := 0, slots := 0, locals := 22 }) s m ([.ref mo, .int 1, .long sg0] : List Value).toArray below meth c H locs 0 0 (MQ below (va_Qi (fun v f' => (¬ (∀ k, k < 8 → okb (byt sg0 k)) → v = -1 ∧ MRR G c0 mo ar f f' pn pt nn nt mn mt dp rf by_ co tx lx fl) ∧ ((∀ k, k < 8 → okb (byt sg0 k)) → ¬ nn + cnT sg0 8 ≤ 40 → v = -3 ∧ MRR G c0 mo ar f f' pn pt nn nt mn mt dp rf by_ co tx lx fl) ∧ ((∀ k, k < 8 → okb (byt sg0 k)) → nn + cnT sg0 8 ≤ 40 → v = nI (nn + cnT sg0 8) ∧ MRR G c0 mo ar f f' pn pt (nn + cnT sg0 8) (apT nt nn sg0 8) mn mt dp rf by_ co tx lx fl)) (Bw G f sz) (Af f sz)) ([.ref mo, .int 1, .long sg0] : List Value).toArray s 0 0 (Af f sz)) (F0 m 17 ls []) := by
    intro fu
    induction fu with
    | zero => intro k ls H locs h0; exact absurd h0 (Nat.not_lt_zero _)
    | succ fu ih =>
      intro k ls H locs hfu hk hok hw hl
      have hcu := cnU_le sg0 k
      have hbl := byt_lt sg0 k
      refine lv_iload hx hb d_SM_type_17 (lv_at hl 0 rfl) ?_
      refine lv_bipush (v := 8) hx hb d_SM_type_19 (by decide) ?_
      refine lv_icmp_ge (tgt := 80) hx hb d_SM_type_21 (by decide) (fun c24 => ?_) (fun c24 => ?_)
      · have c24n : 8 ≤ k := (nI_leI (a := 8) (b := k) (by omega) (by omega)).mp c24
        have hk8 : k = 8 := by omega
        subst hk8
        refine lv_aload_n hx hb d_SM_type_80 rfl (lv_at hl 2 rfl) ?_
        refine lv_iload_n hx hb d_SM_type_81 rfl (lv_at hl 3 rfl) ?_
        refine m_calli hw (m_runV (As := [.int 1]) (rest := []) hc hE hw (c_SM_lengthOf G l H.size f hM 1) hM.1 rfl cw_SM_75 se_SM_lengthOf rfl hl.1 rfl (Nat.le_of_ble_eq_true rfl) d_SM_type_82 ⟨rfl, rfl, by decide, by decide⟩ ⟨by first | decide | (dsimp only; omega), by first | decide | (dsimp only; omega)⟩) (fun r27 g26 H locs p25 hw => ?_)
        obtain ⟨rfl, p25⟩ := p25
        subst p25
        refine m_top (y := nI nn) ((pif_f (by decide)).trans ((pif_t rfl).trans h2)) ?_
        refine lv_iload hx hb d_SM_type_85 (lv_at hl 1 rfl) ?_
        refine lv_iadd hx hb d_SM_type_87 ?_
        refine m_top (y := (nI (nn + cnT sg0 8))) (by rw [cnU8]; exact nI_add _ _) ?_
        refine lv_iload_n hx hb d_SM_type_88 rfl (lv_at hl 3 rfl) ?_
        refine lv_if_ne (tgt := 97) hx hb d_SM_type_89 (by decide) (fun _ => ?_) (fun z => absurd z (by decide))
        refine lv_iload_n hx hb d_SM_type_97 rfl (lv_at hl 3 rfl) ?_
        refine lv_iconst (v := 1) hx hb d_SM_type_98 (by decide) ?_
        refine lv_icmp_ne (tgt := 107) hx hb d_SM_type_99 (by decide) (fun z => absurd z (by decide)) (fun _ => ?_)
        refine lv_bipush (v := 40) hx hb d_SM_type_102 (by decide) ?_
        refine lv_goto (tgt := 109) hx hb d_SM_type_104 (by decide) ?_
        refine lv_icmp_le (tgt := 115) hx hb d_SM_type_109 (by decide) (fun c28 => ?_) (fun c28 => ?_)
        · have c28n : (nn + cnT sg0 8) ≤ 40 := (nI_leI (a := (nn + cnT sg0 8)) (b := 40) (by omega) (by omega)).mp c28
          refine lv_bipush (v := 7) hx hb d_SM_type_115 (by decide) ?_
          refine lv_istore (lv' := [(5, .int 7), (4, .int (nI (cnU sg0 8))), (0, .ref mo), (1, .int 1), (2, .long sg0)]) hx hb d_SM_type_117 hl (by decide) rfl (fun ls hl => ?_)
          have hfit : nn + cnT sg0 8 ≤ 40 := by omega
          have loop2 : ∀ (fu : Nat) (m0 : Nat) (fj : Wd) (ls : Array Slot) (H : Heap) (locs : List Loc), 8 - m0 < fu → m0 ≤ 8 → Mw G mo ar (upd sc 2 (nI (nn + cnT sg0 m0))) (va_up av 1 (apT (av 1) (nn) sg0 m0)) fj → Mx mo ar f fj → ms G.1 (Af f sz) fj s H locs → lv_has ls 7 [(5, .int (kv m0)), (0, .ref mo), (1, .int 1), (2, .long sg0)] → W p l e ({ frames := 1, cells := 0, slots := 0, locals := 22 }) s m ([.ref mo, .int 1, .long sg0] : List Value).toArray below meth c H locs 0 0 (MQ below (va_Qi (fun v f' => (¬ (∀ k, k < 8 → okb (byt sg0 k)) → v = -1 ∧ MRR G c0 mo ar f f' pn pt nn nt mn mt dp rf by_ co tx lx fl) ∧ ((∀ k, k < 8 → okb (byt sg0 k)) → ¬ nn + cnT sg0 8 ≤ 40 → v = -3 ∧ MRR G c0 mo ar f f' pn pt nn nt mn mt dp rf by_ co tx lx fl) ∧ ((∀ k, k < 8 → okb (byt sg0 k)) → nn + cnT sg0 8 ≤ 40 → v = nI (nn + cnT sg0 8) ∧ MRR G c0 mo ar f f' pn pt (nn + cnT sg0 8) (apT nt nn sg0 8) mn mt dp rf by_ co tx lx fl)) (Bw G f sz) (Af f sz)) ([.ref mo, .int 1, .long sg0] : List Value).toArray s 0 0 (Af f sz)) (F0 m 119 ls []) := by
            intro fu
            induction fu with
            | zero => intro m0 fj ls H locs h0; exact absurd h0 (Nat.not_lt_zero _)
            | succ fu ih =>
              intro m0 fj ls H locs hfu hm hMj hXj hw hl
              refine lv_iload hx hb d_SM_type_119 (lv_at hl 0 rfl) ?_
              refine lv_if_lt (tgt := 156) hx hb d_SM_type_121 (by decide) (fun c29 => ?_) (fun c29 => ?_)
              · have hm9 : m0 = 8 := by
                  rcases Nat.lt_or_ge m0 8 with z | z
                  · exact absurd c29 (kv_p m0 z)
                  · omega
                subst hm9
                refine lv_aload_n hx hb d_SM_type_156 rfl (lv_at hl 1 rfl) ?_
                refine lv_iload_n hx hb d_SM_type_157 rfl (lv_at hl 2 rfl) ?_
                refine m_calli hw (m_runV (As := [.int 1]) (rest := []) hc hE hw (c_SM_lengthOf G l H.size fj hMj 1) hMj.1 rfl cw_SM_75 se_SM_lengthOf rfl hl.1 rfl (Nat.le_of_ble_eq_true rfl) d_SM_type_158 ⟨rfl, rfl, by decide, by decide⟩ ⟨by first | decide | (dsimp only; omega), by first | decide | (dsimp only; omega)⟩) (fun r32 g31 H locs p30 hw => ?_)
                obtain ⟨rfl, p30⟩ := p30
                subst p30
                refine m_top (y := nI (nn + cnT sg0 8)) ((pif_f (by decide)).trans (pif_t rfl)) ?_
                exact m_iret hc hr hlk hw ⟨by first | decide | (dsimp only; omega), by first | decide | (dsimp only; omega)⟩ d_SM_type_161 ⟨fun z => absurd hok z, fun _ z => absurd hfit z, fun _ _ => ⟨rfl, ⟨_, _, b, md, hMj, hMS0.t1 hfit⟩, hXj⟩⟩
              · have hm8 : m0 < 8 := by
                  rcases Nat.lt_or_ge m0 8 with z | z
                  · exact z
                  · exact absurd (show kv m0 < 0 by rw [show m0 = 8 by omega]; decide) c29
                have hbl2 := byt_lt sg0 (7 - m0)
                refine lv_lload_n hx hb d_SM_type_124 rfl (lv_at hl 3 rfl) ?_
                refine lv_bipush (v := 8) hx hb d_SM_type_125 (by decide) ?_
                refine lv_iload hx hb d_SM_type_127 (lv_at hl 0 rfl) ?_
                refine m_top (y := nI (7 - m0)) (kv_e m0 hm8) ?_
                refine lv_imul hx hb d_SM_type_129 ?_
                refine m_top (y := (nI (8 * (7 - m0)))) (pk_mul 8 (7 - m0)) ?_
                refine lv_lshr hx hb d_SM_type_130 rfl ?_
                refine lv_l2i hx hb d_SM_type_131 rfl ?_
                refine lv_sipush (v := 255) hx hb d_SM_type_132 (by decide) ?_
                refine lv_iand hx hb d_SM_type_135 ?_
                refine m_top (y := (nI (byt sg0 (7 - m0)))) (byt_s sg0 (by omega)) ?_
                refine lv_istore (lv' := [(6, .int (nI (byt sg0 (7 - m0)))), (5, .int (kv m0)), (0, .ref mo), (1, .int 1), (2, .long sg0)]) hx hb d_SM_type_136 hl (by decide) rfl (fun ls hl => ?_)
                refine lv_iload hx hb d_SM_type_138 (lv_at hl 0 rfl) ?_
                refine lv_if_eq (tgt := 150) hx hb d_SM_type_140 (by decide) (fun c33 => ?_) (fun c33 => ?_)
                · have c33n : (byt sg0 (7 - m0)) = 0 := (nI_eq (a := (byt sg0 (7 - m0))) (b := 0) (by omega) (by omega)).mp c33
                  refine lv_iinc (v := (kv (m0 + 1))) (lv' := [(5, .int (kv (m0 + 1))), (6, .int (nI (byt sg0 (7 - m0)))), (0, .ref mo), (1, .int 1), (2, .long sg0)]) hx hb d_SM_type_150 hl (k := 1) rfl (kv_n m0 hm8) (by decide) rfl (fun ls hl => ?_)
                  refine lv_goto (tgt := 119) hx hb d_SM_type_153 (by decide) ?_
                  have hz := c33n
                  exact ih (m0 + 1) fj ls H locs (by omega) (by omega) (by rw [cnT_z hz, apT_z hz]; exact hMj) hXj hw (lv_sub hl [0, 2, 3, 4] rfl)
                · have c33n : ¬ ((byt sg0 (7 - m0)) = 0) := fun z => c33 ((nI_eq (a := (byt sg0 (7 - m0))) (b := 0) (by omega) (by omega)).mpr z)
                  refine lv_aload_n hx hb d_SM_type_143 rfl (lv_at hl 2 rfl) ?_
                  refine lv_iload_n hx hb d_SM_type_144 rfl (lv_at hl 3 rfl) ?_
                  refine lv_iload hx hb d_SM_type_145 (lv_at hl 0 rfl) ?_
                  have hz := c33n
                  have hct := cnT_n (s := sg0) hz
                  have hcm := cnT_mono sg0 (m0 + 1) (7 - m0)
                  rw [show m0 + 1 + (7 - m0) = 8 by omega] at hcm
                  refine m_callv hw (m_runV (As := [.int 1, .int (nI (byt sg0 (7 - m0)))]) (rest := []) hc hE hw (c_SM_add1 G l H.size fj hMj (L := nn + cnT sg0 m0) (upd_self' _ _ _) (by omega) (nI (byt sg0 (7 - m0)))) hMj.1 rfl cw_SM_79 se_SM_add rfl hl.1 rfl (Nat.le_of_ble_eq_true rfl) d_SM_type_147 ⟨rfl, rfl, by decide, by decide⟩ ⟨by first | decide | (dsimp only; omega), by first | decide | (dsimp only; omega)⟩) (fun g35 H locs p34 hw => ?_)
                  obtain ⟨hMa, hXa⟩ := p34
                  rw [upd_uu, va_uu] at hMa
                  replace hMa : Mw G mo ar (upd sc 2 (nI (nn + cnT sg0 (m0 + 1)))) (va_up av 1 (apT (av 1) (nn) sg0 (m0 + 1))) g35 := by rw [hct, apT_n hz]; exact hMa
                  refine lv_iinc (v := (kv (m0 + 1))) (lv' := [(5, .int (kv (m0 + 1))), (6, .int (nI (byt sg0 (7 - m0)))), (0, .ref mo), (1, .int 1), (2, .long sg0)]) hx hb d_SM_type_150 hl (k := 1) rfl (kv_n m0 hm8) (by decide) rfl (fun ls hl => ?_)
                  refine lv_goto (tgt := 119) hx hb d_SM_type_153 (by decide) ?_
                  exact ih (m0 + 1) g35 ls H locs (by omega) (by omega) hMa (hXj.tr hXa) hw (lv_sub hl [0, 2, 3, 4] rfl)
          have hM0 : Mw G mo ar (upd sc 2 (nI (nn + cnT sg0 0))) (va_up av 1 (apT (av 1) (nn) sg0 0)) f := by
            have e1 : (upd sc 2 (nI (nn + cnT sg0 0))) = sc := by funext j; by_cases z : j = 2; rw [z, upd_self']; exact h2.symm; exact upd_ne' _ _ _ z
            have e2 : (va_up av 1 (apT (av 1) (nn) sg0 0)) = av := by funext j; by_cases z : j = 1; rw [z, va_up_self]; rfl; rw [va_up_ne _ _ z]
            rw [e1, e2]; exact hM
          exact loop2 9 0 f ls H locs (by omega) (by omega) hM0 Mx.rf hw (lv_sub hl [0, 2, 3, 4] rfl)
        · have c28n : ¬ ((nn + cnT sg0 8) ≤ 40) := fun z => c28 ((nI_leI (a := (nn + cnT sg0 8)) (b := 40) (by omega) (by omega)).mpr z)
          refine lv_bipush (v := (-3)) hx hb d_SM_type_112 (by decide) ?_
          exact m_iret hc hr hlk hw ⟨by first | decide | (dsimp only; omega), by first | decide | (dsimp only; omega)⟩ d_SM_type_114 ⟨fun z => absurd hok z, fun _ _ => ⟨rfl, ⟨⟨_, av, b, md, hM, hMS0.fr (fun _ _ => rfl)⟩, hX⟩⟩, fun _ z => absurd z (by omega)⟩
      · have c24n : ¬ (8 ≤ k) := fun z => c24 ((nI_leI (a := 8) (b := k) (by omega) (by omega)).mpr z)
        refine lv_lload_n hx hb d_SM_type_24 rfl (lv_at hl 4 rfl) ?_
        refine lv_bipush (v := 8) hx hb d_SM_type_25 (by decide) ?_
        refine lv_iload hx hb d_SM_type_27 (lv_at hl 0 rfl) ?_
        refine lv_imul hx hb d_SM_type_29 ?_
        refine m_top (y := (nI (8 * k))) (pk_mul 8 k) ?_
        refine lv_lshr hx hb d_SM_type_30 rfl ?_
        refine lv_l2i hx hb d_SM_type_31 rfl ?_
        refine lv_sipush (v := 255) hx hb d_SM_type_32 (by decide) ?_
        refine lv_iand hx hb d_SM_type_35 ?_
        refine m_top (y := (nI (byt sg0 k))) (byt_s sg0 (by omega)) ?_
        refine lv_istore (lv' := [(6, .int (nI (byt sg0 k))), (5, .int (nI k)), (4, .int (nI (cnU sg0 k))), (0, .ref mo), (1, .int 1), (2, .long sg0)]) hx hb d_SM_type_36 hl (by decide) rfl (fun ls hl => ?_)
        refine lv_iload hx hb d_SM_type_38 (lv_at hl 0 rfl) ?_
        refine lv_if_eq (tgt := 59) hx hb d_SM_type_40 (by decide) (fun c36 => ?_) (fun c36 => ?_)
        · have c36n : (byt sg0 k) = 0 := (nI_eq (a := (byt sg0 k)) (b := 0) (by omega) (by omega)).mp c36
          refine lv_iload hx hb d_SM_type_59 (lv_at hl 2 rfl) ?_
          refine lv_iload hx hb d_SM_type_61 (lv_at hl 0 rfl) ?_
          refine lv_if_eq (tgt := 70) hx hb d_SM_type_63 (by decide) (fun c37 => ?_) (fun c37 => ?_)
          · have c37n : (byt sg0 k) = 0 := (nI_eq (a := (byt sg0 k)) (b := 0) (by omega) (by omega)).mp c37
            refine lv_iconst (v := 0) hx hb d_SM_type_70 (by decide) ?_
            refine lv_iadd hx hb d_SM_type_71 ?_
            refine m_top (y := (nI (cnU sg0 (k + 1)))) (by rw [bz_0 c36n]; exact nI_add _ 0) ?_
            refine lv_istore (lv' := [(4, .int (nI (cnU sg0 (k + 1)))), (6, .int (nI (byt sg0 k))), (5, .int (nI k)), (0, .ref mo), (1, .int 1), (2, .long sg0)]) hx hb d_SM_type_72 hl (by decide) rfl (fun ls hl => ?_)
            refine lv_iinc (v := (nI (k + 1))) (lv' := [(5, .int (nI (k + 1))), (4, .int (nI (cnU sg0 (k + 1)))), (6, .int (nI (byt sg0 k))), (0, .ref mo), (1, .int 1), (2, .long sg0)]) hx hb d_SM_type_74 hl (k := 2) rfl (nI_1 _) (by decide) rfl (fun ls hl => ?_)
            refine lv_goto (tgt := 17) hx hb d_SM_type_77 (by decide) ?_
            exact ih (k + 1) ls H locs (by omega) (by omega) (fun j hj => by rcases Nat.lt_or_ge j k with z | z; exact hok j z; rw [show j = k by omega]; exact Or.inl c36n) hw (lv_sub hl [0, 1, 3, 4, 5] rfl)
          · have c37n : ¬ ((byt sg0 k) = 0) := fun z => c37 ((nI_eq (a := (byt sg0 k)) (b := 0) (by omega) (by omega)).mpr z)
            exact absurd c36n c37n
        · have c36n : ¬ ((byt sg0 k) = 0) := fun z => c36 ((nI_eq (a := (byt sg0 k)) (b := 0) (by omega) (by omega)).mpr z)
          refine lv_iload hx hb d_SM_type_43 (lv_at hl 0 rfl) ?_
          refine lv_bipush (v := 33) hx hb d_SM_type_45 (by decide) ?_
          refine lv_icmp_lt (tgt := 57) hx hb d_SM_type_47 (by decide) (fun c38 => ?_) (fun c38 => ?_)
          · have c38n : (byt sg0 k) < 33 := (nI_ltI (a := (byt sg0 k)) (b := 33) (by omega) (by omega)).mp c38
            refine lv_iconst (v := (-1)) hx hb d_SM_type_57 (by decide) ?_
            exact m_iret hc hr hlk hw ⟨by first | decide | (dsimp only; omega), by first | decide | (dsimp only; omega)⟩ d_SM_type_58 ⟨fun _ => ⟨rfl, ⟨⟨_, av, b, md, hM, hMS0.fr (fun _ _ => rfl)⟩, hX⟩⟩, fun z => absurd (z k (by omega)) (fun y => y.elim c36n (fun y => absurd y (by omega))), fun z => absurd (z k (by omega)) (fun y => y.elim c36n (fun y => absurd y (by omega)))⟩
          · have c38n : ¬ ((byt sg0 k) < 33) := fun z => c38 ((nI_ltI (a := (byt sg0 k)) (b := 33) (by omega) (by omega)).mpr z)
            refine lv_iload hx hb d_SM_type_50 (lv_at hl 0 rfl) ?_
            refine lv_bipush (v := 126) hx hb d_SM_type_52 (by decide) ?_
            refine lv_icmp_le (tgt := 59) hx hb d_SM_type_54 (by decide) (fun c39 => ?_) (fun c39 => ?_)
            · have c39n : (byt sg0 k) ≤ 126 := (nI_leI (a := (byt sg0 k)) (b := 126) (by omega) (by omega)).mp c39
              refine lv_iload hx hb d_SM_type_59 (lv_at hl 2 rfl) ?_
              refine lv_iload hx hb d_SM_type_61 (lv_at hl 0 rfl) ?_
              refine lv_if_eq (tgt := 70) hx hb d_SM_type_63 (by decide) (fun c40 => ?_) (fun c40 => ?_)
              · have c40n : (byt sg0 k) = 0 := (nI_eq (a := (byt sg0 k)) (b := 0) (by omega) (by omega)).mp c40
                exact absurd c40n c36n
              · have c40n : ¬ ((byt sg0 k) = 0) := fun z => c40 ((nI_eq (a := (byt sg0 k)) (b := 0) (by omega) (by omega)).mpr z)
                refine lv_iconst (v := 1) hx hb d_SM_type_66 (by decide) ?_
                refine lv_goto (tgt := 71) hx hb d_SM_type_67 (by decide) ?_
                refine lv_iadd hx hb d_SM_type_71 ?_
                refine m_top (y := (nI (cnU sg0 (k + 1)))) (by rw [bz_1 c36n]; exact nI_add _ 1) ?_
                refine lv_istore (lv' := [(4, .int (nI (cnU sg0 (k + 1)))), (6, .int (nI (byt sg0 k))), (5, .int (nI k)), (0, .ref mo), (1, .int 1), (2, .long sg0)]) hx hb d_SM_type_72 hl (by decide) rfl (fun ls hl => ?_)
                refine lv_iinc (v := (nI (k + 1))) (lv' := [(5, .int (nI (k + 1))), (4, .int (nI (cnU sg0 (k + 1)))), (6, .int (nI (byt sg0 k))), (0, .ref mo), (1, .int 1), (2, .long sg0)]) hx hb d_SM_type_74 hl (k := 2) rfl (nI_1 _) (by decide) rfl (fun ls hl => ?_)
                refine lv_goto (tgt := 17) hx hb d_SM_type_77 (by decide) ?_
                exact ih (k + 1) ls H locs (by omega) (by omega) (fun j hj => by rcases Nat.lt_or_ge j k with z | z; exact hok j z; rw [show j = k by omega]; exact Or.inr ⟨by omega, by omega⟩) hw (lv_sub hl [0, 1, 3, 4, 5] rfl)
            · have c39n : ¬ ((byt sg0 k) ≤ 126) := fun z => c39 ((nI_leI (a := (byt sg0 k)) (b := 126) (by omega) (by omega)).mpr z)
              refine lv_iconst (v := (-1)) hx hb d_SM_type_57 (by decide) ?_
              exact m_iret hc hr hlk hw ⟨by first | decide | (dsimp only; omega), by first | decide | (dsimp only; omega)⟩ d_SM_type_58 ⟨fun _ => ⟨rfl, ⟨⟨_, av, b, md, hM, hMS0.fr (fun _ _ => rfl)⟩, hX⟩⟩, fun z => absurd (z k (by omega)) (fun y => y.elim c36n (fun y => absurd y (by omega))), fun z => absurd (z k (by omega)) (fun y => y.elim c36n (fun y => absurd y (by omega)))⟩
  exact loop 9 0 ls H locs (by omega) (by omega) (fun j hj => absurd hj (Nat.not_lt_zero _)) hw (lv_sub hl [0, 1, 2, 3, 4] rfl)

set_option maxHeartbeats 4000000 in
set_option maxRecDepth 100000 in
/-- type -/
theorem c_SM_type2 (G : GG) (l : Launch) (sz : Nat) (f : Wd) {mo c0 pn nn mn : Nat} {ar : Nat → Nat} {pt nt mt : Nat → Int32} {dp rf by_ co tx lx : Int32} {fl : Nat → Option FV} (hR : MR G c0 mo ar f pn pt nn nt mn mt dp rf by_ co tx lx fl) (hc0 : c0 < 512) (sg0 : Int64) : Ci G l y_SM_type b_SM_type 7 (some .int) ({ frames := 1, cells := 0, slots := 0, locals := 22 }) sz f [.ref mo, .int 2, .long sg0] (fun v f' => (¬ (∀ k, k < 8 → okb (byt sg0 k)) → v = -1 ∧ MRR G c0 mo ar f f' pn pt nn nt mn mt dp rf by_ co tx lx fl) ∧ ((∀ k, k < 8 → okb (byt sg0 k)) → ¬ mn + cnT sg0 8 ≤ 12 → v = -3 ∧ MRR G c0 mo ar f f' pn pt nn nt mn mt dp rf by_ co tx lx fl) ∧ ((∀ k, k < 8 → okb (byt sg0 k)) → mn + cnT sg0 8 ≤ 12 → v = nI (mn + cnT sg0 8) ∧ MRR G c0 mo ar f f' pn pt nn nt (mn + cnT sg0 8) (apT mt mn sg0 8) dp rf by_ co tx lx fl)) := by
  refine ct_of (by decide) (Nat.le_of_ble_eq_true rfl) ?_
  intro p e s m below meth c ls H locs hEn
  obtain ⟨hc, hr, hlk, hin, hE, hw, hsz, hl⟩ := hEn
  have hx := hc.1
  have hb := hc.2.1
  have hl : lv_has ls 7 [(0, .ref mo), (1, .int 2), (2, .long sg0)] := hl
  have hX : Mx mo ar f f := Mx.rf
  obtain ⟨sc, av, b, md, hM, hMS⟩ := hR
  have hMS0 := hMS
  obtain ⟨⟨h0, h1, h2, h3, h4⟩, ⟨h5, h6, h7⟩, ⟨h8, h9, h10⟩, ⟨hA, hnt, hmt, hS⟩, ⟨hbc, hmd, hpn, hnn, hmn⟩, hSL⟩ := hMS
  have hbn : b + pn ≤ 4200 := by omega
  have hcn := cnT_le sg0 8
  refine lv_aload_n hx hb d_SM_type_0 rfl (lv_at hl 0 rfl) ?_
  refine lv_iload_n hx hb d_SM_type_1 rfl (lv_at hl 1 rfl) ?_
  refine lv_iconst (v := 3) hx hb d_SM_type_2 (by decide) ?_
  refine m_calli hw (m_runV (As := [.int 2, .int 3]) (rest := []) hc hE hw (c_SM_out G l H.size f hM 2 3) hM.1 rfl cw_SM_71 se_SM_out rfl hl.1 rfl (Nat.le_of_ble_eq_true rfl) d_SM_type_3 ⟨rfl, rfl, by decide, by decide⟩ ⟨by first | decide | (dsimp only; omega), by first | decide | (dsimp only; omega)⟩) (fun r23 g22 H locs p21 hw => ?_)
  obtain ⟨rfl, p21⟩ := p21
  subst p21
  refine m_top (y := 0) (bI_f (by decide)) ?_
  refine lv_if_eq (tgt := 11) hx hb d_SM_type_6 (by decide) (fun _ => ?_) (fun z => absurd z (by decide))
  refine lv_iconst (v := 0) hx hb d_SM_type_11 (by decide) ?_
  refine lv_istore (lv' := [(4, .int 0), (0, .ref mo), (1, .int 2), (2, .long sg0)]) hx hb d_SM_type_12 hl (by decide) rfl (fun ls hl => ?_)
  refine lv_iconst (v := 0) hx hb d_SM_type_14 (by decide) ?_
  refine lv_istore (lv' := [(5, .int 0), (4, .int 0), (0, .ref mo), (1, .int 2), (2, .long sg0)]) hx hb d_SM_type_15 hl (by decide) rfl (fun ls hl => ?_)
  have loop : ∀ (fu : Nat) (k : Nat) (ls : Array Slot) (H : Heap) (locs : List Loc), 8 - k < fu → k ≤ 8 → (∀ j, j < k → okb (byt sg0 j)) → ms G.1 (Af f sz) f s H locs → lv_has ls 7 [(5, .int (nI k)), (4, .int (nI (cnU sg0 k))), (0, .ref mo), (1, .int 2), (2, .long sg0)] → W p l e ({ frames := 1, cells := 0, slots := 0, locals := 22 }) s m ([.ref mo, .int 2, .long sg0] : List Value).toArray below meth c H locs 0 0 (MQ below (va_Qi (fun v f' => (¬ (∀ k, k < 8 → okb (byt sg0 k)) → v = -1 ∧ MRR G c0 mo ar f f' pn pt nn nt mn mt dp rf by_ co tx lx fl) ∧ ((∀ k, k < 8 → okb (byt sg0 k)) → ¬ mn + cnT sg0 8 ≤ 12 → v = -3 ∧ MRR G c0 mo ar f f' pn pt nn nt mn mt dp rf by_ co tx lx fl) ∧ ((∀ k, k < 8 → okb (byt sg0 k)) → mn + cnT sg0 8 ≤ 12 → v = nI (mn + cnT sg0 8) ∧ MRR G c0 mo ar f f' pn pt nn nt (mn + cnT sg0 8) (apT mt mn sg0 8) dp rf by_ co tx lx fl)) (Bw G f sz) (Af f sz)) ([.ref mo, .int 2, .long sg0] : List Value).toArray s 0 0 (Af f sz)) (F0 m 17 ls []) := by
    intro fu
    induction fu with
    | zero => intro k ls H locs h0; exact absurd h0 (Nat.not_lt_zero _)
    | succ fu ih =>
      intro k ls H locs hfu hk hok hw hl
      have hcu := cnU_le sg0 k
      have hbl := byt_lt sg0 k
      refine lv_iload hx hb d_SM_type_17 (lv_at hl 0 rfl) ?_
      refine lv_bipush (v := 8) hx hb d_SM_type_19 (by decide) ?_
      refine lv_icmp_ge (tgt := 80) hx hb d_SM_type_21 (by decide) (fun c24 => ?_) (fun c24 => ?_)
      · have c24n : 8 ≤ k := (nI_leI (a := 8) (b := k) (by omega) (by omega)).mp c24
        have hk8 : k = 8 := by omega
        subst hk8
        refine lv_aload_n hx hb d_SM_type_80 rfl (lv_at hl 2 rfl) ?_
        refine lv_iload_n hx hb d_SM_type_81 rfl (lv_at hl 3 rfl) ?_
        refine m_calli hw (m_runV (As := [.int 2]) (rest := []) hc hE hw (c_SM_lengthOf G l H.size f hM 2) hM.1 rfl cw_SM_75 se_SM_lengthOf rfl hl.1 rfl (Nat.le_of_ble_eq_true rfl) d_SM_type_82 ⟨rfl, rfl, by decide, by decide⟩ ⟨by first | decide | (dsimp only; omega), by first | decide | (dsimp only; omega)⟩) (fun r27 g26 H locs p25 hw => ?_)
        obtain ⟨rfl, p25⟩ := p25
        subst p25
        refine m_top (y := nI mn) ((pif_f (by decide)).trans ((pif_f (by decide)).trans h3)) ?_
        refine lv_iload hx hb d_SM_type_85 (lv_at hl 1 rfl) ?_
        refine lv_iadd hx hb d_SM_type_87 ?_
        refine m_top (y := (nI (mn + cnT sg0 8))) (by rw [cnU8]; exact nI_add _ _) ?_
        refine lv_iload_n hx hb d_SM_type_88 rfl (lv_at hl 3 rfl) ?_
        refine lv_if_ne (tgt := 97) hx hb d_SM_type_89 (by decide) (fun _ => ?_) (fun z => absurd z (by decide))
        refine lv_iload_n hx hb d_SM_type_97 rfl (lv_at hl 3 rfl) ?_
        refine lv_iconst (v := 1) hx hb d_SM_type_98 (by decide) ?_
        refine lv_icmp_ne (tgt := 107) hx hb d_SM_type_99 (by decide) (fun _ => ?_) (fun z => absurd z (by decide))
        refine lv_bipush (v := 12) hx hb d_SM_type_107 (by decide) ?_
        refine lv_icmp_le (tgt := 115) hx hb d_SM_type_109 (by decide) (fun c28 => ?_) (fun c28 => ?_)
        · have c28n : (mn + cnT sg0 8) ≤ 12 := (nI_leI (a := (mn + cnT sg0 8)) (b := 12) (by omega) (by omega)).mp c28
          refine lv_bipush (v := 7) hx hb d_SM_type_115 (by decide) ?_
          refine lv_istore (lv' := [(5, .int 7), (4, .int (nI (cnU sg0 8))), (0, .ref mo), (1, .int 2), (2, .long sg0)]) hx hb d_SM_type_117 hl (by decide) rfl (fun ls hl => ?_)
          have hfit : mn + cnT sg0 8 ≤ 12 := by omega
          have loop2 : ∀ (fu : Nat) (m0 : Nat) (fj : Wd) (ls : Array Slot) (H : Heap) (locs : List Loc), 8 - m0 < fu → m0 ≤ 8 → Mw G mo ar (upd sc 3 (nI (mn + cnT sg0 m0))) (va_up av 2 (apT (av 2) (mn) sg0 m0)) fj → Mx mo ar f fj → ms G.1 (Af f sz) fj s H locs → lv_has ls 7 [(5, .int (kv m0)), (0, .ref mo), (1, .int 2), (2, .long sg0)] → W p l e ({ frames := 1, cells := 0, slots := 0, locals := 22 }) s m ([.ref mo, .int 2, .long sg0] : List Value).toArray below meth c H locs 0 0 (MQ below (va_Qi (fun v f' => (¬ (∀ k, k < 8 → okb (byt sg0 k)) → v = -1 ∧ MRR G c0 mo ar f f' pn pt nn nt mn mt dp rf by_ co tx lx fl) ∧ ((∀ k, k < 8 → okb (byt sg0 k)) → ¬ mn + cnT sg0 8 ≤ 12 → v = -3 ∧ MRR G c0 mo ar f f' pn pt nn nt mn mt dp rf by_ co tx lx fl) ∧ ((∀ k, k < 8 → okb (byt sg0 k)) → mn + cnT sg0 8 ≤ 12 → v = nI (mn + cnT sg0 8) ∧ MRR G c0 mo ar f f' pn pt nn nt (mn + cnT sg0 8) (apT mt mn sg0 8) dp rf by_ co tx lx fl)) (Bw G f sz) (Af f sz)) ([.ref mo, .int 2, .long sg0] : List Value).toArray s 0 0 (Af f sz)) (F0 m 119 ls []) := by
            intro fu
            induction fu with
            | zero => intro m0 fj ls H locs h0; exact absurd h0 (Nat.not_lt_zero _)
            | succ fu ih =>
              intro m0 fj ls H locs hfu hm hMj hXj hw hl
              refine lv_iload hx hb d_SM_type_119 (lv_at hl 0 rfl) ?_
              refine lv_if_lt (tgt := 156) hx hb d_SM_type_121 (by decide) (fun c29 => ?_) (fun c29 => ?_)
              · have hm9 : m0 = 8 := by
                  rcases Nat.lt_or_ge m0 8 with z | z
                  · exact absurd c29 (kv_p m0 z)
                  · omega
                subst hm9
                refine lv_aload_n hx hb d_SM_type_156 rfl (lv_at hl 1 rfl) ?_
                refine lv_iload_n hx hb d_SM_type_157 rfl (lv_at hl 2 rfl) ?_
                refine m_calli hw (m_runV (As := [.int 2]) (rest := []) hc hE hw (c_SM_lengthOf G l H.size fj hMj 2) hMj.1 rfl cw_SM_75 se_SM_lengthOf rfl hl.1 rfl (Nat.le_of_ble_eq_true rfl) d_SM_type_158 ⟨rfl, rfl, by decide, by decide⟩ ⟨by first | decide | (dsimp only; omega), by first | decide | (dsimp only; omega)⟩) (fun r32 g31 H locs p30 hw => ?_)
                obtain ⟨rfl, p30⟩ := p30
                subst p30
                refine m_top (y := nI (mn + cnT sg0 8)) ((pif_f (by decide)).trans (pif_f (by decide))) ?_
                exact m_iret hc hr hlk hw ⟨by first | decide | (dsimp only; omega), by first | decide | (dsimp only; omega)⟩ d_SM_type_161 ⟨fun z => absurd hok z, fun _ z => absurd hfit z, fun _ _ => ⟨rfl, ⟨_, _, b, md, hMj, hMS0.t2 hfit⟩, hXj⟩⟩
              · have hm8 : m0 < 8 := by
                  rcases Nat.lt_or_ge m0 8 with z | z
                  · exact z
                  · exact absurd (show kv m0 < 0 by rw [show m0 = 8 by omega]; decide) c29
                have hbl2 := byt_lt sg0 (7 - m0)
                refine lv_lload_n hx hb d_SM_type_124 rfl (lv_at hl 3 rfl) ?_
                refine lv_bipush (v := 8) hx hb d_SM_type_125 (by decide) ?_
                refine lv_iload hx hb d_SM_type_127 (lv_at hl 0 rfl) ?_
                refine m_top (y := nI (7 - m0)) (kv_e m0 hm8) ?_
                refine lv_imul hx hb d_SM_type_129 ?_
                refine m_top (y := (nI (8 * (7 - m0)))) (pk_mul 8 (7 - m0)) ?_
                refine lv_lshr hx hb d_SM_type_130 rfl ?_
                refine lv_l2i hx hb d_SM_type_131 rfl ?_
                refine lv_sipush (v := 255) hx hb d_SM_type_132 (by decide) ?_
                refine lv_iand hx hb d_SM_type_135 ?_
                refine m_top (y := (nI (byt sg0 (7 - m0)))) (byt_s sg0 (by omega)) ?_
                refine lv_istore (lv' := [(6, .int (nI (byt sg0 (7 - m0)))), (5, .int (kv m0)), (0, .ref mo), (1, .int 2), (2, .long sg0)]) hx hb d_SM_type_136 hl (by decide) rfl (fun ls hl => ?_)
                refine lv_iload hx hb d_SM_type_138 (lv_at hl 0 rfl) ?_
                refine lv_if_eq (tgt := 150) hx hb d_SM_type_140 (by decide) (fun c33 => ?_) (fun c33 => ?_)
                · have c33n : (byt sg0 (7 - m0)) = 0 := (nI_eq (a := (byt sg0 (7 - m0))) (b := 0) (by omega) (by omega)).mp c33
                  refine lv_iinc (v := (kv (m0 + 1))) (lv' := [(5, .int (kv (m0 + 1))), (6, .int (nI (byt sg0 (7 - m0)))), (0, .ref mo), (1, .int 2), (2, .long sg0)]) hx hb d_SM_type_150 hl (k := 1) rfl (kv_n m0 hm8) (by decide) rfl (fun ls hl => ?_)
                  refine lv_goto (tgt := 119) hx hb d_SM_type_153 (by decide) ?_
                  have hz := c33n
                  exact ih (m0 + 1) fj ls H locs (by omega) (by omega) (by rw [cnT_z hz, apT_z hz]; exact hMj) hXj hw (lv_sub hl [0, 2, 3, 4] rfl)
                · have c33n : ¬ ((byt sg0 (7 - m0)) = 0) := fun z => c33 ((nI_eq (a := (byt sg0 (7 - m0))) (b := 0) (by omega) (by omega)).mpr z)
                  refine lv_aload_n hx hb d_SM_type_143 rfl (lv_at hl 2 rfl) ?_
                  refine lv_iload_n hx hb d_SM_type_144 rfl (lv_at hl 3 rfl) ?_
                  refine lv_iload hx hb d_SM_type_145 (lv_at hl 0 rfl) ?_
                  have hz := c33n
                  have hct := cnT_n (s := sg0) hz
                  have hcm := cnT_mono sg0 (m0 + 1) (7 - m0)
                  rw [show m0 + 1 + (7 - m0) = 8 by omega] at hcm
                  refine m_callv hw (m_runV (As := [.int 2, .int (nI (byt sg0 (7 - m0)))]) (rest := []) hc hE hw (c_SM_add2 G l H.size fj hMj (L := mn + cnT sg0 m0) (upd_self' _ _ _) (by omega) (nI (byt sg0 (7 - m0)))) hMj.1 rfl cw_SM_79 se_SM_add rfl hl.1 rfl (Nat.le_of_ble_eq_true rfl) d_SM_type_147 ⟨rfl, rfl, by decide, by decide⟩ ⟨by first | decide | (dsimp only; omega), by first | decide | (dsimp only; omega)⟩) (fun g35 H locs p34 hw => ?_)
                  obtain ⟨hMa, hXa⟩ := p34
                  rw [upd_uu, va_uu] at hMa
                  replace hMa : Mw G mo ar (upd sc 3 (nI (mn + cnT sg0 (m0 + 1)))) (va_up av 2 (apT (av 2) (mn) sg0 (m0 + 1))) g35 := by rw [hct, apT_n hz]; exact hMa
                  refine lv_iinc (v := (kv (m0 + 1))) (lv' := [(5, .int (kv (m0 + 1))), (6, .int (nI (byt sg0 (7 - m0)))), (0, .ref mo), (1, .int 2), (2, .long sg0)]) hx hb d_SM_type_150 hl (k := 1) rfl (kv_n m0 hm8) (by decide) rfl (fun ls hl => ?_)
                  refine lv_goto (tgt := 119) hx hb d_SM_type_153 (by decide) ?_
                  exact ih (m0 + 1) g35 ls H locs (by omega) (by omega) hMa (hXj.tr hXa) hw (lv_sub hl [0, 2, 3, 4] rfl)
          have hM0 : Mw G mo ar (upd sc 3 (nI (mn + cnT sg0 0))) (va_up av 2 (apT (av 2) (mn) sg0 0)) f := by
            have e1 : (upd sc 3 (nI (mn + cnT sg0 0))) = sc := by funext j; by_cases z : j = 3; rw [z, upd_self']; exact h3.symm; exact upd_ne' _ _ _ z
            have e2 : (va_up av 2 (apT (av 2) (mn) sg0 0)) = av := by funext j; by_cases z : j = 2; rw [z, va_up_self]; rfl; rw [va_up_ne _ _ z]
            rw [e1, e2]; exact hM
          exact loop2 9 0 f ls H locs (by omega) (by omega) hM0 Mx.rf hw (lv_sub hl [0, 2, 3, 4] rfl)
        · have c28n : ¬ ((mn + cnT sg0 8) ≤ 12) := fun z => c28 ((nI_leI (a := (mn + cnT sg0 8)) (b := 12) (by omega) (by omega)).mpr z)
          refine lv_bipush (v := (-3)) hx hb d_SM_type_112 (by decide) ?_
          exact m_iret hc hr hlk hw ⟨by first | decide | (dsimp only; omega), by first | decide | (dsimp only; omega)⟩ d_SM_type_114 ⟨fun z => absurd hok z, fun _ _ => ⟨rfl, ⟨⟨_, av, b, md, hM, hMS0.fr (fun _ _ => rfl)⟩, hX⟩⟩, fun _ z => absurd z (by omega)⟩
      · have c24n : ¬ (8 ≤ k) := fun z => c24 ((nI_leI (a := 8) (b := k) (by omega) (by omega)).mpr z)
        refine lv_lload_n hx hb d_SM_type_24 rfl (lv_at hl 4 rfl) ?_
        refine lv_bipush (v := 8) hx hb d_SM_type_25 (by decide) ?_
        refine lv_iload hx hb d_SM_type_27 (lv_at hl 0 rfl) ?_
        refine lv_imul hx hb d_SM_type_29 ?_
        refine m_top (y := (nI (8 * k))) (pk_mul 8 k) ?_
        refine lv_lshr hx hb d_SM_type_30 rfl ?_
        refine lv_l2i hx hb d_SM_type_31 rfl ?_
        refine lv_sipush (v := 255) hx hb d_SM_type_32 (by decide) ?_
        refine lv_iand hx hb d_SM_type_35 ?_
        refine m_top (y := (nI (byt sg0 k))) (byt_s sg0 (by omega)) ?_
        refine lv_istore (lv' := [(6, .int (nI (byt sg0 k))), (5, .int (nI k)), (4, .int (nI (cnU sg0 k))), (0, .ref mo), (1, .int 2), (2, .long sg0)]) hx hb d_SM_type_36 hl (by decide) rfl (fun ls hl => ?_)
        refine lv_iload hx hb d_SM_type_38 (lv_at hl 0 rfl) ?_
        refine lv_if_eq (tgt := 59) hx hb d_SM_type_40 (by decide) (fun c36 => ?_) (fun c36 => ?_)
        · have c36n : (byt sg0 k) = 0 := (nI_eq (a := (byt sg0 k)) (b := 0) (by omega) (by omega)).mp c36
          refine lv_iload hx hb d_SM_type_59 (lv_at hl 2 rfl) ?_
          refine lv_iload hx hb d_SM_type_61 (lv_at hl 0 rfl) ?_
          refine lv_if_eq (tgt := 70) hx hb d_SM_type_63 (by decide) (fun c37 => ?_) (fun c37 => ?_)
          · have c37n : (byt sg0 k) = 0 := (nI_eq (a := (byt sg0 k)) (b := 0) (by omega) (by omega)).mp c37
            refine lv_iconst (v := 0) hx hb d_SM_type_70 (by decide) ?_
            refine lv_iadd hx hb d_SM_type_71 ?_
            refine m_top (y := (nI (cnU sg0 (k + 1)))) (by rw [bz_0 c36n]; exact nI_add _ 0) ?_
            refine lv_istore (lv' := [(4, .int (nI (cnU sg0 (k + 1)))), (6, .int (nI (byt sg0 k))), (5, .int (nI k)), (0, .ref mo), (1, .int 2), (2, .long sg0)]) hx hb d_SM_type_72 hl (by decide) rfl (fun ls hl => ?_)
            refine lv_iinc (v := (nI (k + 1))) (lv' := [(5, .int (nI (k + 1))), (4, .int (nI (cnU sg0 (k + 1)))), (6, .int (nI (byt sg0 k))), (0, .ref mo), (1, .int 2), (2, .long sg0)]) hx hb d_SM_type_74 hl (k := 2) rfl (nI_1 _) (by decide) rfl (fun ls hl => ?_)
            refine lv_goto (tgt := 17) hx hb d_SM_type_77 (by decide) ?_
            exact ih (k + 1) ls H locs (by omega) (by omega) (fun j hj => by rcases Nat.lt_or_ge j k with z | z; exact hok j z; rw [show j = k by omega]; exact Or.inl c36n) hw (lv_sub hl [0, 1, 3, 4, 5] rfl)
          · have c37n : ¬ ((byt sg0 k) = 0) := fun z => c37 ((nI_eq (a := (byt sg0 k)) (b := 0) (by omega) (by omega)).mpr z)
            exact absurd c36n c37n
        · have c36n : ¬ ((byt sg0 k) = 0) := fun z => c36 ((nI_eq (a := (byt sg0 k)) (b := 0) (by omega) (by omega)).mpr z)
          refine lv_iload hx hb d_SM_type_43 (lv_at hl 0 rfl) ?_
          refine lv_bipush (v := 33) hx hb d_SM_type_45 (by decide) ?_
          refine lv_icmp_lt (tgt := 57) hx hb d_SM_type_47 (by decide) (fun c38 => ?_) (fun c38 => ?_)
          · have c38n : (byt sg0 k) < 33 := (nI_ltI (a := (byt sg0 k)) (b := 33) (by omega) (by omega)).mp c38
            refine lv_iconst (v := (-1)) hx hb d_SM_type_57 (by decide) ?_
            exact m_iret hc hr hlk hw ⟨by first | decide | (dsimp only; omega), by first | decide | (dsimp only; omega)⟩ d_SM_type_58 ⟨fun _ => ⟨rfl, ⟨⟨_, av, b, md, hM, hMS0.fr (fun _ _ => rfl)⟩, hX⟩⟩, fun z => absurd (z k (by omega)) (fun y => y.elim c36n (fun y => absurd y (by omega))), fun z => absurd (z k (by omega)) (fun y => y.elim c36n (fun y => absurd y (by omega)))⟩
          · have c38n : ¬ ((byt sg0 k) < 33) := fun z => c38 ((nI_ltI (a := (byt sg0 k)) (b := 33) (by omega) (by omega)).mpr z)
            refine lv_iload hx hb d_SM_type_50 (lv_at hl 0 rfl) ?_
            refine lv_bipush (v := 126) hx hb d_SM_type_52 (by decide) ?_
            refine lv_icmp_le (tgt := 59) hx hb d_SM_type_54 (by decide) (fun c39 => ?_) (fun c39 => ?_)
            · have c39n : (byt sg0 k) ≤ 126 := (nI_leI (a := (byt sg0 k)) (b := 126) (by omega) (by omega)).mp c39
              refine lv_iload hx hb d_SM_type_59 (lv_at hl 2 rfl) ?_
              refine lv_iload hx hb d_SM_type_61 (lv_at hl 0 rfl) ?_
              refine lv_if_eq (tgt := 70) hx hb d_SM_type_63 (by decide) (fun c40 => ?_) (fun c40 => ?_)
              · have c40n : (byt sg0 k) = 0 := (nI_eq (a := (byt sg0 k)) (b := 0) (by omega) (by omega)).mp c40
                exact absurd c40n c36n
              · have c40n : ¬ ((byt sg0 k) = 0) := fun z => c40 ((nI_eq (a := (byt sg0 k)) (b := 0) (by omega) (by omega)).mpr z)
                refine lv_iconst (v := 1) hx hb d_SM_type_66 (by decide) ?_
                refine lv_goto (tgt := 71) hx hb d_SM_type_67 (by decide) ?_
                refine lv_iadd hx hb d_SM_type_71 ?_
                refine m_top (y := (nI (cnU sg0 (k + 1)))) (by rw [bz_1 c36n]; exact nI_add _ 1) ?_
                refine lv_istore (lv' := [(4, .int (nI (cnU sg0 (k + 1)))), (6, .int (nI (byt sg0 k))), (5, .int (nI k)), (0, .ref mo), (1, .int 2), (2, .long sg0)]) hx hb d_SM_type_72 hl (by decide) rfl (fun ls hl => ?_)
                refine lv_iinc (v := (nI (k + 1))) (lv' := [(5, .int (nI (k + 1))), (4, .int (nI (cnU sg0 (k + 1)))), (6, .int (nI (byt sg0 k))), (0, .ref mo), (1, .int 2), (2, .long sg0)]) hx hb d_SM_type_74 hl (k := 2) rfl (nI_1 _) (by decide) rfl (fun ls hl => ?_)
                refine lv_goto (tgt := 17) hx hb d_SM_type_77 (by decide) ?_
                exact ih (k + 1) ls H locs (by omega) (by omega) (fun j hj => by rcases Nat.lt_or_ge j k with z | z; exact hok j z; rw [show j = k by omega]; exact Or.inr ⟨by omega, by omega⟩) hw (lv_sub hl [0, 1, 3, 4, 5] rfl)
            · have c39n : ¬ ((byt sg0 k) ≤ 126) := fun z => c39 ((nI_leI (a := (byt sg0 k)) (b := 126) (by omega) (by omega)).mpr z)
              refine lv_iconst (v := (-1)) hx hb d_SM_type_57 (by decide) ?_
              exact m_iret hc hr hlk hw ⟨by first | decide | (dsimp only; omega), by first | decide | (dsimp only; omega)⟩ d_SM_type_58 ⟨fun _ => ⟨rfl, ⟨⟨_, av, b, md, hM, hMS0.fr (fun _ _ => rfl)⟩, hX⟩⟩, fun z => absurd (z k (by omega)) (fun y => y.elim c36n (fun y => absurd y (by omega))), fun z => absurd (z k (by omega)) (fun y => y.elim c36n (fun y => absurd y (by omega)))⟩
  exact loop 9 0 ls H locs (by omega) (by omega) (fun j hj => absurd hj (Nat.not_lt_zero _)) hw (lv_sub hl [0, 1, 2, 3, 4] rfl)

set_option maxHeartbeats 4000000 in
set_option maxRecDepth 100000 in
/-- type -/
theorem c_SM_typeX (G : GG) (l : Launch) (sz : Nat) (f : Wd) {mo c0 pn nn mn : Nat} {ar : Nat → Nat} {pt nt mt : Nat → Int32} {dp rf by_ co tx lx : Int32} {fl : Nat → Option FV} (hR : MR G c0 mo ar f pn pt nn nt mn mt dp rf by_ co tx lx fl) (hc0 : c0 < 512) (x : Int32) (sg0 : Int64) (hx0 : ¬ x = 0) (hx1 : ¬ x = 1) (hx2 : ¬ x = 2) : Ci G l y_SM_type b_SM_type 7 (some .int) ({ frames := 1, cells := 0, slots := 0, locals := 22 }) sz f [.ref mo, .int x, .long sg0] (fun v f' => v = -1 ∧ MRR G c0 mo ar f f' pn pt nn nt mn mt dp rf by_ co tx lx fl) := by
  refine ct_of (by decide) (Nat.le_of_ble_eq_true rfl) ?_
  intro p e s m below meth c ls H locs hEn
  obtain ⟨hc, hr, hlk, hin, hE, hw, hsz, hl⟩ := hEn
  have hx := hc.1
  have hb := hc.2.1
  have hl : lv_has ls 7 [(0, .ref mo), (1, .int x), (2, .long sg0)] := hl
  have hX : Mx mo ar f f := Mx.rf
  obtain ⟨sc, av, b, md, hM, hMS⟩ := hR
  have hMS0 := hMS
  obtain ⟨⟨h0, h1, h2, h3, h4⟩, ⟨h5, h6, h7⟩, ⟨h8, h9, h10⟩, ⟨hA, hnt, hmt, hS⟩, ⟨hbc, hmd, hpn, hnn, hmn⟩, hSL⟩ := hMS
  have hbn : b + pn ≤ 4200 := by omega
  refine lv_aload_n hx hb d_SM_type_0 rfl (lv_at hl 0 rfl) ?_
  refine lv_iload_n hx hb d_SM_type_1 rfl (lv_at hl 1 rfl) ?_
  refine lv_iconst (v := 3) hx hb d_SM_type_2 (by decide) ?_
  refine m_calli hw (m_runV (As := [.int x, .int 3]) (rest := []) hc hE hw (c_SM_out G l H.size f hM x 3) hM.1 rfl cw_SM_71 se_SM_out rfl hl.1 rfl (Nat.le_of_ble_eq_true rfl) d_SM_type_3 ⟨rfl, rfl, by decide, by decide⟩ ⟨by first | decide | (dsimp only; omega), by first | decide | (dsimp only; omega)⟩) (fun r23 g22 H locs p21 hw => ?_)
  obtain ⟨rfl, p21⟩ := p21
  subst p21
  refine lv_if_eq (tgt := 11) hx hb d_SM_type_6 (by decide) (fun c24 => ?_) (fun c24 => ?_)
  · have c24n : ¬ (x < 0 ∨ 3 ≤ x) := bI_0.mp c24
    exact absurd (x3_of c24n) (fun z => z.elim hx0 (fun z => z.elim hx1 hx2))
  · have c24n : (x < 0 ∨ 3 ≤ x) := bI_n.mp c24
    refine lv_iconst (v := (-1)) hx hb d_SM_type_9 (by decide) ?_
    exact m_iret hc hr hlk hw ⟨by first | decide | (dsimp only; omega), by first | decide | (dsimp only; omega)⟩ d_SM_type_10 ⟨rfl, ⟨⟨_, av, b, md, hM, hMS0.fr (fun _ _ => rfl)⟩, hX⟩⟩
