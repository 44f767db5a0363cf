/-! links of the pools, as the walks ask for them -/
theorem l_SM_91_SM : lnk "StreamFiltersModel" 91 F_SM 38 25 := ⟨by decide, "StreamFiltersModel", Or.inl rfl, Or.inl (tb 639 (by decide +kernel) rfl)⟩
theorem l_SM_98_SM : lnk "StreamFiltersModel" 98 F_SM 38 26 := ⟨by decide, "StreamFiltersModel", Or.inl rfl, Or.inl (tb 640 (by decide +kernel) rfl)⟩
theorem cw_SM_94 : cwk "StreamFiltersModel" 94 y_SM_isName b_SM_isName 10 (some .boolean) 3 := ⟨Or.inl (tb 769 (by decide +kernel) rfl), (tb 772 (by decide +kernel) rfl), (tb 5 (by decide +kernel) rfl), by decide, by decide, by decide +kernel⟩
theorem se_SM_isName : Cond.instanceMethod y_SM_isName ∈ TB ∧ Cond.selects "StreamFiltersModel" y_SM_isName y_SM_isName ∈ TB := ⟨(tb 771 (by decide +kernel) rfl), (tbs 21 (by decide +kernel) rfl)⟩
theorem wd_constantLong_StreamFiltersModel_83_431198598248 : Cond.constantLong "StreamFiltersModel" 83 431198598248 ∈ TB := (tb 773 (by decide +kernel) rfl)
theorem wd_constantLong_StreamFiltersModel_85_1919247987 : Cond.constantLong "StreamFiltersModel" 85 1919247987 ∈ TB := (tb 774 (by decide +kernel) rfl)
theorem wd_constantLong_StreamFiltersModel_87_422944466291 : Cond.constantLong "StreamFiltersModel" 87 422944466291 ∈ TB := (tb 775 (by decide +kernel) rfl)
theorem wd_constantLong_StreamFiltersModel_89_418531926393 : Cond.constantLong "StreamFiltersModel" 89 418531926393 ∈ TB := (tb 776 (by decide +kernel) rfl)
/-! decode rows -/
theorem d_SM_limitPiece_0 : decode b_SM_limitPiece 0 = .ok (.aload_n 0, 1) := by decide +kernel
theorem d_SM_limitPiece_1 : decode b_SM_limitPiece 1 = .ok (.iconst (-1), 1) := by decide +kernel
theorem d_SM_limitPiece_2 : decode b_SM_limitPiece 2 = .ok (.putfield 91, 3) := by decide +kernel
theorem d_SM_limitPiece_5 : decode b_SM_limitPiece 5 = .ok (.iconst 0, 1) := by decide +kernel
theorem d_SM_limitPiece_6 : decode b_SM_limitPiece 6 = .ok (.istore 4, 2) := by decide +kernel
theorem d_SM_limitPiece_8 : decode b_SM_limitPiece 8 = .ok (.iload 4, 2) := by decide +kernel
theorem d_SM_limitPiece_10 : decode b_SM_limitPiece 10 = .ok (.iconst 4, 1) := by decide +kernel
theorem d_SM_limitPiece_11 : decode b_SM_limitPiece 11 = .ok (.if_icmp .ge 26, 3) := by decide +kernel
theorem d_SM_limitPiece_14 : decode b_SM_limitPiece 14 = .ok (.aload_n 0, 1) := by decide +kernel
theorem d_SM_limitPiece_15 : decode b_SM_limitPiece 15 = .ok (.iload_n 1, 1) := by decide +kernel
theorem d_SM_limitPiece_16 : decode b_SM_limitPiece 16 = .ok (.iload_n 2, 1) := by decide +kernel
theorem d_SM_limitPiece_17 : decode b_SM_limitPiece 17 = .ok (.iload 4, 2) := by decide +kernel
theorem d_SM_limitPiece_19 : decode b_SM_limitPiece 19 = .ok (.invokevirtual 94, 3) := by decide +kernel
theorem d_SM_limitPiece_22 : decode b_SM_limitPiece 22 = .ok (.ifCond .eq 9, 3) := by decide +kernel
theorem d_SM_limitPiece_25 : decode b_SM_limitPiece 25 = .ok (.aload_n 0, 1) := by decide +kernel
theorem d_SM_limitPiece_26 : decode b_SM_limitPiece 26 = .ok (.iload 4, 2) := by decide +kernel
theorem d_SM_limitPiece_28 : decode b_SM_limitPiece 28 = .ok (.putfield 91, 3) := by decide +kernel
theorem d_SM_limitPiece_31 : decode b_SM_limitPiece 31 = .ok (.iinc 4 1, 3) := by decide +kernel
theorem d_SM_limitPiece_34 : decode b_SM_limitPiece 34 = .ok (.goto (-26), 3) := by decide +kernel
theorem d_SM_limitPiece_37 : decode b_SM_limitPiece 37 = .ok (.iload_n 3, 1) := by decide +kernel
theorem d_SM_limitPiece_38 : decode b_SM_limitPiece 38 = .ok (.iload_n 2, 1) := by decide +kernel
theorem d_SM_limitPiece_39 : decode b_SM_limitPiece 39 = .ok (.isub, 1) := by decide +kernel
theorem d_SM_limitPiece_40 : decode b_SM_limitPiece 40 = .ok (.iconst 1, 1) := by decide +kernel
theorem d_SM_limitPiece_41 : decode b_SM_limitPiece 41 = .ok (.isub, 1) := by decide +kernel
theorem d_SM_limitPiece_42 : decode b_SM_limitPiece 42 = .ok (.istore 4, 2) := by decide +kernel
theorem d_SM_limitPiece_44 : decode b_SM_limitPiece 44 = .ok (.aload_n 0, 1) := by decide +kernel
theorem d_SM_limitPiece_45 : decode b_SM_limitPiece 45 = .ok (.getfield 91, 3) := by decide +kernel
theorem d_SM_limitPiece_48 : decode b_SM_limitPiece 48 = .ok (.ifCond .lt 16, 3) := by decide +kernel
theorem d_SM_limitPiece_51 : decode b_SM_limitPiece 51 = .ok (.iload 4, 2) := by decide +kernel
theorem d_SM_limitPiece_53 : decode b_SM_limitPiece 53 = .ok (.iconst 1, 1) := by decide +kernel
theorem d_SM_limitPiece_54 : decode b_SM_limitPiece 54 = .ok (.if_icmp .lt 10, 3) := by decide +kernel
theorem d_SM_limitPiece_57 : decode b_SM_limitPiece 57 = .ok (.iload 4, 2) := by decide +kernel
theorem d_SM_limitPiece_59 : decode b_SM_limitPiece 59 = .ok (.bipush 9, 2) := by decide +kernel
theorem d_SM_limitPiece_61 : decode b_SM_limitPiece 61 = .ok (.if_icmp .le 5, 3) := by decide +kernel
theorem d_SM_limitPiece_64 : decode b_SM_limitPiece 64 = .ok (.iconst 3, 1) := by decide +kernel
theorem d_SM_limitPiece_65 : decode b_SM_limitPiece 65 = .ok (.ireturn, 1) := by decide +kernel
theorem d_SM_limitPiece_66 : decode b_SM_limitPiece 66 = .ok (.aload_n 0, 1) := by decide +kernel
theorem d_SM_limitPiece_67 : decode b_SM_limitPiece 67 = .ok (.iconst 0, 1) := by decide +kernel
theorem d_SM_limitPiece_68 : decode b_SM_limitPiece 68 = .ok (.putfield 98, 3) := by decide +kernel
theorem d_SM_limitPiece_71 : decode b_SM_limitPiece 71 = .ok (.iload_n 2, 1) := by decide +kernel
theorem d_SM_limitPiece_72 : decode b_SM_limitPiece 72 = .ok (.iconst 1, 1) := by decide +kernel
theorem d_SM_limitPiece_73 : decode b_SM_limitPiece 73 = .ok (.iadd, 1) := by decide +kernel
theorem d_SM_limitPiece_74 : decode b_SM_limitPiece 74 = .ok (.istore 5, 2) := by decide +kernel
theorem d_SM_limitPiece_76 : decode b_SM_limitPiece 76 = .ok (.iload 5, 2) := by decide +kernel
theorem d_SM_limitPiece_78 : decode b_SM_limitPiece 78 = .ok (.iload_n 3, 1) := by decide +kernel
theorem d_SM_limitPiece_79 : decode b_SM_limitPiece 79 = .ok (.if_icmp .ge 57, 3) := by decide +kernel
theorem d_SM_limitPiece_82 : decode b_SM_limitPiece 82 = .ok (.aload_n 0, 1) := by decide +kernel
theorem d_SM_limitPiece_83 : decode b_SM_limitPiece 83 = .ok (.getfield 7, 3) := by decide +kernel
theorem d_SM_limitPiece_86 : decode b_SM_limitPiece 86 = .ok (.iload 5, 2) := by decide +kernel
theorem d_SM_limitPiece_88 : decode b_SM_limitPiece 88 = .ok (.iaload, 1) := by decide +kernel
theorem d_SM_limitPiece_89 : decode b_SM_limitPiece 89 = .ok (.bipush 48, 2) := by decide +kernel
theorem d_SM_limitPiece_91 : decode b_SM_limitPiece 91 = .ok (.if_icmp .lt 15, 3) := by decide +kernel
theorem d_SM_limitPiece_94 : decode b_SM_limitPiece 94 = .ok (.aload_n 0, 1) := by decide +kernel
theorem d_SM_limitPiece_95 : decode b_SM_limitPiece 95 = .ok (.getfield 7, 3) := by decide +kernel
theorem d_SM_limitPiece_98 : decode b_SM_limitPiece 98 = .ok (.iload 5, 2) := by decide +kernel
theorem d_SM_limitPiece_100 : decode b_SM_limitPiece 100 = .ok (.iaload, 1) := by decide +kernel
theorem d_SM_limitPiece_101 : decode b_SM_limitPiece 101 = .ok (.bipush 57, 2) := by decide +kernel
theorem d_SM_limitPiece_103 : decode b_SM_limitPiece 103 = .ok (.if_icmp .le 5, 3) := by decide +kernel
theorem d_SM_limitPiece_106 : decode b_SM_limitPiece 106 = .ok (.iconst 3, 1) := by decide +kernel
theorem d_SM_limitPiece_107 : decode b_SM_limitPiece 107 = .ok (.ireturn, 1) := by decide +kernel
theorem d_SM_limitPiece_108 : decode b_SM_limitPiece 108 = .ok (.aload_n 0, 1) := by decide +kernel
theorem d_SM_limitPiece_109 : decode b_SM_limitPiece 109 = .ok (.aload_n 0, 1) := by decide +kernel
theorem d_SM_limitPiece_110 : decode b_SM_limitPiece 110 = .ok (.getfield 98, 3) := by decide +kernel
theorem d_SM_limitPiece_113 : decode b_SM_limitPiece 113 = .ok (.bipush 10, 2) := by decide +kernel
theorem d_SM_limitPiece_115 : decode b_SM_limitPiece 115 = .ok (.imul, 1) := by decide +kernel
theorem d_SM_limitPiece_116 : decode b_SM_limitPiece 116 = .ok (.aload_n 0, 1) := by decide +kernel
theorem d_SM_limitPiece_117 : decode b_SM_limitPiece 117 = .ok (.getfield 7, 3) := by decide +kernel
theorem d_SM_limitPiece_120 : decode b_SM_limitPiece 120 = .ok (.iload 5, 2) := by decide +kernel
theorem d_SM_limitPiece_122 : decode b_SM_limitPiece 122 = .ok (.iaload, 1) := by decide +kernel
theorem d_SM_limitPiece_123 : decode b_SM_limitPiece 123 = .ok (.iadd, 1) := by decide +kernel
theorem d_SM_limitPiece_124 : decode b_SM_limitPiece 124 = .ok (.bipush 48, 2) := by decide +kernel
theorem d_SM_limitPiece_126 : decode b_SM_limitPiece 126 = .ok (.isub, 1) := by decide +kernel
theorem d_SM_limitPiece_127 : decode b_SM_limitPiece 127 = .ok (.putfield 98, 3) := by decide +kernel
theorem d_SM_limitPiece_130 : decode b_SM_limitPiece 130 = .ok (.iinc 5 1, 3) := by decide +kernel
theorem d_SM_limitPiece_133 : decode b_SM_limitPiece 133 = .ok (.goto (-57), 3) := by decide +kernel
theorem d_SM_limitPiece_136 : decode b_SM_limitPiece 136 = .ok (.iconst 1, 1) := by decide +kernel
theorem d_SM_limitPiece_137 : decode b_SM_limitPiece 137 = .ok (.ireturn, 1) := by decide +kernel
theorem d_SM_isName_0 : decode b_SM_isName 0 = .ok (.iload_n 3, 1) := by decide +kernel
theorem d_SM_isName_1 : decode b_SM_isName 1 = .ok (.ifCond .ne 9, 3) := by decide +kernel
theorem d_SM_isName_4 : decode b_SM_isName 4 = .ok (.ldc2_w 83, 3) := by decide +kernel
theorem d_SM_isName_7 : decode b_SM_isName 7 = .ok (.goto 28, 3) := by decide +kernel
theorem d_SM_isName_10 : decode b_SM_isName 10 = .ok (.iload_n 3, 1) := by decide +kernel
theorem d_SM_isName_11 : decode b_SM_isName 11 = .ok (.iconst 1, 1) := by decide +kernel
theorem d_SM_isName_12 : decode b_SM_isName 12 = .ok (.if_icmp .ne 9, 3) := by decide +kernel
theorem d_SM_isName_15 : decode b_SM_isName 15 = .ok (.ldc2_w 85, 3) := by decide +kernel
theorem d_SM_isName_18 : decode b_SM_isName 18 = .ok (.goto 17, 3) := by decide +kernel
theorem d_SM_isName_21 : decode b_SM_isName 21 = .ok (.iload_n 3, 1) := by decide +kernel
theorem d_SM_isName_22 : decode b_SM_isName 22 = .ok (.iconst 2, 1) := by decide +kernel
theorem d_SM_isName_23 : decode b_SM_isName 23 = .ok (.if_icmp .ne 9, 3) := by decide +kernel
theorem d_SM_isName_26 : decode b_SM_isName 26 = .ok (.ldc2_w 87, 3) := by decide +kernel
theorem d_SM_isName_29 : decode b_SM_isName 29 = .ok (.goto 6, 3) := by decide +kernel
theorem d_SM_isName_32 : decode b_SM_isName 32 = .ok (.ldc2_w 89, 3) := by decide +kernel
theorem d_SM_isName_35 : decode b_SM_isName 35 = .ok (.lstore 4, 2) := by decide +kernel
theorem d_SM_isName_37 : decode b_SM_isName 37 = .ok (.iload_n 3, 1) := by decide +kernel
theorem d_SM_isName_38 : decode b_SM_isName 38 = .ok (.iconst 1, 1) := by decide +kernel
theorem d_SM_isName_39 : decode b_SM_isName 39 = .ok (.if_icmp .ne 7, 3) := by decide +kernel
theorem d_SM_isName_42 : decode b_SM_isName 42 = .ok (.iconst 4, 1) := by decide +kernel
theorem d_SM_isName_43 : decode b_SM_isName 43 = .ok (.goto 4, 3) := by decide +kernel
theorem d_SM_isName_46 : decode b_SM_isName 46 = .ok (.iconst 5, 1) := by decide +kernel
theorem d_SM_isName_47 : decode b_SM_isName 47 = .ok (.istore 6, 2) := by decide +kernel
theorem d_SM_isName_49 : decode b_SM_isName 49 = .ok (.iload_n 2, 1) := by decide +kernel
theorem d_SM_isName_50 : decode b_SM_isName 50 = .ok (.iload_n 1, 1) := by decide +kernel
theorem d_SM_isName_51 : decode b_SM_isName 51 = .ok (.isub, 1) := by decide +kernel
theorem d_SM_isName_52 : decode b_SM_isName 52 = .ok (.iload 6, 2) := by decide +kernel
theorem d_SM_isName_54 : decode b_SM_isName 54 = .ok (.iconst 3, 1) := by decide +kernel
theorem d_SM_isName_55 : decode b_SM_isName 55 = .ok (.iadd, 1) := by decide +kernel
theorem d_SM_isName_56 : decode b_SM_isName 56 = .ok (.if_icmp .ne 40, 3) := by decide +kernel
theorem d_SM_isName_59 : decode b_SM_isName 59 = .ok (.aload_n 0, 1) := by decide +kernel
theorem d_SM_isName_60 : decode b_SM_isName 60 = .ok (.getfield 7, 3) := by decide +kernel
theorem d_SM_isName_63 : decode b_SM_isName 63 = .ok (.iload_n 1, 1) := by decide +kernel
theorem d_SM_isName_64 : decode b_SM_isName 64 = .ok (.iaload, 1) := by decide +kernel
theorem d_SM_isName_65 : decode b_SM_isName 65 = .ok (.bipush 109, 2) := by decide +kernel
theorem d_SM_isName_67 : decode b_SM_isName 67 = .ok (.if_icmp .ne 29, 3) := by decide +kernel
theorem d_SM_isName_70 : decode b_SM_isName 70 = .ok (.aload_n 0, 1) := by decide +kernel
theorem d_SM_isName_71 : decode b_SM_isName 71 = .ok (.getfield 7, 3) := by decide +kernel
theorem d_SM_isName_74 : decode b_SM_isName 74 = .ok (.iload_n 1, 1) := by decide +kernel
theorem d_SM_isName_75 : decode b_SM_isName 75 = .ok (.iconst 1, 1) := by decide +kernel
theorem d_SM_isName_76 : decode b_SM_isName 76 = .ok (.iadd, 1) := by decide +kernel
theorem d_SM_isName_77 : decode b_SM_isName 77 = .ok (.iaload, 1) := by decide +kernel
theorem d_SM_isName_78 : decode b_SM_isName 78 = .ok (.bipush 97, 2) := by decide +kernel
theorem d_SM_isName_80 : decode b_SM_isName 80 = .ok (.if_icmp .ne 16, 3) := by decide +kernel
theorem d_SM_isName_83 : decode b_SM_isName 83 = .ok (.aload_n 0, 1) := by decide +kernel
theorem d_SM_isName_84 : decode b_SM_isName 84 = .ok (.getfield 7, 3) := by decide +kernel
theorem d_SM_isName_87 : decode b_SM_isName 87 = .ok (.iload_n 1, 1) := by decide +kernel
theorem d_SM_isName_88 : decode b_SM_isName 88 = .ok (.iconst 2, 1) := by decide +kernel
theorem d_SM_isName_89 : decode b_SM_isName 89 = .ok (.iadd, 1) := by decide +kernel
theorem d_SM_isName_90 : decode b_SM_isName 90 = .ok (.iaload, 1) := by decide +kernel
theorem d_SM_isName_91 : decode b_SM_isName 91 = .ok (.bipush 120, 2) := by decide +kernel
theorem d_SM_isName_93 : decode b_SM_isName 93 = .ok (.if_icmp .eq 5, 3) := by decide +kernel
theorem d_SM_isName_96 : decode b_SM_isName 96 = .ok (.iconst 0, 1) := by decide +kernel
theorem d_SM_isName_97 : decode b_SM_isName 97 = .ok (.ireturn, 1) := by decide +kernel
theorem d_SM_isName_98 : decode b_SM_isName 98 = .ok (.lconst 0, 1) := by decide +kernel
theorem d_SM_isName_99 : decode b_SM_isName 99 = .ok (.lstore 7, 2) := by decide +kernel
theorem d_SM_isName_101 : decode b_SM_isName 101 = .ok (.iload_n 1, 1) := by decide +kernel
theorem d_SM_isName_102 : decode b_SM_isName 102 = .ok (.iconst 3, 1) := by decide +kernel
theorem d_SM_isName_103 : decode b_SM_isName 103 = .ok (.iadd, 1) := by decide +kernel
theorem d_SM_isName_104 : decode b_SM_isName 104 = .ok (.istore 9, 2) := by decide +kernel
theorem d_SM_isName_106 : decode b_SM_isName 106 = .ok (.iload 9, 2) := by decide +kernel
theorem d_SM_isName_108 : decode b_SM_isName 108 = .ok (.iload_n 2, 1) := by decide +kernel
theorem d_SM_isName_109 : decode b_SM_isName 109 = .ok (.if_icmp .ge 25, 3) := by decide +kernel
theorem d_SM_isName_112 : decode b_SM_isName 112 = .ok (.lload 7, 2) := by decide +kernel
theorem d_SM_isName_114 : decode b_SM_isName 114 = .ok (.bipush 8, 2) := by decide +kernel
theorem d_SM_isName_116 : decode b_SM_isName 116 = .ok (.lshl, 1) := by decide +kernel
theorem d_SM_isName_117 : decode b_SM_isName 117 = .ok (.aload_n 0, 1) := by decide +kernel
theorem d_SM_isName_118 : decode b_SM_isName 118 = .ok (.getfield 7, 3) := by decide +kernel
theorem d_SM_isName_121 : decode b_SM_isName 121 = .ok (.iload 9, 2) := by decide +kernel
theorem d_SM_isName_123 : decode b_SM_isName 123 = .ok (.iaload, 1) := by decide +kernel
theorem d_SM_isName_124 : decode b_SM_isName 124 = .ok (.i2l, 1) := by decide +kernel
theorem d_SM_isName_125 : decode b_SM_isName 125 = .ok (.lor, 1) := by decide +kernel
theorem d_SM_isName_126 : decode b_SM_isName 126 = .ok (.lstore 7, 2) := by decide +kernel
theorem d_SM_isName_128 : decode b_SM_isName 128 = .ok (.iinc 9 1, 3) := by decide +kernel
theorem d_SM_isName_131 : decode b_SM_isName 131 = .ok (.goto (-25), 3) := by decide +kernel
theorem d_SM_isName_134 : decode b_SM_isName 134 = .ok (.lload 7, 2) := by decide +kernel
theorem d_SM_isName_136 : decode b_SM_isName 136 = .ok (.lload 4, 2) := by decide +kernel
theorem d_SM_isName_138 : decode b_SM_isName 138 = .ok (.lcmp, 1) := by decide +kernel
theorem d_SM_isName_139 : decode b_SM_isName 139 = .ok (.ifCond .ne 7, 3) := by decide +kernel
theorem d_SM_isName_142 : decode b_SM_isName 142 = .ok (.iconst 1, 1) := by decide +kernel
theorem d_SM_isName_143 : decode b_SM_isName 143 = .ok (.goto 4, 3) := by decide +kernel
theorem d_SM_isName_146 : decode b_SM_isName 146 = .ok (.iconst 0, 1) := by decide +kernel
theorem d_SM_isName_147 : decode b_SM_isName 147 = .ok (.ireturn, 1) := by decide +kernel
set_option maxHeartbeats 4000000 in
set_option maxRecDepth 100000 in
/-- isName -/
theorem c_SM_isName0 (G : GG) (l : Launch) (sz : Nat) (f : Wd) {mo : Nat} {ar : Nat → Nat} {sc : Nat → Int32} {av : Nat → Nat → Int32} (hM : Mw G mo ar sc av f) {a q : Nat} (haq : a ≤ q) (hq : q ≤ 4200) (hS : sgs (av 0) q) : Ci G l y_SM_isName b_SM_isName 10 (some .boolean) ({ frames := 0, cells := 0, slots := 0, locals := 0 }) sz f [.ref mo, .int (nI a), .int (nI q), .int 0] (fun v f' => f = f' ∧ v = bI (isw (av 0) a q (bytTx.getD 0 []))) := by
  refine ct_of (by decide) (Nat.le_of_ble_eq_true rfl) ?_
  intro p e s m below meth c ls H locs hEn
  obtain ⟨hc, hr, hlk, hin, hE, hw, hsz, hl⟩ := hEn
  have hx := hc.1
  have hb := hc.2.1
  have hl : lv_has ls 10 [(0, .ref mo), (1, .int (nI a)), (2, .int (nI q)), (3, .int 0)] := hl
  have hX : Mx mo ar f f := Mx.rf
  have hI := isnm0 (S := av 0) (a := a) hS (Nat.le_refl q)
  refine lv_iload_n hx hb d_SM_isName_0 rfl (lv_at hl 3 rfl) ?_
  refine lv_if_ne (tgt := 10) hx hb d_SM_isName_1 (by decide) (fun z => absurd z (by decide)) (fun _ => ?_)
  refine m_lc2 hc wd_constantLong_StreamFiltersModel_83_431198598248 d_SM_isName_4 ?_
  refine lv_goto (tgt := 35) hx hb d_SM_isName_7 (by decide) ?_
  refine lv_lstore (lv' := [(4, .long 431198598248), (0, .ref mo), (1, .int (nI a)), (2, .int (nI q)), (3, .int 0)]) hx hb d_SM_isName_35 hl (by decide) rfl (fun ls hl => ?_)
  refine lv_iload_n hx hb d_SM_isName_37 rfl (lv_at hl 4 rfl) ?_
  refine lv_iconst (v := 1) hx hb d_SM_isName_38 (by decide) ?_
  refine lv_icmp_ne (tgt := 46) hx hb d_SM_isName_39 (by decide) (fun _ => ?_) (fun z => absurd z (by decide))
  refine lv_iconst (v := 5) hx hb d_SM_isName_46 (by decide) ?_
  refine lv_istore (lv' := [(6, .int 5), (4, .long 431198598248), (0, .ref mo), (1, .int (nI a)), (2, .int (nI q)), (3, .int 0)]) hx hb d_SM_isName_47 hl (by decide) rfl (fun ls hl => ?_)
  refine lv_iload_n hx hb d_SM_isName_49 rfl (lv_at hl 4 rfl) ?_
  refine lv_iload_n hx hb d_SM_isName_50 rfl (lv_at hl 3 rfl) ?_
  refine lv_isub hx hb d_SM_isName_51 ?_
  refine m_top (y := (nI (q - a))) (pk_sub (a := q) (b := a) (by omega)) ?_
  refine lv_iload hx hb d_SM_isName_52 (lv_at hl 0 rfl) ?_
  refine lv_iconst (v := 3) hx hb d_SM_isName_54 (by decide) ?_
  refine lv_iadd hx hb d_SM_isName_55 ?_
  refine m_top (y := (nI (5 + 3))) (nI_add 5 3) ?_
  refine lv_icmp_ne (tgt := 96) hx hb d_SM_isName_56 (by decide) (fun c21 => ?_) (fun c21 => ?_)
  · have c21n : ¬ ((q - a) = (5 + 3)) := fun z => c21 ((nI_eq (a := (q - a)) (b := (5 + 3)) (by omega) (by omega)).mpr z)
    refine lv_iconst (v := 0) hx hb d_SM_isName_96 (by decide) ?_
    exact m_zret hc hr hlk hw ⟨by first | decide | (dsimp only; omega), by first | decide | (dsimp only; omega)⟩ d_SM_isName_97 (by decide) ⟨rfl, (bI_f (fun z => absurd (hI.mp z).1 (by omega))).symm⟩
  · have c21n : (q - a) = (5 + 3) := (nI_eq (a := (q - a)) (b := (5 + 3)) (by omega) (by omega)).mp c21
    refine lv_aload_n hx hb d_SM_isName_59 rfl (lv_at hl 2 rfl) ?_
    refine m_mget (v := .ref (ar 0)) hc hE hw hM l_SM_7_SM rfl d_SM_isName_60 ?_
    refine lv_iload_n hx hb d_SM_isName_63 rfl (lv_at hl 3 rfl) ?_
    refine m_mald (v := ((av 0) a)) hc hE hw hM (k := 0) (by decide) (vp_in_nI (N := 4200) (by omega) (by decide)) (congrArg (av 0) (nI_clamp (n := a) (by omega))) d_SM_isName_64 ?_
    refine lv_bipush (v := 109) hx hb d_SM_isName_65 (by decide) ?_
    refine lv_icmp_ne (tgt := 96) hx hb d_SM_isName_67 (by decide) (fun c22 => ?_) (fun c22 => ?_)
    · refine lv_iconst (v := 0) hx hb d_SM_isName_96 (by decide) ?_
      exact m_zret hc hr hlk hw ⟨by first | decide | (dsimp only; omega), by first | decide | (dsimp only; omega)⟩ d_SM_isName_97 (by decide) ⟨rfl, (bI_f (fun z => c22 (hI.mp z).2.1)).symm⟩
    · refine lv_aload_n hx hb d_SM_isName_70 rfl (lv_at hl 2 rfl) ?_
      refine m_mget (v := .ref (ar 0)) hc hE hw hM l_SM_7_SM rfl d_SM_isName_71 ?_
      refine lv_iload_n hx hb d_SM_isName_74 rfl (lv_at hl 3 rfl) ?_
      refine lv_iconst (v := 1) hx hb d_SM_isName_75 (by decide) ?_
      refine lv_iadd hx hb d_SM_isName_76 ?_
      refine m_top (y := (nI (a + 1))) (nI_add a 1) ?_
      refine m_mald (v := ((av 0) (a + 1))) hc hE hw hM (k := 0) (by decide) (vp_in_nI (N := 4200) (by omega) (by decide)) (congrArg (av 0) (nI_clamp (n := (a + 1)) (by omega))) d_SM_isName_77 ?_
      refine lv_bipush (v := 97) hx hb d_SM_isName_78 (by decide) ?_
      refine lv_icmp_ne (tgt := 96) hx hb d_SM_isName_80 (by decide) (fun c23 => ?_) (fun c23 => ?_)
      · refine lv_iconst (v := 0) hx hb d_SM_isName_96 (by decide) ?_
        exact m_zret hc hr hlk hw ⟨by first | decide | (dsimp only; omega), by first | decide | (dsimp only; omega)⟩ d_SM_isName_97 (by decide) ⟨rfl, (bI_f (fun z => c23 (hI.mp z).2.2.1)).symm⟩
      · refine lv_aload_n hx hb d_SM_isName_83 rfl (lv_at hl 2 rfl) ?_
        refine m_mget (v := .ref (ar 0)) hc hE hw hM l_SM_7_SM rfl d_SM_isName_84 ?_
        refine lv_iload_n hx hb d_SM_isName_87 rfl (lv_at hl 3 rfl) ?_
        refine lv_iconst (v := 2) hx hb d_SM_isName_88 (by decide) ?_
        refine lv_iadd hx hb d_SM_isName_89 ?_
        refine m_top (y := (nI (a + 2))) (nI_add a 2) ?_
        refine m_mald (v := ((av 0) (a + 2))) hc hE hw hM (k := 0) (by decide) (vp_in_nI (N := 4200) (by omega) (by decide)) (congrArg (av 0) (nI_clamp (n := (a + 2)) (by omega))) d_SM_isName_90 ?_
        refine lv_bipush (v := 120) hx hb d_SM_isName_91 (by decide) ?_
        refine lv_icmp_eq (tgt := 98) hx hb d_SM_isName_93 (by decide) (fun c24 => ?_) (fun c24 => ?_)
        · refine lv_lconst (v := 0) hx hb d_SM_isName_98 (by decide) ?_
          refine lv_lstore (lv' := [(7, .long 0), (6, .int 5), (4, .long 431198598248), (0, .ref mo), (1, .int (nI a)), (2, .int (nI q)), (3, .int 0)]) hx hb d_SM_isName_99 hl (by decide) rfl (fun ls hl => ?_)
          refine lv_iload_n hx hb d_SM_isName_101 rfl (lv_at hl 4 rfl) ?_
          refine lv_iconst (v := 3) hx hb d_SM_isName_102 (by decide) ?_
          refine lv_iadd hx hb d_SM_isName_103 ?_
          refine m_top (y := (nI (a + 3))) (nI_add a 3) ?_
          refine lv_istore (lv' := [(9, .int (nI (a + 3))), (7, .long 0), (6, .int 5), (4, .long 431198598248), (0, .ref mo), (1, .int (nI a)), (2, .int (nI q)), (3, .int 0)]) hx hb d_SM_isName_104 hl (by decide) rfl (fun ls hl => ?_)
          have hs0 := c22
          have hs1 := c23
          have hs2 := c24
          have hlen : q - a = 5 + 3 := by omega
          have loop : ∀ (fu : Nat) (m0 : Nat) (ls : Array Slot) (H : Heap) (locs : List Loc), 5 - m0 < fu → m0 ≤ 5 → ms G.1 (Af f sz) f s H locs → lv_has ls 10 [(9, .int (nI (a + 3 + m0))), (7, .long (lN (fv (av 0) (a + 3) m0))), (4, .long 431198598248), (0, .ref mo), (2, .int (nI q))] → W p l e ({ frames := 0, cells := 0, slots := 0, locals := 0 }) s m ([.ref mo, .int (nI a), .int (nI q), .int 0] : List Value).toArray below meth c H locs 0 0 (MQ below (va_Qi (fun v f' => f = f' ∧ v = bI (isw (av 0) a q (bytTx.getD 0 []))) (Bw G f sz) (Af f sz)) ([.ref mo, .int (nI a), .int (nI q), .int 0] : List Value).toArray s 0 0 (Af f sz)) (F0 m 106 ls []) := by
            intro fu
            induction fu with
            | zero => intro m0 ls H locs h0; exact absurd h0 (Nat.not_lt_zero _)
            | succ fu ih =>
              intro m0 ls H locs hfu hm0 hw hl
              refine lv_iload hx hb d_SM_isName_106 (lv_at hl 0 rfl) ?_
              refine lv_iload_n hx hb d_SM_isName_108 rfl (lv_at hl 4 rfl) ?_
              refine lv_icmp_ge (tgt := 134) hx hb d_SM_isName_109 (by decide) (fun c25 => ?_) (fun c25 => ?_)
              · have c25n : q ≤ (a + 3 + m0) := (nI_leI (a := q) (b := (a + 3 + m0)) (by omega) (by omega)).mp c25
                refine lv_lload hx hb d_SM_isName_134 (lv_at hl 1 rfl) ?_
                refine lv_lload hx hb d_SM_isName_136 (lv_at hl 2 rfl) ?_
                refine m_lcmp hx hb d_SM_isName_138 (fun r26 hr27 => ?_)
                refine lv_if_ne (tgt := 146) hx hb d_SM_isName_139 (by decide) (fun c28 => ?_) (fun c28 => ?_)
                · have c28n := fun z => c28 (hr27.mpr z)
                  refine lv_iconst (v := 0) hx hb d_SM_isName_146 (by decide) ?_
                  have hm : m0 = 5 := by omega
                  subst hm
                  exact m_zret hc hr hlk hw ⟨by first | decide | (dsimp only; omega), by first | decide | (dsimp only; omega)⟩ d_SM_isName_147 (by decide) ⟨rfl, (bI_f (fun z => c28n ((pk_lEQ (b := 431198598248) (Nat.lt_of_lt_of_le (fv_lt5 hS (by omega) (by omega)) (by decide)) (by decide)).mpr ((hI.mp z).2.2.2.2 (by omega))))).symm⟩
                · have c28n := hr27.mp c28
                  refine lv_iconst (v := 1) hx hb d_SM_isName_142 (by decide) ?_
                  refine lv_goto (tgt := 147) hx hb d_SM_isName_143 (by decide) ?_
                  have hm : m0 = 5 := by omega
                  subst hm
                  exact m_zret hc hr hlk hw ⟨by first | decide | (dsimp only; omega), by first | decide | (dsimp only; omega)⟩ d_SM_isName_147 (by decide) ⟨rfl, (bI_t (hI.mpr ⟨by omega, hs0, hs1, hs2, fun _ => (pk_lEQ (b := 431198598248) (Nat.lt_of_lt_of_le (fv_lt5 hS (by omega) (by omega)) (by decide)) (by decide)).mp c28n⟩)).symm⟩
              · have c25n : ¬ (q ≤ (a + 3 + m0)) := fun z => c25 ((nI_leI (a := q) (b := (a + 3 + m0)) (by omega) (by omega)).mpr z)
                refine lv_lload hx hb d_SM_isName_112 (lv_at hl 1 rfl) ?_
                refine lv_bipush (v := 8) hx hb d_SM_isName_114 (by decide) ?_
                refine lv_lshl (v := (lN (fv (av 0) (a + 3) m0 * 256))) hx hb d_SM_isName_116 (lN_sh (Nat.lt_of_lt_of_le (fv_lt5 hS (by omega) (by omega)) (by decide))) ?_
                refine lv_aload_n hx hb d_SM_isName_117 rfl (lv_at hl 3 rfl) ?_
                refine m_mget (v := .ref (ar 0)) hc hE hw hM l_SM_7_SM rfl d_SM_isName_118 ?_
                refine lv_iload hx hb d_SM_isName_121 (lv_at hl 0 rfl) ?_
                refine m_mald (v := ((av 0) (a + 3 + m0))) hc hE hw hM (k := 0) (by decide) (vp_in_nI (N := 4200) (by omega) (by decide)) (congrArg (av 0) (nI_clamp (n := (a + 3 + m0)) (by omega))) d_SM_isName_123 ?_
                refine lv_i2l (v := (lN (sN (av 0) (a + 3 + m0)))) hx hb d_SM_isName_124 (sN_l hS (by omega)) ?_
                refine lv_lor hx hb d_SM_isName_125 ?_
                refine m_topL (y := (lN (fv (av 0) (a + 3) (m0 + 1)))) (lN_or (Nat.lt_of_lt_of_le (fv_lt5 hS (by omega) (by omega)) (by decide)) (Nat.lt_of_le_of_lt (sN_of hS (show a + 3 + m0 < q by omega)).2 (by decide))) ?_
                refine lv_lstore (lv' := [(7, .long (lN (fv (av 0) (a + 3) (m0 + 1)))), (9, .int (nI (a + 3 + m0))), (4, .long 431198598248), (0, .ref mo), (2, .int (nI q))]) hx hb d_SM_isName_126 hl (by decide) rfl (fun ls hl => ?_)
                refine lv_iinc (v := (nI ((a + 3 + m0) + 1))) (lv' := [(9, .int (nI ((a + 3 + m0) + 1))), (7, .long (lN (fv (av 0) (a + 3) (m0 + 1)))), (4, .long 431198598248), (0, .ref mo), (2, .int (nI q))]) hx hb d_SM_isName_128 hl (k := 1) rfl (nI_1 _) (by decide) rfl (fun ls hl => ?_)
                refine lv_goto (tgt := 106) hx hb d_SM_isName_131 (by decide) ?_
                exact ih (m0 + 1) ls H locs (by omega) (by omega) hw (lv_sub hl [0, 1, 2, 3, 4] rfl)
          exact loop 6 0 ls H locs (by omega) (by omega) hw (lv_sub hl [0, 1, 3, 4, 6] rfl)
        · refine lv_iconst (v := 0) hx hb d_SM_isName_96 (by decide) ?_
          exact m_zret hc hr hlk hw ⟨by first | decide | (dsimp only; omega), by first | decide | (dsimp only; omega)⟩ d_SM_isName_97 (by decide) ⟨rfl, (bI_f (fun z => c24 (hI.mp z).2.2.2.1)).symm⟩

set_option maxHeartbeats 4000000 in
set_option maxRecDepth 100000 in
/-- isName -/
theorem c_SM_isName1 (G : GG) (l : Launch) (sz : Nat) (f : Wd) {mo : Nat} {ar : Nat → Nat} {sc : Nat → Int32} {av : Nat → Nat → Int32} (hM : Mw G mo ar sc av f) {a q : Nat} (haq : a ≤ q) (hq : q ≤ 4200) (hS : sgs (av 0) q) : Ci G l y_SM_isName b_SM_isName 10 (some .boolean) ({ frames := 0, cells := 0, slots := 0, locals := 0 }) sz f [.ref mo, .int (nI a), .int (nI q), .int 1] (fun v f' => f = f' ∧ v = bI (isw (av 0) a q (bytTx.getD 1 []))) := by
  refine ct_of (by decide) (Nat.le_of_ble_eq_true rfl) ?_
  intro p e s m below meth c ls H locs hEn
  obtain ⟨hc, hr, hlk, hin, hE, hw, hsz, hl⟩ := hEn
  have hx := hc.1
  have hb := hc.2.1
  have hl : lv_has ls 10 [(0, .ref mo), (1, .int (nI a)), (2, .int (nI q)), (3, .int 1)] := hl
  have hX : Mx mo ar f f := Mx.rf
  have hI := isnm1 (S := av 0) (a := a) hS (Nat.le_refl q)
  refine lv_iload_n hx hb d_SM_isName_0 rfl (lv_at hl 3 rfl) ?_
  refine lv_if_ne (tgt := 10) hx hb d_SM_isName_1 (by decide) (fun _ => ?_) (fun z => absurd z (by decide))
  refine lv_iload_n hx hb d_SM_isName_10 rfl (lv_at hl 3 rfl) ?_
  refine lv_iconst (v := 1) hx hb d_SM_isName_11 (by decide) ?_
  refine lv_icmp_ne (tgt := 21) hx hb d_SM_isName_12 (by decide) (fun z => absurd z (by decide)) (fun _ => ?_)
  refine m_lc2 hc wd_constantLong_StreamFiltersModel_85_1919247987 d_SM_isName_15 ?_
  refine lv_goto (tgt := 35) hx hb d_SM_isName_18 (by decide) ?_
  refine lv_lstore (lv' := [(4, .long 1919247987), (0, .ref mo), (1, .int (nI a)), (2, .int (nI q)), (3, .int 1)]) hx hb d_SM_isName_35 hl (by decide) rfl (fun ls hl => ?_)
  refine lv_iload_n hx hb d_SM_isName_37 rfl (lv_at hl 4 rfl) ?_
  refine lv_iconst (v := 1) hx hb d_SM_isName_38 (by decide) ?_
  refine lv_icmp_ne (tgt := 46) hx hb d_SM_isName_39 (by decide) (fun z => absurd z (by decide)) (fun _ => ?_)
  refine lv_iconst (v := 4) hx hb d_SM_isName_42 (by decide) ?_
  refine lv_goto (tgt := 47) hx hb d_SM_isName_43 (by decide) ?_
  refine lv_istore (lv' := [(6, .int 4), (4, .long 1919247987), (0, .ref mo), (1, .int (nI a)), (2, .int (nI q)), (3, .int 1)]) hx hb d_SM_isName_47 hl (by decide) rfl (fun ls hl => ?_)
  refine lv_iload_n hx hb d_SM_isName_49 rfl (lv_at hl 4 rfl) ?_
  refine lv_iload_n hx hb d_SM_isName_50 rfl (lv_at hl 3 rfl) ?_
  refine lv_isub hx hb d_SM_isName_51 ?_
  refine m_top (y := (nI (q - a))) (pk_sub (a := q) (b := a) (by omega)) ?_
  refine lv_iload hx hb d_SM_isName_52 (lv_at hl 0 rfl) ?_
  refine lv_iconst (v := 3) hx hb d_SM_isName_54 (by decide) ?_
  refine lv_iadd hx hb d_SM_isName_55 ?_
  refine m_top (y := (nI (4 + 3))) (nI_add 4 3) ?_
  refine lv_icmp_ne (tgt := 96) hx hb d_SM_isName_56 (by decide) (fun c21 => ?_) (fun c21 => ?_)
  · have c21n : ¬ ((q - a) = (4 + 3)) := fun z => c21 ((nI_eq (a := (q - a)) (b := (4 + 3)) (by omega) (by omega)).mpr z)
    refine lv_iconst (v := 0) hx hb d_SM_isName_96 (by decide) ?_
    exact m_zret hc hr hlk hw ⟨by first | decide | (dsimp only; omega), by first | decide | (dsimp only; omega)⟩ d_SM_isName_97 (by decide) ⟨rfl, (bI_f (fun z => absurd (hI.mp z).1 (by omega))).symm⟩
  · have c21n : (q - a) = (4 + 3) := (nI_eq (a := (q - a)) (b := (4 + 3)) (by omega) (by omega)).mp c21
    refine lv_aload_n hx hb d_SM_isName_59 rfl (lv_at hl 2 rfl) ?_
    refine m_mget (v := .ref (ar 0)) hc hE hw hM l_SM_7_SM rfl d_SM_isName_60 ?_
    refine lv_iload_n hx hb d_SM_isName_63 rfl (lv_at hl 3 rfl) ?_
    refine m_mald (v := ((av 0) a)) hc hE hw hM (k := 0) (by decide) (vp_in_nI (N := 4200) (by omega) (by decide)) (congrArg (av 0) (nI_clamp (n := a) (by omega))) d_SM_isName_64 ?_
    refine lv_bipush (v := 109) hx hb d_SM_isName_65 (by decide) ?_
    refine lv_icmp_ne (tgt := 96) hx hb d_SM_isName_67 (by decide) (fun c22 => ?_) (fun c22 => ?_)
    · refine lv_iconst (v := 0) hx hb d_SM_isName_96 (by decide) ?_
      exact m_zret hc hr hlk hw ⟨by first | decide | (dsimp only; omega), by first | decide | (dsimp only; omega)⟩ d_SM_isName_97 (by decide) ⟨rfl, (bI_f (fun z => c22 (hI.mp z).2.1)).symm⟩
    · refine lv_aload_n hx hb d_SM_isName_70 rfl (lv_at hl 2 rfl) ?_
      refine m_mget (v := .ref (ar 0)) hc hE hw hM l_SM_7_SM rfl d_SM_isName_71 ?_
      refine lv_iload_n hx hb d_SM_isName_74 rfl (lv_at hl 3 rfl) ?_
      refine lv_iconst (v := 1) hx hb d_SM_isName_75 (by decide) ?_
      refine lv_iadd hx hb d_SM_isName_76 ?_
      refine m_top (y := (nI (a + 1))) (nI_add a 1) ?_
      refine m_mald (v := ((av 0) (a + 1))) hc hE hw hM (k := 0) (by decide) (vp_in_nI (N := 4200) (by omega) (by decide)) (congrArg (av 0) (nI_clamp (n := (a + 1)) (by omega))) d_SM_isName_77 ?_
      refine lv_bipush (v := 97) hx hb d_SM_isName_78 (by decide) ?_
      refine lv_icmp_ne (tgt := 96) hx hb d_SM_isName_80 (by decide) (fun c23 => ?_) (fun c23 => ?_)
      · refine lv_iconst (v := 0) hx hb d_SM_isName_96 (by decide) ?_
        exact m_zret hc hr hlk hw ⟨by first | decide | (dsimp only; omega), by first | decide | (dsimp only; omega)⟩ d_SM_isName_97 (by decide) ⟨rfl, (bI_f (fun z => c23 (hI.mp z).2.2.1)).symm⟩
      · refine lv_aload_n hx hb d_SM_isName_83 rfl (lv_at hl 2 rfl) ?_
        refine m_mget (v := .ref (ar 0)) hc hE hw hM l_SM_7_SM rfl d_SM_isName_84 ?_
        refine lv_iload_n hx hb d_SM_isName_87 rfl (lv_at hl 3 rfl) ?_
        refine lv_iconst (v := 2) hx hb d_SM_isName_88 (by decide) ?_
        refine lv_iadd hx hb d_SM_isName_89 ?_
        refine m_top (y := (nI (a + 2))) (nI_add a 2) ?_
        refine m_mald (v := ((av 0) (a + 2))) hc hE hw hM (k := 0) (by decide) (vp_in_nI (N := 4200) (by omega) (by decide)) (congrArg (av 0) (nI_clamp (n := (a + 2)) (by omega))) d_SM_isName_90 ?_
        refine lv_bipush (v := 120) hx hb d_SM_isName_91 (by decide) ?_
        refine lv_icmp_eq (tgt := 98) hx hb d_SM_isName_93 (by decide) (fun c24 => ?_) (fun c24 => ?_)
        · refine lv_lconst (v := 0) hx hb d_SM_isName_98 (by decide) ?_
          refine lv_lstore (lv' := [(7, .long 0), (6, .int 4), (4, .long 1919247987), (0, .ref mo), (1, .int (nI a)), (2, .int (nI q)), (3, .int 1)]) hx hb d_SM_isName_99 hl (by decide) rfl (fun ls hl => ?_)
          refine lv_iload_n hx hb d_SM_isName_101 rfl (lv_at hl 4 rfl) ?_
          refine lv_iconst (v := 3) hx hb d_SM_isName_102 (by decide) ?_
          refine lv_iadd hx hb d_SM_isName_103 ?_
          refine m_top (y := (nI (a + 3))) (nI_add a 3) ?_
          refine lv_istore (lv' := [(9, .int (nI (a + 3))), (7, .long 0), (6, .int 4), (4, .long 1919247987), (0, .ref mo), (1, .int (nI a)), (2, .int (nI q)), (3, .int 1)]) hx hb d_SM_isName_104 hl (by decide) rfl (fun ls hl => ?_)
          have hs0 := c22
          have hs1 := c23
          have hs2 := c24
          have hlen : q - a = 4 + 3 := by omega
          have loop : ∀ (fu : Nat) (m0 : Nat) (ls : Array Slot) (H : Heap) (locs : List Loc), 4 - m0 < fu → m0 ≤ 4 → ms G.1 (Af f sz) f s H locs → lv_has ls 10 [(9, .int (nI (a + 3 + m0))), (7, .long (lN (fv (av 0) (a + 3) m0))), (4, .long 1919247987), (0, .ref mo), (2, .int (nI q))] → W p l e ({ frames := 0, cells := 0, slots := 0, locals := 0 }) s m ([.ref mo, .int (nI a), .int (nI q), .int 1] : List Value).toArray below meth c H locs 0 0 (MQ below (va_Qi (fun v f' => f = f' ∧ v = bI (isw (av 0) a q (bytTx.getD 1 []))) (Bw G f sz) (Af f sz)) ([.ref mo, .int (nI a), .int (nI q), .int 1] : List Value).toArray s 0 0 (Af f sz)) (F0 m 106 ls []) := by
            intro fu
            induction fu with
            | zero => intro m0 ls H locs h0; exact absurd h0 (Nat.not_lt_zero _)
            | succ fu ih =>
              intro m0 ls H locs hfu hm0 hw hl
              refine lv_iload hx hb d_SM_isName_106 (lv_at hl 0 rfl) ?_
              refine lv_iload_n hx hb d_SM_isName_108 rfl (lv_at hl 4 rfl) ?_
              refine lv_icmp_ge (tgt := 134) hx hb d_SM_isName_109 (by decide) (fun c25 => ?_) (fun c25 => ?_)
              · have c25n : q ≤ (a + 3 + m0) := (nI_leI (a := q) (b := (a + 3 + m0)) (by omega) (by omega)).mp c25
                refine lv_lload hx hb d_SM_isName_134 (lv_at hl 1 rfl) ?_
                refine lv_lload hx hb d_SM_isName_136 (lv_at hl 2 rfl) ?_
                refine m_lcmp hx hb d_SM_isName_138 (fun r26 hr27 => ?_)
                refine lv_if_ne (tgt := 146) hx hb d_SM_isName_139 (by decide) (fun c28 => ?_) (fun c28 => ?_)
                · have c28n := fun z => c28 (hr27.mpr z)
                  refine lv_iconst (v := 0) hx hb d_SM_isName_146 (by decide) ?_
                  have hm : m0 = 4 := by omega
                  subst hm
                  exact m_zret hc hr hlk hw ⟨by first | decide | (dsimp only; omega), by first | decide | (dsimp only; omega)⟩ d_SM_isName_147 (by decide) ⟨rfl, (bI_f (fun z => c28n ((pk_lEQ (b := 1919247987) (Nat.lt_of_lt_of_le (fv_lt5 hS (by omega) (by omega)) (by decide)) (by decide)).mpr ((hI.mp z).2.2.2.2 (by omega))))).symm⟩
                · have c28n := hr27.mp c28
                  refine lv_iconst (v := 1) hx hb d_SM_isName_142 (by decide) ?_
                  refine lv_goto (tgt := 147) hx hb d_SM_isName_143 (by decide) ?_
                  have hm : m0 = 4 := by omega
                  subst hm
                  exact m_zret hc hr hlk hw ⟨by first | decide | (dsimp only; omega), by first | decide | (dsimp only; omega)⟩ d_SM_isName_147 (by decide) ⟨rfl, (bI_t (hI.mpr ⟨by omega, hs0, hs1, hs2, fun _ => (pk_lEQ (b := 1919247987) (Nat.lt_of_lt_of_le (fv_lt5 hS (by omega) (by omega)) (by decide)) (by decide)).mp c28n⟩)).symm⟩
              · have c25n : ¬ (q ≤ (a + 3 + m0)) := fun z => c25 ((nI_leI (a := q) (b := (a + 3 + m0)) (by omega) (by omega)).mpr z)
                refine lv_lload hx hb d_SM_isName_112 (lv_at hl 1 rfl) ?_
                refine lv_bipush (v := 8) hx hb d_SM_isName_114 (by decide) ?_
                refine lv_lshl (v := (lN (fv (av 0) (a + 3) m0 * 256))) hx hb d_SM_isName_116 (lN_sh (Nat.lt_of_lt_of_le (fv_lt5 hS (by omega) (by omega)) (by decide))) ?_
                refine lv_aload_n hx hb d_SM_isName_117 rfl (lv_at hl 3 rfl) ?_
                refine m_mget (v := .ref (ar 0)) hc hE hw hM l_SM_7_SM rfl d_SM_isName_118 ?_
                refine lv_iload hx hb d_SM_isName_121 (lv_at hl 0 rfl) ?_
                refine m_mald (v := ((av 0) (a + 3 + m0))) hc hE hw hM (k := 0) (by decide) (vp_in_nI (N := 4200) (by omega) (by decide)) (congrArg (av 0) (nI_clamp (n := (a + 3 + m0)) (by omega))) d_SM_isName_123 ?_
                refine lv_i2l (v := (lN (sN (av 0) (a + 3 + m0)))) hx hb d_SM_isName_124 (sN_l hS (by omega)) ?_
                refine lv_lor hx hb d_SM_isName_125 ?_
                refine m_topL (y := (lN (fv (av 0) (a + 3) (m0 + 1)))) (lN_or (Nat.lt_of_lt_of_le (fv_lt5 hS (by omega) (by omega)) (by decide)) (Nat.lt_of_le_of_lt (sN_of hS (show a + 3 + m0 < q by omega)).2 (by decide))) ?_
                refine lv_lstore (lv' := [(7, .long (lN (fv (av 0) (a + 3) (m0 + 1)))), (9, .int (nI (a + 3 + m0))), (4, .long 1919247987), (0, .ref mo), (2, .int (nI q))]) hx hb d_SM_isName_126 hl (by decide) rfl (fun ls hl => ?_)
                refine lv_iinc (v := (nI ((a + 3 + m0) + 1))) (lv' := [(9, .int (nI ((a + 3 + m0) + 1))), (7, .long (lN (fv (av 0) (a + 3) (m0 + 1)))), (4, .long 1919247987), (0, .ref mo), (2, .int (nI q))]) hx hb d_SM_isName_128 hl (k := 1) rfl (nI_1 _) (by decide) rfl (fun ls hl => ?_)
                refine lv_goto (tgt := 106) hx hb d_SM_isName_131 (by decide) ?_
                exact ih (m0 + 1) ls H locs (by omega) (by omega) hw (lv_sub hl [0, 1, 2, 3, 4] rfl)
          exact loop 5 0 ls H locs (by omega) (by omega) hw (lv_sub hl [0, 1, 3, 4, 6] rfl)
        · refine lv_iconst (v := 0) hx hb d_SM_isName_96 (by decide) ?_
          exact m_zret hc hr hlk hw ⟨by first | decide | (dsimp only; omega), by first | decide | (dsimp only; omega)⟩ d_SM_isName_97 (by decide) ⟨rfl, (bI_f (fun z => c24 (hI.mp z).2.2.2.1)).symm⟩

set_option maxHeartbeats 4000000 in
set_option maxRecDepth 100000 in
/-- isName -/
theorem c_SM_isName2 (G : GG) (l : Launch) (sz : Nat) (f : Wd) {mo : Nat} {ar : Nat → Nat} {sc : Nat → Int32} {av : Nat → Nat → Int32} (hM : Mw G mo ar sc av f) {a q : Nat} (haq : a ≤ q) (hq : q ≤ 4200) (hS : sgs (av 0) q) : Ci G l y_SM_isName b_SM_isName 10 (some .boolean) ({ frames := 0, cells := 0, slots := 0, locals := 0 }) sz f [.ref mo, .int (nI a), .int (nI q), .int 2] (fun v f' => f = f' ∧ v = bI (isw (av 0) a q (bytTx.getD 2 []))) := by
  refine ct_of (by decide) (Nat.le_of_ble_eq_true rfl) ?_
  intro p e s m below meth c ls H locs hEn
  obtain ⟨hc, hr, hlk, hin, hE, hw, hsz, hl⟩ := hEn
  have hx := hc.1
  have hb := hc.2.1
  have hl : lv_has ls 10 [(0, .ref mo), (1, .int (nI a)), (2, .int (nI q)), (3, .int 2)] := hl
  have hX : Mx mo ar f f := Mx.rf
  have hI := isnm2 (S := av 0) (a := a) hS (Nat.le_refl q)
  refine lv_iload_n hx hb d_SM_isName_0 rfl (lv_at hl 3 rfl) ?_
  refine lv_if_ne (tgt := 10) hx hb d_SM_isName_1 (by decide) (fun _ => ?_) (fun z => absurd z (by decide))
  refine lv_iload_n hx hb d_SM_isName_10 rfl (lv_at hl 3 rfl) ?_
  refine lv_iconst (v := 1) hx hb d_SM_isName_11 (by decide) ?_
  refine lv_icmp_ne (tgt := 21) hx hb d_SM_isName_12 (by decide) (fun _ => ?_) (fun z => absurd z (by decide))
  refine lv_iload_n hx hb d_SM_isName_21 rfl (lv_at hl 3 rfl) ?_
  refine lv_iconst (v := 2) hx hb d_SM_isName_22 (by decide) ?_
  refine lv_icmp_ne (tgt := 32) hx hb d_SM_isName_23 (by decide) (fun z => absurd z (by decide)) (fun _ => ?_)
  refine m_lc2 hc wd_constantLong_StreamFiltersModel_87_422944466291 d_SM_isName_26 ?_
  refine lv_goto (tgt := 35) hx hb d_SM_isName_29 (by decide) ?_
  refine lv_lstore (lv' := [(4, .long 422944466291), (0, .ref mo), (1, .int (nI a)), (2, .int (nI q)), (3, .int 2)]) hx hb d_SM_isName_35 hl (by decide) rfl (fun ls hl => ?_)
  refine lv_iload_n hx hb d_SM_isName_37 rfl (lv_at hl 4 rfl) ?_
  refine lv_iconst (v := 1) hx hb d_SM_isName_38 (by decide) ?_
  refine lv_icmp_ne (tgt := 46) hx hb d_SM_isName_39 (by decide) (fun _ => ?_) (fun z => absurd z (by decide))
  refine lv_iconst (v := 5) hx hb d_SM_isName_46 (by decide) ?_
  refine lv_istore (lv' := [(6, .int 5), (4, .long 422944466291), (0, .ref mo), (1, .int (nI a)), (2, .int (nI q)), (3, .int 2)]) hx hb d_SM_isName_47 hl (by decide) rfl (fun ls hl => ?_)
  refine lv_iload_n hx hb d_SM_isName_49 rfl (lv_at hl 4 rfl) ?_
  refine lv_iload_n hx hb d_SM_isName_50 rfl (lv_at hl 3 rfl) ?_
  refine lv_isub hx hb d_SM_isName_51 ?_
  refine m_top (y := (nI (q - a))) (pk_sub (a := q) (b := a) (by omega)) ?_
  refine lv_iload hx hb d_SM_isName_52 (lv_at hl 0 rfl) ?_
  refine lv_iconst (v := 3) hx hb d_SM_isName_54 (by decide) ?_
  refine lv_iadd hx hb d_SM_isName_55 ?_
  refine m_top (y := (nI (5 + 3))) (nI_add 5 3) ?_
  refine lv_icmp_ne (tgt := 96) hx hb d_SM_isName_56 (by decide) (fun c21 => ?_) (fun c21 => ?_)
  · have c21n : ¬ ((q - a) = (5 + 3)) := fun z => c21 ((nI_eq (a := (q - a)) (b := (5 + 3)) (by omega) (by omega)).mpr z)
    refine lv_iconst (v := 0) hx hb d_SM_isName_96 (by decide) ?_
    exact m_zret hc hr hlk hw ⟨by first | decide | (dsimp only; omega), by first | decide | (dsimp only; omega)⟩ d_SM_isName_97 (by decide) ⟨rfl, (bI_f (fun z => absurd (hI.mp z).1 (by omega))).symm⟩
  · have c21n : (q - a) = (5 + 3) := (nI_eq (a := (q - a)) (b := (5 + 3)) (by omega) (by omega)).mp c21
    refine lv_aload_n hx hb d_SM_isName_59 rfl (lv_at hl 2 rfl) ?_
    refine m_mget (v := .ref (ar 0)) hc hE hw hM l_SM_7_SM rfl d_SM_isName_60 ?_
    refine lv_iload_n hx hb d_SM_isName_63 rfl (lv_at hl 3 rfl) ?_
    refine m_mald (v := ((av 0) a)) hc hE hw hM (k := 0) (by decide) (vp_in_nI (N := 4200) (by omega) (by decide)) (congrArg (av 0) (nI_clamp (n := a) (by omega))) d_SM_isName_64 ?_
    refine lv_bipush (v := 109) hx hb d_SM_isName_65 (by decide) ?_
    refine lv_icmp_ne (tgt := 96) hx hb d_SM_isName_67 (by decide) (fun c22 => ?_) (fun c22 => ?_)
    · refine lv_iconst (v := 0) hx hb d_SM_isName_96 (by decide) ?_
      exact m_zret hc hr hlk hw ⟨by first | decide | (dsimp only; omega), by first | decide | (dsimp only; omega)⟩ d_SM_isName_97 (by decide) ⟨rfl, (bI_f (fun z => c22 (hI.mp z).2.1)).symm⟩
    · refine lv_aload_n hx hb d_SM_isName_70 rfl (lv_at hl 2 rfl) ?_
      refine m_mget (v := .ref (ar 0)) hc hE hw hM l_SM_7_SM rfl d_SM_isName_71 ?_
      refine lv_iload_n hx hb d_SM_isName_74 rfl (lv_at hl 3 rfl) ?_
      refine lv_iconst (v := 1) hx hb d_SM_isName_75 (by decide) ?_
      refine lv_iadd hx hb d_SM_isName_76 ?_
      refine m_top (y := (nI (a + 1))) (nI_add a 1) ?_
      refine m_mald (v := ((av 0) (a + 1))) hc hE hw hM (k := 0) (by decide) (vp_in_nI (N := 4200) (by omega) (by decide)) (congrArg (av 0) (nI_clamp (n := (a + 1)) (by omega))) d_SM_isName_77 ?_
      refine lv_bipush (v := 97) hx hb d_SM_isName_78 (by decide) ?_
      refine lv_icmp_ne (tgt := 96) hx hb d_SM_isName_80 (by decide) (fun c23 => ?_) (fun c23 => ?_)
      · refine lv_iconst (v := 0) hx hb d_SM_isName_96 (by decide) ?_
        exact m_zret hc hr hlk hw ⟨by first | decide | (dsimp only; omega), by first | decide | (dsimp only; omega)⟩ d_SM_isName_97 (by decide) ⟨rfl, (bI_f (fun z => c23 (hI.mp z).2.2.1)).symm⟩
      · refine lv_aload_n hx hb d_SM_isName_83 rfl (lv_at hl 2 rfl) ?_
        refine m_mget (v := .ref (ar 0)) hc hE hw hM l_SM_7_SM rfl d_SM_isName_84 ?_
        refine lv_iload_n hx hb d_SM_isName_87 rfl (lv_at hl 3 rfl) ?_
        refine lv_iconst (v := 2) hx hb d_SM_isName_88 (by decide) ?_
        refine lv_iadd hx hb d_SM_isName_89 ?_
        refine m_top (y := (nI (a + 2))) (nI_add a 2) ?_
        refine m_mald (v := ((av 0) (a + 2))) hc hE hw hM (k := 0) (by decide) (vp_in_nI (N := 4200) (by omega) (by decide)) (congrArg (av 0) (nI_clamp (n := (a + 2)) (by omega))) d_SM_isName_90 ?_
        refine lv_bipush (v := 120) hx hb d_SM_isName_91 (by decide) ?_
        refine lv_icmp_eq (tgt := 98) hx hb d_SM_isName_93 (by decide) (fun c24 => ?_) (fun c24 => ?_)
        · refine lv_lconst (v := 0) hx hb d_SM_isName_98 (by decide) ?_
          refine lv_lstore (lv' := [(7, .long 0), (6, .int 5), (4, .long 422944466291), (0, .ref mo), (1, .int (nI a)), (2, .int (nI q)), (3, .int 2)]) hx hb d_SM_isName_99 hl (by decide) rfl (fun ls hl => ?_)
          refine lv_iload_n hx hb d_SM_isName_101 rfl (lv_at hl 4 rfl) ?_
          refine lv_iconst (v := 3) hx hb d_SM_isName_102 (by decide) ?_
          refine lv_iadd hx hb d_SM_isName_103 ?_
          refine m_top (y := (nI (a + 3))) (nI_add a 3) ?_
          refine lv_istore (lv' := [(9, .int (nI (a + 3))), (7, .long 0), (6, .int 5), (4, .long 422944466291), (0, .ref mo), (1, .int (nI a)), (2, .int (nI q)), (3, .int 2)]) hx hb d_SM_isName_104 hl (by decide) rfl (fun ls hl => ?_)
          have hs0 := c22
          have hs1 := c23
          have hs2 := c24
          have hlen : q - a = 5 + 3 := by omega
          have loop : ∀ (fu : Nat) (m0 : Nat) (ls : Array Slot) (H : Heap) (locs : List Loc), 5 - m0 < fu → m0 ≤ 5 → ms G.1 (Af f sz) f s H locs → lv_has ls 10 [(9, .int (nI (a + 3 + m0))), (7, .long (lN (fv (av 0) (a + 3) m0))), (4, .long 422944466291), (0, .ref mo), (2, .int (nI q))] → W p l e ({ frames := 0, cells := 0, slots := 0, locals := 0 }) s m ([.ref mo, .int (nI a), .int (nI q), .int 2] : List Value).toArray below meth c H locs 0 0 (MQ below (va_Qi (fun v f' => f = f' ∧ v = bI (isw (av 0) a q (bytTx.getD 2 []))) (Bw G f sz) (Af f sz)) ([.ref mo, .int (nI a), .int (nI q), .int 2] : List Value).toArray s 0 0 (Af f sz)) (F0 m 106 ls []) := by
            intro fu
            induction fu with
            | zero => intro m0 ls H locs h0; exact absurd h0 (Nat.not_lt_zero _)
            | succ fu ih =>
              intro m0 ls H locs hfu hm0 hw hl
              refine lv_iload hx hb d_SM_isName_106 (lv_at hl 0 rfl) ?_
              refine lv_iload_n hx hb d_SM_isName_108 rfl (lv_at hl 4 rfl) ?_
              refine lv_icmp_ge (tgt := 134) hx hb d_SM_isName_109 (by decide) (fun c25 => ?_) (fun c25 => ?_)
              · have c25n : q ≤ (a + 3 + m0) := (nI_leI (a := q) (b := (a + 3 + m0)) (by omega) (by omega)).mp c25
                refine lv_lload hx hb d_SM_isName_134 (lv_at hl 1 rfl) ?_
                refine lv_lload hx hb d_SM_isName_136 (lv_at hl 2 rfl) ?_
                refine m_lcmp hx hb d_SM_isName_138 (fun r26 hr27 => ?_)
                refine lv_if_ne (tgt := 146) hx hb d_SM_isName_139 (by decide) (fun c28 => ?_) (fun c28 => ?_)
                · have c28n := fun z => c28 (hr27.mpr z)
                  refine lv_iconst (v := 0) hx hb d_SM_isName_146 (by decide) ?_
                  have hm : m0 = 5 := by omega
                  subst hm
                  exact m_zret hc hr hlk hw ⟨by first | decide | (dsimp only; omega), by first | decide | (dsimp only; omega)⟩ d_SM_isName_147 (by decide) ⟨rfl, (bI_f (fun z => c28n ((pk_lEQ (b := 422944466291) (Nat.lt_of_lt_of_le (fv_lt5 hS (by omega) (by omega)) (by decide)) (by decide)).mpr ((hI.mp z).2.2.2.2 (by omega))))).symm⟩
                · have c28n := hr27.mp c28
                  refine lv_iconst (v := 1) hx hb d_SM_isName_142 (by decide) ?_
                  refine lv_goto (tgt := 147) hx hb d_SM_isName_143 (by decide) ?_
                  have hm : m0 = 5 := by omega
                  subst hm
                  exact m_zret hc hr hlk hw ⟨by first | decide | (dsimp only; omega), by first | decide | (dsimp only; omega)⟩ d_SM_isName_147 (by decide) ⟨rfl, (bI_t (hI.mpr ⟨by omega, hs0, hs1, hs2, fun _ => (pk_lEQ (b := 422944466291) (Nat.lt_of_lt_of_le (fv_lt5 hS (by omega) (by omega)) (by decide)) (by decide)).mp c28n⟩)).symm⟩
              · have c25n : ¬ (q ≤ (a + 3 + m0)) := fun z => c25 ((nI_leI (a := q) (b := (a + 3 + m0)) (by omega) (by omega)).mpr z)
                refine lv_lload hx hb d_SM_isName_112 (lv_at hl 1 rfl) ?_
                refine lv_bipush (v := 8) hx hb d_SM_isName_114 (by decide) ?_
                refine lv_lshl (v := (lN (fv (av 0) (a + 3) m0 * 256))) hx hb d_SM_isName_116 (lN_sh (Nat.lt_of_lt_of_le (fv_lt5 hS (by omega) (by omega)) (by decide))) ?_
                refine lv_aload_n hx hb d_SM_isName_117 rfl (lv_at hl 3 rfl) ?_
                refine m_mget (v := .ref (ar 0)) hc hE hw hM l_SM_7_SM rfl d_SM_isName_118 ?_
                refine lv_iload hx hb d_SM_isName_121 (lv_at hl 0 rfl) ?_
                refine m_mald (v := ((av 0) (a + 3 + m0))) hc hE hw hM (k := 0) (by decide) (vp_in_nI (N := 4200) (by omega) (by decide)) (congrArg (av 0) (nI_clamp (n := (a + 3 + m0)) (by omega))) d_SM_isName_123 ?_
                refine lv_i2l (v := (lN (sN (av 0) (a + 3 + m0)))) hx hb d_SM_isName_124 (sN_l hS (by omega)) ?_
                refine lv_lor hx hb d_SM_isName_125 ?_
                refine m_topL (y := (lN (fv (av 0) (a + 3) (m0 + 1)))) (lN_or (Nat.lt_of_lt_of_le (fv_lt5 hS (by omega) (by omega)) (by decide)) (Nat.lt_of_le_of_lt (sN_of hS (show a + 3 + m0 < q by omega)).2 (by decide))) ?_
                refine lv_lstore (lv' := [(7, .long (lN (fv (av 0) (a + 3) (m0 + 1)))), (9, .int (nI (a + 3 + m0))), (4, .long 422944466291), (0, .ref mo), (2, .int (nI q))]) hx hb d_SM_isName_126 hl (by decide) rfl (fun ls hl => ?_)
                refine lv_iinc (v := (nI ((a + 3 + m0) + 1))) (lv' := [(9, .int (nI ((a + 3 + m0) + 1))), (7, .long (lN (fv (av 0) (a + 3) (m0 + 1)))), (4, .long 422944466291), (0, .ref mo), (2, .int (nI q))]) hx hb d_SM_isName_128 hl (k := 1) rfl (nI_1 _) (by decide) rfl (fun ls hl => ?_)
                refine lv_goto (tgt := 106) hx hb d_SM_isName_131 (by decide) ?_
                exact ih (m0 + 1) ls H locs (by omega) (by omega) hw (lv_sub hl [0, 1, 2, 3, 4] rfl)
          exact loop 6 0 ls H locs (by omega) (by omega) hw (lv_sub hl [0, 1, 3, 4, 6] rfl)
        · refine lv_iconst (v := 0) hx hb d_SM_isName_96 (by decide) ?_
          exact m_zret hc hr hlk hw ⟨by first | decide | (dsimp only; omega), by first | decide | (dsimp only; omega)⟩ d_SM_isName_97 (by decide) ⟨rfl, (bI_f (fun z => c24 (hI.mp z).2.2.2.1)).symm⟩

set_option maxHeartbeats 4000000 in
set_option maxRecDepth 100000 in
/-- isName -/
theorem c_SM_isName3 (G : GG) (l : Launch) (sz : Nat) (f : Wd) {mo : Nat} {ar : Nat → Nat} {sc : Nat → Int32} {av : Nat → Nat → Int32} (hM : Mw G mo ar sc av f) {a q : Nat} (haq : a ≤ q) (hq : q ≤ 4200) (hS : sgs (av 0) q) : Ci G l y_SM_isName b_SM_isName 10 (some .boolean) ({ frames := 0, cells := 0, slots := 0, locals := 0 }) sz f [.ref mo, .int (nI a), .int (nI q), .int 3] (fun v f' => f = f' ∧ v = bI (isw (av 0) a q (bytTx.getD 3 []))) := by
  refine ct_of (by decide) (Nat.le_of_ble_eq_true rfl) ?_
  intro p e s m below meth c ls H locs hEn
  obtain ⟨hc, hr, hlk, hin, hE, hw, hsz, hl⟩ := hEn
  have hx := hc.1
  have hb := hc.2.1
  have hl : lv_has ls 10 [(0, .ref mo), (1, .int (nI a)), (2, .int (nI q)), (3, .int 3)] := hl
  have hX : Mx mo ar f f := Mx.rf
  have hI := isnm3 (S := av 0) (a := a) hS (Nat.le_refl q)
  refine lv_iload_n hx hb d_SM_isName_0 rfl (lv_at hl 3 rfl) ?_
  refine lv_if_ne (tgt := 10) hx hb d_SM_isName_1 (by decide) (fun _ => ?_) (fun z => absurd z (by decide))
  refine lv_iload_n hx hb d_SM_isName_10 rfl (lv_at hl 3 rfl) ?_
  refine lv_iconst (v := 1) hx hb d_SM_isName_11 (by decide) ?_
  refine lv_icmp_ne (tgt := 21) hx hb d_SM_isName_12 (by decide) (fun _ => ?_) (fun z => absurd z (by decide))
  refine lv_iload_n hx hb d_SM_isName_21 rfl (lv_at hl 3 rfl) ?_
  refine lv_iconst (v := 2) hx hb d_SM_isName_22 (by decide) ?_
  refine lv_icmp_ne (tgt := 32) hx hb d_SM_isName_23 (by decide) (fun _ => ?_) (fun z => absurd z (by decide))
  refine m_lc2 hc wd_constantLong_StreamFiltersModel_89_418531926393 d_SM_isName_32 ?_
  refine lv_lstore (lv' := [(4, .long 418531926393), (0, .ref mo), (1, .int (nI a)), (2, .int (nI q)), (3, .int 3)]) hx hb d_SM_isName_35 hl (by decide) rfl (fun ls hl => ?_)
  refine lv_iload_n hx hb d_SM_isName_37 rfl (lv_at hl 4 rfl) ?_
  refine lv_iconst (v := 1) hx hb d_SM_isName_38 (by decide) ?_
  refine lv_icmp_ne (tgt := 46) hx hb d_SM_isName_39 (by decide) (fun _ => ?_) (fun z => absurd z (by decide))
  refine lv_iconst (v := 5) hx hb d_SM_isName_46 (by decide) ?_
  refine lv_istore (lv' := [(6, .int 5), (4, .long 418531926393), (0, .ref mo), (1, .int (nI a)), (2, .int (nI q)), (3, .int 3)]) hx hb d_SM_isName_47 hl (by decide) rfl (fun ls hl => ?_)
  refine lv_iload_n hx hb d_SM_isName_49 rfl (lv_at hl 4 rfl) ?_
  refine lv_iload_n hx hb d_SM_isName_50 rfl (lv_at hl 3 rfl) ?_
  refine lv_isub hx hb d_SM_isName_51 ?_
  refine m_top (y := (nI (q - a))) (pk_sub (a := q) (b := a) (by omega)) ?_
  refine lv_iload hx hb d_SM_isName_52 (lv_at hl 0 rfl) ?_
  refine lv_iconst (v := 3) hx hb d_SM_isName_54 (by decide) ?_
  refine lv_iadd hx hb d_SM_isName_55 ?_
  refine m_top (y := (nI (5 + 3))) (nI_add 5 3) ?_
  refine lv_icmp_ne (tgt := 96) hx hb d_SM_isName_56 (by decide) (fun c21 => ?_) (fun c21 => ?_)
  · have c21n : ¬ ((q - a) = (5 + 3)) := fun z => c21 ((nI_eq (a := (q - a)) (b := (5 + 3)) (by omega) (by omega)).mpr z)
    refine lv_iconst (v := 0) hx hb d_SM_isName_96 (by decide) ?_
    exact m_zret hc hr hlk hw ⟨by first | decide | (dsimp only; omega), by first | decide | (dsimp only; omega)⟩ d_SM_isName_97 (by decide) ⟨rfl, (bI_f (fun z => absurd (hI.mp z).1 (by omega))).symm⟩
  · have c21n : (q - a) = (5 + 3) := (nI_eq (a := (q - a)) (b := (5 + 3)) (by omega) (by omega)).mp c21
    refine lv_aload_n hx hb d_SM_isName_59 rfl (lv_at hl 2 rfl) ?_
    refine m_mget (v := .ref (ar 0)) hc hE hw hM l_SM_7_SM rfl d_SM_isName_60 ?_
    refine lv_iload_n hx hb d_SM_isName_63 rfl (lv_at hl 3 rfl) ?_
    refine m_mald (v := ((av 0) a)) hc hE hw hM (k := 0) (by decide) (vp_in_nI (N := 4200) (by omega) (by decide)) (congrArg (av 0) (nI_clamp (n := a) (by omega))) d_SM_isName_64 ?_
    refine lv_bipush (v := 109) hx hb d_SM_isName_65 (by decide) ?_
    refine lv_icmp_ne (tgt := 96) hx hb d_SM_isName_67 (by decide) (fun c22 => ?_) (fun c22 => ?_)
    · refine lv_iconst (v := 0) hx hb d_SM_isName_96 (by decide) ?_
      exact m_zret hc hr hlk hw ⟨by first | decide | (dsimp only; omega), by first | decide | (dsimp only; omega)⟩ d_SM_isName_97 (by decide) ⟨rfl, (bI_f (fun z => c22 (hI.mp z).2.1)).symm⟩
    · refine lv_aload_n hx hb d_SM_isName_70 rfl (lv_at hl 2 rfl) ?_
      refine m_mget (v := .ref (ar 0)) hc hE hw hM l_SM_7_SM rfl d_SM_isName_71 ?_
      refine lv_iload_n hx hb d_SM_isName_74 rfl (lv_at hl 3 rfl) ?_
      refine lv_iconst (v := 1) hx hb d_SM_isName_75 (by decide) ?_
      refine lv_iadd hx hb d_SM_isName_76 ?_
      refine m_top (y := (nI (a + 1))) (nI_add a 1) ?_
      refine m_mald (v := ((av 0) (a + 1))) hc hE hw hM (k := 0) (by decide) (vp_in_nI (N := 4200) (by omega) (by decide)) (congrArg (av 0) (nI_clamp (n := (a + 1)) (by omega))) d_SM_isName_77 ?_
      refine lv_bipush (v := 97) hx hb d_SM_isName_78 (by decide) ?_
      refine lv_icmp_ne (tgt := 96) hx hb d_SM_isName_80 (by decide) (fun c23 => ?_) (fun c23 => ?_)
      · refine lv_iconst (v := 0) hx hb d_SM_isName_96 (by decide) ?_
        exact m_zret hc hr hlk hw ⟨by first | decide | (dsimp only; omega), by first | decide | (dsimp only; omega)⟩ d_SM_isName_97 (by decide) ⟨rfl, (bI_f (fun z => c23 (hI.mp z).2.2.1)).symm⟩
      · refine lv_aload_n hx hb d_SM_isName_83 rfl (lv_at hl 2 rfl) ?_
        refine m_mget (v := .ref (ar 0)) hc hE hw hM l_SM_7_SM rfl d_SM_isName_84 ?_
        refine lv_iload_n hx hb d_SM_isName_87 rfl (lv_at hl 3 rfl) ?_
        refine lv_iconst (v := 2) hx hb d_SM_isName_88 (by decide) ?_
        refine lv_iadd hx hb d_SM_isName_89 ?_
        refine m_top (y := (nI (a + 2))) (nI_add a 2) ?_
        refine m_mald (v := ((av 0) (a + 2))) hc hE hw hM (k := 0) (by decide) (vp_in_nI (N := 4200) (by omega) (by decide)) (congrArg (av 0) (nI_clamp (n := (a + 2)) (by omega))) d_SM_isName_90 ?_
        refine lv_bipush (v := 120) hx hb d_SM_isName_91 (by decide) ?_
        refine lv_icmp_eq (tgt := 98) hx hb d_SM_isName_93 (by decide) (fun c24 => ?_) (fun c24 => ?_)
        · refine lv_lconst (v := 0) hx hb d_SM_isName_98 (by decide) ?_
          refine lv_lstore (lv' := [(7, .long 0), (6, .int 5), (4, .long 418531926393), (0, .ref mo), (1, .int (nI a)), (2, .int (nI q)), (3, .int 3)]) hx hb d_SM_isName_99 hl (by decide) rfl (fun ls hl => ?_)
          refine lv_iload_n hx hb d_SM_isName_101 rfl (lv_at hl 4 rfl) ?_
          refine lv_iconst (v := 3) hx hb d_SM_isName_102 (by decide) ?_
          refine lv_iadd hx hb d_SM_isName_103 ?_
          refine m_top (y := (nI (a + 3))) (nI_add a 3) ?_
          refine lv_istore (lv' := [(9, .int (nI (a + 3))), (7, .long 0), (6, .int 5), (4, .long 418531926393), (0, .ref mo), (1, .int (nI a)), (2, .int (nI q)), (3, .int 3)]) hx hb d_SM_isName_104 hl (by decide) rfl (fun ls hl => ?_)
          have hs0 := c22
          have hs1 := c23
          have hs2 := c24
          have hlen : q - a = 5 + 3 := by omega
          have loop : ∀ (fu : Nat) (m0 : Nat) (ls : Array Slot) (H : Heap) (locs : List Loc), 5 - m0 < fu → m0 ≤ 5 → ms G.1 (Af f sz) f s H locs → lv_has ls 10 [(9, .int (nI (a + 3 + m0))), (7, .long (lN (fv (av 0) (a + 3) m0))), (4, .long 418531926393), (0, .ref mo), (2, .int (nI q))] → W p l e ({ frames := 0, cells := 0, slots := 0, locals := 0 }) s m ([.ref mo, .int (nI a), .int (nI q), .int 3] : List Value).toArray below meth c H locs 0 0 (MQ below (va_Qi (fun v f' => f = f' ∧ v = bI (isw (av 0) a q (bytTx.getD 3 []))) (Bw G f sz) (Af f sz)) ([.ref mo, .int (nI a), .int (nI q), .int 3] : List Value).toArray s 0 0 (Af f sz)) (F0 m 106 ls []) := by
            intro fu
            induction fu with
            | zero => intro m0 ls H locs h0; exact absurd h0 (Nat.not_lt_zero _)
            | succ fu ih =>
              intro m0 ls H locs hfu hm0 hw hl
              refine lv_iload hx hb d_SM_isName_106 (lv_at hl 0 rfl) ?_
              refine lv_iload_n hx hb d_SM_isName_108 rfl (lv_at hl 4 rfl) ?_
              refine lv_icmp_ge (tgt := 134) hx hb d_SM_isName_109 (by decide) (fun c25 => ?_) (fun c25 => ?_)
              · have c25n : q ≤ (a + 3 + m0) := (nI_leI (a := q) (b := (a + 3 + m0)) (by omega) (by omega)).mp c25
                refine lv_lload hx hb d_SM_isName_134 (lv_at hl 1 rfl) ?_
                refine lv_lload hx hb d_SM_isName_136 (lv_at hl 2 rfl) ?_
                refine m_lcmp hx hb d_SM_isName_138 (fun r26 hr27 => ?_)
                refine lv_if_ne (tgt := 146) hx hb d_SM_isName_139 (by decide) (fun c28 => ?_) (fun c28 => ?_)
                · have c28n := fun z => c28 (hr27.mpr z)
                  refine lv_iconst (v := 0) hx hb d_SM_isName_146 (by decide) ?_
                  have hm : m0 = 5 := by omega
                  subst hm
                  exact m_zret hc hr hlk hw ⟨by first | decide | (dsimp only; omega), by first | decide | (dsimp only; omega)⟩ d_SM_isName_147 (by decide) ⟨rfl, (bI_f (fun z => c28n ((pk_lEQ (b := 418531926393) (Nat.lt_of_lt_of_le (fv_lt5 hS (by omega) (by omega)) (by decide)) (by decide)).mpr ((hI.mp z).2.2.2.2 (by omega))))).symm⟩
                · have c28n := hr27.mp c28
                  refine lv_iconst (v := 1) hx hb d_SM_isName_142 (by decide) ?_
                  refine lv_goto (tgt := 147) hx hb d_SM_isName_143 (by decide) ?_
                  have hm : m0 = 5 := by omega
                  subst hm
                  exact m_zret hc hr hlk hw ⟨by first | decide | (dsimp only; omega), by first | decide | (dsimp only; omega)⟩ d_SM_isName_147 (by decide) ⟨rfl, (bI_t (hI.mpr ⟨by omega, hs0, hs1, hs2, fun _ => (pk_lEQ (b := 418531926393) (Nat.lt_of_lt_of_le (fv_lt5 hS (by omega) (by omega)) (by decide)) (by decide)).mp c28n⟩)).symm⟩
              · have c25n : ¬ (q ≤ (a + 3 + m0)) := fun z => c25 ((nI_leI (a := q) (b := (a + 3 + m0)) (by omega) (by omega)).mpr z)
                refine lv_lload hx hb d_SM_isName_112 (lv_at hl 1 rfl) ?_
                refine lv_bipush (v := 8) hx hb d_SM_isName_114 (by decide) ?_
                refine lv_lshl (v := (lN (fv (av 0) (a + 3) m0 * 256))) hx hb d_SM_isName_116 (lN_sh (Nat.lt_of_lt_of_le (fv_lt5 hS (by omega) (by omega)) (by decide))) ?_
                refine lv_aload_n hx hb d_SM_isName_117 rfl (lv_at hl 3 rfl) ?_
                refine m_mget (v := .ref (ar 0)) hc hE hw hM l_SM_7_SM rfl d_SM_isName_118 ?_
                refine lv_iload hx hb d_SM_isName_121 (lv_at hl 0 rfl) ?_
                refine m_mald (v := ((av 0) (a + 3 + m0))) hc hE hw hM (k := 0) (by decide) (vp_in_nI (N := 4200) (by omega) (by decide)) (congrArg (av 0) (nI_clamp (n := (a + 3 + m0)) (by omega))) d_SM_isName_123 ?_
                refine lv_i2l (v := (lN (sN (av 0) (a + 3 + m0)))) hx hb d_SM_isName_124 (sN_l hS (by omega)) ?_
                refine lv_lor hx hb d_SM_isName_125 ?_
                refine m_topL (y := (lN (fv (av 0) (a + 3) (m0 + 1)))) (lN_or (Nat.lt_of_lt_of_le (fv_lt5 hS (by omega) (by omega)) (by decide)) (Nat.lt_of_le_of_lt (sN_of hS (show a + 3 + m0 < q by omega)).2 (by decide))) ?_
                refine lv_lstore (lv' := [(7, .long (lN (fv (av 0) (a + 3) (m0 + 1)))), (9, .int (nI (a + 3 + m0))), (4, .long 418531926393), (0, .ref mo), (2, .int (nI q))]) hx hb d_SM_isName_126 hl (by decide) rfl (fun ls hl => ?_)
                refine lv_iinc (v := (nI ((a + 3 + m0) + 1))) (lv' := [(9, .int (nI ((a + 3 + m0) + 1))), (7, .long (lN (fv (av 0) (a + 3) (m0 + 1)))), (4, .long 418531926393), (0, .ref mo), (2, .int (nI q))]) hx hb d_SM_isName_128 hl (k := 1) rfl (nI_1 _) (by decide) rfl (fun ls hl => ?_)
                refine lv_goto (tgt := 106) hx hb d_SM_isName_131 (by decide) ?_
                exact ih (m0 + 1) ls H locs (by omega) (by omega) hw (lv_sub hl [0, 1, 2, 3, 4] rfl)
          exact loop 6 0 ls H locs (by omega) (by omega) hw (lv_sub hl [0, 1, 3, 4, 6] rfl)
        · refine lv_iconst (v := 0) hx hb d_SM_isName_96 (by decide) ?_
          exact m_zret hc hr hlk hw ⟨by first | decide | (dsimp only; omega), by first | decide | (dsimp only; omega)⟩ d_SM_isName_97 (by decide) ⟨rfl, (bI_f (fun z => c24 (hI.mp z).2.2.2.1)).symm⟩

theorem c_SM_isName (G : GG) (l : Launch) (sz : Nat) (f : Wd) {mo : Nat} {ar : Nat → Nat} {sc : Nat → Int32} {av : Nat → Nat → Int32} (hM : Mw G mo ar sc av f) {a q k : Nat} (haq : a ≤ q) (hq : q ≤ 4200) (hS : sgs (av 0) q) (hk : k < 4) : Ci G l y_SM_isName b_SM_isName 10 (some .boolean) ({ frames := 0, cells := 0, slots := 0, locals := 0 }) sz f [.ref mo, .int (nI a), .int (nI q), .int (nI k)] (fun v f' => f = f' ∧ v = bI (isw (av 0) a q (bytTx.getD k []))) := by
  rcases (show k = 0 ∨ k = 1 ∨ k = 2 ∨ k = 3 by omega) with rfl | rfl | rfl | rfl
  · exact c_SM_isName0 G l sz f hM haq hq hS
  · exact c_SM_isName1 G l sz f hM haq hq hS
  · exact c_SM_isName2 G l sz f hM haq hq hS
  · exact c_SM_isName3 G l sz f hM haq hq hS

set_option maxHeartbeats 4000000 in
set_option maxRecDepth 100000 in
/-- limitPiece -/
theorem c_SM_limitPiece (G : GG) (l : Launch) (sz : Nat) (f : Wd) {mo : Nat} {ar : Nat → Nat} {sc : Nat → Int32} {av : Nat → Nat → Int32} (hM : Mw G mo ar sc av f) {a q e0 : Nat} (haq : a ≤ q) (hqe : q < e0) (he0 : e0 ≤ 4200) (hS : sgs (av 0) e0) : Ci G l y_SM_limitPiece b_SM_limitPiece 6 (some .int) ({ frames := 1, cells := 0, slots := 0, locals := 29 }) sz f [.ref mo, .int (nI a), .int (nI q), .int (nI e0)] (fun v f' => ∃ sc' : Nat → Int32, Mw G mo ar sc' av f' ∧ Mx mo ar f f' ∧ (∀ k, k < 15 → sc' k = sc k) ∧ v = pif (lok (av 0) a q e0) 1 3 ∧ (lok (av 0) a q e0 → sc' 15 = lmV (av 0) a q ∧ sc' 16 = nmb (av 0) (q + 1) (e0 - (q + 1)))) := by
  refine ct_of (by decide) (Nat.le_of_ble_eq_true rfl) ?_
  intro p e s m below meth c ls H locs hEn
  obtain ⟨hc, hr, hlk, hin, hE, hw, hsz, hl⟩ := hEn
  have hx := hc.1
  have hb := hc.2.1
  have hl : lv_has ls 6 [(0, .ref mo), (1, .int (nI a)), (2, .int (nI q)), (3, .int (nI e0))] := hl
  have hX : Mx mo ar f f := Mx.rf
  have hL4 := lnK4 (av 0) a q
  have hSq : sgs (av 0) q := fun j hj => hS j (by omega)
  refine lv_aload_n hx hb d_SM_limitPiece_0 rfl (lv_at hl 0 rfl) ?_
  refine lv_iconst (v := (-1)) hx hb d_SM_limitPiece_1 (by decide) ?_
  refine m_mput (sc' := (upd sc 15 (-1))) hc hE hw hM hX l_SM_91_SM rfl ds_SM_25 rfl rfl rfl d_SM_limitPiece_2 (fun H locs f21 hM22 hX23 hw => ?_)
  refine lv_iconst (v := 0) hx hb d_SM_limitPiece_5 (by decide) ?_
  refine lv_istore (lv' := [(4, .int 0), (0, .ref mo), (1, .int (nI a)), (2, .int (nI q)), (3, .int (nI e0))]) hx hb d_SM_limitPiece_6 hl (by decide) rfl (fun ls hl => ?_)
  have loopA : ∀ (fu : Nat) (k : Nat) (fj : Wd) (ls : Array Slot) (H : Heap) (locs : List Loc), 4 - k < fu → k ≤ 4 → Mw G mo ar (upd sc 15 (lnK (av 0) a q k)) av fj → Mx mo ar f fj → ms G.1 (Af f sz) fj s H locs → lv_has ls 6 [(4, .int (nI k)), (0, .ref mo), (1, .int (nI a)), (2, .int (nI q)), (3, .int (nI e0))] → W p l e ({ frames := 1, cells := 0, slots := 0, locals := 29 }) s m ([.ref mo, .int (nI a), .int (nI q), .int (nI e0)] : List Value).toArray below meth c H locs 0 0 (MQ below (va_Qi (fun v f' => ∃ sc' : Nat → Int32, Mw G mo ar sc' av f' ∧ Mx mo ar f f' ∧ (∀ k, k < 15 → sc' k = sc k) ∧ v = pif (lok (av 0) a q e0) 1 3 ∧ (lok (av 0) a q e0 → sc' 15 = lmV (av 0) a q ∧ sc' 16 = nmb (av 0) (q + 1) (e0 - (q + 1)))) (Bw G f sz) (Af f sz)) ([.ref mo, .int (nI a), .int (nI q), .int (nI e0)] : List Value).toArray s 0 0 (Af f sz)) (F0 m 8 ls []) := by
    intro fu
    induction fu with
    | zero => intro k fj ls H locs h0; exact absurd h0 (Nat.not_lt_zero _)
    | succ fu ih =>
      intro k fj ls H locs hfu hk hMj hXj hw hl
      refine lv_iload hx hb d_SM_limitPiece_8 (lv_at hl 0 rfl) ?_
      refine lv_iconst (v := 4) hx hb d_SM_limitPiece_10 (by decide) ?_
      refine lv_icmp_ge (tgt := 37) hx hb d_SM_limitPiece_11 (by decide) (fun c24 => ?_) (fun c24 => ?_)
      · have c24n : 4 ≤ k := (nI_leI (a := 4) (b := k) (by omega) (by omega)).mp c24
        have hk4 : k = 4 := by omega
        subst hk4
        refine lv_iload_n hx hb d_SM_limitPiece_37 rfl (lv_at hl 4 rfl) ?_
        refine lv_iload_n hx hb d_SM_limitPiece_38 rfl (lv_at hl 3 rfl) ?_
        refine lv_isub hx hb d_SM_limitPiece_39 ?_
        refine m_top (y := (nI (e0 - q))) (pk_sub (a := e0) (b := q) (by omega)) ?_
        refine lv_iconst (v := 1) hx hb d_SM_limitPiece_40 (by decide) ?_
        refine lv_isub hx hb d_SM_limitPiece_41 ?_
        refine m_top (y := (nI ((e0 - q) - 1))) (pk_sub (a := (e0 - q)) (b := 1) (by omega)) ?_
        refine lv_istore (lv' := [(4, .int (nI ((e0 - q) - 1))), (0, .ref mo), (1, .int (nI a)), (2, .int (nI q)), (3, .int (nI e0))]) hx hb d_SM_limitPiece_42 hl (by decide) rfl (fun ls hl => ?_)
        refine lv_aload_n hx hb d_SM_limitPiece_44 rfl (lv_at hl 1 rfl) ?_
        refine m_mget (v := .int (lnK (av 0) a q 4)) hc hE hw hMj l_SM_91_SM rfl d_SM_limitPiece_45 ?_
        refine lv_if_lt (tgt := 64) hx hb d_SM_limitPiece_48 (by decide) (fun c25 => ?_) (fun c25 => ?_)
        · refine lv_iconst (v := 3) hx hb d_SM_limitPiece_64 (by decide) ?_
          exact m_iret hc hr hlk hw ⟨by first | decide | (dsimp only; omega), by first | decide | (dsimp only; omega)⟩ d_SM_limitPiece_65 ⟨_, hMj, hXj, (fun k hk => by repeat rw [upd_ne' _ _ _ (by omega)]), (pif_f (fun z => hL4.elim (fun y => z.1 y.1) (fun y => y.2.2 c25))).symm, fun z => absurd z (fun z => hL4.elim (fun y => z.1 y.1) (fun y => y.2.2 c25))⟩
        · refine lv_iload hx hb d_SM_limitPiece_51 (lv_at hl 0 rfl) ?_
          refine lv_iconst (v := 1) hx hb d_SM_limitPiece_53 (by decide) ?_
          refine lv_icmp_lt (tgt := 64) hx hb d_SM_limitPiece_54 (by decide) (fun c26 => ?_) (fun c26 => ?_)
          · have c26n : ((e0 - q) - 1) < 1 := (nI_ltI (a := ((e0 - q) - 1)) (b := 1) (by omega) (by omega)).mp c26
            refine lv_iconst (v := 3) hx hb d_SM_limitPiece_64 (by decide) ?_
            exact m_iret hc hr hlk hw ⟨by first | decide | (dsimp only; omega), by first | decide | (dsimp only; omega)⟩ d_SM_limitPiece_65 ⟨_, hMj, hXj, (fun k hk => by repeat rw [upd_ne' _ _ _ (by omega)]), (pif_f (fun z => absurd z.2 (fun y => absurd y.1 (by omega)))).symm, fun z => absurd z (fun z => absurd z.2 (fun y => absurd y.1 (by omega)))⟩
          · have c26n : ¬ (((e0 - q) - 1) < 1) := fun z => c26 ((nI_ltI (a := ((e0 - q) - 1)) (b := 1) (by omega) (by omega)).mpr z)
            refine lv_iload hx hb d_SM_limitPiece_57 (lv_at hl 0 rfl) ?_
            refine lv_bipush (v := 9) hx hb d_SM_limitPiece_59 (by decide) ?_
            refine lv_icmp_le (tgt := 66) hx hb d_SM_limitPiece_61 (by decide) (fun c27 => ?_) (fun c27 => ?_)
            · have c27n : ((e0 - q) - 1) ≤ 9 := (nI_leI (a := ((e0 - q) - 1)) (b := 9) (by omega) (by omega)).mp c27
              refine lv_aload_n hx hb d_SM_limitPiece_66 rfl (lv_at hl 1 rfl) ?_
              refine lv_iconst (v := 0) hx hb d_SM_limitPiece_67 (by decide) ?_
              refine m_mput (sc' := (upd (upd sc 15 (lnK (av 0) a q 4)) 16 0)) hc hE hw hMj hXj l_SM_98_SM rfl ds_SM_26 rfl rfl rfl d_SM_limitPiece_68 (fun H locs f28 hM29 hX30 hw => ?_)
              refine lv_iload_n hx hb d_SM_limitPiece_71 rfl (lv_at hl 3 rfl) ?_
              refine lv_iconst (v := 1) hx hb d_SM_limitPiece_72 (by decide) ?_
              refine lv_iadd hx hb d_SM_limitPiece_73 ?_
              refine m_top (y := (nI (q + 1))) (nI_add q 1) ?_
              refine lv_istore (lv' := [(5, .int (nI (q + 1))), (4, .int (nI ((e0 - q) - 1))), (0, .ref mo), (1, .int (nI a)), (2, .int (nI q)), (3, .int (nI e0))]) hx hb d_SM_limitPiece_74 hl (by decide) rfl (fun ls hl => ?_)
              have hnm : ¬ lmV (av 0) a q = -2 := fun y => hL4.elim (fun z => c25 (by rw [z.2]; decide)) (fun z => z.1 y)
              have hln : lnK (av 0) a q 4 = lmV (av 0) a q := hL4.elim (fun z => absurd z.1 hnm) (fun z => z.2.1)
              have loopB : ∀ (fu : Nat) (m0 : Nat) (fk : Wd) (ls : Array Slot) (H : Heap) (locs : List Loc), e0 - m0 < fu → m0 ≤ e0 - (q + 1) → (∀ j, j < m0 → 48 ≤ av 0 (q + 1 + j) ∧ av 0 (q + 1 + j) ≤ 57) → Mw G mo ar (upd (upd sc 15 (lnK (av 0) a q 4)) 16 (nmb (av 0) (q + 1) m0)) av fk → Mx mo ar f fk → ms G.1 (Af f sz) fk s H locs → lv_has ls 6 [(5, .int (nI (q + 1 + m0))), (0, .ref mo), (3, .int (nI e0))] → W p l e ({ frames := 1, cells := 0, slots := 0, locals := 29 }) s m ([.ref mo, .int (nI a), .int (nI q), .int (nI e0)] : List Value).toArray below meth c H locs 0 0 (MQ below (va_Qi (fun v f' => ∃ sc' : Nat → Int32, Mw G mo ar sc' av f' ∧ Mx mo ar f f' ∧ (∀ k, k < 15 → sc' k = sc k) ∧ v = pif (lok (av 0) a q e0) 1 3 ∧ (lok (av 0) a q e0 → sc' 15 = lmV (av 0) a q ∧ sc' 16 = nmb (av 0) (q + 1) (e0 - (q + 1)))) (Bw G f sz) (Af f sz)) ([.ref mo, .int (nI a), .int (nI q), .int (nI e0)] : List Value).toArray s 0 0 (Af f sz)) (F0 m 76 ls []) := by
                intro fu
                induction fu with
                | zero => intro m0 fk ls H locs h0; exact absurd h0 (Nat.not_lt_zero _)
                | succ fu ih =>
                  intro m0 fk ls H locs hfu hm0 hdg hMk hXk hw hl
                  refine lv_iload hx hb d_SM_limitPiece_76 (lv_at hl 0 rfl) ?_
                  refine lv_iload_n hx hb d_SM_limitPiece_78 rfl (lv_at hl 2 rfl) ?_
                  refine lv_icmp_ge (tgt := 136) hx hb d_SM_limitPiece_79 (by decide) (fun c31 => ?_) (fun c31 => ?_)
                  · have c31n : e0 ≤ (q + 1 + m0) := (nI_leI (a := e0) (b := (q + 1 + m0)) (by omega) (by omega)).mp c31
                    refine lv_iconst (v := 1) hx hb d_SM_limitPiece_136 (by decide) ?_
                    have hm : m0 = e0 - (q + 1) := by omega
                    have hlok : lok (av 0) a q e0 := ⟨hnm, by omega, by omega, fun j hj => hdg j (by omega)⟩
                    exact m_iret hc hr hlk hw ⟨by first | decide | (dsimp only; omega), by first | decide | (dsimp only; omega)⟩ d_SM_limitPiece_137 ⟨_, hMk, hXk, (fun k hk => by repeat rw [upd_ne' _ _ _ (by omega)]), (pif_t hlok).symm, fun _ => ⟨hln, by rw [← hm]; rfl⟩⟩
                  · have c31n : ¬ (e0 ≤ (q + 1 + m0)) := fun z => c31 ((nI_leI (a := e0) (b := (q + 1 + m0)) (by omega) (by omega)).mpr z)
                    refine lv_aload_n hx hb d_SM_limitPiece_82 rfl (lv_at hl 1 rfl) ?_
                    refine m_mget (v := .ref (ar 0)) hc hE hw hMk l_SM_7_SM rfl d_SM_limitPiece_83 ?_
                    refine lv_iload hx hb d_SM_limitPiece_86 (lv_at hl 0 rfl) ?_
                    refine m_mald (v := ((av 0) (q + 1 + m0))) hc hE hw hMk (k := 0) (by decide) (vp_in_nI (N := 4200) (by omega) (by decide)) (congrArg (av 0) (nI_clamp (n := (q + 1 + m0)) (by omega))) d_SM_limitPiece_88 ?_
                    refine lv_bipush (v := 48) hx hb d_SM_limitPiece_89 (by decide) ?_
                    refine lv_icmp_lt (tgt := 106) hx hb d_SM_limitPiece_91 (by decide) (fun c32 => ?_) (fun c32 => ?_)
                    · refine lv_iconst (v := 3) hx hb d_SM_limitPiece_106 (by decide) ?_
                      exact m_iret hc hr hlk hw ⟨by first | decide | (dsimp only; omega), by first | decide | (dsimp only; omega)⟩ d_SM_limitPiece_107 ⟨_, hMk, hXk, (fun k hk => by repeat rw [upd_ne' _ _ _ (by omega)]), (pif_f (fun z => absurd (z.2.2.2 m0 (by omega)).1 (Int32.not_le.mpr c32))).symm, fun z => absurd z (fun z => absurd (z.2.2.2 m0 (by omega)).1 (Int32.not_le.mpr c32))⟩
                    · refine lv_aload_n hx hb d_SM_limitPiece_94 rfl (lv_at hl 1 rfl) ?_
                      refine m_mget (v := .ref (ar 0)) hc hE hw hMk l_SM_7_SM rfl d_SM_limitPiece_95 ?_
                      refine lv_iload hx hb d_SM_limitPiece_98 (lv_at hl 0 rfl) ?_
                      refine m_mald (v := ((av 0) (q + 1 + m0))) hc hE hw hMk (k := 0) (by decide) (vp_in_nI (N := 4200) (by omega) (by decide)) (congrArg (av 0) (nI_clamp (n := (q + 1 + m0)) (by omega))) d_SM_limitPiece_100 ?_
                      refine lv_bipush (v := 57) hx hb d_SM_limitPiece_101 (by decide) ?_
                      refine lv_icmp_le (tgt := 108) hx hb d_SM_limitPiece_103 (by decide) (fun c33 => ?_) (fun c33 => ?_)
                      · refine lv_aload_n hx hb d_SM_limitPiece_108 rfl (lv_at hl 1 rfl) ?_
                        refine lv_aload_n hx hb d_SM_limitPiece_109 rfl (lv_at hl 1 rfl) ?_
                        refine m_mget (v := .int (nmb (av 0) (q + 1) m0)) hc hE hw hMk l_SM_98_SM rfl d_SM_limitPiece_110 ?_
                        refine lv_bipush (v := 10) hx hb d_SM_limitPiece_113 (by decide) ?_
                        refine lv_imul hx hb d_SM_limitPiece_115 ?_
                        refine lv_aload_n hx hb d_SM_limitPiece_116 rfl (lv_at hl 1 rfl) ?_
                        refine m_mget (v := .ref (ar 0)) hc hE hw hMk l_SM_7_SM rfl d_SM_limitPiece_117 ?_
                        refine lv_iload hx hb d_SM_limitPiece_120 (lv_at hl 0 rfl) ?_
                        refine m_mald (v := ((av 0) (q + 1 + m0))) hc hE hw hMk (k := 0) (by decide) (vp_in_nI (N := 4200) (by omega) (by decide)) (congrArg (av 0) (nI_clamp (n := (q + 1 + m0)) (by omega))) d_SM_limitPiece_122 ?_
                        refine lv_iadd hx hb d_SM_limitPiece_123 ?_
                        refine lv_bipush (v := 48) hx hb d_SM_limitPiece_124 (by decide) ?_
                        refine lv_isub hx hb d_SM_limitPiece_126 ?_
                        refine m_top (y := (nmb (av 0) (q + 1) (m0 + 1))) nmb_s ?_
                        refine m_mput (sc' := (upd (upd sc 15 (lnK (av 0) a q 4)) 16 (nmb (av 0) (q + 1) (m0 + 1)))) hc hE hw hMk hXk l_SM_98_SM rfl ds_SM_26 rfl rfl rfl d_SM_limitPiece_127 (fun H locs f34 hM35 hX36 hw => ?_)
                        refine lv_iinc (v := (nI ((q + 1 + m0) + 1))) (lv' := [(5, .int (nI ((q + 1 + m0) + 1))), (0, .ref mo), (3, .int (nI e0))]) hx hb d_SM_limitPiece_130 hl (k := 0) rfl (nI_1 _) (by decide) rfl (fun ls hl => ?_)
                        refine lv_goto (tgt := 76) hx hb d_SM_limitPiece_133 (by decide) ?_
                        exact ih (m0 + 1) f34 ls H locs (by omega) (by omega) (fun j hj => by rcases Nat.lt_or_ge j m0 with z | z; exact hdg j z; rw [show j = m0 by omega]; exact ⟨Int32.not_lt.mp c32, c33⟩) hM35 hX36 hw (lv_sub hl [0, 1, 2] rfl)
                      · refine lv_iconst (v := 3) hx hb d_SM_limitPiece_106 (by decide) ?_
                        exact m_iret hc hr hlk hw ⟨by first | decide | (dsimp only; omega), by first | decide | (dsimp only; omega)⟩ d_SM_limitPiece_107 ⟨_, hMk, hXk, (fun k hk => by repeat rw [upd_ne' _ _ _ (by omega)]), (pif_f (fun z => c33 (z.2.2.2 m0 (by omega)).2)).symm, fun z => absurd z (fun z => c33 (z.2.2.2 m0 (by omega)).2)⟩
              exact loopB (e0 + 1) 0 f28 ls H locs (by omega) (by omega) (fun j hj => absurd hj (Nat.not_lt_zero _)) hM29 hX30 hw (lv_sub hl [0, 2, 5] rfl)
            · have c27n : ¬ (((e0 - q) - 1) ≤ 9) := fun z => c27 ((nI_leI (a := ((e0 - q) - 1)) (b := 9) (by omega) (by omega)).mpr z)
              refine lv_iconst (v := 3) hx hb d_SM_limitPiece_64 (by decide) ?_
              exact m_iret hc hr hlk hw ⟨by first | decide | (dsimp only; omega), by first | decide | (dsimp only; omega)⟩ d_SM_limitPiece_65 ⟨_, hMj, hXj, (fun k hk => by repeat rw [upd_ne' _ _ _ (by omega)]), (pif_f (fun z => absurd z.2 (fun y => absurd y.2.1 (by omega)))).symm, fun z => absurd z (fun z => absurd z.2 (fun y => absurd y.2.1 (by omega)))⟩
      · have c24n : ¬ (4 ≤ k) := fun z => c24 ((nI_leI (a := 4) (b := k) (by omega) (by omega)).mpr z)
        refine lv_aload_n hx hb d_SM_limitPiece_14 rfl (lv_at hl 1 rfl) ?_
        refine lv_iload_n hx hb d_SM_limitPiece_15 rfl (lv_at hl 2 rfl) ?_
        refine lv_iload_n hx hb d_SM_limitPiece_16 rfl (lv_at hl 3 rfl) ?_
        refine lv_iload hx hb d_SM_limitPiece_17 (lv_at hl 0 rfl) ?_
        refine m_calli hw (m_runV (As := [.int (nI a), .int (nI q), .int (nI k)]) (rest := []) hc hE hw (c_SM_isName G l H.size fj hMj haq (by omega) hSq (k := k) (by omega)) hMj.1 rfl cw_SM_94 se_SM_isName rfl hl.1 rfl (Nat.le_of_ble_eq_true rfl) d_SM_limitPiece_19 ⟨rfl, rfl, by decide, by decide⟩ ⟨by first | decide | (dsimp only; omega), by first | decide | (dsimp only; omega)⟩) (fun r39 g38 H locs p37 hw => ?_)
        obtain ⟨rfl, p37⟩ := p37
        subst p37
        refine lv_if_eq (tgt := 31) hx hb d_SM_limitPiece_22 (by decide) (fun c40 => ?_) (fun c40 => ?_)
        · have c40n : ¬ (isw (av 0) a q (bytTx.getD k [])) := bI_0.mp c40
          refine lv_iinc (v := (nI (k + 1))) (lv' := [(4, .int (nI (k + 1))), (0, .ref mo), (1, .int (nI a)), (2, .int (nI q)), (3, .int (nI e0))]) hx hb d_SM_limitPiece_31 hl (k := 0) rfl (nI_1 _) (by decide) rfl (fun ls hl => ?_)
          refine lv_goto (tgt := 8) hx hb d_SM_limitPiece_34 (by decide) ?_
          have hk1 : lnK (av 0) a q (k + 1) = lnK (av 0) a q k := pif_f c40n
          exact ih (k + 1) fj ls H locs (by omega) (by omega) (by rw [hk1]; exact hMj) hXj hw (lv_sub hl [0, 1, 2, 3, 4] rfl)
        · have c40n : (isw (av 0) a q (bytTx.getD k [])) := bI_n.mp c40
          refine lv_aload_n hx hb d_SM_limitPiece_25 rfl (lv_at hl 1 rfl) ?_
          refine lv_iload hx hb d_SM_limitPiece_26 (lv_at hl 0 rfl) ?_
          refine m_mput (sc' := (upd sc 15 (nI k))) hc hE hw hMj hXj l_SM_91_SM rfl ds_SM_25 rfl rfl rfl d_SM_limitPiece_28 (fun H locs f41 hM42 hX43 hw => ?_)
          refine lv_iinc (v := (nI (k + 1))) (lv' := [(4, .int (nI (k + 1))), (0, .ref mo), (1, .int (nI a)), (2, .int (nI q)), (3, .int (nI e0))]) hx hb d_SM_limitPiece_31 hl (k := 0) rfl (nI_1 _) (by decide) rfl (fun ls hl => ?_)
          refine lv_goto (tgt := 8) hx hb d_SM_limitPiece_34 (by decide) ?_
          have hk1 : lnK (av 0) a q (k + 1) = nI k := pif_t c40n
          exact ih (k + 1) f41 ls H locs (by omega) (by omega) (by rw [hk1]; exact hM42) hX43 hw (lv_sub hl [0, 1, 2, 3, 4] rfl)
  exact loopA 5 0 f21 ls H locs (by omega) (by omega) hM22 hX23 hw (lv_sub hl [0, 1, 2, 3, 4] rfl)
