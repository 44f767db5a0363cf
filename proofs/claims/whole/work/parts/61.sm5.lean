/-! links of the pools, as the walks ask for them -/
theorem l_SM_154_SM : lnk "StreamFiltersModel" 154 F_SM 38 17 := ⟨by decide, "StreamFiltersModel", Or.inl rfl, Or.inl (tb 631 (by decide +kernel) rfl)⟩
theorem l_SM_157_SM : lnk "StreamFiltersModel" 157 F_SM 38 18 := ⟨by decide, "StreamFiltersModel", Or.inl rfl, Or.inl (tb 632 (by decide +kernel) rfl)⟩
theorem l_SM_16_SM : lnk "StreamFiltersModel" 16 F_SM 38 5 := ⟨by decide, "StreamFiltersModel", Or.inl rfl, Or.inl (tb 619 (by decide +kernel) rfl)⟩
theorem l_SM_160_SM : lnk "StreamFiltersModel" 160 F_SM 38 19 := ⟨by decide, "StreamFiltersModel", Or.inl rfl, Or.inl (tb 633 (by decide +kernel) rfl)⟩
theorem l_SM_169_SM : lnk "StreamFiltersModel" 169 F_SM 38 21 := ⟨by decide, "StreamFiltersModel", Or.inl rfl, Or.inl (tb 635 (by decide +kernel) rfl)⟩
theorem l_SM_175_SM : lnk "StreamFiltersModel" 175 F_SM 38 20 := ⟨by decide, "StreamFiltersModel", Or.inl rfl, Or.inl (tb 634 (by decide +kernel) rfl)⟩
theorem l_SM_34_SM : lnk "StreamFiltersModel" 34 F_SM 38 12 := ⟨by decide, "StreamFiltersModel", Or.inl rfl, Or.inl (tb 626 (by decide +kernel) rfl)⟩
theorem l_SM_46_SM : lnk "StreamFiltersModel" 46 F_SM 38 22 := ⟨by decide, "StreamFiltersModel", Or.inl rfl, Or.inl (tb 636 (by decide +kernel) rfl)⟩
theorem cw_SM_163 : cwk "StreamFiltersModel" 163 y_SM_nameBegins b_SM_nameBegins 4 (some .boolean) 2 := ⟨Or.inl (tb 845 (by decide +kernel) rfl), (tb 848 (by decide +kernel) rfl), (tb 5 (by decide +kernel) rfl), by decide, by decide, by decide +kernel⟩
theorem cw_SM_172 : cwk "StreamFiltersModel" 172 y_SM_above b_SM_above 5 (some .boolean) 3 := ⟨Or.inl (tb 833 (by decide +kernel) rfl), (tb 836 (by decide +kernel) rfl), (tb 5 (by decide +kernel) rfl), by decide, by decide, by decide +kernel⟩
theorem cw_SM_178 : cwk "StreamFiltersModel" 178 y_SM_matches b_SM_matches 3 (some .boolean) 0 := ⟨Or.inl (tb 841 (by decide +kernel) rfl), (tb 844 (by decide +kernel) rfl), (tb 5 (by decide +kernel) rfl), by decide, by decide, by decide +kernel⟩
theorem se_SM_above : Cond.instanceMethod y_SM_above ∈ TB ∧ Cond.selects "StreamFiltersModel" y_SM_above y_SM_above ∈ TB := ⟨(tb 835 (by decide +kernel) rfl), (tbs 28 (by decide +kernel) rfl)⟩
theorem se_SM_matches : Cond.instanceMethod y_SM_matches ∈ TB ∧ Cond.selects "StreamFiltersModel" y_SM_matches y_SM_matches ∈ TB := ⟨(tb 843 (by decide +kernel) rfl), (tbs 30 (by decide +kernel) rfl)⟩
theorem se_SM_nameBegins : Cond.instanceMethod y_SM_nameBegins ∈ TB ∧ Cond.selects "StreamFiltersModel" y_SM_nameBegins y_SM_nameBegins ∈ TB := ⟨(tb 847 (by decide +kernel) rfl), (tbs 31 (by decide +kernel) rfl)⟩
/-! decode rows -/
theorem d_SM_askText_0 : decode b_SM_askText 0 = .ok (.aload_n 0, 1) := by decide +kernel
theorem d_SM_askText_1 : decode b_SM_askText 1 = .ok (.dup, 1) := by decide +kernel
theorem d_SM_askText_2 : decode b_SM_askText 2 = .ok (.getfield 169, 3) := by decide +kernel
theorem d_SM_askText_5 : decode b_SM_askText 5 = .ok (.iconst 1, 1) := by decide +kernel
theorem d_SM_askText_6 : decode b_SM_askText 6 = .ok (.iadd, 1) := by decide +kernel
theorem d_SM_askText_7 : decode b_SM_askText 7 = .ok (.putfield 169, 3) := by decide +kernel
theorem d_SM_askText_10 : decode b_SM_askText 10 = .ok (.aload_n 0, 1) := by decide +kernel
theorem d_SM_askText_11 : decode b_SM_askText 11 = .ok (.iload_n 1, 1) := by decide +kernel
theorem d_SM_askText_12 : decode b_SM_askText 12 = .ok (.iconst 0, 1) := by decide +kernel
theorem d_SM_askText_13 : decode b_SM_askText 13 = .ok (.aload_n 0, 1) := by decide +kernel
theorem d_SM_askText_14 : decode b_SM_askText 14 = .ok (.getfield 154, 3) := by decide +kernel
theorem d_SM_askText_17 : decode b_SM_askText 17 = .ok (.invokevirtual 172, 3) := by decide +kernel
theorem d_SM_askText_20 : decode b_SM_askText 20 = .ok (.ifCond .ne 29, 3) := by decide +kernel
theorem d_SM_askText_23 : decode b_SM_askText 23 = .ok (.aload_n 0, 1) := by decide +kernel
theorem d_SM_askText_24 : decode b_SM_askText 24 = .ok (.iload_n 1, 1) := by decide +kernel
theorem d_SM_askText_25 : decode b_SM_askText 25 = .ok (.iconst 1, 1) := by decide +kernel
theorem d_SM_askText_26 : decode b_SM_askText 26 = .ok (.aload_n 0, 1) := by decide +kernel
theorem d_SM_askText_27 : decode b_SM_askText 27 = .ok (.getfield 157, 3) := by decide +kernel
theorem d_SM_askText_30 : decode b_SM_askText 30 = .ok (.invokevirtual 172, 3) := by decide +kernel
theorem d_SM_askText_33 : decode b_SM_askText 33 = .ok (.ifCond .ne 16, 3) := by decide +kernel
theorem d_SM_askText_36 : decode b_SM_askText 36 = .ok (.aload_n 0, 1) := by decide +kernel
theorem d_SM_askText_37 : decode b_SM_askText 37 = .ok (.iload_n 1, 1) := by decide +kernel
theorem d_SM_askText_38 : decode b_SM_askText 38 = .ok (.iconst 2, 1) := by decide +kernel
theorem d_SM_askText_39 : decode b_SM_askText 39 = .ok (.aload_n 0, 1) := by decide +kernel
theorem d_SM_askText_40 : decode b_SM_askText 40 = .ok (.getfield 160, 3) := by decide +kernel
theorem d_SM_askText_43 : decode b_SM_askText 43 = .ok (.invokevirtual 172, 3) := by decide +kernel
theorem d_SM_askText_46 : decode b_SM_askText 46 = .ok (.ifCond .eq 5, 3) := by decide +kernel
theorem d_SM_askText_49 : decode b_SM_askText 49 = .ok (.iconst 2, 1) := by decide +kernel
theorem d_SM_askText_50 : decode b_SM_askText 50 = .ok (.ireturn, 1) := by decide +kernel
theorem d_SM_askText_51 : decode b_SM_askText 51 = .ok (.iload_n 2, 1) := by decide +kernel
theorem d_SM_askText_52 : decode b_SM_askText 52 = .ok (.ifCond .ne 5, 3) := by decide +kernel
theorem d_SM_askText_55 : decode b_SM_askText 55 = .ok (.iconst 0, 1) := by decide +kernel
theorem d_SM_askText_56 : decode b_SM_askText 56 = .ok (.ireturn, 1) := by decide +kernel
theorem d_SM_askText_57 : decode b_SM_askText 57 = .ok (.iload_n 3, 1) := by decide +kernel
theorem d_SM_askText_58 : decode b_SM_askText 58 = .ok (.ifCond .le 27, 3) := by decide +kernel
theorem d_SM_askText_61 : decode b_SM_askText 61 = .ok (.aload_n 0, 1) := by decide +kernel
theorem d_SM_askText_62 : decode b_SM_askText 62 = .ok (.iload_n 1, 1) := by decide +kernel
theorem d_SM_askText_63 : decode b_SM_askText 63 = .ok (.iconst 3, 1) := by decide +kernel
theorem d_SM_askText_64 : decode b_SM_askText 64 = .ok (.iload 4, 2) := by decide +kernel
theorem d_SM_askText_66 : decode b_SM_askText 66 = .ok (.invokevirtual 172, 3) := by decide +kernel
theorem d_SM_askText_69 : decode b_SM_askText 69 = .ok (.ifCond .eq 5, 3) := by decide +kernel
theorem d_SM_askText_72 : decode b_SM_askText 72 = .ok (.iconst 2, 1) := by decide +kernel
theorem d_SM_askText_73 : decode b_SM_askText 73 = .ok (.ireturn, 1) := by decide +kernel
theorem d_SM_askText_74 : decode b_SM_askText 74 = .ok (.aload_n 0, 1) := by decide +kernel
theorem d_SM_askText_75 : decode b_SM_askText 75 = .ok (.getfield 34, 3) := by decide +kernel
theorem d_SM_askText_78 : decode b_SM_askText 78 = .ok (.iload_n 1, 1) := by decide +kernel
theorem d_SM_askText_79 : decode b_SM_askText 79 = .ok (.iaload, 1) := by decide +kernel
theorem d_SM_askText_80 : decode b_SM_askText 80 = .ok (.ifCond .ne 5, 3) := by decide +kernel
theorem d_SM_askText_83 : decode b_SM_askText 83 = .ok (.iconst 0, 1) := by decide +kernel
theorem d_SM_askText_84 : decode b_SM_askText 84 = .ok (.ireturn, 1) := by decide +kernel
theorem d_SM_askText_85 : decode b_SM_askText 85 = .ok (.iload_n 2, 1) := by decide +kernel
theorem d_SM_askText_86 : decode b_SM_askText 86 = .ok (.iconst 2, 1) := by decide +kernel
theorem d_SM_askText_87 : decode b_SM_askText 87 = .ok (.if_icmp .ne 5, 3) := by decide +kernel
theorem d_SM_askText_90 : decode b_SM_askText 90 = .ok (.iconst 0, 1) := by decide +kernel
theorem d_SM_askText_91 : decode b_SM_askText 91 = .ok (.ireturn, 1) := by decide +kernel
theorem d_SM_askText_92 : decode b_SM_askText 92 = .ok (.iconst 0, 1) := by decide +kernel
theorem d_SM_askText_93 : decode b_SM_askText 93 = .ok (.istore 5, 2) := by decide +kernel
theorem d_SM_askText_95 : decode b_SM_askText 95 = .ok (.aload_n 0, 1) := by decide +kernel
theorem d_SM_askText_96 : decode b_SM_askText 96 = .ok (.getfield 28, 3) := by decide +kernel
theorem d_SM_askText_99 : decode b_SM_askText 99 = .ok (.iload_n 1, 1) := by decide +kernel
theorem d_SM_askText_100 : decode b_SM_askText 100 = .ok (.iaload, 1) := by decide +kernel
theorem d_SM_askText_101 : decode b_SM_askText 101 = .ok (.aload_n 0, 1) := by decide +kernel
theorem d_SM_askText_102 : decode b_SM_askText 102 = .ok (.getfield 31, 3) := by decide +kernel
theorem d_SM_askText_105 : decode b_SM_askText 105 = .ok (.iload_n 1, 1) := by decide +kernel
theorem d_SM_askText_106 : decode b_SM_askText 106 = .ok (.iaload, 1) := by decide +kernel
theorem d_SM_askText_107 : decode b_SM_askText 107 = .ok (.iadd, 1) := by decide +kernel
theorem d_SM_askText_108 : decode b_SM_askText 108 = .ok (.istore 6, 2) := by decide +kernel
theorem d_SM_askText_110 : decode b_SM_askText 110 = .ok (.aload_n 0, 1) := by decide +kernel
theorem d_SM_askText_111 : decode b_SM_askText 111 = .ok (.getfield 28, 3) := by decide +kernel
theorem d_SM_askText_114 : decode b_SM_askText 114 = .ok (.iload_n 1, 1) := by decide +kernel
theorem d_SM_askText_115 : decode b_SM_askText 115 = .ok (.iaload, 1) := by decide +kernel
theorem d_SM_askText_116 : decode b_SM_askText 116 = .ok (.istore 7, 2) := by decide +kernel
theorem d_SM_askText_118 : decode b_SM_askText 118 = .ok (.iload 7, 2) := by decide +kernel
theorem d_SM_askText_120 : decode b_SM_askText 120 = .ok (.iload 6, 2) := by decide +kernel
theorem d_SM_askText_122 : decode b_SM_askText 122 = .ok (.if_icmp .gt 65, 3) := by decide +kernel
theorem d_SM_askText_125 : decode b_SM_askText 125 = .ok (.aload_n 0, 1) := by decide +kernel
theorem d_SM_askText_126 : decode b_SM_askText 126 = .ok (.iload 7, 2) := by decide +kernel
theorem d_SM_askText_128 : decode b_SM_askText 128 = .ok (.iload 6, 2) := by decide +kernel
theorem d_SM_askText_130 : decode b_SM_askText 130 = .ok (.invokevirtual 133, 3) := by decide +kernel
theorem d_SM_askText_133 : decode b_SM_askText 133 = .ok (.iconst 2, 1) := by decide +kernel
theorem d_SM_askText_134 : decode b_SM_askText 134 = .ok (.if_icmp .ne 42, 3) := by decide +kernel
theorem d_SM_askText_137 : decode b_SM_askText 137 = .ok (.aload_n 0, 1) := by decide +kernel
theorem d_SM_askText_138 : decode b_SM_askText 138 = .ok (.dup, 1) := by decide +kernel
theorem d_SM_askText_139 : decode b_SM_askText 139 = .ok (.getfield 175, 3) := by decide +kernel
theorem d_SM_askText_142 : decode b_SM_askText 142 = .ok (.iconst 1, 1) := by decide +kernel
theorem d_SM_askText_143 : decode b_SM_askText 143 = .ok (.iadd, 1) := by decide +kernel
theorem d_SM_askText_144 : decode b_SM_askText 144 = .ok (.putfield 175, 3) := by decide +kernel
theorem d_SM_askText_147 : decode b_SM_askText 147 = .ok (.aload_n 0, 1) := by decide +kernel
theorem d_SM_askText_148 : decode b_SM_askText 148 = .ok (.invokevirtual 178, 3) := by decide +kernel
theorem d_SM_askText_151 : decode b_SM_askText 151 = .ok (.ifCond .eq 22, 3) := by decide +kernel
theorem d_SM_askText_154 : decode b_SM_askText 154 = .ok (.aload_n 0, 1) := by decide +kernel
theorem d_SM_askText_155 : decode b_SM_askText 155 = .ok (.iload 5, 2) := by decide +kernel
theorem d_SM_askText_157 : decode b_SM_askText 157 = .ok (.putfield 46, 3) := by decide +kernel
theorem d_SM_askText_160 : decode b_SM_askText 160 = .ok (.aload_n 0, 1) := by decide +kernel
theorem d_SM_askText_161 : decode b_SM_askText 161 = .ok (.getfield 114, 3) := by decide +kernel
theorem d_SM_askText_164 : decode b_SM_askText 164 = .ok (.ifCond .eq 7, 3) := by decide +kernel
theorem d_SM_askText_167 : decode b_SM_askText 167 = .ok (.iconst 2, 1) := by decide +kernel
theorem d_SM_askText_168 : decode b_SM_askText 168 = .ok (.goto 4, 3) := by decide +kernel
theorem d_SM_askText_171 : decode b_SM_askText 171 = .ok (.iconst 1, 1) := by decide +kernel
theorem d_SM_askText_172 : decode b_SM_askText 172 = .ok (.ireturn, 1) := by decide +kernel
theorem d_SM_askText_173 : decode b_SM_askText 173 = .ok (.iinc 5 1, 3) := by decide +kernel
theorem d_SM_askText_176 : decode b_SM_askText 176 = .ok (.aload_n 0, 1) := by decide +kernel
theorem d_SM_askText_177 : decode b_SM_askText 177 = .ok (.getfield 108, 3) := by decide +kernel
theorem d_SM_askText_180 : decode b_SM_askText 180 = .ok (.iconst 1, 1) := by decide +kernel
theorem d_SM_askText_181 : decode b_SM_askText 181 = .ok (.iadd, 1) := by decide +kernel
theorem d_SM_askText_182 : decode b_SM_askText 182 = .ok (.istore 7, 2) := by decide +kernel
theorem d_SM_askText_184 : decode b_SM_askText 184 = .ok (.goto (-66), 3) := by decide +kernel
theorem d_SM_askText_187 : decode b_SM_askText 187 = .ok (.iconst 0, 1) := by decide +kernel
theorem d_SM_askText_188 : decode b_SM_askText 188 = .ok (.ireturn, 1) := by decide +kernel
theorem d_SM_matches_0 : decode b_SM_matches 0 = .ok (.aload_n 0, 1) := by decide +kernel
theorem d_SM_matches_1 : decode b_SM_matches 1 = .ok (.getfield 127, 3) := by decide +kernel
theorem d_SM_matches_4 : decode b_SM_matches 4 = .ok (.aload_n 0, 1) := by decide +kernel
theorem d_SM_matches_5 : decode b_SM_matches 5 = .ok (.getfield 124, 3) := by decide +kernel
theorem d_SM_matches_8 : decode b_SM_matches 8 = .ok (.if_icmp .le 62, 3) := by decide +kernel
theorem d_SM_matches_11 : decode b_SM_matches 11 = .ok (.aload_n 0, 1) := by decide +kernel
theorem d_SM_matches_12 : decode b_SM_matches 12 = .ok (.getfield 127, 3) := by decide +kernel
theorem d_SM_matches_15 : decode b_SM_matches 15 = .ok (.aload_n 0, 1) := by decide +kernel
theorem d_SM_matches_16 : decode b_SM_matches 16 = .ok (.getfield 124, 3) := by decide +kernel
theorem d_SM_matches_19 : decode b_SM_matches 19 = .ok (.isub, 1) := by decide +kernel
theorem d_SM_matches_20 : decode b_SM_matches 20 = .ok (.aload_n 0, 1) := by decide +kernel
theorem d_SM_matches_21 : decode b_SM_matches 21 = .ok (.getfield 68, 3) := by decide +kernel
theorem d_SM_matches_24 : decode b_SM_matches 24 = .ok (.if_icmp .eq 5, 3) := by decide +kernel
theorem d_SM_matches_27 : decode b_SM_matches 27 = .ok (.iconst 0, 1) := by decide +kernel
theorem d_SM_matches_28 : decode b_SM_matches 28 = .ok (.ireturn, 1) := by decide +kernel
theorem d_SM_matches_29 : decode b_SM_matches 29 = .ok (.aload_n 0, 1) := by decide +kernel
theorem d_SM_matches_30 : decode b_SM_matches 30 = .ok (.getfield 124, 3) := by decide +kernel
theorem d_SM_matches_33 : decode b_SM_matches 33 = .ok (.istore_n 1, 1) := by decide +kernel
theorem d_SM_matches_34 : decode b_SM_matches 34 = .ok (.iload_n 1, 1) := by decide +kernel
theorem d_SM_matches_35 : decode b_SM_matches 35 = .ok (.aload_n 0, 1) := by decide +kernel
theorem d_SM_matches_36 : decode b_SM_matches 36 = .ok (.getfield 127, 3) := by decide +kernel
theorem d_SM_matches_39 : decode b_SM_matches 39 = .ok (.if_icmp .ge 31, 3) := by decide +kernel
theorem d_SM_matches_42 : decode b_SM_matches 42 = .ok (.aload_n 0, 1) := by decide +kernel
theorem d_SM_matches_43 : decode b_SM_matches 43 = .ok (.getfield 7, 3) := by decide +kernel
theorem d_SM_matches_46 : decode b_SM_matches 46 = .ok (.iload_n 1, 1) := by decide +kernel
theorem d_SM_matches_47 : decode b_SM_matches 47 = .ok (.iaload, 1) := by decide +kernel
theorem d_SM_matches_48 : decode b_SM_matches 48 = .ok (.aload_n 0, 1) := by decide +kernel
theorem d_SM_matches_49 : decode b_SM_matches 49 = .ok (.getfield 16, 3) := by decide +kernel
theorem d_SM_matches_52 : decode b_SM_matches 52 = .ok (.iload_n 1, 1) := by decide +kernel
theorem d_SM_matches_53 : decode b_SM_matches 53 = .ok (.aload_n 0, 1) := by decide +kernel
theorem d_SM_matches_54 : decode b_SM_matches 54 = .ok (.getfield 124, 3) := by decide +kernel
theorem d_SM_matches_57 : decode b_SM_matches 57 = .ok (.isub, 1) := by decide +kernel
theorem d_SM_matches_58 : decode b_SM_matches 58 = .ok (.iaload, 1) := by decide +kernel
theorem d_SM_matches_59 : decode b_SM_matches 59 = .ok (.if_icmp .eq 5, 3) := by decide +kernel
theorem d_SM_matches_62 : decode b_SM_matches 62 = .ok (.iconst 0, 1) := by decide +kernel
theorem d_SM_matches_63 : decode b_SM_matches 63 = .ok (.ireturn, 1) := by decide +kernel
theorem d_SM_matches_64 : decode b_SM_matches 64 = .ok (.iinc 1 1, 3) := by decide +kernel
theorem d_SM_matches_67 : decode b_SM_matches 67 = .ok (.goto (-33), 3) := by decide +kernel
theorem d_SM_matches_70 : decode b_SM_matches 70 = .ok (.aload_n 0, 1) := by decide +kernel
theorem d_SM_matches_71 : decode b_SM_matches 71 = .ok (.getfield 121, 3) := by decide +kernel
theorem d_SM_matches_74 : decode b_SM_matches 74 = .ok (.aload_n 0, 1) := by decide +kernel
theorem d_SM_matches_75 : decode b_SM_matches 75 = .ok (.getfield 118, 3) := by decide +kernel
theorem d_SM_matches_78 : decode b_SM_matches 78 = .ok (.isub, 1) := by decide +kernel
theorem d_SM_matches_79 : decode b_SM_matches 79 = .ok (.istore_n 1, 1) := by decide +kernel
theorem d_SM_matches_80 : decode b_SM_matches 80 = .ok (.aload_n 0, 1) := by decide +kernel
theorem d_SM_matches_81 : decode b_SM_matches 81 = .ok (.aload_n 0, 1) := by decide +kernel
theorem d_SM_matches_82 : decode b_SM_matches 82 = .ok (.getfield 118, 3) := by decide +kernel
theorem d_SM_matches_85 : decode b_SM_matches 85 = .ok (.aload_n 0, 1) := by decide +kernel
theorem d_SM_matches_86 : decode b_SM_matches 86 = .ok (.getfield 121, 3) := by decide +kernel
theorem d_SM_matches_89 : decode b_SM_matches 89 = .ok (.invokevirtual 163, 3) := by decide +kernel
theorem d_SM_matches_92 : decode b_SM_matches 92 = .ok (.ifCond .ne 5, 3) := by decide +kernel
theorem d_SM_matches_95 : decode b_SM_matches 95 = .ok (.iconst 0, 1) := by decide +kernel
theorem d_SM_matches_96 : decode b_SM_matches 96 = .ok (.ireturn, 1) := by decide +kernel
theorem d_SM_matches_97 : decode b_SM_matches 97 = .ok (.aload_n 0, 1) := by decide +kernel
theorem d_SM_matches_98 : decode b_SM_matches 98 = .ok (.getfield 130, 3) := by decide +kernel
theorem d_SM_matches_101 : decode b_SM_matches 101 = .ok (.ifCond .ne 17, 3) := by decide +kernel
theorem d_SM_matches_104 : decode b_SM_matches 104 = .ok (.aload_n 0, 1) := by decide +kernel
theorem d_SM_matches_105 : decode b_SM_matches 105 = .ok (.getfield 65, 3) := by decide +kernel
theorem d_SM_matches_108 : decode b_SM_matches 108 = .ok (.iload_n 1, 1) := by decide +kernel
theorem d_SM_matches_109 : decode b_SM_matches 109 = .ok (.if_icmp .ne 7, 3) := by decide +kernel
theorem d_SM_matches_112 : decode b_SM_matches 112 = .ok (.iconst 1, 1) := by decide +kernel
theorem d_SM_matches_113 : decode b_SM_matches 113 = .ok (.goto 4, 3) := by decide +kernel
theorem d_SM_matches_116 : decode b_SM_matches 116 = .ok (.iconst 0, 1) := by decide +kernel
theorem d_SM_matches_117 : decode b_SM_matches 117 = .ok (.ireturn, 1) := by decide +kernel
theorem d_SM_matches_118 : decode b_SM_matches 118 = .ok (.aload_n 0, 1) := by decide +kernel
theorem d_SM_matches_119 : decode b_SM_matches 119 = .ok (.getfield 130, 3) := by decide +kernel
theorem d_SM_matches_122 : decode b_SM_matches 122 = .ok (.iconst 1, 1) := by decide +kernel
theorem d_SM_matches_123 : decode b_SM_matches 123 = .ok (.if_icmp .le 5, 3) := by decide +kernel
theorem d_SM_matches_126 : decode b_SM_matches 126 = .ok (.iconst 1, 1) := by decide +kernel
theorem d_SM_matches_127 : decode b_SM_matches 127 = .ok (.ireturn, 1) := by decide +kernel
theorem d_SM_matches_128 : decode b_SM_matches 128 = .ok (.aload_n 0, 1) := by decide +kernel
theorem d_SM_matches_129 : decode b_SM_matches 129 = .ok (.getfield 65, 3) := by decide +kernel
theorem d_SM_matches_132 : decode b_SM_matches 132 = .ok (.iload_n 1, 1) := by decide +kernel
theorem d_SM_matches_133 : decode b_SM_matches 133 = .ok (.if_icmp .le 14, 3) := by decide +kernel
theorem d_SM_matches_136 : decode b_SM_matches 136 = .ok (.aload_n 0, 1) := by decide +kernel
theorem d_SM_matches_137 : decode b_SM_matches 137 = .ok (.getfield 13, 3) := by decide +kernel
theorem d_SM_matches_140 : decode b_SM_matches 140 = .ok (.iload_n 1, 1) := by decide +kernel
theorem d_SM_matches_141 : decode b_SM_matches 141 = .ok (.iaload, 1) := by decide +kernel
theorem d_SM_matches_142 : decode b_SM_matches 142 = .ok (.bipush 46, 2) := by decide +kernel
theorem d_SM_matches_144 : decode b_SM_matches 144 = .ok (.if_icmp .eq 5, 3) := by decide +kernel
theorem d_SM_matches_147 : decode b_SM_matches 147 = .ok (.iconst 0, 1) := by decide +kernel
theorem d_SM_matches_148 : decode b_SM_matches 148 = .ok (.ireturn, 1) := by decide +kernel
theorem d_SM_matches_149 : decode b_SM_matches 149 = .ok (.iload_n 1, 1) := by decide +kernel
theorem d_SM_matches_150 : decode b_SM_matches 150 = .ok (.iconst 1, 1) := by decide +kernel
theorem d_SM_matches_151 : decode b_SM_matches 151 = .ok (.iadd, 1) := by decide +kernel
theorem d_SM_matches_152 : decode b_SM_matches 152 = .ok (.istore_n 2, 1) := by decide +kernel
theorem d_SM_matches_153 : decode b_SM_matches 153 = .ok (.iload_n 2, 1) := by decide +kernel
theorem d_SM_matches_154 : decode b_SM_matches 154 = .ok (.aload_n 0, 1) := by decide +kernel
theorem d_SM_matches_155 : decode b_SM_matches 155 = .ok (.getfield 65, 3) := by decide +kernel
theorem d_SM_matches_158 : decode b_SM_matches 158 = .ok (.if_icmp .ge 22, 3) := by decide +kernel
theorem d_SM_matches_161 : decode b_SM_matches 161 = .ok (.aload_n 0, 1) := by decide +kernel
theorem d_SM_matches_162 : decode b_SM_matches 162 = .ok (.getfield 13, 3) := by decide +kernel
theorem d_SM_matches_165 : decode b_SM_matches 165 = .ok (.iload_n 2, 1) := by decide +kernel
theorem d_SM_matches_166 : decode b_SM_matches 166 = .ok (.iaload, 1) := by decide +kernel
theorem d_SM_matches_167 : decode b_SM_matches 167 = .ok (.bipush 46, 2) := by decide +kernel
theorem d_SM_matches_169 : decode b_SM_matches 169 = .ok (.if_icmp .ne 5, 3) := by decide +kernel
theorem d_SM_matches_172 : decode b_SM_matches 172 = .ok (.iconst 0, 1) := by decide +kernel
theorem d_SM_matches_173 : decode b_SM_matches 173 = .ok (.ireturn, 1) := by decide +kernel
theorem d_SM_matches_174 : decode b_SM_matches 174 = .ok (.iinc 2 1, 3) := by decide +kernel
theorem d_SM_matches_177 : decode b_SM_matches 177 = .ok (.goto (-24), 3) := by decide +kernel
theorem d_SM_matches_180 : decode b_SM_matches 180 = .ok (.iconst 1, 1) := by decide +kernel
theorem d_SM_matches_181 : decode b_SM_matches 181 = .ok (.ireturn, 1) := by decide +kernel
set_option maxHeartbeats 4000000 in
set_option maxRecDepth 100000 in
/-- matches -/
theorem c_SM_matches (G : GG) (l : Launch) (sz : Nat) (f : Wd) {mo : Nat} {ar : Nat → Nat} {sc : Nat → Int32} {av : Nat → Nat → Int32} (hM : Mw G mo ar sc av f) {M0 M1 Q0 QT sh nn mn : Nat} (h18 : sc 18 = nI M0) (h19 : sc 19 = nI M1) (h20 : sc 20 = nI Q0) (h21 : sc 21 = nI QT) (h22 : sc 22 = nI sh) (hnn : sc 2 = nI nn) (hmn : sc 3 = nI mn) (hm : M0 ≤ M1) (hm1 : M1 ≤ 4200) (hq : Q0 ≤ QT) (hqt : QT ≤ 4200) (hsh : sh ≤ 3) (hn : nn ≤ 40) (hmm : mn ≤ 12) : Ci G l y_SM_matches b_SM_matches 3 (some .boolean) ({ frames := 1, cells := 0, slots := 0, locals := 23 }) sz f [.ref mo] (fun v f' => f = f' ∧ v = bI (mtm (av 0) sh M0 M1 Q0 QT nn (av 1) mn (av 2))) := by
  refine ct_of (by decide) (Nat.le_of_ble_eq_true rfl) ?_
  intro p e s m below meth c ls H locs hEn
  obtain ⟨hc, hr, hlk, hin, hE, hw, hsz, hl⟩ := hEn
  have hx := hc.1
  have hb := hc.2.1
  have hl : lv_has ls 3 [(0, .ref mo)] := hl
  have hX : Mx mo ar f f := Mx.rf
  have J1 : ∀ (ls : Array Slot) (H : Heap) (locs : List Loc), (M0 < M1 → isp mn (av 2) (av 0) M0 M1) → ms G.1 (Af f sz) f s H locs → lv_has ls 3 [(0, .ref mo)] → W p l e ({ frames := 1, cells := 0, slots := 0, locals := 23 }) s m ([.ref mo] : List Value).toArray below meth c H locs 0 0 (MQ below (va_Qi (fun v f' => f = f' ∧ v = bI (mtm (av 0) sh M0 M1 Q0 QT nn (av 1) mn (av 2))) (Bw G f sz) (Af f sz)) ([.ref mo] : List Value).toArray s 0 0 (Af f sz)) (F0 m 70 ls []) := by
    intro  ls H locs hmod hw hl
    refine lv_aload_n hx hb d_SM_matches_70 rfl (lv_at hl 0 rfl) ?_
    refine m_mget (v := .int (sc 21)) hc hE hw hM l_SM_121_SM rfl d_SM_matches_71 ?_
    refine m_top (y := nI QT) h21 ?_
    refine lv_aload_n hx hb d_SM_matches_74 rfl (lv_at hl 0 rfl) ?_
    refine m_mget (v := .int (sc 20)) hc hE hw hM l_SM_118_SM rfl d_SM_matches_75 ?_
    refine m_top (y := nI Q0) h20 ?_
    refine lv_isub hx hb d_SM_matches_78 ?_
    refine m_top (y := (nI (QT - Q0))) (pk_sub (a := QT) (b := Q0) (by omega)) ?_
    refine lv_istore_n (lv' := [(1, .int (nI (QT - Q0))), (0, .ref mo)]) hx hb d_SM_matches_79 rfl hl (by decide) rfl (fun ls hl => ?_)
    refine lv_aload_n hx hb d_SM_matches_80 rfl (lv_at hl 1 rfl) ?_
    refine lv_aload_n hx hb d_SM_matches_81 rfl (lv_at hl 1 rfl) ?_
    refine m_mget (v := .int (sc 20)) hc hE hw hM l_SM_118_SM rfl d_SM_matches_82 ?_
    refine m_top (y := nI Q0) h20 ?_
    refine lv_aload_n hx hb d_SM_matches_85 rfl (lv_at hl 1 rfl) ?_
    refine m_mget (v := .int (sc 21)) hc hE hw hM l_SM_121_SM rfl d_SM_matches_86 ?_
    refine m_top (y := nI QT) h21 ?_
    refine m_calli hw (m_runV (As := [.int (nI Q0), .int (nI QT)]) (rest := []) hc hE hw (c_SM_nameBegins G l H.size f hM hq hqt hnn hn) hM.1 rfl cw_SM_163 se_SM_nameBegins rfl hl.1 rfl (Nat.le_of_ble_eq_true rfl) d_SM_matches_89 ⟨rfl, rfl, by decide, by decide⟩ ⟨by first | decide | (dsimp only; omega), by first | decide | (dsimp only; omega)⟩) (fun r23 g22 H locs p21 hw => ?_)
    obtain ⟨rfl, p21⟩ := p21
    subst p21
    refine lv_if_ne (tgt := 97) hx hb d_SM_matches_92 (by decide) (fun c24 => ?_) (fun c24 => ?_)
    · have c24n : (bgn nn (av 1) (av 0) Q0 QT) := bI_n.mp c24
      refine lv_aload_n hx hb d_SM_matches_97 rfl (lv_at hl 1 rfl) ?_
      refine m_mget (v := .int (sc 22)) hc hE hw hM l_SM_130_SM rfl d_SM_matches_98 ?_
      refine m_top (y := nI sh) h22 ?_
      refine lv_if_ne (tgt := 118) hx hb d_SM_matches_101 (by decide) (fun c25 => ?_) (fun c25 => ?_)
      · have c25n : ¬ (sh = 0) := fun z => c25 ((nI_eq (a := sh) (b := 0) (by omega) (by omega)).mpr z)
        refine lv_aload_n hx hb d_SM_matches_118 rfl (lv_at hl 1 rfl) ?_
        refine m_mget (v := .int (sc 22)) hc hE hw hM l_SM_130_SM rfl d_SM_matches_119 ?_
        refine m_top (y := nI sh) h22 ?_
        refine lv_iconst (v := 1) hx hb d_SM_matches_122 (by decide) ?_
        refine lv_icmp_le (tgt := 128) hx hb d_SM_matches_123 (by decide) (fun c26 => ?_) (fun c26 => ?_)
        · have c26n : sh ≤ 1 := (nI_leI (a := sh) (b := 1) (by omega) (by omega)).mp c26
          refine lv_aload_n hx hb d_SM_matches_128 rfl (lv_at hl 1 rfl) ?_
          refine m_mget (v := .int (sc 2)) hc hE hw hM l_SM_65_SM rfl d_SM_matches_129 ?_
          refine m_top (y := nI nn) hnn ?_
          refine lv_iload_n hx hb d_SM_matches_132 rfl (lv_at hl 0 rfl) ?_
          refine lv_icmp_le (tgt := 147) hx hb d_SM_matches_133 (by decide) (fun c27 => ?_) (fun c27 => ?_)
          · have c27n : nn ≤ (QT - Q0) := (nI_leI (a := nn) (b := (QT - Q0)) (by omega) (by omega)).mp c27
            refine lv_iconst (v := 0) hx hb d_SM_matches_147 (by decide) ?_
            exact m_zret hc hr hlk hw ⟨by first | decide | (dsimp only; omega), by first | decide | (dsimp only; omega)⟩ d_SM_matches_148 (by decide) ⟨rfl, (bI_f (fun z => absurd (z.2.2.2 (by omega)).1 (by omega))).symm⟩
          · have c27n : ¬ (nn ≤ (QT - Q0)) := fun z => c27 ((nI_leI (a := nn) (b := (QT - Q0)) (by omega) (by omega)).mpr z)
            refine lv_aload_n hx hb d_SM_matches_136 rfl (lv_at hl 1 rfl) ?_
            refine m_mget (v := .ref (ar 1)) hc hE hw hM l_SM_13_SM rfl d_SM_matches_137 ?_
            refine lv_iload_n hx hb d_SM_matches_140 rfl (lv_at hl 0 rfl) ?_
            refine m_mald (v := ((av 1) (QT - Q0))) hc hE hw hM (k := 1) (by decide) (vp_in_nI (N := 40) (by omega) (by decide)) (congrArg (av 1) (nI_clamp (n := (QT - Q0)) (by omega))) d_SM_matches_141 ?_
            refine lv_bipush (v := 46) hx hb d_SM_matches_142 (by decide) ?_
            refine lv_icmp_eq (tgt := 149) hx hb d_SM_matches_144 (by decide) (fun c28 => ?_) (fun c28 => ?_)
            · refine lv_iload_n hx hb d_SM_matches_149 rfl (lv_at hl 0 rfl) ?_
              refine lv_iconst (v := 1) hx hb d_SM_matches_150 (by decide) ?_
              refine lv_iadd hx hb d_SM_matches_151 ?_
              refine m_top (y := (nI ((QT - Q0) + 1))) (nI_add (QT - Q0) 1) ?_
              refine lv_istore_n (lv' := [(2, .int (nI ((QT - Q0) + 1))), (1, .int (nI (QT - Q0))), (0, .ref mo)]) hx hb d_SM_matches_152 rfl hl (by decide) rfl (fun ls hl => ?_)
              have hbg := c24n
              have hs1 : sh = 1 := by omega
              have hln : QT - Q0 < nn := by omega
              have hdt := c28
              have loop2 : ∀ (fu : Nat) (i : Nat) (ls : Array Slot) (H : Heap) (locs : List Loc), nn - i < fu → QT - Q0 + 1 ≤ i → i ≤ nn → (∀ k, QT - Q0 + 1 ≤ k → k < i → ¬ av 1 k = 46) → ms G.1 (Af f sz) f s H locs → lv_has ls 3 [(2, .int (nI i)), (0, .ref mo)] → W p l e ({ frames := 1, cells := 0, slots := 0, locals := 23 }) s m ([.ref mo] : List Value).toArray below meth c H locs 0 0 (MQ below (va_Qi (fun v f' => f = f' ∧ v = bI (mtm (av 0) sh M0 M1 Q0 QT nn (av 1) mn (av 2))) (Bw G f sz) (Af f sz)) ([.ref mo] : List Value).toArray s 0 0 (Af f sz)) (F0 m 153 ls []) := by
                intro fu
                induction fu with
                | zero => intro i ls H locs h0; exact absurd h0 (Nat.not_lt_zero _)
                | succ fu ih =>
                  intro i ls H locs hfu h1 h2 hno hw hl
                  refine lv_iload_n hx hb d_SM_matches_153 rfl (lv_at hl 0 rfl) ?_
                  refine lv_aload_n hx hb d_SM_matches_154 rfl (lv_at hl 1 rfl) ?_
                  refine m_mget (v := .int (sc 2)) hc hE hw hM l_SM_65_SM rfl d_SM_matches_155 ?_
                  refine m_top (y := nI nn) hnn ?_
                  refine lv_icmp_ge (tgt := 180) hx hb d_SM_matches_158 (by decide) (fun c29 => ?_) (fun c29 => ?_)
                  · have c29n : nn ≤ i := (nI_leI (a := nn) (b := i) (by omega) (by omega)).mp c29
                    refine lv_iconst (v := 1) hx hb d_SM_matches_180 (by decide) ?_
                    exact m_zret hc hr hlk hw ⟨by first | decide | (dsimp only; omega), by first | decide | (dsimp only; omega)⟩ d_SM_matches_181 (by decide) ⟨rfl, (bI_t ⟨hmod, hbg, fun z => absurd z (by omega), fun _ => ⟨hln, hdt, fun k q1 q2 => hno k q1 (by omega)⟩⟩).symm⟩
                  · have c29n : ¬ (nn ≤ i) := fun z => c29 ((nI_leI (a := nn) (b := i) (by omega) (by omega)).mpr z)
                    refine lv_aload_n hx hb d_SM_matches_161 rfl (lv_at hl 1 rfl) ?_
                    refine m_mget (v := .ref (ar 1)) hc hE hw hM l_SM_13_SM rfl d_SM_matches_162 ?_
                    refine lv_iload_n hx hb d_SM_matches_165 rfl (lv_at hl 0 rfl) ?_
                    refine m_mald (v := ((av 1) i)) hc hE hw hM (k := 1) (by decide) (vp_in_nI (N := 40) (by omega) (by decide)) (congrArg (av 1) (nI_clamp (n := i) (by omega))) d_SM_matches_166 ?_
                    refine lv_bipush (v := 46) hx hb d_SM_matches_167 (by decide) ?_
                    refine lv_icmp_ne (tgt := 174) hx hb d_SM_matches_169 (by decide) (fun c30 => ?_) (fun c30 => ?_)
                    · refine lv_iinc (v := (nI (i + 1))) (lv' := [(2, .int (nI (i + 1))), (0, .ref mo)]) hx hb d_SM_matches_174 hl (k := 0) rfl (nI_1 _) (by decide) rfl (fun ls hl => ?_)
                      refine lv_goto (tgt := 153) hx hb d_SM_matches_177 (by decide) ?_
                      exact ih (i + 1) ls H locs (by omega) (by omega) (by omega) (fun k q1 q2 => by rcases Nat.lt_or_ge k i with z | z; exact hno k q1 z; rw [show k = i by omega]; exact c30) hw (lv_sub hl [0, 1] rfl)
                    · refine lv_iconst (v := 0) hx hb d_SM_matches_172 (by decide) ?_
                      exact m_zret hc hr hlk hw ⟨by first | decide | (dsimp only; omega), by first | decide | (dsimp only; omega)⟩ d_SM_matches_173 (by decide) ⟨rfl, (bI_f (fun z => (z.2.2.2 hs1).2.2 i h1 (by omega) c30)).symm⟩
              exact loop2 (nn + 1) (QT - Q0 + 1) ls H locs (by omega) (Nat.le_refl _) (by omega) (fun k q1 q2 => absurd q1 (by omega)) hw (lv_sub hl [0, 2] rfl)
            · refine lv_iconst (v := 0) hx hb d_SM_matches_147 (by decide) ?_
              exact m_zret hc hr hlk hw ⟨by first | decide | (dsimp only; omega), by first | decide | (dsimp only; omega)⟩ d_SM_matches_148 (by decide) ⟨rfl, (bI_f (fun z => c28 (z.2.2.2 (by omega)).2.1)).symm⟩
        · have c26n : ¬ (sh ≤ 1) := fun z => c26 ((nI_leI (a := sh) (b := 1) (by omega) (by omega)).mpr z)
          refine lv_iconst (v := 1) hx hb d_SM_matches_126 (by decide) ?_
          exact m_zret hc hr hlk hw ⟨by first | decide | (dsimp only; omega), by first | decide | (dsimp only; omega)⟩ d_SM_matches_127 (by decide) ⟨rfl, (bI_t ⟨hmod, c24n, fun z => absurd z (by omega), fun z => absurd z (by omega)⟩).symm⟩
      · have c25n : sh = 0 := (nI_eq (a := sh) (b := 0) (by omega) (by omega)).mp c25
        refine lv_aload_n hx hb d_SM_matches_104 rfl (lv_at hl 1 rfl) ?_
        refine m_mget (v := .int (sc 2)) hc hE hw hM l_SM_65_SM rfl d_SM_matches_105 ?_
        refine m_top (y := nI nn) hnn ?_
        refine lv_iload_n hx hb d_SM_matches_108 rfl (lv_at hl 0 rfl) ?_
        refine lv_icmp_ne (tgt := 116) hx hb d_SM_matches_109 (by decide) (fun c31 => ?_) (fun c31 => ?_)
        · have c31n : ¬ (nn = (QT - Q0)) := fun z => c31 ((nI_eq (a := nn) (b := (QT - Q0)) (by omega) (by omega)).mpr z)
          refine lv_iconst (v := 0) hx hb d_SM_matches_116 (by decide) ?_
          exact m_zret hc hr hlk hw ⟨by first | decide | (dsimp only; omega), by first | decide | (dsimp only; omega)⟩ d_SM_matches_117 (by decide) ⟨rfl, (bI_f (fun z => absurd (z.2.2.1 (by omega)) (by omega))).symm⟩
        · have c31n : nn = (QT - Q0) := (nI_eq (a := nn) (b := (QT - Q0)) (by omega) (by omega)).mp c31
          refine lv_iconst (v := 1) hx hb d_SM_matches_112 (by decide) ?_
          refine lv_goto (tgt := 117) hx hb d_SM_matches_113 (by decide) ?_
          exact m_zret hc hr hlk hw ⟨by first | decide | (dsimp only; omega), by first | decide | (dsimp only; omega)⟩ d_SM_matches_117 (by decide) ⟨rfl, (bI_t ⟨hmod, c24n, fun _ => by omega, fun z => absurd z (by omega)⟩).symm⟩
    · have c24n : ¬ (bgn nn (av 1) (av 0) Q0 QT) := bI_0.mp c24
      refine lv_iconst (v := 0) hx hb d_SM_matches_95 (by decide) ?_
      exact m_zret hc hr hlk hw ⟨by first | decide | (dsimp only; omega), by first | decide | (dsimp only; omega)⟩ d_SM_matches_96 (by decide) ⟨rfl, (bI_f (fun z => c24n z.2.1)).symm⟩
  refine lv_aload_n hx hb d_SM_matches_0 rfl (lv_at hl 0 rfl) ?_
  refine m_mget (v := .int (sc 19)) hc hE hw hM l_SM_127_SM rfl d_SM_matches_1 ?_
  refine m_top (y := nI M1) h19 ?_
  refine lv_aload_n hx hb d_SM_matches_4 rfl (lv_at hl 0 rfl) ?_
  refine m_mget (v := .int (sc 18)) hc hE hw hM l_SM_124_SM rfl d_SM_matches_5 ?_
  refine m_top (y := nI M0) h18 ?_
  refine lv_icmp_le (tgt := 70) hx hb d_SM_matches_8 (by decide) (fun c32 => ?_) (fun c32 => ?_)
  · have c32n : M1 ≤ M0 := (nI_leI (a := M1) (b := M0) (by omega) (by omega)).mp c32
    exact J1 ls H locs (fun z => absurd z (by omega)) hw (lv_sub hl [0] rfl)
  · have c32n : ¬ (M1 ≤ M0) := fun z => c32 ((nI_leI (a := M1) (b := M0) (by omega) (by omega)).mpr z)
    refine lv_aload_n hx hb d_SM_matches_11 rfl (lv_at hl 0 rfl) ?_
    refine m_mget (v := .int (sc 19)) hc hE hw hM l_SM_127_SM rfl d_SM_matches_12 ?_
    refine m_top (y := nI M1) h19 ?_
    refine lv_aload_n hx hb d_SM_matches_15 rfl (lv_at hl 0 rfl) ?_
    refine m_mget (v := .int (sc 18)) hc hE hw hM l_SM_124_SM rfl d_SM_matches_16 ?_
    refine m_top (y := nI M0) h18 ?_
    refine lv_isub hx hb d_SM_matches_19 ?_
    refine m_top (y := (nI (M1 - M0))) (pk_sub (a := M1) (b := M0) (by omega)) ?_
    refine lv_aload_n hx hb d_SM_matches_20 rfl (lv_at hl 0 rfl) ?_
    refine m_mget (v := .int (sc 3)) hc hE hw hM l_SM_68_SM rfl d_SM_matches_21 ?_
    refine m_top (y := nI mn) hmn ?_
    refine lv_icmp_eq (tgt := 29) hx hb d_SM_matches_24 (by decide) (fun c33 => ?_) (fun c33 => ?_)
    · have c33n : (M1 - M0) = mn := (nI_eq (a := (M1 - M0)) (b := mn) (by omega) (by omega)).mp c33
      refine lv_aload_n hx hb d_SM_matches_29 rfl (lv_at hl 0 rfl) ?_
      refine m_mget (v := .int (sc 18)) hc hE hw hM l_SM_124_SM rfl d_SM_matches_30 ?_
      refine m_top (y := nI M0) h18 ?_
      refine lv_istore_n (lv' := [(1, .int (nI M0)), (0, .ref mo)]) hx hb d_SM_matches_33 rfl hl (by decide) rfl (fun ls hl => ?_)
      have hml : mn = M1 - M0 := by omega
      have loop : ∀ (fu : Nat) (i : Nat) (ls : Array Slot) (H : Heap) (locs : List Loc), M1 - i < fu → M0 ≤ i → i ≤ M1 → (∀ j, j < i - M0 → av 2 j = av 0 (M0 + j)) → ms G.1 (Af f sz) f s H locs → lv_has ls 3 [(1, .int (nI i)), (0, .ref mo)] → W p l e ({ frames := 1, cells := 0, slots := 0, locals := 23 }) s m ([.ref mo] : List Value).toArray below meth c H locs 0 0 (MQ below (va_Qi (fun v f' => f = f' ∧ v = bI (mtm (av 0) sh M0 M1 Q0 QT nn (av 1) mn (av 2))) (Bw G f sz) (Af f sz)) ([.ref mo] : List Value).toArray s 0 0 (Af f sz)) (F0 m 34 ls []) := by
        intro fu
        induction fu with
        | zero => intro i ls H locs h0; exact absurd h0 (Nat.not_lt_zero _)
        | succ fu ih =>
          intro i ls H locs hfu h1 h2 hok hw hl
          refine lv_iload_n hx hb d_SM_matches_34 rfl (lv_at hl 0 rfl) ?_
          refine lv_aload_n hx hb d_SM_matches_35 rfl (lv_at hl 1 rfl) ?_
          refine m_mget (v := .int (sc 19)) hc hE hw hM l_SM_127_SM rfl d_SM_matches_36 ?_
          refine m_top (y := nI M1) h19 ?_
          refine lv_icmp_ge (tgt := 70) hx hb d_SM_matches_39 (by decide) (fun c34 => ?_) (fun c34 => ?_)
          · have c34n : M1 ≤ i := (nI_leI (a := M1) (b := i) (by omega) (by omega)).mp c34
            exact J1 ls H locs (fun _ => ⟨hml, fun j hj => hok j (by omega)⟩) hw (lv_sub hl [1] rfl)
          · have c34n : ¬ (M1 ≤ i) := fun z => c34 ((nI_leI (a := M1) (b := i) (by omega) (by omega)).mpr z)
            refine lv_aload_n hx hb d_SM_matches_42 rfl (lv_at hl 1 rfl) ?_
            refine m_mget (v := .ref (ar 0)) hc hE hw hM l_SM_7_SM rfl d_SM_matches_43 ?_
            refine lv_iload_n hx hb d_SM_matches_46 rfl (lv_at hl 0 rfl) ?_
            refine m_mald (v := ((av 0) i)) hc hE hw hM (k := 0) (by decide) (vp_in_nI (N := 4200) (by omega) (by decide)) (congrArg (av 0) (nI_clamp (n := i) (by omega))) d_SM_matches_47 ?_
            refine lv_aload_n hx hb d_SM_matches_48 rfl (lv_at hl 1 rfl) ?_
            refine m_mget (v := .ref (ar 2)) hc hE hw hM l_SM_16_SM rfl d_SM_matches_49 ?_
            refine lv_iload_n hx hb d_SM_matches_52 rfl (lv_at hl 0 rfl) ?_
            refine lv_aload_n hx hb d_SM_matches_53 rfl (lv_at hl 1 rfl) ?_
            refine m_mget (v := .int (sc 18)) hc hE hw hM l_SM_124_SM rfl d_SM_matches_54 ?_
            refine m_top (y := nI M0) h18 ?_
            refine lv_isub hx hb d_SM_matches_57 ?_
            refine m_top (y := (nI (i - M0))) (pk_sub (a := i) (b := M0) (by omega)) ?_
            refine m_mald (v := ((av 2) (i - M0))) hc hE hw hM (k := 2) (by decide) (vp_in_nI (N := 12) (by omega) (by decide)) (congrArg (av 2) (nI_clamp (n := (i - M0)) (by omega))) d_SM_matches_58 ?_
            refine lv_icmp_eq (tgt := 64) hx hb d_SM_matches_59 (by decide) (fun c35 => ?_) (fun c35 => ?_)
            · refine lv_iinc (v := (nI (i + 1))) (lv' := [(1, .int (nI (i + 1))), (0, .ref mo)]) hx hb d_SM_matches_64 hl (k := 0) rfl (nI_1 _) (by decide) rfl (fun ls hl => ?_)
              refine lv_goto (tgt := 34) hx hb d_SM_matches_67 (by decide) ?_
              exact ih (i + 1) ls H locs (by omega) (by omega) (by omega) (fun j hj => by rcases Nat.lt_or_ge j (i - M0) with z | z; exact hok j z; rw [show j = i - M0 by omega, show M0 + (i - M0) = i by omega]; exact c35.symm) hw (lv_sub hl [0, 1] rfl)
            · refine lv_iconst (v := 0) hx hb d_SM_matches_62 (by decide) ?_
              exact m_zret hc hr hlk hw ⟨by first | decide | (dsimp only; omega), by first | decide | (dsimp only; omega)⟩ d_SM_matches_63 (by decide) ⟨rfl, (bI_f (fun z => c35 (by have := (z.1 (by omega)).2 (i - M0) (by omega); rw [show M0 + (i - M0) = i by omega] at this; exact this.symm))).symm⟩
      exact loop (M1 + 1) M0 ls H locs (by omega) (Nat.le_refl _) hm (fun j q => absurd q (by omega)) hw (lv_sub hl [0, 1] rfl)
    · have c33n : ¬ ((M1 - M0) = mn) := fun z => c33 ((nI_eq (a := (M1 - M0)) (b := mn) (by omega) (by omega)).mpr z)
      refine lv_iconst (v := 0) hx hb d_SM_matches_27 (by decide) ?_
      exact m_zret hc hr hlk hw ⟨by first | decide | (dsimp only; omega), by first | decide | (dsimp only; omega)⟩ d_SM_matches_28 (by decide) ⟨rfl, (bI_f (fun z => absurd (z.1 (by omega)).1 (by omega))).symm⟩

set_option maxHeartbeats 4000000 in
set_option maxRecDepth 100000 in
/-- askText -/
theorem c_SM_askText (G : GG) (l : Launch) (sz : Nat) (f : Wd) {mo : Nat} {ar : Nat → Nat} {sc : Nat → Int32} {av : Nat → Nat → Int32} (hM : Mw G mo ar sc av f) {b n : Nat} {t : Nat → Int32} (hA : agr (av 0) b t n) (hbn : b + n ≤ 4200) (hS : sgs (av 0) (b + n)) {nd : Nat} (hnd : nd < 520) (hta : av 6 nd = nI b) (htl : av 7 nd = nI n) {nn mn : Nat} (hnn : sc 2 = nI nn) (hmn : sc 3 = nI mn) (hn : nn ≤ 40) (hmm : mn ≤ 12) (so di le : Int32) : Ci G l y_SM_askText b_SM_askText 8 (some .int) ({ frames := 5, cells := 0, slots := 0, locals := 130 }) sz f [.ref mo, .int (nI nd), .int so, .int di, .int le] (fun v f' => ∃ sc' : Nat → Int32, Mw G mo ar sc' av f' ∧ Mx mo ar f f' ∧ (∀ k, k < 13 → k ≠ 8 → k ≠ 9 → k ≠ 10 → sc' k = sc k) ∧ (v, sc' 8, sc' 9, sc' 10) = anT (av 8 nd) (fun k => lmU t n (npc t n) k) (clsU t n (npc t n)).length (Mt t n) (Vt t n) (nn, av 1, mn, av 2, sc 5, sc 6, sc 7, so, di, le) (sc 8, sc 9, sc 10)) := by
  refine ct_of (by decide) (Nat.le_of_ble_eq_true rfl) ?_
  intro p e s m below meth c ls H locs hEn
  obtain ⟨hc, hr, hlk, hin, hE, hw, hsz, hl⟩ := hEn
  have hx := hc.1
  have hb := hc.2.1
  have hl : lv_has ls 8 [(0, .ref mo), (1, .int (nI nd)), (2, .int so), (3, .int di), (4, .int le)] := hl
  have hX : Mx mo ar f f := Mx.rf
  refine lv_aload_n hx hb d_SM_askText_0 rfl (lv_at hl 0 rfl) ?_
  refine lv_dup hx hb d_SM_askText_1 rfl ?_
  refine m_mget (v := .int (sc 9)) hc hE hw hM l_SM_169_SM rfl d_SM_askText_2 ?_
  refine lv_iconst (v := 1) hx hb d_SM_askText_5 (by decide) ?_
  refine lv_iadd hx hb d_SM_askText_6 ?_
  refine m_mput (sc' := (upd sc 9 ((sc 9) + 1))) hc hE hw hM hX l_SM_169_SM rfl ds_SM_21 rfl rfl rfl d_SM_askText_7 (fun H locs f21 hM22 hX23 hw => ?_)
  refine lv_aload_n hx hb d_SM_askText_10 rfl (lv_at hl 0 rfl) ?_
  refine lv_iload_n hx hb d_SM_askText_11 rfl (lv_at hl 1 rfl) ?_
  refine lv_iconst (v := 0) hx hb d_SM_askText_12 (by decide) ?_
  refine lv_aload_n hx hb d_SM_askText_13 rfl (lv_at hl 0 rfl) ?_
  refine m_mget (v := .int (sc 5)) hc hE hw hM22 l_SM_154_SM rfl d_SM_askText_14 ?_
  refine m_calli hw (m_runV (As := [.int (nI nd), .int 0, .int (sc 5)]) (rest := []) hc hE hw (c_SM_above G l H.size f21 hM22 hA hbn hS hnd hta htl 0 (sc 5)) hM22.1 rfl cw_SM_172 se_SM_above rfl hl.1 rfl (Nat.le_of_ble_eq_true rfl) d_SM_askText_17 ⟨rfl, rfl, by decide, by decide⟩ ⟨by first | decide | (dsimp only; omega), by first | decide | (dsimp only; omega)⟩) (fun r26 g25 H locs p24 hw => ?_)
  obtain ⟨sca, hMa, hXa, hfa, hva⟩ := p24
  subst hva
  have hXXa := hX23.tr hXa
  have hfra : ∀ j, j < 13 → j ≠ 9 → sca j = sc j := fun j hj h9 => (hfa j hj).trans ((fun j hj h9 => upd_ne' _ _ _ h9) j hj h9)
  refine lv_if_ne (tgt := 49) hx hb d_SM_askText_20 (by decide) (fun c27 => ?_) (fun c27 => ?_)
  · have c27n : (abv (sc 5) (lmU t n (npc t n) 0)) := bI_n.mp c27
    refine lv_iconst (v := 2) hx hb d_SM_askText_49 (by decide) ?_
    have h8 : sca 8 = sc 8 := (hfa 8 (by decide))
    have h9 : sca 9 = sc 9 + 1 := (hfa 9 (by decide))
    have h10 : sca 10 = sc 10 := (hfa 10 (by decide))
    exact m_iret hc hr hlk hw ⟨by first | decide | (dsimp only; omega), by first | decide | (dsimp only; omega)⟩ d_SM_askText_50 ⟨_, hMa, hXXa, fun j hj q8 q9 q10 => hfra j hj q9, by rw [anT_eq, h8, h9, h10, pif_t (Or.inl c27n)]⟩
  · have c27n : ¬ (abv (sc 5) (lmU t n (npc t n) 0)) := bI_0.mp c27
    refine lv_aload_n hx hb d_SM_askText_23 rfl (lv_at hl 0 rfl) ?_
    refine lv_iload_n hx hb d_SM_askText_24 rfl (lv_at hl 1 rfl) ?_
    refine lv_iconst (v := 1) hx hb d_SM_askText_25 (by decide) ?_
    refine lv_aload_n hx hb d_SM_askText_26 rfl (lv_at hl 0 rfl) ?_
    refine m_mget (v := .int (sca 6)) hc hE hw hMa l_SM_157_SM rfl d_SM_askText_27 ?_
    refine m_top (y := (sc 6)) (hfa 6 (by decide)) ?_
    refine m_calli hw (m_runV (As := [.int (nI nd), .int 1, .int (sc 6)]) (rest := []) hc hE hw (c_SM_above G l H.size g25 hMa hA hbn hS hnd hta htl 1 (sc 6)) hMa.1 rfl cw_SM_172 se_SM_above rfl hl.1 rfl (Nat.le_of_ble_eq_true rfl) d_SM_askText_30 ⟨rfl, rfl, by decide, by decide⟩ ⟨by first | decide | (dsimp only; omega), by first | decide | (dsimp only; omega)⟩) (fun r30 g29 H locs p28 hw => ?_)
    obtain ⟨scb, hMb, hXb, hfb, hvb⟩ := p28
    subst hvb
    have hXXb := hXXa.tr hXb
    have hfrb : ∀ j, j < 13 → j ≠ 9 → scb j = sc j := fun j hj h9 => (hfb j hj).trans (hfra j hj h9)
    refine lv_if_ne (tgt := 49) hx hb d_SM_askText_33 (by decide) (fun c31 => ?_) (fun c31 => ?_)
    · have c31n : (abv (sc 6) (lmU t n (npc t n) 1)) := bI_n.mp c31
      refine lv_iconst (v := 2) hx hb d_SM_askText_49 (by decide) ?_
      have h8 : scb 8 = sc 8 := ((hfb 8 (by decide)).trans (hfa 8 (by decide)))
      have h9 : scb 9 = sc 9 + 1 := ((hfb 9 (by decide)).trans (hfa 9 (by decide)))
      have h10 : scb 10 = sc 10 := ((hfb 10 (by decide)).trans (hfa 10 (by decide)))
      exact m_iret hc hr hlk hw ⟨by first | decide | (dsimp only; omega), by first | decide | (dsimp only; omega)⟩ d_SM_askText_50 ⟨_, hMb, hXXb, fun j hj q8 q9 q10 => hfrb j hj q9, by rw [anT_eq, h8, h9, h10, pif_t (Or.inr (Or.inl c31n))]⟩
    · have c31n : ¬ (abv (sc 6) (lmU t n (npc t n) 1)) := bI_0.mp c31
      refine lv_aload_n hx hb d_SM_askText_36 rfl (lv_at hl 0 rfl) ?_
      refine lv_iload_n hx hb d_SM_askText_37 rfl (lv_at hl 1 rfl) ?_
      refine lv_iconst (v := 2) hx hb d_SM_askText_38 (by decide) ?_
      refine lv_aload_n hx hb d_SM_askText_39 rfl (lv_at hl 0 rfl) ?_
      refine m_mget (v := .int (scb 7)) hc hE hw hMb l_SM_160_SM rfl d_SM_askText_40 ?_
      refine m_top (y := (sc 7)) ((hfb 7 (by decide)).trans (hfa 7 (by decide))) ?_
      refine m_calli hw (m_runV (As := [.int (nI nd), .int 2, .int (sc 7)]) (rest := []) hc hE hw (c_SM_above G l H.size g29 hMb hA hbn hS hnd hta htl 2 (sc 7)) hMb.1 rfl cw_SM_172 se_SM_above rfl hl.1 rfl (Nat.le_of_ble_eq_true rfl) d_SM_askText_43 ⟨rfl, rfl, by decide, by decide⟩ ⟨by first | decide | (dsimp only; omega), by first | decide | (dsimp only; omega)⟩) (fun r34 g33 H locs p32 hw => ?_)
      obtain ⟨scc, hMc, hXc, hfc, hvc⟩ := p32
      subst hvc
      have hXXc := hXXb.tr hXc
      have hfrc : ∀ j, j < 13 → j ≠ 9 → scc j = sc j := fun j hj h9 => (hfc j hj).trans (hfrb j hj h9)
      refine lv_if_eq (tgt := 51) hx hb d_SM_askText_46 (by decide) (fun c35 => ?_) (fun c35 => ?_)
      · have c35n : ¬ (abv (sc 7) (lmU t n (npc t n) 2)) := bI_0.mp c35
        refine lv_iload_n hx hb d_SM_askText_51 rfl (lv_at hl 2 rfl) ?_
        refine lv_if_ne (tgt := 57) hx hb d_SM_askText_52 (by decide) (fun c36 => ?_) (fun c36 => ?_)
        · refine lv_iload_n hx hb d_SM_askText_57 rfl (lv_at hl 3 rfl) ?_
          refine lv_if_le (tgt := 85) hx hb d_SM_askText_58 (by decide) (fun c37 => ?_) (fun c37 => ?_)
          · refine lv_iload_n hx hb d_SM_askText_85 rfl (lv_at hl 2 rfl) ?_
            refine lv_iconst (v := 2) hx hb d_SM_askText_86 (by decide) ?_
            refine lv_icmp_ne (tgt := 92) hx hb d_SM_askText_87 (by decide) (fun c38 => ?_) (fun c38 => ?_)
            · refine lv_iconst (v := 0) hx hb d_SM_askText_92 (by decide) ?_
              refine lv_istore (lv' := [(5, .int 0), (0, .ref mo), (1, .int (nI nd)), (2, .int so), (3, .int di), (4, .int le)]) hx hb d_SM_askText_93 hl (by decide) rfl (fun ls hl => ?_)
              refine lv_aload_n hx hb d_SM_askText_95 rfl (lv_at hl 1 rfl) ?_
              refine m_mget (v := .ref (ar 6)) hc hE hw hMc l_SM_28_SM rfl d_SM_askText_96 ?_
              refine lv_iload_n hx hb d_SM_askText_99 rfl (lv_at hl 2 rfl) ?_
              refine m_mald (v := (nI b)) hc hE hw hMc (k := 6) (by decide) (vp_in_nI (N := 520) (by omega) (by decide)) ((congrArg (av 6) (nI_clamp (n := nd) (by omega))).trans hta) d_SM_askText_100 ?_
              refine lv_aload_n hx hb d_SM_askText_101 rfl (lv_at hl 1 rfl) ?_
              refine m_mget (v := .ref (ar 7)) hc hE hw hMc l_SM_31_SM rfl d_SM_askText_102 ?_
              refine lv_iload_n hx hb d_SM_askText_105 rfl (lv_at hl 2 rfl) ?_
              refine m_mald (v := (nI n)) hc hE hw hMc (k := 7) (by decide) (vp_in_nI (N := 520) (by omega) (by decide)) ((congrArg (av 7) (nI_clamp (n := nd) (by omega))).trans htl) d_SM_askText_106 ?_
              refine lv_iadd hx hb d_SM_askText_107 ?_
              refine m_top (y := (nI (b + n))) (nI_add b n) ?_
              refine lv_istore (lv' := [(6, .int (nI (b + n))), (5, .int 0), (0, .ref mo), (1, .int (nI nd)), (2, .int so), (3, .int di), (4, .int le)]) hx hb d_SM_askText_108 hl (by decide) rfl (fun ls hl => ?_)
              refine lv_aload_n hx hb d_SM_askText_110 rfl (lv_at hl 2 rfl) ?_
              refine m_mget (v := .ref (ar 6)) hc hE hw hMc l_SM_28_SM rfl d_SM_askText_111 ?_
              refine lv_iload_n hx hb d_SM_askText_114 rfl (lv_at hl 3 rfl) ?_
              refine m_mald (v := (nI b)) hc hE hw hMc (k := 6) (by decide) (vp_in_nI (N := 520) (by omega) (by decide)) ((congrArg (av 6) (nI_clamp (n := nd) (by omega))).trans hta) d_SM_askText_115 ?_
              refine lv_istore (lv' := [(7, .int (nI b)), (6, .int (nI (b + n))), (5, .int 0), (0, .ref mo), (1, .int (nI nd)), (2, .int so), (3, .int di), (4, .int le)]) hx hb d_SM_askText_116 hl (by decide) rfl (fun ls hl => ?_)
              have hrest : anT (av 8 nd) (fun k => lmU t n (npc t n) k) (clsU t n (npc t n)).length (Mt t n) (Vt t n) (nn, av 1, mn, av 2, sc 5, sc 6, sc 7, so, di, le) (sc 8, sc 9, sc 10) = ((cmpP (fun i => Mt t n i nn (av 1) mn (av 2)) (Vt t n) (clsU t n (npc t n)).length 0 (sc 8) (sc 10)).1, (cmpP (fun i => Mt t n i nn (av 1) mn (av 2)) (Vt t n) (clsU t n (npc t n)).length 0 (sc 8) (sc 10)).2.1, sc 9 + 1, (cmpP (fun i => Mt t n i nn (av 1) mn (av 2)) (Vt t n) (clsU t n (npc t n)).length 0 (sc 8) (sc 10)).2.2) := by rw [anT_eq, pif_f (fun z => z.elim c27n (fun z => z.elim c31n c35n)), pif_f c36, pif_f (fun z => Int32.not_lt.mpr c37 z.1), pif_f (fun z => Int32.not_lt.mpr c37 z.1), pif_f c38]
              have hb9 : scc 9 = sc 9 + 1 := ((hfc 9 (by decide)).trans ((hfb 9 (by decide)).trans (hfa 9 (by decide))))
              have hb10 : scc 10 = sc 10 := ((hfc 10 (by decide)).trans ((hfb 10 (by decide)).trans (hfa 10 (by decide))))
              have hb8 : scc 8 = sc 8 := ((hfc 8 (by decide)).trans ((hfb 8 (by decide)).trans (hfa 8 (by decide))))
              have loop : ∀ (fu : Nat) (k : Nat) (scj : Nat → Int32) (fj : Wd) (c1 : Int32) (ls : Array Slot) (H : Heap) (locs : List Loc), npc t n - k < fu → k ≤ npc t n → Mw G mo ar scj av fj → Mx mo ar f fj → (∀ k, k < 13 → k ≠ 8 → k ≠ 10 → scj k = scc k) → scj 8 = c1 → cmpP (fun i => Mt t n i nn (av 1) mn (av 2)) (Vt t n) (clsU t n (npc t n)).length 0 (sc 8) (sc 10) = cmpP (fun i => Mt t n i nn (av 1) mn (av 2)) (Vt t n) ((clsU t n (npc t n)).length - (clsU t n k).length) (clsU t n k).length c1 (sc 10) → scj 10 = sc 10 → ms G.1 (Af f sz) fj s H locs → lv_has ls 8 [(5, .int (nI (clsU t n k).length)), (7, .int (nI (b + pst t n k))), (0, .ref mo), (6, .int (nI (b + n)))] → W p l e ({ frames := 5, cells := 0, slots := 0, locals := 130 }) s m ([.ref mo, .int (nI nd), .int so, .int di, .int le] : List Value).toArray below meth c H locs 0 0 (MQ below (va_Qi (fun v f' => ∃ sc' : Nat → Int32, Mw G mo ar sc' av f' ∧ Mx mo ar f f' ∧ (∀ k, k < 13 → k ≠ 8 → k ≠ 9 → k ≠ 10 → sc' k = sc k) ∧ (v, sc' 8, sc' 9, sc' 10) = anT (av 8 nd) (fun k => lmU t n (npc t n) k) (clsU t n (npc t n)).length (Mt t n) (Vt t n) (nn, av 1, mn, av 2, sc 5, sc 6, sc 7, so, di, le) (sc 8, sc 9, sc 10)) (Bw G f sz) (Af f sz)) ([.ref mo, .int (nI nd), .int so, .int di, .int le] : List Value).toArray s 0 0 (Af f sz)) (F0 m 118 ls []) := by
                intro fu
                induction fu with
                | zero => intro k scj fj c1 ls H locs h0; exact absurd h0 (Nat.not_lt_zero _)
                | succ fu ih =>
                  intro k scj fj c1 ls H locs hfu hk hMj hXj hfj h8j hinv h10j hw hl
                  have hpl := pst_le (t := t) (n := n) hk
                  refine lv_iload hx hb d_SM_askText_118 (lv_at hl 1 rfl) ?_
                  refine lv_iload hx hb d_SM_askText_120 (lv_at hl 3 rfl) ?_
                  refine lv_icmp_gt (tgt := 187) hx hb d_SM_askText_122 (by decide) (fun c39 => ?_) (fun c39 => ?_)
                  · have c39n : (b + n) < (b + pst t n k) := (nI_ltI (a := (b + n)) (b := (b + pst t n k)) (by omega) (by omega)).mp c39
                    refine lv_iconst (v := 0) hx hb d_SM_askText_187 (by decide) ?_
                    have hke : k = npc t n := pst_e hk (by omega)
                    rw [hke, Nat.sub_self] at hinv
                    exact m_iret hc hr hlk hw ⟨by first | decide | (dsimp only; omega), by first | decide | (dsimp only; omega)⟩ d_SM_askText_188 ⟨_, hMj, hXj, fun j hj q8 q9 q10 => (hfj j hj q8 q10).trans (hfrc j hj q9), by rw [hrest, hinv, h8j, hfj 9 (by decide) (by decide) (by decide), h10j, hb9]; rfl⟩
                  · have c39n : ¬ ((b + n) < (b + pst t n k)) := fun z => c39 ((nI_ltI (a := (b + n)) (b := (b + pst t n k)) (by omega) (by omega)).mpr z)
                    have hkn : k < npc t n := pst_k hk (by omega)
                    have hps := (pst_in (t := t) k hkn).1
                    have hpx := pnx_in (t := t) hps
                    refine lv_aload_n hx hb d_SM_askText_125 rfl (lv_at hl 2 rfl) ?_
                    refine lv_iload hx hb d_SM_askText_126 (lv_at hl 1 rfl) ?_
                    refine lv_iload hx hb d_SM_askText_128 (lv_at hl 3 rfl) ?_
                    refine m_calli hw (m_runV (As := [.int (nI (b + pst t n k)), .int (nI (b + n))]) (rest := []) hc hE hw (c_SM_piece G l H.size fj hMj (a := b + pst t n k) (E0 := b + n) (e0 := b + pnx t n (pst t n k)) (by omega) hbn hS (pnx_sh hA hps).symm) hMj.1 rfl cw_SM_133 se_SM_piece rfl hl.1 rfl (Nat.le_of_ble_eq_true rfl) d_SM_askText_130 ⟨rfl, rfl, by decide, by decide⟩ ⟨by first | decide | (dsimp only; omega), by first | decide | (dsimp only; omega)⟩) (fun r43 g42 H locs p41 hw => ?_)
                    obtain ⟨scz40, hMz40, hXz40, hfz40, hvz40, hpcz40⟩ := p41
                    replace hpcz40 := pcr_of hA hpx.1 hpx.2 hpcz40
                    replace hvz40 : r43 = nI (pk t n k) := hvz40.trans (congrArg nI (pkd_sh hA hpx.1 hpx.2))
                    subst hvz40
                    have hpkl := pkd_in t (pst t n k) (pnx t n (pst t n k))
                    change pk t n k ≤ 3 at hpkl
                    have hXXz40 := hXj.tr hXz40
                    refine lv_iconst (v := 2) hx hb d_SM_askText_133 (by decide) ?_
                    refine lv_icmp_ne (tgt := 176) hx hb d_SM_askText_134 (by decide) (fun c44 => ?_) (fun c44 => ?_)
                    · have c44n : ¬ ((pk t n k) = 2) := fun z => c44 ((nI_eq (a := (pk t n k)) (b := 2) (by omega) (by omega)).mpr z)
                      refine lv_aload_n hx hb d_SM_askText_176 rfl (lv_at hl 2 rfl) ?_
                      refine m_mget (v := .int (scz40 14)) hc hE hw hMz40 l_SM_108_SM rfl d_SM_askText_177 ?_
                      refine m_top (y := nI (b + pnx t n (pst t n k))) hpcz40.1 ?_
                      refine lv_iconst (v := 1) hx hb d_SM_askText_180 (by decide) ?_
                      refine lv_iadd hx hb d_SM_askText_181 ?_
                      refine m_top (y := (nI ((b + pnx t n (pst t n k)) + 1))) (nI_add (b + pnx t n (pst t n k)) 1) ?_
                      refine lv_istore (lv' := [(7, .int (nI ((b + pnx t n (pst t n k)) + 1))), (5, .int (nI (clsU t n k).length)), (0, .ref mo), (6, .int (nI (b + n)))]) hx hb d_SM_askText_182 hl (by decide) rfl (fun ls hl => ?_)
                      refine lv_goto (tgt := 118) hx hb d_SM_askText_184 (by decide) ?_
                      have hcl : clsU t n (k + 1) = clsU t n k := pif_f c44n
                      have h8n : scz40 8 = c1 := ((hfz40 8 (by decide)).trans h8j)
                      have h10n := (hfz40 10 (by decide)).trans h10j
                      exact ih (k + 1) scz40 g42 c1 ls H locs (by omega) (by omega) hMz40 hXXz40 (fun j hj q8 q10 => (hfz40 j hj).trans (hfj j hj q8 q10)) h8n (by rw [hcl]; exact hinv) h10n hw (by rw [hcl]; exact (lv_sub hl [1, 0, 2, 3] rfl))
                    · have c44n : (pk t n k) = 2 := (nI_eq (a := (pk t n k)) (b := 2) (by omega) (by omega)).mp c44
                      have hcx := cxi_at hkn c44n
                      have hae := pkd_ne (t := t) hpx.1 (show ¬ pkd t (pst t n k) (pnx t n (pst t n k)) = 0 from fun z => absurd (c44n.symm.trans z) (by decide))
                      have hp2 := hpcz40.2.2 c44n
                      have hq0 := q0c_in (t := t) hae
                      have hqi := qtm_in (t := t) hq0.2.1
                      refine lv_aload_n hx hb d_SM_askText_137 rfl (lv_at hl 2 rfl) ?_
                      refine lv_dup hx hb d_SM_askText_138 rfl ?_
                      refine m_mget (v := .int (scz40 8)) hc hE hw hMz40 l_SM_175_SM rfl d_SM_askText_139 ?_
                      refine m_top (y := c1) ((hfz40 8 (by decide)).trans h8j) ?_
                      refine lv_iconst (v := 1) hx hb d_SM_askText_142 (by decide) ?_
                      refine lv_iadd hx hb d_SM_askText_143 ?_
                      refine m_mput (sc' := (upd scz40 8 (c1 + 1))) hc hE hw hMz40 hXXz40 l_SM_175_SM rfl ds_SM_20 rfl rfl rfl d_SM_askText_144 (fun H locs f45 hM46 hX47 hw => ?_)
                      refine lv_aload_n hx hb d_SM_askText_147 rfl (lv_at hl 2 rfl) ?_
                      refine m_calli hw (m_runV (As := []) (rest := []) hc hE hw (c_SM_matches G l H.size f45 hM46 hp2.2.1 hp2.2.2.1 hp2.2.2.2.1 hp2.2.2.2.2.1 hp2.2.2.2.2.2 ((hfz40 2 (by decide)).trans ((hfj 2 (by decide) (by decide) (by decide)).trans ((hfc 2 (by decide)).trans ((hfb 2 (by decide)).trans ((hfa 2 (by decide)).trans hnn))))) ((hfz40 3 (by decide)).trans ((hfj 3 (by decide) (by decide) (by decide)).trans ((hfc 3 (by decide)).trans ((hfb 3 (by decide)).trans ((hfa 3 (by decide)).trans hmn))))) (by omega) (by omega) (by omega) (by omega) (shp_in _ _ _) hn hmm) hM46.1 rfl cw_SM_178 se_SM_matches rfl hl.1 rfl (Nat.le_of_ble_eq_true rfl) d_SM_askText_148 ⟨rfl, rfl, by decide, by decide⟩ ⟨by first | decide | (dsimp only; omega), by first | decide | (dsimp only; omega)⟩) (fun r50 g49 H locs p48 hw => ?_)
                      obtain ⟨rfl, p48⟩ := p48
                      have hMt : Mt t n (clsU t n k).length nn (av 1) mn (av 2) ↔ mtm (av 0) (shp t (q0c t (pst t n k) (pnx t n (pst t n k))) (pnx t n (pst t n k))) (b + m0c t (pst t n k)) (b + m1c t (pst t n k) (pnx t n (pst t n k))) (b + q0c t (pst t n k) (pnx t n (pst t n k))) (b + qtm t (q0c t (pst t n k) (pnx t n (pst t n k))) (pnx t n (pst t n k))) nn (av 1) mn (av 2) := by unfold Mt; rw [hcx.1]; exact (mtm_mat (nn := nn) (mn := mn) (nt := av 1) (mt := av 2) hA (show m1c t (pst t n k) (pnx t n (pst t n k)) ≤ n by omega) hq0.2.1 hpx.2).symm
                      rw [← bI_c hMt] at p48
                      subst p48
                      refine lv_if_eq (tgt := 173) hx hb d_SM_askText_151 (by decide) (fun c51 => ?_) (fun c51 => ?_)
                      · have c51n : ¬ (Mt t n (clsU t n k).length nn (av 1) mn (av 2)) := bI_0.mp c51
                        refine lv_iinc (v := (nI ((clsU t n k).length + 1))) (lv' := [(5, .int (nI ((clsU t n k).length + 1))), (7, .int (nI (b + pst t n k))), (0, .ref mo), (6, .int (nI (b + n)))]) hx hb d_SM_askText_173 hl (k := 0) rfl (nI_1 _) (by decide) rfl (fun ls hl => ?_)
                        refine lv_aload_n hx hb d_SM_askText_176 rfl (lv_at hl 2 rfl) ?_
                        refine m_mget (v := .int (scz40 14)) hc hE hw hM46 l_SM_108_SM rfl d_SM_askText_177 ?_
                        refine m_top (y := nI (b + pnx t n (pst t n k))) hpcz40.1 ?_
                        refine lv_iconst (v := 1) hx hb d_SM_askText_180 (by decide) ?_
                        refine lv_iadd hx hb d_SM_askText_181 ?_
                        refine m_top (y := (nI ((b + pnx t n (pst t n k)) + 1))) (nI_add (b + pnx t n (pst t n k)) 1) ?_
                        refine lv_istore (lv' := [(7, .int (nI ((b + pnx t n (pst t n k)) + 1))), (5, .int (nI ((clsU t n k).length + 1))), (0, .ref mo), (6, .int (nI (b + n)))]) hx hb d_SM_askText_182 hl (by decide) rfl (fun ls hl => ?_)
                        refine lv_goto (tgt := 118) hx hb d_SM_askText_184 (by decide) ?_
                        have hcl : (clsU t n (k + 1)).length = (clsU t n k).length + 1 := by rw [show clsU t n (k + 1) = clsU t n k ++ [k] from pif_t c44n, List.length_append]; rfl
                        have h10n := (hfz40 10 (by decide)).trans h10j
                        exact ih (k + 1) (upd scz40 8 (c1 + 1)) f45 (c1 + 1) ls H locs (by omega) (by omega) hM46 hX47 (fun j hj q8 q10 => (upd_ne' _ _ _ q8).trans ((hfz40 j hj).trans (hfj j hj q8 q10))) rfl (by rw [hcl]; exact hinv.trans ((cmpP_s hcx.2).trans (pif_f c51n))) h10n hw (by rw [hcl]; exact (lv_sub hl [1, 0, 2, 3] rfl))
                      · have c51n : (Mt t n (clsU t n k).length nn (av 1) mn (av 2)) := bI_n.mp c51
                        refine lv_aload_n hx hb d_SM_askText_154 rfl (lv_at hl 2 rfl) ?_
                        refine lv_iload hx hb d_SM_askText_155 (lv_at hl 0 rfl) ?_
                        refine m_mput (sc' := (upd (upd scz40 8 (c1 + 1)) 10 (nI (clsU t n k).length))) hc hE hw hM46 hX47 l_SM_46_SM rfl ds_SM_22 rfl rfl rfl d_SM_askText_157 (fun H locs f52 hM53 hX54 hw => ?_)
                        refine lv_aload_n hx hb d_SM_askText_160 rfl (lv_at hl 2 rfl) ?_
                        refine m_mget (v := .int (scz40 17)) hc hE hw hM53 l_SM_114_SM rfl d_SM_askText_161 ?_
                        refine m_top (y := (bI (t (pst t n k) = 33))) hp2.1 ?_
                        refine lv_if_eq (tgt := 171) hx hb d_SM_askText_164 (by decide) (fun c55 => ?_) (fun c55 => ?_)
                        · have c55n : ¬ (t (pst t n k) = 33) := bI_0.mp c55
                          refine lv_iconst (v := 1) hx hb d_SM_askText_171 (by decide) ?_
                          have hV : Vt t n (clsU t n k).length = 1 := by unfold Vt; rw [hcx.1]; exact vdc_0 c55
                          have hcm := hinv.trans ((cmpP_s hcx.2).trans (pif_t c51n))
                          have hb9z := (hfz40 9 (by decide)).trans ((hfj 9 (by decide) (by decide) (by decide)).trans hb9)
                          exact m_iret hc hr hlk hw ⟨by first | decide | (dsimp only; omega), by first | decide | (dsimp only; omega)⟩ d_SM_askText_172 ⟨_, hM53, hX54, fun j hj q8 q9 q10 => (upd_ne' _ _ _ q10).trans ((upd_ne' _ _ _ q8).trans ((hfz40 j hj).trans ((hfj j hj q8 q10).trans (hfrc j hj q9)))), by rw [hrest, hcm, hV]; exact congrArg (fun z => (_, _, z, _)) hb9z⟩
                        · have c55n : (t (pst t n k) = 33) := bI_n.mp c55
                          refine lv_iconst (v := 2) hx hb d_SM_askText_167 (by decide) ?_
                          refine lv_goto (tgt := 172) hx hb d_SM_askText_168 (by decide) ?_
                          have hV : Vt t n (clsU t n k).length = 2 := by unfold Vt; rw [hcx.1]; exact vdc_n c55
                          have hcm := hinv.trans ((cmpP_s hcx.2).trans (pif_t c51n))
                          have hb9z := (hfz40 9 (by decide)).trans ((hfj 9 (by decide) (by decide) (by decide)).trans hb9)
                          exact m_iret hc hr hlk hw ⟨by first | decide | (dsimp only; omega), by first | decide | (dsimp only; omega)⟩ d_SM_askText_172 ⟨_, hM53, hX54, fun j hj q8 q9 q10 => (upd_ne' _ _ _ q10).trans ((upd_ne' _ _ _ q8).trans ((hfz40 j hj).trans ((hfj j hj q8 q10).trans (hfrc j hj q9)))), by rw [hrest, hcm, hV]; exact congrArg (fun z => (_, _, z, _)) hb9z⟩
              exact loop (npc t n + 1) 0 scc g33 (sc 8) ls H locs (by omega) (Nat.zero_le _) hMc hXXc (fun _ _ _ _ => rfl) hb8 rfl hb10 hw (lv_sub hl [2, 0, 3, 1] rfl)
            · refine lv_iconst (v := 0) hx hb d_SM_askText_90 (by decide) ?_
              have h8 : scc 8 = sc 8 := ((hfc 8 (by decide)).trans ((hfb 8 (by decide)).trans (hfa 8 (by decide))))
              have h9 : scc 9 = sc 9 + 1 := ((hfc 9 (by decide)).trans ((hfb 9 (by decide)).trans (hfa 9 (by decide))))
              have h10 : scc 10 = sc 10 := ((hfc 10 (by decide)).trans ((hfb 10 (by decide)).trans (hfa 10 (by decide))))
              exact m_iret hc hr hlk hw ⟨by first | decide | (dsimp only; omega), by first | decide | (dsimp only; omega)⟩ d_SM_askText_91 ⟨_, hMc, hXXc, fun j hj q8 q9 q10 => hfrc j hj q9, by rw [anT_eq, h8, h9, h10, pif_f (fun z => z.elim c27n (fun z => z.elim c31n c35n)), pif_f c36, pif_f (fun z => Int32.not_lt.mpr c37 z.1), pif_f (fun z => Int32.not_lt.mpr c37 z.1), pif_t c38]⟩
          · refine lv_aload_n hx hb d_SM_askText_61 rfl (lv_at hl 0 rfl) ?_
            refine lv_iload_n hx hb d_SM_askText_62 rfl (lv_at hl 1 rfl) ?_
            refine lv_iconst (v := 3) hx hb d_SM_askText_63 (by decide) ?_
            refine lv_iload hx hb d_SM_askText_64 (lv_at hl 4 rfl) ?_
            refine m_calli hw (m_runV (As := [.int (nI nd), .int 3, .int le]) (rest := []) hc hE hw (c_SM_above G l H.size g33 hMc hA hbn hS hnd hta htl 3 le) hMc.1 rfl cw_SM_172 se_SM_above rfl hl.1 rfl (Nat.le_of_ble_eq_true rfl) d_SM_askText_66 ⟨rfl, rfl, by decide, by decide⟩ ⟨by first | decide | (dsimp only; omega), by first | decide | (dsimp only; omega)⟩) (fun r58 g57 H locs p56 hw => ?_)
            obtain ⟨scd, hMd, hXd, hfd, hvd⟩ := p56
            subst hvd
            have hXXd := hXXc.tr hXd
            have hfrd : ∀ j, j < 13 → j ≠ 9 → scd j = sc j := fun j hj h9 => (hfd j hj).trans (hfrc j hj h9)
            refine lv_if_eq (tgt := 74) hx hb d_SM_askText_69 (by decide) (fun c59 => ?_) (fun c59 => ?_)
            · have c59n : ¬ (abv le (lmU t n (npc t n) 3)) := bI_0.mp c59
              refine lv_aload_n hx hb d_SM_askText_74 rfl (lv_at hl 0 rfl) ?_
              refine m_mget (v := .ref (ar 8)) hc hE hw hMd l_SM_34_SM rfl d_SM_askText_75 ?_
              refine lv_iload_n hx hb d_SM_askText_78 rfl (lv_at hl 1 rfl) ?_
              refine m_mald (v := ((av 8) nd)) hc hE hw hMd (k := 8) (by decide) (vp_in_nI (N := 520) (by omega) (by decide)) ((congrArg (av 8) (nI_clamp (n := nd) (by omega))).trans rfl) d_SM_askText_79 ?_
              refine lv_if_ne (tgt := 85) hx hb d_SM_askText_80 (by decide) (fun c60 => ?_) (fun c60 => ?_)
              · refine lv_iload_n hx hb d_SM_askText_85 rfl (lv_at hl 2 rfl) ?_
                refine lv_iconst (v := 2) hx hb d_SM_askText_86 (by decide) ?_
                refine lv_icmp_ne (tgt := 92) hx hb d_SM_askText_87 (by decide) (fun c61 => ?_) (fun c61 => ?_)
                · refine lv_iconst (v := 0) hx hb d_SM_askText_92 (by decide) ?_
                  refine lv_istore (lv' := [(5, .int 0), (0, .ref mo), (1, .int (nI nd)), (2, .int so), (3, .int di), (4, .int le)]) hx hb d_SM_askText_93 hl (by decide) rfl (fun ls hl => ?_)
                  refine lv_aload_n hx hb d_SM_askText_95 rfl (lv_at hl 1 rfl) ?_
                  refine m_mget (v := .ref (ar 6)) hc hE hw hMd l_SM_28_SM rfl d_SM_askText_96 ?_
                  refine lv_iload_n hx hb d_SM_askText_99 rfl (lv_at hl 2 rfl) ?_
                  refine m_mald (v := (nI b)) hc hE hw hMd (k := 6) (by decide) (vp_in_nI (N := 520) (by omega) (by decide)) ((congrArg (av 6) (nI_clamp (n := nd) (by omega))).trans hta) d_SM_askText_100 ?_
                  refine lv_aload_n hx hb d_SM_askText_101 rfl (lv_at hl 1 rfl) ?_
                  refine m_mget (v := .ref (ar 7)) hc hE hw hMd l_SM_31_SM rfl d_SM_askText_102 ?_
                  refine lv_iload_n hx hb d_SM_askText_105 rfl (lv_at hl 2 rfl) ?_
                  refine m_mald (v := (nI n)) hc hE hw hMd (k := 7) (by decide) (vp_in_nI (N := 520) (by omega) (by decide)) ((congrArg (av 7) (nI_clamp (n := nd) (by omega))).trans htl) d_SM_askText_106 ?_
                  refine lv_iadd hx hb d_SM_askText_107 ?_
                  refine m_top (y := (nI (b + n))) (nI_add b n) ?_
                  refine lv_istore (lv' := [(6, .int (nI (b + n))), (5, .int 0), (0, .ref mo), (1, .int (nI nd)), (2, .int so), (3, .int di), (4, .int le)]) hx hb d_SM_askText_108 hl (by decide) rfl (fun ls hl => ?_)
                  refine lv_aload_n hx hb d_SM_askText_110 rfl (lv_at hl 2 rfl) ?_
                  refine m_mget (v := .ref (ar 6)) hc hE hw hMd l_SM_28_SM rfl d_SM_askText_111 ?_
                  refine lv_iload_n hx hb d_SM_askText_114 rfl (lv_at hl 3 rfl) ?_
                  refine m_mald (v := (nI b)) hc hE hw hMd (k := 6) (by decide) (vp_in_nI (N := 520) (by omega) (by decide)) ((congrArg (av 6) (nI_clamp (n := nd) (by omega))).trans hta) d_SM_askText_115 ?_
                  refine lv_istore (lv' := [(7, .int (nI b)), (6, .int (nI (b + n))), (5, .int 0), (0, .ref mo), (1, .int (nI nd)), (2, .int so), (3, .int di), (4, .int le)]) hx hb d_SM_askText_116 hl (by decide) rfl (fun ls hl => ?_)
                  have hrest : anT (av 8 nd) (fun k => lmU t n (npc t n) k) (clsU t n (npc t n)).length (Mt t n) (Vt t n) (nn, av 1, mn, av 2, sc 5, sc 6, sc 7, so, di, le) (sc 8, sc 9, sc 10) = ((cmpP (fun i => Mt t n i nn (av 1) mn (av 2)) (Vt t n) (clsU t n (npc t n)).length 0 (sc 8) (sc 10)).1, (cmpP (fun i => Mt t n i nn (av 1) mn (av 2)) (Vt t n) (clsU t n (npc t n)).length 0 (sc 8) (sc 10)).2.1, sc 9 + 1, (cmpP (fun i => Mt t n i nn (av 1) mn (av 2)) (Vt t n) (clsU t n (npc t n)).length 0 (sc 8) (sc 10)).2.2) := by rw [anT_eq, pif_f (fun z => z.elim c27n (fun z => z.elim c31n c35n)), pif_f c36, pif_f (fun z => c59n z.2), pif_f (fun z => c60 z.2), pif_f c61]
                  have hb9 : scd 9 = sc 9 + 1 := ((hfd 9 (by decide)).trans ((hfc 9 (by decide)).trans ((hfb 9 (by decide)).trans (hfa 9 (by decide)))))
                  have hb10 : scd 10 = sc 10 := ((hfd 10 (by decide)).trans ((hfc 10 (by decide)).trans ((hfb 10 (by decide)).trans (hfa 10 (by decide)))))
                  have hb8 : scd 8 = sc 8 := ((hfd 8 (by decide)).trans ((hfc 8 (by decide)).trans ((hfb 8 (by decide)).trans (hfa 8 (by decide)))))
                  have loop : ∀ (fu : Nat) (k : Nat) (scj : Nat → Int32) (fj : Wd) (c1 : Int32) (ls : Array Slot) (H : Heap) (locs : List Loc), npc t n - k < fu → k ≤ npc t n → Mw G mo ar scj av fj → Mx mo ar f fj → (∀ k, k < 13 → k ≠ 8 → k ≠ 10 → scj k = scd k) → scj 8 = c1 → cmpP (fun i => Mt t n i nn (av 1) mn (av 2)) (Vt t n) (clsU t n (npc t n)).length 0 (sc 8) (sc 10) = cmpP (fun i => Mt t n i nn (av 1) mn (av 2)) (Vt t n) ((clsU t n (npc t n)).length - (clsU t n k).length) (clsU t n k).length c1 (sc 10) → scj 10 = sc 10 → ms G.1 (Af f sz) fj s H locs → lv_has ls 8 [(5, .int (nI (clsU t n k).length)), (7, .int (nI (b + pst t n k))), (0, .ref mo), (6, .int (nI (b + n)))] → W p l e ({ frames := 5, cells := 0, slots := 0, locals := 130 }) s m ([.ref mo, .int (nI nd), .int so, .int di, .int le] : List Value).toArray below meth c H locs 0 0 (MQ below (va_Qi (fun v f' => ∃ sc' : Nat → Int32, Mw G mo ar sc' av f' ∧ Mx mo ar f f' ∧ (∀ k, k < 13 → k ≠ 8 → k ≠ 9 → k ≠ 10 → sc' k = sc k) ∧ (v, sc' 8, sc' 9, sc' 10) = anT (av 8 nd) (fun k => lmU t n (npc t n) k) (clsU t n (npc t n)).length (Mt t n) (Vt t n) (nn, av 1, mn, av 2, sc 5, sc 6, sc 7, so, di, le) (sc 8, sc 9, sc 10)) (Bw G f sz) (Af f sz)) ([.ref mo, .int (nI nd), .int so, .int di, .int le] : List Value).toArray s 0 0 (Af f sz)) (F0 m 118 ls []) := by
                    intro fu
                    induction fu with
                    | zero => intro k scj fj c1 ls H locs h0; exact absurd h0 (Nat.not_lt_zero _)
                    | succ fu ih =>
                      intro k scj fj c1 ls H locs hfu hk hMj hXj hfj h8j hinv h10j hw hl
                      have hpl := pst_le (t := t) (n := n) hk
                      refine lv_iload hx hb d_SM_askText_118 (lv_at hl 1 rfl) ?_
                      refine lv_iload hx hb d_SM_askText_120 (lv_at hl 3 rfl) ?_
                      refine lv_icmp_gt (tgt := 187) hx hb d_SM_askText_122 (by decide) (fun c62 => ?_) (fun c62 => ?_)
                      · have c62n : (b + n) < (b + pst t n k) := (nI_ltI (a := (b + n)) (b := (b + pst t n k)) (by omega) (by omega)).mp c62
                        refine lv_iconst (v := 0) hx hb d_SM_askText_187 (by decide) ?_
                        have hke : k = npc t n := pst_e hk (by omega)
                        rw [hke, Nat.sub_self] at hinv
                        exact m_iret hc hr hlk hw ⟨by first | decide | (dsimp only; omega), by first | decide | (dsimp only; omega)⟩ d_SM_askText_188 ⟨_, hMj, hXj, fun j hj q8 q9 q10 => (hfj j hj q8 q10).trans (hfrd j hj q9), by rw [hrest, hinv, h8j, hfj 9 (by decide) (by decide) (by decide), h10j, hb9]; rfl⟩
                      · have c62n : ¬ ((b + n) < (b + pst t n k)) := fun z => c62 ((nI_ltI (a := (b + n)) (b := (b + pst t n k)) (by omega) (by omega)).mpr z)
                        have hkn : k < npc t n := pst_k hk (by omega)
                        have hps := (pst_in (t := t) k hkn).1
                        have hpx := pnx_in (t := t) hps
                        refine lv_aload_n hx hb d_SM_askText_125 rfl (lv_at hl 2 rfl) ?_
                        refine lv_iload hx hb d_SM_askText_126 (lv_at hl 1 rfl) ?_
                        refine lv_iload hx hb d_SM_askText_128 (lv_at hl 3 rfl) ?_
                        refine m_calli hw (m_runV (As := [.int (nI (b + pst t n k)), .int (nI (b + n))]) (rest := []) hc hE hw (c_SM_piece G l H.size fj hMj (a := b + pst t n k) (E0 := b + n) (e0 := b + pnx t n (pst t n k)) (by omega) hbn hS (pnx_sh hA hps).symm) hMj.1 rfl cw_SM_133 se_SM_piece rfl hl.1 rfl (Nat.le_of_ble_eq_true rfl) d_SM_askText_130 ⟨rfl, rfl, by decide, by decide⟩ ⟨by first | decide | (dsimp only; omega), by first | decide | (dsimp only; omega)⟩) (fun r66 g65 H locs p64 hw => ?_)
                        obtain ⟨scz63, hMz63, hXz63, hfz63, hvz63, hpcz63⟩ := p64
                        replace hpcz63 := pcr_of hA hpx.1 hpx.2 hpcz63
                        replace hvz63 : r66 = nI (pk t n k) := hvz63.trans (congrArg nI (pkd_sh hA hpx.1 hpx.2))
                        subst hvz63
                        have hpkl := pkd_in t (pst t n k) (pnx t n (pst t n k))
                        change pk t n k ≤ 3 at hpkl
                        have hXXz63 := hXj.tr hXz63
                        refine lv_iconst (v := 2) hx hb d_SM_askText_133 (by decide) ?_
                        refine lv_icmp_ne (tgt := 176) hx hb d_SM_askText_134 (by decide) (fun c67 => ?_) (fun c67 => ?_)
                        · have c67n : ¬ ((pk t n k) = 2) := fun z => c67 ((nI_eq (a := (pk t n k)) (b := 2) (by omega) (by omega)).mpr z)
                          refine lv_aload_n hx hb d_SM_askText_176 rfl (lv_at hl 2 rfl) ?_
                          refine m_mget (v := .int (scz63 14)) hc hE hw hMz63 l_SM_108_SM rfl d_SM_askText_177 ?_
                          refine m_top (y := nI (b + pnx t n (pst t n k))) hpcz63.1 ?_
                          refine lv_iconst (v := 1) hx hb d_SM_askText_180 (by decide) ?_
                          refine lv_iadd hx hb d_SM_askText_181 ?_
                          refine m_top (y := (nI ((b + pnx t n (pst t n k)) + 1))) (nI_add (b + pnx t n (pst t n k)) 1) ?_
                          refine lv_istore (lv' := [(7, .int (nI ((b + pnx t n (pst t n k)) + 1))), (5, .int (nI (clsU t n k).length)), (0, .ref mo), (6, .int (nI (b + n)))]) hx hb d_SM_askText_182 hl (by decide) rfl (fun ls hl => ?_)
                          refine lv_goto (tgt := 118) hx hb d_SM_askText_184 (by decide) ?_
                          have hcl : clsU t n (k + 1) = clsU t n k := pif_f c67n
                          have h8n : scz63 8 = c1 := ((hfz63 8 (by decide)).trans h8j)
                          have h10n := (hfz63 10 (by decide)).trans h10j
                          exact ih (k + 1) scz63 g65 c1 ls H locs (by omega) (by omega) hMz63 hXXz63 (fun j hj q8 q10 => (hfz63 j hj).trans (hfj j hj q8 q10)) h8n (by rw [hcl]; exact hinv) h10n hw (by rw [hcl]; exact (lv_sub hl [1, 0, 2, 3] rfl))
                        · have c67n : (pk t n k) = 2 := (nI_eq (a := (pk t n k)) (b := 2) (by omega) (by omega)).mp c67
                          have hcx := cxi_at hkn c67n
                          have hae := pkd_ne (t := t) hpx.1 (show ¬ pkd t (pst t n k) (pnx t n (pst t n k)) = 0 from fun z => absurd (c67n.symm.trans z) (by decide))
                          have hp2 := hpcz63.2.2 c67n
                          have hq0 := q0c_in (t := t) hae
                          have hqi := qtm_in (t := t) hq0.2.1
                          refine lv_aload_n hx hb d_SM_askText_137 rfl (lv_at hl 2 rfl) ?_
                          refine lv_dup hx hb d_SM_askText_138 rfl ?_
                          refine m_mget (v := .int (scz63 8)) hc hE hw hMz63 l_SM_175_SM rfl d_SM_askText_139 ?_
                          refine m_top (y := c1) ((hfz63 8 (by decide)).trans h8j) ?_
                          refine lv_iconst (v := 1) hx hb d_SM_askText_142 (by decide) ?_
                          refine lv_iadd hx hb d_SM_askText_143 ?_
                          refine m_mput (sc' := (upd scz63 8 (c1 + 1))) hc hE hw hMz63 hXXz63 l_SM_175_SM rfl ds_SM_20 rfl rfl rfl d_SM_askText_144 (fun H locs f68 hM69 hX70 hw => ?_)
                          refine lv_aload_n hx hb d_SM_askText_147 rfl (lv_at hl 2 rfl) ?_
                          refine m_calli hw (m_runV (As := []) (rest := []) hc hE hw (c_SM_matches G l H.size f68 hM69 hp2.2.1 hp2.2.2.1 hp2.2.2.2.1 hp2.2.2.2.2.1 hp2.2.2.2.2.2 ((hfz63 2 (by decide)).trans ((hfj 2 (by decide) (by decide) (by decide)).trans ((hfd 2 (by decide)).trans ((hfc 2 (by decide)).trans ((hfb 2 (by decide)).trans ((hfa 2 (by decide)).trans hnn)))))) ((hfz63 3 (by decide)).trans ((hfj 3 (by decide) (by decide) (by decide)).trans ((hfd 3 (by decide)).trans ((hfc 3 (by decide)).trans ((hfb 3 (by decide)).trans ((hfa 3 (by decide)).trans hmn)))))) (by omega) (by omega) (by omega) (by omega) (shp_in _ _ _) hn hmm) hM69.1 rfl cw_SM_178 se_SM_matches rfl hl.1 rfl (Nat.le_of_ble_eq_true rfl) d_SM_askText_148 ⟨rfl, rfl, by decide, by decide⟩ ⟨by first | decide | (dsimp only; omega), by first | decide | (dsimp only; omega)⟩) (fun r73 g72 H locs p71 hw => ?_)
                          obtain ⟨rfl, p71⟩ := p71
                          have hMt : Mt t n (clsU t n k).length nn (av 1) mn (av 2) ↔ mtm (av 0) (shp t (q0c t (pst t n k) (pnx t n (pst t n k))) (pnx t n (pst t n k))) (b + m0c t (pst t n k)) (b + m1c t (pst t n k) (pnx t n (pst t n k))) (b + q0c t (pst t n k) (pnx t n (pst t n k))) (b + qtm t (q0c t (pst t n k) (pnx t n (pst t n k))) (pnx t n (pst t n k))) nn (av 1) mn (av 2) := by unfold Mt; rw [hcx.1]; exact (mtm_mat (nn := nn) (mn := mn) (nt := av 1) (mt := av 2) hA (show m1c t (pst t n k) (pnx t n (pst t n k)) ≤ n by omega) hq0.2.1 hpx.2).symm
                          rw [← bI_c hMt] at p71
                          subst p71
                          refine lv_if_eq (tgt := 173) hx hb d_SM_askText_151 (by decide) (fun c74 => ?_) (fun c74 => ?_)
                          · have c74n : ¬ (Mt t n (clsU t n k).length nn (av 1) mn (av 2)) := bI_0.mp c74
                            refine lv_iinc (v := (nI ((clsU t n k).length + 1))) (lv' := [(5, .int (nI ((clsU t n k).length + 1))), (7, .int (nI (b + pst t n k))), (0, .ref mo), (6, .int (nI (b + n)))]) hx hb d_SM_askText_173 hl (k := 0) rfl (nI_1 _) (by decide) rfl (fun ls hl => ?_)
                            refine lv_aload_n hx hb d_SM_askText_176 rfl (lv_at hl 2 rfl) ?_
                            refine m_mget (v := .int (scz63 14)) hc hE hw hM69 l_SM_108_SM rfl d_SM_askText_177 ?_
                            refine m_top (y := nI (b + pnx t n (pst t n k))) hpcz63.1 ?_
                            refine lv_iconst (v := 1) hx hb d_SM_askText_180 (by decide) ?_
                            refine lv_iadd hx hb d_SM_askText_181 ?_
                            refine m_top (y := (nI ((b + pnx t n (pst t n k)) + 1))) (nI_add (b + pnx t n (pst t n k)) 1) ?_
                            refine lv_istore (lv' := [(7, .int (nI ((b + pnx t n (pst t n k)) + 1))), (5, .int (nI ((clsU t n k).length + 1))), (0, .ref mo), (6, .int (nI (b + n)))]) hx hb d_SM_askText_182 hl (by decide) rfl (fun ls hl => ?_)
                            refine lv_goto (tgt := 118) hx hb d_SM_askText_184 (by decide) ?_
                            have hcl : (clsU t n (k + 1)).length = (clsU t n k).length + 1 := by rw [show clsU t n (k + 1) = clsU t n k ++ [k] from pif_t c67n, List.length_append]; rfl
                            have h10n := (hfz63 10 (by decide)).trans h10j
                            exact ih (k + 1) (upd scz63 8 (c1 + 1)) f68 (c1 + 1) ls H locs (by omega) (by omega) hM69 hX70 (fun j hj q8 q10 => (upd_ne' _ _ _ q8).trans ((hfz63 j hj).trans (hfj j hj q8 q10))) rfl (by rw [hcl]; exact hinv.trans ((cmpP_s hcx.2).trans (pif_f c74n))) h10n hw (by rw [hcl]; exact (lv_sub hl [1, 0, 2, 3] rfl))
                          · have c74n : (Mt t n (clsU t n k).length nn (av 1) mn (av 2)) := bI_n.mp c74
                            refine lv_aload_n hx hb d_SM_askText_154 rfl (lv_at hl 2 rfl) ?_
                            refine lv_iload hx hb d_SM_askText_155 (lv_at hl 0 rfl) ?_
                            refine m_mput (sc' := (upd (upd scz63 8 (c1 + 1)) 10 (nI (clsU t n k).length))) hc hE hw hM69 hX70 l_SM_46_SM rfl ds_SM_22 rfl rfl rfl d_SM_askText_157 (fun H locs f75 hM76 hX77 hw => ?_)
                            refine lv_aload_n hx hb d_SM_askText_160 rfl (lv_at hl 2 rfl) ?_
                            refine m_mget (v := .int (scz63 17)) hc hE hw hM76 l_SM_114_SM rfl d_SM_askText_161 ?_
                            refine m_top (y := (bI (t (pst t n k) = 33))) hp2.1 ?_
                            refine lv_if_eq (tgt := 171) hx hb d_SM_askText_164 (by decide) (fun c78 => ?_) (fun c78 => ?_)
                            · have c78n : ¬ (t (pst t n k) = 33) := bI_0.mp c78
                              refine lv_iconst (v := 1) hx hb d_SM_askText_171 (by decide) ?_
                              have hV : Vt t n (clsU t n k).length = 1 := by unfold Vt; rw [hcx.1]; exact vdc_0 c78
                              have hcm := hinv.trans ((cmpP_s hcx.2).trans (pif_t c74n))
                              have hb9z := (hfz63 9 (by decide)).trans ((hfj 9 (by decide) (by decide) (by decide)).trans hb9)
                              exact m_iret hc hr hlk hw ⟨by first | decide | (dsimp only; omega), by first | decide | (dsimp only; omega)⟩ d_SM_askText_172 ⟨_, hM76, hX77, fun j hj q8 q9 q10 => (upd_ne' _ _ _ q10).trans ((upd_ne' _ _ _ q8).trans ((hfz63 j hj).trans ((hfj j hj q8 q10).trans (hfrd j hj q9)))), by rw [hrest, hcm, hV]; exact congrArg (fun z => (_, _, z, _)) hb9z⟩
                            · have c78n : (t (pst t n k) = 33) := bI_n.mp c78
                              refine lv_iconst (v := 2) hx hb d_SM_askText_167 (by decide) ?_
                              refine lv_goto (tgt := 172) hx hb d_SM_askText_168 (by decide) ?_
                              have hV : Vt t n (clsU t n k).length = 2 := by unfold Vt; rw [hcx.1]; exact vdc_n c78
                              have hcm := hinv.trans ((cmpP_s hcx.2).trans (pif_t c74n))
                              have hb9z := (hfz63 9 (by decide)).trans ((hfj 9 (by decide) (by decide) (by decide)).trans hb9)
                              exact m_iret hc hr hlk hw ⟨by first | decide | (dsimp only; omega), by first | decide | (dsimp only; omega)⟩ d_SM_askText_172 ⟨_, hM76, hX77, fun j hj q8 q9 q10 => (upd_ne' _ _ _ q10).trans ((upd_ne' _ _ _ q8).trans ((hfz63 j hj).trans ((hfj j hj q8 q10).trans (hfrd j hj q9)))), by rw [hrest, hcm, hV]; exact congrArg (fun z => (_, _, z, _)) hb9z⟩
                  exact loop (npc t n + 1) 0 scd g57 (sc 8) ls H locs (by omega) (Nat.zero_le _) hMd hXXd (fun _ _ _ _ => rfl) hb8 rfl hb10 hw (lv_sub hl [2, 0, 3, 1] rfl)
                · refine lv_iconst (v := 0) hx hb d_SM_askText_90 (by decide) ?_
                  have h8 : scd 8 = sc 8 := ((hfd 8 (by decide)).trans ((hfc 8 (by decide)).trans ((hfb 8 (by decide)).trans (hfa 8 (by decide)))))
                  have h9 : scd 9 = sc 9 + 1 := ((hfd 9 (by decide)).trans ((hfc 9 (by decide)).trans ((hfb 9 (by decide)).trans (hfa 9 (by decide)))))
                  have h10 : scd 10 = sc 10 := ((hfd 10 (by decide)).trans ((hfc 10 (by decide)).trans ((hfb 10 (by decide)).trans (hfa 10 (by decide)))))
                  exact m_iret hc hr hlk hw ⟨by first | decide | (dsimp only; omega), by first | decide | (dsimp only; omega)⟩ d_SM_askText_91 ⟨_, hMd, hXXd, fun j hj q8 q9 q10 => hfrd j hj q9, by rw [anT_eq, h8, h9, h10, pif_f (fun z => z.elim c27n (fun z => z.elim c31n c35n)), pif_f c36, pif_f (fun z => c59n z.2), pif_f (fun z => c60 z.2), pif_t c61]⟩
              · refine lv_iconst (v := 0) hx hb d_SM_askText_83 (by decide) ?_
                have h8 : scd 8 = sc 8 := ((hfd 8 (by decide)).trans ((hfc 8 (by decide)).trans ((hfb 8 (by decide)).trans (hfa 8 (by decide)))))
                have h9 : scd 9 = sc 9 + 1 := ((hfd 9 (by decide)).trans ((hfc 9 (by decide)).trans ((hfb 9 (by decide)).trans (hfa 9 (by decide)))))
                have h10 : scd 10 = sc 10 := ((hfd 10 (by decide)).trans ((hfc 10 (by decide)).trans ((hfb 10 (by decide)).trans (hfa 10 (by decide)))))
                exact m_iret hc hr hlk hw ⟨by first | decide | (dsimp only; omega), by first | decide | (dsimp only; omega)⟩ d_SM_askText_84 ⟨_, hMd, hXXd, fun j hj q8 q9 q10 => hfrd j hj q9, by rw [anT_eq, h8, h9, h10, pif_f (fun z => z.elim c27n (fun z => z.elim c31n c35n)), pif_f c36, pif_f (fun z => c59n z.2), pif_t ⟨(Int32.not_le.mp c37), c60⟩]⟩
            · have c59n : (abv le (lmU t n (npc t n) 3)) := bI_n.mp c59
              refine lv_iconst (v := 2) hx hb d_SM_askText_72 (by decide) ?_
              have h8 : scd 8 = sc 8 := ((hfd 8 (by decide)).trans ((hfc 8 (by decide)).trans ((hfb 8 (by decide)).trans (hfa 8 (by decide)))))
              have h9 : scd 9 = sc 9 + 1 := ((hfd 9 (by decide)).trans ((hfc 9 (by decide)).trans ((hfb 9 (by decide)).trans (hfa 9 (by decide)))))
              have h10 : scd 10 = sc 10 := ((hfd 10 (by decide)).trans ((hfc 10 (by decide)).trans ((hfb 10 (by decide)).trans (hfa 10 (by decide)))))
              exact m_iret hc hr hlk hw ⟨by first | decide | (dsimp only; omega), by first | decide | (dsimp only; omega)⟩ d_SM_askText_73 ⟨_, hMd, hXXd, fun j hj q8 q9 q10 => hfrd j hj q9, by rw [anT_eq, h8, h9, h10, pif_f (fun z => z.elim c27n (fun z => z.elim c31n c35n)), pif_f c36, pif_t ⟨(Int32.not_le.mp c37), c59n⟩]⟩
        · refine lv_iconst (v := 0) hx hb d_SM_askText_55 (by decide) ?_
          have h8 : scc 8 = sc 8 := ((hfc 8 (by decide)).trans ((hfb 8 (by decide)).trans (hfa 8 (by decide))))
          have h9 : scc 9 = sc 9 + 1 := ((hfc 9 (by decide)).trans ((hfb 9 (by decide)).trans (hfa 9 (by decide))))
          have h10 : scc 10 = sc 10 := ((hfc 10 (by decide)).trans ((hfb 10 (by decide)).trans (hfa 10 (by decide))))
          exact m_iret hc hr hlk hw ⟨by first | decide | (dsimp only; omega), by first | decide | (dsimp only; omega)⟩ d_SM_askText_56 ⟨_, hMc, hXXc, fun j hj q8 q9 q10 => hfrc j hj q9, by rw [anT_eq, h8, h9, h10, pif_f (fun z => z.elim c27n (fun z => z.elim c31n c35n)), pif_t c36]⟩
      · have c35n : (abv (sc 7) (lmU t n (npc t n) 2)) := bI_n.mp c35
        refine lv_iconst (v := 2) hx hb d_SM_askText_49 (by decide) ?_
        have h8 : scc 8 = sc 8 := ((hfc 8 (by decide)).trans ((hfb 8 (by decide)).trans (hfa 8 (by decide))))
        have h9 : scc 9 = sc 9 + 1 := ((hfc 9 (by decide)).trans ((hfb 9 (by decide)).trans (hfa 9 (by decide))))
        have h10 : scc 10 = sc 10 := ((hfc 10 (by decide)).trans ((hfb 10 (by decide)).trans (hfa 10 (by decide))))
        exact m_iret hc hr hlk hw ⟨by first | decide | (dsimp only; omega), by first | decide | (dsimp only; omega)⟩ d_SM_askText_50 ⟨_, hMc, hXXc, fun j hj q8 q9 q10 => hfrc j hj q9, by rw [anT_eq, h8, h9, h10, pif_t (Or.inr (Or.inr c35n))]⟩
