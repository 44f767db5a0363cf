/-! links of the pools, as the walks ask for them -/
theorem l_SM_101_SM : lnk "StreamFiltersModel" 101 F_SM 38 23 := ⟨by decide, "StreamFiltersModel", Or.inl rfl, Or.inl (tb 637 (by decide +kernel) rfl)⟩
theorem l_SM_108_SM : lnk "StreamFiltersModel" 108 F_SM 38 24 := ⟨by decide, "StreamFiltersModel", Or.inl rfl, Or.inl (tb 638 (by decide +kernel) rfl)⟩
theorem l_SM_114_SM : lnk "StreamFiltersModel" 114 F_SM 38 27 := ⟨by decide, "StreamFiltersModel", Or.inl rfl, Or.inl (tb 641 (by decide +kernel) rfl)⟩
theorem l_SM_118_SM : lnk "StreamFiltersModel" 118 F_SM 38 30 := ⟨by decide, "StreamFiltersModel", Or.inl rfl, Or.inl (tb 644 (by decide +kernel) rfl)⟩
theorem l_SM_121_SM : lnk "StreamFiltersModel" 121 F_SM 38 31 := ⟨by decide, "StreamFiltersModel", Or.inl rfl, Or.inl (tb 645 (by decide +kernel) rfl)⟩
theorem l_SM_124_SM : lnk "StreamFiltersModel" 124 F_SM 38 28 := ⟨by decide, "StreamFiltersModel", Or.inl rfl, Or.inl (tb 642 (by decide +kernel) rfl)⟩
theorem l_SM_127_SM : lnk "StreamFiltersModel" 127 F_SM 38 29 := ⟨by decide, "StreamFiltersModel", Or.inl rfl, Or.inl (tb 643 (by decide +kernel) rfl)⟩
theorem l_SM_130_SM : lnk "StreamFiltersModel" 130 F_SM 38 32 := ⟨by decide, "StreamFiltersModel", Or.inl rfl, Or.inl (tb 646 (by decide +kernel) rfl)⟩
theorem cw_SM_104 : cwk "StreamFiltersModel" 104 y_SM_find b_SM_find 5 (some .int) 3 := ⟨Or.inl (tb 761 (by decide +kernel) rfl), (tb 764 (by decide +kernel) rfl), (tb 5 (by decide +kernel) rfl), by decide, by decide, by decide +kernel⟩
theorem cw_SM_111 : cwk "StreamFiltersModel" 111 y_SM_limitPiece b_SM_limitPiece 6 (some .int) 3 := ⟨Or.inl (tb 765 (by decide +kernel) rfl), (tb 768 (by decide +kernel) rfl), (tb 5 (by decide +kernel) rfl), by decide, by decide, by decide +kernel⟩
theorem se_SM_find : Cond.instanceMethod y_SM_find ∈ TB ∧ Cond.selects "StreamFiltersModel" y_SM_find y_SM_find ∈ TB := ⟨(tb 763 (by decide +kernel) rfl), (tbs 19 (by decide +kernel) rfl)⟩
theorem se_SM_limitPiece : Cond.instanceMethod y_SM_limitPiece ∈ TB ∧ Cond.selects "StreamFiltersModel" y_SM_limitPiece y_SM_limitPiece ∈ TB := ⟨(tb 767 (by decide +kernel) rfl), (tbs 20 (by decide +kernel) rfl)⟩
/-! decode rows -/
theorem d_SM_piece_0 : decode b_SM_piece 0 = .ok (.aload_n 0, 1) := by decide +kernel
theorem d_SM_piece_1 : decode b_SM_piece 1 = .ok (.iload_n 1, 1) := by decide +kernel
theorem d_SM_piece_2 : decode b_SM_piece 2 = .ok (.putfield 101, 3) := by decide +kernel
theorem d_SM_piece_5 : decode b_SM_piece 5 = .ok (.aload_n 0, 1) := by decide +kernel
theorem d_SM_piece_6 : decode b_SM_piece 6 = .ok (.aload_n 0, 1) := by decide +kernel
theorem d_SM_piece_7 : decode b_SM_piece 7 = .ok (.bipush 59, 2) := by decide +kernel
theorem d_SM_piece_9 : decode b_SM_piece 9 = .ok (.iload_n 1, 1) := by decide +kernel
theorem d_SM_piece_10 : decode b_SM_piece 10 = .ok (.iload_n 2, 1) := by decide +kernel
theorem d_SM_piece_11 : decode b_SM_piece 11 = .ok (.invokevirtual 104, 3) := by decide +kernel
theorem d_SM_piece_14 : decode b_SM_piece 14 = .ok (.putfield 108, 3) := by decide +kernel
theorem d_SM_piece_17 : decode b_SM_piece 17 = .ok (.aload_n 0, 1) := by decide +kernel
theorem d_SM_piece_18 : decode b_SM_piece 18 = .ok (.getfield 108, 3) := by decide +kernel
theorem d_SM_piece_21 : decode b_SM_piece 21 = .ok (.iload_n 1, 1) := by decide +kernel
theorem d_SM_piece_22 : decode b_SM_piece 22 = .ok (.if_icmp .ne 5, 3) := by decide +kernel
theorem d_SM_piece_25 : decode b_SM_piece 25 = .ok (.iconst 0, 1) := by decide +kernel
theorem d_SM_piece_26 : decode b_SM_piece 26 = .ok (.ireturn, 1) := by decide +kernel
theorem d_SM_piece_27 : decode b_SM_piece 27 = .ok (.aload_n 0, 1) := by decide +kernel
theorem d_SM_piece_28 : decode b_SM_piece 28 = .ok (.bipush 61, 2) := by decide +kernel
theorem d_SM_piece_30 : decode b_SM_piece 30 = .ok (.iload_n 1, 1) := by decide +kernel
theorem d_SM_piece_31 : decode b_SM_piece 31 = .ok (.aload_n 0, 1) := by decide +kernel
theorem d_SM_piece_32 : decode b_SM_piece 32 = .ok (.getfield 108, 3) := by decide +kernel
theorem d_SM_piece_35 : decode b_SM_piece 35 = .ok (.invokevirtual 104, 3) := by decide +kernel
theorem d_SM_piece_38 : decode b_SM_piece 38 = .ok (.istore_n 3, 1) := by decide +kernel
theorem d_SM_piece_39 : decode b_SM_piece 39 = .ok (.iload_n 3, 1) := by decide +kernel
theorem d_SM_piece_40 : decode b_SM_piece 40 = .ok (.aload_n 0, 1) := by decide +kernel
theorem d_SM_piece_41 : decode b_SM_piece 41 = .ok (.getfield 108, 3) := by decide +kernel
theorem d_SM_piece_44 : decode b_SM_piece 44 = .ok (.if_icmp .ge 14, 3) := by decide +kernel
theorem d_SM_piece_47 : decode b_SM_piece 47 = .ok (.aload_n 0, 1) := by decide +kernel
theorem d_SM_piece_48 : decode b_SM_piece 48 = .ok (.iload_n 1, 1) := by decide +kernel
theorem d_SM_piece_49 : decode b_SM_piece 49 = .ok (.iload_n 3, 1) := by decide +kernel
theorem d_SM_piece_50 : decode b_SM_piece 50 = .ok (.aload_n 0, 1) := by decide +kernel
theorem d_SM_piece_51 : decode b_SM_piece 51 = .ok (.getfield 108, 3) := by decide +kernel
theorem d_SM_piece_54 : decode b_SM_piece 54 = .ok (.invokevirtual 111, 3) := by decide +kernel
theorem d_SM_piece_57 : decode b_SM_piece 57 = .ok (.ireturn, 1) := by decide +kernel
theorem d_SM_piece_58 : decode b_SM_piece 58 = .ok (.aload_n 0, 1) := by decide +kernel
theorem d_SM_piece_59 : decode b_SM_piece 59 = .ok (.aload_n 0, 1) := by decide +kernel
theorem d_SM_piece_60 : decode b_SM_piece 60 = .ok (.getfield 7, 3) := by decide +kernel
theorem d_SM_piece_63 : decode b_SM_piece 63 = .ok (.iload_n 1, 1) := by decide +kernel
theorem d_SM_piece_64 : decode b_SM_piece 64 = .ok (.iaload, 1) := by decide +kernel
theorem d_SM_piece_65 : decode b_SM_piece 65 = .ok (.bipush 33, 2) := by decide +kernel
theorem d_SM_piece_67 : decode b_SM_piece 67 = .ok (.if_icmp .ne 7, 3) := by decide +kernel
theorem d_SM_piece_70 : decode b_SM_piece 70 = .ok (.iconst 1, 1) := by decide +kernel
theorem d_SM_piece_71 : decode b_SM_piece 71 = .ok (.goto 4, 3) := by decide +kernel
theorem d_SM_piece_74 : decode b_SM_piece 74 = .ok (.iconst 0, 1) := by decide +kernel
theorem d_SM_piece_75 : decode b_SM_piece 75 = .ok (.putfield 114, 3) := by decide +kernel
theorem d_SM_piece_78 : decode b_SM_piece 78 = .ok (.aload_n 0, 1) := by decide +kernel
theorem d_SM_piece_79 : decode b_SM_piece 79 = .ok (.iload_n 1, 1) := by decide +kernel
theorem d_SM_piece_80 : decode b_SM_piece 80 = .ok (.aload_n 0, 1) := by decide +kernel
theorem d_SM_piece_81 : decode b_SM_piece 81 = .ok (.getfield 114, 3) := by decide +kernel
theorem d_SM_piece_84 : decode b_SM_piece 84 = .ok (.ifCond .eq 7, 3) := by decide +kernel
theorem d_SM_piece_87 : decode b_SM_piece 87 = .ok (.iconst 1, 1) := by decide +kernel
theorem d_SM_piece_88 : decode b_SM_piece 88 = .ok (.goto 4, 3) := by decide +kernel
theorem d_SM_piece_91 : decode b_SM_piece 91 = .ok (.iconst 0, 1) := by decide +kernel
theorem d_SM_piece_92 : decode b_SM_piece 92 = .ok (.iadd, 1) := by decide +kernel
theorem d_SM_piece_93 : decode b_SM_piece 93 = .ok (.putfield 118, 3) := by decide +kernel
theorem d_SM_piece_96 : decode b_SM_piece 96 = .ok (.aload_n 0, 1) := by decide +kernel
theorem d_SM_piece_97 : decode b_SM_piece 97 = .ok (.aload_n 0, 1) := by decide +kernel
theorem d_SM_piece_98 : decode b_SM_piece 98 = .ok (.getfield 108, 3) := by decide +kernel
theorem d_SM_piece_101 : decode b_SM_piece 101 = .ok (.putfield 121, 3) := by decide +kernel
theorem d_SM_piece_104 : decode b_SM_piece 104 = .ok (.aload_n 0, 1) := by decide +kernel
theorem d_SM_piece_105 : decode b_SM_piece 105 = .ok (.aload_n 0, 1) := by decide +kernel
theorem d_SM_piece_106 : decode b_SM_piece 106 = .ok (.getfield 118, 3) := by decide +kernel
theorem d_SM_piece_109 : decode b_SM_piece 109 = .ok (.putfield 124, 3) := by decide +kernel
theorem d_SM_piece_112 : decode b_SM_piece 112 = .ok (.aload_n 0, 1) := by decide +kernel
theorem d_SM_piece_113 : decode b_SM_piece 113 = .ok (.aload_n 0, 1) := by decide +kernel
theorem d_SM_piece_114 : decode b_SM_piece 114 = .ok (.getfield 118, 3) := by decide +kernel
theorem d_SM_piece_117 : decode b_SM_piece 117 = .ok (.putfield 127, 3) := by decide +kernel
theorem d_SM_piece_120 : decode b_SM_piece 120 = .ok (.aload_n 0, 1) := by decide +kernel
theorem d_SM_piece_121 : decode b_SM_piece 121 = .ok (.bipush 47, 2) := by decide +kernel
theorem d_SM_piece_123 : decode b_SM_piece 123 = .ok (.aload_n 0, 1) := by decide +kernel
theorem d_SM_piece_124 : decode b_SM_piece 124 = .ok (.getfield 118, 3) := by decide +kernel
theorem d_SM_piece_127 : decode b_SM_piece 127 = .ok (.aload_n 0, 1) := by decide +kernel
theorem d_SM_piece_128 : decode b_SM_piece 128 = .ok (.getfield 121, 3) := by decide +kernel
theorem d_SM_piece_131 : decode b_SM_piece 131 = .ok (.invokevirtual 104, 3) := by decide +kernel
theorem d_SM_piece_134 : decode b_SM_piece 134 = .ok (.istore 4, 2) := by decide +kernel
theorem d_SM_piece_136 : decode b_SM_piece 136 = .ok (.iload 4, 2) := by decide +kernel
theorem d_SM_piece_138 : decode b_SM_piece 138 = .ok (.aload_n 0, 1) := by decide +kernel
theorem d_SM_piece_139 : decode b_SM_piece 139 = .ok (.getfield 121, 3) := by decide +kernel
theorem d_SM_piece_142 : decode b_SM_piece 142 = .ok (.if_icmp .ge 28, 3) := by decide +kernel
theorem d_SM_piece_145 : decode b_SM_piece 145 = .ok (.iload 4, 2) := by decide +kernel
theorem d_SM_piece_147 : decode b_SM_piece 147 = .ok (.aload_n 0, 1) := by decide +kernel
theorem d_SM_piece_148 : decode b_SM_piece 148 = .ok (.getfield 118, 3) := by decide +kernel
theorem d_SM_piece_151 : decode b_SM_piece 151 = .ok (.if_icmp .ne 5, 3) := by decide +kernel
theorem d_SM_piece_154 : decode b_SM_piece 154 = .ok (.iconst 3, 1) := by decide +kernel
theorem d_SM_piece_155 : decode b_SM_piece 155 = .ok (.ireturn, 1) := by decide +kernel
theorem d_SM_piece_156 : decode b_SM_piece 156 = .ok (.aload_n 0, 1) := by decide +kernel
theorem d_SM_piece_157 : decode b_SM_piece 157 = .ok (.iload 4, 2) := by decide +kernel
theorem d_SM_piece_159 : decode b_SM_piece 159 = .ok (.putfield 127, 3) := by decide +kernel
theorem d_SM_piece_162 : decode b_SM_piece 162 = .ok (.aload_n 0, 1) := by decide +kernel
theorem d_SM_piece_163 : decode b_SM_piece 163 = .ok (.iload 4, 2) := by decide +kernel
theorem d_SM_piece_165 : decode b_SM_piece 165 = .ok (.iconst 1, 1) := by decide +kernel
theorem d_SM_piece_166 : decode b_SM_piece 166 = .ok (.iadd, 1) := by decide +kernel
theorem d_SM_piece_167 : decode b_SM_piece 167 = .ok (.putfield 118, 3) := by decide +kernel
theorem d_SM_piece_170 : decode b_SM_piece 170 = .ok (.aload_n 0, 1) := by decide +kernel
theorem d_SM_piece_171 : decode b_SM_piece 171 = .ok (.getfield 121, 3) := by decide +kernel
theorem d_SM_piece_174 : decode b_SM_piece 174 = .ok (.aload_n 0, 1) := by decide +kernel
theorem d_SM_piece_175 : decode b_SM_piece 175 = .ok (.getfield 118, 3) := by decide +kernel
theorem d_SM_piece_178 : decode b_SM_piece 178 = .ok (.isub, 1) := by decide +kernel
theorem d_SM_piece_179 : decode b_SM_piece 179 = .ok (.istore 5, 2) := by decide +kernel
theorem d_SM_piece_181 : decode b_SM_piece 181 = .ok (.iload 5, 2) := by decide +kernel
theorem d_SM_piece_183 : decode b_SM_piece 183 = .ok (.ifCond .le 23, 3) := by decide +kernel
theorem d_SM_piece_186 : decode b_SM_piece 186 = .ok (.aload_n 0, 1) := by decide +kernel
theorem d_SM_piece_187 : decode b_SM_piece 187 = .ok (.getfield 7, 3) := by decide +kernel
theorem d_SM_piece_190 : decode b_SM_piece 190 = .ok (.aload_n 0, 1) := by decide +kernel
theorem d_SM_piece_191 : decode b_SM_piece 191 = .ok (.getfield 121, 3) := by decide +kernel
theorem d_SM_piece_194 : decode b_SM_piece 194 = .ok (.iconst 1, 1) := by decide +kernel
theorem d_SM_piece_195 : decode b_SM_piece 195 = .ok (.isub, 1) := by decide +kernel
theorem d_SM_piece_196 : decode b_SM_piece 196 = .ok (.iaload, 1) := by decide +kernel
theorem d_SM_piece_197 : decode b_SM_piece 197 = .ok (.bipush 42, 2) := by decide +kernel
theorem d_SM_piece_199 : decode b_SM_piece 199 = .ok (.if_icmp .ne 7, 3) := by decide +kernel
theorem d_SM_piece_202 : decode b_SM_piece 202 = .ok (.iconst 1, 1) := by decide +kernel
theorem d_SM_piece_203 : decode b_SM_piece 203 = .ok (.goto 4, 3) := by decide +kernel
theorem d_SM_piece_206 : decode b_SM_piece 206 = .ok (.iconst 0, 1) := by decide +kernel
theorem d_SM_piece_207 : decode b_SM_piece 207 = .ok (.istore 6, 2) := by decide +kernel
theorem d_SM_piece_209 : decode b_SM_piece 209 = .ok (.iload 5, 2) := by decide +kernel
theorem d_SM_piece_211 : decode b_SM_piece 211 = .ok (.iconst 2, 1) := by decide +kernel
theorem d_SM_piece_212 : decode b_SM_piece 212 = .ok (.if_icmp .le 74, 3) := by decide +kernel
theorem d_SM_piece_215 : decode b_SM_piece 215 = .ok (.iload 6, 2) := by decide +kernel
theorem d_SM_piece_217 : decode b_SM_piece 217 = .ok (.ifCond .eq 69, 3) := by decide +kernel
theorem d_SM_piece_220 : decode b_SM_piece 220 = .ok (.aload_n 0, 1) := by decide +kernel
theorem d_SM_piece_221 : decode b_SM_piece 221 = .ok (.getfield 7, 3) := by decide +kernel
theorem d_SM_piece_224 : decode b_SM_piece 224 = .ok (.aload_n 0, 1) := by decide +kernel
theorem d_SM_piece_225 : decode b_SM_piece 225 = .ok (.getfield 121, 3) := by decide +kernel
theorem d_SM_piece_228 : decode b_SM_piece 228 = .ok (.iconst 2, 1) := by decide +kernel
theorem d_SM_piece_229 : decode b_SM_piece 229 = .ok (.isub, 1) := by decide +kernel
theorem d_SM_piece_230 : decode b_SM_piece 230 = .ok (.iaload, 1) := by decide +kernel
theorem d_SM_piece_231 : decode b_SM_piece 231 = .ok (.bipush 42, 2) := by decide +kernel
theorem d_SM_piece_233 : decode b_SM_piece 233 = .ok (.if_icmp .ne 53, 3) := by decide +kernel
theorem d_SM_piece_236 : decode b_SM_piece 236 = .ok (.aload_n 0, 1) := by decide +kernel
theorem d_SM_piece_237 : decode b_SM_piece 237 = .ok (.getfield 7, 3) := by decide +kernel
theorem d_SM_piece_240 : decode b_SM_piece 240 = .ok (.aload_n 0, 1) := by decide +kernel
theorem d_SM_piece_241 : decode b_SM_piece 241 = .ok (.getfield 121, 3) := by decide +kernel
theorem d_SM_piece_244 : decode b_SM_piece 244 = .ok (.iconst 3, 1) := by decide +kernel
theorem d_SM_piece_245 : decode b_SM_piece 245 = .ok (.isub, 1) := by decide +kernel
theorem d_SM_piece_246 : decode b_SM_piece 246 = .ok (.iaload, 1) := by decide +kernel
theorem d_SM_piece_247 : decode b_SM_piece 247 = .ok (.bipush 46, 2) := by decide +kernel
theorem d_SM_piece_249 : decode b_SM_piece 249 = .ok (.if_icmp .ne 37, 3) := by decide +kernel
theorem d_SM_piece_252 : decode b_SM_piece 252 = .ok (.aload_n 0, 1) := by decide +kernel
theorem d_SM_piece_253 : decode b_SM_piece 253 = .ok (.iconst 2, 1) := by decide +kernel
theorem d_SM_piece_254 : decode b_SM_piece 254 = .ok (.putfield 130, 3) := by decide +kernel
theorem d_SM_piece_257 : decode b_SM_piece 257 = .ok (.aload_n 0, 1) := by decide +kernel
theorem d_SM_piece_258 : decode b_SM_piece 258 = .ok (.dup, 1) := by decide +kernel
theorem d_SM_piece_259 : decode b_SM_piece 259 = .ok (.getfield 121, 3) := by decide +kernel
theorem d_SM_piece_262 : decode b_SM_piece 262 = .ok (.iconst 2, 1) := by decide +kernel
theorem d_SM_piece_263 : decode b_SM_piece 263 = .ok (.isub, 1) := by decide +kernel
theorem d_SM_piece_264 : decode b_SM_piece 264 = .ok (.putfield 121, 3) := by decide +kernel
theorem d_SM_piece_267 : decode b_SM_piece 267 = .ok (.aload_n 0, 1) := by decide +kernel
theorem d_SM_piece_268 : decode b_SM_piece 268 = .ok (.getfield 121, 3) := by decide +kernel
theorem d_SM_piece_271 : decode b_SM_piece 271 = .ok (.aload_n 0, 1) := by decide +kernel
theorem d_SM_piece_272 : decode b_SM_piece 272 = .ok (.getfield 118, 3) := by decide +kernel
theorem d_SM_piece_275 : decode b_SM_piece 275 = .ok (.isub, 1) := by decide +kernel
theorem d_SM_piece_276 : decode b_SM_piece 276 = .ok (.iconst 2, 1) := by decide +kernel
theorem d_SM_piece_277 : decode b_SM_piece 277 = .ok (.if_icmp .ge 7, 3) := by decide +kernel
theorem d_SM_piece_280 : decode b_SM_piece 280 = .ok (.iconst 3, 1) := by decide +kernel
theorem d_SM_piece_281 : decode b_SM_piece 281 = .ok (.goto 4, 3) := by decide +kernel
theorem d_SM_piece_284 : decode b_SM_piece 284 = .ok (.iconst 2, 1) := by decide +kernel
theorem d_SM_piece_285 : decode b_SM_piece 285 = .ok (.ireturn, 1) := by decide +kernel
theorem d_SM_piece_286 : decode b_SM_piece 286 = .ok (.iload 5, 2) := by decide +kernel
theorem d_SM_piece_288 : decode b_SM_piece 288 = .ok (.iconst 1, 1) := by decide +kernel
theorem d_SM_piece_289 : decode b_SM_piece 289 = .ok (.if_icmp .le 56, 3) := by decide +kernel
theorem d_SM_piece_292 : decode b_SM_piece 292 = .ok (.iload 6, 2) := by decide +kernel
theorem d_SM_piece_294 : decode b_SM_piece 294 = .ok (.ifCond .eq 51, 3) := by decide +kernel
theorem d_SM_piece_297 : decode b_SM_piece 297 = .ok (.aload_n 0, 1) := by decide +kernel
theorem d_SM_piece_298 : decode b_SM_piece 298 = .ok (.getfield 7, 3) := by decide +kernel
theorem d_SM_piece_301 : decode b_SM_piece 301 = .ok (.aload_n 0, 1) := by decide +kernel
theorem d_SM_piece_302 : decode b_SM_piece 302 = .ok (.getfield 121, 3) := by decide +kernel
theorem d_SM_piece_305 : decode b_SM_piece 305 = .ok (.iconst 2, 1) := by decide +kernel
theorem d_SM_piece_306 : decode b_SM_piece 306 = .ok (.isub, 1) := by decide +kernel
theorem d_SM_piece_307 : decode b_SM_piece 307 = .ok (.iaload, 1) := by decide +kernel
theorem d_SM_piece_308 : decode b_SM_piece 308 = .ok (.bipush 46, 2) := by decide +kernel
theorem d_SM_piece_310 : decode b_SM_piece 310 = .ok (.if_icmp .ne 35, 3) := by decide +kernel
theorem d_SM_piece_313 : decode b_SM_piece 313 = .ok (.aload_n 0, 1) := by decide +kernel
theorem d_SM_piece_314 : decode b_SM_piece 314 = .ok (.iconst 1, 1) := by decide +kernel
theorem d_SM_piece_315 : decode b_SM_piece 315 = .ok (.putfield 130, 3) := by decide +kernel
theorem d_SM_piece_318 : decode b_SM_piece 318 = .ok (.aload_n 0, 1) := by decide +kernel
theorem d_SM_piece_319 : decode b_SM_piece 319 = .ok (.dup, 1) := by decide +kernel
theorem d_SM_piece_320 : decode b_SM_piece 320 = .ok (.getfield 121, 3) := by decide +kernel
theorem d_SM_piece_323 : decode b_SM_piece 323 = .ok (.iconst 2, 1) := by decide +kernel
theorem d_SM_piece_324 : decode b_SM_piece 324 = .ok (.isub, 1) := by decide +kernel
theorem d_SM_piece_325 : decode b_SM_piece 325 = .ok (.putfield 121, 3) := by decide +kernel
theorem d_SM_piece_328 : decode b_SM_piece 328 = .ok (.aload_n 0, 1) := by decide +kernel
theorem d_SM_piece_329 : decode b_SM_piece 329 = .ok (.getfield 121, 3) := by decide +kernel
theorem d_SM_piece_332 : decode b_SM_piece 332 = .ok (.aload_n 0, 1) := by decide +kernel
theorem d_SM_piece_333 : decode b_SM_piece 333 = .ok (.getfield 118, 3) := by decide +kernel
theorem d_SM_piece_336 : decode b_SM_piece 336 = .ok (.if_icmp .ne 7, 3) := by decide +kernel
theorem d_SM_piece_339 : decode b_SM_piece 339 = .ok (.iconst 3, 1) := by decide +kernel
theorem d_SM_piece_340 : decode b_SM_piece 340 = .ok (.goto 4, 3) := by decide +kernel
theorem d_SM_piece_343 : decode b_SM_piece 343 = .ok (.iconst 2, 1) := by decide +kernel
theorem d_SM_piece_344 : decode b_SM_piece 344 = .ok (.ireturn, 1) := by decide +kernel
theorem d_SM_piece_345 : decode b_SM_piece 345 = .ok (.aload_n 0, 1) := by decide +kernel
theorem d_SM_piece_346 : decode b_SM_piece 346 = .ok (.iload 6, 2) := by decide +kernel
theorem d_SM_piece_348 : decode b_SM_piece 348 = .ok (.ifCond .eq 7, 3) := by decide +kernel
theorem d_SM_piece_351 : decode b_SM_piece 351 = .ok (.iconst 3, 1) := by decide +kernel
theorem d_SM_piece_352 : decode b_SM_piece 352 = .ok (.goto 4, 3) := by decide +kernel
theorem d_SM_piece_355 : decode b_SM_piece 355 = .ok (.iconst 0, 1) := by decide +kernel
theorem d_SM_piece_356 : decode b_SM_piece 356 = .ok (.putfield 130, 3) := by decide +kernel
theorem d_SM_piece_359 : decode b_SM_piece 359 = .ok (.iload 6, 2) := by decide +kernel
theorem d_SM_piece_361 : decode b_SM_piece 361 = .ok (.ifCond .eq 13, 3) := by decide +kernel
theorem d_SM_piece_364 : decode b_SM_piece 364 = .ok (.aload_n 0, 1) := by decide +kernel
theorem d_SM_piece_365 : decode b_SM_piece 365 = .ok (.dup, 1) := by decide +kernel
theorem d_SM_piece_366 : decode b_SM_piece 366 = .ok (.getfield 121, 3) := by decide +kernel
theorem d_SM_piece_369 : decode b_SM_piece 369 = .ok (.iconst 1, 1) := by decide +kernel
theorem d_SM_piece_370 : decode b_SM_piece 370 = .ok (.isub, 1) := by decide +kernel
theorem d_SM_piece_371 : decode b_SM_piece 371 = .ok (.putfield 121, 3) := by decide +kernel
theorem d_SM_piece_374 : decode b_SM_piece 374 = .ok (.iload 5, 2) := by decide +kernel
theorem d_SM_piece_376 : decode b_SM_piece 376 = .ok (.ifCond .ne 7, 3) := by decide +kernel
theorem d_SM_piece_379 : decode b_SM_piece 379 = .ok (.iconst 3, 1) := by decide +kernel
theorem d_SM_piece_380 : decode b_SM_piece 380 = .ok (.goto 4, 3) := by decide +kernel
theorem d_SM_piece_383 : decode b_SM_piece 383 = .ok (.iconst 2, 1) := by decide +kernel
theorem d_SM_piece_384 : decode b_SM_piece 384 = .ok (.ireturn, 1) := by decide +kernel
set_option maxHeartbeats 4000000 in
set_option maxRecDepth 100000 in
/-- piece -/
theorem c_SM_piece (G : GG) (l : Launch) (sz : Nat) (f : Wd) {mo : Nat} {ar : Nat → Nat} {sc : Nat → Int32} {av : Nat → Nat → Int32} (hM : Mw G mo ar sc av f) {a E0 e0 : Nat} (haE : a ≤ E0) (hE0 : E0 ≤ 4200) (hS : sgs (av 0) E0) (hee : e0 = pnx (av 0) E0 a) : Ci G l y_SM_piece b_SM_piece 7 (some .int) ({ frames := 2, cells := 0, slots := 0, locals := 54 }) sz f [.ref mo, .int (nI a), .int (nI E0)] (fun v f' => ∃ sc' : Nat → Int32, Mw G mo ar sc' av f' ∧ Mx mo ar f f' ∧ (∀ k, k < 13 → sc' k = sc k) ∧ v = nI (pkd (av 0) a e0) ∧ pcd (av 0) a e0 sc') := by
  refine ct_of (by decide) (Nat.le_of_ble_eq_true rfl) ?_
  intro p e s m below meth c ls H locs hEn
  obtain ⟨hc, hr, hlk, hin, hE, hw, hsz, hl⟩ := hEn
  have hx := hc.1
  have hb := hc.2.1
  have hl : lv_has ls 7 [(0, .ref mo), (1, .int (nI a)), (2, .int (nI E0))] := hl
  have hX : Mx mo ar f f := Mx.rf
  have hei := pnx_in (t := av 0) haE
  rw [← hee] at hei
  refine lv_aload_n hx hb d_SM_piece_0 rfl (lv_at hl 0 rfl) ?_
  refine lv_iload_n hx hb d_SM_piece_1 rfl (lv_at hl 1 rfl) ?_
  refine m_mput (sc' := (upd sc 13 (nI a))) hc hE hw hM hX l_SM_101_SM rfl ds_SM_23 rfl rfl rfl d_SM_piece_2 (fun H locs f21 hM22 hX23 hw => ?_)
  refine lv_aload_n hx hb d_SM_piece_5 rfl (lv_at hl 0 rfl) ?_
  refine lv_aload_n hx hb d_SM_piece_6 rfl (lv_at hl 0 rfl) ?_
  refine lv_bipush (v := 59) hx hb d_SM_piece_7 (by decide) ?_
  refine lv_iload_n hx hb d_SM_piece_9 rfl (lv_at hl 1 rfl) ?_
  refine lv_iload_n hx hb d_SM_piece_10 rfl (lv_at hl 2 rfl) ?_
  refine m_calli hw (m_runV (As := [.int 59, .int (nI a), .int (nI E0)]) (rest := [.ref mo]) hc hE hw (c_SM_find G l H.size f21 hM22 59 haE hE0) hM22.1 rfl cw_SM_104 se_SM_find rfl hl.1 rfl (Nat.le_of_ble_eq_true rfl) d_SM_piece_11 ⟨rfl, rfl, by decide, by decide⟩ ⟨by first | decide | (dsimp only; omega), by first | decide | (dsimp only; omega)⟩) (fun r26 g25 H locs p24 hw => ?_)
  obtain ⟨rfl, p24⟩ := p24
  subst p24
  refine m_top (y := nI e0) (congrArg nI hee.symm) ?_
  refine m_mput (sc' := (upd (upd sc 13 (nI a)) 14 (nI e0))) hc hE hw hM22 hX23 l_SM_108_SM rfl ds_SM_24 rfl rfl rfl d_SM_piece_14 (fun H locs f27 hM28 hX29 hw => ?_)
  refine lv_aload_n hx hb d_SM_piece_17 rfl (lv_at hl 0 rfl) ?_
  refine m_mget (v := .int (nI e0)) hc hE hw hM28 l_SM_108_SM rfl d_SM_piece_18 ?_
  refine lv_iload_n hx hb d_SM_piece_21 rfl (lv_at hl 1 rfl) ?_
  refine lv_icmp_ne (tgt := 27) hx hb d_SM_piece_22 (by decide) (fun c30 => ?_) (fun c30 => ?_)
  · have c30n : ¬ (e0 = a) := fun z => c30 ((nI_eq (a := e0) (b := a) (by omega) (by omega)).mpr z)
    refine lv_aload_n hx hb d_SM_piece_27 rfl (lv_at hl 0 rfl) ?_
    refine lv_bipush (v := 61) hx hb d_SM_piece_28 (by decide) ?_
    refine lv_iload_n hx hb d_SM_piece_30 rfl (lv_at hl 1 rfl) ?_
    refine lv_aload_n hx hb d_SM_piece_31 rfl (lv_at hl 0 rfl) ?_
    refine m_mget (v := .int (nI e0)) hc hE hw hM28 l_SM_108_SM rfl d_SM_piece_32 ?_
    refine m_calli hw (m_runV (As := [.int 61, .int (nI a), .int (nI e0)]) (rest := []) hc hE hw (c_SM_find G l H.size f27 hM28 61 hei.1 (by omega)) hM28.1 rfl cw_SM_104 se_SM_find rfl hl.1 rfl (Nat.le_of_ble_eq_true rfl) d_SM_piece_35 ⟨rfl, rfl, by decide, by decide⟩ ⟨by first | decide | (dsimp only; omega), by first | decide | (dsimp only; omega)⟩) (fun r33 g32 H locs p31 hw => ?_)
    obtain ⟨rfl, p31⟩ := p31
    subst p31
    refine m_top (y := nI (eqc (av 0) a e0)) rfl ?_
    refine lv_istore_n (lv' := [(3, .int (nI (eqc (av 0) a e0))), (0, .ref mo), (1, .int (nI a)), (2, .int (nI E0))]) hx hb d_SM_piece_38 rfl hl (by decide) rfl (fun ls hl => ?_)
    have hqi := fnd_in (av 0) 61 (e0 - a) a
    change a ≤ eqc (av 0) a e0 ∧ eqc (av 0) a e0 ≤ a + (e0 - a) at hqi
    refine lv_iload_n hx hb d_SM_piece_39 rfl (lv_at hl 0 rfl) ?_
    refine lv_aload_n hx hb d_SM_piece_40 rfl (lv_at hl 1 rfl) ?_
    refine m_mget (v := .int (nI e0)) hc hE hw hM28 l_SM_108_SM rfl d_SM_piece_41 ?_
    refine lv_icmp_ge (tgt := 58) hx hb d_SM_piece_44 (by decide) (fun c34 => ?_) (fun c34 => ?_)
    · have c34n : e0 ≤ (eqc (av 0) a e0) := (nI_leI (a := e0) (b := (eqc (av 0) a e0)) (by omega) (by omega)).mp c34
      have hna : ¬ a = e0 := by omega
      have hnq : ¬ eqc (av 0) a e0 < e0 := by omega
      have hm0 := m0c_in (t := av 0) (a := a) (e := e0) (by omega)
      have hsl := slc_in (t := av 0) (a := a) (e := e0) (by omega)
      have hq0 := q0c_in (t := av 0) (a := a) (e := e0) (by omega)
      have J5 : ∀ (fj : Wd) (ls : Array Slot) (H : Heap) (locs : List Loc), Mw G mo ar (upd (upd (upd (upd (upd (upd (upd sc 13 (nI a)) 14 (nI e0)) 17 (bI (av 0 a = 33))) 18 (nI (m0c (av 0) a))) 19 (nI (m1c (av 0) a e0))) 20 (nI (q0c (av 0) a e0))) 21 (nI e0)) av fj → Mx mo ar f fj → (¬ slc (av 0) a e0 = e0 → m0c (av 0) a < slc (av 0) a e0) → ¬ (s2 (av 0) (q0c (av 0) a e0) e0) → ¬ (s1 (av 0) (q0c (av 0) a e0) e0) → ms G.1 (Af f sz) fj s H locs → lv_has ls 7 [(0, .ref mo), (5, .int (nI (e0 - (q0c (av 0) a e0)))), (6, .int (bI (s3 (av 0) (q0c (av 0) a e0) e0)))] → W p l e ({ frames := 2, cells := 0, slots := 0, locals := 54 }) s m ([.ref mo, .int (nI a), .int (nI E0)] : List Value).toArray below meth c H locs 0 0 (MQ below (va_Qi (fun v f' => ∃ sc' : Nat → Int32, Mw G mo ar sc' av f' ∧ Mx mo ar f f' ∧ (∀ k, k < 13 → sc' k = sc k) ∧ v = nI (pkd (av 0) a e0) ∧ pcd (av 0) a e0 sc') (Bw G f sz) (Af f sz)) ([.ref mo, .int (nI a), .int (nI E0)] : List Value).toArray s 0 0 (Af f sz)) (F0 m 345 ls []) := by
        intro  fj ls H locs hMj hXj hok1 hn2 hn1 hw hl
        refine lv_aload_n hx hb d_SM_piece_345 rfl (lv_at hl 0 rfl) ?_
        refine lv_iload hx hb d_SM_piece_346 (lv_at hl 2 rfl) ?_
        refine lv_if_eq (tgt := 355) hx hb d_SM_piece_348 (by decide) (fun c35 => ?_) (fun c35 => ?_)
        · have c35n : ¬ (s3 (av 0) (q0c (av 0) a e0) e0) := bI_0.mp c35
          refine lv_iconst (v := 0) hx hb d_SM_piece_355 (by decide) ?_
          refine m_mput (sc' := (upd (upd (upd (upd (upd (upd (upd (upd sc 13 (nI a)) 14 (nI e0)) 17 (bI (av 0 a = 33))) 18 (nI (m0c (av 0) a))) 19 (nI (m1c (av 0) a e0))) 20 (nI (q0c (av 0) a e0))) 21 (nI e0)) 22 0)) hc hE hw hMj hXj l_SM_130_SM rfl ds_SM_32 rfl rfl rfl d_SM_piece_356 (fun H locs f36 hM37 hX38 hw => ?_)
          refine lv_iload hx hb d_SM_piece_359 (lv_at hl 2 rfl) ?_
          refine lv_if_eq (tgt := 374) hx hb d_SM_piece_361 (by decide) (fun c39 => ?_) (fun c39 => ?_)
          · have c39n : ¬ (s3 (av 0) (q0c (av 0) a e0) e0) := bI_0.mp c39
            refine lv_iload hx hb d_SM_piece_374 (lv_at hl 1 rfl) ?_
            refine lv_if_ne (tgt := 383) hx hb d_SM_piece_376 (by decide) (fun c40 => ?_) (fun c40 => ?_)
            · have c40n : ¬ ((e0 - (q0c (av 0) a e0)) = 0) := fun z => c40 ((nI_eq (a := (e0 - (q0c (av 0) a e0))) (b := 0) (by omega) (by omega)).mpr z)
              refine lv_iconst (v := 2) hx hb d_SM_piece_383 (by decide) ?_
              have hpk := pkd2 (S := av 0) hna hnq ⟨hok1, fun z => absurd z hn2, fun _ z => absurd z hn1, fun _ _ _ => by omega⟩
              exact m_iret hc hr hlk hw ⟨by first | decide | (dsimp only; omega), by first | decide | (dsimp only; omega)⟩ d_SM_piece_384 ⟨_, hM37, hX38, (fun k hk => by repeat rw [upd_ne' _ _ _ (by omega)]), by rw [hpk]; rfl, rfl, fun z => absurd (hpk.symm.trans z) (by decide), fun _ => ⟨rfl, rfl, rfl, rfl, by rw [qtm0 hn2 hn1 c35n]; rfl, by rw [shp0 hn2 hn1 c35n]; rfl⟩⟩
            · have c40n : (e0 - (q0c (av 0) a e0)) = 0 := (nI_eq (a := (e0 - (q0c (av 0) a e0))) (b := 0) (by omega) (by omega)).mp c40
              refine lv_iconst (v := 3) hx hb d_SM_piece_379 (by decide) ?_
              refine lv_goto (tgt := 384) hx hb d_SM_piece_380 (by decide) ?_
              have hpk := pkd3 (S := av 0) hna hnq (fun z => absurd (z.2.2.2 hn2 hn1 c35n) (by omega))
              exact m_iret hc hr hlk hw ⟨by first | decide | (dsimp only; omega), by first | decide | (dsimp only; omega)⟩ d_SM_piece_384 ⟨_, hM37, hX38, (fun k hk => by repeat rw [upd_ne' _ _ _ (by omega)]), by rw [hpk]; rfl, rfl, fun z => absurd (hpk.symm.trans z) (by decide), fun z => absurd (hpk.symm.trans z) (by decide)⟩
          · have c39n : (s3 (av 0) (q0c (av 0) a e0) e0) := bI_n.mp c39
            exact absurd c39n c35n
        · have c35n : (s3 (av 0) (q0c (av 0) a e0) e0) := bI_n.mp c35
          refine lv_iconst (v := 3) hx hb d_SM_piece_351 (by decide) ?_
          refine lv_goto (tgt := 356) hx hb d_SM_piece_352 (by decide) ?_
          refine m_mput (sc' := (upd (upd (upd (upd (upd (upd (upd (upd sc 13 (nI a)) 14 (nI e0)) 17 (bI (av 0 a = 33))) 18 (nI (m0c (av 0) a))) 19 (nI (m1c (av 0) a e0))) 20 (nI (q0c (av 0) a e0))) 21 (nI e0)) 22 3)) hc hE hw hMj hXj l_SM_130_SM rfl ds_SM_32 rfl rfl rfl d_SM_piece_356 (fun H locs f41 hM42 hX43 hw => ?_)
          have hge1 := c35n.1
          refine lv_iload hx hb d_SM_piece_359 (lv_at hl 2 rfl) ?_
          refine lv_if_eq (tgt := 374) hx hb d_SM_piece_361 (by decide) (fun c44 => ?_) (fun c44 => ?_)
          · have c44n : ¬ (s3 (av 0) (q0c (av 0) a e0) e0) := bI_0.mp c44
            exact absurd c35n c44n
          · have c44n : (s3 (av 0) (q0c (av 0) a e0) e0) := bI_n.mp c44
            refine lv_aload_n hx hb d_SM_piece_364 rfl (lv_at hl 0 rfl) ?_
            refine lv_dup hx hb d_SM_piece_365 rfl ?_
            refine m_mget (v := .int (nI e0)) hc hE hw hM42 l_SM_121_SM rfl d_SM_piece_366 ?_
            refine lv_iconst (v := 1) hx hb d_SM_piece_369 (by decide) ?_
            refine lv_isub hx hb d_SM_piece_370 ?_
            refine m_top (y := (nI (e0 - 1))) (pk_sub (a := e0) (b := 1) (by omega)) ?_
            refine m_mput (sc' := (upd (upd (upd (upd (upd (upd (upd (upd sc 13 (nI a)) 14 (nI e0)) 17 (bI (av 0 a = 33))) 18 (nI (m0c (av 0) a))) 19 (nI (m1c (av 0) a e0))) 20 (nI (q0c (av 0) a e0))) 21 (nI (e0 - 1))) 22 3)) hc hE hw hM42 hX43 l_SM_121_SM rfl ds_SM_31 rfl rfl rfl d_SM_piece_371 (fun H locs f45 hM46 hX47 hw => ?_)
            refine lv_iload hx hb d_SM_piece_374 (lv_at hl 1 rfl) ?_
            refine lv_if_ne (tgt := 383) hx hb d_SM_piece_376 (by decide) (fun c48 => ?_) (fun c48 => ?_)
            · have c48n : ¬ ((e0 - (q0c (av 0) a e0)) = 0) := fun z => c48 ((nI_eq (a := (e0 - (q0c (av 0) a e0))) (b := 0) (by omega) (by omega)).mpr z)
              refine lv_iconst (v := 2) hx hb d_SM_piece_383 (by decide) ?_
              have hpk := pkd2 (S := av 0) hna hnq ⟨hok1, fun z => absurd z hn2, fun _ z => absurd z hn1, fun _ _ _ => by omega⟩
              exact m_iret hc hr hlk hw ⟨by first | decide | (dsimp only; omega), by first | decide | (dsimp only; omega)⟩ d_SM_piece_384 ⟨_, hM46, hX47, (fun k hk => by repeat rw [upd_ne' _ _ _ (by omega)]), by rw [hpk]; rfl, rfl, fun z => absurd (hpk.symm.trans z) (by decide), fun _ => ⟨rfl, rfl, rfl, rfl, by rw [qtm3 hn2 hn1 c35n]; rfl, by rw [shp3 hn2 hn1 c35n]; rfl⟩⟩
            · have c48n : (e0 - (q0c (av 0) a e0)) = 0 := (nI_eq (a := (e0 - (q0c (av 0) a e0))) (b := 0) (by omega) (by omega)).mp c48
              refine lv_iconst (v := 3) hx hb d_SM_piece_379 (by decide) ?_
              refine lv_goto (tgt := 384) hx hb d_SM_piece_380 (by decide) ?_
              have hpk := pkd3 (S := av 0) hna hnq (fun z => absurd (z.2.2.2 hn2 hn1 (fun _ => absurd c35n.1 (by omega))) (by omega))
              exact m_iret hc hr hlk hw ⟨by first | decide | (dsimp only; omega), by first | decide | (dsimp only; omega)⟩ d_SM_piece_384 ⟨_, hM46, hX47, (fun k hk => by repeat rw [upd_ne' _ _ _ (by omega)]), by rw [hpk]; rfl, rfl, fun z => absurd (hpk.symm.trans z) (by decide), fun z => absurd (hpk.symm.trans z) (by decide)⟩
      have J4 : ∀ (fj : Wd) (ls : Array Slot) (H : Heap) (locs : List Loc), Mw G mo ar (upd (upd (upd (upd (upd (upd (upd sc 13 (nI a)) 14 (nI e0)) 17 (bI (av 0 a = 33))) 18 (nI (m0c (av 0) a))) 19 (nI (m1c (av 0) a e0))) 20 (nI (q0c (av 0) a e0))) 21 (nI e0)) av fj → Mx mo ar f fj → (¬ slc (av 0) a e0 = e0 → m0c (av 0) a < slc (av 0) a e0) → ¬ (s2 (av 0) (q0c (av 0) a e0) e0) → ms G.1 (Af f sz) fj s H locs → lv_has ls 7 [(0, .ref mo), (5, .int (nI (e0 - (q0c (av 0) a e0)))), (6, .int (bI (s3 (av 0) (q0c (av 0) a e0) e0)))] → W p l e ({ frames := 2, cells := 0, slots := 0, locals := 54 }) s m ([.ref mo, .int (nI a), .int (nI E0)] : List Value).toArray below meth c H locs 0 0 (MQ below (va_Qi (fun v f' => ∃ sc' : Nat → Int32, Mw G mo ar sc' av f' ∧ Mx mo ar f f' ∧ (∀ k, k < 13 → sc' k = sc k) ∧ v = nI (pkd (av 0) a e0) ∧ pcd (av 0) a e0 sc') (Bw G f sz) (Af f sz)) ([.ref mo, .int (nI a), .int (nI E0)] : List Value).toArray s 0 0 (Af f sz)) (F0 m 286 ls []) := by
        intro  fj ls H locs hMj hXj hok1 hn2 hw hl
        refine lv_iload hx hb d_SM_piece_286 (lv_at hl 1 rfl) ?_
        refine lv_iconst (v := 1) hx hb d_SM_piece_288 (by decide) ?_
        refine lv_icmp_le (tgt := 345) hx hb d_SM_piece_289 (by decide) (fun c49 => ?_) (fun c49 => ?_)
        · have c49n : (e0 - (q0c (av 0) a e0)) ≤ 1 := (nI_leI (a := (e0 - (q0c (av 0) a e0))) (b := 1) (by omega) (by omega)).mp c49
          exact J5 fj ls H locs hMj hXj hok1 hn2 (fun z => absurd z.1 (by omega)) hw (lv_sub hl [0, 1, 2] rfl)
        · have c49n : ¬ ((e0 - (q0c (av 0) a e0)) ≤ 1) := fun z => c49 ((nI_leI (a := (e0 - (q0c (av 0) a e0))) (b := 1) (by omega) (by omega)).mpr z)
          refine lv_iload hx hb d_SM_piece_292 (lv_at hl 2 rfl) ?_
          refine lv_if_eq (tgt := 345) hx hb d_SM_piece_294 (by decide) (fun c50 => ?_) (fun c50 => ?_)
          · have c50n : ¬ (s3 (av 0) (q0c (av 0) a e0) e0) := bI_0.mp c50
            exact J5 fj ls H locs hMj hXj hok1 hn2 (fun z => c50n ⟨by have := z.1; omega, z.2.1⟩) hw (lv_sub hl [0, 1, 2] rfl)
          · have c50n : (s3 (av 0) (q0c (av 0) a e0) e0) := bI_n.mp c50
            refine lv_aload_n hx hb d_SM_piece_297 rfl (lv_at hl 0 rfl) ?_
            refine m_mget (v := .ref (ar 0)) hc hE hw hMj l_SM_7_SM rfl d_SM_piece_298 ?_
            refine lv_aload_n hx hb d_SM_piece_301 rfl (lv_at hl 0 rfl) ?_
            refine m_mget (v := .int (nI e0)) hc hE hw hMj l_SM_121_SM rfl d_SM_piece_302 ?_
            refine lv_iconst (v := 2) hx hb d_SM_piece_305 (by decide) ?_
            refine lv_isub hx hb d_SM_piece_306 ?_
            refine m_top (y := (nI (e0 - 2))) (pk_sub (a := e0) (b := 2) (by omega)) ?_
            refine m_mald (v := ((av 0) (e0 - 2))) hc hE hw hMj (k := 0) (by decide) (vp_in_nI (N := 4200) (by omega) (by decide)) (congrArg (av 0) (nI_clamp (n := (e0 - 2)) (by omega))) d_SM_piece_307 ?_
            refine lv_bipush (v := 46) hx hb d_SM_piece_308 (by decide) ?_
            refine lv_icmp_ne (tgt := 345) hx hb d_SM_piece_310 (by decide) (fun c51 => ?_) (fun c51 => ?_)
            · exact J5 fj ls H locs hMj hXj hok1 hn2 (fun z => c51 z.2.2) hw (lv_sub hl [0, 1, 2] rfl)
            · refine lv_aload_n hx hb d_SM_piece_313 rfl (lv_at hl 0 rfl) ?_
              refine lv_iconst (v := 1) hx hb d_SM_piece_314 (by decide) ?_
              refine m_mput (sc' := (upd (upd (upd (upd (upd (upd (upd (upd sc 13 (nI a)) 14 (nI e0)) 17 (bI (av 0 a = 33))) 18 (nI (m0c (av 0) a))) 19 (nI (m1c (av 0) a e0))) 20 (nI (q0c (av 0) a e0))) 21 (nI e0)) 22 1)) hc hE hw hMj hXj l_SM_130_SM rfl ds_SM_32 rfl rfl rfl d_SM_piece_315 (fun H locs f52 hM53 hX54 hw => ?_)
              refine lv_aload_n hx hb d_SM_piece_318 rfl (lv_at hl 0 rfl) ?_
              refine lv_dup hx hb d_SM_piece_319 rfl ?_
              refine m_mget (v := .int (nI e0)) hc hE hw hM53 l_SM_121_SM rfl d_SM_piece_320 ?_
              refine lv_iconst (v := 2) hx hb d_SM_piece_323 (by decide) ?_
              refine lv_isub hx hb d_SM_piece_324 ?_
              refine m_top (y := (nI (e0 - 2))) (pk_sub (a := e0) (b := 2) (by omega)) ?_
              refine m_mput (sc' := (upd (upd (upd (upd (upd (upd (upd (upd sc 13 (nI a)) 14 (nI e0)) 17 (bI (av 0 a = 33))) 18 (nI (m0c (av 0) a))) 19 (nI (m1c (av 0) a e0))) 20 (nI (q0c (av 0) a e0))) 21 (nI (e0 - 2))) 22 1)) hc hE hw hM53 hX54 l_SM_121_SM rfl ds_SM_31 rfl rfl rfl d_SM_piece_325 (fun H locs f55 hM56 hX57 hw => ?_)
              refine lv_aload_n hx hb d_SM_piece_328 rfl (lv_at hl 0 rfl) ?_
              refine m_mget (v := .int (nI (e0 - 2))) hc hE hw hM56 l_SM_121_SM rfl d_SM_piece_329 ?_
              refine lv_aload_n hx hb d_SM_piece_332 rfl (lv_at hl 0 rfl) ?_
              refine m_mget (v := .int (nI (q0c (av 0) a e0))) hc hE hw hM56 l_SM_118_SM rfl d_SM_piece_333 ?_
              refine lv_icmp_ne (tgt := 343) hx hb d_SM_piece_336 (by decide) (fun c58 => ?_) (fun c58 => ?_)
              · have c58n : ¬ ((e0 - 2) = (q0c (av 0) a e0)) := fun z => c58 ((nI_eq (a := (e0 - 2)) (b := (q0c (av 0) a e0)) (by omega) (by omega)).mpr z)
                refine lv_iconst (v := 2) hx hb d_SM_piece_343 (by decide) ?_
                have hs1 : (s1 (av 0) (q0c (av 0) a e0) e0) := ⟨by omega, c50n.2, c51⟩
                have hpk := pkd2 (S := av 0) hna hnq ⟨hok1, fun z => absurd z hn2, fun _ _ => by omega, fun _ z => absurd hs1 z⟩
                exact m_iret hc hr hlk hw ⟨by first | decide | (dsimp only; omega), by first | decide | (dsimp only; omega)⟩ d_SM_piece_344 ⟨_, hM56, hX57, (fun k hk => by repeat rw [upd_ne' _ _ _ (by omega)]), by rw [hpk]; rfl, rfl, fun z => absurd (hpk.symm.trans z) (by decide), fun _ => ⟨rfl, rfl, rfl, rfl, by rw [qtm1 hn2 hs1]; rfl, by rw [shp1 hn2 hs1]; rfl⟩⟩
              · have c58n : (e0 - 2) = (q0c (av 0) a e0) := (nI_eq (a := (e0 - 2)) (b := (q0c (av 0) a e0)) (by omega) (by omega)).mp c58
                refine lv_iconst (v := 3) hx hb d_SM_piece_339 (by decide) ?_
                refine lv_goto (tgt := 344) hx hb d_SM_piece_340 (by decide) ?_
                have hs1 : (s1 (av 0) (q0c (av 0) a e0) e0) := ⟨by omega, c50n.2, c51⟩
                have hpk := pkd3 (S := av 0) hna hnq (fun z => absurd (z.2.2.1 hn2 hs1) (by omega))
                exact m_iret hc hr hlk hw ⟨by first | decide | (dsimp only; omega), by first | decide | (dsimp only; omega)⟩ d_SM_piece_344 ⟨_, hM56, hX57, (fun k hk => by repeat rw [upd_ne' _ _ _ (by omega)]), by rw [hpk]; rfl, rfl, fun z => absurd (hpk.symm.trans z) (by decide), fun z => absurd (hpk.symm.trans z) (by decide)⟩
      have J3 : ∀ (fj : Wd) (ls : Array Slot) (H : Heap) (locs : List Loc), Mw G mo ar (upd (upd (upd (upd (upd (upd (upd sc 13 (nI a)) 14 (nI e0)) 17 (bI (av 0 a = 33))) 18 (nI (m0c (av 0) a))) 19 (nI (m1c (av 0) a e0))) 20 (nI (q0c (av 0) a e0))) 21 (nI e0)) av fj → Mx mo ar f fj → (¬ slc (av 0) a e0 = e0 → m0c (av 0) a < slc (av 0) a e0) → ms G.1 (Af f sz) fj s H locs → lv_has ls 7 [(0, .ref mo), (5, .int (nI (e0 - (q0c (av 0) a e0)))), (6, .int (bI (s3 (av 0) (q0c (av 0) a e0) e0)))] → W p l e ({ frames := 2, cells := 0, slots := 0, locals := 54 }) s m ([.ref mo, .int (nI a), .int (nI E0)] : List Value).toArray below meth c H locs 0 0 (MQ below (va_Qi (fun v f' => ∃ sc' : Nat → Int32, Mw G mo ar sc' av f' ∧ Mx mo ar f f' ∧ (∀ k, k < 13 → sc' k = sc k) ∧ v = nI (pkd (av 0) a e0) ∧ pcd (av 0) a e0 sc') (Bw G f sz) (Af f sz)) ([.ref mo, .int (nI a), .int (nI E0)] : List Value).toArray s 0 0 (Af f sz)) (F0 m 209 ls []) := by
        intro  fj ls H locs hMj hXj hok1 hw hl
        refine lv_iload hx hb d_SM_piece_209 (lv_at hl 1 rfl) ?_
        refine lv_iconst (v := 2) hx hb d_SM_piece_211 (by decide) ?_
        refine lv_icmp_le (tgt := 286) hx hb d_SM_piece_212 (by decide) (fun c59 => ?_) (fun c59 => ?_)
        · have c59n : (e0 - (q0c (av 0) a e0)) ≤ 2 := (nI_leI (a := (e0 - (q0c (av 0) a e0))) (b := 2) (by omega) (by omega)).mp c59
          exact J4 fj ls H locs hMj hXj hok1 (fun z => absurd z.1 (by omega)) hw (lv_sub hl [0, 1, 2] rfl)
        · have c59n : ¬ ((e0 - (q0c (av 0) a e0)) ≤ 2) := fun z => c59 ((nI_leI (a := (e0 - (q0c (av 0) a e0))) (b := 2) (by omega) (by omega)).mpr z)
          refine lv_iload hx hb d_SM_piece_215 (lv_at hl 2 rfl) ?_
          refine lv_if_eq (tgt := 286) hx hb d_SM_piece_217 (by decide) (fun c60 => ?_) (fun c60 => ?_)
          · have c60n : ¬ (s3 (av 0) (q0c (av 0) a e0) e0) := bI_0.mp c60
            exact J4 fj ls H locs hMj hXj hok1 (fun z => c60n ⟨by have := z.1; omega, z.2.1⟩) hw (lv_sub hl [0, 1, 2] rfl)
          · have c60n : (s3 (av 0) (q0c (av 0) a e0) e0) := bI_n.mp c60
            refine lv_aload_n hx hb d_SM_piece_220 rfl (lv_at hl 0 rfl) ?_
            refine m_mget (v := .ref (ar 0)) hc hE hw hMj l_SM_7_SM rfl d_SM_piece_221 ?_
            refine lv_aload_n hx hb d_SM_piece_224 rfl (lv_at hl 0 rfl) ?_
            refine m_mget (v := .int (nI e0)) hc hE hw hMj l_SM_121_SM rfl d_SM_piece_225 ?_
            refine lv_iconst (v := 2) hx hb d_SM_piece_228 (by decide) ?_
            refine lv_isub hx hb d_SM_piece_229 ?_
            refine m_top (y := (nI (e0 - 2))) (pk_sub (a := e0) (b := 2) (by omega)) ?_
            refine m_mald (v := ((av 0) (e0 - 2))) hc hE hw hMj (k := 0) (by decide) (vp_in_nI (N := 4200) (by omega) (by decide)) (congrArg (av 0) (nI_clamp (n := (e0 - 2)) (by omega))) d_SM_piece_230 ?_
            refine lv_bipush (v := 42) hx hb d_SM_piece_231 (by decide) ?_
            refine lv_icmp_ne (tgt := 286) hx hb d_SM_piece_233 (by decide) (fun c61 => ?_) (fun c61 => ?_)
            · exact J4 fj ls H locs hMj hXj hok1 (fun z => c61 z.2.2.1) hw (lv_sub hl [0, 1, 2] rfl)
            · refine lv_aload_n hx hb d_SM_piece_236 rfl (lv_at hl 0 rfl) ?_
              refine m_mget (v := .ref (ar 0)) hc hE hw hMj l_SM_7_SM rfl d_SM_piece_237 ?_
              refine lv_aload_n hx hb d_SM_piece_240 rfl (lv_at hl 0 rfl) ?_
              refine m_mget (v := .int (nI e0)) hc hE hw hMj l_SM_121_SM rfl d_SM_piece_241 ?_
              refine lv_iconst (v := 3) hx hb d_SM_piece_244 (by decide) ?_
              refine lv_isub hx hb d_SM_piece_245 ?_
              refine m_top (y := (nI (e0 - 3))) (pk_sub (a := e0) (b := 3) (by omega)) ?_
              refine m_mald (v := ((av 0) (e0 - 3))) hc hE hw hMj (k := 0) (by decide) (vp_in_nI (N := 4200) (by omega) (by decide)) (congrArg (av 0) (nI_clamp (n := (e0 - 3)) (by omega))) d_SM_piece_246 ?_
              refine lv_bipush (v := 46) hx hb d_SM_piece_247 (by decide) ?_
              refine lv_icmp_ne (tgt := 286) hx hb d_SM_piece_249 (by decide) (fun c62 => ?_) (fun c62 => ?_)
              · exact J4 fj ls H locs hMj hXj hok1 (fun z => c62 z.2.2.2) hw (lv_sub hl [0, 1, 2] rfl)
              · refine lv_aload_n hx hb d_SM_piece_252 rfl (lv_at hl 0 rfl) ?_
                refine lv_iconst (v := 2) hx hb d_SM_piece_253 (by decide) ?_
                refine m_mput (sc' := (upd (upd (upd (upd (upd (upd (upd (upd sc 13 (nI a)) 14 (nI e0)) 17 (bI (av 0 a = 33))) 18 (nI (m0c (av 0) a))) 19 (nI (m1c (av 0) a e0))) 20 (nI (q0c (av 0) a e0))) 21 (nI e0)) 22 2)) hc hE hw hMj hXj l_SM_130_SM rfl ds_SM_32 rfl rfl rfl d_SM_piece_254 (fun H locs f63 hM64 hX65 hw => ?_)
                refine lv_aload_n hx hb d_SM_piece_257 rfl (lv_at hl 0 rfl) ?_
                refine lv_dup hx hb d_SM_piece_258 rfl ?_
                refine m_mget (v := .int (nI e0)) hc hE hw hM64 l_SM_121_SM rfl d_SM_piece_259 ?_
                refine lv_iconst (v := 2) hx hb d_SM_piece_262 (by decide) ?_
                refine lv_isub hx hb d_SM_piece_263 ?_
                refine m_top (y := (nI (e0 - 2))) (pk_sub (a := e0) (b := 2) (by omega)) ?_
                refine m_mput (sc' := (upd (upd (upd (upd (upd (upd (upd (upd sc 13 (nI a)) 14 (nI e0)) 17 (bI (av 0 a = 33))) 18 (nI (m0c (av 0) a))) 19 (nI (m1c (av 0) a e0))) 20 (nI (q0c (av 0) a e0))) 21 (nI (e0 - 2))) 22 2)) hc hE hw hM64 hX65 l_SM_121_SM rfl ds_SM_31 rfl rfl rfl d_SM_piece_264 (fun H locs f66 hM67 hX68 hw => ?_)
                refine lv_aload_n hx hb d_SM_piece_267 rfl (lv_at hl 0 rfl) ?_
                refine m_mget (v := .int (nI (e0 - 2))) hc hE hw hM67 l_SM_121_SM rfl d_SM_piece_268 ?_
                refine lv_aload_n hx hb d_SM_piece_271 rfl (lv_at hl 0 rfl) ?_
                refine m_mget (v := .int (nI (q0c (av 0) a e0))) hc hE hw hM67 l_SM_118_SM rfl d_SM_piece_272 ?_
                refine lv_isub hx hb d_SM_piece_275 ?_
                refine m_top (y := (nI ((e0 - 2) - (q0c (av 0) a e0)))) (pk_sub (a := (e0 - 2)) (b := (q0c (av 0) a e0)) (by omega)) ?_
                refine lv_iconst (v := 2) hx hb d_SM_piece_276 (by decide) ?_
                refine lv_icmp_ge (tgt := 284) hx hb d_SM_piece_277 (by decide) (fun c69 => ?_) (fun c69 => ?_)
                · have c69n : 2 ≤ ((e0 - 2) - (q0c (av 0) a e0)) := (nI_leI (a := 2) (b := ((e0 - 2) - (q0c (av 0) a e0))) (by omega) (by omega)).mp c69
                  refine lv_iconst (v := 2) hx hb d_SM_piece_284 (by decide) ?_
                  have hs2 : (s2 (av 0) (q0c (av 0) a e0) e0) := ⟨by omega, c60n.2, c61, c62⟩
                  have hpk := pkd2 (S := av 0) hna hnq ⟨hok1, fun _ => by omega, fun z => absurd hs2 z, fun z => absurd hs2 z⟩
                  exact m_iret hc hr hlk hw ⟨by first | decide | (dsimp only; omega), by first | decide | (dsimp only; omega)⟩ d_SM_piece_285 ⟨_, hM67, hX68, (fun k hk => by repeat rw [upd_ne' _ _ _ (by omega)]), by rw [hpk]; rfl, rfl, fun z => absurd (hpk.symm.trans z) (by decide), fun _ => ⟨rfl, rfl, rfl, rfl, by rw [qtm2 hs2]; rfl, by rw [shp2 hs2]; rfl⟩⟩
                · have c69n : ¬ (2 ≤ ((e0 - 2) - (q0c (av 0) a e0))) := fun z => c69 ((nI_leI (a := 2) (b := ((e0 - 2) - (q0c (av 0) a e0))) (by omega) (by omega)).mpr z)
                  refine lv_iconst (v := 3) hx hb d_SM_piece_280 (by decide) ?_
                  refine lv_goto (tgt := 285) hx hb d_SM_piece_281 (by decide) ?_
                  have hs2 : (s2 (av 0) (q0c (av 0) a e0) e0) := ⟨by omega, c60n.2, c61, c62⟩
                  have hpk := pkd3 (S := av 0) hna hnq (fun z => absurd (z.2.1 hs2) (by omega))
                  exact m_iret hc hr hlk hw ⟨by first | decide | (dsimp only; omega), by first | decide | (dsimp only; omega)⟩ d_SM_piece_285 ⟨_, hM67, hX68, (fun k hk => by repeat rw [upd_ne' _ _ _ (by omega)]), by rw [hpk]; rfl, rfl, fun z => absurd (hpk.symm.trans z) (by decide), fun z => absurd (hpk.symm.trans z) (by decide)⟩
      have J2 : ∀ (fj : Wd) (ls : Array Slot) (H : Heap) (locs : List Loc), Mw G mo ar (upd (upd (upd (upd (upd (upd (upd sc 13 (nI a)) 14 (nI e0)) 17 (bI (av 0 a = 33))) 18 (nI (m0c (av 0) a))) 19 (nI (m1c (av 0) a e0))) 20 (nI (q0c (av 0) a e0))) 21 (nI e0)) av fj → Mx mo ar f fj → (¬ slc (av 0) a e0 = e0 → m0c (av 0) a < slc (av 0) a e0) → ms G.1 (Af f sz) fj s H locs → lv_has ls 7 [(0, .ref mo)] → W p l e ({ frames := 2, cells := 0, slots := 0, locals := 54 }) s m ([.ref mo, .int (nI a), .int (nI E0)] : List Value).toArray below meth c H locs 0 0 (MQ below (va_Qi (fun v f' => ∃ sc' : Nat → Int32, Mw G mo ar sc' av f' ∧ Mx mo ar f f' ∧ (∀ k, k < 13 → sc' k = sc k) ∧ v = nI (pkd (av 0) a e0) ∧ pcd (av 0) a e0 sc') (Bw G f sz) (Af f sz)) ([.ref mo, .int (nI a), .int (nI E0)] : List Value).toArray s 0 0 (Af f sz)) (F0 m 170 ls []) := by
        intro  fj ls H locs hMj hXj hok1 hw hl
        refine lv_aload_n hx hb d_SM_piece_170 rfl (lv_at hl 0 rfl) ?_
        refine m_mget (v := .int (nI e0)) hc hE hw hMj l_SM_121_SM rfl d_SM_piece_171 ?_
        refine lv_aload_n hx hb d_SM_piece_174 rfl (lv_at hl 0 rfl) ?_
        refine m_mget (v := .int (nI (q0c (av 0) a e0))) hc hE hw hMj l_SM_118_SM rfl d_SM_piece_175 ?_
        refine lv_isub hx hb d_SM_piece_178 ?_
        refine m_top (y := (nI (e0 - (q0c (av 0) a e0)))) (pk_sub (a := e0) (b := (q0c (av 0) a e0)) (by omega)) ?_
        refine lv_istore (lv' := [(5, .int (nI (e0 - (q0c (av 0) a e0)))), (0, .ref mo)]) hx hb d_SM_piece_179 hl (by decide) rfl (fun ls hl => ?_)
        refine lv_iload hx hb d_SM_piece_181 (lv_at hl 0 rfl) ?_
        refine lv_if_le (tgt := 206) hx hb d_SM_piece_183 (by decide) (fun c70 => ?_) (fun c70 => ?_)
        · have c70n : (e0 - (q0c (av 0) a e0)) ≤ 0 := (nI_leI (a := (e0 - (q0c (av 0) a e0))) (b := 0) (by omega) (by omega)).mp c70
          refine lv_iconst (v := 0) hx hb d_SM_piece_206 (by decide) ?_
          refine lv_istore (lv' := [(6, .int 0), (5, .int (nI (e0 - (q0c (av 0) a e0)))), (0, .ref mo)]) hx hb d_SM_piece_207 hl (by decide) rfl (fun ls hl => ?_)
          have hb3 : bI (s3 (av 0) (q0c (av 0) a e0) e0) = 0 := bI_f (fun z => absurd z.1 (by omega))
          exact J3 fj ls H locs hMj hXj hok1 hw (by rw [hb3]; exact (lv_sub hl [2, 1, 0] rfl))
        · have c70n : ¬ ((e0 - (q0c (av 0) a e0)) ≤ 0) := fun z => c70 ((nI_leI (a := (e0 - (q0c (av 0) a e0))) (b := 0) (by omega) (by omega)).mpr z)
          refine lv_aload_n hx hb d_SM_piece_186 rfl (lv_at hl 1 rfl) ?_
          refine m_mget (v := .ref (ar 0)) hc hE hw hMj l_SM_7_SM rfl d_SM_piece_187 ?_
          refine lv_aload_n hx hb d_SM_piece_190 rfl (lv_at hl 1 rfl) ?_
          refine m_mget (v := .int (nI e0)) hc hE hw hMj l_SM_121_SM rfl d_SM_piece_191 ?_
          refine lv_iconst (v := 1) hx hb d_SM_piece_194 (by decide) ?_
          refine lv_isub hx hb d_SM_piece_195 ?_
          refine m_top (y := (nI (e0 - 1))) (pk_sub (a := e0) (b := 1) (by omega)) ?_
          refine m_mald (v := ((av 0) (e0 - 1))) hc hE hw hMj (k := 0) (by decide) (vp_in_nI (N := 4200) (by omega) (by decide)) (congrArg (av 0) (nI_clamp (n := (e0 - 1)) (by omega))) d_SM_piece_196 ?_
          refine lv_bipush (v := 42) hx hb d_SM_piece_197 (by decide) ?_
          refine lv_icmp_ne (tgt := 206) hx hb d_SM_piece_199 (by decide) (fun c71 => ?_) (fun c71 => ?_)
          · refine lv_iconst (v := 0) hx hb d_SM_piece_206 (by decide) ?_
            refine lv_istore (lv' := [(6, .int 0), (5, .int (nI (e0 - (q0c (av 0) a e0)))), (0, .ref mo)]) hx hb d_SM_piece_207 hl (by decide) rfl (fun ls hl => ?_)
            have hb3 : bI (s3 (av 0) (q0c (av 0) a e0) e0) = 0 := bI_f (fun z => c71 z.2)
            exact J3 fj ls H locs hMj hXj hok1 hw (by rw [hb3]; exact (lv_sub hl [2, 1, 0] rfl))
          · refine lv_iconst (v := 1) hx hb d_SM_piece_202 (by decide) ?_
            refine lv_goto (tgt := 207) hx hb d_SM_piece_203 (by decide) ?_
            refine lv_istore (lv' := [(6, .int 1), (5, .int (nI (e0 - (q0c (av 0) a e0)))), (0, .ref mo)]) hx hb d_SM_piece_207 hl (by decide) rfl (fun ls hl => ?_)
            have hb3 : bI (s3 (av 0) (q0c (av 0) a e0) e0) = 1 := bI_t ⟨by omega, c71⟩
            exact J3 fj ls H locs hMj hXj hok1 hw (by rw [hb3]; exact (lv_sub hl [2, 1, 0] rfl))
      have J1 : ∀ (fj : Wd) (ls : Array Slot) (H : Heap) (locs : List Loc), Mw G mo ar (upd (upd (upd (upd sc 13 (nI a)) 14 (nI e0)) 17 (bI (av 0 a = 33))) 20 (nI (m0c (av 0) a))) av fj → Mx mo ar f fj → ms G.1 (Af f sz) fj s H locs → lv_has ls 7 [(0, .ref mo)] → W p l e ({ frames := 2, cells := 0, slots := 0, locals := 54 }) s m ([.ref mo, .int (nI a), .int (nI E0)] : List Value).toArray below meth c H locs 0 0 (MQ below (va_Qi (fun v f' => ∃ sc' : Nat → Int32, Mw G mo ar sc' av f' ∧ Mx mo ar f f' ∧ (∀ k, k < 13 → sc' k = sc k) ∧ v = nI (pkd (av 0) a e0) ∧ pcd (av 0) a e0 sc') (Bw G f sz) (Af f sz)) ([.ref mo, .int (nI a), .int (nI E0)] : List Value).toArray s 0 0 (Af f sz)) (F0 m 96 ls []) := by
        intro  fj ls H locs hMj hXj hw hl
        refine lv_aload_n hx hb d_SM_piece_96 rfl (lv_at hl 0 rfl) ?_
        refine lv_aload_n hx hb d_SM_piece_97 rfl (lv_at hl 0 rfl) ?_
        refine m_mget (v := .int (nI e0)) hc hE hw hMj l_SM_108_SM rfl d_SM_piece_98 ?_
        refine m_mput (sc' := (upd (upd (upd (upd (upd sc 13 (nI a)) 14 (nI e0)) 17 (bI (av 0 a = 33))) 20 (nI (m0c (av 0) a))) 21 (nI e0))) hc hE hw hMj hXj l_SM_121_SM rfl ds_SM_31 rfl rfl rfl d_SM_piece_101 (fun H locs f72 hM73 hX74 hw => ?_)
        refine lv_aload_n hx hb d_SM_piece_104 rfl (lv_at hl 0 rfl) ?_
        refine lv_aload_n hx hb d_SM_piece_105 rfl (lv_at hl 0 rfl) ?_
        refine m_mget (v := .int (nI (m0c (av 0) a))) hc hE hw hM73 l_SM_118_SM rfl d_SM_piece_106 ?_
        refine m_mput (sc' := (upd (upd (upd (upd (upd (upd sc 13 (nI a)) 14 (nI e0)) 17 (bI (av 0 a = 33))) 18 (nI (m0c (av 0) a))) 20 (nI (m0c (av 0) a))) 21 (nI e0))) hc hE hw hM73 hX74 l_SM_124_SM rfl ds_SM_28 rfl rfl rfl d_SM_piece_109 (fun H locs f75 hM76 hX77 hw => ?_)
        refine lv_aload_n hx hb d_SM_piece_112 rfl (lv_at hl 0 rfl) ?_
        refine lv_aload_n hx hb d_SM_piece_113 rfl (lv_at hl 0 rfl) ?_
        refine m_mget (v := .int (nI (m0c (av 0) a))) hc hE hw hM76 l_SM_118_SM rfl d_SM_piece_114 ?_
        refine m_mput (sc' := (upd (upd (upd (upd (upd (upd (upd sc 13 (nI a)) 14 (nI e0)) 17 (bI (av 0 a = 33))) 18 (nI (m0c (av 0) a))) 19 (nI (m0c (av 0) a))) 20 (nI (m0c (av 0) a))) 21 (nI e0))) hc hE hw hM76 hX77 l_SM_127_SM rfl ds_SM_29 rfl rfl rfl d_SM_piece_117 (fun H locs f78 hM79 hX80 hw => ?_)
        refine lv_aload_n hx hb d_SM_piece_120 rfl (lv_at hl 0 rfl) ?_
        refine lv_bipush (v := 47) hx hb d_SM_piece_121 (by decide) ?_
        refine lv_aload_n hx hb d_SM_piece_123 rfl (lv_at hl 0 rfl) ?_
        refine m_mget (v := .int (nI (m0c (av 0) a))) hc hE hw hM79 l_SM_118_SM rfl d_SM_piece_124 ?_
        refine lv_aload_n hx hb d_SM_piece_127 rfl (lv_at hl 0 rfl) ?_
        refine m_mget (v := .int (nI e0)) hc hE hw hM79 l_SM_121_SM rfl d_SM_piece_128 ?_
        refine m_calli hw (m_runV (As := [.int 47, .int (nI (m0c (av 0) a)), .int (nI e0)]) (rest := []) hc hE hw (c_SM_find G l H.size f78 hM79 47 hm0.2 (by omega)) hM79.1 rfl cw_SM_104 se_SM_find rfl hl.1 rfl (Nat.le_of_ble_eq_true rfl) d_SM_piece_131 ⟨rfl, rfl, by decide, by decide⟩ ⟨by first | decide | (dsimp only; omega), by first | decide | (dsimp only; omega)⟩) (fun r83 g82 H locs p81 hw => ?_)
        obtain ⟨rfl, p81⟩ := p81
        subst p81
        refine m_top (y := nI (slc (av 0) a e0)) rfl ?_
        refine lv_istore (lv' := [(4, .int (nI (slc (av 0) a e0))), (0, .ref mo)]) hx hb d_SM_piece_134 hl (by decide) rfl (fun ls hl => ?_)
        refine lv_iload hx hb d_SM_piece_136 (lv_at hl 0 rfl) ?_
        refine lv_aload_n hx hb d_SM_piece_138 rfl (lv_at hl 1 rfl) ?_
        refine m_mget (v := .int (nI e0)) hc hE hw hM79 l_SM_121_SM rfl d_SM_piece_139 ?_
        refine lv_icmp_ge (tgt := 170) hx hb d_SM_piece_142 (by decide) (fun c84 => ?_) (fun c84 => ?_)
        · have c84n : e0 ≤ (slc (av 0) a e0) := (nI_leI (a := e0) (b := (slc (av 0) a e0)) (by omega) (by omega)).mp c84
          have hse : slc (av 0) a e0 = e0 := by omega
          exact J2 f78 ls H locs (by rw [show m1c (av 0) a e0 = m0c (av 0) a from pif_t hse, show q0c (av 0) a e0 = m0c (av 0) a from pif_t hse]; exact hM79) hX80 (fun z => absurd hse z) hw (lv_sub hl [1] rfl)
        · have c84n : ¬ (e0 ≤ (slc (av 0) a e0)) := fun z => c84 ((nI_leI (a := e0) (b := (slc (av 0) a e0)) (by omega) (by omega)).mpr z)
          refine lv_iload hx hb d_SM_piece_145 (lv_at hl 0 rfl) ?_
          refine lv_aload_n hx hb d_SM_piece_147 rfl (lv_at hl 1 rfl) ?_
          refine m_mget (v := .int (nI (m0c (av 0) a))) hc hE hw hM79 l_SM_118_SM rfl d_SM_piece_148 ?_
          refine lv_icmp_ne (tgt := 156) hx hb d_SM_piece_151 (by decide) (fun c85 => ?_) (fun c85 => ?_)
          · have c85n : ¬ ((slc (av 0) a e0) = (m0c (av 0) a)) := fun z => c85 ((nI_eq (a := (slc (av 0) a e0)) (b := (m0c (av 0) a)) (by omega) (by omega)).mpr z)
            refine lv_aload_n hx hb d_SM_piece_156 rfl (lv_at hl 1 rfl) ?_
            refine lv_iload hx hb d_SM_piece_157 (lv_at hl 0 rfl) ?_
            refine m_mput (sc' := (upd (upd (upd (upd (upd (upd (upd sc 13 (nI a)) 14 (nI e0)) 17 (bI (av 0 a = 33))) 18 (nI (m0c (av 0) a))) 19 (nI (slc (av 0) a e0))) 20 (nI (m0c (av 0) a))) 21 (nI e0))) hc hE hw hM79 hX80 l_SM_127_SM rfl ds_SM_29 rfl rfl rfl d_SM_piece_159 (fun H locs f86 hM87 hX88 hw => ?_)
            refine lv_aload_n hx hb d_SM_piece_162 rfl (lv_at hl 1 rfl) ?_
            refine lv_iload hx hb d_SM_piece_163 (lv_at hl 0 rfl) ?_
            refine lv_iconst (v := 1) hx hb d_SM_piece_165 (by decide) ?_
            refine lv_iadd hx hb d_SM_piece_166 ?_
            refine m_top (y := (nI ((slc (av 0) a e0) + 1))) (nI_add (slc (av 0) a e0) 1) ?_
            refine m_mput (sc' := (upd (upd (upd (upd (upd (upd (upd sc 13 (nI a)) 14 (nI e0)) 17 (bI (av 0 a = 33))) 18 (nI (m0c (av 0) a))) 19 (nI (slc (av 0) a e0))) 20 (nI ((slc (av 0) a e0) + 1))) 21 (nI e0))) hc hE hw hM87 hX88 l_SM_118_SM rfl ds_SM_30 rfl rfl rfl d_SM_piece_167 (fun H locs f89 hM90 hX91 hw => ?_)
            have hse : ¬ slc (av 0) a e0 = e0 := by omega
            exact J2 f89 ls H locs (by rw [show m1c (av 0) a e0 = slc (av 0) a e0 from pif_f hse, show q0c (av 0) a e0 = slc (av 0) a e0 + 1 from pif_f hse]; exact hM90) hX91 (fun _ => by omega) hw (lv_sub hl [1] rfl)
          · have c85n : (slc (av 0) a e0) = (m0c (av 0) a) := (nI_eq (a := (slc (av 0) a e0)) (b := (m0c (av 0) a)) (by omega) (by omega)).mp c85
            refine lv_iconst (v := 3) hx hb d_SM_piece_154 (by decide) ?_
            have hpk := pkd3 (S := av 0) hna hnq (fun z => absurd (z.1 (by omega)) (by omega))
            exact m_iret hc hr hlk hw ⟨by first | decide | (dsimp only; omega), by first | decide | (dsimp only; omega)⟩ d_SM_piece_155 ⟨_, hM79, hX80, (fun k hk => by repeat rw [upd_ne' _ _ _ (by omega)]), by rw [hpk]; rfl, rfl, fun z => absurd (hpk.symm.trans z) (by decide), fun z => absurd (hpk.symm.trans z) (by decide)⟩
      refine lv_aload_n hx hb d_SM_piece_58 rfl (lv_at hl 1 rfl) ?_
      refine lv_aload_n hx hb d_SM_piece_59 rfl (lv_at hl 1 rfl) ?_
      refine m_mget (v := .ref (ar 0)) hc hE hw hM28 l_SM_7_SM rfl d_SM_piece_60 ?_
      refine lv_iload_n hx hb d_SM_piece_63 rfl (lv_at hl 2 rfl) ?_
      refine m_mald (v := ((av 0) a)) hc hE hw hM28 (k := 0) (by decide) (vp_in_nI (N := 4200) (by omega) (by decide)) (congrArg (av 0) (nI_clamp (n := a) (by omega))) d_SM_piece_64 ?_
      refine lv_bipush (v := 33) hx hb d_SM_piece_65 (by decide) ?_
      refine lv_icmp_ne (tgt := 74) hx hb d_SM_piece_67 (by decide) (fun c92 => ?_) (fun c92 => ?_)
      · refine lv_iconst (v := 0) hx hb d_SM_piece_74 (by decide) ?_
        refine m_mput (sc' := (upd (upd (upd sc 13 (nI a)) 14 (nI e0)) 17 0)) hc hE hw hM28 hX29 l_SM_114_SM rfl ds_SM_27 (by decide) (by decide) rfl d_SM_piece_75 (fun H locs f93 hM94 hX95 hw => ?_)
        refine lv_aload_n hx hb d_SM_piece_78 rfl (lv_at hl 1 rfl) ?_
        refine lv_iload_n hx hb d_SM_piece_79 rfl (lv_at hl 2 rfl) ?_
        refine lv_aload_n hx hb d_SM_piece_80 rfl (lv_at hl 1 rfl) ?_
        refine m_mget (v := .int 0) hc hE hw hM94 l_SM_114_SM rfl d_SM_piece_81 ?_
        refine lv_if_eq (tgt := 91) hx hb d_SM_piece_84 (by decide) (fun _ => ?_) (fun z => absurd z (by decide))
        refine lv_iconst (v := 0) hx hb d_SM_piece_91 (by decide) ?_
        refine lv_iadd hx hb d_SM_piece_92 ?_
        refine m_top (y := (nI (a + 0))) (nI_add a 0) ?_
        refine m_mput (sc' := (upd (upd (upd (upd sc 13 (nI a)) 14 (nI e0)) 17 0) 20 (nI (a + 0)))) hc hE hw hM94 hX95 l_SM_118_SM rfl ds_SM_30 rfl rfl rfl d_SM_piece_93 (fun H locs f96 hM97 hX98 hw => ?_)
        exact J1 f96 ls H locs (by rw [bI_f c92, show m0c (av 0) a = a from pif_f c92]; exact hM97) hX98 hw (lv_sub hl [1] rfl)
      · refine lv_iconst (v := 1) hx hb d_SM_piece_70 (by decide) ?_
        refine lv_goto (tgt := 75) hx hb d_SM_piece_71 (by decide) ?_
        refine m_mput (sc' := (upd (upd (upd sc 13 (nI a)) 14 (nI e0)) 17 1)) hc hE hw hM28 hX29 l_SM_114_SM rfl ds_SM_27 (by decide) (by decide) rfl d_SM_piece_75 (fun H locs f99 hM100 hX101 hw => ?_)
        refine lv_aload_n hx hb d_SM_piece_78 rfl (lv_at hl 1 rfl) ?_
        refine lv_iload_n hx hb d_SM_piece_79 rfl (lv_at hl 2 rfl) ?_
        refine lv_aload_n hx hb d_SM_piece_80 rfl (lv_at hl 1 rfl) ?_
        refine m_mget (v := .int 1) hc hE hw hM100 l_SM_114_SM rfl d_SM_piece_81 ?_
        refine lv_if_eq (tgt := 91) hx hb d_SM_piece_84 (by decide) (fun z => absurd z (by decide)) (fun _ => ?_)
        refine lv_iconst (v := 1) hx hb d_SM_piece_87 (by decide) ?_
        refine lv_goto (tgt := 92) hx hb d_SM_piece_88 (by decide) ?_
        refine lv_iadd hx hb d_SM_piece_92 ?_
        refine m_top (y := (nI (a + 1))) (nI_add a 1) ?_
        refine m_mput (sc' := (upd (upd (upd (upd sc 13 (nI a)) 14 (nI e0)) 17 1) 20 (nI (a + 1)))) hc hE hw hM100 hX101 l_SM_118_SM rfl ds_SM_30 rfl rfl rfl d_SM_piece_93 (fun H locs f102 hM103 hX104 hw => ?_)
        exact J1 f102 ls H locs (by rw [bI_t c92, show m0c (av 0) a = a + 1 from pif_t c92]; exact hM103) hX104 hw (lv_sub hl [1] rfl)
    · have c34n : ¬ (e0 ≤ (eqc (av 0) a e0)) := fun z => c34 ((nI_leI (a := e0) (b := (eqc (av 0) a e0)) (by omega) (by omega)).mpr z)
      refine lv_aload_n hx hb d_SM_piece_47 rfl (lv_at hl 1 rfl) ?_
      refine lv_iload_n hx hb d_SM_piece_48 rfl (lv_at hl 2 rfl) ?_
      refine lv_iload_n hx hb d_SM_piece_49 rfl (lv_at hl 0 rfl) ?_
      refine lv_aload_n hx hb d_SM_piece_50 rfl (lv_at hl 1 rfl) ?_
      refine m_mget (v := .int (nI e0)) hc hE hw hM28 l_SM_108_SM rfl d_SM_piece_51 ?_
      refine m_calli hw (m_runV (As := [.int (nI a), .int (nI (eqc (av 0) a e0)), .int (nI e0)]) (rest := []) hc hE hw (c_SM_limitPiece G l H.size f27 hM28 hqi.1 (by omega) (by omega) (fun j hj => hS j (by omega))) hM28.1 rfl cw_SM_111 se_SM_limitPiece rfl hl.1 rfl (Nat.le_of_ble_eq_true rfl) d_SM_piece_54 ⟨rfl, rfl, by decide, by decide⟩ ⟨by first | decide | (dsimp only; omega), by first | decide | (dsimp only; omega)⟩) (fun r107 g106 H locs p105 hw => ?_)
      obtain ⟨sc2, hM2, hX2, hf2, hv2, hk2⟩ := p105
      have hpk := pkd_l (S := av 0) (a := a) (e := e0) (by omega) (by omega)
      exact m_iret hc hr hlk hw ⟨by first | decide | (dsimp only; omega), by first | decide | (dsimp only; omega)⟩ d_SM_piece_57 ⟨sc2, hM2, hX29.tr hX2, fun k hk => (hf2 k (by omega)).trans (by repeat rw [upd_ne' _ _ _ (by omega)]), by rw [hpk, hv2]; by_cases z : lok (av 0) a (eqc (av 0) a e0) e0; rw [pif_t z, pif_t z]; rfl; rw [pif_f z, pif_f z]; rfl, hf2 14 (by decide), fun z => hk2 (Classical.byContradiction (fun y => absurd (z.symm.trans (hpk.trans (pif_f y))) (by decide))), fun z => by rw [hpk] at z; by_cases y : lok (av 0) a (eqc (av 0) a e0) e0; rw [pif_t y] at z; cases z; rw [pif_f y] at z; cases z⟩
  · have c30n : e0 = a := (nI_eq (a := e0) (b := a) (by omega) (by omega)).mp c30
    refine lv_iconst (v := 0) hx hb d_SM_piece_25 (by decide) ?_
    have hpk := pkd0 (S := av 0) (show a = e0 by omega)
    exact m_iret hc hr hlk hw ⟨by first | decide | (dsimp only; omega), by first | decide | (dsimp only; omega)⟩ d_SM_piece_26 ⟨_, hM28, hX29, (fun k hk => by repeat rw [upd_ne' _ _ _ (by omega)]), by rw [hpk]; rfl, rfl, fun z => absurd (hpk.symm.trans z) (by decide), fun z => absurd (hpk.symm.trans z) (by decide)⟩
