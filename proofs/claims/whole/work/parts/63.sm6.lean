/-! links of the pools, as the walks ask for them -/
theorem l_SM_189_SM : lnk "StreamFiltersModel" 189 F_SM 38 37 := ⟨by decide, "StreamFiltersModel", Or.inl rfl, Or.inl (tb 651 (by decide +kernel) rfl)⟩
theorem l_SM_19_SM : lnk "StreamFiltersModel" 19 F_SM 38 7 := ⟨by decide, "StreamFiltersModel", Or.inl rfl, Or.inl (tb 621 (by decide +kernel) rfl)⟩
theorem l_SM_22_SM : lnk "StreamFiltersModel" 22 F_SM 38 8 := ⟨by decide, "StreamFiltersModel", Or.inl rfl, Or.inl (tb 622 (by decide +kernel) rfl)⟩
theorem l_SM_25_SM : lnk "StreamFiltersModel" 25 F_SM 38 9 := ⟨by decide, "StreamFiltersModel", Or.inl rfl, Or.inl (tb 623 (by decide +kernel) rfl)⟩
theorem l_SM_56_SM : lnk "StreamFiltersModel" 56 F_SM 38 35 := ⟨by decide, "StreamFiltersModel", Or.inl rfl, Or.inl (tb 649 (by decide +kernel) rfl)⟩
theorem cw_SM_185 : cwk "StreamFiltersModel" 185 y_SM_askText b_SM_askText 8 (some .int) 4 := ⟨Or.inl (tb 829 (by decide +kernel) rfl), (tb 832 (by decide +kernel) rfl), (tb 5 (by decide +kernel) rfl), by decide, by decide, by decide +kernel⟩
theorem cw_SM_192 : cwk "StreamFiltersModel" 192 y_SM_push b_SM_push 2 none 1 := ⟨Or.inl (tb 821 (by decide +kernel) rfl), (tb 824 (by decide +kernel) rfl), (tb 5 (by decide +kernel) rfl), by decide, by decide, by decide +kernel⟩
theorem se_SM_askText : Cond.instanceMethod y_SM_askText ∈ TB ∧ Cond.selects "StreamFiltersModel" y_SM_askText y_SM_askText ∈ TB := ⟨(tb 831 (by decide +kernel) rfl), (tbs 27 (by decide +kernel) rfl)⟩
theorem se_SM_push : Cond.instanceMethod y_SM_push ∈ TB ∧ Cond.selects "StreamFiltersModel" y_SM_push y_SM_push ∈ TB := ⟨(tb 823 (by decide +kernel) rfl), (tbs 25 (by decide +kernel) rfl)⟩
/-! decode rows -/
theorem d_SM_goOn_0 : decode b_SM_goOn 0 = .ok (.aload_n 0, 1) := by decide +kernel
theorem d_SM_goOn_1 : decode b_SM_goOn 1 = .ok (.getfield 182, 3) := by decide +kernel
theorem d_SM_goOn_4 : decode b_SM_goOn 4 = .ok (.iconst 1, 1) := by decide +kernel
theorem d_SM_goOn_5 : decode b_SM_goOn 5 = .ok (.isub, 1) := by decide +kernel
theorem d_SM_goOn_6 : decode b_SM_goOn 6 = .ok (.istore 4, 2) := by decide +kernel
theorem d_SM_goOn_8 : decode b_SM_goOn 8 = .ok (.aload_n 0, 1) := by decide +kernel
theorem d_SM_goOn_9 : decode b_SM_goOn 9 = .ok (.getfield 50, 3) := by decide +kernel
theorem d_SM_goOn_12 : decode b_SM_goOn 12 = .ok (.iload 4, 2) := by decide +kernel
theorem d_SM_goOn_14 : decode b_SM_goOn 14 = .ok (.iaload, 1) := by decide +kernel
theorem d_SM_goOn_15 : decode b_SM_goOn 15 = .ok (.istore 5, 2) := by decide +kernel
theorem d_SM_goOn_17 : decode b_SM_goOn 17 = .ok (.aload_n 0, 1) := by decide +kernel
theorem d_SM_goOn_18 : decode b_SM_goOn 18 = .ok (.getfield 19, 3) := by decide +kernel
theorem d_SM_goOn_21 : decode b_SM_goOn 21 = .ok (.iload 5, 2) := by decide +kernel
theorem d_SM_goOn_23 : decode b_SM_goOn 23 = .ok (.iaload, 1) := by decide +kernel
theorem d_SM_goOn_24 : decode b_SM_goOn 24 = .ok (.iconst 1, 1) := by decide +kernel
theorem d_SM_goOn_25 : decode b_SM_goOn 25 = .ok (.if_icmp .ne 27, 3) := by decide +kernel
theorem d_SM_goOn_28 : decode b_SM_goOn 28 = .ok (.aload_n 0, 1) := by decide +kernel
theorem d_SM_goOn_29 : decode b_SM_goOn 29 = .ok (.aload_n 0, 1) := by decide +kernel
theorem d_SM_goOn_30 : decode b_SM_goOn 30 = .ok (.iload 5, 2) := by decide +kernel
theorem d_SM_goOn_32 : decode b_SM_goOn 32 = .ok (.iload_n 1, 1) := by decide +kernel
theorem d_SM_goOn_33 : decode b_SM_goOn 33 = .ok (.iload_n 2, 1) := by decide +kernel
theorem d_SM_goOn_34 : decode b_SM_goOn 34 = .ok (.iload_n 3, 1) := by decide +kernel
theorem d_SM_goOn_35 : decode b_SM_goOn 35 = .ok (.invokevirtual 185, 3) := by decide +kernel
theorem d_SM_goOn_38 : decode b_SM_goOn 38 = .ok (.putfield 189, 3) := by decide +kernel
theorem d_SM_goOn_41 : decode b_SM_goOn 41 = .ok (.aload_n 0, 1) := by decide +kernel
theorem d_SM_goOn_42 : decode b_SM_goOn 42 = .ok (.dup, 1) := by decide +kernel
theorem d_SM_goOn_43 : decode b_SM_goOn 43 = .ok (.getfield 182, 3) := by decide +kernel
theorem d_SM_goOn_46 : decode b_SM_goOn 46 = .ok (.iconst 1, 1) := by decide +kernel
theorem d_SM_goOn_47 : decode b_SM_goOn 47 = .ok (.isub, 1) := by decide +kernel
theorem d_SM_goOn_48 : decode b_SM_goOn 48 = .ok (.putfield 182, 3) := by decide +kernel
theorem d_SM_goOn_51 : decode b_SM_goOn 51 = .ok (.return_, 1) := by decide +kernel
theorem d_SM_goOn_52 : decode b_SM_goOn 52 = .ok (.aload_n 0, 1) := by decide +kernel
theorem d_SM_goOn_53 : decode b_SM_goOn 53 = .ok (.getfield 53, 3) := by decide +kernel
theorem d_SM_goOn_56 : decode b_SM_goOn 56 = .ok (.iload 4, 2) := by decide +kernel
theorem d_SM_goOn_58 : decode b_SM_goOn 58 = .ok (.iaload, 1) := by decide +kernel
theorem d_SM_goOn_59 : decode b_SM_goOn 59 = .ok (.ifCond .ne 86, 3) := by decide +kernel
theorem d_SM_goOn_62 : decode b_SM_goOn 62 = .ok (.aload_n 0, 1) := by decide +kernel
theorem d_SM_goOn_63 : decode b_SM_goOn 63 = .ok (.getfield 53, 3) := by decide +kernel
theorem d_SM_goOn_66 : decode b_SM_goOn 66 = .ok (.iload 4, 2) := by decide +kernel
theorem d_SM_goOn_68 : decode b_SM_goOn 68 = .ok (.iconst 1, 1) := by decide +kernel
theorem d_SM_goOn_69 : decode b_SM_goOn 69 = .ok (.iastore, 1) := by decide +kernel
theorem d_SM_goOn_70 : decode b_SM_goOn 70 = .ok (.aload_n 0, 1) := by decide +kernel
theorem d_SM_goOn_71 : decode b_SM_goOn 71 = .ok (.getfield 19, 3) := by decide +kernel
theorem d_SM_goOn_74 : decode b_SM_goOn 74 = .ok (.iload 5, 2) := by decide +kernel
theorem d_SM_goOn_76 : decode b_SM_goOn 76 = .ok (.iaload, 1) := by decide +kernel
theorem d_SM_goOn_77 : decode b_SM_goOn 77 = .ok (.iconst 5, 1) := by decide +kernel
theorem d_SM_goOn_78 : decode b_SM_goOn 78 = .ok (.if_icmp .ne 55, 3) := by decide +kernel
theorem d_SM_goOn_81 : decode b_SM_goOn 81 = .ok (.iload_n 1, 1) := by decide +kernel
theorem d_SM_goOn_82 : decode b_SM_goOn 82 = .ok (.iconst 1, 1) := by decide +kernel
theorem d_SM_goOn_83 : decode b_SM_goOn 83 = .ok (.if_icmp .ne 32, 3) := by decide +kernel
theorem d_SM_goOn_86 : decode b_SM_goOn 86 = .ok (.aload_n 0, 1) := by decide +kernel
theorem d_SM_goOn_87 : decode b_SM_goOn 87 = .ok (.aload_n 0, 1) := by decide +kernel
theorem d_SM_goOn_88 : decode b_SM_goOn 88 = .ok (.getfield 28, 3) := by decide +kernel
theorem d_SM_goOn_91 : decode b_SM_goOn 91 = .ok (.iload 5, 2) := by decide +kernel
theorem d_SM_goOn_93 : decode b_SM_goOn 93 = .ok (.iaload, 1) := by decide +kernel
theorem d_SM_goOn_94 : decode b_SM_goOn 94 = .ok (.aload_n 0, 1) := by decide +kernel
theorem d_SM_goOn_95 : decode b_SM_goOn 95 = .ok (.getfield 28, 3) := by decide +kernel
theorem d_SM_goOn_98 : decode b_SM_goOn 98 = .ok (.iload 5, 2) := by decide +kernel
theorem d_SM_goOn_100 : decode b_SM_goOn 100 = .ok (.iaload, 1) := by decide +kernel
theorem d_SM_goOn_101 : decode b_SM_goOn 101 = .ok (.aload_n 0, 1) := by decide +kernel
theorem d_SM_goOn_102 : decode b_SM_goOn 102 = .ok (.getfield 31, 3) := by decide +kernel
theorem d_SM_goOn_105 : decode b_SM_goOn 105 = .ok (.iload 5, 2) := by decide +kernel
theorem d_SM_goOn_107 : decode b_SM_goOn 107 = .ok (.iaload, 1) := by decide +kernel
theorem d_SM_goOn_108 : decode b_SM_goOn 108 = .ok (.iadd, 1) := by decide +kernel
theorem d_SM_goOn_109 : decode b_SM_goOn 109 = .ok (.invokevirtual 163, 3) := by decide +kernel
theorem d_SM_goOn_112 : decode b_SM_goOn 112 = .ok (.ifCond .ne 21, 3) := by decide +kernel
theorem d_SM_goOn_115 : decode b_SM_goOn 115 = .ok (.aload_n 0, 1) := by decide +kernel
theorem d_SM_goOn_116 : decode b_SM_goOn 116 = .ok (.iconst 0, 1) := by decide +kernel
theorem d_SM_goOn_117 : decode b_SM_goOn 117 = .ok (.putfield 189, 3) := by decide +kernel
theorem d_SM_goOn_120 : decode b_SM_goOn 120 = .ok (.aload_n 0, 1) := by decide +kernel
theorem d_SM_goOn_121 : decode b_SM_goOn 121 = .ok (.dup, 1) := by decide +kernel
theorem d_SM_goOn_122 : decode b_SM_goOn 122 = .ok (.getfield 182, 3) := by decide +kernel
theorem d_SM_goOn_125 : decode b_SM_goOn 125 = .ok (.iconst 1, 1) := by decide +kernel
theorem d_SM_goOn_126 : decode b_SM_goOn 126 = .ok (.isub, 1) := by decide +kernel
theorem d_SM_goOn_127 : decode b_SM_goOn 127 = .ok (.putfield 182, 3) := by decide +kernel
theorem d_SM_goOn_130 : decode b_SM_goOn 130 = .ok (.goto 14, 3) := by decide +kernel
theorem d_SM_goOn_133 : decode b_SM_goOn 133 = .ok (.aload_n 0, 1) := by decide +kernel
theorem d_SM_goOn_134 : decode b_SM_goOn 134 = .ok (.aload_n 0, 1) := by decide +kernel
theorem d_SM_goOn_135 : decode b_SM_goOn 135 = .ok (.getfield 22, 3) := by decide +kernel
theorem d_SM_goOn_138 : decode b_SM_goOn 138 = .ok (.iload 5, 2) := by decide +kernel
theorem d_SM_goOn_140 : decode b_SM_goOn 140 = .ok (.iaload, 1) := by decide +kernel
theorem d_SM_goOn_141 : decode b_SM_goOn 141 = .ok (.invokevirtual 192, 3) := by decide +kernel
theorem d_SM_goOn_144 : decode b_SM_goOn 144 = .ok (.return_, 1) := by decide +kernel
theorem d_SM_goOn_145 : decode b_SM_goOn 145 = .ok (.aload_n 0, 1) := by decide +kernel
theorem d_SM_goOn_146 : decode b_SM_goOn 146 = .ok (.getfield 19, 3) := by decide +kernel
theorem d_SM_goOn_149 : decode b_SM_goOn 149 = .ok (.iload 5, 2) := by decide +kernel
theorem d_SM_goOn_151 : decode b_SM_goOn 151 = .ok (.iaload, 1) := by decide +kernel
theorem d_SM_goOn_152 : decode b_SM_goOn 152 = .ok (.iconst 2, 1) := by decide +kernel
theorem d_SM_goOn_153 : decode b_SM_goOn 153 = .ok (.if_icmp .ne 53, 3) := by decide +kernel
theorem d_SM_goOn_156 : decode b_SM_goOn 156 = .ok (.aload_n 0, 1) := by decide +kernel
theorem d_SM_goOn_157 : decode b_SM_goOn 157 = .ok (.getfield 53, 3) := by decide +kernel
theorem d_SM_goOn_160 : decode b_SM_goOn 160 = .ok (.iload 4, 2) := by decide +kernel
theorem d_SM_goOn_162 : decode b_SM_goOn 162 = .ok (.iaload, 1) := by decide +kernel
theorem d_SM_goOn_163 : decode b_SM_goOn 163 = .ok (.iconst 1, 1) := by decide +kernel
theorem d_SM_goOn_164 : decode b_SM_goOn 164 = .ok (.if_icmp .ne 42, 3) := by decide +kernel
theorem d_SM_goOn_167 : decode b_SM_goOn 167 = .ok (.aload_n 0, 1) := by decide +kernel
theorem d_SM_goOn_168 : decode b_SM_goOn 168 = .ok (.getfield 189, 3) := by decide +kernel
theorem d_SM_goOn_171 : decode b_SM_goOn 171 = .ok (.iconst 2, 1) := by decide +kernel
theorem d_SM_goOn_172 : decode b_SM_goOn 172 = .ok (.if_icmp .eq 34, 3) := by decide +kernel
theorem d_SM_goOn_175 : decode b_SM_goOn 175 = .ok (.aload_n 0, 1) := by decide +kernel
theorem d_SM_goOn_176 : decode b_SM_goOn 176 = .ok (.getfield 53, 3) := by decide +kernel
theorem d_SM_goOn_179 : decode b_SM_goOn 179 = .ok (.iload 4, 2) := by decide +kernel
theorem d_SM_goOn_181 : decode b_SM_goOn 181 = .ok (.iconst 2, 1) := by decide +kernel
theorem d_SM_goOn_182 : decode b_SM_goOn 182 = .ok (.iastore, 1) := by decide +kernel
theorem d_SM_goOn_183 : decode b_SM_goOn 183 = .ok (.aload_n 0, 1) := by decide +kernel
theorem d_SM_goOn_184 : decode b_SM_goOn 184 = .ok (.getfield 56, 3) := by decide +kernel
theorem d_SM_goOn_187 : decode b_SM_goOn 187 = .ok (.iload 4, 2) := by decide +kernel
theorem d_SM_goOn_189 : decode b_SM_goOn 189 = .ok (.aload_n 0, 1) := by decide +kernel
theorem d_SM_goOn_190 : decode b_SM_goOn 190 = .ok (.getfield 189, 3) := by decide +kernel
theorem d_SM_goOn_193 : decode b_SM_goOn 193 = .ok (.iastore, 1) := by decide +kernel
theorem d_SM_goOn_194 : decode b_SM_goOn 194 = .ok (.aload_n 0, 1) := by decide +kernel
theorem d_SM_goOn_195 : decode b_SM_goOn 195 = .ok (.aload_n 0, 1) := by decide +kernel
theorem d_SM_goOn_196 : decode b_SM_goOn 196 = .ok (.getfield 25, 3) := by decide +kernel
theorem d_SM_goOn_199 : decode b_SM_goOn 199 = .ok (.iload 5, 2) := by decide +kernel
theorem d_SM_goOn_201 : decode b_SM_goOn 201 = .ok (.iaload, 1) := by decide +kernel
theorem d_SM_goOn_202 : decode b_SM_goOn 202 = .ok (.invokevirtual 192, 3) := by decide +kernel
theorem d_SM_goOn_205 : decode b_SM_goOn 205 = .ok (.return_, 1) := by decide +kernel
theorem d_SM_goOn_206 : decode b_SM_goOn 206 = .ok (.aload_n 0, 1) := by decide +kernel
theorem d_SM_goOn_207 : decode b_SM_goOn 207 = .ok (.getfield 19, 3) := by decide +kernel
theorem d_SM_goOn_210 : decode b_SM_goOn 210 = .ok (.iload 5, 2) := by decide +kernel
theorem d_SM_goOn_212 : decode b_SM_goOn 212 = .ok (.iaload, 1) := by decide +kernel
theorem d_SM_goOn_213 : decode b_SM_goOn 213 = .ok (.iconst 2, 1) := by decide +kernel
theorem d_SM_goOn_214 : decode b_SM_goOn 214 = .ok (.if_icmp .ne 32, 3) := by decide +kernel
theorem d_SM_goOn_217 : decode b_SM_goOn 217 = .ok (.aload_n 0, 1) := by decide +kernel
theorem d_SM_goOn_218 : decode b_SM_goOn 218 = .ok (.getfield 53, 3) := by decide +kernel
theorem d_SM_goOn_221 : decode b_SM_goOn 221 = .ok (.iload 4, 2) := by decide +kernel
theorem d_SM_goOn_223 : decode b_SM_goOn 223 = .ok (.iaload, 1) := by decide +kernel
theorem d_SM_goOn_224 : decode b_SM_goOn 224 = .ok (.iconst 2, 1) := by decide +kernel
theorem d_SM_goOn_225 : decode b_SM_goOn 225 = .ok (.if_icmp .ne 21, 3) := by decide +kernel
theorem d_SM_goOn_228 : decode b_SM_goOn 228 = .ok (.aload_n 0, 1) := by decide +kernel
theorem d_SM_goOn_229 : decode b_SM_goOn 229 = .ok (.getfield 189, 3) := by decide +kernel
theorem d_SM_goOn_232 : decode b_SM_goOn 232 = .ok (.ifCond .ne 14, 3) := by decide +kernel
theorem d_SM_goOn_235 : decode b_SM_goOn 235 = .ok (.aload_n 0, 1) := by decide +kernel
theorem d_SM_goOn_236 : decode b_SM_goOn 236 = .ok (.aload_n 0, 1) := by decide +kernel
theorem d_SM_goOn_237 : decode b_SM_goOn 237 = .ok (.getfield 56, 3) := by decide +kernel
theorem d_SM_goOn_240 : decode b_SM_goOn 240 = .ok (.iload 4, 2) := by decide +kernel
theorem d_SM_goOn_242 : decode b_SM_goOn 242 = .ok (.iaload, 1) := by decide +kernel
theorem d_SM_goOn_243 : decode b_SM_goOn 243 = .ok (.putfield 189, 3) := by decide +kernel
theorem d_SM_goOn_246 : decode b_SM_goOn 246 = .ok (.aload_n 0, 1) := by decide +kernel
theorem d_SM_goOn_247 : decode b_SM_goOn 247 = .ok (.getfield 19, 3) := by decide +kernel
theorem d_SM_goOn_250 : decode b_SM_goOn 250 = .ok (.iload 5, 2) := by decide +kernel
theorem d_SM_goOn_252 : decode b_SM_goOn 252 = .ok (.iaload, 1) := by decide +kernel
theorem d_SM_goOn_253 : decode b_SM_goOn 253 = .ok (.iconst 3, 1) := by decide +kernel
theorem d_SM_goOn_254 : decode b_SM_goOn 254 = .ok (.if_icmp .ne 35, 3) := by decide +kernel
theorem d_SM_goOn_257 : decode b_SM_goOn 257 = .ok (.aload_n 0, 1) := by decide +kernel
theorem d_SM_goOn_258 : decode b_SM_goOn 258 = .ok (.getfield 189, 3) := by decide +kernel
theorem d_SM_goOn_261 : decode b_SM_goOn 261 = .ok (.ifCond .ne 28, 3) := by decide +kernel
theorem d_SM_goOn_264 : decode b_SM_goOn 264 = .ok (.iload_n 1, 1) := by decide +kernel
theorem d_SM_goOn_265 : decode b_SM_goOn 265 = .ok (.iconst 1, 1) := by decide +kernel
theorem d_SM_goOn_266 : decode b_SM_goOn 266 = .ok (.if_icmp .eq 18, 3) := by decide +kernel
theorem d_SM_goOn_269 : decode b_SM_goOn 269 = .ok (.iload_n 1, 1) := by decide +kernel
theorem d_SM_goOn_270 : decode b_SM_goOn 270 = .ok (.ifCond .ne 19, 3) := by decide +kernel
theorem d_SM_goOn_273 : decode b_SM_goOn 273 = .ok (.aload_n 0, 1) := by decide +kernel
theorem d_SM_goOn_274 : decode b_SM_goOn 274 = .ok (.getfield 34, 3) := by decide +kernel
theorem d_SM_goOn_277 : decode b_SM_goOn 277 = .ok (.iload 5, 2) := by decide +kernel
theorem d_SM_goOn_279 : decode b_SM_goOn 279 = .ok (.iaload, 1) := by decide +kernel
theorem d_SM_goOn_280 : decode b_SM_goOn 280 = .ok (.iconst 1, 1) := by decide +kernel
theorem d_SM_goOn_281 : decode b_SM_goOn 281 = .ok (.if_icmp .ne 8, 3) := by decide +kernel
theorem d_SM_goOn_284 : decode b_SM_goOn 284 = .ok (.aload_n 0, 1) := by decide +kernel
theorem d_SM_goOn_285 : decode b_SM_goOn 285 = .ok (.iconst 2, 1) := by decide +kernel
theorem d_SM_goOn_286 : decode b_SM_goOn 286 = .ok (.putfield 189, 3) := by decide +kernel
theorem d_SM_goOn_289 : decode b_SM_goOn 289 = .ok (.aload_n 0, 1) := by decide +kernel
theorem d_SM_goOn_290 : decode b_SM_goOn 290 = .ok (.getfield 19, 3) := by decide +kernel
theorem d_SM_goOn_293 : decode b_SM_goOn 293 = .ok (.iload 5, 2) := by decide +kernel
theorem d_SM_goOn_295 : decode b_SM_goOn 295 = .ok (.iaload, 1) := by decide +kernel
theorem d_SM_goOn_296 : decode b_SM_goOn 296 = .ok (.iconst 4, 1) := by decide +kernel
theorem d_SM_goOn_297 : decode b_SM_goOn 297 = .ok (.if_icmp .ne 21, 3) := by decide +kernel
theorem d_SM_goOn_300 : decode b_SM_goOn 300 = .ok (.aload_n 0, 1) := by decide +kernel
theorem d_SM_goOn_301 : decode b_SM_goOn 301 = .ok (.getfield 189, 3) := by decide +kernel
theorem d_SM_goOn_304 : decode b_SM_goOn 304 = .ok (.ifCond .ne 14, 3) := by decide +kernel
theorem d_SM_goOn_307 : decode b_SM_goOn 307 = .ok (.aload_n 0, 1) := by decide +kernel
theorem d_SM_goOn_308 : decode b_SM_goOn 308 = .ok (.aload_n 0, 1) := by decide +kernel
theorem d_SM_goOn_309 : decode b_SM_goOn 309 = .ok (.getfield 34, 3) := by decide +kernel
theorem d_SM_goOn_312 : decode b_SM_goOn 312 = .ok (.iload 5, 2) := by decide +kernel
theorem d_SM_goOn_314 : decode b_SM_goOn 314 = .ok (.iaload, 1) := by decide +kernel
theorem d_SM_goOn_315 : decode b_SM_goOn 315 = .ok (.putfield 189, 3) := by decide +kernel
theorem d_SM_goOn_318 : decode b_SM_goOn 318 = .ok (.aload_n 0, 1) := by decide +kernel
theorem d_SM_goOn_319 : decode b_SM_goOn 319 = .ok (.dup, 1) := by decide +kernel
theorem d_SM_goOn_320 : decode b_SM_goOn 320 = .ok (.getfield 182, 3) := by decide +kernel
theorem d_SM_goOn_323 : decode b_SM_goOn 323 = .ok (.iconst 1, 1) := by decide +kernel
theorem d_SM_goOn_324 : decode b_SM_goOn 324 = .ok (.isub, 1) := by decide +kernel
theorem d_SM_goOn_325 : decode b_SM_goOn 325 = .ok (.putfield 182, 3) := by decide +kernel
theorem d_SM_goOn_328 : decode b_SM_goOn 328 = .ok (.return_, 1) := by decide +kernel
set_option maxHeartbeats 4000000 in
set_option maxRecDepth 100000 in
/-- goOn -/
theorem c_SM_goOn1 (G : GG) (l : Launch) (sz : Nat) (f : Wd) {mo : Nat} {ar : Nat → Nat} {sc : Nat → Int32} {av : Nat → Nat → Int32} (hM : Mw G mo ar sc av f) {tp nd : Nat} (htp : sc 11 = nI (tp + 1)) (hlt : tp < 19) (hnd : nd < 520) (hno : av 12 tp = nI nd) (so di le : Int32) (hso : av 3 nd = 1) {b n : Nat} {t : Nat → Int32} (hA : agr (av 0) b t n) (hbn : b + n ≤ 4200) (hS : sgs (av 0) (b + n)) (hta : av 6 nd = nI b) (htl : av 7 nd = nI n) {nn mn : Nat} (hnn : sc 2 = nI nn) (hmn : sc 3 = nI mn) (hn : nn ≤ 40) (hmm : mn ≤ 12) : Cv G l y_SM_goOn b_SM_goOn 6 none ({ frames := 6, cells := 0, slots := 0, locals := 157 }) sz f [.ref mo, .int so, .int di, .int le] (fun f' => ∃ sc' : Nat → Int32, Mw G mo ar sc' av f' ∧ Mx mo ar f f' ∧ (∀ j, j < 8 → sc' j = sc j) ∧ sc' 11 = nI tp ∧ (sc' 12, sc' 8, sc' 9, sc' 10) = anT (av 8 nd) (fun k => lmU t n (npc t n) k) (clsU t n (npc t n)).length (Mt t n) (Vt t n) (nn, av 1, mn, av 2, sc 5, sc 6, sc 7, so, di, le) (sc 8, sc 9, sc 10)) := by
  refine ct_of (by decide) (Nat.le_of_ble_eq_true rfl) ?_
  intro p e s m below meth c ls H locs hEn
  obtain ⟨hc, hr, hlk, hin, hE, hw, hsz, hl⟩ := hEn
  have hx := hc.1
  have hb := hc.2.1
  have hl : lv_has ls 6 [(0, .ref mo), (1, .int so), (2, .int di), (3, .int le)] := hl
  have hX : Mx mo ar f f := Mx.rf
  refine lv_aload_n hx hb d_SM_goOn_0 rfl (lv_at hl 0 rfl) ?_
  refine m_mget (v := .int (sc 11)) hc hE hw hM l_SM_182_SM rfl d_SM_goOn_1 ?_
  refine m_top (y := nI (tp + 1)) htp ?_
  refine lv_iconst (v := 1) hx hb d_SM_goOn_4 (by decide) ?_
  refine lv_isub hx hb d_SM_goOn_5 ?_
  refine m_top (y := (nI tp)) (nI_pred tp) ?_
  refine lv_istore (lv' := [(4, .int (nI tp)), (0, .ref mo), (1, .int so), (2, .int di), (3, .int le)]) hx hb d_SM_goOn_6 hl (by decide) rfl (fun ls hl => ?_)
  refine lv_aload_n hx hb d_SM_goOn_8 rfl (lv_at hl 1 rfl) ?_
  refine m_mget (v := .ref (ar 12)) hc hE hw hM l_SM_50_SM rfl d_SM_goOn_9 ?_
  refine lv_iload hx hb d_SM_goOn_12 (lv_at hl 0 rfl) ?_
  refine m_mald (v := (nI nd)) hc hE hw hM (k := 12) (by decide) (vp_in_nI (N := 20) (by omega) (by decide)) ((congrArg (av 12) (nI_clamp (n := tp) (by omega))).trans hno) d_SM_goOn_14 ?_
  refine lv_istore (lv' := [(5, .int (nI nd)), (4, .int (nI tp)), (0, .ref mo), (1, .int so), (2, .int di), (3, .int le)]) hx hb d_SM_goOn_15 hl (by decide) rfl (fun ls hl => ?_)
  refine lv_aload_n hx hb d_SM_goOn_17 rfl (lv_at hl 2 rfl) ?_
  refine m_mget (v := .ref (ar 3)) hc hE hw hM l_SM_19_SM rfl d_SM_goOn_18 ?_
  refine lv_iload hx hb d_SM_goOn_21 (lv_at hl 0 rfl) ?_
  refine m_mald (v := 1) hc hE hw hM (k := 3) (by decide) (vp_in_nI (N := 520) (by omega) (by decide)) ((congrArg (av 3) (nI_clamp (n := nd) (by omega))).trans hso) d_SM_goOn_23 ?_
  refine lv_iconst (v := 1) hx hb d_SM_goOn_24 (by decide) ?_
  refine lv_icmp_ne (tgt := 52) hx hb d_SM_goOn_25 (by decide) (fun z => absurd z (by decide)) (fun _ => ?_)
  refine lv_aload_n hx hb d_SM_goOn_28 rfl (lv_at hl 2 rfl) ?_
  refine lv_aload_n hx hb d_SM_goOn_29 rfl (lv_at hl 2 rfl) ?_
  refine lv_iload hx hb d_SM_goOn_30 (lv_at hl 0 rfl) ?_
  refine lv_iload_n hx hb d_SM_goOn_32 rfl (lv_at hl 3 rfl) ?_
  refine lv_iload_n hx hb d_SM_goOn_33 rfl (lv_at hl 4 rfl) ?_
  refine lv_iload_n hx hb d_SM_goOn_34 rfl (lv_at hl 5 rfl) ?_
  refine m_calli hw (m_runV (As := [.int (nI nd), .int so, .int di, .int le]) (rest := [.ref mo]) hc hE hw (c_SM_askText G l H.size f hM hA hbn hS hnd hta htl hnn hmn hn hmm so di le) hM.1 rfl cw_SM_185 se_SM_askText rfl hl.1 rfl (Nat.le_of_ble_eq_true rfl) d_SM_goOn_35 ⟨rfl, rfl, by decide, by decide⟩ ⟨by first | decide | (dsimp only; omega), by first | decide | (dsimp only; omega)⟩) (fun r23 g22 H locs p21 hw => ?_)
  obtain ⟨sc2, hM2, hX2, hf2, hv2⟩ := p21
  refine m_mput (sc' := (upd sc2 12 r23)) hc hE hw hM2 (hX.tr hX2) l_SM_189_SM rfl ds_SM_37 rfl rfl rfl d_SM_goOn_38 (fun H locs f24 hM25 hX26 hw => ?_)
  refine lv_aload_n hx hb d_SM_goOn_41 rfl (lv_at hl 2 rfl) ?_
  refine lv_dup hx hb d_SM_goOn_42 rfl ?_
  refine m_mget (v := .int (sc2 11)) hc hE hw hM25 l_SM_182_SM rfl d_SM_goOn_43 ?_
  refine m_top (y := nI (tp + 1)) ((hf2 11 (by decide) (by decide) (by decide) (by decide)).trans htp) ?_
  refine lv_iconst (v := 1) hx hb d_SM_goOn_46 (by decide) ?_
  refine lv_isub hx hb d_SM_goOn_47 ?_
  refine m_top (y := (nI tp)) (nI_pred tp) ?_
  refine m_mput (sc' := (upd (upd sc2 11 (nI tp)) 12 r23)) hc hE hw hM25 hX26 l_SM_182_SM rfl ds_SM_36 rfl rfl rfl d_SM_goOn_48 (fun H locs f27 hM28 hX29 hw => ?_)
  exact m_vret hc hr hlk hw ⟨by first | decide | (dsimp only; omega), by first | decide | (dsimp only; omega)⟩ d_SM_goOn_51 ⟨_, hM28, hX29, fun j hj => ((upd_ne' _ _ _ (by omega)).trans (upd_ne' _ _ _ (by omega))).trans (hf2 j (by omega) (by omega) (by omega) (by omega)), rfl, hv2⟩

set_option maxHeartbeats 4000000 in
set_option maxRecDepth 100000 in
/-- goOn -/
theorem c_SM_goOn20 (G : GG) (l : Launch) (sz : Nat) (f : Wd) {mo : Nat} {ar : Nat → Nat} {sc : Nat → Int32} {av : Nat → Nat → Int32} (hM : Mw G mo ar sc av f) {tp nd : Nat} (htp : sc 11 = nI (tp + 1)) (hlt : tp < 19) (hnd : nd < 520) (hno : av 12 tp = nI nd) (so di le : Int32) (hso : av 3 nd = 2) (hst : av 13 tp = 0) : Cv G l y_SM_goOn b_SM_goOn 6 none ({ frames := 6, cells := 0, slots := 0, locals := 157 }) sz f [.ref mo, .int so, .int di, .int le] (PSH G mo ar sc av f tp 1 (av 14 tp) (av 4 nd)) := by
  refine ct_of (by decide) (Nat.le_of_ble_eq_true rfl) ?_
  intro p e s m below meth c ls H locs hEn
  obtain ⟨hc, hr, hlk, hin, hE, hw, hsz, hl⟩ := hEn
  have hx := hc.1
  have hb := hc.2.1
  have hl : lv_has ls 6 [(0, .ref mo), (1, .int so), (2, .int di), (3, .int le)] := hl
  have hX : Mx mo ar f f := Mx.rf
  refine lv_aload_n hx hb d_SM_goOn_0 rfl (lv_at hl 0 rfl) ?_
  refine m_mget (v := .int (sc 11)) hc hE hw hM l_SM_182_SM rfl d_SM_goOn_1 ?_
  refine m_top (y := nI (tp + 1)) htp ?_
  refine lv_iconst (v := 1) hx hb d_SM_goOn_4 (by decide) ?_
  refine lv_isub hx hb d_SM_goOn_5 ?_
  refine m_top (y := (nI tp)) (nI_pred tp) ?_
  refine lv_istore (lv' := [(4, .int (nI tp)), (0, .ref mo), (1, .int so), (2, .int di), (3, .int le)]) hx hb d_SM_goOn_6 hl (by decide) rfl (fun ls hl => ?_)
  refine lv_aload_n hx hb d_SM_goOn_8 rfl (lv_at hl 1 rfl) ?_
  refine m_mget (v := .ref (ar 12)) hc hE hw hM l_SM_50_SM rfl d_SM_goOn_9 ?_
  refine lv_iload hx hb d_SM_goOn_12 (lv_at hl 0 rfl) ?_
  refine m_mald (v := (nI nd)) hc hE hw hM (k := 12) (by decide) (vp_in_nI (N := 20) (by omega) (by decide)) ((congrArg (av 12) (nI_clamp (n := tp) (by omega))).trans hno) d_SM_goOn_14 ?_
  refine lv_istore (lv' := [(5, .int (nI nd)), (4, .int (nI tp)), (0, .ref mo), (1, .int so), (2, .int di), (3, .int le)]) hx hb d_SM_goOn_15 hl (by decide) rfl (fun ls hl => ?_)
  refine lv_aload_n hx hb d_SM_goOn_17 rfl (lv_at hl 2 rfl) ?_
  refine m_mget (v := .ref (ar 3)) hc hE hw hM l_SM_19_SM rfl d_SM_goOn_18 ?_
  refine lv_iload hx hb d_SM_goOn_21 (lv_at hl 0 rfl) ?_
  refine m_mald (v := 2) hc hE hw hM (k := 3) (by decide) (vp_in_nI (N := 520) (by omega) (by decide)) ((congrArg (av 3) (nI_clamp (n := nd) (by omega))).trans hso) d_SM_goOn_23 ?_
  refine lv_iconst (v := 1) hx hb d_SM_goOn_24 (by decide) ?_
  refine lv_icmp_ne (tgt := 52) hx hb d_SM_goOn_25 (by decide) (fun _ => ?_) (fun z => absurd z (by decide))
  refine lv_aload_n hx hb d_SM_goOn_52 rfl (lv_at hl 2 rfl) ?_
  refine m_mget (v := .ref (ar 13)) hc hE hw hM l_SM_53_SM rfl d_SM_goOn_53 ?_
  refine lv_iload hx hb d_SM_goOn_56 (lv_at hl 1 rfl) ?_
  refine m_mald (v := 0) hc hE hw hM (k := 13) (by decide) (vp_in_nI (N := 20) (by omega) (by decide)) ((congrArg (av 13) (nI_clamp (n := tp) (by omega))).trans hst) d_SM_goOn_58 ?_
  refine lv_if_ne (tgt := 145) hx hb d_SM_goOn_59 (by decide) (fun z => absurd z (by decide)) (fun _ => ?_)
  refine lv_aload_n hx hb d_SM_goOn_62 rfl (lv_at hl 2 rfl) ?_
  refine m_mget (v := .ref (ar 13)) hc hE hw hM l_SM_53_SM rfl d_SM_goOn_63 ?_
  refine lv_iload hx hb d_SM_goOn_66 (lv_at hl 1 rfl) ?_
  refine lv_iconst (v := 1) hx hb d_SM_goOn_68 (by decide) ?_
  refine m_mast (k := 13) (j := tp) hc hE hw hM hX (by decide) (nI_clamp (n := tp) (by omega)) (vp_in_nI (N := 20) (by omega) (by decide)) d_SM_goOn_69 (fun H locs f21 hM22 hX23 hw => ?_)
  replace hM22 : Mw G mo ar sc (va_up av 13 (upd (av 13) tp 1)) f21 := hM22
  refine lv_aload_n hx hb d_SM_goOn_70 rfl (lv_at hl 2 rfl) ?_
  refine m_mget (v := .ref (ar 3)) hc hE hw hM22 l_SM_19_SM rfl d_SM_goOn_71 ?_
  refine lv_iload hx hb d_SM_goOn_74 (lv_at hl 0 rfl) ?_
  refine m_mald (v := 2) hc hE hw hM22 (k := 3) (by decide) (vp_in_nI (N := 520) (by omega) (by decide)) ((congrArg (av 3) (nI_clamp (n := nd) (by omega))).trans hso) d_SM_goOn_76 ?_
  refine lv_iconst (v := 5) hx hb d_SM_goOn_77 (by decide) ?_
  refine lv_icmp_ne (tgt := 133) hx hb d_SM_goOn_78 (by decide) (fun _ => ?_) (fun z => absurd z (by decide))
  refine lv_aload_n hx hb d_SM_goOn_133 rfl (lv_at hl 2 rfl) ?_
  refine lv_aload_n hx hb d_SM_goOn_134 rfl (lv_at hl 2 rfl) ?_
  refine m_mget (v := .ref (ar 4)) hc hE hw hM22 l_SM_22_SM rfl d_SM_goOn_135 ?_
  refine lv_iload hx hb d_SM_goOn_138 (lv_at hl 0 rfl) ?_
  refine m_mald (v := ((av 4) nd)) hc hE hw hM22 (k := 4) (by decide) (vp_in_nI (N := 520) (by omega) (by decide)) ((congrArg (av 4) (nI_clamp (n := nd) (by omega))).trans rfl) d_SM_goOn_140 ?_
  refine m_callv hw (m_runV (As := [.int ((av 4) nd)]) (rest := []) hc hE hw (c_SM_push G l H.size f21 hM22 (tp := tp + 1) htp (by omega) ((av 4) nd)) hM22.1 rfl cw_SM_192 se_SM_push rfl hl.1 rfl (Nat.le_of_ble_eq_true rfl) d_SM_goOn_141 ⟨rfl, rfl, by decide, by decide⟩ ⟨by first | decide | (dsimp only; omega), by first | decide | (dsimp only; omega)⟩) (fun g25 H locs p24 hw => ?_)
  obtain ⟨hMp, hXp⟩ := p24
  replace hMp : Mw G mo ar (upd sc 11 (nI (tp + 1 + 1))) (va_up (va_up (va_up av 13 (upd (av 13) tp 1)) 12 (upd (av 12) (tp + 1) ((av 4) nd))) 13 (upd (upd (av 13) tp 1) (tp + 1) 0)) g25 := hMp
  exact m_vret hc hr hlk hw ⟨by first | decide | (dsimp only; omega), by first | decide | (dsimp only; omega)⟩ d_SM_goOn_144 ⟨_, _, hMp, (hX23.tr hXp), (((Stk.rf.tr (Stk.w (by decide) (by omega)) (Nat.le_refl _)).tr (Stk.w (by decide) (by omega)) (Nat.le_refl _)).tr (Stk.w (by decide) (by omega)) (Nat.le_refl _)), fun j hj h11 => upd_ne' _ _ _ h11, rfl, (show upd (av 12) (tp + 1) (av 4 nd) tp = av 12 tp from upd_ne' _ _ _ (show tp ≠ tp + 1 by omega)), (show upd (upd (av 13) tp 1) (tp + 1) 0 tp = 1 from (upd_ne' _ _ _ (show tp ≠ tp + 1 by omega)).trans (upd_self' _ _ _)), rfl, upd_self' _ _ _, upd_self' _ _ _⟩

set_option maxHeartbeats 4000000 in
set_option maxRecDepth 100000 in
/-- goOn -/
theorem c_SM_goOn30 (G : GG) (l : Launch) (sz : Nat) (f : Wd) {mo : Nat} {ar : Nat → Nat} {sc : Nat → Int32} {av : Nat → Nat → Int32} (hM : Mw G mo ar sc av f) {tp nd : Nat} (htp : sc 11 = nI (tp + 1)) (hlt : tp < 19) (hnd : nd < 520) (hno : av 12 tp = nI nd) (so di le : Int32) (hso : av 3 nd = 3) (hst : av 13 tp = 0) : Cv G l y_SM_goOn b_SM_goOn 6 none ({ frames := 6, cells := 0, slots := 0, locals := 157 }) sz f [.ref mo, .int so, .int di, .int le] (PSH G mo ar sc av f tp 1 (av 14 tp) (av 4 nd)) := by
  refine ct_of (by decide) (Nat.le_of_ble_eq_true rfl) ?_
  intro p e s m below meth c ls H locs hEn
  obtain ⟨hc, hr, hlk, hin, hE, hw, hsz, hl⟩ := hEn
  have hx := hc.1
  have hb := hc.2.1
  have hl : lv_has ls 6 [(0, .ref mo), (1, .int so), (2, .int di), (3, .int le)] := hl
  have hX : Mx mo ar f f := Mx.rf
  refine lv_aload_n hx hb d_SM_goOn_0 rfl (lv_at hl 0 rfl) ?_
  refine m_mget (v := .int (sc 11)) hc hE hw hM l_SM_182_SM rfl d_SM_goOn_1 ?_
  refine m_top (y := nI (tp + 1)) htp ?_
  refine lv_iconst (v := 1) hx hb d_SM_goOn_4 (by decide) ?_
  refine lv_isub hx hb d_SM_goOn_5 ?_
  refine m_top (y := (nI tp)) (nI_pred tp) ?_
  refine lv_istore (lv' := [(4, .int (nI tp)), (0, .ref mo), (1, .int so), (2, .int di), (3, .int le)]) hx hb d_SM_goOn_6 hl (by decide) rfl (fun ls hl => ?_)
  refine lv_aload_n hx hb d_SM_goOn_8 rfl (lv_at hl 1 rfl) ?_
  refine m_mget (v := .ref (ar 12)) hc hE hw hM l_SM_50_SM rfl d_SM_goOn_9 ?_
  refine lv_iload hx hb d_SM_goOn_12 (lv_at hl 0 rfl) ?_
  refine m_mald (v := (nI nd)) hc hE hw hM (k := 12) (by decide) (vp_in_nI (N := 20) (by omega) (by decide)) ((congrArg (av 12) (nI_clamp (n := tp) (by omega))).trans hno) d_SM_goOn_14 ?_
  refine lv_istore (lv' := [(5, .int (nI nd)), (4, .int (nI tp)), (0, .ref mo), (1, .int so), (2, .int di), (3, .int le)]) hx hb d_SM_goOn_15 hl (by decide) rfl (fun ls hl => ?_)
  refine lv_aload_n hx hb d_SM_goOn_17 rfl (lv_at hl 2 rfl) ?_
  refine m_mget (v := .ref (ar 3)) hc hE hw hM l_SM_19_SM rfl d_SM_goOn_18 ?_
  refine lv_iload hx hb d_SM_goOn_21 (lv_at hl 0 rfl) ?_
  refine m_mald (v := 3) hc hE hw hM (k := 3) (by decide) (vp_in_nI (N := 520) (by omega) (by decide)) ((congrArg (av 3) (nI_clamp (n := nd) (by omega))).trans hso) d_SM_goOn_23 ?_
  refine lv_iconst (v := 1) hx hb d_SM_goOn_24 (by decide) ?_
  refine lv_icmp_ne (tgt := 52) hx hb d_SM_goOn_25 (by decide) (fun _ => ?_) (fun z => absurd z (by decide))
  refine lv_aload_n hx hb d_SM_goOn_52 rfl (lv_at hl 2 rfl) ?_
  refine m_mget (v := .ref (ar 13)) hc hE hw hM l_SM_53_SM rfl d_SM_goOn_53 ?_
  refine lv_iload hx hb d_SM_goOn_56 (lv_at hl 1 rfl) ?_
  refine m_mald (v := 0) hc hE hw hM (k := 13) (by decide) (vp_in_nI (N := 20) (by omega) (by decide)) ((congrArg (av 13) (nI_clamp (n := tp) (by omega))).trans hst) d_SM_goOn_58 ?_
  refine lv_if_ne (tgt := 145) hx hb d_SM_goOn_59 (by decide) (fun z => absurd z (by decide)) (fun _ => ?_)
  refine lv_aload_n hx hb d_SM_goOn_62 rfl (lv_at hl 2 rfl) ?_
  refine m_mget (v := .ref (ar 13)) hc hE hw hM l_SM_53_SM rfl d_SM_goOn_63 ?_
  refine lv_iload hx hb d_SM_goOn_66 (lv_at hl 1 rfl) ?_
  refine lv_iconst (v := 1) hx hb d_SM_goOn_68 (by decide) ?_
  refine m_mast (k := 13) (j := tp) hc hE hw hM hX (by decide) (nI_clamp (n := tp) (by omega)) (vp_in_nI (N := 20) (by omega) (by decide)) d_SM_goOn_69 (fun H locs f21 hM22 hX23 hw => ?_)
  replace hM22 : Mw G mo ar sc (va_up av 13 (upd (av 13) tp 1)) f21 := hM22
  refine lv_aload_n hx hb d_SM_goOn_70 rfl (lv_at hl 2 rfl) ?_
  refine m_mget (v := .ref (ar 3)) hc hE hw hM22 l_SM_19_SM rfl d_SM_goOn_71 ?_
  refine lv_iload hx hb d_SM_goOn_74 (lv_at hl 0 rfl) ?_
  refine m_mald (v := 3) hc hE hw hM22 (k := 3) (by decide) (vp_in_nI (N := 520) (by omega) (by decide)) ((congrArg (av 3) (nI_clamp (n := nd) (by omega))).trans hso) d_SM_goOn_76 ?_
  refine lv_iconst (v := 5) hx hb d_SM_goOn_77 (by decide) ?_
  refine lv_icmp_ne (tgt := 133) hx hb d_SM_goOn_78 (by decide) (fun _ => ?_) (fun z => absurd z (by decide))
  refine lv_aload_n hx hb d_SM_goOn_133 rfl (lv_at hl 2 rfl) ?_
  refine lv_aload_n hx hb d_SM_goOn_134 rfl (lv_at hl 2 rfl) ?_
  refine m_mget (v := .ref (ar 4)) hc hE hw hM22 l_SM_22_SM rfl d_SM_goOn_135 ?_
  refine lv_iload hx hb d_SM_goOn_138 (lv_at hl 0 rfl) ?_
  refine m_mald (v := ((av 4) nd)) hc hE hw hM22 (k := 4) (by decide) (vp_in_nI (N := 520) (by omega) (by decide)) ((congrArg (av 4) (nI_clamp (n := nd) (by omega))).trans rfl) d_SM_goOn_140 ?_
  refine m_callv hw (m_runV (As := [.int ((av 4) nd)]) (rest := []) hc hE hw (c_SM_push G l H.size f21 hM22 (tp := tp + 1) htp (by omega) ((av 4) nd)) hM22.1 rfl cw_SM_192 se_SM_push rfl hl.1 rfl (Nat.le_of_ble_eq_true rfl) d_SM_goOn_141 ⟨rfl, rfl, by decide, by decide⟩ ⟨by first | decide | (dsimp only; omega), by first | decide | (dsimp only; omega)⟩) (fun g25 H locs p24 hw => ?_)
  obtain ⟨hMp, hXp⟩ := p24
  replace hMp : Mw G mo ar (upd sc 11 (nI (tp + 1 + 1))) (va_up (va_up (va_up av 13 (upd (av 13) tp 1)) 12 (upd (av 12) (tp + 1) ((av 4) nd))) 13 (upd (upd (av 13) tp 1) (tp + 1) 0)) g25 := hMp
  exact m_vret hc hr hlk hw ⟨by first | decide | (dsimp only; omega), by first | decide | (dsimp only; omega)⟩ d_SM_goOn_144 ⟨_, _, hMp, (hX23.tr hXp), (((Stk.rf.tr (Stk.w (by decide) (by omega)) (Nat.le_refl _)).tr (Stk.w (by decide) (by omega)) (Nat.le_refl _)).tr (Stk.w (by decide) (by omega)) (Nat.le_refl _)), fun j hj h11 => upd_ne' _ _ _ h11, rfl, (show upd (av 12) (tp + 1) (av 4 nd) tp = av 12 tp from upd_ne' _ _ _ (show tp ≠ tp + 1 by omega)), (show upd (upd (av 13) tp 1) (tp + 1) 0 tp = 1 from (upd_ne' _ _ _ (show tp ≠ tp + 1 by omega)).trans (upd_self' _ _ _)), rfl, upd_self' _ _ _, upd_self' _ _ _⟩

set_option maxHeartbeats 4000000 in
set_option maxRecDepth 100000 in
/-- goOn -/
theorem c_SM_goOn40 (G : GG) (l : Launch) (sz : Nat) (f : Wd) {mo : Nat} {ar : Nat → Nat} {sc : Nat → Int32} {av : Nat → Nat → Int32} (hM : Mw G mo ar sc av f) {tp nd : Nat} (htp : sc 11 = nI (tp + 1)) (hlt : tp < 19) (hnd : nd < 520) (hno : av 12 tp = nI nd) (so di le : Int32) (hso : av 3 nd = 4) (hst : av 13 tp = 0) : Cv G l y_SM_goOn b_SM_goOn 6 none ({ frames := 6, cells := 0, slots := 0, locals := 157 }) sz f [.ref mo, .int so, .int di, .int le] (PSH G mo ar sc av f tp 1 (av 14 tp) (av 4 nd)) := by
  refine ct_of (by decide) (Nat.le_of_ble_eq_true rfl) ?_
  intro p e s m below meth c ls H locs hEn
  obtain ⟨hc, hr, hlk, hin, hE, hw, hsz, hl⟩ := hEn
  have hx := hc.1
  have hb := hc.2.1
  have hl : lv_has ls 6 [(0, .ref mo), (1, .int so), (2, .int di), (3, .int le)] := hl
  have hX : Mx mo ar f f := Mx.rf
  refine lv_aload_n hx hb d_SM_goOn_0 rfl (lv_at hl 0 rfl) ?_
  refine m_mget (v := .int (sc 11)) hc hE hw hM l_SM_182_SM rfl d_SM_goOn_1 ?_
  refine m_top (y := nI (tp + 1)) htp ?_
  refine lv_iconst (v := 1) hx hb d_SM_goOn_4 (by decide) ?_
  refine lv_isub hx hb d_SM_goOn_5 ?_
  refine m_top (y := (nI tp)) (nI_pred tp) ?_
  refine lv_istore (lv' := [(4, .int (nI tp)), (0, .ref mo), (1, .int so), (2, .int di), (3, .int le)]) hx hb d_SM_goOn_6 hl (by decide) rfl (fun ls hl => ?_)
  refine lv_aload_n hx hb d_SM_goOn_8 rfl (lv_at hl 1 rfl) ?_
  refine m_mget (v := .ref (ar 12)) hc hE hw hM l_SM_50_SM rfl d_SM_goOn_9 ?_
  refine lv_iload hx hb d_SM_goOn_12 (lv_at hl 0 rfl) ?_
  refine m_mald (v := (nI nd)) hc hE hw hM (k := 12) (by decide) (vp_in_nI (N := 20) (by omega) (by decide)) ((congrArg (av 12) (nI_clamp (n := tp) (by omega))).trans hno) d_SM_goOn_14 ?_
  refine lv_istore (lv' := [(5, .int (nI nd)), (4, .int (nI tp)), (0, .ref mo), (1, .int so), (2, .int di), (3, .int le)]) hx hb d_SM_goOn_15 hl (by decide) rfl (fun ls hl => ?_)
  refine lv_aload_n hx hb d_SM_goOn_17 rfl (lv_at hl 2 rfl) ?_
  refine m_mget (v := .ref (ar 3)) hc hE hw hM l_SM_19_SM rfl d_SM_goOn_18 ?_
  refine lv_iload hx hb d_SM_goOn_21 (lv_at hl 0 rfl) ?_
  refine m_mald (v := 4) hc hE hw hM (k := 3) (by decide) (vp_in_nI (N := 520) (by omega) (by decide)) ((congrArg (av 3) (nI_clamp (n := nd) (by omega))).trans hso) d_SM_goOn_23 ?_
  refine lv_iconst (v := 1) hx hb d_SM_goOn_24 (by decide) ?_
  refine lv_icmp_ne (tgt := 52) hx hb d_SM_goOn_25 (by decide) (fun _ => ?_) (fun z => absurd z (by decide))
  refine lv_aload_n hx hb d_SM_goOn_52 rfl (lv_at hl 2 rfl) ?_
  refine m_mget (v := .ref (ar 13)) hc hE hw hM l_SM_53_SM rfl d_SM_goOn_53 ?_
  refine lv_iload hx hb d_SM_goOn_56 (lv_at hl 1 rfl) ?_
  refine m_mald (v := 0) hc hE hw hM (k := 13) (by decide) (vp_in_nI (N := 20) (by omega) (by decide)) ((congrArg (av 13) (nI_clamp (n := tp) (by omega))).trans hst) d_SM_goOn_58 ?_
  refine lv_if_ne (tgt := 145) hx hb d_SM_goOn_59 (by decide) (fun z => absurd z (by decide)) (fun _ => ?_)
  refine lv_aload_n hx hb d_SM_goOn_62 rfl (lv_at hl 2 rfl) ?_
  refine m_mget (v := .ref (ar 13)) hc hE hw hM l_SM_53_SM rfl d_SM_goOn_63 ?_
  refine lv_iload hx hb d_SM_goOn_66 (lv_at hl 1 rfl) ?_
  refine lv_iconst (v := 1) hx hb d_SM_goOn_68 (by decide) ?_
  refine m_mast (k := 13) (j := tp) hc hE hw hM hX (by decide) (nI_clamp (n := tp) (by omega)) (vp_in_nI (N := 20) (by omega) (by decide)) d_SM_goOn_69 (fun H locs f21 hM22 hX23 hw => ?_)
  replace hM22 : Mw G mo ar sc (va_up av 13 (upd (av 13) tp 1)) f21 := hM22
  refine lv_aload_n hx hb d_SM_goOn_70 rfl (lv_at hl 2 rfl) ?_
  refine m_mget (v := .ref (ar 3)) hc hE hw hM22 l_SM_19_SM rfl d_SM_goOn_71 ?_
  refine lv_iload hx hb d_SM_goOn_74 (lv_at hl 0 rfl) ?_
  refine m_mald (v := 4) hc hE hw hM22 (k := 3) (by decide) (vp_in_nI (N := 520) (by omega) (by decide)) ((congrArg (av 3) (nI_clamp (n := nd) (by omega))).trans hso) d_SM_goOn_76 ?_
  refine lv_iconst (v := 5) hx hb d_SM_goOn_77 (by decide) ?_
  refine lv_icmp_ne (tgt := 133) hx hb d_SM_goOn_78 (by decide) (fun _ => ?_) (fun z => absurd z (by decide))
  refine lv_aload_n hx hb d_SM_goOn_133 rfl (lv_at hl 2 rfl) ?_
  refine lv_aload_n hx hb d_SM_goOn_134 rfl (lv_at hl 2 rfl) ?_
  refine m_mget (v := .ref (ar 4)) hc hE hw hM22 l_SM_22_SM rfl d_SM_goOn_135 ?_
  refine lv_iload hx hb d_SM_goOn_138 (lv_at hl 0 rfl) ?_
  refine m_mald (v := ((av 4) nd)) hc hE hw hM22 (k := 4) (by decide) (vp_in_nI (N := 520) (by omega) (by decide)) ((congrArg (av 4) (nI_clamp (n := nd) (by omega))).trans rfl) d_SM_goOn_140 ?_
  refine m_callv hw (m_runV (As := [.int ((av 4) nd)]) (rest := []) hc hE hw (c_SM_push G l H.size f21 hM22 (tp := tp + 1) htp (by omega) ((av 4) nd)) hM22.1 rfl cw_SM_192 se_SM_push rfl hl.1 rfl (Nat.le_of_ble_eq_true rfl) d_SM_goOn_141 ⟨rfl, rfl, by decide, by decide⟩ ⟨by first | decide | (dsimp only; omega), by first | decide | (dsimp only; omega)⟩) (fun g25 H locs p24 hw => ?_)
  obtain ⟨hMp, hXp⟩ := p24
  replace hMp : Mw G mo ar (upd sc 11 (nI (tp + 1 + 1))) (va_up (va_up (va_up av 13 (upd (av 13) tp 1)) 12 (upd (av 12) (tp + 1) ((av 4) nd))) 13 (upd (upd (av 13) tp 1) (tp + 1) 0)) g25 := hMp
  exact m_vret hc hr hlk hw ⟨by first | decide | (dsimp only; omega), by first | decide | (dsimp only; omega)⟩ d_SM_goOn_144 ⟨_, _, hMp, (hX23.tr hXp), (((Stk.rf.tr (Stk.w (by decide) (by omega)) (Nat.le_refl _)).tr (Stk.w (by decide) (by omega)) (Nat.le_refl _)).tr (Stk.w (by decide) (by omega)) (Nat.le_refl _)), fun j hj h11 => upd_ne' _ _ _ h11, rfl, (show upd (av 12) (tp + 1) (av 4 nd) tp = av 12 tp from upd_ne' _ _ _ (show tp ≠ tp + 1 by omega)), (show upd (upd (av 13) tp 1) (tp + 1) 0 tp = 1 from (upd_ne' _ _ _ (show tp ≠ tp + 1 by omega)).trans (upd_self' _ _ _)), rfl, upd_self' _ _ _, upd_self' _ _ _⟩

set_option maxHeartbeats 4000000 in
set_option maxRecDepth 100000 in
/-- goOn -/
theorem c_SM_goOn50 (G : GG) (l : Launch) (sz : Nat) (f : Wd) {mo : Nat} {ar : Nat → Nat} {sc : Nat → Int32} {av : Nat → Nat → Int32} (hM : Mw G mo ar sc av f) {tp nd : Nat} (htp : sc 11 = nI (tp + 1)) (hlt : tp < 19) (hnd : nd < 520) (hno : av 12 tp = nI nd) (so di le : Int32) (hso : av 3 nd = 5) (hst : av 13 tp = 0) {b n : Nat} {t : Nat → Int32} (hA : agr (av 0) b t n) (hbn : b + n ≤ 4200) (hS : sgs (av 0) (b + n)) (hta : av 6 nd = nI b) (htl : av 7 nd = nI n) {nn mn : Nat} (hnn : sc 2 = nI nn) (hmn : sc 3 = nI mn) (hn : nn ≤ 40) (hmm : mn ≤ 12) : Cv G l y_SM_goOn b_SM_goOn 6 none ({ frames := 6, cells := 0, slots := 0, locals := 157 }) sz f [.ref mo, .int so, .int di, .int le] (fun f' => ((so = 1 ∧ bgn nn (av 1) (av 0) b (b + n)) → PSH G mo ar sc av f tp 1 (av 14 tp) (av 4 nd) f') ∧ (¬ (so = 1 ∧ bgn nn (av 1) (av 0) b (b + n)) → POP G mo ar sc av f tp 0 f')) := by
  refine ct_of (by decide) (Nat.le_of_ble_eq_true rfl) ?_
  intro p e s m below meth c ls H locs hEn
  obtain ⟨hc, hr, hlk, hin, hE, hw, hsz, hl⟩ := hEn
  have hx := hc.1
  have hb := hc.2.1
  have hl : lv_has ls 6 [(0, .ref mo), (1, .int so), (2, .int di), (3, .int le)] := hl
  have hX : Mx mo ar f f := Mx.rf
  refine lv_aload_n hx hb d_SM_goOn_0 rfl (lv_at hl 0 rfl) ?_
  refine m_mget (v := .int (sc 11)) hc hE hw hM l_SM_182_SM rfl d_SM_goOn_1 ?_
  refine m_top (y := nI (tp + 1)) htp ?_
  refine lv_iconst (v := 1) hx hb d_SM_goOn_4 (by decide) ?_
  refine lv_isub hx hb d_SM_goOn_5 ?_
  refine m_top (y := (nI tp)) (nI_pred tp) ?_
  refine lv_istore (lv' := [(4, .int (nI tp)), (0, .ref mo), (1, .int so), (2, .int di), (3, .int le)]) hx hb d_SM_goOn_6 hl (by decide) rfl (fun ls hl => ?_)
  refine lv_aload_n hx hb d_SM_goOn_8 rfl (lv_at hl 1 rfl) ?_
  refine m_mget (v := .ref (ar 12)) hc hE hw hM l_SM_50_SM rfl d_SM_goOn_9 ?_
  refine lv_iload hx hb d_SM_goOn_12 (lv_at hl 0 rfl) ?_
  refine m_mald (v := (nI nd)) hc hE hw hM (k := 12) (by decide) (vp_in_nI (N := 20) (by omega) (by decide)) ((congrArg (av 12) (nI_clamp (n := tp) (by omega))).trans hno) d_SM_goOn_14 ?_
  refine lv_istore (lv' := [(5, .int (nI nd)), (4, .int (nI tp)), (0, .ref mo), (1, .int so), (2, .int di), (3, .int le)]) hx hb d_SM_goOn_15 hl (by decide) rfl (fun ls hl => ?_)
  refine lv_aload_n hx hb d_SM_goOn_17 rfl (lv_at hl 2 rfl) ?_
  refine m_mget (v := .ref (ar 3)) hc hE hw hM l_SM_19_SM rfl d_SM_goOn_18 ?_
  refine lv_iload hx hb d_SM_goOn_21 (lv_at hl 0 rfl) ?_
  refine m_mald (v := 5) hc hE hw hM (k := 3) (by decide) (vp_in_nI (N := 520) (by omega) (by decide)) ((congrArg (av 3) (nI_clamp (n := nd) (by omega))).trans hso) d_SM_goOn_23 ?_
  refine lv_iconst (v := 1) hx hb d_SM_goOn_24 (by decide) ?_
  refine lv_icmp_ne (tgt := 52) hx hb d_SM_goOn_25 (by decide) (fun _ => ?_) (fun z => absurd z (by decide))
  refine lv_aload_n hx hb d_SM_goOn_52 rfl (lv_at hl 2 rfl) ?_
  refine m_mget (v := .ref (ar 13)) hc hE hw hM l_SM_53_SM rfl d_SM_goOn_53 ?_
  refine lv_iload hx hb d_SM_goOn_56 (lv_at hl 1 rfl) ?_
  refine m_mald (v := 0) hc hE hw hM (k := 13) (by decide) (vp_in_nI (N := 20) (by omega) (by decide)) ((congrArg (av 13) (nI_clamp (n := tp) (by omega))).trans hst) d_SM_goOn_58 ?_
  refine lv_if_ne (tgt := 145) hx hb d_SM_goOn_59 (by decide) (fun z => absurd z (by decide)) (fun _ => ?_)
  refine lv_aload_n hx hb d_SM_goOn_62 rfl (lv_at hl 2 rfl) ?_
  refine m_mget (v := .ref (ar 13)) hc hE hw hM l_SM_53_SM rfl d_SM_goOn_63 ?_
  refine lv_iload hx hb d_SM_goOn_66 (lv_at hl 1 rfl) ?_
  refine lv_iconst (v := 1) hx hb d_SM_goOn_68 (by decide) ?_
  refine m_mast (k := 13) (j := tp) hc hE hw hM hX (by decide) (nI_clamp (n := tp) (by omega)) (vp_in_nI (N := 20) (by omega) (by decide)) d_SM_goOn_69 (fun H locs f21 hM22 hX23 hw => ?_)
  replace hM22 : Mw G mo ar sc (va_up av 13 (upd (av 13) tp 1)) f21 := hM22
  refine lv_aload_n hx hb d_SM_goOn_70 rfl (lv_at hl 2 rfl) ?_
  refine m_mget (v := .ref (ar 3)) hc hE hw hM22 l_SM_19_SM rfl d_SM_goOn_71 ?_
  refine lv_iload hx hb d_SM_goOn_74 (lv_at hl 0 rfl) ?_
  refine m_mald (v := 5) hc hE hw hM22 (k := 3) (by decide) (vp_in_nI (N := 520) (by omega) (by decide)) ((congrArg (av 3) (nI_clamp (n := nd) (by omega))).trans hso) d_SM_goOn_76 ?_
  refine lv_iconst (v := 5) hx hb d_SM_goOn_77 (by decide) ?_
  refine lv_icmp_ne (tgt := 133) hx hb d_SM_goOn_78 (by decide) (fun z => absurd z (by decide)) (fun _ => ?_)
  refine lv_iload_n hx hb d_SM_goOn_81 rfl (lv_at hl 3 rfl) ?_
  refine lv_iconst (v := 1) hx hb d_SM_goOn_82 (by decide) ?_
  refine lv_icmp_ne (tgt := 115) hx hb d_SM_goOn_83 (by decide) (fun c24 => ?_) (fun c24 => ?_)
  · refine lv_aload_n hx hb d_SM_goOn_115 rfl (lv_at hl 2 rfl) ?_
    refine lv_iconst (v := 0) hx hb d_SM_goOn_116 (by decide) ?_
    refine m_mput (sc' := (upd sc 12 0)) hc hE hw hM22 hX23 l_SM_189_SM rfl ds_SM_37 rfl rfl rfl d_SM_goOn_117 (fun H locs f25 hM26 hX27 hw => ?_)
    refine lv_aload_n hx hb d_SM_goOn_120 rfl (lv_at hl 2 rfl) ?_
    refine lv_dup hx hb d_SM_goOn_121 rfl ?_
    refine m_mget (v := .int (sc 11)) hc hE hw hM26 l_SM_182_SM rfl d_SM_goOn_122 ?_
    refine m_top (y := nI (tp + 1)) htp ?_
    refine lv_iconst (v := 1) hx hb d_SM_goOn_125 (by decide) ?_
    refine lv_isub hx hb d_SM_goOn_126 ?_
    refine m_top (y := (nI tp)) (nI_pred tp) ?_
    refine m_mput (sc' := (upd (upd sc 11 (nI tp)) 12 0)) hc hE hw hM26 hX27 l_SM_182_SM rfl ds_SM_36 rfl rfl rfl d_SM_goOn_127 (fun H locs f28 hM29 hX30 hw => ?_)
    refine lv_goto (tgt := 144) hx hb d_SM_goOn_130 (by decide) ?_
    exact m_vret hc hr hlk hw ⟨by first | decide | (dsimp only; omega), by first | decide | (dsimp only; omega)⟩ d_SM_goOn_144 ⟨fun z => absurd z.1 c24, fun _ => ⟨_, _, hM29, hX30, (Stk.rf.tr (Stk.w (by decide) (by omega)) (Nat.le_refl _)), fun j hj h11 h12 => by repeat rw [upd_ne' _ _ _ (by assumption)], rfl, rfl⟩⟩
  · refine lv_aload_n hx hb d_SM_goOn_86 rfl (lv_at hl 2 rfl) ?_
    refine lv_aload_n hx hb d_SM_goOn_87 rfl (lv_at hl 2 rfl) ?_
    refine m_mget (v := .ref (ar 6)) hc hE hw hM22 l_SM_28_SM rfl d_SM_goOn_88 ?_
    refine lv_iload hx hb d_SM_goOn_91 (lv_at hl 0 rfl) ?_
    refine m_mald (v := (nI b)) hc hE hw hM22 (k := 6) (by decide) (vp_in_nI (N := 520) (by omega) (by decide)) ((congrArg (av 6) (nI_clamp (n := nd) (by omega))).trans hta) d_SM_goOn_93 ?_
    refine lv_aload_n hx hb d_SM_goOn_94 rfl (lv_at hl 2 rfl) ?_
    refine m_mget (v := .ref (ar 6)) hc hE hw hM22 l_SM_28_SM rfl d_SM_goOn_95 ?_
    refine lv_iload hx hb d_SM_goOn_98 (lv_at hl 0 rfl) ?_
    refine m_mald (v := (nI b)) hc hE hw hM22 (k := 6) (by decide) (vp_in_nI (N := 520) (by omega) (by decide)) ((congrArg (av 6) (nI_clamp (n := nd) (by omega))).trans hta) d_SM_goOn_100 ?_
    refine lv_aload_n hx hb d_SM_goOn_101 rfl (lv_at hl 2 rfl) ?_
    refine m_mget (v := .ref (ar 7)) hc hE hw hM22 l_SM_31_SM rfl d_SM_goOn_102 ?_
    refine lv_iload hx hb d_SM_goOn_105 (lv_at hl 0 rfl) ?_
    refine m_mald (v := (nI n)) hc hE hw hM22 (k := 7) (by decide) (vp_in_nI (N := 520) (by omega) (by decide)) ((congrArg (av 7) (nI_clamp (n := nd) (by omega))).trans htl) d_SM_goOn_107 ?_
    refine lv_iadd hx hb d_SM_goOn_108 ?_
    refine m_top (y := (nI (b + n))) (nI_add b n) ?_
    refine m_calli hw (m_runV (As := [.int (nI b), .int (nI (b + n))]) (rest := []) hc hE hw (c_SM_nameBegins G l H.size f21 hM22 (a := b) (e0 := b + n) (nn := nn) (by omega) hbn hnn hn) hM22.1 rfl cw_SM_163 se_SM_nameBegins rfl hl.1 rfl (Nat.le_of_ble_eq_true rfl) d_SM_goOn_109 ⟨rfl, rfl, by decide, by decide⟩ ⟨by first | decide | (dsimp only; omega), by first | decide | (dsimp only; omega)⟩) (fun r33 g32 H locs p31 hw => ?_)
    obtain ⟨rfl, p31⟩ := p31
    subst p31
    refine lv_if_ne (tgt := 133) hx hb d_SM_goOn_112 (by decide) (fun c34 => ?_) (fun c34 => ?_)
    · have c34n : (bgn nn (av 1) (av 0) b (b + n)) := bI_n.mp c34
      refine lv_aload_n hx hb d_SM_goOn_133 rfl (lv_at hl 2 rfl) ?_
      refine lv_aload_n hx hb d_SM_goOn_134 rfl (lv_at hl 2 rfl) ?_
      refine m_mget (v := .ref (ar 4)) hc hE hw hM22 l_SM_22_SM rfl d_SM_goOn_135 ?_
      refine lv_iload hx hb d_SM_goOn_138 (lv_at hl 0 rfl) ?_
      refine m_mald (v := ((av 4) nd)) hc hE hw hM22 (k := 4) (by decide) (vp_in_nI (N := 520) (by omega) (by decide)) ((congrArg (av 4) (nI_clamp (n := nd) (by omega))).trans rfl) d_SM_goOn_140 ?_
      refine m_callv hw (m_runV (As := [.int ((av 4) nd)]) (rest := []) hc hE hw (c_SM_push G l H.size f21 hM22 (tp := tp + 1) htp (by omega) ((av 4) nd)) hM22.1 rfl cw_SM_192 se_SM_push rfl hl.1 rfl (Nat.le_of_ble_eq_true rfl) d_SM_goOn_141 ⟨rfl, rfl, by decide, by decide⟩ ⟨by first | decide | (dsimp only; omega), by first | decide | (dsimp only; omega)⟩) (fun g36 H locs p35 hw => ?_)
      obtain ⟨hMp, hXp⟩ := p35
      replace hMp : Mw G mo ar (upd sc 11 (nI (tp + 1 + 1))) (va_up (va_up (va_up av 13 (upd (av 13) tp 1)) 12 (upd (av 12) (tp + 1) ((av 4) nd))) 13 (upd (upd (av 13) tp 1) (tp + 1) 0)) g36 := hMp
      exact m_vret hc hr hlk hw ⟨by first | decide | (dsimp only; omega), by first | decide | (dsimp only; omega)⟩ d_SM_goOn_144 ⟨fun _ => ⟨_, _, hMp, (hX23.tr hXp), (((Stk.rf.tr (Stk.w (by decide) (by omega)) (Nat.le_refl _)).tr (Stk.w (by decide) (by omega)) (Nat.le_refl _)).tr (Stk.w (by decide) (by omega)) (Nat.le_refl _)), fun j hj h11 => upd_ne' _ _ _ h11, rfl, (show upd (av 12) (tp + 1) (av 4 nd) tp = av 12 tp from upd_ne' _ _ _ (show tp ≠ tp + 1 by omega)), (show upd (upd (av 13) tp 1) (tp + 1) 0 tp = 1 from (upd_ne' _ _ _ (show tp ≠ tp + 1 by omega)).trans (upd_self' _ _ _)), rfl, upd_self' _ _ _, upd_self' _ _ _⟩, fun z => absurd ⟨c24, c34n⟩ z⟩
    · have c34n : ¬ (bgn nn (av 1) (av 0) b (b + n)) := bI_0.mp c34
      refine lv_aload_n hx hb d_SM_goOn_115 rfl (lv_at hl 2 rfl) ?_
      refine lv_iconst (v := 0) hx hb d_SM_goOn_116 (by decide) ?_
      refine m_mput (sc' := (upd sc 12 0)) hc hE hw hM22 hX23 l_SM_189_SM rfl ds_SM_37 rfl rfl rfl d_SM_goOn_117 (fun H locs f37 hM38 hX39 hw => ?_)
      refine lv_aload_n hx hb d_SM_goOn_120 rfl (lv_at hl 2 rfl) ?_
      refine lv_dup hx hb d_SM_goOn_121 rfl ?_
      refine m_mget (v := .int (sc 11)) hc hE hw hM38 l_SM_182_SM rfl d_SM_goOn_122 ?_
      refine m_top (y := nI (tp + 1)) htp ?_
      refine lv_iconst (v := 1) hx hb d_SM_goOn_125 (by decide) ?_
      refine lv_isub hx hb d_SM_goOn_126 ?_
      refine m_top (y := (nI tp)) (nI_pred tp) ?_
      refine m_mput (sc' := (upd (upd sc 11 (nI tp)) 12 0)) hc hE hw hM38 hX39 l_SM_182_SM rfl ds_SM_36 rfl rfl rfl d_SM_goOn_127 (fun H locs f40 hM41 hX42 hw => ?_)
      refine lv_goto (tgt := 144) hx hb d_SM_goOn_130 (by decide) ?_
      exact m_vret hc hr hlk hw ⟨by first | decide | (dsimp only; omega), by first | decide | (dsimp only; omega)⟩ d_SM_goOn_144 ⟨fun z => absurd z.2 c34n, fun _ => ⟨_, _, hM41, hX42, (Stk.rf.tr (Stk.w (by decide) (by omega)) (Nat.le_refl _)), fun j hj h11 h12 => by repeat rw [upd_ne' _ _ _ (by assumption)], rfl, rfl⟩⟩

set_option maxHeartbeats 4000000 in
set_option maxRecDepth 100000 in
/-- goOn -/
theorem c_SM_goOn21 (G : GG) (l : Launch) (sz : Nat) (f : Wd) {mo : Nat} {ar : Nat → Nat} {sc : Nat → Int32} {av : Nat → Nat → Int32} (hM : Mw G mo ar sc av f) {tp nd : Nat} (htp : sc 11 = nI (tp + 1)) (hlt : tp < 19) (hnd : nd < 520) (hno : av 12 tp = nI nd) (so di le : Int32) (hso : av 3 nd = 2) (hst : av 13 tp = 1) : Cv G l y_SM_goOn b_SM_goOn 6 none ({ frames := 6, cells := 0, slots := 0, locals := 157 }) sz f [.ref mo, .int so, .int di, .int le] (fun f' => (¬ sc 12 = 2 → PSH G mo ar sc av f tp 2 (sc 12) (av 5 nd) f') ∧ (sc 12 = 2 → POP G mo ar sc av f tp (sc 12) f')) := by
  refine ct_of (by decide) (Nat.le_of_ble_eq_true rfl) ?_
  intro p e s m below meth c ls H locs hEn
  obtain ⟨hc, hr, hlk, hin, hE, hw, hsz, hl⟩ := hEn
  have hx := hc.1
  have hb := hc.2.1
  have hl : lv_has ls 6 [(0, .ref mo), (1, .int so), (2, .int di), (3, .int le)] := hl
  have hX : Mx mo ar f f := Mx.rf
  refine lv_aload_n hx hb d_SM_goOn_0 rfl (lv_at hl 0 rfl) ?_
  refine m_mget (v := .int (sc 11)) hc hE hw hM l_SM_182_SM rfl d_SM_goOn_1 ?_
  refine m_top (y := nI (tp + 1)) htp ?_
  refine lv_iconst (v := 1) hx hb d_SM_goOn_4 (by decide) ?_
  refine lv_isub hx hb d_SM_goOn_5 ?_
  refine m_top (y := (nI tp)) (nI_pred tp) ?_
  refine lv_istore (lv' := [(4, .int (nI tp)), (0, .ref mo), (1, .int so), (2, .int di), (3, .int le)]) hx hb d_SM_goOn_6 hl (by decide) rfl (fun ls hl => ?_)
  refine lv_aload_n hx hb d_SM_goOn_8 rfl (lv_at hl 1 rfl) ?_
  refine m_mget (v := .ref (ar 12)) hc hE hw hM l_SM_50_SM rfl d_SM_goOn_9 ?_
  refine lv_iload hx hb d_SM_goOn_12 (lv_at hl 0 rfl) ?_
  refine m_mald (v := (nI nd)) hc hE hw hM (k := 12) (by decide) (vp_in_nI (N := 20) (by omega) (by decide)) ((congrArg (av 12) (nI_clamp (n := tp) (by omega))).trans hno) d_SM_goOn_14 ?_
  refine lv_istore (lv' := [(5, .int (nI nd)), (4, .int (nI tp)), (0, .ref mo), (1, .int so), (2, .int di), (3, .int le)]) hx hb d_SM_goOn_15 hl (by decide) rfl (fun ls hl => ?_)
  refine lv_aload_n hx hb d_SM_goOn_17 rfl (lv_at hl 2 rfl) ?_
  refine m_mget (v := .ref (ar 3)) hc hE hw hM l_SM_19_SM rfl d_SM_goOn_18 ?_
  refine lv_iload hx hb d_SM_goOn_21 (lv_at hl 0 rfl) ?_
  refine m_mald (v := 2) hc hE hw hM (k := 3) (by decide) (vp_in_nI (N := 520) (by omega) (by decide)) ((congrArg (av 3) (nI_clamp (n := nd) (by omega))).trans hso) d_SM_goOn_23 ?_
  refine lv_iconst (v := 1) hx hb d_SM_goOn_24 (by decide) ?_
  refine lv_icmp_ne (tgt := 52) hx hb d_SM_goOn_25 (by decide) (fun _ => ?_) (fun z => absurd z (by decide))
  refine lv_aload_n hx hb d_SM_goOn_52 rfl (lv_at hl 2 rfl) ?_
  refine m_mget (v := .ref (ar 13)) hc hE hw hM l_SM_53_SM rfl d_SM_goOn_53 ?_
  refine lv_iload hx hb d_SM_goOn_56 (lv_at hl 1 rfl) ?_
  refine m_mald (v := 1) hc hE hw hM (k := 13) (by decide) (vp_in_nI (N := 20) (by omega) (by decide)) ((congrArg (av 13) (nI_clamp (n := tp) (by omega))).trans hst) d_SM_goOn_58 ?_
  refine lv_if_ne (tgt := 145) hx hb d_SM_goOn_59 (by decide) (fun _ => ?_) (fun z => absurd z (by decide))
  refine lv_aload_n hx hb d_SM_goOn_145 rfl (lv_at hl 2 rfl) ?_
  refine m_mget (v := .ref (ar 3)) hc hE hw hM l_SM_19_SM rfl d_SM_goOn_146 ?_
  refine lv_iload hx hb d_SM_goOn_149 (lv_at hl 0 rfl) ?_
  refine m_mald (v := 2) hc hE hw hM (k := 3) (by decide) (vp_in_nI (N := 520) (by omega) (by decide)) ((congrArg (av 3) (nI_clamp (n := nd) (by omega))).trans hso) d_SM_goOn_151 ?_
  refine lv_iconst (v := 2) hx hb d_SM_goOn_152 (by decide) ?_
  refine lv_icmp_ne (tgt := 206) hx hb d_SM_goOn_153 (by decide) (fun z => absurd z (by decide)) (fun _ => ?_)
  refine lv_aload_n hx hb d_SM_goOn_156 rfl (lv_at hl 2 rfl) ?_
  refine m_mget (v := .ref (ar 13)) hc hE hw hM l_SM_53_SM rfl d_SM_goOn_157 ?_
  refine lv_iload hx hb d_SM_goOn_160 (lv_at hl 1 rfl) ?_
  refine m_mald (v := 1) hc hE hw hM (k := 13) (by decide) (vp_in_nI (N := 20) (by omega) (by decide)) ((congrArg (av 13) (nI_clamp (n := tp) (by omega))).trans hst) d_SM_goOn_162 ?_
  refine lv_iconst (v := 1) hx hb d_SM_goOn_163 (by decide) ?_
  refine lv_icmp_ne (tgt := 206) hx hb d_SM_goOn_164 (by decide) (fun z => absurd z (by decide)) (fun _ => ?_)
  refine lv_aload_n hx hb d_SM_goOn_167 rfl (lv_at hl 2 rfl) ?_
  refine m_mget (v := .int (sc 12)) hc hE hw hM l_SM_189_SM rfl d_SM_goOn_168 ?_
  refine lv_iconst (v := 2) hx hb d_SM_goOn_171 (by decide) ?_
  refine lv_icmp_eq (tgt := 206) hx hb d_SM_goOn_172 (by decide) (fun c21 => ?_) (fun c21 => ?_)
  · refine lv_aload_n hx hb d_SM_goOn_206 rfl (lv_at hl 2 rfl) ?_
    refine m_mget (v := .ref (ar 3)) hc hE hw hM l_SM_19_SM rfl d_SM_goOn_207 ?_
    refine lv_iload hx hb d_SM_goOn_210 (lv_at hl 0 rfl) ?_
    refine m_mald (v := 2) hc hE hw hM (k := 3) (by decide) (vp_in_nI (N := 520) (by omega) (by decide)) ((congrArg (av 3) (nI_clamp (n := nd) (by omega))).trans hso) d_SM_goOn_212 ?_
    refine lv_iconst (v := 2) hx hb d_SM_goOn_213 (by decide) ?_
    refine lv_icmp_ne (tgt := 246) hx hb d_SM_goOn_214 (by decide) (fun z => absurd z (by decide)) (fun _ => ?_)
    refine lv_aload_n hx hb d_SM_goOn_217 rfl (lv_at hl 2 rfl) ?_
    refine m_mget (v := .ref (ar 13)) hc hE hw hM l_SM_53_SM rfl d_SM_goOn_218 ?_
    refine lv_iload hx hb d_SM_goOn_221 (lv_at hl 1 rfl) ?_
    refine m_mald (v := 1) hc hE hw hM (k := 13) (by decide) (vp_in_nI (N := 20) (by omega) (by decide)) ((congrArg (av 13) (nI_clamp (n := tp) (by omega))).trans hst) d_SM_goOn_223 ?_
    refine lv_iconst (v := 2) hx hb d_SM_goOn_224 (by decide) ?_
    refine lv_icmp_ne (tgt := 246) hx hb d_SM_goOn_225 (by decide) (fun _ => ?_) (fun z => absurd z (by decide))
    refine lv_aload_n hx hb d_SM_goOn_246 rfl (lv_at hl 2 rfl) ?_
    refine m_mget (v := .ref (ar 3)) hc hE hw hM l_SM_19_SM rfl d_SM_goOn_247 ?_
    refine lv_iload hx hb d_SM_goOn_250 (lv_at hl 0 rfl) ?_
    refine m_mald (v := 2) hc hE hw hM (k := 3) (by decide) (vp_in_nI (N := 520) (by omega) (by decide)) ((congrArg (av 3) (nI_clamp (n := nd) (by omega))).trans hso) d_SM_goOn_252 ?_
    refine lv_iconst (v := 3) hx hb d_SM_goOn_253 (by decide) ?_
    refine lv_icmp_ne (tgt := 289) hx hb d_SM_goOn_254 (by decide) (fun _ => ?_) (fun z => absurd z (by decide))
    refine lv_aload_n hx hb d_SM_goOn_289 rfl (lv_at hl 2 rfl) ?_
    refine m_mget (v := .ref (ar 3)) hc hE hw hM l_SM_19_SM rfl d_SM_goOn_290 ?_
    refine lv_iload hx hb d_SM_goOn_293 (lv_at hl 0 rfl) ?_
    refine m_mald (v := 2) hc hE hw hM (k := 3) (by decide) (vp_in_nI (N := 520) (by omega) (by decide)) ((congrArg (av 3) (nI_clamp (n := nd) (by omega))).trans hso) d_SM_goOn_295 ?_
    refine lv_iconst (v := 4) hx hb d_SM_goOn_296 (by decide) ?_
    refine lv_icmp_ne (tgt := 318) hx hb d_SM_goOn_297 (by decide) (fun _ => ?_) (fun z => absurd z (by decide))
    refine lv_aload_n hx hb d_SM_goOn_318 rfl (lv_at hl 2 rfl) ?_
    refine lv_dup hx hb d_SM_goOn_319 rfl ?_
    refine m_mget (v := .int (sc 11)) hc hE hw hM l_SM_182_SM rfl d_SM_goOn_320 ?_
    refine m_top (y := nI (tp + 1)) htp ?_
    refine lv_iconst (v := 1) hx hb d_SM_goOn_323 (by decide) ?_
    refine lv_isub hx hb d_SM_goOn_324 ?_
    refine m_top (y := (nI tp)) (nI_pred tp) ?_
    refine m_mput (sc' := (upd sc 11 (nI tp))) hc hE hw hM hX l_SM_182_SM rfl ds_SM_36 rfl rfl rfl d_SM_goOn_325 (fun H locs f22 hM23 hX24 hw => ?_)
    exact m_vret hc hr hlk hw ⟨by first | decide | (dsimp only; omega), by first | decide | (dsimp only; omega)⟩ d_SM_goOn_328 ⟨fun z => absurd c21 z, fun _ => ⟨_, _, hM23, hX24, Stk.rf, fun j hj h11 h12 => by repeat rw [upd_ne' _ _ _ (by assumption)], rfl, rfl⟩⟩
  · refine lv_aload_n hx hb d_SM_goOn_175 rfl (lv_at hl 2 rfl) ?_
    refine m_mget (v := .ref (ar 13)) hc hE hw hM l_SM_53_SM rfl d_SM_goOn_176 ?_
    refine lv_iload hx hb d_SM_goOn_179 (lv_at hl 1 rfl) ?_
    refine lv_iconst (v := 2) hx hb d_SM_goOn_181 (by decide) ?_
    refine m_mast (k := 13) (j := tp) hc hE hw hM hX (by decide) (nI_clamp (n := tp) (by omega)) (vp_in_nI (N := 20) (by omega) (by decide)) d_SM_goOn_182 (fun H locs f25 hM26 hX27 hw => ?_)
    replace hM26 : Mw G mo ar sc (va_up av 13 (upd (av 13) tp 2)) f25 := hM26
    refine lv_aload_n hx hb d_SM_goOn_183 rfl (lv_at hl 2 rfl) ?_
    refine m_mget (v := .ref (ar 14)) hc hE hw hM26 l_SM_56_SM rfl d_SM_goOn_184 ?_
    refine lv_iload hx hb d_SM_goOn_187 (lv_at hl 1 rfl) ?_
    refine lv_aload_n hx hb d_SM_goOn_189 rfl (lv_at hl 2 rfl) ?_
    refine m_mget (v := .int (sc 12)) hc hE hw hM26 l_SM_189_SM rfl d_SM_goOn_190 ?_
    refine m_mast (k := 14) (j := tp) hc hE hw hM26 hX27 (by decide) (nI_clamp (n := tp) (by omega)) (vp_in_nI (N := 20) (by omega) (by decide)) d_SM_goOn_193 (fun H locs f28 hM29 hX30 hw => ?_)
    replace hM29 : Mw G mo ar sc (va_up (va_up av 13 (upd (av 13) tp 2)) 14 (upd (av 14) tp (sc 12))) f28 := hM29
    refine lv_aload_n hx hb d_SM_goOn_194 rfl (lv_at hl 2 rfl) ?_
    refine lv_aload_n hx hb d_SM_goOn_195 rfl (lv_at hl 2 rfl) ?_
    refine m_mget (v := .ref (ar 5)) hc hE hw hM29 l_SM_25_SM rfl d_SM_goOn_196 ?_
    refine lv_iload hx hb d_SM_goOn_199 (lv_at hl 0 rfl) ?_
    refine m_mald (v := ((av 5) nd)) hc hE hw hM29 (k := 5) (by decide) (vp_in_nI (N := 520) (by omega) (by decide)) ((congrArg (av 5) (nI_clamp (n := nd) (by omega))).trans rfl) d_SM_goOn_201 ?_
    refine m_callv hw (m_runV (As := [.int ((av 5) nd)]) (rest := []) hc hE hw (c_SM_push G l H.size f28 hM29 (tp := tp + 1) htp (by omega) ((av 5) nd)) hM29.1 rfl cw_SM_192 se_SM_push rfl hl.1 rfl (Nat.le_of_ble_eq_true rfl) d_SM_goOn_202 ⟨rfl, rfl, by decide, by decide⟩ ⟨by first | decide | (dsimp only; omega), by first | decide | (dsimp only; omega)⟩) (fun g32 H locs p31 hw => ?_)
    obtain ⟨hMp, hXp⟩ := p31
    replace hMp : Mw G mo ar (upd sc 11 (nI (tp + 1 + 1))) (va_up (va_up (va_up (va_up av 13 (upd (av 13) tp 2)) 14 (upd (av 14) tp (sc 12))) 12 (upd (av 12) (tp + 1) ((av 5) nd))) 13 (upd (upd (av 13) tp 2) (tp + 1) 0)) g32 := hMp
    exact m_vret hc hr hlk hw ⟨by first | decide | (dsimp only; omega), by first | decide | (dsimp only; omega)⟩ d_SM_goOn_205 ⟨fun _ => ⟨_, _, hMp, (hX30.tr hXp), ((((Stk.rf.tr (Stk.w (by decide) (by omega)) (Nat.le_refl _)).tr (Stk.w (by decide) (by omega)) (Nat.le_refl _)).tr (Stk.w (by decide) (by omega)) (Nat.le_refl _)).tr (Stk.w (by decide) (by omega)) (Nat.le_refl _)), fun j hj h11 => upd_ne' _ _ _ h11, rfl, (show upd (av 12) (tp + 1) (av 5 nd) tp = av 12 tp from upd_ne' _ _ _ (show tp ≠ tp + 1 by omega)), (show upd (upd (av 13) tp 2) (tp + 1) 0 tp = 2 from (upd_ne' _ _ _ (show tp ≠ tp + 1 by omega)).trans (upd_self' _ _ _)), (show upd (av 14) tp (sc 12) tp = (sc 12) from upd_self' _ _ _), upd_self' _ _ _, upd_self' _ _ _⟩, fun z => absurd z c21⟩

set_option maxHeartbeats 4000000 in
set_option maxRecDepth 100000 in
/-- goOn -/
theorem c_SM_goOn22 (G : GG) (l : Launch) (sz : Nat) (f : Wd) {mo : Nat} {ar : Nat → Nat} {sc : Nat → Int32} {av : Nat → Nat → Int32} (hM : Mw G mo ar sc av f) {tp nd : Nat} (htp : sc 11 = nI (tp + 1)) (hlt : tp < 19) (hnd : nd < 520) (hno : av 12 tp = nI nd) (so di le : Int32) (hso : av 3 nd = 2) (hst : av 13 tp = 2) : Cv G l y_SM_goOn b_SM_goOn 6 none ({ frames := 6, cells := 0, slots := 0, locals := 157 }) sz f [.ref mo, .int so, .int di, .int le] (POP G mo ar sc av f tp (pif (sc 12 = 0) (av 14 tp) (sc 12))) := by
  refine ct_of (by decide) (Nat.le_of_ble_eq_true rfl) ?_
  intro p e s m below meth c ls H locs hEn
  obtain ⟨hc, hr, hlk, hin, hE, hw, hsz, hl⟩ := hEn
  have hx := hc.1
  have hb := hc.2.1
  have hl : lv_has ls 6 [(0, .ref mo), (1, .int so), (2, .int di), (3, .int le)] := hl
  have hX : Mx mo ar f f := Mx.rf
  refine lv_aload_n hx hb d_SM_goOn_0 rfl (lv_at hl 0 rfl) ?_
  refine m_mget (v := .int (sc 11)) hc hE hw hM l_SM_182_SM rfl d_SM_goOn_1 ?_
  refine m_top (y := nI (tp + 1)) htp ?_
  refine lv_iconst (v := 1) hx hb d_SM_goOn_4 (by decide) ?_
  refine lv_isub hx hb d_SM_goOn_5 ?_
  refine m_top (y := (nI tp)) (nI_pred tp) ?_
  refine lv_istore (lv' := [(4, .int (nI tp)), (0, .ref mo), (1, .int so), (2, .int di), (3, .int le)]) hx hb d_SM_goOn_6 hl (by decide) rfl (fun ls hl => ?_)
  refine lv_aload_n hx hb d_SM_goOn_8 rfl (lv_at hl 1 rfl) ?_
  refine m_mget (v := .ref (ar 12)) hc hE hw hM l_SM_50_SM rfl d_SM_goOn_9 ?_
  refine lv_iload hx hb d_SM_goOn_12 (lv_at hl 0 rfl) ?_
  refine m_mald (v := (nI nd)) hc hE hw hM (k := 12) (by decide) (vp_in_nI (N := 20) (by omega) (by decide)) ((congrArg (av 12) (nI_clamp (n := tp) (by omega))).trans hno) d_SM_goOn_14 ?_
  refine lv_istore (lv' := [(5, .int (nI nd)), (4, .int (nI tp)), (0, .ref mo), (1, .int so), (2, .int di), (3, .int le)]) hx hb d_SM_goOn_15 hl (by decide) rfl (fun ls hl => ?_)
  refine lv_aload_n hx hb d_SM_goOn_17 rfl (lv_at hl 2 rfl) ?_
  refine m_mget (v := .ref (ar 3)) hc hE hw hM l_SM_19_SM rfl d_SM_goOn_18 ?_
  refine lv_iload hx hb d_SM_goOn_21 (lv_at hl 0 rfl) ?_
  refine m_mald (v := 2) hc hE hw hM (k := 3) (by decide) (vp_in_nI (N := 520) (by omega) (by decide)) ((congrArg (av 3) (nI_clamp (n := nd) (by omega))).trans hso) d_SM_goOn_23 ?_
  refine lv_iconst (v := 1) hx hb d_SM_goOn_24 (by decide) ?_
  refine lv_icmp_ne (tgt := 52) hx hb d_SM_goOn_25 (by decide) (fun _ => ?_) (fun z => absurd z (by decide))
  refine lv_aload_n hx hb d_SM_goOn_52 rfl (lv_at hl 2 rfl) ?_
  refine m_mget (v := .ref (ar 13)) hc hE hw hM l_SM_53_SM rfl d_SM_goOn_53 ?_
  refine lv_iload hx hb d_SM_goOn_56 (lv_at hl 1 rfl) ?_
  refine m_mald (v := 2) hc hE hw hM (k := 13) (by decide) (vp_in_nI (N := 20) (by omega) (by decide)) ((congrArg (av 13) (nI_clamp (n := tp) (by omega))).trans hst) d_SM_goOn_58 ?_
  refine lv_if_ne (tgt := 145) hx hb d_SM_goOn_59 (by decide) (fun _ => ?_) (fun z => absurd z (by decide))
  refine lv_aload_n hx hb d_SM_goOn_145 rfl (lv_at hl 2 rfl) ?_
  refine m_mget (v := .ref (ar 3)) hc hE hw hM l_SM_19_SM rfl d_SM_goOn_146 ?_
  refine lv_iload hx hb d_SM_goOn_149 (lv_at hl 0 rfl) ?_
  refine m_mald (v := 2) hc hE hw hM (k := 3) (by decide) (vp_in_nI (N := 520) (by omega) (by decide)) ((congrArg (av 3) (nI_clamp (n := nd) (by omega))).trans hso) d_SM_goOn_151 ?_
  refine lv_iconst (v := 2) hx hb d_SM_goOn_152 (by decide) ?_
  refine lv_icmp_ne (tgt := 206) hx hb d_SM_goOn_153 (by decide) (fun z => absurd z (by decide)) (fun _ => ?_)
  refine lv_aload_n hx hb d_SM_goOn_156 rfl (lv_at hl 2 rfl) ?_
  refine m_mget (v := .ref (ar 13)) hc hE hw hM l_SM_53_SM rfl d_SM_goOn_157 ?_
  refine lv_iload hx hb d_SM_goOn_160 (lv_at hl 1 rfl) ?_
  refine m_mald (v := 2) hc hE hw hM (k := 13) (by decide) (vp_in_nI (N := 20) (by omega) (by decide)) ((congrArg (av 13) (nI_clamp (n := tp) (by omega))).trans hst) d_SM_goOn_162 ?_
  refine lv_iconst (v := 1) hx hb d_SM_goOn_163 (by decide) ?_
  refine lv_icmp_ne (tgt := 206) hx hb d_SM_goOn_164 (by decide) (fun _ => ?_) (fun z => absurd z (by decide))
  refine lv_aload_n hx hb d_SM_goOn_206 rfl (lv_at hl 2 rfl) ?_
  refine m_mget (v := .ref (ar 3)) hc hE hw hM l_SM_19_SM rfl d_SM_goOn_207 ?_
  refine lv_iload hx hb d_SM_goOn_210 (lv_at hl 0 rfl) ?_
  refine m_mald (v := 2) hc hE hw hM (k := 3) (by decide) (vp_in_nI (N := 520) (by omega) (by decide)) ((congrArg (av 3) (nI_clamp (n := nd) (by omega))).trans hso) d_SM_goOn_212 ?_
  refine lv_iconst (v := 2) hx hb d_SM_goOn_213 (by decide) ?_
  refine lv_icmp_ne (tgt := 246) hx hb d_SM_goOn_214 (by decide) (fun z => absurd z (by decide)) (fun _ => ?_)
  refine lv_aload_n hx hb d_SM_goOn_217 rfl (lv_at hl 2 rfl) ?_
  refine m_mget (v := .ref (ar 13)) hc hE hw hM l_SM_53_SM rfl d_SM_goOn_218 ?_
  refine lv_iload hx hb d_SM_goOn_221 (lv_at hl 1 rfl) ?_
  refine m_mald (v := 2) hc hE hw hM (k := 13) (by decide) (vp_in_nI (N := 20) (by omega) (by decide)) ((congrArg (av 13) (nI_clamp (n := tp) (by omega))).trans hst) d_SM_goOn_223 ?_
  refine lv_iconst (v := 2) hx hb d_SM_goOn_224 (by decide) ?_
  refine lv_icmp_ne (tgt := 246) hx hb d_SM_goOn_225 (by decide) (fun z => absurd z (by decide)) (fun _ => ?_)
  refine lv_aload_n hx hb d_SM_goOn_228 rfl (lv_at hl 2 rfl) ?_
  refine m_mget (v := .int (sc 12)) hc hE hw hM l_SM_189_SM rfl d_SM_goOn_229 ?_
  refine lv_if_ne (tgt := 246) hx hb d_SM_goOn_232 (by decide) (fun c21 => ?_) (fun c21 => ?_)
  · refine lv_aload_n hx hb d_SM_goOn_246 rfl (lv_at hl 2 rfl) ?_
    refine m_mget (v := .ref (ar 3)) hc hE hw hM l_SM_19_SM rfl d_SM_goOn_247 ?_
    refine lv_iload hx hb d_SM_goOn_250 (lv_at hl 0 rfl) ?_
    refine m_mald (v := 2) hc hE hw hM (k := 3) (by decide) (vp_in_nI (N := 520) (by omega) (by decide)) ((congrArg (av 3) (nI_clamp (n := nd) (by omega))).trans hso) d_SM_goOn_252 ?_
    refine lv_iconst (v := 3) hx hb d_SM_goOn_253 (by decide) ?_
    refine lv_icmp_ne (tgt := 289) hx hb d_SM_goOn_254 (by decide) (fun _ => ?_) (fun z => absurd z (by decide))
    refine lv_aload_n hx hb d_SM_goOn_289 rfl (lv_at hl 2 rfl) ?_
    refine m_mget (v := .ref (ar 3)) hc hE hw hM l_SM_19_SM rfl d_SM_goOn_290 ?_
    refine lv_iload hx hb d_SM_goOn_293 (lv_at hl 0 rfl) ?_
    refine m_mald (v := 2) hc hE hw hM (k := 3) (by decide) (vp_in_nI (N := 520) (by omega) (by decide)) ((congrArg (av 3) (nI_clamp (n := nd) (by omega))).trans hso) d_SM_goOn_295 ?_
    refine lv_iconst (v := 4) hx hb d_SM_goOn_296 (by decide) ?_
    refine lv_icmp_ne (tgt := 318) hx hb d_SM_goOn_297 (by decide) (fun _ => ?_) (fun z => absurd z (by decide))
    refine lv_aload_n hx hb d_SM_goOn_318 rfl (lv_at hl 2 rfl) ?_
    refine lv_dup hx hb d_SM_goOn_319 rfl ?_
    refine m_mget (v := .int (sc 11)) hc hE hw hM l_SM_182_SM rfl d_SM_goOn_320 ?_
    refine m_top (y := nI (tp + 1)) htp ?_
    refine lv_iconst (v := 1) hx hb d_SM_goOn_323 (by decide) ?_
    refine lv_isub hx hb d_SM_goOn_324 ?_
    refine m_top (y := (nI tp)) (nI_pred tp) ?_
    refine m_mput (sc' := (upd sc 11 (nI tp))) hc hE hw hM hX l_SM_182_SM rfl ds_SM_36 rfl rfl rfl d_SM_goOn_325 (fun H locs f22 hM23 hX24 hw => ?_)
    exact m_vret hc hr hlk hw ⟨by first | decide | (dsimp only; omega), by first | decide | (dsimp only; omega)⟩ d_SM_goOn_328 ⟨_, _, hM23, hX24, Stk.rf, fun j hj h11 h12 => by repeat rw [upd_ne' _ _ _ (by assumption)], rfl, (pif_f c21).symm⟩
  · refine lv_aload_n hx hb d_SM_goOn_235 rfl (lv_at hl 2 rfl) ?_
    refine lv_aload_n hx hb d_SM_goOn_236 rfl (lv_at hl 2 rfl) ?_
    refine m_mget (v := .ref (ar 14)) hc hE hw hM l_SM_56_SM rfl d_SM_goOn_237 ?_
    refine lv_iload hx hb d_SM_goOn_240 (lv_at hl 1 rfl) ?_
    refine m_mald (v := ((av 14) tp)) hc hE hw hM (k := 14) (by decide) (vp_in_nI (N := 20) (by omega) (by decide)) ((congrArg (av 14) (nI_clamp (n := tp) (by omega))).trans rfl) d_SM_goOn_242 ?_
    refine m_mput (sc' := (upd sc 12 ((av 14) tp))) hc hE hw hM hX l_SM_189_SM rfl ds_SM_37 rfl rfl rfl d_SM_goOn_243 (fun H locs f25 hM26 hX27 hw => ?_)
    refine lv_aload_n hx hb d_SM_goOn_246 rfl (lv_at hl 2 rfl) ?_
    refine m_mget (v := .ref (ar 3)) hc hE hw hM26 l_SM_19_SM rfl d_SM_goOn_247 ?_
    refine lv_iload hx hb d_SM_goOn_250 (lv_at hl 0 rfl) ?_
    refine m_mald (v := 2) hc hE hw hM26 (k := 3) (by decide) (vp_in_nI (N := 520) (by omega) (by decide)) ((congrArg (av 3) (nI_clamp (n := nd) (by omega))).trans hso) d_SM_goOn_252 ?_
    refine lv_iconst (v := 3) hx hb d_SM_goOn_253 (by decide) ?_
    refine lv_icmp_ne (tgt := 289) hx hb d_SM_goOn_254 (by decide) (fun _ => ?_) (fun z => absurd z (by decide))
    refine lv_aload_n hx hb d_SM_goOn_289 rfl (lv_at hl 2 rfl) ?_
    refine m_mget (v := .ref (ar 3)) hc hE hw hM26 l_SM_19_SM rfl d_SM_goOn_290 ?_
    refine lv_iload hx hb d_SM_goOn_293 (lv_at hl 0 rfl) ?_
    refine m_mald (v := 2) hc hE hw hM26 (k := 3) (by decide) (vp_in_nI (N := 520) (by omega) (by decide)) ((congrArg (av 3) (nI_clamp (n := nd) (by omega))).trans hso) d_SM_goOn_295 ?_
    refine lv_iconst (v := 4) hx hb d_SM_goOn_296 (by decide) ?_
    refine lv_icmp_ne (tgt := 318) hx hb d_SM_goOn_297 (by decide) (fun _ => ?_) (fun z => absurd z (by decide))
    refine lv_aload_n hx hb d_SM_goOn_318 rfl (lv_at hl 2 rfl) ?_
    refine lv_dup hx hb d_SM_goOn_319 rfl ?_
    refine m_mget (v := .int (sc 11)) hc hE hw hM26 l_SM_182_SM rfl d_SM_goOn_320 ?_
    refine m_top (y := nI (tp + 1)) htp ?_
    refine lv_iconst (v := 1) hx hb d_SM_goOn_323 (by decide) ?_
    refine lv_isub hx hb d_SM_goOn_324 ?_
    refine m_top (y := (nI tp)) (nI_pred tp) ?_
    refine m_mput (sc' := (upd (upd sc 11 (nI tp)) 12 ((av 14) tp))) hc hE hw hM26 hX27 l_SM_182_SM rfl ds_SM_36 rfl rfl rfl d_SM_goOn_325 (fun H locs f28 hM29 hX30 hw => ?_)
    exact m_vret hc hr hlk hw ⟨by first | decide | (dsimp only; omega), by first | decide | (dsimp only; omega)⟩ d_SM_goOn_328 ⟨_, _, hM29, hX30, Stk.rf, fun j hj h11 h12 => by repeat rw [upd_ne' _ _ _ (by assumption)], rfl, (pif_t c21).symm⟩

set_option maxHeartbeats 4000000 in
set_option maxRecDepth 100000 in
/-- goOn -/
theorem c_SM_goOn31 (G : GG) (l : Launch) (sz : Nat) (f : Wd) {mo : Nat} {ar : Nat → Nat} {sc : Nat → Int32} {av : Nat → Nat → Int32} (hM : Mw G mo ar sc av f) {tp nd : Nat} (htp : sc 11 = nI (tp + 1)) (hlt : tp < 19) (hnd : nd < 520) (hno : av 12 tp = nI nd) (so di le : Int32) (hso : av 3 nd = 3) (hst : av 13 tp = 1) : Cv G l y_SM_goOn b_SM_goOn 6 none ({ frames := 6, cells := 0, slots := 0, locals := 157 }) sz f [.ref mo, .int so, .int di, .int le] (POP G mo ar sc av f tp (pif (sc 12 = 0 ∧ (so = 1 ∨ (so = 0 ∧ av 8 nd = 1))) 2 (sc 12))) := by
  refine ct_of (by decide) (Nat.le_of_ble_eq_true rfl) ?_
  intro p e s m below meth c ls H locs hEn
  obtain ⟨hc, hr, hlk, hin, hE, hw, hsz, hl⟩ := hEn
  have hx := hc.1
  have hb := hc.2.1
  have hl : lv_has ls 6 [(0, .ref mo), (1, .int so), (2, .int di), (3, .int le)] := hl
  have hX : Mx mo ar f f := Mx.rf
  refine lv_aload_n hx hb d_SM_goOn_0 rfl (lv_at hl 0 rfl) ?_
  refine m_mget (v := .int (sc 11)) hc hE hw hM l_SM_182_SM rfl d_SM_goOn_1 ?_
  refine m_top (y := nI (tp + 1)) htp ?_
  refine lv_iconst (v := 1) hx hb d_SM_goOn_4 (by decide) ?_
  refine lv_isub hx hb d_SM_goOn_5 ?_
  refine m_top (y := (nI tp)) (nI_pred tp) ?_
  refine lv_istore (lv' := [(4, .int (nI tp)), (0, .ref mo), (1, .int so), (2, .int di), (3, .int le)]) hx hb d_SM_goOn_6 hl (by decide) rfl (fun ls hl => ?_)
  refine lv_aload_n hx hb d_SM_goOn_8 rfl (lv_at hl 1 rfl) ?_
  refine m_mget (v := .ref (ar 12)) hc hE hw hM l_SM_50_SM rfl d_SM_goOn_9 ?_
  refine lv_iload hx hb d_SM_goOn_12 (lv_at hl 0 rfl) ?_
  refine m_mald (v := (nI nd)) hc hE hw hM (k := 12) (by decide) (vp_in_nI (N := 20) (by omega) (by decide)) ((congrArg (av 12) (nI_clamp (n := tp) (by omega))).trans hno) d_SM_goOn_14 ?_
  refine lv_istore (lv' := [(5, .int (nI nd)), (4, .int (nI tp)), (0, .ref mo), (1, .int so), (2, .int di), (3, .int le)]) hx hb d_SM_goOn_15 hl (by decide) rfl (fun ls hl => ?_)
  refine lv_aload_n hx hb d_SM_goOn_17 rfl (lv_at hl 2 rfl) ?_
  refine m_mget (v := .ref (ar 3)) hc hE hw hM l_SM_19_SM rfl d_SM_goOn_18 ?_
  refine lv_iload hx hb d_SM_goOn_21 (lv_at hl 0 rfl) ?_
  refine m_mald (v := 3) hc hE hw hM (k := 3) (by decide) (vp_in_nI (N := 520) (by omega) (by decide)) ((congrArg (av 3) (nI_clamp (n := nd) (by omega))).trans hso) d_SM_goOn_23 ?_
  refine lv_iconst (v := 1) hx hb d_SM_goOn_24 (by decide) ?_
  refine lv_icmp_ne (tgt := 52) hx hb d_SM_goOn_25 (by decide) (fun _ => ?_) (fun z => absurd z (by decide))
  refine lv_aload_n hx hb d_SM_goOn_52 rfl (lv_at hl 2 rfl) ?_
  refine m_mget (v := .ref (ar 13)) hc hE hw hM l_SM_53_SM rfl d_SM_goOn_53 ?_
  refine lv_iload hx hb d_SM_goOn_56 (lv_at hl 1 rfl) ?_
  refine m_mald (v := 1) hc hE hw hM (k := 13) (by decide) (vp_in_nI (N := 20) (by omega) (by decide)) ((congrArg (av 13) (nI_clamp (n := tp) (by omega))).trans hst) d_SM_goOn_58 ?_
  refine lv_if_ne (tgt := 145) hx hb d_SM_goOn_59 (by decide) (fun _ => ?_) (fun z => absurd z (by decide))
  refine lv_aload_n hx hb d_SM_goOn_145 rfl (lv_at hl 2 rfl) ?_
  refine m_mget (v := .ref (ar 3)) hc hE hw hM l_SM_19_SM rfl d_SM_goOn_146 ?_
  refine lv_iload hx hb d_SM_goOn_149 (lv_at hl 0 rfl) ?_
  refine m_mald (v := 3) hc hE hw hM (k := 3) (by decide) (vp_in_nI (N := 520) (by omega) (by decide)) ((congrArg (av 3) (nI_clamp (n := nd) (by omega))).trans hso) d_SM_goOn_151 ?_
  refine lv_iconst (v := 2) hx hb d_SM_goOn_152 (by decide) ?_
  refine lv_icmp_ne (tgt := 206) hx hb d_SM_goOn_153 (by decide) (fun _ => ?_) (fun z => absurd z (by decide))
  refine lv_aload_n hx hb d_SM_goOn_206 rfl (lv_at hl 2 rfl) ?_
  refine m_mget (v := .ref (ar 3)) hc hE hw hM l_SM_19_SM rfl d_SM_goOn_207 ?_
  refine lv_iload hx hb d_SM_goOn_210 (lv_at hl 0 rfl) ?_
  refine m_mald (v := 3) hc hE hw hM (k := 3) (by decide) (vp_in_nI (N := 520) (by omega) (by decide)) ((congrArg (av 3) (nI_clamp (n := nd) (by omega))).trans hso) d_SM_goOn_212 ?_
  refine lv_iconst (v := 2) hx hb d_SM_goOn_213 (by decide) ?_
  refine lv_icmp_ne (tgt := 246) hx hb d_SM_goOn_214 (by decide) (fun _ => ?_) (fun z => absurd z (by decide))
  refine lv_aload_n hx hb d_SM_goOn_246 rfl (lv_at hl 2 rfl) ?_
  refine m_mget (v := .ref (ar 3)) hc hE hw hM l_SM_19_SM rfl d_SM_goOn_247 ?_
  refine lv_iload hx hb d_SM_goOn_250 (lv_at hl 0 rfl) ?_
  refine m_mald (v := 3) hc hE hw hM (k := 3) (by decide) (vp_in_nI (N := 520) (by omega) (by decide)) ((congrArg (av 3) (nI_clamp (n := nd) (by omega))).trans hso) d_SM_goOn_252 ?_
  refine lv_iconst (v := 3) hx hb d_SM_goOn_253 (by decide) ?_
  refine lv_icmp_ne (tgt := 289) hx hb d_SM_goOn_254 (by decide) (fun z => absurd z (by decide)) (fun _ => ?_)
  refine lv_aload_n hx hb d_SM_goOn_257 rfl (lv_at hl 2 rfl) ?_
  refine m_mget (v := .int (sc 12)) hc hE hw hM l_SM_189_SM rfl d_SM_goOn_258 ?_
  refine lv_if_ne (tgt := 289) hx hb d_SM_goOn_261 (by decide) (fun c21 => ?_) (fun c21 => ?_)
  · refine lv_aload_n hx hb d_SM_goOn_289 rfl (lv_at hl 2 rfl) ?_
    refine m_mget (v := .ref (ar 3)) hc hE hw hM l_SM_19_SM rfl d_SM_goOn_290 ?_
    refine lv_iload hx hb d_SM_goOn_293 (lv_at hl 0 rfl) ?_
    refine m_mald (v := 3) hc hE hw hM (k := 3) (by decide) (vp_in_nI (N := 520) (by omega) (by decide)) ((congrArg (av 3) (nI_clamp (n := nd) (by omega))).trans hso) d_SM_goOn_295 ?_
    refine lv_iconst (v := 4) hx hb d_SM_goOn_296 (by decide) ?_
    refine lv_icmp_ne (tgt := 318) hx hb d_SM_goOn_297 (by decide) (fun _ => ?_) (fun z => absurd z (by decide))
    refine lv_aload_n hx hb d_SM_goOn_318 rfl (lv_at hl 2 rfl) ?_
    refine lv_dup hx hb d_SM_goOn_319 rfl ?_
    refine m_mget (v := .int (sc 11)) hc hE hw hM l_SM_182_SM rfl d_SM_goOn_320 ?_
    refine m_top (y := nI (tp + 1)) htp ?_
    refine lv_iconst (v := 1) hx hb d_SM_goOn_323 (by decide) ?_
    refine lv_isub hx hb d_SM_goOn_324 ?_
    refine m_top (y := (nI tp)) (nI_pred tp) ?_
    refine m_mput (sc' := (upd sc 11 (nI tp))) hc hE hw hM hX l_SM_182_SM rfl ds_SM_36 rfl rfl rfl d_SM_goOn_325 (fun H locs f22 hM23 hX24 hw => ?_)
    exact m_vret hc hr hlk hw ⟨by first | decide | (dsimp only; omega), by first | decide | (dsimp only; omega)⟩ d_SM_goOn_328 ⟨_, _, hM23, hX24, Stk.rf, fun j hj h11 h12 => by repeat rw [upd_ne' _ _ _ (by assumption)], rfl, (pif_f (fun z => c21 z.1)).symm⟩
  · refine lv_iload_n hx hb d_SM_goOn_264 rfl (lv_at hl 3 rfl) ?_
    refine lv_iconst (v := 1) hx hb d_SM_goOn_265 (by decide) ?_
    refine lv_icmp_eq (tgt := 284) hx hb d_SM_goOn_266 (by decide) (fun c25 => ?_) (fun c25 => ?_)
    · refine lv_aload_n hx hb d_SM_goOn_284 rfl (lv_at hl 2 rfl) ?_
      refine lv_iconst (v := 2) hx hb d_SM_goOn_285 (by decide) ?_
      refine m_mput (sc' := (upd sc 12 2)) hc hE hw hM hX l_SM_189_SM rfl ds_SM_37 rfl rfl rfl d_SM_goOn_286 (fun H locs f26 hM27 hX28 hw => ?_)
      refine lv_aload_n hx hb d_SM_goOn_289 rfl (lv_at hl 2 rfl) ?_
      refine m_mget (v := .ref (ar 3)) hc hE hw hM27 l_SM_19_SM rfl d_SM_goOn_290 ?_
      refine lv_iload hx hb d_SM_goOn_293 (lv_at hl 0 rfl) ?_
      refine m_mald (v := 3) hc hE hw hM27 (k := 3) (by decide) (vp_in_nI (N := 520) (by omega) (by decide)) ((congrArg (av 3) (nI_clamp (n := nd) (by omega))).trans hso) d_SM_goOn_295 ?_
      refine lv_iconst (v := 4) hx hb d_SM_goOn_296 (by decide) ?_
      refine lv_icmp_ne (tgt := 318) hx hb d_SM_goOn_297 (by decide) (fun _ => ?_) (fun z => absurd z (by decide))
      refine lv_aload_n hx hb d_SM_goOn_318 rfl (lv_at hl 2 rfl) ?_
      refine lv_dup hx hb d_SM_goOn_319 rfl ?_
      refine m_mget (v := .int (sc 11)) hc hE hw hM27 l_SM_182_SM rfl d_SM_goOn_320 ?_
      refine m_top (y := nI (tp + 1)) htp ?_
      refine lv_iconst (v := 1) hx hb d_SM_goOn_323 (by decide) ?_
      refine lv_isub hx hb d_SM_goOn_324 ?_
      refine m_top (y := (nI tp)) (nI_pred tp) ?_
      refine m_mput (sc' := (upd (upd sc 11 (nI tp)) 12 2)) hc hE hw hM27 hX28 l_SM_182_SM rfl ds_SM_36 rfl rfl rfl d_SM_goOn_325 (fun H locs f29 hM30 hX31 hw => ?_)
      exact m_vret hc hr hlk hw ⟨by first | decide | (dsimp only; omega), by first | decide | (dsimp only; omega)⟩ d_SM_goOn_328 ⟨_, _, hM30, hX31, Stk.rf, fun j hj h11 h12 => by repeat rw [upd_ne' _ _ _ (by assumption)], rfl, (pif_t ⟨c21, Or.inl c25⟩).symm⟩
    · refine lv_iload_n hx hb d_SM_goOn_269 rfl (lv_at hl 3 rfl) ?_
      refine lv_if_ne (tgt := 289) hx hb d_SM_goOn_270 (by decide) (fun c32 => ?_) (fun c32 => ?_)
      · refine lv_aload_n hx hb d_SM_goOn_289 rfl (lv_at hl 2 rfl) ?_
        refine m_mget (v := .ref (ar 3)) hc hE hw hM l_SM_19_SM rfl d_SM_goOn_290 ?_
        refine lv_iload hx hb d_SM_goOn_293 (lv_at hl 0 rfl) ?_
        refine m_mald (v := 3) hc hE hw hM (k := 3) (by decide) (vp_in_nI (N := 520) (by omega) (by decide)) ((congrArg (av 3) (nI_clamp (n := nd) (by omega))).trans hso) d_SM_goOn_295 ?_
        refine lv_iconst (v := 4) hx hb d_SM_goOn_296 (by decide) ?_
        refine lv_icmp_ne (tgt := 318) hx hb d_SM_goOn_297 (by decide) (fun _ => ?_) (fun z => absurd z (by decide))
        refine lv_aload_n hx hb d_SM_goOn_318 rfl (lv_at hl 2 rfl) ?_
        refine lv_dup hx hb d_SM_goOn_319 rfl ?_
        refine m_mget (v := .int (sc 11)) hc hE hw hM l_SM_182_SM rfl d_SM_goOn_320 ?_
        refine m_top (y := nI (tp + 1)) htp ?_
        refine lv_iconst (v := 1) hx hb d_SM_goOn_323 (by decide) ?_
        refine lv_isub hx hb d_SM_goOn_324 ?_
        refine m_top (y := (nI tp)) (nI_pred tp) ?_
        refine m_mput (sc' := (upd sc 11 (nI tp))) hc hE hw hM hX l_SM_182_SM rfl ds_SM_36 rfl rfl rfl d_SM_goOn_325 (fun H locs f33 hM34 hX35 hw => ?_)
        exact m_vret hc hr hlk hw ⟨by first | decide | (dsimp only; omega), by first | decide | (dsimp only; omega)⟩ d_SM_goOn_328 ⟨_, _, hM34, hX35, Stk.rf, fun j hj h11 h12 => by repeat rw [upd_ne' _ _ _ (by assumption)], rfl, (pif_f (fun z => z.2.elim c25 (fun y => c32 y.1))).symm⟩
      · refine lv_aload_n hx hb d_SM_goOn_273 rfl (lv_at hl 2 rfl) ?_
        refine m_mget (v := .ref (ar 8)) hc hE hw hM l_SM_34_SM rfl d_SM_goOn_274 ?_
        refine lv_iload hx hb d_SM_goOn_277 (lv_at hl 0 rfl) ?_
        refine m_mald (v := ((av 8) nd)) hc hE hw hM (k := 8) (by decide) (vp_in_nI (N := 520) (by omega) (by decide)) ((congrArg (av 8) (nI_clamp (n := nd) (by omega))).trans rfl) d_SM_goOn_279 ?_
        refine lv_iconst (v := 1) hx hb d_SM_goOn_280 (by decide) ?_
        refine lv_icmp_ne (tgt := 289) hx hb d_SM_goOn_281 (by decide) (fun c36 => ?_) (fun c36 => ?_)
        · refine lv_aload_n hx hb d_SM_goOn_289 rfl (lv_at hl 2 rfl) ?_
          refine m_mget (v := .ref (ar 3)) hc hE hw hM l_SM_19_SM rfl d_SM_goOn_290 ?_
          refine lv_iload hx hb d_SM_goOn_293 (lv_at hl 0 rfl) ?_
          refine m_mald (v := 3) hc hE hw hM (k := 3) (by decide) (vp_in_nI (N := 520) (by omega) (by decide)) ((congrArg (av 3) (nI_clamp (n := nd) (by omega))).trans hso) d_SM_goOn_295 ?_
          refine lv_iconst (v := 4) hx hb d_SM_goOn_296 (by decide) ?_
          refine lv_icmp_ne (tgt := 318) hx hb d_SM_goOn_297 (by decide) (fun _ => ?_) (fun z => absurd z (by decide))
          refine lv_aload_n hx hb d_SM_goOn_318 rfl (lv_at hl 2 rfl) ?_
          refine lv_dup hx hb d_SM_goOn_319 rfl ?_
          refine m_mget (v := .int (sc 11)) hc hE hw hM l_SM_182_SM rfl d_SM_goOn_320 ?_
          refine m_top (y := nI (tp + 1)) htp ?_
          refine lv_iconst (v := 1) hx hb d_SM_goOn_323 (by decide) ?_
          refine lv_isub hx hb d_SM_goOn_324 ?_
          refine m_top (y := (nI tp)) (nI_pred tp) ?_
          refine m_mput (sc' := (upd sc 11 (nI tp))) hc hE hw hM hX l_SM_182_SM rfl ds_SM_36 rfl rfl rfl d_SM_goOn_325 (fun H locs f37 hM38 hX39 hw => ?_)
          exact m_vret hc hr hlk hw ⟨by first | decide | (dsimp only; omega), by first | decide | (dsimp only; omega)⟩ d_SM_goOn_328 ⟨_, _, hM38, hX39, Stk.rf, fun j hj h11 h12 => by repeat rw [upd_ne' _ _ _ (by assumption)], rfl, (pif_f (fun z => z.2.elim c25 (fun y => c36 y.2))).symm⟩
        · refine lv_aload_n hx hb d_SM_goOn_284 rfl (lv_at hl 2 rfl) ?_
          refine lv_iconst (v := 2) hx hb d_SM_goOn_285 (by decide) ?_
          refine m_mput (sc' := (upd sc 12 2)) hc hE hw hM hX l_SM_189_SM rfl ds_SM_37 rfl rfl rfl d_SM_goOn_286 (fun H locs f40 hM41 hX42 hw => ?_)
          refine lv_aload_n hx hb d_SM_goOn_289 rfl (lv_at hl 2 rfl) ?_
          refine m_mget (v := .ref (ar 3)) hc hE hw hM41 l_SM_19_SM rfl d_SM_goOn_290 ?_
          refine lv_iload hx hb d_SM_goOn_293 (lv_at hl 0 rfl) ?_
          refine m_mald (v := 3) hc hE hw hM41 (k := 3) (by decide) (vp_in_nI (N := 520) (by omega) (by decide)) ((congrArg (av 3) (nI_clamp (n := nd) (by omega))).trans hso) d_SM_goOn_295 ?_
          refine lv_iconst (v := 4) hx hb d_SM_goOn_296 (by decide) ?_
          refine lv_icmp_ne (tgt := 318) hx hb d_SM_goOn_297 (by decide) (fun _ => ?_) (fun z => absurd z (by decide))
          refine lv_aload_n hx hb d_SM_goOn_318 rfl (lv_at hl 2 rfl) ?_
          refine lv_dup hx hb d_SM_goOn_319 rfl ?_
          refine m_mget (v := .int (sc 11)) hc hE hw hM41 l_SM_182_SM rfl d_SM_goOn_320 ?_
          refine m_top (y := nI (tp + 1)) htp ?_
          refine lv_iconst (v := 1) hx hb d_SM_goOn_323 (by decide) ?_
          refine lv_isub hx hb d_SM_goOn_324 ?_
          refine m_top (y := (nI tp)) (nI_pred tp) ?_
          refine m_mput (sc' := (upd (upd sc 11 (nI tp)) 12 2)) hc hE hw hM41 hX42 l_SM_182_SM rfl ds_SM_36 rfl rfl rfl d_SM_goOn_325 (fun H locs f43 hM44 hX45 hw => ?_)
          exact m_vret hc hr hlk hw ⟨by first | decide | (dsimp only; omega), by first | decide | (dsimp only; omega)⟩ d_SM_goOn_328 ⟨_, _, hM44, hX45, Stk.rf, fun j hj h11 h12 => by repeat rw [upd_ne' _ _ _ (by assumption)], rfl, (pif_t ⟨c21, Or.inr ⟨c32, c36⟩⟩).symm⟩

set_option maxHeartbeats 4000000 in
set_option maxRecDepth 100000 in
/-- goOn -/
theorem c_SM_goOn41 (G : GG) (l : Launch) (sz : Nat) (f : Wd) {mo : Nat} {ar : Nat → Nat} {sc : Nat → Int32} {av : Nat → Nat → Int32} (hM : Mw G mo ar sc av f) {tp nd : Nat} (htp : sc 11 = nI (tp + 1)) (hlt : tp < 19) (hnd : nd < 520) (hno : av 12 tp = nI nd) (so di le : Int32) (hso : av 3 nd = 4) (hst : av 13 tp = 1) : Cv G l y_SM_goOn b_SM_goOn 6 none ({ frames := 6, cells := 0, slots := 0, locals := 157 }) sz f [.ref mo, .int so, .int di, .int le] (POP G mo ar sc av f tp (pif (sc 12 = 0) (av 8 nd) (sc 12))) := by
  refine ct_of (by decide) (Nat.le_of_ble_eq_true rfl) ?_
  intro p e s m below meth c ls H locs hEn
  obtain ⟨hc, hr, hlk, hin, hE, hw, hsz, hl⟩ := hEn
  have hx := hc.1
  have hb := hc.2.1
  have hl : lv_has ls 6 [(0, .ref mo), (1, .int so), (2, .int di), (3, .int le)] := hl
  have hX : Mx mo ar f f := Mx.rf
  refine lv_aload_n hx hb d_SM_goOn_0 rfl (lv_at hl 0 rfl) ?_
  refine m_mget (v := .int (sc 11)) hc hE hw hM l_SM_182_SM rfl d_SM_goOn_1 ?_
  refine m_top (y := nI (tp + 1)) htp ?_
  refine lv_iconst (v := 1) hx hb d_SM_goOn_4 (by decide) ?_
  refine lv_isub hx hb d_SM_goOn_5 ?_
  refine m_top (y := (nI tp)) (nI_pred tp) ?_
  refine lv_istore (lv' := [(4, .int (nI tp)), (0, .ref mo), (1, .int so), (2, .int di), (3, .int le)]) hx hb d_SM_goOn_6 hl (by decide) rfl (fun ls hl => ?_)
  refine lv_aload_n hx hb d_SM_goOn_8 rfl (lv_at hl 1 rfl) ?_
  refine m_mget (v := .ref (ar 12)) hc hE hw hM l_SM_50_SM rfl d_SM_goOn_9 ?_
  refine lv_iload hx hb d_SM_goOn_12 (lv_at hl 0 rfl) ?_
  refine m_mald (v := (nI nd)) hc hE hw hM (k := 12) (by decide) (vp_in_nI (N := 20) (by omega) (by decide)) ((congrArg (av 12) (nI_clamp (n := tp) (by omega))).trans hno) d_SM_goOn_14 ?_
  refine lv_istore (lv' := [(5, .int (nI nd)), (4, .int (nI tp)), (0, .ref mo), (1, .int so), (2, .int di), (3, .int le)]) hx hb d_SM_goOn_15 hl (by decide) rfl (fun ls hl => ?_)
  refine lv_aload_n hx hb d_SM_goOn_17 rfl (lv_at hl 2 rfl) ?_
  refine m_mget (v := .ref (ar 3)) hc hE hw hM l_SM_19_SM rfl d_SM_goOn_18 ?_
  refine lv_iload hx hb d_SM_goOn_21 (lv_at hl 0 rfl) ?_
  refine m_mald (v := 4) hc hE hw hM (k := 3) (by decide) (vp_in_nI (N := 520) (by omega) (by decide)) ((congrArg (av 3) (nI_clamp (n := nd) (by omega))).trans hso) d_SM_goOn_23 ?_
  refine lv_iconst (v := 1) hx hb d_SM_goOn_24 (by decide) ?_
  refine lv_icmp_ne (tgt := 52) hx hb d_SM_goOn_25 (by decide) (fun _ => ?_) (fun z => absurd z (by decide))
  refine lv_aload_n hx hb d_SM_goOn_52 rfl (lv_at hl 2 rfl) ?_
  refine m_mget (v := .ref (ar 13)) hc hE hw hM l_SM_53_SM rfl d_SM_goOn_53 ?_
  refine lv_iload hx hb d_SM_goOn_56 (lv_at hl 1 rfl) ?_
  refine m_mald (v := 1) hc hE hw hM (k := 13) (by decide) (vp_in_nI (N := 20) (by omega) (by decide)) ((congrArg (av 13) (nI_clamp (n := tp) (by omega))).trans hst) d_SM_goOn_58 ?_
  refine lv_if_ne (tgt := 145) hx hb d_SM_goOn_59 (by decide) (fun _ => ?_) (fun z => absurd z (by decide))
  refine lv_aload_n hx hb d_SM_goOn_145 rfl (lv_at hl 2 rfl) ?_
  refine m_mget (v := .ref (ar 3)) hc hE hw hM l_SM_19_SM rfl d_SM_goOn_146 ?_
  refine lv_iload hx hb d_SM_goOn_149 (lv_at hl 0 rfl) ?_
  refine m_mald (v := 4) hc hE hw hM (k := 3) (by decide) (vp_in_nI (N := 520) (by omega) (by decide)) ((congrArg (av 3) (nI_clamp (n := nd) (by omega))).trans hso) d_SM_goOn_151 ?_
  refine lv_iconst (v := 2) hx hb d_SM_goOn_152 (by decide) ?_
  refine lv_icmp_ne (tgt := 206) hx hb d_SM_goOn_153 (by decide) (fun _ => ?_) (fun z => absurd z (by decide))
  refine lv_aload_n hx hb d_SM_goOn_206 rfl (lv_at hl 2 rfl) ?_
  refine m_mget (v := .ref (ar 3)) hc hE hw hM l_SM_19_SM rfl d_SM_goOn_207 ?_
  refine lv_iload hx hb d_SM_goOn_210 (lv_at hl 0 rfl) ?_
  refine m_mald (v := 4) hc hE hw hM (k := 3) (by decide) (vp_in_nI (N := 520) (by omega) (by decide)) ((congrArg (av 3) (nI_clamp (n := nd) (by omega))).trans hso) d_SM_goOn_212 ?_
  refine lv_iconst (v := 2) hx hb d_SM_goOn_213 (by decide) ?_
  refine lv_icmp_ne (tgt := 246) hx hb d_SM_goOn_214 (by decide) (fun _ => ?_) (fun z => absurd z (by decide))
  refine lv_aload_n hx hb d_SM_goOn_246 rfl (lv_at hl 2 rfl) ?_
  refine m_mget (v := .ref (ar 3)) hc hE hw hM l_SM_19_SM rfl d_SM_goOn_247 ?_
  refine lv_iload hx hb d_SM_goOn_250 (lv_at hl 0 rfl) ?_
  refine m_mald (v := 4) hc hE hw hM (k := 3) (by decide) (vp_in_nI (N := 520) (by omega) (by decide)) ((congrArg (av 3) (nI_clamp (n := nd) (by omega))).trans hso) d_SM_goOn_252 ?_
  refine lv_iconst (v := 3) hx hb d_SM_goOn_253 (by decide) ?_
  refine lv_icmp_ne (tgt := 289) hx hb d_SM_goOn_254 (by decide) (fun _ => ?_) (fun z => absurd z (by decide))
  refine lv_aload_n hx hb d_SM_goOn_289 rfl (lv_at hl 2 rfl) ?_
  refine m_mget (v := .ref (ar 3)) hc hE hw hM l_SM_19_SM rfl d_SM_goOn_290 ?_
  refine lv_iload hx hb d_SM_goOn_293 (lv_at hl 0 rfl) ?_
  refine m_mald (v := 4) hc hE hw hM (k := 3) (by decide) (vp_in_nI (N := 520) (by omega) (by decide)) ((congrArg (av 3) (nI_clamp (n := nd) (by omega))).trans hso) d_SM_goOn_295 ?_
  refine lv_iconst (v := 4) hx hb d_SM_goOn_296 (by decide) ?_
  refine lv_icmp_ne (tgt := 318) hx hb d_SM_goOn_297 (by decide) (fun z => absurd z (by decide)) (fun _ => ?_)
  refine lv_aload_n hx hb d_SM_goOn_300 rfl (lv_at hl 2 rfl) ?_
  refine m_mget (v := .int (sc 12)) hc hE hw hM l_SM_189_SM rfl d_SM_goOn_301 ?_
  refine lv_if_ne (tgt := 318) hx hb d_SM_goOn_304 (by decide) (fun c21 => ?_) (fun c21 => ?_)
  · refine lv_aload_n hx hb d_SM_goOn_318 rfl (lv_at hl 2 rfl) ?_
    refine lv_dup hx hb d_SM_goOn_319 rfl ?_
    refine m_mget (v := .int (sc 11)) hc hE hw hM l_SM_182_SM rfl d_SM_goOn_320 ?_
    refine m_top (y := nI (tp + 1)) htp ?_
    refine lv_iconst (v := 1) hx hb d_SM_goOn_323 (by decide) ?_
    refine lv_isub hx hb d_SM_goOn_324 ?_
    refine m_top (y := (nI tp)) (nI_pred tp) ?_
    refine m_mput (sc' := (upd sc 11 (nI tp))) hc hE hw hM hX l_SM_182_SM rfl ds_SM_36 rfl rfl rfl d_SM_goOn_325 (fun H locs f22 hM23 hX24 hw => ?_)
    exact m_vret hc hr hlk hw ⟨by first | decide | (dsimp only; omega), by first | decide | (dsimp only; omega)⟩ d_SM_goOn_328 ⟨_, _, hM23, hX24, Stk.rf, fun j hj h11 h12 => by repeat rw [upd_ne' _ _ _ (by assumption)], rfl, (pif_f c21).symm⟩
  · refine lv_aload_n hx hb d_SM_goOn_307 rfl (lv_at hl 2 rfl) ?_
    refine lv_aload_n hx hb d_SM_goOn_308 rfl (lv_at hl 2 rfl) ?_
    refine m_mget (v := .ref (ar 8)) hc hE hw hM l_SM_34_SM rfl d_SM_goOn_309 ?_
    refine lv_iload hx hb d_SM_goOn_312 (lv_at hl 0 rfl) ?_
    refine m_mald (v := ((av 8) nd)) hc hE hw hM (k := 8) (by decide) (vp_in_nI (N := 520) (by omega) (by decide)) ((congrArg (av 8) (nI_clamp (n := nd) (by omega))).trans rfl) d_SM_goOn_314 ?_
    refine m_mput (sc' := (upd sc 12 ((av 8) nd))) hc hE hw hM hX l_SM_189_SM rfl ds_SM_37 rfl rfl rfl d_SM_goOn_315 (fun H locs f25 hM26 hX27 hw => ?_)
    refine lv_aload_n hx hb d_SM_goOn_318 rfl (lv_at hl 2 rfl) ?_
    refine lv_dup hx hb d_SM_goOn_319 rfl ?_
    refine m_mget (v := .int (sc 11)) hc hE hw hM26 l_SM_182_SM rfl d_SM_goOn_320 ?_
    refine m_top (y := nI (tp + 1)) htp ?_
    refine lv_iconst (v := 1) hx hb d_SM_goOn_323 (by decide) ?_
    refine lv_isub hx hb d_SM_goOn_324 ?_
    refine m_top (y := (nI tp)) (nI_pred tp) ?_
    refine m_mput (sc' := (upd (upd sc 11 (nI tp)) 12 ((av 8) nd))) hc hE hw hM26 hX27 l_SM_182_SM rfl ds_SM_36 rfl rfl rfl d_SM_goOn_325 (fun H locs f28 hM29 hX30 hw => ?_)
    exact m_vret hc hr hlk hw ⟨by first | decide | (dsimp only; omega), by first | decide | (dsimp only; omega)⟩ d_SM_goOn_328 ⟨_, _, hM29, hX30, Stk.rf, fun j hj h11 h12 => by repeat rw [upd_ne' _ _ _ (by assumption)], rfl, (pif_t c21).symm⟩

set_option maxHeartbeats 4000000 in
set_option maxRecDepth 100000 in
/-- goOn -/
theorem c_SM_goOn51 (G : GG) (l : Launch) (sz : Nat) (f : Wd) {mo : Nat} {ar : Nat → Nat} {sc : Nat → Int32} {av : Nat → Nat → Int32} (hM : Mw G mo ar sc av f) {tp nd : Nat} (htp : sc 11 = nI (tp + 1)) (hlt : tp < 19) (hnd : nd < 520) (hno : av 12 tp = nI nd) (so di le : Int32) (hso : av 3 nd = 5) (hst : av 13 tp = 1) : Cv G l y_SM_goOn b_SM_goOn 6 none ({ frames := 6, cells := 0, slots := 0, locals := 157 }) sz f [.ref mo, .int so, .int di, .int le] (POP G mo ar sc av f tp (sc 12)) := by
  refine ct_of (by decide) (Nat.le_of_ble_eq_true rfl) ?_
  intro p e s m below meth c ls H locs hEn
  obtain ⟨hc, hr, hlk, hin, hE, hw, hsz, hl⟩ := hEn
  have hx := hc.1
  have hb := hc.2.1
  have hl : lv_has ls 6 [(0, .ref mo), (1, .int so), (2, .int di), (3, .int le)] := hl
  have hX : Mx mo ar f f := Mx.rf
  refine lv_aload_n hx hb d_SM_goOn_0 rfl (lv_at hl 0 rfl) ?_
  refine m_mget (v := .int (sc 11)) hc hE hw hM l_SM_182_SM rfl d_SM_goOn_1 ?_
  refine m_top (y := nI (tp + 1)) htp ?_
  refine lv_iconst (v := 1) hx hb d_SM_goOn_4 (by decide) ?_
  refine lv_isub hx hb d_SM_goOn_5 ?_
  refine m_top (y := (nI tp)) (nI_pred tp) ?_
  refine lv_istore (lv' := [(4, .int (nI tp)), (0, .ref mo), (1, .int so), (2, .int di), (3, .int le)]) hx hb d_SM_goOn_6 hl (by decide) rfl (fun ls hl => ?_)
  refine lv_aload_n hx hb d_SM_goOn_8 rfl (lv_at hl 1 rfl) ?_
  refine m_mget (v := .ref (ar 12)) hc hE hw hM l_SM_50_SM rfl d_SM_goOn_9 ?_
  refine lv_iload hx hb d_SM_goOn_12 (lv_at hl 0 rfl) ?_
  refine m_mald (v := (nI nd)) hc hE hw hM (k := 12) (by decide) (vp_in_nI (N := 20) (by omega) (by decide)) ((congrArg (av 12) (nI_clamp (n := tp) (by omega))).trans hno) d_SM_goOn_14 ?_
  refine lv_istore (lv' := [(5, .int (nI nd)), (4, .int (nI tp)), (0, .ref mo), (1, .int so), (2, .int di), (3, .int le)]) hx hb d_SM_goOn_15 hl (by decide) rfl (fun ls hl => ?_)
  refine lv_aload_n hx hb d_SM_goOn_17 rfl (lv_at hl 2 rfl) ?_
  refine m_mget (v := .ref (ar 3)) hc hE hw hM l_SM_19_SM rfl d_SM_goOn_18 ?_
  refine lv_iload hx hb d_SM_goOn_21 (lv_at hl 0 rfl) ?_
  refine m_mald (v := 5) hc hE hw hM (k := 3) (by decide) (vp_in_nI (N := 520) (by omega) (by decide)) ((congrArg (av 3) (nI_clamp (n := nd) (by omega))).trans hso) d_SM_goOn_23 ?_
  refine lv_iconst (v := 1) hx hb d_SM_goOn_24 (by decide) ?_
  refine lv_icmp_ne (tgt := 52) hx hb d_SM_goOn_25 (by decide) (fun _ => ?_) (fun z => absurd z (by decide))
  refine lv_aload_n hx hb d_SM_goOn_52 rfl (lv_at hl 2 rfl) ?_
  refine m_mget (v := .ref (ar 13)) hc hE hw hM l_SM_53_SM rfl d_SM_goOn_53 ?_
  refine lv_iload hx hb d_SM_goOn_56 (lv_at hl 1 rfl) ?_
  refine m_mald (v := 1) hc hE hw hM (k := 13) (by decide) (vp_in_nI (N := 20) (by omega) (by decide)) ((congrArg (av 13) (nI_clamp (n := tp) (by omega))).trans hst) d_SM_goOn_58 ?_
  refine lv_if_ne (tgt := 145) hx hb d_SM_goOn_59 (by decide) (fun _ => ?_) (fun z => absurd z (by decide))
  refine lv_aload_n hx hb d_SM_goOn_145 rfl (lv_at hl 2 rfl) ?_
  refine m_mget (v := .ref (ar 3)) hc hE hw hM l_SM_19_SM rfl d_SM_goOn_146 ?_
  refine lv_iload hx hb d_SM_goOn_149 (lv_at hl 0 rfl) ?_
  refine m_mald (v := 5) hc hE hw hM (k := 3) (by decide) (vp_in_nI (N := 520) (by omega) (by decide)) ((congrArg (av 3) (nI_clamp (n := nd) (by omega))).trans hso) d_SM_goOn_151 ?_
  refine lv_iconst (v := 2) hx hb d_SM_goOn_152 (by decide) ?_
  refine lv_icmp_ne (tgt := 206) hx hb d_SM_goOn_153 (by decide) (fun _ => ?_) (fun z => absurd z (by decide))
  refine lv_aload_n hx hb d_SM_goOn_206 rfl (lv_at hl 2 rfl) ?_
  refine m_mget (v := .ref (ar 3)) hc hE hw hM l_SM_19_SM rfl d_SM_goOn_207 ?_
  refine lv_iload hx hb d_SM_goOn_210 (lv_at hl 0 rfl) ?_
  refine m_mald (v := 5) hc hE hw hM (k := 3) (by decide) (vp_in_nI (N := 520) (by omega) (by decide)) ((congrArg (av 3) (nI_clamp (n := nd) (by omega))).trans hso) d_SM_goOn_212 ?_
  refine lv_iconst (v := 2) hx hb d_SM_goOn_213 (by decide) ?_
  refine lv_icmp_ne (tgt := 246) hx hb d_SM_goOn_214 (by decide) (fun _ => ?_) (fun z => absurd z (by decide))
  refine lv_aload_n hx hb d_SM_goOn_246 rfl (lv_at hl 2 rfl) ?_
  refine m_mget (v := .ref (ar 3)) hc hE hw hM l_SM_19_SM rfl d_SM_goOn_247 ?_
  refine lv_iload hx hb d_SM_goOn_250 (lv_at hl 0 rfl) ?_
  refine m_mald (v := 5) hc hE hw hM (k := 3) (by decide) (vp_in_nI (N := 520) (by omega) (by decide)) ((congrArg (av 3) (nI_clamp (n := nd) (by omega))).trans hso) d_SM_goOn_252 ?_
  refine lv_iconst (v := 3) hx hb d_SM_goOn_253 (by decide) ?_
  refine lv_icmp_ne (tgt := 289) hx hb d_SM_goOn_254 (by decide) (fun _ => ?_) (fun z => absurd z (by decide))
  refine lv_aload_n hx hb d_SM_goOn_289 rfl (lv_at hl 2 rfl) ?_
  refine m_mget (v := .ref (ar 3)) hc hE hw hM l_SM_19_SM rfl d_SM_goOn_290 ?_
  refine lv_iload hx hb d_SM_goOn_293 (lv_at hl 0 rfl) ?_
  refine m_mald (v := 5) hc hE hw hM (k := 3) (by decide) (vp_in_nI (N := 520) (by omega) (by decide)) ((congrArg (av 3) (nI_clamp (n := nd) (by omega))).trans hso) d_SM_goOn_295 ?_
  refine lv_iconst (v := 4) hx hb d_SM_goOn_296 (by decide) ?_
  refine lv_icmp_ne (tgt := 318) hx hb d_SM_goOn_297 (by decide) (fun _ => ?_) (fun z => absurd z (by decide))
  refine lv_aload_n hx hb d_SM_goOn_318 rfl (lv_at hl 2 rfl) ?_
  refine lv_dup hx hb d_SM_goOn_319 rfl ?_
  refine m_mget (v := .int (sc 11)) hc hE hw hM l_SM_182_SM rfl d_SM_goOn_320 ?_
  refine m_top (y := nI (tp + 1)) htp ?_
  refine lv_iconst (v := 1) hx hb d_SM_goOn_323 (by decide) ?_
  refine lv_isub hx hb d_SM_goOn_324 ?_
  refine m_top (y := (nI tp)) (nI_pred tp) ?_
  refine m_mput (sc' := (upd sc 11 (nI tp))) hc hE hw hM hX l_SM_182_SM rfl ds_SM_36 rfl rfl rfl d_SM_goOn_325 (fun H locs f21 hM22 hX23 hw => ?_)
  exact m_vret hc hr hlk hw ⟨by first | decide | (dsimp only; omega), by first | decide | (dsimp only; omega)⟩ d_SM_goOn_328 ⟨_, _, hM22, hX23, Stk.rf, fun j hj h11 h12 => by repeat rw [upd_ne' _ _ _ (by assumption)], rfl, rfl⟩
