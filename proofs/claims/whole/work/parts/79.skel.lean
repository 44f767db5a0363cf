/-! THE CLAIM OUT OF ONE WALK OF THE LAW'S BODY. Your part is whole_start (and what it stands on); all else here is the same for every law, but numbers. -/
def R_law : String := "StreamFiltersLaw"
def lw_P (b : Addr) (xs : List Int32) (args : Array Value) (s : State) : Prop := args = #[.ref b] ∧ s.IntsAt b xs ∧ xs.length ≤ 2560 ∧ (Jvm.Cond.and given_1 narrow_1).before args s = true
def lw_Q (_ : Array Value) (s : State) (o : Outcome) (t : State) : Prop := o = .returned (some (.int 1)) ∧ Framed s o t [] 600000 7302250
def lw_Z (below : List Frame) (a : Array Value) (s : State) : State → Prop := fun t => ∃ o, t.status = .running ∧ Ended t below o ∧ lw_Q a s o t
/-- the law's own end, with 1 on the stack, nothing written that was there before, its room as the claim has it -/
theorem lw_ret {p : Program} {l : Launch} {e : Env} {s : State} {m : MethodId} {below : List Frame} {meth : Method} {c : Code} {b : Nat} (hx : p.tables.exec = Jvm.exec) (hb : c.code = code) (hr : meth.sig.returnType = ret) (hlocks : meth.locks = false) {pc : Nat} {H : Heap} {ls : Array Slot} (hdg : decode code pc = .ok (.ireturn, 1)) : W p l e room_1 s m #[Value.ref b] below meth c H [] 600000 7302250 (lw_Z below #[Value.ref b] s) (F0 m pc ls [.int 1]) := by
  intro T hT X
  obtain ⟨fs, hret, hrun, hended, hW, hframe⟩ := X.leave (v := some (.int 1)) (hlocks := hlocks) (fun h => by rw [hr] at h; cases h)
  have hmeth' : T.vm.method? m = some meth := X.method'
  refine ⟨T.setFrames fs, ?_, .returned (some (.int 1)), hrun, hended, rfl, ⟨_, rfl⟩, hW, hframe⟩
  jvm_step X.here [X.here.top, hx, hb, hdg, hmeth', hr, ret, narrow_b1]
  (try refine ⟨rfl, ?_⟩); (try refine ⟨rfl, ?_⟩)
  first | (intro acts; rw [hret _ acts rfl rfl rfl]) | rw [hret _ _ rfl rfl rfl]
  exact Steps.refl _
/-- what holds at the law's entry: the machine, the code, the tables' words (any of lw_tbl by 'hts w (by decide +kernel)'), the script of L ints xs at the cell b, what the Statement gives of the start (any of its parts by flat_of_before) -/
def lw_At (p : Program) (s : State) (m : MethodId) (meth : Method) (c : Code) (b L : Nat) (xs : Nat → Int32) : Prop :=
  p.tables.exec = Jvm.exec ∧ c.code = code ∧ meth.sig.returnType = ret ∧ c.maxLocals = 4 ∧ s.vm.findClass R_law = some m.cls ∧ (∀ w ∈ lw_tbl, w.before #[Value.ref b] s = true) ∧ va_X b L xs s s.heap ∧ b < s.heap.size ∧ meth.locks = false ∧ (Jvm.Cond.and given_1 narrow_1).before #[Value.ref b] s = true
/-! decode rows of the law -/
theorem d_law_0 : decode code 0 = .ok (.new 7, 3) := by decide +kernel
theorem d_law_3 : decode code 3 = .ok (.dup, 1) := by decide +kernel
theorem d_law_4 : decode code 4 = .ok (.invokespecial 9, 3) := by decide +kernel
theorem d_law_7 : decode code 7 = .ok (.astore_n 1, 1) := by decide +kernel
theorem d_law_8 : decode code 8 = .ok (.new 10, 3) := by decide +kernel
theorem d_law_11 : decode code 11 = .ok (.dup, 1) := by decide +kernel
theorem d_law_12 : decode code 12 = .ok (.invokespecial 12, 3) := by decide +kernel
theorem d_law_15 : decode code 15 = .ok (.astore_n 2, 1) := by decide +kernel
theorem d_law_16 : decode code 16 = .ok (.iconst 0, 1) := by decide +kernel
theorem d_law_17 : decode code 17 = .ok (.istore_n 3, 1) := by decide +kernel
theorem d_law_18 : decode code 18 = .ok (.iload_n 3, 1) := by decide +kernel
theorem d_law_19 : decode code 19 = .ok (.aload_n 0, 1) := by decide +kernel
theorem d_law_20 : decode code 20 = .ok (.arraylength, 1) := by decide +kernel
theorem d_law_21 : decode code 21 = .ok (.iconst 5, 1) := by decide +kernel
theorem d_law_22 : decode code 22 = .ok (.isub, 1) := by decide +kernel
theorem d_law_23 : decode code 23 = .ok (.if_icmp .gt 684, 3) := by decide +kernel
theorem d_law_26 : decode code 26 = .ok (.aload_n 0, 1) := by decide +kernel
theorem d_law_27 : decode code 27 = .ok (.iload_n 3, 1) := by decide +kernel
theorem d_law_28 : decode code 28 = .ok (.iaload, 1) := by decide +kernel
theorem d_law_29 : decode code 29 = .ok (.bipush 15, 2) := by decide +kernel
theorem d_law_31 : decode code 31 = .ok (.iand, 1) := by decide +kernel
theorem d_law_32 : decode code 32 = .ok (.tableswitch 669 0 14 #[76, 139, 162, 211, 224, 267, 326, 369, 402, 425, 468, 521, 544, 577, 636], 76) := by decide +kernel
theorem d_law_108 : decode code 108 = .ok (.aload_n 1, 1) := by decide +kernel
theorem d_law_109 : decode code 109 = .ok (.aload_n 0, 1) := by decide +kernel
theorem d_law_110 : decode code 110 = .ok (.iload_n 3, 1) := by decide +kernel
theorem d_law_111 : decode code 111 = .ok (.iconst 1, 1) := by decide +kernel
theorem d_law_112 : decode code 112 = .ok (.iadd, 1) := by decide +kernel
theorem d_law_113 : decode code 113 = .ok (.iaload, 1) := by decide +kernel
theorem d_law_114 : decode code 114 = .ok (.aload_n 0, 1) := by decide +kernel
theorem d_law_115 : decode code 115 = .ok (.iload_n 3, 1) := by decide +kernel
theorem d_law_116 : decode code 116 = .ok (.iconst 2, 1) := by decide +kernel
theorem d_law_117 : decode code 117 = .ok (.iadd, 1) := by decide +kernel
theorem d_law_118 : decode code 118 = .ok (.iaload, 1) := by decide +kernel
theorem d_law_119 : decode code 119 = .ok (.i2l, 1) := by decide +kernel
theorem d_law_120 : decode code 120 = .ok (.bipush 32, 2) := by decide +kernel
theorem d_law_122 : decode code 122 = .ok (.lshl, 1) := by decide +kernel
theorem d_law_123 : decode code 123 = .ok (.aload_n 0, 1) := by decide +kernel
theorem d_law_124 : decode code 124 = .ok (.iload_n 3, 1) := by decide +kernel
theorem d_law_125 : decode code 125 = .ok (.iconst 3, 1) := by decide +kernel
theorem d_law_126 : decode code 126 = .ok (.iadd, 1) := by decide +kernel
theorem d_law_127 : decode code 127 = .ok (.iaload, 1) := by decide +kernel
theorem d_law_128 : decode code 128 = .ok (.i2l, 1) := by decide +kernel
theorem d_law_129 : decode code 129 = .ok (.ldc2_w 13, 3) := by decide +kernel
theorem d_law_132 : decode code 132 = .ok (.land, 1) := by decide +kernel
theorem d_law_133 : decode code 133 = .ok (.lor, 1) := by decide +kernel
theorem d_law_134 : decode code 134 = .ok (.invokevirtual 15, 3) := by decide +kernel
theorem d_law_137 : decode code 137 = .ok (.aload_n 2, 1) := by decide +kernel
theorem d_law_138 : decode code 138 = .ok (.aload_n 0, 1) := by decide +kernel
theorem d_law_139 : decode code 139 = .ok (.iload_n 3, 1) := by decide +kernel
theorem d_law_140 : decode code 140 = .ok (.iconst 1, 1) := by decide +kernel
theorem d_law_141 : decode code 141 = .ok (.iadd, 1) := by decide +kernel
theorem d_law_142 : decode code 142 = .ok (.iaload, 1) := by decide +kernel
theorem d_law_143 : decode code 143 = .ok (.aload_n 0, 1) := by decide +kernel
theorem d_law_144 : decode code 144 = .ok (.iload_n 3, 1) := by decide +kernel
theorem d_law_145 : decode code 145 = .ok (.iconst 2, 1) := by decide +kernel
theorem d_law_146 : decode code 146 = .ok (.iadd, 1) := by decide +kernel
theorem d_law_147 : decode code 147 = .ok (.iaload, 1) := by decide +kernel
theorem d_law_148 : decode code 148 = .ok (.i2l, 1) := by decide +kernel
theorem d_law_149 : decode code 149 = .ok (.bipush 32, 2) := by decide +kernel
theorem d_law_151 : decode code 151 = .ok (.lshl, 1) := by decide +kernel
theorem d_law_152 : decode code 152 = .ok (.aload_n 0, 1) := by decide +kernel
theorem d_law_153 : decode code 153 = .ok (.iload_n 3, 1) := by decide +kernel
theorem d_law_154 : decode code 154 = .ok (.iconst 3, 1) := by decide +kernel
theorem d_law_155 : decode code 155 = .ok (.iadd, 1) := by decide +kernel
theorem d_law_156 : decode code 156 = .ok (.iaload, 1) := by decide +kernel
theorem d_law_157 : decode code 157 = .ok (.i2l, 1) := by decide +kernel
theorem d_law_158 : decode code 158 = .ok (.ldc2_w 13, 3) := by decide +kernel
theorem d_law_161 : decode code 161 = .ok (.land, 1) := by decide +kernel
theorem d_law_162 : decode code 162 = .ok (.lor, 1) := by decide +kernel
theorem d_law_163 : decode code 163 = .ok (.invokevirtual 19, 3) := by decide +kernel
theorem d_law_166 : decode code 166 = .ok (.if_icmp .eq 535, 3) := by decide +kernel
theorem d_law_169 : decode code 169 = .ok (.iconst 0, 1) := by decide +kernel
theorem d_law_170 : decode code 170 = .ok (.ireturn, 1) := by decide +kernel
theorem d_law_171 : decode code 171 = .ok (.aload_n 1, 1) := by decide +kernel
theorem d_law_172 : decode code 172 = .ok (.aload_n 0, 1) := by decide +kernel
theorem d_law_173 : decode code 173 = .ok (.iload_n 3, 1) := by decide +kernel
theorem d_law_174 : decode code 174 = .ok (.iconst 1, 1) := by decide +kernel
theorem d_law_175 : decode code 175 = .ok (.iadd, 1) := by decide +kernel
theorem d_law_176 : decode code 176 = .ok (.iaload, 1) := by decide +kernel
theorem d_law_177 : decode code 177 = .ok (.invokevirtual 20, 3) := by decide +kernel
theorem d_law_180 : decode code 180 = .ok (.aload_n 2, 1) := by decide +kernel
theorem d_law_181 : decode code 181 = .ok (.aload_n 0, 1) := by decide +kernel
theorem d_law_182 : decode code 182 = .ok (.iload_n 3, 1) := by decide +kernel
theorem d_law_183 : decode code 183 = .ok (.iconst 1, 1) := by decide +kernel
theorem d_law_184 : decode code 184 = .ok (.iadd, 1) := by decide +kernel
theorem d_law_185 : decode code 185 = .ok (.iaload, 1) := by decide +kernel
theorem d_law_186 : decode code 186 = .ok (.invokevirtual 24, 3) := by decide +kernel
theorem d_law_189 : decode code 189 = .ok (.if_icmp .eq 512, 3) := by decide +kernel
theorem d_law_192 : decode code 192 = .ok (.iconst 0, 1) := by decide +kernel
theorem d_law_193 : decode code 193 = .ok (.ireturn, 1) := by decide +kernel
theorem d_law_194 : decode code 194 = .ok (.aload_n 1, 1) := by decide +kernel
theorem d_law_195 : decode code 195 = .ok (.aload_n 0, 1) := by decide +kernel
theorem d_law_196 : decode code 196 = .ok (.iload_n 3, 1) := by decide +kernel
theorem d_law_197 : decode code 197 = .ok (.iconst 1, 1) := by decide +kernel
theorem d_law_198 : decode code 198 = .ok (.iadd, 1) := by decide +kernel
theorem d_law_199 : decode code 199 = .ok (.iaload, 1) := by decide +kernel
theorem d_law_200 : decode code 200 = .ok (.aload_n 0, 1) := by decide +kernel
theorem d_law_201 : decode code 201 = .ok (.iload_n 3, 1) := by decide +kernel
theorem d_law_202 : decode code 202 = .ok (.iconst 2, 1) := by decide +kernel
theorem d_law_203 : decode code 203 = .ok (.iadd, 1) := by decide +kernel
theorem d_law_204 : decode code 204 = .ok (.iaload, 1) := by decide +kernel
theorem d_law_205 : decode code 205 = .ok (.ifCond .eq 7, 3) := by decide +kernel
theorem d_law_208 : decode code 208 = .ok (.iconst 1, 1) := by decide +kernel
theorem d_law_209 : decode code 209 = .ok (.goto 4, 3) := by decide +kernel
theorem d_law_212 : decode code 212 = .ok (.iconst 0, 1) := by decide +kernel
theorem d_law_213 : decode code 213 = .ok (.invokevirtual 25, 3) := by decide +kernel
theorem d_law_216 : decode code 216 = .ok (.aload_n 2, 1) := by decide +kernel
theorem d_law_217 : decode code 217 = .ok (.aload_n 0, 1) := by decide +kernel
theorem d_law_218 : decode code 218 = .ok (.iload_n 3, 1) := by decide +kernel
theorem d_law_219 : decode code 219 = .ok (.iconst 1, 1) := by decide +kernel
theorem d_law_220 : decode code 220 = .ok (.iadd, 1) := by decide +kernel
theorem d_law_221 : decode code 221 = .ok (.iaload, 1) := by decide +kernel
theorem d_law_222 : decode code 222 = .ok (.aload_n 0, 1) := by decide +kernel
theorem d_law_223 : decode code 223 = .ok (.iload_n 3, 1) := by decide +kernel
theorem d_law_224 : decode code 224 = .ok (.iconst 2, 1) := by decide +kernel
theorem d_law_225 : decode code 225 = .ok (.iadd, 1) := by decide +kernel
theorem d_law_226 : decode code 226 = .ok (.iaload, 1) := by decide +kernel
theorem d_law_227 : decode code 227 = .ok (.ifCond .eq 7, 3) := by decide +kernel
theorem d_law_230 : decode code 230 = .ok (.iconst 1, 1) := by decide +kernel
theorem d_law_231 : decode code 231 = .ok (.goto 4, 3) := by decide +kernel
theorem d_law_234 : decode code 234 = .ok (.iconst 0, 1) := by decide +kernel
theorem d_law_235 : decode code 235 = .ok (.invokevirtual 29, 3) := by decide +kernel
theorem d_law_238 : decode code 238 = .ok (.if_icmp .eq 463, 3) := by decide +kernel
theorem d_law_241 : decode code 241 = .ok (.iconst 0, 1) := by decide +kernel
theorem d_law_242 : decode code 242 = .ok (.ireturn, 1) := by decide +kernel
theorem d_law_243 : decode code 243 = .ok (.aload_n 1, 1) := by decide +kernel
theorem d_law_244 : decode code 244 = .ok (.invokevirtual 30, 3) := by decide +kernel
theorem d_law_247 : decode code 247 = .ok (.aload_n 2, 1) := by decide +kernel
theorem d_law_248 : decode code 248 = .ok (.invokevirtual 34, 3) := by decide +kernel
theorem d_law_251 : decode code 251 = .ok (.if_icmp .eq 450, 3) := by decide +kernel
theorem d_law_254 : decode code 254 = .ok (.iconst 0, 1) := by decide +kernel
theorem d_law_255 : decode code 255 = .ok (.ireturn, 1) := by decide +kernel
theorem d_law_256 : decode code 256 = .ok (.aload_n 1, 1) := by decide +kernel
theorem d_law_257 : decode code 257 = .ok (.aload_n 0, 1) := by decide +kernel
theorem d_law_258 : decode code 258 = .ok (.iload_n 3, 1) := by decide +kernel
theorem d_law_259 : decode code 259 = .ok (.iconst 1, 1) := by decide +kernel
theorem d_law_260 : decode code 260 = .ok (.iadd, 1) := by decide +kernel
theorem d_law_261 : decode code 261 = .ok (.iaload, 1) := by decide +kernel
theorem d_law_262 : decode code 262 = .ok (.aload_n 0, 1) := by decide +kernel
theorem d_law_263 : decode code 263 = .ok (.iload_n 3, 1) := by decide +kernel
theorem d_law_264 : decode code 264 = .ok (.iconst 2, 1) := by decide +kernel
theorem d_law_265 : decode code 265 = .ok (.iadd, 1) := by decide +kernel
theorem d_law_266 : decode code 266 = .ok (.iaload, 1) := by decide +kernel
theorem d_law_267 : decode code 267 = .ok (.aload_n 0, 1) := by decide +kernel
theorem d_law_268 : decode code 268 = .ok (.iload_n 3, 1) := by decide +kernel
theorem d_law_269 : decode code 269 = .ok (.iconst 3, 1) := by decide +kernel
theorem d_law_270 : decode code 270 = .ok (.iadd, 1) := by decide +kernel
theorem d_law_271 : decode code 271 = .ok (.iaload, 1) := by decide +kernel
theorem d_law_272 : decode code 272 = .ok (.invokevirtual 35, 3) := by decide +kernel
theorem d_law_275 : decode code 275 = .ok (.aload_n 2, 1) := by decide +kernel
theorem d_law_276 : decode code 276 = .ok (.aload_n 0, 1) := by decide +kernel
theorem d_law_277 : decode code 277 = .ok (.iload_n 3, 1) := by decide +kernel
theorem d_law_278 : decode code 278 = .ok (.iconst 1, 1) := by decide +kernel
theorem d_law_279 : decode code 279 = .ok (.iadd, 1) := by decide +kernel
theorem d_law_280 : decode code 280 = .ok (.iaload, 1) := by decide +kernel
theorem d_law_281 : decode code 281 = .ok (.aload_n 0, 1) := by decide +kernel
theorem d_law_282 : decode code 282 = .ok (.iload_n 3, 1) := by decide +kernel
theorem d_law_283 : decode code 283 = .ok (.iconst 2, 1) := by decide +kernel
theorem d_law_284 : decode code 284 = .ok (.iadd, 1) := by decide +kernel
theorem d_law_285 : decode code 285 = .ok (.iaload, 1) := by decide +kernel
theorem d_law_286 : decode code 286 = .ok (.aload_n 0, 1) := by decide +kernel
theorem d_law_287 : decode code 287 = .ok (.iload_n 3, 1) := by decide +kernel
theorem d_law_288 : decode code 288 = .ok (.iconst 3, 1) := by decide +kernel
theorem d_law_289 : decode code 289 = .ok (.iadd, 1) := by decide +kernel
theorem d_law_290 : decode code 290 = .ok (.iaload, 1) := by decide +kernel
theorem d_law_291 : decode code 291 = .ok (.invokevirtual 39, 3) := by decide +kernel
theorem d_law_294 : decode code 294 = .ok (.if_icmp .eq 407, 3) := by decide +kernel
theorem d_law_297 : decode code 297 = .ok (.iconst 0, 1) := by decide +kernel
theorem d_law_298 : decode code 298 = .ok (.ireturn, 1) := by decide +kernel
theorem d_law_299 : decode code 299 = .ok (.aload_n 1, 1) := by decide +kernel
theorem d_law_300 : decode code 300 = .ok (.aload_n 0, 1) := by decide +kernel
theorem d_law_301 : decode code 301 = .ok (.iload_n 3, 1) := by decide +kernel
theorem d_law_302 : decode code 302 = .ok (.iconst 1, 1) := by decide +kernel
theorem d_law_303 : decode code 303 = .ok (.iadd, 1) := by decide +kernel
theorem d_law_304 : decode code 304 = .ok (.iaload, 1) := by decide +kernel
theorem d_law_305 : decode code 305 = .ok (.aload_n 0, 1) := by decide +kernel
theorem d_law_306 : decode code 306 = .ok (.iload_n 3, 1) := by decide +kernel
theorem d_law_307 : decode code 307 = .ok (.iconst 2, 1) := by decide +kernel
theorem d_law_308 : decode code 308 = .ok (.iadd, 1) := by decide +kernel
theorem d_law_309 : decode code 309 = .ok (.iaload, 1) := by decide +kernel
theorem d_law_310 : decode code 310 = .ok (.aload_n 0, 1) := by decide +kernel
theorem d_law_311 : decode code 311 = .ok (.iload_n 3, 1) := by decide +kernel
theorem d_law_312 : decode code 312 = .ok (.iconst 3, 1) := by decide +kernel
theorem d_law_313 : decode code 313 = .ok (.iadd, 1) := by decide +kernel
theorem d_law_314 : decode code 314 = .ok (.iaload, 1) := by decide +kernel
theorem d_law_315 : decode code 315 = .ok (.ifCond .eq 7, 3) := by decide +kernel
theorem d_law_318 : decode code 318 = .ok (.iconst 1, 1) := by decide +kernel
theorem d_law_319 : decode code 319 = .ok (.goto 4, 3) := by decide +kernel
theorem d_law_322 : decode code 322 = .ok (.iconst 0, 1) := by decide +kernel
theorem d_law_323 : decode code 323 = .ok (.invokevirtual 40, 3) := by decide +kernel
theorem d_law_326 : decode code 326 = .ok (.aload_n 2, 1) := by decide +kernel
theorem d_law_327 : decode code 327 = .ok (.aload_n 0, 1) := by decide +kernel
theorem d_law_328 : decode code 328 = .ok (.iload_n 3, 1) := by decide +kernel
theorem d_law_329 : decode code 329 = .ok (.iconst 1, 1) := by decide +kernel
theorem d_law_330 : decode code 330 = .ok (.iadd, 1) := by decide +kernel
theorem d_law_331 : decode code 331 = .ok (.iaload, 1) := by decide +kernel
theorem d_law_332 : decode code 332 = .ok (.aload_n 0, 1) := by decide +kernel
theorem d_law_333 : decode code 333 = .ok (.iload_n 3, 1) := by decide +kernel
theorem d_law_334 : decode code 334 = .ok (.iconst 2, 1) := by decide +kernel
theorem d_law_335 : decode code 335 = .ok (.iadd, 1) := by decide +kernel
theorem d_law_336 : decode code 336 = .ok (.iaload, 1) := by decide +kernel
theorem d_law_337 : decode code 337 = .ok (.aload_n 0, 1) := by decide +kernel
theorem d_law_338 : decode code 338 = .ok (.iload_n 3, 1) := by decide +kernel
theorem d_law_339 : decode code 339 = .ok (.iconst 3, 1) := by decide +kernel
theorem d_law_340 : decode code 340 = .ok (.iadd, 1) := by decide +kernel
theorem d_law_341 : decode code 341 = .ok (.iaload, 1) := by decide +kernel
theorem d_law_342 : decode code 342 = .ok (.ifCond .eq 7, 3) := by decide +kernel
theorem d_law_345 : decode code 345 = .ok (.iconst 1, 1) := by decide +kernel
theorem d_law_346 : decode code 346 = .ok (.goto 4, 3) := by decide +kernel
theorem d_law_349 : decode code 349 = .ok (.iconst 0, 1) := by decide +kernel
theorem d_law_350 : decode code 350 = .ok (.invokevirtual 44, 3) := by decide +kernel
theorem d_law_353 : decode code 353 = .ok (.if_icmp .eq 348, 3) := by decide +kernel
theorem d_law_356 : decode code 356 = .ok (.iconst 0, 1) := by decide +kernel
theorem d_law_357 : decode code 357 = .ok (.ireturn, 1) := by decide +kernel
theorem d_law_358 : decode code 358 = .ok (.aload_n 1, 1) := by decide +kernel
theorem d_law_359 : decode code 359 = .ok (.aload_n 0, 1) := by decide +kernel
theorem d_law_360 : decode code 360 = .ok (.iload_n 3, 1) := by decide +kernel
theorem d_law_361 : decode code 361 = .ok (.iconst 1, 1) := by decide +kernel
theorem d_law_362 : decode code 362 = .ok (.iadd, 1) := by decide +kernel
theorem d_law_363 : decode code 363 = .ok (.iaload, 1) := by decide +kernel
theorem d_law_364 : decode code 364 = .ok (.aload_n 0, 1) := by decide +kernel
theorem d_law_365 : decode code 365 = .ok (.iload_n 3, 1) := by decide +kernel
theorem d_law_366 : decode code 366 = .ok (.iconst 2, 1) := by decide +kernel
theorem d_law_367 : decode code 367 = .ok (.iadd, 1) := by decide +kernel
theorem d_law_368 : decode code 368 = .ok (.iaload, 1) := by decide +kernel
theorem d_law_369 : decode code 369 = .ok (.aload_n 0, 1) := by decide +kernel
theorem d_law_370 : decode code 370 = .ok (.iload_n 3, 1) := by decide +kernel
theorem d_law_371 : decode code 371 = .ok (.iconst 3, 1) := by decide +kernel
theorem d_law_372 : decode code 372 = .ok (.iadd, 1) := by decide +kernel
theorem d_law_373 : decode code 373 = .ok (.iaload, 1) := by decide +kernel
theorem d_law_374 : decode code 374 = .ok (.invokevirtual 45, 3) := by decide +kernel
theorem d_law_377 : decode code 377 = .ok (.aload_n 2, 1) := by decide +kernel
theorem d_law_378 : decode code 378 = .ok (.aload_n 0, 1) := by decide +kernel
theorem d_law_379 : decode code 379 = .ok (.iload_n 3, 1) := by decide +kernel
theorem d_law_380 : decode code 380 = .ok (.iconst 1, 1) := by decide +kernel
theorem d_law_381 : decode code 381 = .ok (.iadd, 1) := by decide +kernel
theorem d_law_382 : decode code 382 = .ok (.iaload, 1) := by decide +kernel
theorem d_law_383 : decode code 383 = .ok (.aload_n 0, 1) := by decide +kernel
theorem d_law_384 : decode code 384 = .ok (.iload_n 3, 1) := by decide +kernel
theorem d_law_385 : decode code 385 = .ok (.iconst 2, 1) := by decide +kernel
theorem d_law_386 : decode code 386 = .ok (.iadd, 1) := by decide +kernel
theorem d_law_387 : decode code 387 = .ok (.iaload, 1) := by decide +kernel
theorem d_law_388 : decode code 388 = .ok (.aload_n 0, 1) := by decide +kernel
theorem d_law_389 : decode code 389 = .ok (.iload_n 3, 1) := by decide +kernel
theorem d_law_390 : decode code 390 = .ok (.iconst 3, 1) := by decide +kernel
theorem d_law_391 : decode code 391 = .ok (.iadd, 1) := by decide +kernel
theorem d_law_392 : decode code 392 = .ok (.iaload, 1) := by decide +kernel
theorem d_law_393 : decode code 393 = .ok (.invokevirtual 48, 3) := by decide +kernel
theorem d_law_396 : decode code 396 = .ok (.if_icmp .eq 305, 3) := by decide +kernel
theorem d_law_399 : decode code 399 = .ok (.iconst 0, 1) := by decide +kernel
theorem d_law_400 : decode code 400 = .ok (.ireturn, 1) := by decide +kernel
theorem d_law_401 : decode code 401 = .ok (.aload_n 1, 1) := by decide +kernel
theorem d_law_402 : decode code 402 = .ok (.aload_n 0, 1) := by decide +kernel
theorem d_law_403 : decode code 403 = .ok (.iload_n 3, 1) := by decide +kernel
theorem d_law_404 : decode code 404 = .ok (.iconst 1, 1) := by decide +kernel
theorem d_law_405 : decode code 405 = .ok (.iadd, 1) := by decide +kernel
theorem d_law_406 : decode code 406 = .ok (.iaload, 1) := by decide +kernel
theorem d_law_407 : decode code 407 = .ok (.aload_n 0, 1) := by decide +kernel
theorem d_law_408 : decode code 408 = .ok (.iload_n 3, 1) := by decide +kernel
theorem d_law_409 : decode code 409 = .ok (.iconst 2, 1) := by decide +kernel
theorem d_law_410 : decode code 410 = .ok (.iadd, 1) := by decide +kernel
theorem d_law_411 : decode code 411 = .ok (.iaload, 1) := by decide +kernel
theorem d_law_412 : decode code 412 = .ok (.invokevirtual 49, 3) := by decide +kernel
theorem d_law_415 : decode code 415 = .ok (.aload_n 2, 1) := by decide +kernel
theorem d_law_416 : decode code 416 = .ok (.aload_n 0, 1) := by decide +kernel
theorem d_law_417 : decode code 417 = .ok (.iload_n 3, 1) := by decide +kernel
theorem d_law_418 : decode code 418 = .ok (.iconst 1, 1) := by decide +kernel
theorem d_law_419 : decode code 419 = .ok (.iadd, 1) := by decide +kernel
theorem d_law_420 : decode code 420 = .ok (.iaload, 1) := by decide +kernel
theorem d_law_421 : decode code 421 = .ok (.aload_n 0, 1) := by decide +kernel
theorem d_law_422 : decode code 422 = .ok (.iload_n 3, 1) := by decide +kernel
theorem d_law_423 : decode code 423 = .ok (.iconst 2, 1) := by decide +kernel
theorem d_law_424 : decode code 424 = .ok (.iadd, 1) := by decide +kernel
theorem d_law_425 : decode code 425 = .ok (.iaload, 1) := by decide +kernel
theorem d_law_426 : decode code 426 = .ok (.invokevirtual 53, 3) := by decide +kernel
theorem d_law_429 : decode code 429 = .ok (.if_icmp .eq 272, 3) := by decide +kernel
theorem d_law_432 : decode code 432 = .ok (.iconst 0, 1) := by decide +kernel
theorem d_law_433 : decode code 433 = .ok (.ireturn, 1) := by decide +kernel
theorem d_law_434 : decode code 434 = .ok (.aload_n 1, 1) := by decide +kernel
theorem d_law_435 : decode code 435 = .ok (.aload_n 0, 1) := by decide +kernel
theorem d_law_436 : decode code 436 = .ok (.iload_n 3, 1) := by decide +kernel
theorem d_law_437 : decode code 437 = .ok (.iconst 1, 1) := by decide +kernel
theorem d_law_438 : decode code 438 = .ok (.iadd, 1) := by decide +kernel
theorem d_law_439 : decode code 439 = .ok (.iaload, 1) := by decide +kernel
theorem d_law_440 : decode code 440 = .ok (.invokevirtual 54, 3) := by decide +kernel
theorem d_law_443 : decode code 443 = .ok (.aload_n 2, 1) := by decide +kernel
theorem d_law_444 : decode code 444 = .ok (.aload_n 0, 1) := by decide +kernel
theorem d_law_445 : decode code 445 = .ok (.iload_n 3, 1) := by decide +kernel
theorem d_law_446 : decode code 446 = .ok (.iconst 1, 1) := by decide +kernel
theorem d_law_447 : decode code 447 = .ok (.iadd, 1) := by decide +kernel
theorem d_law_448 : decode code 448 = .ok (.iaload, 1) := by decide +kernel
theorem d_law_449 : decode code 449 = .ok (.invokevirtual 57, 3) := by decide +kernel
theorem d_law_452 : decode code 452 = .ok (.if_icmp .eq 249, 3) := by decide +kernel
theorem d_law_455 : decode code 455 = .ok (.iconst 0, 1) := by decide +kernel
theorem d_law_456 : decode code 456 = .ok (.ireturn, 1) := by decide +kernel
theorem d_law_457 : decode code 457 = .ok (.aload_n 1, 1) := by decide +kernel
theorem d_law_458 : decode code 458 = .ok (.aload_n 0, 1) := by decide +kernel
theorem d_law_459 : decode code 459 = .ok (.iload_n 3, 1) := by decide +kernel
theorem d_law_460 : decode code 460 = .ok (.iconst 1, 1) := by decide +kernel
theorem d_law_461 : decode code 461 = .ok (.iadd, 1) := by decide +kernel
theorem d_law_462 : decode code 462 = .ok (.iaload, 1) := by decide +kernel
theorem d_law_463 : decode code 463 = .ok (.aload_n 0, 1) := by decide +kernel
theorem d_law_464 : decode code 464 = .ok (.iload_n 3, 1) := by decide +kernel
theorem d_law_465 : decode code 465 = .ok (.iconst 2, 1) := by decide +kernel
theorem d_law_466 : decode code 466 = .ok (.iadd, 1) := by decide +kernel
theorem d_law_467 : decode code 467 = .ok (.iaload, 1) := by decide +kernel
theorem d_law_468 : decode code 468 = .ok (.aload_n 0, 1) := by decide +kernel
theorem d_law_469 : decode code 469 = .ok (.iload_n 3, 1) := by decide +kernel
theorem d_law_470 : decode code 470 = .ok (.iconst 3, 1) := by decide +kernel
theorem d_law_471 : decode code 471 = .ok (.iadd, 1) := by decide +kernel
theorem d_law_472 : decode code 472 = .ok (.iaload, 1) := by decide +kernel
theorem d_law_473 : decode code 473 = .ok (.invokevirtual 58, 3) := by decide +kernel
theorem d_law_476 : decode code 476 = .ok (.aload_n 2, 1) := by decide +kernel
theorem d_law_477 : decode code 477 = .ok (.aload_n 0, 1) := by decide +kernel
theorem d_law_478 : decode code 478 = .ok (.iload_n 3, 1) := by decide +kernel
theorem d_law_479 : decode code 479 = .ok (.iconst 1, 1) := by decide +kernel
theorem d_law_480 : decode code 480 = .ok (.iadd, 1) := by decide +kernel
theorem d_law_481 : decode code 481 = .ok (.iaload, 1) := by decide +kernel
theorem d_law_482 : decode code 482 = .ok (.aload_n 0, 1) := by decide +kernel
theorem d_law_483 : decode code 483 = .ok (.iload_n 3, 1) := by decide +kernel
theorem d_law_484 : decode code 484 = .ok (.iconst 2, 1) := by decide +kernel
theorem d_law_485 : decode code 485 = .ok (.iadd, 1) := by decide +kernel
theorem d_law_486 : decode code 486 = .ok (.iaload, 1) := by decide +kernel
theorem d_law_487 : decode code 487 = .ok (.aload_n 0, 1) := by decide +kernel
theorem d_law_488 : decode code 488 = .ok (.iload_n 3, 1) := by decide +kernel
theorem d_law_489 : decode code 489 = .ok (.iconst 3, 1) := by decide +kernel
theorem d_law_490 : decode code 490 = .ok (.iadd, 1) := by decide +kernel
theorem d_law_491 : decode code 491 = .ok (.iaload, 1) := by decide +kernel
theorem d_law_492 : decode code 492 = .ok (.invokevirtual 61, 3) := by decide +kernel
theorem d_law_495 : decode code 495 = .ok (.if_icmp .eq 206, 3) := by decide +kernel
theorem d_law_498 : decode code 498 = .ok (.iconst 0, 1) := by decide +kernel
theorem d_law_499 : decode code 499 = .ok (.ireturn, 1) := by decide +kernel
theorem d_law_500 : decode code 500 = .ok (.aload_n 1, 1) := by decide +kernel
theorem d_law_501 : decode code 501 = .ok (.aload_n 0, 1) := by decide +kernel
theorem d_law_502 : decode code 502 = .ok (.iload_n 3, 1) := by decide +kernel
theorem d_law_503 : decode code 503 = .ok (.iconst 1, 1) := by decide +kernel
theorem d_law_504 : decode code 504 = .ok (.iadd, 1) := by decide +kernel
theorem d_law_505 : decode code 505 = .ok (.iaload, 1) := by decide +kernel
theorem d_law_506 : decode code 506 = .ok (.aload_n 0, 1) := by decide +kernel
theorem d_law_507 : decode code 507 = .ok (.iload_n 3, 1) := by decide +kernel
theorem d_law_508 : decode code 508 = .ok (.iconst 2, 1) := by decide +kernel
theorem d_law_509 : decode code 509 = .ok (.iadd, 1) := by decide +kernel
theorem d_law_510 : decode code 510 = .ok (.iaload, 1) := by decide +kernel
theorem d_law_511 : decode code 511 = .ok (.aload_n 0, 1) := by decide +kernel
theorem d_law_512 : decode code 512 = .ok (.iload_n 3, 1) := by decide +kernel
theorem d_law_513 : decode code 513 = .ok (.iconst 3, 1) := by decide +kernel
theorem d_law_514 : decode code 514 = .ok (.iadd, 1) := by decide +kernel
theorem d_law_515 : decode code 515 = .ok (.iaload, 1) := by decide +kernel
theorem d_law_516 : decode code 516 = .ok (.aload_n 0, 1) := by decide +kernel
theorem d_law_517 : decode code 517 = .ok (.iload_n 3, 1) := by decide +kernel
theorem d_law_518 : decode code 518 = .ok (.iconst 4, 1) := by decide +kernel
theorem d_law_519 : decode code 519 = .ok (.iadd, 1) := by decide +kernel
theorem d_law_520 : decode code 520 = .ok (.iaload, 1) := by decide +kernel
theorem d_law_521 : decode code 521 = .ok (.invokevirtual 62, 3) := by decide +kernel
theorem d_law_524 : decode code 524 = .ok (.aload_n 2, 1) := by decide +kernel
theorem d_law_525 : decode code 525 = .ok (.aload_n 0, 1) := by decide +kernel
theorem d_law_526 : decode code 526 = .ok (.iload_n 3, 1) := by decide +kernel
theorem d_law_527 : decode code 527 = .ok (.iconst 1, 1) := by decide +kernel
theorem d_law_528 : decode code 528 = .ok (.iadd, 1) := by decide +kernel
theorem d_law_529 : decode code 529 = .ok (.iaload, 1) := by decide +kernel
theorem d_law_530 : decode code 530 = .ok (.aload_n 0, 1) := by decide +kernel
theorem d_law_531 : decode code 531 = .ok (.iload_n 3, 1) := by decide +kernel
theorem d_law_532 : decode code 532 = .ok (.iconst 2, 1) := by decide +kernel
theorem d_law_533 : decode code 533 = .ok (.iadd, 1) := by decide +kernel
theorem d_law_534 : decode code 534 = .ok (.iaload, 1) := by decide +kernel
theorem d_law_535 : decode code 535 = .ok (.aload_n 0, 1) := by decide +kernel
theorem d_law_536 : decode code 536 = .ok (.iload_n 3, 1) := by decide +kernel
theorem d_law_537 : decode code 537 = .ok (.iconst 3, 1) := by decide +kernel
theorem d_law_538 : decode code 538 = .ok (.iadd, 1) := by decide +kernel
theorem d_law_539 : decode code 539 = .ok (.iaload, 1) := by decide +kernel
theorem d_law_540 : decode code 540 = .ok (.aload_n 0, 1) := by decide +kernel
theorem d_law_541 : decode code 541 = .ok (.iload_n 3, 1) := by decide +kernel
theorem d_law_542 : decode code 542 = .ok (.iconst 4, 1) := by decide +kernel
theorem d_law_543 : decode code 543 = .ok (.iadd, 1) := by decide +kernel
theorem d_law_544 : decode code 544 = .ok (.iaload, 1) := by decide +kernel
theorem d_law_545 : decode code 545 = .ok (.invokevirtual 66, 3) := by decide +kernel
theorem d_law_548 : decode code 548 = .ok (.if_icmp .eq 153, 3) := by decide +kernel
theorem d_law_551 : decode code 551 = .ok (.iconst 0, 1) := by decide +kernel
theorem d_law_552 : decode code 552 = .ok (.ireturn, 1) := by decide +kernel
theorem d_law_553 : decode code 553 = .ok (.aload_n 1, 1) := by decide +kernel
theorem d_law_554 : decode code 554 = .ok (.aload_n 0, 1) := by decide +kernel
theorem d_law_555 : decode code 555 = .ok (.iload_n 3, 1) := by decide +kernel
theorem d_law_556 : decode code 556 = .ok (.iconst 1, 1) := by decide +kernel
theorem d_law_557 : decode code 557 = .ok (.iadd, 1) := by decide +kernel
theorem d_law_558 : decode code 558 = .ok (.iaload, 1) := by decide +kernel
theorem d_law_559 : decode code 559 = .ok (.invokevirtual 67, 3) := by decide +kernel
theorem d_law_562 : decode code 562 = .ok (.aload_n 2, 1) := by decide +kernel
theorem d_law_563 : decode code 563 = .ok (.aload_n 0, 1) := by decide +kernel
theorem d_law_564 : decode code 564 = .ok (.iload_n 3, 1) := by decide +kernel
theorem d_law_565 : decode code 565 = .ok (.iconst 1, 1) := by decide +kernel
theorem d_law_566 : decode code 566 = .ok (.iadd, 1) := by decide +kernel
theorem d_law_567 : decode code 567 = .ok (.iaload, 1) := by decide +kernel
theorem d_law_568 : decode code 568 = .ok (.invokevirtual 70, 3) := by decide +kernel
theorem d_law_571 : decode code 571 = .ok (.if_icmp .eq 130, 3) := by decide +kernel
theorem d_law_574 : decode code 574 = .ok (.iconst 0, 1) := by decide +kernel
theorem d_law_575 : decode code 575 = .ok (.ireturn, 1) := by decide +kernel
theorem d_law_576 : decode code 576 = .ok (.aload_n 1, 1) := by decide +kernel
theorem d_law_577 : decode code 577 = .ok (.aload_n 0, 1) := by decide +kernel
theorem d_law_578 : decode code 578 = .ok (.iload_n 3, 1) := by decide +kernel
theorem d_law_579 : decode code 579 = .ok (.iconst 1, 1) := by decide +kernel
theorem d_law_580 : decode code 580 = .ok (.iadd, 1) := by decide +kernel
theorem d_law_581 : decode code 581 = .ok (.iaload, 1) := by decide +kernel
theorem d_law_582 : decode code 582 = .ok (.aload_n 0, 1) := by decide +kernel
theorem d_law_583 : decode code 583 = .ok (.iload_n 3, 1) := by decide +kernel
theorem d_law_584 : decode code 584 = .ok (.iconst 2, 1) := by decide +kernel
theorem d_law_585 : decode code 585 = .ok (.iadd, 1) := by decide +kernel
theorem d_law_586 : decode code 586 = .ok (.iaload, 1) := by decide +kernel
theorem d_law_587 : decode code 587 = .ok (.invokevirtual 71, 3) := by decide +kernel
theorem d_law_590 : decode code 590 = .ok (.aload_n 2, 1) := by decide +kernel
theorem d_law_591 : decode code 591 = .ok (.aload_n 0, 1) := by decide +kernel
theorem d_law_592 : decode code 592 = .ok (.iload_n 3, 1) := by decide +kernel
theorem d_law_593 : decode code 593 = .ok (.iconst 1, 1) := by decide +kernel
theorem d_law_594 : decode code 594 = .ok (.iadd, 1) := by decide +kernel
theorem d_law_595 : decode code 595 = .ok (.iaload, 1) := by decide +kernel
theorem d_law_596 : decode code 596 = .ok (.aload_n 0, 1) := by decide +kernel
theorem d_law_597 : decode code 597 = .ok (.iload_n 3, 1) := by decide +kernel
theorem d_law_598 : decode code 598 = .ok (.iconst 2, 1) := by decide +kernel
theorem d_law_599 : decode code 599 = .ok (.iadd, 1) := by decide +kernel
theorem d_law_600 : decode code 600 = .ok (.iaload, 1) := by decide +kernel
theorem d_law_601 : decode code 601 = .ok (.invokevirtual 74, 3) := by decide +kernel
theorem d_law_604 : decode code 604 = .ok (.if_icmp .eq 97, 3) := by decide +kernel
theorem d_law_607 : decode code 607 = .ok (.iconst 0, 1) := by decide +kernel
theorem d_law_608 : decode code 608 = .ok (.ireturn, 1) := by decide +kernel
theorem d_law_609 : decode code 609 = .ok (.aload_n 1, 1) := by decide +kernel
theorem d_law_610 : decode code 610 = .ok (.aload_n 0, 1) := by decide +kernel
theorem d_law_611 : decode code 611 = .ok (.iload_n 3, 1) := by decide +kernel
theorem d_law_612 : decode code 612 = .ok (.iconst 1, 1) := by decide +kernel
theorem d_law_613 : decode code 613 = .ok (.iadd, 1) := by decide +kernel
theorem d_law_614 : decode code 614 = .ok (.iaload, 1) := by decide +kernel
theorem d_law_615 : decode code 615 = .ok (.aload_n 0, 1) := by decide +kernel
theorem d_law_616 : decode code 616 = .ok (.iload_n 3, 1) := by decide +kernel
theorem d_law_617 : decode code 617 = .ok (.iconst 2, 1) := by decide +kernel
theorem d_law_618 : decode code 618 = .ok (.iadd, 1) := by decide +kernel
theorem d_law_619 : decode code 619 = .ok (.iaload, 1) := by decide +kernel
theorem d_law_620 : decode code 620 = .ok (.aload_n 0, 1) := by decide +kernel
theorem d_law_621 : decode code 621 = .ok (.iload_n 3, 1) := by decide +kernel
theorem d_law_622 : decode code 622 = .ok (.iconst 3, 1) := by decide +kernel
theorem d_law_623 : decode code 623 = .ok (.iadd, 1) := by decide +kernel
theorem d_law_624 : decode code 624 = .ok (.iaload, 1) := by decide +kernel
theorem d_law_625 : decode code 625 = .ok (.ifCond .eq 7, 3) := by decide +kernel
theorem d_law_628 : decode code 628 = .ok (.iconst 1, 1) := by decide +kernel
theorem d_law_629 : decode code 629 = .ok (.goto 4, 3) := by decide +kernel
theorem d_law_632 : decode code 632 = .ok (.iconst 0, 1) := by decide +kernel
theorem d_law_633 : decode code 633 = .ok (.invokevirtual 75, 3) := by decide +kernel
theorem d_law_636 : decode code 636 = .ok (.aload_n 2, 1) := by decide +kernel
theorem d_law_637 : decode code 637 = .ok (.aload_n 0, 1) := by decide +kernel
theorem d_law_638 : decode code 638 = .ok (.iload_n 3, 1) := by decide +kernel
theorem d_law_639 : decode code 639 = .ok (.iconst 1, 1) := by decide +kernel
theorem d_law_640 : decode code 640 = .ok (.iadd, 1) := by decide +kernel
theorem d_law_641 : decode code 641 = .ok (.iaload, 1) := by decide +kernel
theorem d_law_642 : decode code 642 = .ok (.aload_n 0, 1) := by decide +kernel
theorem d_law_643 : decode code 643 = .ok (.iload_n 3, 1) := by decide +kernel
theorem d_law_644 : decode code 644 = .ok (.iconst 2, 1) := by decide +kernel
theorem d_law_645 : decode code 645 = .ok (.iadd, 1) := by decide +kernel
theorem d_law_646 : decode code 646 = .ok (.iaload, 1) := by decide +kernel
theorem d_law_647 : decode code 647 = .ok (.aload_n 0, 1) := by decide +kernel
theorem d_law_648 : decode code 648 = .ok (.iload_n 3, 1) := by decide +kernel
theorem d_law_649 : decode code 649 = .ok (.iconst 3, 1) := by decide +kernel
theorem d_law_650 : decode code 650 = .ok (.iadd, 1) := by decide +kernel
theorem d_law_651 : decode code 651 = .ok (.iaload, 1) := by decide +kernel
theorem d_law_652 : decode code 652 = .ok (.ifCond .eq 7, 3) := by decide +kernel
theorem d_law_655 : decode code 655 = .ok (.iconst 1, 1) := by decide +kernel
theorem d_law_656 : decode code 656 = .ok (.goto 4, 3) := by decide +kernel
theorem d_law_659 : decode code 659 = .ok (.iconst 0, 1) := by decide +kernel
theorem d_law_660 : decode code 660 = .ok (.invokevirtual 78, 3) := by decide +kernel
theorem d_law_663 : decode code 663 = .ok (.if_icmp .eq 38, 3) := by decide +kernel
theorem d_law_666 : decode code 666 = .ok (.iconst 0, 1) := by decide +kernel
theorem d_law_667 : decode code 667 = .ok (.ireturn, 1) := by decide +kernel
theorem d_law_668 : decode code 668 = .ok (.aload_n 1, 1) := by decide +kernel
theorem d_law_669 : decode code 669 = .ok (.aload_n 0, 1) := by decide +kernel
theorem d_law_670 : decode code 670 = .ok (.iload_n 3, 1) := by decide +kernel
theorem d_law_671 : decode code 671 = .ok (.iconst 1, 1) := by decide +kernel
theorem d_law_672 : decode code 672 = .ok (.iadd, 1) := by decide +kernel
theorem d_law_673 : decode code 673 = .ok (.iaload, 1) := by decide +kernel
theorem d_law_674 : decode code 674 = .ok (.aload_n 0, 1) := by decide +kernel
theorem d_law_675 : decode code 675 = .ok (.iload_n 3, 1) := by decide +kernel
theorem d_law_676 : decode code 676 = .ok (.iconst 2, 1) := by decide +kernel
theorem d_law_677 : decode code 677 = .ok (.iadd, 1) := by decide +kernel
theorem d_law_678 : decode code 678 = .ok (.iaload, 1) := by decide +kernel
theorem d_law_679 : decode code 679 = .ok (.invokevirtual 79, 3) := by decide +kernel
theorem d_law_682 : decode code 682 = .ok (.aload_n 2, 1) := by decide +kernel
theorem d_law_683 : decode code 683 = .ok (.aload_n 0, 1) := by decide +kernel
theorem d_law_684 : decode code 684 = .ok (.iload_n 3, 1) := by decide +kernel
theorem d_law_685 : decode code 685 = .ok (.iconst 1, 1) := by decide +kernel
theorem d_law_686 : decode code 686 = .ok (.iadd, 1) := by decide +kernel
theorem d_law_687 : decode code 687 = .ok (.iaload, 1) := by decide +kernel
theorem d_law_688 : decode code 688 = .ok (.aload_n 0, 1) := by decide +kernel
theorem d_law_689 : decode code 689 = .ok (.iload_n 3, 1) := by decide +kernel
theorem d_law_690 : decode code 690 = .ok (.iconst 2, 1) := by decide +kernel
theorem d_law_691 : decode code 691 = .ok (.iadd, 1) := by decide +kernel
theorem d_law_692 : decode code 692 = .ok (.iaload, 1) := by decide +kernel
theorem d_law_693 : decode code 693 = .ok (.invokevirtual 82, 3) := by decide +kernel
theorem d_law_696 : decode code 696 = .ok (.if_icmp .eq 5, 3) := by decide +kernel
theorem d_law_699 : decode code 699 = .ok (.iconst 0, 1) := by decide +kernel
theorem d_law_700 : decode code 700 = .ok (.ireturn, 1) := by decide +kernel
theorem d_law_701 : decode code 701 = .ok (.iinc 3 5, 3) := by decide +kernel
theorem d_law_704 : decode code 704 = .ok (.goto (-686), 3) := by decide +kernel
theorem d_law_707 : decode code 707 = .ok (.iconst 1, 1) := by decide +kernel
theorem d_law_708 : decode code 708 = .ok (.ireturn, 1) := by decide +kernel
