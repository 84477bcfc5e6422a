/-! THE CLAIM OUT OF ONE WALK OF THE LAW'S BODY. Your part is whole_start (and what it stands on); all else here is the same for every law, but numbers. -/
def R_law : String := "ClassShapeLaw"
def lw_P (b : Addr) (xs : List Int32) (args : Array Value) (s : State) : Prop := args = #[.ref b] ∧ s.IntsAt b xs ∧ xs.length ≤ 2048 ∧ (Jvm.Cond.and given_1 narrow_1).before args s = true
def lw_Q (_ : Array Value) (s : State) (o : Outcome) (t : State) : Prop := o = .returned (some (.int 1)) ∧ Framed s o t [] 32 3550
def lw_Z (below : List Frame) (a : Array Value) (s : State) : State → Prop := fun t => ∃ o, t.status = .running ∧ Ended t below o ∧ lw_Q a s o t
/-- the law's own end, with 1 on the stack, nothing written that was there before, its room as the claim has it -/
theorem lw_ret {p : Program} {l : Launch} {e : Env} {s : State} {m : MethodId} {below : List Frame} {meth : Method} {c : Code} {b : Nat} (hx : p.tables.exec = Jvm.exec) (hb : c.code = code) (hr : meth.sig.returnType = ret) (hlocks : meth.locks = false) {pc : Nat} {H : Heap} {ls : Array Slot} (hdg : decode code pc = .ok (.ireturn, 1)) : W p l e room_1 s m #[Value.ref b] below meth c H [] 32 3550 (lw_Z below #[Value.ref b] s) (F0 m pc ls [.int 1]) := by
  intro T hT X
  obtain ⟨fs, hret, hrun, hended, hW, hframe⟩ := X.leave (v := some (.int 1)) (hlocks := hlocks) (fun h => by rw [hr] at h; cases h)
  have hmeth' : T.vm.method? m = some meth := X.method'
  refine ⟨T.setFrames fs, ?_, .returned (some (.int 1)), hrun, hended, rfl, ⟨_, rfl⟩, hW, hframe⟩
  jvm_step X.here [X.here.top, hx, hb, hdg, hmeth', hr, ret, narrow_b1]
  (try refine ⟨rfl, ?_⟩); (try refine ⟨rfl, ?_⟩)
  first | (intro acts; rw [hret _ acts rfl rfl rfl]) | rw [hret _ _ rfl rfl rfl]
  exact Steps.refl _
/-- what holds at the law's entry: the machine, the code, the tables' words (any of lw_tbl by 'hts w (by decide +kernel)'), the script of L ints xs at the cell b, what the Statement gives of the start (any of its parts by flat_of_before) -/
def lw_At (p : Program) (s : State) (m : MethodId) (meth : Method) (c : Code) (b L : Nat) (xs : Nat → Int32) : Prop :=
  p.tables.exec = Jvm.exec ∧ c.code = code ∧ meth.sig.returnType = ret ∧ c.maxLocals = 4 ∧ s.vm.findClass R_law = some m.cls ∧ (∀ w ∈ lw_tbl, w.before #[Value.ref b] s = true) ∧ va_X b L xs s s.heap ∧ b < s.heap.size ∧ meth.locks = false ∧ (Jvm.Cond.and given_1 narrow_1).before #[Value.ref b] s = true

theorem dL_0 : decode code 0 = .ok (.new 7, 3) := by decide +kernel
theorem dL_3 : decode code 3 = .ok (.dup, 1) := by decide +kernel
theorem dL_4 : decode code 4 = .ok (.invokespecial 9, 3) := by decide +kernel
theorem dL_7 : decode code 7 = .ok (.astore_n 1, 1) := by decide +kernel
theorem dL_8 : decode code 8 = .ok (.new 10, 3) := by decide +kernel
theorem dL_11 : decode code 11 = .ok (.dup, 1) := by decide +kernel
theorem dL_12 : decode code 12 = .ok (.invokespecial 12, 3) := by decide +kernel
theorem dL_15 : decode code 15 = .ok (.astore_n 2, 1) := by decide +kernel
theorem dL_16 : decode code 16 = .ok (.iconst 0, 1) := by decide +kernel
theorem dL_17 : decode code 17 = .ok (.istore_n 3, 1) := by decide +kernel
theorem dL_18 : decode code 18 = .ok (.iload_n 3, 1) := by decide +kernel
theorem dL_19 : decode code 19 = .ok (.aload_n 0, 1) := by decide +kernel
theorem dL_20 : decode code 20 = .ok (.arraylength, 1) := by decide +kernel
theorem dL_21 : decode code 21 = .ok (.iconst 4, 1) := by decide +kernel
theorem dL_22 : decode code 22 = .ok (.isub, 1) := by decide +kernel
theorem dL_23 : decode code 23 = .ok (.if_icmp .gt 422, 3) := by decide +kernel
theorem dL_26 : decode code 26 = .ok (.aload_n 0, 1) := by decide +kernel
theorem dL_27 : decode code 27 = .ok (.iload_n 3, 1) := by decide +kernel
theorem dL_28 : decode code 28 = .ok (.iaload, 1) := by decide +kernel
theorem dL_29 : decode code 29 = .ok (.bipush 15, 2) := by decide +kernel
theorem dL_31 : decode code 31 = .ok (.iand, 1) := by decide +kernel
theorem dL_32 : decode code 32 = .ok (.tableswitch 407 0 12 #[68, 101, 164, 197, 230, 263, 276, 289, 302, 315, 338, 361, 384], 68) := by decide +kernel
theorem dL_100 : decode code 100 = .ok (.aload_n 1, 1) := by decide +kernel
theorem dL_101 : decode code 101 = .ok (.aload_n 0, 1) := by decide +kernel
theorem dL_102 : decode code 102 = .ok (.iload_n 3, 1) := by decide +kernel
theorem dL_103 : decode code 103 = .ok (.iconst 1, 1) := by decide +kernel
theorem dL_104 : decode code 104 = .ok (.iadd, 1) := by decide +kernel
theorem dL_105 : decode code 105 = .ok (.iaload, 1) := by decide +kernel
theorem dL_106 : decode code 106 = .ok (.aload_n 0, 1) := by decide +kernel
theorem dL_107 : decode code 107 = .ok (.iload_n 3, 1) := by decide +kernel
theorem dL_108 : decode code 108 = .ok (.iconst 2, 1) := by decide +kernel
theorem dL_109 : decode code 109 = .ok (.iadd, 1) := by decide +kernel
theorem dL_110 : decode code 110 = .ok (.iaload, 1) := by decide +kernel
theorem dL_111 : decode code 111 = .ok (.invokevirtual 13, 3) := by decide +kernel
theorem dL_114 : decode code 114 = .ok (.aload_n 2, 1) := by decide +kernel
theorem dL_115 : decode code 115 = .ok (.aload_n 0, 1) := by decide +kernel
theorem dL_116 : decode code 116 = .ok (.iload_n 3, 1) := by decide +kernel
theorem dL_117 : decode code 117 = .ok (.iconst 1, 1) := by decide +kernel
theorem dL_118 : decode code 118 = .ok (.iadd, 1) := by decide +kernel
theorem dL_119 : decode code 119 = .ok (.iaload, 1) := by decide +kernel
theorem dL_120 : decode code 120 = .ok (.aload_n 0, 1) := by decide +kernel
theorem dL_121 : decode code 121 = .ok (.iload_n 3, 1) := by decide +kernel
theorem dL_122 : decode code 122 = .ok (.iconst 2, 1) := by decide +kernel
theorem dL_123 : decode code 123 = .ok (.iadd, 1) := by decide +kernel
theorem dL_124 : decode code 124 = .ok (.iaload, 1) := by decide +kernel
theorem dL_125 : decode code 125 = .ok (.invokevirtual 17, 3) := by decide +kernel
theorem dL_128 : decode code 128 = .ok (.if_icmp .eq 311, 3) := by decide +kernel
theorem dL_131 : decode code 131 = .ok (.iconst 0, 1) := by decide +kernel
theorem dL_132 : decode code 132 = .ok (.ireturn, 1) := by decide +kernel
theorem dL_133 : decode code 133 = .ok (.aload_n 1, 1) := by decide +kernel
theorem dL_134 : decode code 134 = .ok (.aload_n 0, 1) := by decide +kernel
theorem dL_135 : decode code 135 = .ok (.iload_n 3, 1) := by decide +kernel
theorem dL_136 : decode code 136 = .ok (.iconst 1, 1) := by decide +kernel
theorem dL_137 : decode code 137 = .ok (.iadd, 1) := by decide +kernel
theorem dL_138 : decode code 138 = .ok (.iaload, 1) := by decide +kernel
theorem dL_139 : decode code 139 = .ok (.aload_n 0, 1) := by decide +kernel
theorem dL_140 : decode code 140 = .ok (.iload_n 3, 1) := by decide +kernel
theorem dL_141 : decode code 141 = .ok (.iconst 2, 1) := by decide +kernel
theorem dL_142 : decode code 142 = .ok (.iadd, 1) := by decide +kernel
theorem dL_143 : decode code 143 = .ok (.iaload, 1) := by decide +kernel
theorem dL_144 : decode code 144 = .ok (.i2l, 1) := by decide +kernel
theorem dL_145 : decode code 145 = .ok (.bipush 32, 2) := by decide +kernel
theorem dL_147 : decode code 147 = .ok (.lshl, 1) := by decide +kernel
theorem dL_148 : decode code 148 = .ok (.aload_n 0, 1) := by decide +kernel
theorem dL_149 : decode code 149 = .ok (.iload_n 3, 1) := by decide +kernel
theorem dL_150 : decode code 150 = .ok (.iconst 3, 1) := by decide +kernel
theorem dL_151 : decode code 151 = .ok (.iadd, 1) := by decide +kernel
theorem dL_152 : decode code 152 = .ok (.iaload, 1) := by decide +kernel
theorem dL_153 : decode code 153 = .ok (.i2l, 1) := by decide +kernel
theorem dL_154 : decode code 154 = .ok (.ldc2_w 18, 3) := by decide +kernel
theorem dL_157 : decode code 157 = .ok (.land, 1) := by decide +kernel
theorem dL_158 : decode code 158 = .ok (.lor, 1) := by decide +kernel
theorem dL_159 : decode code 159 = .ok (.invokevirtual 20, 3) := by decide +kernel
theorem dL_162 : decode code 162 = .ok (.aload_n 2, 1) := by decide +kernel
theorem dL_163 : decode code 163 = .ok (.aload_n 0, 1) := by decide +kernel
theorem dL_164 : decode code 164 = .ok (.iload_n 3, 1) := by decide +kernel
theorem dL_165 : decode code 165 = .ok (.iconst 1, 1) := by decide +kernel
theorem dL_166 : decode code 166 = .ok (.iadd, 1) := by decide +kernel
theorem dL_167 : decode code 167 = .ok (.iaload, 1) := by decide +kernel
theorem dL_168 : decode code 168 = .ok (.aload_n 0, 1) := by decide +kernel
theorem dL_169 : decode code 169 = .ok (.iload_n 3, 1) := by decide +kernel
theorem dL_170 : decode code 170 = .ok (.iconst 2, 1) := by decide +kernel
theorem dL_171 : decode code 171 = .ok (.iadd, 1) := by decide +kernel
theorem dL_172 : decode code 172 = .ok (.iaload, 1) := by decide +kernel
theorem dL_173 : decode code 173 = .ok (.i2l, 1) := by decide +kernel
theorem dL_174 : decode code 174 = .ok (.bipush 32, 2) := by decide +kernel
theorem dL_176 : decode code 176 = .ok (.lshl, 1) := by decide +kernel
theorem dL_177 : decode code 177 = .ok (.aload_n 0, 1) := by decide +kernel
theorem dL_178 : decode code 178 = .ok (.iload_n 3, 1) := by decide +kernel
theorem dL_179 : decode code 179 = .ok (.iconst 3, 1) := by decide +kernel
theorem dL_180 : decode code 180 = .ok (.iadd, 1) := by decide +kernel
theorem dL_181 : decode code 181 = .ok (.iaload, 1) := by decide +kernel
theorem dL_182 : decode code 182 = .ok (.i2l, 1) := by decide +kernel
theorem dL_183 : decode code 183 = .ok (.ldc2_w 18, 3) := by decide +kernel
theorem dL_186 : decode code 186 = .ok (.land, 1) := by decide +kernel
theorem dL_187 : decode code 187 = .ok (.lor, 1) := by decide +kernel
theorem dL_188 : decode code 188 = .ok (.invokevirtual 24, 3) := by decide +kernel
theorem dL_191 : decode code 191 = .ok (.if_icmp .eq 248, 3) := by decide +kernel
theorem dL_194 : decode code 194 = .ok (.iconst 0, 1) := by decide +kernel
theorem dL_195 : decode code 195 = .ok (.ireturn, 1) := by decide +kernel
theorem dL_196 : decode code 196 = .ok (.aload_n 1, 1) := by decide +kernel
theorem dL_197 : decode code 197 = .ok (.aload_n 0, 1) := by decide +kernel
theorem dL_198 : decode code 198 = .ok (.iload_n 3, 1) := by decide +kernel
theorem dL_199 : decode code 199 = .ok (.iconst 1, 1) := by decide +kernel
theorem dL_200 : decode code 200 = .ok (.iadd, 1) := by decide +kernel
theorem dL_201 : decode code 201 = .ok (.iaload, 1) := by decide +kernel
theorem dL_202 : decode code 202 = .ok (.aload_n 0, 1) := by decide +kernel
theorem dL_203 : decode code 203 = .ok (.iload_n 3, 1) := by decide +kernel
theorem dL_204 : decode code 204 = .ok (.iconst 2, 1) := by decide +kernel
theorem dL_205 : decode code 205 = .ok (.iadd, 1) := by decide +kernel
theorem dL_206 : decode code 206 = .ok (.iaload, 1) := by decide +kernel
theorem dL_207 : decode code 207 = .ok (.invokevirtual 25, 3) := by decide +kernel
theorem dL_210 : decode code 210 = .ok (.aload_n 2, 1) := by decide +kernel
theorem dL_211 : decode code 211 = .ok (.aload_n 0, 1) := by decide +kernel
theorem dL_212 : decode code 212 = .ok (.iload_n 3, 1) := by decide +kernel
theorem dL_213 : decode code 213 = .ok (.iconst 1, 1) := by decide +kernel
theorem dL_214 : decode code 214 = .ok (.iadd, 1) := by decide +kernel
theorem dL_215 : decode code 215 = .ok (.iaload, 1) := by decide +kernel
theorem dL_216 : decode code 216 = .ok (.aload_n 0, 1) := by decide +kernel
theorem dL_217 : decode code 217 = .ok (.iload_n 3, 1) := by decide +kernel
theorem dL_218 : decode code 218 = .ok (.iconst 2, 1) := by decide +kernel
theorem dL_219 : decode code 219 = .ok (.iadd, 1) := by decide +kernel
theorem dL_220 : decode code 220 = .ok (.iaload, 1) := by decide +kernel
theorem dL_221 : decode code 221 = .ok (.invokevirtual 28, 3) := by decide +kernel
theorem dL_224 : decode code 224 = .ok (.if_icmp .eq 215, 3) := by decide +kernel
theorem dL_227 : decode code 227 = .ok (.iconst 0, 1) := by decide +kernel
theorem dL_228 : decode code 228 = .ok (.ireturn, 1) := by decide +kernel
theorem dL_229 : decode code 229 = .ok (.aload_n 1, 1) := by decide +kernel
theorem dL_230 : decode code 230 = .ok (.aload_n 0, 1) := by decide +kernel
theorem dL_231 : decode code 231 = .ok (.iload_n 3, 1) := by decide +kernel
theorem dL_232 : decode code 232 = .ok (.iconst 1, 1) := by decide +kernel
theorem dL_233 : decode code 233 = .ok (.iadd, 1) := by decide +kernel
theorem dL_234 : decode code 234 = .ok (.iaload, 1) := by decide +kernel
theorem dL_235 : decode code 235 = .ok (.aload_n 0, 1) := by decide +kernel
theorem dL_236 : decode code 236 = .ok (.iload_n 3, 1) := by decide +kernel
theorem dL_237 : decode code 237 = .ok (.iconst 2, 1) := by decide +kernel
theorem dL_238 : decode code 238 = .ok (.iadd, 1) := by decide +kernel
theorem dL_239 : decode code 239 = .ok (.iaload, 1) := by decide +kernel
theorem dL_240 : decode code 240 = .ok (.invokevirtual 29, 3) := by decide +kernel
theorem dL_243 : decode code 243 = .ok (.aload_n 2, 1) := by decide +kernel
theorem dL_244 : decode code 244 = .ok (.aload_n 0, 1) := by decide +kernel
theorem dL_245 : decode code 245 = .ok (.iload_n 3, 1) := by decide +kernel
theorem dL_246 : decode code 246 = .ok (.iconst 1, 1) := by decide +kernel
theorem dL_247 : decode code 247 = .ok (.iadd, 1) := by decide +kernel
theorem dL_248 : decode code 248 = .ok (.iaload, 1) := by decide +kernel
theorem dL_249 : decode code 249 = .ok (.aload_n 0, 1) := by decide +kernel
theorem dL_250 : decode code 250 = .ok (.iload_n 3, 1) := by decide +kernel
theorem dL_251 : decode code 251 = .ok (.iconst 2, 1) := by decide +kernel
theorem dL_252 : decode code 252 = .ok (.iadd, 1) := by decide +kernel
theorem dL_253 : decode code 253 = .ok (.iaload, 1) := by decide +kernel
theorem dL_254 : decode code 254 = .ok (.invokevirtual 32, 3) := by decide +kernel
theorem dL_257 : decode code 257 = .ok (.if_icmp .eq 182, 3) := by decide +kernel
theorem dL_260 : decode code 260 = .ok (.iconst 0, 1) := by decide +kernel
theorem dL_261 : decode code 261 = .ok (.ireturn, 1) := by decide +kernel
theorem dL_262 : decode code 262 = .ok (.aload_n 1, 1) := by decide +kernel
theorem dL_263 : decode code 263 = .ok (.aload_n 0, 1) := by decide +kernel
theorem dL_264 : decode code 264 = .ok (.iload_n 3, 1) := by decide +kernel
theorem dL_265 : decode code 265 = .ok (.iconst 1, 1) := by decide +kernel
theorem dL_266 : decode code 266 = .ok (.iadd, 1) := by decide +kernel
theorem dL_267 : decode code 267 = .ok (.iaload, 1) := by decide +kernel
theorem dL_268 : decode code 268 = .ok (.aload_n 0, 1) := by decide +kernel
theorem dL_269 : decode code 269 = .ok (.iload_n 3, 1) := by decide +kernel
theorem dL_270 : decode code 270 = .ok (.iconst 2, 1) := by decide +kernel
theorem dL_271 : decode code 271 = .ok (.iadd, 1) := by decide +kernel
theorem dL_272 : decode code 272 = .ok (.iaload, 1) := by decide +kernel
theorem dL_273 : decode code 273 = .ok (.invokevirtual 33, 3) := by decide +kernel
theorem dL_276 : decode code 276 = .ok (.aload_n 2, 1) := by decide +kernel
theorem dL_277 : decode code 277 = .ok (.aload_n 0, 1) := by decide +kernel
theorem dL_278 : decode code 278 = .ok (.iload_n 3, 1) := by decide +kernel
theorem dL_279 : decode code 279 = .ok (.iconst 1, 1) := by decide +kernel
theorem dL_280 : decode code 280 = .ok (.iadd, 1) := by decide +kernel
theorem dL_281 : decode code 281 = .ok (.iaload, 1) := by decide +kernel
theorem dL_282 : decode code 282 = .ok (.aload_n 0, 1) := by decide +kernel
theorem dL_283 : decode code 283 = .ok (.iload_n 3, 1) := by decide +kernel
theorem dL_284 : decode code 284 = .ok (.iconst 2, 1) := by decide +kernel
theorem dL_285 : decode code 285 = .ok (.iadd, 1) := by decide +kernel
theorem dL_286 : decode code 286 = .ok (.iaload, 1) := by decide +kernel
theorem dL_287 : decode code 287 = .ok (.invokevirtual 36, 3) := by decide +kernel
theorem dL_290 : decode code 290 = .ok (.if_icmp .eq 149, 3) := by decide +kernel
theorem dL_293 : decode code 293 = .ok (.iconst 0, 1) := by decide +kernel
theorem dL_294 : decode code 294 = .ok (.ireturn, 1) := by decide +kernel
theorem dL_295 : decode code 295 = .ok (.aload_n 1, 1) := by decide +kernel
theorem dL_296 : decode code 296 = .ok (.invokevirtual 37, 3) := by decide +kernel
theorem dL_299 : decode code 299 = .ok (.aload_n 2, 1) := by decide +kernel
theorem dL_300 : decode code 300 = .ok (.invokevirtual 41, 3) := by decide +kernel
theorem dL_303 : decode code 303 = .ok (.if_icmp .eq 136, 3) := by decide +kernel
theorem dL_306 : decode code 306 = .ok (.iconst 0, 1) := by decide +kernel
theorem dL_307 : decode code 307 = .ok (.ireturn, 1) := by decide +kernel
theorem dL_308 : decode code 308 = .ok (.aload_n 1, 1) := by decide +kernel
theorem dL_309 : decode code 309 = .ok (.invokevirtual 42, 3) := by decide +kernel
theorem dL_312 : decode code 312 = .ok (.aload_n 2, 1) := by decide +kernel
theorem dL_313 : decode code 313 = .ok (.invokevirtual 45, 3) := by decide +kernel
theorem dL_316 : decode code 316 = .ok (.if_icmp .eq 123, 3) := by decide +kernel
theorem dL_319 : decode code 319 = .ok (.iconst 0, 1) := by decide +kernel
theorem dL_320 : decode code 320 = .ok (.ireturn, 1) := by decide +kernel
theorem dL_321 : decode code 321 = .ok (.aload_n 1, 1) := by decide +kernel
theorem dL_322 : decode code 322 = .ok (.invokevirtual 46, 3) := by decide +kernel
theorem dL_325 : decode code 325 = .ok (.aload_n 2, 1) := by decide +kernel
theorem dL_326 : decode code 326 = .ok (.invokevirtual 49, 3) := by decide +kernel
theorem dL_329 : decode code 329 = .ok (.if_icmp .eq 110, 3) := by decide +kernel
theorem dL_332 : decode code 332 = .ok (.iconst 0, 1) := by decide +kernel
theorem dL_333 : decode code 333 = .ok (.ireturn, 1) := by decide +kernel
theorem dL_334 : decode code 334 = .ok (.aload_n 1, 1) := by decide +kernel
theorem dL_335 : decode code 335 = .ok (.invokevirtual 50, 3) := by decide +kernel
theorem dL_338 : decode code 338 = .ok (.aload_n 2, 1) := by decide +kernel
theorem dL_339 : decode code 339 = .ok (.invokevirtual 53, 3) := by decide +kernel
theorem dL_342 : decode code 342 = .ok (.if_icmp .eq 97, 3) := by decide +kernel
theorem dL_345 : decode code 345 = .ok (.iconst 0, 1) := by decide +kernel
theorem dL_346 : decode code 346 = .ok (.ireturn, 1) := by decide +kernel
theorem dL_347 : decode code 347 = .ok (.aload_n 1, 1) := by decide +kernel
theorem dL_348 : decode code 348 = .ok (.aload_n 0, 1) := by decide +kernel
theorem dL_349 : decode code 349 = .ok (.iload_n 3, 1) := by decide +kernel
theorem dL_350 : decode code 350 = .ok (.iconst 1, 1) := by decide +kernel
theorem dL_351 : decode code 351 = .ok (.iadd, 1) := by decide +kernel
theorem dL_352 : decode code 352 = .ok (.iaload, 1) := by decide +kernel
theorem dL_353 : decode code 353 = .ok (.invokevirtual 54, 3) := by decide +kernel
theorem dL_356 : decode code 356 = .ok (.aload_n 2, 1) := by decide +kernel
theorem dL_357 : decode code 357 = .ok (.aload_n 0, 1) := by decide +kernel
theorem dL_358 : decode code 358 = .ok (.iload_n 3, 1) := by decide +kernel
theorem dL_359 : decode code 359 = .ok (.iconst 1, 1) := by decide +kernel
theorem dL_360 : decode code 360 = .ok (.iadd, 1) := by decide +kernel
theorem dL_361 : decode code 361 = .ok (.iaload, 1) := by decide +kernel
theorem dL_362 : decode code 362 = .ok (.invokevirtual 58, 3) := by decide +kernel
theorem dL_365 : decode code 365 = .ok (.if_icmp .eq 74, 3) := by decide +kernel
theorem dL_368 : decode code 368 = .ok (.iconst 0, 1) := by decide +kernel
theorem dL_369 : decode code 369 = .ok (.ireturn, 1) := by decide +kernel
theorem dL_370 : decode code 370 = .ok (.aload_n 1, 1) := by decide +kernel
theorem dL_371 : decode code 371 = .ok (.aload_n 0, 1) := by decide +kernel
theorem dL_372 : decode code 372 = .ok (.iload_n 3, 1) := by decide +kernel
theorem dL_373 : decode code 373 = .ok (.iconst 1, 1) := by decide +kernel
theorem dL_374 : decode code 374 = .ok (.iadd, 1) := by decide +kernel
theorem dL_375 : decode code 375 = .ok (.iaload, 1) := by decide +kernel
theorem dL_376 : decode code 376 = .ok (.invokevirtual 59, 3) := by decide +kernel
theorem dL_379 : decode code 379 = .ok (.aload_n 2, 1) := by decide +kernel
theorem dL_380 : decode code 380 = .ok (.aload_n 0, 1) := by decide +kernel
theorem dL_381 : decode code 381 = .ok (.iload_n 3, 1) := by decide +kernel
theorem dL_382 : decode code 382 = .ok (.iconst 1, 1) := by decide +kernel
theorem dL_383 : decode code 383 = .ok (.iadd, 1) := by decide +kernel
theorem dL_384 : decode code 384 = .ok (.iaload, 1) := by decide +kernel
theorem dL_385 : decode code 385 = .ok (.invokevirtual 62, 3) := by decide +kernel
theorem dL_388 : decode code 388 = .ok (.if_icmp .eq 51, 3) := by decide +kernel
theorem dL_391 : decode code 391 = .ok (.iconst 0, 1) := by decide +kernel
theorem dL_392 : decode code 392 = .ok (.ireturn, 1) := by decide +kernel
theorem dL_393 : decode code 393 = .ok (.aload_n 1, 1) := by decide +kernel
theorem dL_394 : decode code 394 = .ok (.aload_n 0, 1) := by decide +kernel
theorem dL_395 : decode code 395 = .ok (.iload_n 3, 1) := by decide +kernel
theorem dL_396 : decode code 396 = .ok (.iconst 1, 1) := by decide +kernel
theorem dL_397 : decode code 397 = .ok (.iadd, 1) := by decide +kernel
theorem dL_398 : decode code 398 = .ok (.iaload, 1) := by decide +kernel
theorem dL_399 : decode code 399 = .ok (.invokevirtual 63, 3) := by decide +kernel
theorem dL_402 : decode code 402 = .ok (.aload_n 2, 1) := by decide +kernel
theorem dL_403 : decode code 403 = .ok (.aload_n 0, 1) := by decide +kernel
theorem dL_404 : decode code 404 = .ok (.iload_n 3, 1) := by decide +kernel
theorem dL_405 : decode code 405 = .ok (.iconst 1, 1) := by decide +kernel
theorem dL_406 : decode code 406 = .ok (.iadd, 1) := by decide +kernel
theorem dL_407 : decode code 407 = .ok (.iaload, 1) := by decide +kernel
theorem dL_408 : decode code 408 = .ok (.invokevirtual 66, 3) := by decide +kernel
theorem dL_411 : decode code 411 = .ok (.if_icmp .eq 28, 3) := by decide +kernel
theorem dL_414 : decode code 414 = .ok (.iconst 0, 1) := by decide +kernel
theorem dL_415 : decode code 415 = .ok (.ireturn, 1) := by decide +kernel
theorem dL_416 : decode code 416 = .ok (.aload_n 1, 1) := by decide +kernel
theorem dL_417 : decode code 417 = .ok (.aload_n 0, 1) := by decide +kernel
theorem dL_418 : decode code 418 = .ok (.iload_n 3, 1) := by decide +kernel
theorem dL_419 : decode code 419 = .ok (.iconst 1, 1) := by decide +kernel
theorem dL_420 : decode code 420 = .ok (.iadd, 1) := by decide +kernel
theorem dL_421 : decode code 421 = .ok (.iaload, 1) := by decide +kernel
theorem dL_422 : decode code 422 = .ok (.invokevirtual 67, 3) := by decide +kernel
theorem dL_425 : decode code 425 = .ok (.aload_n 2, 1) := by decide +kernel
theorem dL_426 : decode code 426 = .ok (.aload_n 0, 1) := by decide +kernel
theorem dL_427 : decode code 427 = .ok (.iload_n 3, 1) := by decide +kernel
theorem dL_428 : decode code 428 = .ok (.iconst 1, 1) := by decide +kernel
theorem dL_429 : decode code 429 = .ok (.iadd, 1) := by decide +kernel
theorem dL_430 : decode code 430 = .ok (.iaload, 1) := by decide +kernel
theorem dL_431 : decode code 431 = .ok (.invokevirtual 70, 3) := by decide +kernel
theorem dL_434 : decode code 434 = .ok (.if_icmp .eq 5, 3) := by decide +kernel
theorem dL_437 : decode code 437 = .ok (.iconst 0, 1) := by decide +kernel
theorem dL_438 : decode code 438 = .ok (.ireturn, 1) := by decide +kernel
theorem dL_439 : decode code 439 = .ok (.iinc 3 4, 3) := by decide +kernel
theorem dL_442 : decode code 442 = .ok (.goto (-424), 3) := by decide +kernel
theorem dL_445 : decode code 445 = .ok (.iconst 1, 1) := by decide +kernel
theorem dL_446 : decode code 446 = .ok (.ireturn, 1) := by decide +kernel
theorem mL_13 : Cond.methodLink R_law 13 yX6_put ∈ TBL := TBL_mem 272 (by decide +kernel) (by decide +kernel)
theorem mL_17 : Cond.methodLink R_law 17 yX7_put ∈ TBL := TBL_mem 826 (by decide +kernel) (by decide +kernel)
theorem mL_18 : Cond.constantLong R_law 18 4294967295 ∈ TBL := TBL_mem 1090 (by decide +kernel) (by decide +kernel)
theorem mL_20 : Cond.methodLink R_law 20 yX6_text ∈ TBL := TBL_mem 284 (by decide +kernel) (by decide +kernel)
theorem mL_24 : Cond.methodLink R_law 24 yX7_text ∈ TBL := TBL_mem 830 (by decide +kernel) (by decide +kernel)
theorem mL_25 : Cond.methodLink R_law 25 yX6_patch ∈ TBL := TBL_mem 288 (by decide +kernel) (by decide +kernel)
theorem mL_28 : Cond.methodLink R_law 28 yX7_patch ∈ TBL := TBL_mem 834 (by decide +kernel) (by decide +kernel)
theorem mL_29 : Cond.methodLink R_law 29 yX6_cut ∈ TBL := TBL_mem 296 (by decide +kernel) (by decide +kernel)
theorem mL_32 : Cond.methodLink R_law 32 yX7_cut ∈ TBL := TBL_mem 838 (by decide +kernel) (by decide +kernel)
theorem mL_33 : Cond.methodLink R_law 33 yX6_twice ∈ TBL := TBL_mem 307 (by decide +kernel) (by decide +kernel)
theorem mL_36 : Cond.methodLink R_law 36 yX7_twice ∈ TBL := TBL_mem 850 (by decide +kernel) (by decide +kernel)
theorem mL_37 : Cond.methodLink R_law 37 yX6_clear ∈ TBL := TBL_mem 315 (by decide +kernel) (by decide +kernel)
theorem mL_41 : Cond.methodLink R_law 41 yX7_clear ∈ TBL := TBL_mem 854 (by decide +kernel) (by decide +kernel)
theorem mL_42 : Cond.methodLink R_law 42 yX6_judge ∈ TBL := TBL_mem 319 (by decide +kernel) (by decide +kernel)
theorem mL_45 : Cond.methodLink R_law 45 yX7_judge ∈ TBL := TBL_mem 858 (by decide +kernel) (by decide +kernel)
theorem mL_46 : Cond.methodLink R_law 46 yX6_place ∈ TBL := TBL_mem 691 (by decide +kernel) (by decide +kernel)
theorem mL_49 : Cond.methodLink R_law 49 yX7_place ∈ TBL := TBL_mem 1062 (by decide +kernel) (by decide +kernel)
theorem mL_50 : Cond.methodLink R_law 50 yX6_shrink ∈ TBL := TBL_mem 695 (by decide +kernel) (by decide +kernel)
theorem mL_53 : Cond.methodLink R_law 53 yX7_shrink ∈ TBL := TBL_mem 1066 (by decide +kernel) (by decide +kernel)
theorem mL_54 : Cond.methodLink R_law 54 yX6_at ∈ TBL := TBL_mem 700 (by decide +kernel) (by decide +kernel)
theorem mL_58 : Cond.methodLink R_law 58 yX7_at ∈ TBL := TBL_mem 1074 (by decide +kernel) (by decide +kernel)
theorem mL_59 : Cond.methodLink R_law 59 yX6_read ∈ TBL := TBL_mem 704 (by decide +kernel) (by decide +kernel)
theorem mL_62 : Cond.methodLink R_law 62 yX7_read ∈ TBL := TBL_mem 1078 (by decide +kernel) (by decide +kernel)
theorem mL_63 : Cond.methodLink R_law 63 yX6_found ∈ TBL := TBL_mem 708 (by decide +kernel) (by decide +kernel)
theorem mL_66 : Cond.methodLink R_law 66 yX7_found ∈ TBL := TBL_mem 1082 (by decide +kernel) (by decide +kernel)
theorem mL_67 : Cond.methodLink R_law 67 yX6_count ∈ TBL := TBL_mem 712 (by decide +kernel) (by decide +kernel)
theorem mL_70 : Cond.methodLink R_law 70 yX7_count ∈ TBL := TBL_mem 1086 (by decide +kernel) (by decide +kernel)
/-- the reference's addresses stand behind the system's -/
def gM (g : Gw) : Gw := (fun i => if i < 50 then g.1 (50 + i) else g.1 i, g.2)
theorem exOk_gM {g : Gw} {A : Nat → Prop} {U : State} {H : Heap} (h : exOk g A U H) : exOk (gM g) A U H := by
  obtain ⟨h1, h2, h3, h4, h5, h6, h7, h8⟩ := h
  have e1 : (fun i => (gM g).1 (100 + i)) = (fun i => g.1 (100 + i)) := by
    funext i
    show (if 100 + i < 50 then _ else _) = _
    rw [if_neg (by omega)]
  have e2 : (fun i => (gM g).1 (200 + i)) = (fun i => g.1 (200 + i)) := by
    funext i
    show (if 200 + i < 50 then _ else _) = _
    rw [if_neg (by omega)]
  refine ⟨h1, ?_, h3, h4, h5, h6, h7, h8⟩
  rw [e1, e2]
  exact h2
def wdL (g : Gw) (w : St × St) : va_W := wdX g w.1 ++ wdM (gM g) w.2
section LCALL
variable {K : Cx} {g : Gw} {cc : ByteArray} {nL : Nat} {own : String} {rt : Option FieldType} {R0 : Room} {Q : State → Prop} {w : St × St} {pc ce sl : Nat} {lv : List (Nat × Value)} {st : List Value} {y : MethodName} {C : String} {b : ByteArray} {n nA index : Nat} {ty : FieldType} {rm : Room} {a ci N : Nat} {T : u_T} {fs : List Value}
set_option maxRecDepth 100000 in
theorem l_callX (X : XC K g cc nL own rt R0) {res : Int32 × St} (As rest : List Value) (hM : metI K.l K.D g (wdX g) y b n ty rm (.ref a :: As) w.1 res) (ok : okV y C b n (some ty) nA) (hm : Cond.methodLink own index y ∈ TBL) (q0 : Nat) (he : (wdX g w.1)[q0]? = some (a, .inr (ci, fs))) (hc : vwCl[ci]? = some (C, T, N)) (hn : As.length = nA) (hst : st = As.reverse ++ .ref a :: rest) (hrm : (rest.map fun v => v.category).sum ≤ 8) (hCS : ce ≤ R0.cells ∧ sl ≤ R0.slots) (hRm : rm.cells = 0 ∧ rm.slots = 0 ∧ rm.frames + 1 ≤ R0.frames ∧ 8 + (n + 11) + rm.locals ≤ R0.locals) (hdg : decode cc pc = .ok (.invokevirtual index, 3)) (k : XW K ce sl nL Q (wdL g) (res.2, w.2) (pc + 3) lv (.int res.1 :: rest)) : XW K ce sl nL Q (wdL g) w pc lv st := fun H locs ls hl hP hD hS => by
  have hC : ([0, 1, 2, 3, 4, 5, 6, 7, 8, 9, 10, 11, 12, 13, 14] : List Nat).map (fun i => (wdL g w)[i]?) = (wdX g w.1).map some := rfl
  have hR : ([15, 16, 17, 18, 19, 20, 21, 22, 23, 24, 25, 26, 27, 28, 29, 30, 31] : List Nat).map (fun i => (wdL g w)[i]?) = (wdM (gM g) w.2).map some := rfl
  have hF := va_free (wc := wdX g w.1) hD hS X.2.2.1 _ hC
  have hPc : va_P K.D vwCl (wdX g w.1) H := va_P.sub hP [0, 1, 2, 3, 4, 5, 6, 7, 8, 9, 10, 11, 12, 13, 14] rfl
  have hDc : va_D K.A (wdX g w.1) := va_D.sub hD _ (by decide) hC
  refine va_calli (va_runV (As := As) (rest := rest) X.1 (hM H.size) (cwV nA X.1.2.2.2.2 (okV_in ok hm) rfl hRm.1 hRm.2.1 ok.2 (by rw [X.2.2.2.2.2.2]; exact hRm.2.2)) ⟨mPre_blind, va_recv X.2.1 hPc hc he, fun U hU hW => ⟨rfl, by rw [hU], by rw [hU]; exact hPc, va_K.moved hW.alike X.2.1, hDc.weaken (fun _ _ _ _ => trivial), X.2.2.2.1.call hS hF hU hW⟩⟩ rfl hn hl.1 hst (lv_room hrm) hdg (by rw [X.2.2.2.2.2.2]; exact hCS)) hS (fun q _ h => hF q h) hF (fun r u2 t H1 locs1 ht hvm hw hB hz1 hk1 hS1 => ?_)
  subst hw
  obtain ⟨hP1, -, hD1⟩ := hB
  rw [ht] at hP1
  obtain ⟨hP2, hD2⟩ := va_join (wr := wdM (gM g) w.2) (w1 := wdX g u2) hP hD _ _ hC hR (by decide) (by decide) hk1 hF hP1 hD1
  exact k H1 locs1 ls hl (va_P.sub hP2 [17, 18, 19, 20, 21, 22, 23, 24, 25, 26, 27, 28, 29, 30, 31, 0, 1, 2, 3, 4, 5, 6, 7, 8, 9, 10, 11, 12, 13, 14, 15, 16] rfl) (va_D.sub hD2 [17, 18, 19, 20, 21, 22, 23, 24, 25, 26, 27, 28, 29, 30, 31, 0, 1, 2, 3, 4, 5, 6, 7, 8, 9, 10, 11, 12, 13, 14, 15, 16] (by decide) rfl) hS1
set_option maxRecDepth 100000 in
theorem l_callM (X : XC K g cc nL own rt R0) {res : Int32 × St} (As rest : List Value) (hM : metI K.l K.D (gM g) (wdM (gM g)) y b n ty rm (.ref a :: As) w.2 res) (ok : okV y C b n (some ty) nA) (hm : Cond.methodLink own index y ∈ TBL) (q0 : Nat) (he : (wdM (gM g) w.2)[q0]? = some (a, .inr (ci, fs))) (hc : vwCl[ci]? = some (C, T, N)) (hn : As.length = nA) (hst : st = As.reverse ++ .ref a :: rest) (hrm : (rest.map fun v => v.category).sum ≤ 8) (hCS : ce ≤ R0.cells ∧ sl ≤ R0.slots) (hRm : rm.cells = 0 ∧ rm.slots = 0 ∧ rm.frames + 1 ≤ R0.frames ∧ 8 + (n + 11) + rm.locals ≤ R0.locals) (hdg : decode cc pc = .ok (.invokevirtual index, 3)) (k : XW K ce sl nL Q (wdL g) (w.1, res.2) (pc + 3) lv (.int res.1 :: rest)) : XW K ce sl nL Q (wdL g) w pc lv st := fun H locs ls hl hP hD hS => by
  have hR : ([0, 1, 2, 3, 4, 5, 6, 7, 8, 9, 10, 11, 12, 13, 14] : List Nat).map (fun i => (wdL g w)[i]?) = (wdX g w.1).map some := rfl
  have hC : ([15, 16, 17, 18, 19, 20, 21, 22, 23, 24, 25, 26, 27, 28, 29, 30, 31] : List Nat).map (fun i => (wdL g w)[i]?) = (wdM (gM g) w.2).map some := rfl
  have hF := va_free (wc := wdM (gM g) w.2) hD hS X.2.2.1 _ hC
  have hPc : va_P K.D vwCl (wdM (gM g) w.2) H := va_P.sub hP [15, 16, 17, 18, 19, 20, 21, 22, 23, 24, 25, 26, 27, 28, 29, 30, 31] rfl
  have hDc : va_D K.A (wdM (gM g) w.2) := va_D.sub hD _ (by decide) hC
  refine va_calli (va_runV (As := As) (rest := rest) X.1 (hM H.size) (cwV nA X.1.2.2.2.2 (okV_in ok hm) rfl hRm.1 hRm.2.1 ok.2 (by rw [X.2.2.2.2.2.2]; exact hRm.2.2)) ⟨mPre_blind, va_recv X.2.1 hPc hc he, fun U hU hW => ⟨rfl, by rw [hU], by rw [hU]; exact hPc, va_K.moved hW.alike X.2.1, hDc.weaken (fun _ _ _ _ => trivial), exOk_gM (X.2.2.2.1.call hS hF hU hW)⟩⟩ rfl hn hl.1 hst (lv_room hrm) hdg (by rw [X.2.2.2.2.2.2]; exact hCS)) hS (fun q _ h => hF q h) hF (fun r u2 t H1 locs1 ht hvm hw hB hz1 hk1 hS1 => ?_)
  subst hw
  obtain ⟨hP1, -, hD1⟩ := hB
  rw [ht] at hP1
  obtain ⟨hP2, hD2⟩ := va_join (wr := wdX g w.1) (w1 := wdM (gM g) u2) hP hD _ _ hC hR (by decide) (by decide) hk1 hF hP1 hD1
  exact k H1 locs1 ls hl hP2 hD2 hS1
end LCALL
section LROWS
variable {σ : Type} {K : Cx} {g : Gw} {cc : ByteArray} {nL : Nat} {own : String} {rt : Option FieldType} {R0 : Room} {Q : State → Prop} {wd : σ → va_W} {u : σ} {pc ce sl : Nat} {lv : List (Nat × Value)} {rest : List Value}
theorem x_sld (X : XC K g cc nL own rt R0) {b L : Nat} {xs : Nat → Int32} (hX : va_X b L xs K.s K.s.heap) (hbl : b < K.s.heap.size) (hbA : ¬ K.A b) {i : Int32} (hin : vp_in i L) (hdg : decode cc pc = .ok (.iaload, 1)) (k : XW K ce sl nL Q wd u (pc + 1) lv (.int (xs i.toNatClampNeg) :: rest)) : XW K ce sl nL Q wd u pc lv (.int i :: .ref b :: rest) := fun H locs ls hl hP hD hS => va_sld X.1.1 X.1.2.1 hX hbl hbA hS hin hdg (k H locs ls hl hP hD hS)
theorem x_slen (X : XC K g cc nL own rt R0) {b L : Nat} {xs : Nat → Int32} (hX : va_X b L xs K.s K.s.heap) (hbl : b < K.s.heap.size) (hbA : ¬ K.A b) (hdg : decode cc pc = .ok (.arraylength, 1)) (k : XW K ce sl nL Q wd u (pc + 1) lv (.int (Int32.ofNat L) :: rest)) : XW K ce sl nL Q wd u pc lv (.ref b :: rest) := fun H locs ls hl hP hD hS => va_slen X.1.1 X.1.2.1 hX hbl hbA hS hdg (k H locs ls hl hP hD hS)
end LROWS

