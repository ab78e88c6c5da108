-- the law: what the skeleton gives
/-! THE CLAIM OUT OF ONE WALK OF THE LAW'S BODY. Your part is whole_start (and what it stands on); all else here is the same for every law, but numbers. -/
def R_law : String := "TrapDeskLaw"
def lw_P (b : Addr) (xs : List Int32) (args : Array Value) (s : State) : Prop := args = #[.ref b] ∧ s.IntsAt b xs ∧ xs.length ≤ 3584 ∧ (Jvm.Cond.and given_1 narrow_1).before args s = true
def lw_Q (_ : Array Value) (s : State) (o : Outcome) (t : State) : Prop := o = .returned (some (.int 1)) ∧ Framed s o t [] 11 1092
def lw_Z (below : List Frame) (a : Array Value) (s : State) : State → Prop := fun t => ∃ o, t.status = .running ∧ Ended t below o ∧ lw_Q a s o t
/-- the law's own end, with 1 on the stack, nothing written that was there before, its room as the claim has it -/
theorem lw_ret {p : Program} {l : Launch} {e : Env} {s : State} {m : MethodId} {below : List Frame} {meth : Method} {c : Code} {b : Nat} (hx : p.tables.exec = Jvm.exec) (hb : c.code = code) (hr : meth.sig.returnType = ret) (hlocks : meth.locks = false) {pc : Nat} {H : Heap} {ls : Array Slot} (hdg : decode code pc = .ok (.ireturn, 1)) : W p l e room_1 s m #[Value.ref b] below meth c H [] 11 1092 (lw_Z below #[Value.ref b] s) (F0 m pc ls [.int 1]) := by
  intro T hT X
  obtain ⟨fs, hret, hrun, hended, hW, hframe⟩ := X.leave (v := some (.int 1)) (hlocks := hlocks) (fun h => by rw [hr] at h; cases h)
  have hmeth' : T.vm.method? m = some meth := X.method'
  refine ⟨T.setFrames fs, ?_, .returned (some (.int 1)), hrun, hended, rfl, ⟨_, rfl⟩, hW, hframe⟩
  jvm_step X.here [X.here.top, hx, hb, hdg, hmeth', hr, ret, narrow_b1]
  (try refine ⟨rfl, ?_⟩); (try refine ⟨rfl, ?_⟩)
  first | (intro acts; rw [hret _ acts rfl rfl rfl]) | rw [hret _ _ rfl rfl rfl]
  exact Steps.refl _
/-- what holds at the law's entry: the machine, the code, the tables' words (any of lw_tbl by 'hts w (by decide +kernel)'), the script of L ints xs at the cell b, what the Statement gives of the start (any of its parts by flat_of_before) -/
def lw_At (p : Program) (s : State) (m : MethodId) (meth : Method) (c : Code) (b L : Nat) (xs : Nat → Int32) : Prop :=
  p.tables.exec = Jvm.exec ∧ c.code = code ∧ meth.sig.returnType = ret ∧ c.maxLocals = 4 ∧ s.vm.findClass R_law = some m.cls ∧ (∀ w ∈ lw_tbl, w.before #[Value.ref b] s = true) ∧ va_X b L xs s s.heap ∧ b < s.heap.size ∧ meth.locks = false ∧ (Jvm.Cond.and given_1 narrow_1).before #[Value.ref b] s = true
theorem d_Law_law_0 : decode code 0 = .ok (.new 7, 3) := by decide +kernel
theorem d_Law_law_3 : decode code 3 = .ok (.dup, 1) := by decide +kernel
theorem d_Law_law_4 : decode code 4 = .ok (.invokespecial 9, 3) := by decide +kernel
theorem d_Law_law_7 : decode code 7 = .ok (.astore_n 1, 1) := by decide +kernel
theorem d_Law_law_8 : decode code 8 = .ok (.new 10, 3) := by decide +kernel
theorem d_Law_law_11 : decode code 11 = .ok (.dup, 1) := by decide +kernel
theorem d_Law_law_12 : decode code 12 = .ok (.invokespecial 12, 3) := by decide +kernel
theorem d_Law_law_15 : decode code 15 = .ok (.astore_n 2, 1) := by decide +kernel
theorem d_Law_law_16 : decode code 16 = .ok (.iconst 0, 1) := by decide +kernel
theorem d_Law_law_17 : decode code 17 = .ok (.istore_n 3, 1) := by decide +kernel
theorem d_Law_law_18 : decode code 18 = .ok (.iload_n 3, 1) := by decide +kernel
theorem d_Law_law_19 : decode code 19 = .ok (.aload_n 0, 1) := by decide +kernel
theorem d_Law_law_20 : decode code 20 = .ok (.arraylength, 1) := by decide +kernel
theorem d_Law_law_21 : decode code 21 = .ok (.bipush 7, 2) := by decide +kernel
theorem d_Law_law_23 : decode code 23 = .ok (.isub, 1) := by decide +kernel
theorem d_Law_law_24 : decode code 24 = .ok (.if_icmp .gt 557, 3) := by decide +kernel
theorem d_Law_law_27 : decode code 27 = .ok (.aload_n 0, 1) := by decide +kernel
theorem d_Law_law_28 : decode code 28 = .ok (.iload_n 3, 1) := by decide +kernel
theorem d_Law_law_29 : decode code 29 = .ok (.iaload, 1) := by decide +kernel
theorem d_Law_law_30 : decode code 30 = .ok (.bipush 15, 2) := by decide +kernel
theorem d_Law_law_32 : decode code 32 = .ok (.iand, 1) := by decide +kernel
theorem d_Law_law_33 : decode code 33 = .ok (.tableswitch 542 0 13 #[71, 82, 105, 128, 161, 184, 238, 277, 310, 333, 356, 483, 496, 519], 71) := by decide +kernel
theorem d_Law_law_104 : decode code 104 = .ok (.aload_n 1, 1) := by decide +kernel
theorem d_Law_law_105 : decode code 105 = .ok (.invokevirtual 13, 3) := by decide +kernel
theorem d_Law_law_108 : decode code 108 = .ok (.aload_n 2, 1) := by decide +kernel
theorem d_Law_law_109 : decode code 109 = .ok (.invokevirtual 16, 3) := by decide +kernel
theorem d_Law_law_112 : decode code 112 = .ok (.goto 463, 3) := by decide +kernel
theorem d_Law_law_115 : decode code 115 = .ok (.aload_n 1, 1) := by decide +kernel
theorem d_Law_law_116 : decode code 116 = .ok (.aload_n 0, 1) := by decide +kernel
theorem d_Law_law_117 : decode code 117 = .ok (.iload_n 3, 1) := by decide +kernel
theorem d_Law_law_118 : decode code 118 = .ok (.iconst 1, 1) := by decide +kernel
theorem d_Law_law_119 : decode code 119 = .ok (.iadd, 1) := by decide +kernel
theorem d_Law_law_120 : decode code 120 = .ok (.iaload, 1) := by decide +kernel
theorem d_Law_law_121 : decode code 121 = .ok (.invokevirtual 17, 3) := by decide +kernel
theorem d_Law_law_124 : decode code 124 = .ok (.aload_n 2, 1) := by decide +kernel
theorem d_Law_law_125 : decode code 125 = .ok (.aload_n 0, 1) := by decide +kernel
theorem d_Law_law_126 : decode code 126 = .ok (.iload_n 3, 1) := by decide +kernel
theorem d_Law_law_127 : decode code 127 = .ok (.iconst 1, 1) := by decide +kernel
theorem d_Law_law_128 : decode code 128 = .ok (.iadd, 1) := by decide +kernel
theorem d_Law_law_129 : decode code 129 = .ok (.iaload, 1) := by decide +kernel
theorem d_Law_law_130 : decode code 130 = .ok (.invokevirtual 21, 3) := by decide +kernel
theorem d_Law_law_133 : decode code 133 = .ok (.if_icmp .eq 442, 3) := by decide +kernel
theorem d_Law_law_136 : decode code 136 = .ok (.iconst 0, 1) := by decide +kernel
theorem d_Law_law_137 : decode code 137 = .ok (.ireturn, 1) := by decide +kernel
theorem d_Law_law_138 : decode code 138 = .ok (.aload_n 1, 1) := by decide +kernel
theorem d_Law_law_139 : decode code 139 = .ok (.aload_n 0, 1) := by decide +kernel
theorem d_Law_law_140 : decode code 140 = .ok (.iload_n 3, 1) := by decide +kernel
theorem d_Law_law_141 : decode code 141 = .ok (.iconst 1, 1) := by decide +kernel
theorem d_Law_law_142 : decode code 142 = .ok (.iadd, 1) := by decide +kernel
theorem d_Law_law_143 : decode code 143 = .ok (.iaload, 1) := by decide +kernel
theorem d_Law_law_144 : decode code 144 = .ok (.invokevirtual 22, 3) := by decide +kernel
theorem d_Law_law_147 : decode code 147 = .ok (.aload_n 2, 1) := by decide +kernel
theorem d_Law_law_148 : decode code 148 = .ok (.aload_n 0, 1) := by decide +kernel
theorem d_Law_law_149 : decode code 149 = .ok (.iload_n 3, 1) := by decide +kernel
theorem d_Law_law_150 : decode code 150 = .ok (.iconst 1, 1) := by decide +kernel
theorem d_Law_law_151 : decode code 151 = .ok (.iadd, 1) := by decide +kernel
theorem d_Law_law_152 : decode code 152 = .ok (.iaload, 1) := by decide +kernel
theorem d_Law_law_153 : decode code 153 = .ok (.invokevirtual 25, 3) := by decide +kernel
theorem d_Law_law_156 : decode code 156 = .ok (.if_icmp .eq 419, 3) := by decide +kernel
theorem d_Law_law_159 : decode code 159 = .ok (.iconst 0, 1) := by decide +kernel
theorem d_Law_law_160 : decode code 160 = .ok (.ireturn, 1) := by decide +kernel
theorem d_Law_law_161 : decode code 161 = .ok (.aload_n 1, 1) := by decide +kernel
theorem d_Law_law_162 : decode code 162 = .ok (.aload_n 0, 1) := by decide +kernel
theorem d_Law_law_163 : decode code 163 = .ok (.iload_n 3, 1) := by decide +kernel
theorem d_Law_law_164 : decode code 164 = .ok (.iconst 1, 1) := by decide +kernel
theorem d_Law_law_165 : decode code 165 = .ok (.iadd, 1) := by decide +kernel
theorem d_Law_law_166 : decode code 166 = .ok (.iaload, 1) := by decide +kernel
theorem d_Law_law_167 : decode code 167 = .ok (.aload_n 0, 1) := by decide +kernel
theorem d_Law_law_168 : decode code 168 = .ok (.iload_n 3, 1) := by decide +kernel
theorem d_Law_law_169 : decode code 169 = .ok (.iconst 2, 1) := by decide +kernel
theorem d_Law_law_170 : decode code 170 = .ok (.iadd, 1) := by decide +kernel
theorem d_Law_law_171 : decode code 171 = .ok (.iaload, 1) := by decide +kernel
theorem d_Law_law_172 : decode code 172 = .ok (.invokevirtual 26, 3) := by decide +kernel
theorem d_Law_law_175 : decode code 175 = .ok (.aload_n 2, 1) := by decide +kernel
theorem d_Law_law_176 : decode code 176 = .ok (.aload_n 0, 1) := by decide +kernel
theorem d_Law_law_177 : decode code 177 = .ok (.iload_n 3, 1) := by decide +kernel
theorem d_Law_law_178 : decode code 178 = .ok (.iconst 1, 1) := by decide +kernel
theorem d_Law_law_179 : decode code 179 = .ok (.iadd, 1) := by decide +kernel
theorem d_Law_law_180 : decode code 180 = .ok (.iaload, 1) := by decide +kernel
theorem d_Law_law_181 : decode code 181 = .ok (.aload_n 0, 1) := by decide +kernel
theorem d_Law_law_182 : decode code 182 = .ok (.iload_n 3, 1) := by decide +kernel
theorem d_Law_law_183 : decode code 183 = .ok (.iconst 2, 1) := by decide +kernel
theorem d_Law_law_184 : decode code 184 = .ok (.iadd, 1) := by decide +kernel
theorem d_Law_law_185 : decode code 185 = .ok (.iaload, 1) := by decide +kernel
theorem d_Law_law_186 : decode code 186 = .ok (.invokevirtual 30, 3) := by decide +kernel
theorem d_Law_law_189 : decode code 189 = .ok (.if_icmp .eq 386, 3) := by decide +kernel
theorem d_Law_law_192 : decode code 192 = .ok (.iconst 0, 1) := by decide +kernel
theorem d_Law_law_193 : decode code 193 = .ok (.ireturn, 1) := by decide +kernel
theorem d_Law_law_194 : decode code 194 = .ok (.aload_n 1, 1) := by decide +kernel
theorem d_Law_law_195 : decode code 195 = .ok (.aload_n 0, 1) := by decide +kernel
theorem d_Law_law_196 : decode code 196 = .ok (.iload_n 3, 1) := by decide +kernel
theorem d_Law_law_197 : decode code 197 = .ok (.iconst 1, 1) := by decide +kernel
theorem d_Law_law_198 : decode code 198 = .ok (.iadd, 1) := by decide +kernel
theorem d_Law_law_199 : decode code 199 = .ok (.iaload, 1) := by decide +kernel
theorem d_Law_law_200 : decode code 200 = .ok (.invokevirtual 31, 3) := by decide +kernel
theorem d_Law_law_203 : decode code 203 = .ok (.aload_n 2, 1) := by decide +kernel
theorem d_Law_law_204 : decode code 204 = .ok (.aload_n 0, 1) := by decide +kernel
theorem d_Law_law_205 : decode code 205 = .ok (.iload_n 3, 1) := by decide +kernel
theorem d_Law_law_206 : decode code 206 = .ok (.iconst 1, 1) := by decide +kernel
theorem d_Law_law_207 : decode code 207 = .ok (.iadd, 1) := by decide +kernel
theorem d_Law_law_208 : decode code 208 = .ok (.iaload, 1) := by decide +kernel
theorem d_Law_law_209 : decode code 209 = .ok (.invokevirtual 34, 3) := by decide +kernel
theorem d_Law_law_212 : decode code 212 = .ok (.if_icmp .eq 363, 3) := by decide +kernel
theorem d_Law_law_215 : decode code 215 = .ok (.iconst 0, 1) := by decide +kernel
theorem d_Law_law_216 : decode code 216 = .ok (.ireturn, 1) := by decide +kernel
theorem d_Law_law_217 : decode code 217 = .ok (.aload_n 1, 1) := by decide +kernel
theorem d_Law_law_218 : decode code 218 = .ok (.aload_n 0, 1) := by decide +kernel
theorem d_Law_law_219 : decode code 219 = .ok (.iload_n 3, 1) := by decide +kernel
theorem d_Law_law_220 : decode code 220 = .ok (.iconst 1, 1) := by decide +kernel
theorem d_Law_law_221 : decode code 221 = .ok (.iadd, 1) := by decide +kernel
theorem d_Law_law_222 : decode code 222 = .ok (.iaload, 1) := by decide +kernel
theorem d_Law_law_223 : decode code 223 = .ok (.i2l, 1) := by decide +kernel
theorem d_Law_law_224 : decode code 224 = .ok (.bipush 32, 2) := by decide +kernel
theorem d_Law_law_226 : decode code 226 = .ok (.lshl, 1) := by decide +kernel
theorem d_Law_law_227 : decode code 227 = .ok (.aload_n 0, 1) := by decide +kernel
theorem d_Law_law_228 : decode code 228 = .ok (.iload_n 3, 1) := by decide +kernel
theorem d_Law_law_229 : decode code 229 = .ok (.iconst 2, 1) := by decide +kernel
theorem d_Law_law_230 : decode code 230 = .ok (.iadd, 1) := by decide +kernel
theorem d_Law_law_231 : decode code 231 = .ok (.iaload, 1) := by decide +kernel
theorem d_Law_law_232 : decode code 232 = .ok (.i2l, 1) := by decide +kernel
theorem d_Law_law_233 : decode code 233 = .ok (.ldc2_w 35, 3) := by decide +kernel
theorem d_Law_law_236 : decode code 236 = .ok (.land, 1) := by decide +kernel
theorem d_Law_law_237 : decode code 237 = .ok (.lor, 1) := by decide +kernel
theorem d_Law_law_238 : decode code 238 = .ok (.invokevirtual 37, 3) := by decide +kernel
theorem d_Law_law_241 : decode code 241 = .ok (.aload_n 2, 1) := by decide +kernel
theorem d_Law_law_242 : decode code 242 = .ok (.aload_n 0, 1) := by decide +kernel
theorem d_Law_law_243 : decode code 243 = .ok (.iload_n 3, 1) := by decide +kernel
theorem d_Law_law_244 : decode code 244 = .ok (.iconst 1, 1) := by decide +kernel
theorem d_Law_law_245 : decode code 245 = .ok (.iadd, 1) := by decide +kernel
theorem d_Law_law_246 : decode code 246 = .ok (.iaload, 1) := by decide +kernel
theorem d_Law_law_247 : decode code 247 = .ok (.i2l, 1) := by decide +kernel
theorem d_Law_law_248 : decode code 248 = .ok (.bipush 32, 2) := by decide +kernel
theorem d_Law_law_250 : decode code 250 = .ok (.lshl, 1) := by decide +kernel
theorem d_Law_law_251 : decode code 251 = .ok (.aload_n 0, 1) := by decide +kernel
theorem d_Law_law_252 : decode code 252 = .ok (.iload_n 3, 1) := by decide +kernel
theorem d_Law_law_253 : decode code 253 = .ok (.iconst 2, 1) := by decide +kernel
theorem d_Law_law_254 : decode code 254 = .ok (.iadd, 1) := by decide +kernel
theorem d_Law_law_255 : decode code 255 = .ok (.iaload, 1) := by decide +kernel
theorem d_Law_law_256 : decode code 256 = .ok (.i2l, 1) := by decide +kernel
theorem d_Law_law_257 : decode code 257 = .ok (.ldc2_w 35, 3) := by decide +kernel
theorem d_Law_law_260 : decode code 260 = .ok (.land, 1) := by decide +kernel
theorem d_Law_law_261 : decode code 261 = .ok (.lor, 1) := by decide +kernel
theorem d_Law_law_262 : decode code 262 = .ok (.invokevirtual 41, 3) := by decide +kernel
theorem d_Law_law_265 : decode code 265 = .ok (.lcmp, 1) := by decide +kernel
theorem d_Law_law_266 : decode code 266 = .ok (.ifCond .eq 309, 3) := by decide +kernel
theorem d_Law_law_269 : decode code 269 = .ok (.iconst 0, 1) := by decide +kernel
theorem d_Law_law_270 : decode code 270 = .ok (.ireturn, 1) := by decide +kernel
theorem d_Law_law_271 : decode code 271 = .ok (.aload_n 1, 1) := by decide +kernel
theorem d_Law_law_272 : decode code 272 = .ok (.aload_n 0, 1) := by decide +kernel
theorem d_Law_law_273 : decode code 273 = .ok (.iload_n 3, 1) := by decide +kernel
theorem d_Law_law_274 : decode code 274 = .ok (.iconst 1, 1) := by decide +kernel
theorem d_Law_law_275 : decode code 275 = .ok (.iadd, 1) := by decide +kernel
theorem d_Law_law_276 : decode code 276 = .ok (.iaload, 1) := by decide +kernel
theorem d_Law_law_277 : decode code 277 = .ok (.ifCond .eq 7, 3) := by decide +kernel
theorem d_Law_law_280 : decode code 280 = .ok (.iconst 1, 1) := by decide +kernel
theorem d_Law_law_281 : decode code 281 = .ok (.goto 4, 3) := by decide +kernel
theorem d_Law_law_284 : decode code 284 = .ok (.iconst 0, 1) := by decide +kernel
theorem d_Law_law_285 : decode code 285 = .ok (.invokevirtual 42, 3) := by decide +kernel
theorem d_Law_law_288 : decode code 288 = .ok (.aload_n 2, 1) := by decide +kernel
theorem d_Law_law_289 : decode code 289 = .ok (.aload_n 0, 1) := by decide +kernel
theorem d_Law_law_290 : decode code 290 = .ok (.iload_n 3, 1) := by decide +kernel
theorem d_Law_law_291 : decode code 291 = .ok (.iconst 1, 1) := by decide +kernel
theorem d_Law_law_292 : decode code 292 = .ok (.iadd, 1) := by decide +kernel
theorem d_Law_law_293 : decode code 293 = .ok (.iaload, 1) := by decide +kernel
theorem d_Law_law_294 : decode code 294 = .ok (.ifCond .eq 7, 3) := by decide +kernel
theorem d_Law_law_297 : decode code 297 = .ok (.iconst 1, 1) := by decide +kernel
theorem d_Law_law_298 : decode code 298 = .ok (.goto 4, 3) := by decide +kernel
theorem d_Law_law_301 : decode code 301 = .ok (.iconst 0, 1) := by decide +kernel
theorem d_Law_law_302 : decode code 302 = .ok (.invokevirtual 46, 3) := by decide +kernel
theorem d_Law_law_305 : decode code 305 = .ok (.if_icmp .eq 270, 3) := by decide +kernel
theorem d_Law_law_308 : decode code 308 = .ok (.iconst 0, 1) := by decide +kernel
theorem d_Law_law_309 : decode code 309 = .ok (.ireturn, 1) := by decide +kernel
theorem d_Law_law_310 : decode code 310 = .ok (.aload_n 1, 1) := by decide +kernel
theorem d_Law_law_311 : decode code 311 = .ok (.aload_n 0, 1) := by decide +kernel
theorem d_Law_law_312 : decode code 312 = .ok (.iload_n 3, 1) := by decide +kernel
theorem d_Law_law_313 : decode code 313 = .ok (.iconst 1, 1) := by decide +kernel
theorem d_Law_law_314 : decode code 314 = .ok (.iadd, 1) := by decide +kernel
theorem d_Law_law_315 : decode code 315 = .ok (.iaload, 1) := by decide +kernel
theorem d_Law_law_316 : decode code 316 = .ok (.aload_n 0, 1) := by decide +kernel
theorem d_Law_law_317 : decode code 317 = .ok (.iload_n 3, 1) := by decide +kernel
theorem d_Law_law_318 : decode code 318 = .ok (.iconst 2, 1) := by decide +kernel
theorem d_Law_law_319 : decode code 319 = .ok (.iadd, 1) := by decide +kernel
theorem d_Law_law_320 : decode code 320 = .ok (.iaload, 1) := by decide +kernel
theorem d_Law_law_321 : decode code 321 = .ok (.invokevirtual 47, 3) := by decide +kernel
theorem d_Law_law_324 : decode code 324 = .ok (.aload_n 2, 1) := by decide +kernel
theorem d_Law_law_325 : decode code 325 = .ok (.aload_n 0, 1) := by decide +kernel
theorem d_Law_law_326 : decode code 326 = .ok (.iload_n 3, 1) := by decide +kernel
theorem d_Law_law_327 : decode code 327 = .ok (.iconst 1, 1) := by decide +kernel
theorem d_Law_law_328 : decode code 328 = .ok (.iadd, 1) := by decide +kernel
theorem d_Law_law_329 : decode code 329 = .ok (.iaload, 1) := by decide +kernel
theorem d_Law_law_330 : decode code 330 = .ok (.aload_n 0, 1) := by decide +kernel
theorem d_Law_law_331 : decode code 331 = .ok (.iload_n 3, 1) := by decide +kernel
theorem d_Law_law_332 : decode code 332 = .ok (.iconst 2, 1) := by decide +kernel
theorem d_Law_law_333 : decode code 333 = .ok (.iadd, 1) := by decide +kernel
theorem d_Law_law_334 : decode code 334 = .ok (.iaload, 1) := by decide +kernel
theorem d_Law_law_335 : decode code 335 = .ok (.invokevirtual 50, 3) := by decide +kernel
theorem d_Law_law_338 : decode code 338 = .ok (.if_icmp .eq 237, 3) := by decide +kernel
theorem d_Law_law_341 : decode code 341 = .ok (.iconst 0, 1) := by decide +kernel
theorem d_Law_law_342 : decode code 342 = .ok (.ireturn, 1) := by decide +kernel
theorem d_Law_law_343 : decode code 343 = .ok (.aload_n 1, 1) := by decide +kernel
theorem d_Law_law_344 : decode code 344 = .ok (.aload_n 0, 1) := by decide +kernel
theorem d_Law_law_345 : decode code 345 = .ok (.iload_n 3, 1) := by decide +kernel
theorem d_Law_law_346 : decode code 346 = .ok (.iconst 1, 1) := by decide +kernel
theorem d_Law_law_347 : decode code 347 = .ok (.iadd, 1) := by decide +kernel
theorem d_Law_law_348 : decode code 348 = .ok (.iaload, 1) := by decide +kernel
theorem d_Law_law_349 : decode code 349 = .ok (.invokevirtual 51, 3) := by decide +kernel
theorem d_Law_law_352 : decode code 352 = .ok (.aload_n 2, 1) := by decide +kernel
theorem d_Law_law_353 : decode code 353 = .ok (.aload_n 0, 1) := by decide +kernel
theorem d_Law_law_354 : decode code 354 = .ok (.iload_n 3, 1) := by decide +kernel
theorem d_Law_law_355 : decode code 355 = .ok (.iconst 1, 1) := by decide +kernel
theorem d_Law_law_356 : decode code 356 = .ok (.iadd, 1) := by decide +kernel
theorem d_Law_law_357 : decode code 357 = .ok (.iaload, 1) := by decide +kernel
theorem d_Law_law_358 : decode code 358 = .ok (.invokevirtual 54, 3) := by decide +kernel
theorem d_Law_law_361 : decode code 361 = .ok (.if_icmp .eq 214, 3) := by decide +kernel
theorem d_Law_law_364 : decode code 364 = .ok (.iconst 0, 1) := by decide +kernel
theorem d_Law_law_365 : decode code 365 = .ok (.ireturn, 1) := by decide +kernel
theorem d_Law_law_366 : decode code 366 = .ok (.aload_n 1, 1) := by decide +kernel
theorem d_Law_law_367 : decode code 367 = .ok (.aload_n 0, 1) := by decide +kernel
theorem d_Law_law_368 : decode code 368 = .ok (.iload_n 3, 1) := by decide +kernel
theorem d_Law_law_369 : decode code 369 = .ok (.iconst 1, 1) := by decide +kernel
theorem d_Law_law_370 : decode code 370 = .ok (.iadd, 1) := by decide +kernel
theorem d_Law_law_371 : decode code 371 = .ok (.iaload, 1) := by decide +kernel
theorem d_Law_law_372 : decode code 372 = .ok (.invokevirtual 55, 3) := by decide +kernel
theorem d_Law_law_375 : decode code 375 = .ok (.aload_n 2, 1) := by decide +kernel
theorem d_Law_law_376 : decode code 376 = .ok (.aload_n 0, 1) := by decide +kernel
theorem d_Law_law_377 : decode code 377 = .ok (.iload_n 3, 1) := by decide +kernel
theorem d_Law_law_378 : decode code 378 = .ok (.iconst 1, 1) := by decide +kernel
theorem d_Law_law_379 : decode code 379 = .ok (.iadd, 1) := by decide +kernel
theorem d_Law_law_380 : decode code 380 = .ok (.iaload, 1) := by decide +kernel
theorem d_Law_law_381 : decode code 381 = .ok (.invokevirtual 58, 3) := by decide +kernel
theorem d_Law_law_384 : decode code 384 = .ok (.if_icmp .eq 191, 3) := by decide +kernel
theorem d_Law_law_387 : decode code 387 = .ok (.iconst 0, 1) := by decide +kernel
theorem d_Law_law_388 : decode code 388 = .ok (.ireturn, 1) := by decide +kernel
theorem d_Law_law_389 : decode code 389 = .ok (.aload_n 1, 1) := by decide +kernel
theorem d_Law_law_390 : decode code 390 = .ok (.aload_n 0, 1) := by decide +kernel
theorem d_Law_law_391 : decode code 391 = .ok (.iload_n 3, 1) := by decide +kernel
theorem d_Law_law_392 : decode code 392 = .ok (.iconst 1, 1) := by decide +kernel
theorem d_Law_law_393 : decode code 393 = .ok (.iadd, 1) := by decide +kernel
theorem d_Law_law_394 : decode code 394 = .ok (.iaload, 1) := by decide +kernel
theorem d_Law_law_395 : decode code 395 = .ok (.aload_n 0, 1) := by decide +kernel
theorem d_Law_law_396 : decode code 396 = .ok (.iload_n 3, 1) := by decide +kernel
theorem d_Law_law_397 : decode code 397 = .ok (.iconst 2, 1) := by decide +kernel
theorem d_Law_law_398 : decode code 398 = .ok (.iadd, 1) := by decide +kernel
theorem d_Law_law_399 : decode code 399 = .ok (.iaload, 1) := by decide +kernel
theorem d_Law_law_400 : decode code 400 = .ok (.aload_n 0, 1) := by decide +kernel
theorem d_Law_law_401 : decode code 401 = .ok (.iload_n 3, 1) := by decide +kernel
theorem d_Law_law_402 : decode code 402 = .ok (.iconst 3, 1) := by decide +kernel
theorem d_Law_law_403 : decode code 403 = .ok (.iadd, 1) := by decide +kernel
theorem d_Law_law_404 : decode code 404 = .ok (.iaload, 1) := by decide +kernel
theorem d_Law_law_405 : decode code 405 = .ok (.ifCond .eq 7, 3) := by decide +kernel
theorem d_Law_law_408 : decode code 408 = .ok (.iconst 1, 1) := by decide +kernel
theorem d_Law_law_409 : decode code 409 = .ok (.goto 4, 3) := by decide +kernel
theorem d_Law_law_412 : decode code 412 = .ok (.iconst 0, 1) := by decide +kernel
theorem d_Law_law_413 : decode code 413 = .ok (.aload_n 0, 1) := by decide +kernel
theorem d_Law_law_414 : decode code 414 = .ok (.iload_n 3, 1) := by decide +kernel
theorem d_Law_law_415 : decode code 415 = .ok (.iconst 4, 1) := by decide +kernel
theorem d_Law_law_416 : decode code 416 = .ok (.iadd, 1) := by decide +kernel
theorem d_Law_law_417 : decode code 417 = .ok (.iaload, 1) := by decide +kernel
theorem d_Law_law_418 : decode code 418 = .ok (.i2l, 1) := by decide +kernel
theorem d_Law_law_419 : decode code 419 = .ok (.bipush 32, 2) := by decide +kernel
theorem d_Law_law_421 : decode code 421 = .ok (.lshl, 1) := by decide +kernel
theorem d_Law_law_422 : decode code 422 = .ok (.aload_n 0, 1) := by decide +kernel
theorem d_Law_law_423 : decode code 423 = .ok (.iload_n 3, 1) := by decide +kernel
theorem d_Law_law_424 : decode code 424 = .ok (.iconst 5, 1) := by decide +kernel
theorem d_Law_law_425 : decode code 425 = .ok (.iadd, 1) := by decide +kernel
theorem d_Law_law_426 : decode code 426 = .ok (.iaload, 1) := by decide +kernel
theorem d_Law_law_427 : decode code 427 = .ok (.i2l, 1) := by decide +kernel
theorem d_Law_law_428 : decode code 428 = .ok (.ldc2_w 35, 3) := by decide +kernel
theorem d_Law_law_431 : decode code 431 = .ok (.land, 1) := by decide +kernel
theorem d_Law_law_432 : decode code 432 = .ok (.lor, 1) := by decide +kernel
theorem d_Law_law_433 : decode code 433 = .ok (.aload_n 0, 1) := by decide +kernel
theorem d_Law_law_434 : decode code 434 = .ok (.iload_n 3, 1) := by decide +kernel
theorem d_Law_law_435 : decode code 435 = .ok (.bipush 6, 2) := by decide +kernel
theorem d_Law_law_437 : decode code 437 = .ok (.iadd, 1) := by decide +kernel
theorem d_Law_law_438 : decode code 438 = .ok (.iaload, 1) := by decide +kernel
theorem d_Law_law_439 : decode code 439 = .ok (.ifCond .eq 7, 3) := by decide +kernel
theorem d_Law_law_442 : decode code 442 = .ok (.iconst 1, 1) := by decide +kernel
theorem d_Law_law_443 : decode code 443 = .ok (.goto 4, 3) := by decide +kernel
theorem d_Law_law_446 : decode code 446 = .ok (.iconst 0, 1) := by decide +kernel
theorem d_Law_law_447 : decode code 447 = .ok (.invokevirtual 59, 3) := by decide +kernel
theorem d_Law_law_450 : decode code 450 = .ok (.aload_n 2, 1) := by decide +kernel
theorem d_Law_law_451 : decode code 451 = .ok (.aload_n 0, 1) := by decide +kernel
theorem d_Law_law_452 : decode code 452 = .ok (.iload_n 3, 1) := by decide +kernel
theorem d_Law_law_453 : decode code 453 = .ok (.iconst 1, 1) := by decide +kernel
theorem d_Law_law_454 : decode code 454 = .ok (.iadd, 1) := by decide +kernel
theorem d_Law_law_455 : decode code 455 = .ok (.iaload, 1) := by decide +kernel
theorem d_Law_law_456 : decode code 456 = .ok (.aload_n 0, 1) := by decide +kernel
theorem d_Law_law_457 : decode code 457 = .ok (.iload_n 3, 1) := by decide +kernel
theorem d_Law_law_458 : decode code 458 = .ok (.iconst 2, 1) := by decide +kernel
theorem d_Law_law_459 : decode code 459 = .ok (.iadd, 1) := by decide +kernel
theorem d_Law_law_460 : decode code 460 = .ok (.iaload, 1) := by decide +kernel
theorem d_Law_law_461 : decode code 461 = .ok (.aload_n 0, 1) := by decide +kernel
theorem d_Law_law_462 : decode code 462 = .ok (.iload_n 3, 1) := by decide +kernel
theorem d_Law_law_463 : decode code 463 = .ok (.iconst 3, 1) := by decide +kernel
theorem d_Law_law_464 : decode code 464 = .ok (.iadd, 1) := by decide +kernel
theorem d_Law_law_465 : decode code 465 = .ok (.iaload, 1) := by decide +kernel
theorem d_Law_law_466 : decode code 466 = .ok (.ifCond .eq 7, 3) := by decide +kernel
theorem d_Law_law_469 : decode code 469 = .ok (.iconst 1, 1) := by decide +kernel
theorem d_Law_law_470 : decode code 470 = .ok (.goto 4, 3) := by decide +kernel
theorem d_Law_law_473 : decode code 473 = .ok (.iconst 0, 1) := by decide +kernel
theorem d_Law_law_474 : decode code 474 = .ok (.aload_n 0, 1) := by decide +kernel
theorem d_Law_law_475 : decode code 475 = .ok (.iload_n 3, 1) := by decide +kernel
theorem d_Law_law_476 : decode code 476 = .ok (.iconst 4, 1) := by decide +kernel
theorem d_Law_law_477 : decode code 477 = .ok (.iadd, 1) := by decide +kernel
theorem d_Law_law_478 : decode code 478 = .ok (.iaload, 1) := by decide +kernel
theorem d_Law_law_479 : decode code 479 = .ok (.i2l, 1) := by decide +kernel
theorem d_Law_law_480 : decode code 480 = .ok (.bipush 32, 2) := by decide +kernel
theorem d_Law_law_482 : decode code 482 = .ok (.lshl, 1) := by decide +kernel
theorem d_Law_law_483 : decode code 483 = .ok (.aload_n 0, 1) := by decide +kernel
theorem d_Law_law_484 : decode code 484 = .ok (.iload_n 3, 1) := by decide +kernel
theorem d_Law_law_485 : decode code 485 = .ok (.iconst 5, 1) := by decide +kernel
theorem d_Law_law_486 : decode code 486 = .ok (.iadd, 1) := by decide +kernel
theorem d_Law_law_487 : decode code 487 = .ok (.iaload, 1) := by decide +kernel
theorem d_Law_law_488 : decode code 488 = .ok (.i2l, 1) := by decide +kernel
theorem d_Law_law_489 : decode code 489 = .ok (.ldc2_w 35, 3) := by decide +kernel
theorem d_Law_law_492 : decode code 492 = .ok (.land, 1) := by decide +kernel
theorem d_Law_law_493 : decode code 493 = .ok (.lor, 1) := by decide +kernel
theorem d_Law_law_494 : decode code 494 = .ok (.aload_n 0, 1) := by decide +kernel
theorem d_Law_law_495 : decode code 495 = .ok (.iload_n 3, 1) := by decide +kernel
theorem d_Law_law_496 : decode code 496 = .ok (.bipush 6, 2) := by decide +kernel
theorem d_Law_law_498 : decode code 498 = .ok (.iadd, 1) := by decide +kernel
theorem d_Law_law_499 : decode code 499 = .ok (.iaload, 1) := by decide +kernel
theorem d_Law_law_500 : decode code 500 = .ok (.ifCond .eq 7, 3) := by decide +kernel
theorem d_Law_law_503 : decode code 503 = .ok (.iconst 1, 1) := by decide +kernel
theorem d_Law_law_504 : decode code 504 = .ok (.goto 4, 3) := by decide +kernel
theorem d_Law_law_507 : decode code 507 = .ok (.iconst 0, 1) := by decide +kernel
theorem d_Law_law_508 : decode code 508 = .ok (.invokevirtual 63, 3) := by decide +kernel
theorem d_Law_law_511 : decode code 511 = .ok (.if_icmp .eq 64, 3) := by decide +kernel
theorem d_Law_law_514 : decode code 514 = .ok (.iconst 0, 1) := by decide +kernel
theorem d_Law_law_515 : decode code 515 = .ok (.ireturn, 1) := by decide +kernel
theorem d_Law_law_516 : decode code 516 = .ok (.aload_n 1, 1) := by decide +kernel
theorem d_Law_law_517 : decode code 517 = .ok (.invokevirtual 64, 3) := by decide +kernel
theorem d_Law_law_520 : decode code 520 = .ok (.aload_n 2, 1) := by decide +kernel
theorem d_Law_law_521 : decode code 521 = .ok (.invokevirtual 68, 3) := by decide +kernel
theorem d_Law_law_524 : decode code 524 = .ok (.if_icmp .eq 51, 3) := by decide +kernel
theorem d_Law_law_527 : decode code 527 = .ok (.iconst 0, 1) := by decide +kernel
theorem d_Law_law_528 : decode code 528 = .ok (.ireturn, 1) := by decide +kernel
theorem d_Law_law_529 : decode code 529 = .ok (.aload_n 1, 1) := by decide +kernel
theorem d_Law_law_530 : decode code 530 = .ok (.aload_n 0, 1) := by decide +kernel
theorem d_Law_law_531 : decode code 531 = .ok (.iload_n 3, 1) := by decide +kernel
theorem d_Law_law_532 : decode code 532 = .ok (.iconst 1, 1) := by decide +kernel
theorem d_Law_law_533 : decode code 533 = .ok (.iadd, 1) := by decide +kernel
theorem d_Law_law_534 : decode code 534 = .ok (.iaload, 1) := by decide +kernel
theorem d_Law_law_535 : decode code 535 = .ok (.invokevirtual 69, 3) := by decide +kernel
theorem d_Law_law_538 : decode code 538 = .ok (.aload_n 2, 1) := by decide +kernel
theorem d_Law_law_539 : decode code 539 = .ok (.aload_n 0, 1) := by decide +kernel
theorem d_Law_law_540 : decode code 540 = .ok (.iload_n 3, 1) := by decide +kernel
theorem d_Law_law_541 : decode code 541 = .ok (.iconst 1, 1) := by decide +kernel
theorem d_Law_law_542 : decode code 542 = .ok (.iadd, 1) := by decide +kernel
theorem d_Law_law_543 : decode code 543 = .ok (.iaload, 1) := by decide +kernel
theorem d_Law_law_544 : decode code 544 = .ok (.invokevirtual 72, 3) := by decide +kernel
theorem d_Law_law_547 : decode code 547 = .ok (.if_icmp .eq 28, 3) := by decide +kernel
theorem d_Law_law_550 : decode code 550 = .ok (.iconst 0, 1) := by decide +kernel
theorem d_Law_law_551 : decode code 551 = .ok (.ireturn, 1) := by decide +kernel
theorem d_Law_law_552 : decode code 552 = .ok (.aload_n 1, 1) := by decide +kernel
theorem d_Law_law_553 : decode code 553 = .ok (.aload_n 0, 1) := by decide +kernel
theorem d_Law_law_554 : decode code 554 = .ok (.iload_n 3, 1) := by decide +kernel
theorem d_Law_law_555 : decode code 555 = .ok (.iconst 1, 1) := by decide +kernel
theorem d_Law_law_556 : decode code 556 = .ok (.iadd, 1) := by decide +kernel
theorem d_Law_law_557 : decode code 557 = .ok (.iaload, 1) := by decide +kernel
theorem d_Law_law_558 : decode code 558 = .ok (.invokevirtual 73, 3) := by decide +kernel
theorem d_Law_law_561 : decode code 561 = .ok (.aload_n 2, 1) := by decide +kernel
theorem d_Law_law_562 : decode code 562 = .ok (.aload_n 0, 1) := by decide +kernel
theorem d_Law_law_563 : decode code 563 = .ok (.iload_n 3, 1) := by decide +kernel
theorem d_Law_law_564 : decode code 564 = .ok (.iconst 1, 1) := by decide +kernel
theorem d_Law_law_565 : decode code 565 = .ok (.iadd, 1) := by decide +kernel
theorem d_Law_law_566 : decode code 566 = .ok (.iaload, 1) := by decide +kernel
theorem d_Law_law_567 : decode code 567 = .ok (.invokevirtual 76, 3) := by decide +kernel
theorem d_Law_law_570 : decode code 570 = .ok (.if_icmp .eq 5, 3) := by decide +kernel
theorem d_Law_law_573 : decode code 573 = .ok (.iconst 0, 1) := by decide +kernel
theorem d_Law_law_574 : decode code 574 = .ok (.ireturn, 1) := by decide +kernel
theorem d_Law_law_575 : decode code 575 = .ok (.iinc 3 7, 3) := by decide +kernel
theorem d_Law_law_578 : decode code 578 = .ok (.goto (-560), 3) := by decide +kernel
theorem d_Law_law_581 : decode code 581 = .ok (.iconst 1, 1) := by decide +kernel
theorem d_Law_law_582 : decode code 582 = .ok (.ireturn, 1) := by decide +kernel
theorem lw_ix (k : Nat) {i L : Nat} (hi : i + 7 ≤ L) (hk : k < 7) (hL : L ≤ 3584) : vp_in (nI i + nI k) L := by
  rw [nI_add]
  exact vp_in_nI (by omega) (by omega)
theorem lw_cmp0 {x y : Int64} (h : x = y) : lg_cmp x y = 0 := (lg_cmp_eq x y).mpr h
set_option maxRecDepth 20000 in
theorem q_233 : (Jvm.Cond.code ({ cls := "TrapDesk", name := "begin", desc := "()V" } : Jvm.MethodName) prog_1_method_2_code (1 : Nat) (Option.none : Option Jvm.ClassFile.FieldType)) ∈ gtb := List.mem_filter.mpr ⟨List.mem_of_getElem? (i := 233) (rfl), rfl⟩
theorem q_230 : (Jvm.Cond.methodLink "TrapDeskLaw" (13 : Nat) ({ cls := "TrapDesk", name := "begin", desc := "()V" } : Jvm.MethodName)) ∈ gtb := List.mem_filter.mpr ⟨List.mem_of_getElem? (i := 230) (by decide +kernel), rfl⟩
theorem q_231 : (Jvm.Cond.instanceMethod ({ cls := "TrapDesk", name := "begin", desc := "()V" } : Jvm.MethodName)) ∈ gtb := List.mem_filter.mpr ⟨List.mem_of_getElem? (i := 231) (by decide +kernel), rfl⟩
theorem q_232 : (Jvm.Cond.selects "TrapDesk" ({ cls := "TrapDesk", name := "begin", desc := "()V" } : Jvm.MethodName) ({ cls := "TrapDesk", name := "begin", desc := "()V" } : Jvm.MethodName)) ∈ gtb := List.mem_filter.mpr ⟨List.mem_of_getElem? (i := 232) (by decide +kernel), rfl⟩
theorem q_678 : (Jvm.Cond.methodLink "TrapDeskLaw" (16 : Nat) ({ cls := "TrapDeskModel", name := "begin", desc := "()V" } : Jvm.MethodName)) ∈ gtb := List.mem_filter.mpr ⟨List.mem_of_getElem? (i := 678) (by decide +kernel), rfl⟩
set_option maxRecDepth 20000 in
theorem q_257 : (Jvm.Cond.code ({ cls := "TrapDesk", name := "mode", desc := "(I)I" } : Jvm.MethodName) prog_1_method_3_code (3 : Nat) (Option.some Jvm.ClassFile.FieldType.int)) ∈ gtb := List.mem_filter.mpr ⟨List.mem_of_getElem? (i := 257) (rfl), rfl⟩
theorem q_254 : (Jvm.Cond.methodLink "TrapDeskLaw" (17 : Nat) ({ cls := "TrapDesk", name := "mode", desc := "(I)I" } : Jvm.MethodName)) ∈ gtb := List.mem_filter.mpr ⟨List.mem_of_getElem? (i := 254) (by decide +kernel), rfl⟩
theorem q_255 : (Jvm.Cond.instanceMethod ({ cls := "TrapDesk", name := "mode", desc := "(I)I" } : Jvm.MethodName)) ∈ gtb := List.mem_filter.mpr ⟨List.mem_of_getElem? (i := 255) (by decide +kernel), rfl⟩
theorem q_256 : (Jvm.Cond.selects "TrapDesk" ({ cls := "TrapDesk", name := "mode", desc := "(I)I" } : Jvm.MethodName) ({ cls := "TrapDesk", name := "mode", desc := "(I)I" } : Jvm.MethodName)) ∈ gtb := List.mem_filter.mpr ⟨List.mem_of_getElem? (i := 256) (by decide +kernel), rfl⟩
set_option maxRecDepth 20000 in
theorem q_814 : (Jvm.Cond.code ({ cls := "TrapDeskModel", name := "mode", desc := "(I)I" } : Jvm.MethodName) prog_9_method_36_code (3 : Nat) (Option.some Jvm.ClassFile.FieldType.int)) ∈ gtb := List.mem_filter.mpr ⟨List.mem_of_getElem? (i := 814) (rfl), rfl⟩
theorem q_811 : (Jvm.Cond.methodLink "TrapDeskLaw" (21 : Nat) ({ cls := "TrapDeskModel", name := "mode", desc := "(I)I" } : Jvm.MethodName)) ∈ gtb := List.mem_filter.mpr ⟨List.mem_of_getElem? (i := 811) (by decide +kernel), rfl⟩
theorem q_812 : (Jvm.Cond.instanceMethod ({ cls := "TrapDeskModel", name := "mode", desc := "(I)I" } : Jvm.MethodName)) ∈ gtb := List.mem_filter.mpr ⟨List.mem_of_getElem? (i := 812) (by decide +kernel), rfl⟩
theorem q_813 : (Jvm.Cond.selects "TrapDeskModel" ({ cls := "TrapDeskModel", name := "mode", desc := "(I)I" } : Jvm.MethodName) ({ cls := "TrapDeskModel", name := "mode", desc := "(I)I" } : Jvm.MethodName)) ∈ gtb := List.mem_filter.mpr ⟨List.mem_of_getElem? (i := 813) (by decide +kernel), rfl⟩
set_option maxRecDepth 20000 in
theorem q_261 : (Jvm.Cond.code ({ cls := "TrapDesk", name := "go", desc := "(I)I" } : Jvm.MethodName) prog_1_method_4_code (2 : Nat) (Option.some Jvm.ClassFile.FieldType.int)) ∈ gtb := List.mem_filter.mpr ⟨List.mem_of_getElem? (i := 261) (rfl), rfl⟩
theorem q_258 : (Jvm.Cond.methodLink "TrapDeskLaw" (22 : Nat) ({ cls := "TrapDesk", name := "go", desc := "(I)I" } : Jvm.MethodName)) ∈ gtb := List.mem_filter.mpr ⟨List.mem_of_getElem? (i := 258) (by decide +kernel), rfl⟩
theorem q_259 : (Jvm.Cond.instanceMethod ({ cls := "TrapDesk", name := "go", desc := "(I)I" } : Jvm.MethodName)) ∈ gtb := List.mem_filter.mpr ⟨List.mem_of_getElem? (i := 259) (by decide +kernel), rfl⟩
theorem q_260 : (Jvm.Cond.selects "TrapDesk" ({ cls := "TrapDesk", name := "go", desc := "(I)I" } : Jvm.MethodName) ({ cls := "TrapDesk", name := "go", desc := "(I)I" } : Jvm.MethodName)) ∈ gtb := List.mem_filter.mpr ⟨List.mem_of_getElem? (i := 260) (by decide +kernel), rfl⟩
set_option maxRecDepth 20000 in
theorem q_818 : (Jvm.Cond.code ({ cls := "TrapDeskModel", name := "go", desc := "(I)I" } : Jvm.MethodName) prog_9_method_37_code (2 : Nat) (Option.some Jvm.ClassFile.FieldType.int)) ∈ gtb := List.mem_filter.mpr ⟨List.mem_of_getElem? (i := 818) (rfl), rfl⟩
theorem q_815 : (Jvm.Cond.methodLink "TrapDeskLaw" (25 : Nat) ({ cls := "TrapDeskModel", name := "go", desc := "(I)I" } : Jvm.MethodName)) ∈ gtb := List.mem_filter.mpr ⟨List.mem_of_getElem? (i := 815) (by decide +kernel), rfl⟩
theorem q_816 : (Jvm.Cond.instanceMethod ({ cls := "TrapDeskModel", name := "go", desc := "(I)I" } : Jvm.MethodName)) ∈ gtb := List.mem_filter.mpr ⟨List.mem_of_getElem? (i := 816) (by decide +kernel), rfl⟩
theorem q_817 : (Jvm.Cond.selects "TrapDeskModel" ({ cls := "TrapDeskModel", name := "go", desc := "(I)I" } : Jvm.MethodName) ({ cls := "TrapDeskModel", name := "go", desc := "(I)I" } : Jvm.MethodName)) ∈ gtb := List.mem_filter.mpr ⟨List.mem_of_getElem? (i := 817) (by decide +kernel), rfl⟩
set_option maxRecDepth 20000 in
theorem q_265 : (Jvm.Cond.code ({ cls := "TrapDesk", name := "put", desc := "(II)I" } : Jvm.MethodName) prog_1_method_5_code (3 : Nat) (Option.some Jvm.ClassFile.FieldType.int)) ∈ gtb := List.mem_filter.mpr ⟨List.mem_of_getElem? (i := 265) (rfl), rfl⟩
theorem q_262 : (Jvm.Cond.methodLink "TrapDeskLaw" (26 : Nat) ({ cls := "TrapDesk", name := "put", desc := "(II)I" } : Jvm.MethodName)) ∈ gtb := List.mem_filter.mpr ⟨List.mem_of_getElem? (i := 262) (by decide +kernel), rfl⟩
theorem q_263 : (Jvm.Cond.instanceMethod ({ cls := "TrapDesk", name := "put", desc := "(II)I" } : Jvm.MethodName)) ∈ gtb := List.mem_filter.mpr ⟨List.mem_of_getElem? (i := 263) (by decide +kernel), rfl⟩
theorem q_264 : (Jvm.Cond.selects "TrapDesk" ({ cls := "TrapDesk", name := "put", desc := "(II)I" } : Jvm.MethodName) ({ cls := "TrapDesk", name := "put", desc := "(II)I" } : Jvm.MethodName)) ∈ gtb := List.mem_filter.mpr ⟨List.mem_of_getElem? (i := 264) (by decide +kernel), rfl⟩
set_option maxRecDepth 20000 in
theorem q_682 : (Jvm.Cond.code ({ cls := "TrapDeskModel", name := "put", desc := "(II)I" } : Jvm.MethodName) prog_9_method_12_code (3 : Nat) (Option.some Jvm.ClassFile.FieldType.int)) ∈ gtb := List.mem_filter.mpr ⟨List.mem_of_getElem? (i := 682) (rfl), rfl⟩
theorem q_679 : (Jvm.Cond.methodLink "TrapDeskLaw" (30 : Nat) ({ cls := "TrapDeskModel", name := "put", desc := "(II)I" } : Jvm.MethodName)) ∈ gtb := List.mem_filter.mpr ⟨List.mem_of_getElem? (i := 679) (by decide +kernel), rfl⟩
theorem q_680 : (Jvm.Cond.instanceMethod ({ cls := "TrapDeskModel", name := "put", desc := "(II)I" } : Jvm.MethodName)) ∈ gtb := List.mem_filter.mpr ⟨List.mem_of_getElem? (i := 680) (by decide +kernel), rfl⟩
theorem q_681 : (Jvm.Cond.selects "TrapDeskModel" ({ cls := "TrapDeskModel", name := "put", desc := "(II)I" } : Jvm.MethodName) ({ cls := "TrapDeskModel", name := "put", desc := "(II)I" } : Jvm.MethodName)) ∈ gtb := List.mem_filter.mpr ⟨List.mem_of_getElem? (i := 681) (by decide +kernel), rfl⟩
set_option maxRecDepth 20000 in
theorem q_333 : (Jvm.Cond.code ({ cls := "TrapDesk", name := "get", desc := "(I)I" } : Jvm.MethodName) prog_1_method_6_code (2 : Nat) (Option.some Jvm.ClassFile.FieldType.int)) ∈ gtb := List.mem_filter.mpr ⟨List.mem_of_getElem? (i := 333) (rfl), rfl⟩
theorem q_330 : (Jvm.Cond.methodLink "TrapDeskLaw" (31 : Nat) ({ cls := "TrapDesk", name := "get", desc := "(I)I" } : Jvm.MethodName)) ∈ gtb := List.mem_filter.mpr ⟨List.mem_of_getElem? (i := 330) (by decide +kernel), rfl⟩
theorem q_331 : (Jvm.Cond.instanceMethod ({ cls := "TrapDesk", name := "get", desc := "(I)I" } : Jvm.MethodName)) ∈ gtb := List.mem_filter.mpr ⟨List.mem_of_getElem? (i := 331) (by decide +kernel), rfl⟩
theorem q_332 : (Jvm.Cond.selects "TrapDesk" ({ cls := "TrapDesk", name := "get", desc := "(I)I" } : Jvm.MethodName) ({ cls := "TrapDesk", name := "get", desc := "(I)I" } : Jvm.MethodName)) ∈ gtb := List.mem_filter.mpr ⟨List.mem_of_getElem? (i := 332) (by decide +kernel), rfl⟩
set_option maxRecDepth 20000 in
theorem q_710 : (Jvm.Cond.code ({ cls := "TrapDeskModel", name := "get", desc := "(I)I" } : Jvm.MethodName) prog_9_method_13_code (2 : Nat) (Option.some Jvm.ClassFile.FieldType.int)) ∈ gtb := List.mem_filter.mpr ⟨List.mem_of_getElem? (i := 710) (rfl), rfl⟩
theorem q_707 : (Jvm.Cond.methodLink "TrapDeskLaw" (34 : Nat) ({ cls := "TrapDeskModel", name := "get", desc := "(I)I" } : Jvm.MethodName)) ∈ gtb := List.mem_filter.mpr ⟨List.mem_of_getElem? (i := 707) (by decide +kernel), rfl⟩
theorem q_708 : (Jvm.Cond.instanceMethod ({ cls := "TrapDeskModel", name := "get", desc := "(I)I" } : Jvm.MethodName)) ∈ gtb := List.mem_filter.mpr ⟨List.mem_of_getElem? (i := 708) (by decide +kernel), rfl⟩
theorem q_709 : (Jvm.Cond.selects "TrapDeskModel" ({ cls := "TrapDeskModel", name := "get", desc := "(I)I" } : Jvm.MethodName) ({ cls := "TrapDeskModel", name := "get", desc := "(I)I" } : Jvm.MethodName)) ∈ gtb := List.mem_filter.mpr ⟨List.mem_of_getElem? (i := 709) (by decide +kernel), rfl⟩
theorem q_844 : (Jvm.Cond.constantLong "TrapDeskLaw" (35 : Nat) (4294967295 : Int64)) ∈ gtb := List.mem_filter.mpr ⟨List.mem_of_getElem? (i := 844) (by decide +kernel), rfl⟩
set_option maxRecDepth 20000 in
theorem q_373 : (Jvm.Cond.code ({ cls := "TrapDesk", name := "time", desc := "(J)J" } : Jvm.MethodName) prog_1_method_7_code (5 : Nat) (Option.some Jvm.ClassFile.FieldType.long)) ∈ gtb := List.mem_filter.mpr ⟨List.mem_of_getElem? (i := 373) (rfl), rfl⟩
theorem q_370 : (Jvm.Cond.methodLink "TrapDeskLaw" (37 : Nat) ({ cls := "TrapDesk", name := "time", desc := "(J)J" } : Jvm.MethodName)) ∈ gtb := List.mem_filter.mpr ⟨List.mem_of_getElem? (i := 370) (by decide +kernel), rfl⟩
theorem q_371 : (Jvm.Cond.instanceMethod ({ cls := "TrapDesk", name := "time", desc := "(J)J" } : Jvm.MethodName)) ∈ gtb := List.mem_filter.mpr ⟨List.mem_of_getElem? (i := 371) (by decide +kernel), rfl⟩
theorem q_372 : (Jvm.Cond.selects "TrapDesk" ({ cls := "TrapDesk", name := "time", desc := "(J)J" } : Jvm.MethodName) ({ cls := "TrapDesk", name := "time", desc := "(J)J" } : Jvm.MethodName)) ∈ gtb := List.mem_filter.mpr ⟨List.mem_of_getElem? (i := 372) (by decide +kernel), rfl⟩
set_option maxRecDepth 20000 in
theorem q_822 : (Jvm.Cond.code ({ cls := "TrapDeskModel", name := "time", desc := "(J)J" } : Jvm.MethodName) prog_9_method_38_code (5 : Nat) (Option.some Jvm.ClassFile.FieldType.long)) ∈ gtb := List.mem_filter.mpr ⟨List.mem_of_getElem? (i := 822) (rfl), rfl⟩
theorem q_819 : (Jvm.Cond.methodLink "TrapDeskLaw" (41 : Nat) ({ cls := "TrapDeskModel", name := "time", desc := "(J)J" } : Jvm.MethodName)) ∈ gtb := List.mem_filter.mpr ⟨List.mem_of_getElem? (i := 819) (by decide +kernel), rfl⟩
theorem q_820 : (Jvm.Cond.instanceMethod ({ cls := "TrapDeskModel", name := "time", desc := "(J)J" } : Jvm.MethodName)) ∈ gtb := List.mem_filter.mpr ⟨List.mem_of_getElem? (i := 820) (by decide +kernel), rfl⟩
theorem q_821 : (Jvm.Cond.selects "TrapDeskModel" ({ cls := "TrapDeskModel", name := "time", desc := "(J)J" } : Jvm.MethodName) ({ cls := "TrapDeskModel", name := "time", desc := "(J)J" } : Jvm.MethodName)) ∈ gtb := List.mem_filter.mpr ⟨List.mem_of_getElem? (i := 821) (by decide +kernel), rfl⟩
set_option maxRecDepth 20000 in
theorem q_378 : (Jvm.Cond.code ({ cls := "TrapDesk", name := "line", desc := "(Z)Z" } : Jvm.MethodName) prog_1_method_8_code (3 : Nat) (Option.some Jvm.ClassFile.FieldType.boolean)) ∈ gtb := List.mem_filter.mpr ⟨List.mem_of_getElem? (i := 378) (rfl), rfl⟩
theorem q_375 : (Jvm.Cond.methodLink "TrapDeskLaw" (42 : Nat) ({ cls := "TrapDesk", name := "line", desc := "(Z)Z" } : Jvm.MethodName)) ∈ gtb := List.mem_filter.mpr ⟨List.mem_of_getElem? (i := 375) (by decide +kernel), rfl⟩
theorem q_376 : (Jvm.Cond.instanceMethod ({ cls := "TrapDesk", name := "line", desc := "(Z)Z" } : Jvm.MethodName)) ∈ gtb := List.mem_filter.mpr ⟨List.mem_of_getElem? (i := 376) (by decide +kernel), rfl⟩
theorem q_377 : (Jvm.Cond.selects "TrapDesk" ({ cls := "TrapDesk", name := "line", desc := "(Z)Z" } : Jvm.MethodName) ({ cls := "TrapDesk", name := "line", desc := "(Z)Z" } : Jvm.MethodName)) ∈ gtb := List.mem_filter.mpr ⟨List.mem_of_getElem? (i := 377) (by decide +kernel), rfl⟩
set_option maxRecDepth 20000 in
theorem q_827 : (Jvm.Cond.code ({ cls := "TrapDeskModel", name := "line", desc := "(Z)Z" } : Jvm.MethodName) prog_9_method_39_code (3 : Nat) (Option.some Jvm.ClassFile.FieldType.boolean)) ∈ gtb := List.mem_filter.mpr ⟨List.mem_of_getElem? (i := 827) (rfl), rfl⟩
theorem q_824 : (Jvm.Cond.methodLink "TrapDeskLaw" (46 : Nat) ({ cls := "TrapDeskModel", name := "line", desc := "(Z)Z" } : Jvm.MethodName)) ∈ gtb := List.mem_filter.mpr ⟨List.mem_of_getElem? (i := 824) (by decide +kernel), rfl⟩
theorem q_825 : (Jvm.Cond.instanceMethod ({ cls := "TrapDeskModel", name := "line", desc := "(Z)Z" } : Jvm.MethodName)) ∈ gtb := List.mem_filter.mpr ⟨List.mem_of_getElem? (i := 825) (by decide +kernel), rfl⟩
theorem q_826 : (Jvm.Cond.selects "TrapDeskModel" ({ cls := "TrapDeskModel", name := "line", desc := "(Z)Z" } : Jvm.MethodName) ({ cls := "TrapDeskModel", name := "line", desc := "(Z)Z" } : Jvm.MethodName)) ∈ gtb := List.mem_filter.mpr ⟨List.mem_of_getElem? (i := 826) (by decide +kernel), rfl⟩
set_option maxRecDepth 20000 in
theorem q_382 : (Jvm.Cond.code ({ cls := "TrapDesk", name := "set", desc := "(II)I" } : Jvm.MethodName) prog_1_method_9_code (4 : Nat) (Option.some Jvm.ClassFile.FieldType.int)) ∈ gtb := List.mem_filter.mpr ⟨List.mem_of_getElem? (i := 382) (rfl), rfl⟩
theorem q_379 : (Jvm.Cond.methodLink "TrapDeskLaw" (47 : Nat) ({ cls := "TrapDesk", name := "set", desc := "(II)I" } : Jvm.MethodName)) ∈ gtb := List.mem_filter.mpr ⟨List.mem_of_getElem? (i := 379) (by decide +kernel), rfl⟩
theorem q_380 : (Jvm.Cond.instanceMethod ({ cls := "TrapDesk", name := "set", desc := "(II)I" } : Jvm.MethodName)) ∈ gtb := List.mem_filter.mpr ⟨List.mem_of_getElem? (i := 380) (by decide +kernel), rfl⟩
theorem q_381 : (Jvm.Cond.selects "TrapDesk" ({ cls := "TrapDesk", name := "set", desc := "(II)I" } : Jvm.MethodName) ({ cls := "TrapDesk", name := "set", desc := "(II)I" } : Jvm.MethodName)) ∈ gtb := List.mem_filter.mpr ⟨List.mem_of_getElem? (i := 381) (by decide +kernel), rfl⟩
set_option maxRecDepth 20000 in
theorem q_831 : (Jvm.Cond.code ({ cls := "TrapDeskModel", name := "set", desc := "(II)I" } : Jvm.MethodName) prog_9_method_40_code (4 : Nat) (Option.some Jvm.ClassFile.FieldType.int)) ∈ gtb := List.mem_filter.mpr ⟨List.mem_of_getElem? (i := 831) (rfl), rfl⟩
theorem q_828 : (Jvm.Cond.methodLink "TrapDeskLaw" (50 : Nat) ({ cls := "TrapDeskModel", name := "set", desc := "(II)I" } : Jvm.MethodName)) ∈ gtb := List.mem_filter.mpr ⟨List.mem_of_getElem? (i := 828) (by decide +kernel), rfl⟩
theorem q_829 : (Jvm.Cond.instanceMethod ({ cls := "TrapDeskModel", name := "set", desc := "(II)I" } : Jvm.MethodName)) ∈ gtb := List.mem_filter.mpr ⟨List.mem_of_getElem? (i := 829) (by decide +kernel), rfl⟩
theorem q_830 : (Jvm.Cond.selects "TrapDeskModel" ({ cls := "TrapDeskModel", name := "set", desc := "(II)I" } : Jvm.MethodName) ({ cls := "TrapDeskModel", name := "set", desc := "(II)I" } : Jvm.MethodName)) ∈ gtb := List.mem_filter.mpr ⟨List.mem_of_getElem? (i := 830) (by decide +kernel), rfl⟩
set_option maxRecDepth 20000 in
theorem q_394 : (Jvm.Cond.code ({ cls := "TrapDesk", name := "register", desc := "(I)I" } : Jvm.MethodName) prog_1_method_10_code (2 : Nat) (Option.some Jvm.ClassFile.FieldType.int)) ∈ gtb := List.mem_filter.mpr ⟨List.mem_of_getElem? (i := 394) (rfl), rfl⟩
theorem q_391 : (Jvm.Cond.methodLink "TrapDeskLaw" (51 : Nat) ({ cls := "TrapDesk", name := "register", desc := "(I)I" } : Jvm.MethodName)) ∈ gtb := List.mem_filter.mpr ⟨List.mem_of_getElem? (i := 391) (by decide +kernel), rfl⟩
theorem q_392 : (Jvm.Cond.instanceMethod ({ cls := "TrapDesk", name := "register", desc := "(I)I" } : Jvm.MethodName)) ∈ gtb := List.mem_filter.mpr ⟨List.mem_of_getElem? (i := 392) (by decide +kernel), rfl⟩
theorem q_393 : (Jvm.Cond.selects "TrapDesk" ({ cls := "TrapDesk", name := "register", desc := "(I)I" } : Jvm.MethodName) ({ cls := "TrapDesk", name := "register", desc := "(I)I" } : Jvm.MethodName)) ∈ gtb := List.mem_filter.mpr ⟨List.mem_of_getElem? (i := 393) (by decide +kernel), rfl⟩
set_option maxRecDepth 20000 in
theorem q_835 : (Jvm.Cond.code ({ cls := "TrapDeskModel", name := "register", desc := "(I)I" } : Jvm.MethodName) prog_9_method_41_code (2 : Nat) (Option.some Jvm.ClassFile.FieldType.int)) ∈ gtb := List.mem_filter.mpr ⟨List.mem_of_getElem? (i := 835) (rfl), rfl⟩
theorem q_832 : (Jvm.Cond.methodLink "TrapDeskLaw" (54 : Nat) ({ cls := "TrapDeskModel", name := "register", desc := "(I)I" } : Jvm.MethodName)) ∈ gtb := List.mem_filter.mpr ⟨List.mem_of_getElem? (i := 832) (by decide +kernel), rfl⟩
theorem q_833 : (Jvm.Cond.instanceMethod ({ cls := "TrapDeskModel", name := "register", desc := "(I)I" } : Jvm.MethodName)) ∈ gtb := List.mem_filter.mpr ⟨List.mem_of_getElem? (i := 833) (by decide +kernel), rfl⟩
theorem q_834 : (Jvm.Cond.selects "TrapDeskModel" ({ cls := "TrapDeskModel", name := "register", desc := "(I)I" } : Jvm.MethodName) ({ cls := "TrapDeskModel", name := "register", desc := "(I)I" } : Jvm.MethodName)) ∈ gtb := List.mem_filter.mpr ⟨List.mem_of_getElem? (i := 834) (by decide +kernel), rfl⟩
set_option maxRecDepth 20000 in
theorem q_398 : (Jvm.Cond.code ({ cls := "TrapDesk", name := "doWord", desc := "(I)I" } : Jvm.MethodName) prog_1_method_11_code (3 : Nat) (Option.some Jvm.ClassFile.FieldType.int)) ∈ gtb := List.mem_filter.mpr ⟨List.mem_of_getElem? (i := 398) (rfl), rfl⟩
theorem q_395 : (Jvm.Cond.methodLink "TrapDeskLaw" (55 : Nat) ({ cls := "TrapDesk", name := "doWord", desc := "(I)I" } : Jvm.MethodName)) ∈ gtb := List.mem_filter.mpr ⟨List.mem_of_getElem? (i := 395) (by decide +kernel), rfl⟩
theorem q_396 : (Jvm.Cond.instanceMethod ({ cls := "TrapDesk", name := "doWord", desc := "(I)I" } : Jvm.MethodName)) ∈ gtb := List.mem_filter.mpr ⟨List.mem_of_getElem? (i := 396) (by decide +kernel), rfl⟩
theorem q_397 : (Jvm.Cond.selects "TrapDesk" ({ cls := "TrapDesk", name := "doWord", desc := "(I)I" } : Jvm.MethodName) ({ cls := "TrapDesk", name := "doWord", desc := "(I)I" } : Jvm.MethodName)) ∈ gtb := List.mem_filter.mpr ⟨List.mem_of_getElem? (i := 397) (by decide +kernel), rfl⟩
set_option maxRecDepth 20000 in
theorem q_759 : (Jvm.Cond.code ({ cls := "TrapDeskModel", name := "doWord", desc := "(I)I" } : Jvm.MethodName) prog_9_method_35_code (9 : Nat) (Option.some Jvm.ClassFile.FieldType.int)) ∈ gtb := List.mem_filter.mpr ⟨List.mem_of_getElem? (i := 759) (rfl), rfl⟩
theorem q_756 : (Jvm.Cond.methodLink "TrapDeskLaw" (58 : Nat) ({ cls := "TrapDeskModel", name := "doWord", desc := "(I)I" } : Jvm.MethodName)) ∈ gtb := List.mem_filter.mpr ⟨List.mem_of_getElem? (i := 756) (by decide +kernel), rfl⟩
theorem q_757 : (Jvm.Cond.instanceMethod ({ cls := "TrapDeskModel", name := "doWord", desc := "(I)I" } : Jvm.MethodName)) ∈ gtb := List.mem_filter.mpr ⟨List.mem_of_getElem? (i := 757) (by decide +kernel), rfl⟩
theorem q_758 : (Jvm.Cond.selects "TrapDeskModel" ({ cls := "TrapDeskModel", name := "doWord", desc := "(I)I" } : Jvm.MethodName) ({ cls := "TrapDeskModel", name := "doWord", desc := "(I)I" } : Jvm.MethodName)) ∈ gtb := List.mem_filter.mpr ⟨List.mem_of_getElem? (i := 758) (by decide +kernel), rfl⟩
set_option maxRecDepth 20000 in
theorem q_551 : (Jvm.Cond.code ({ cls := "TrapDesk", name := "fail", desc := "(IIZJZ)I" } : Jvm.MethodName) prog_1_method_12_code (7 : Nat) (Option.some Jvm.ClassFile.FieldType.int)) ∈ gtb := List.mem_filter.mpr ⟨List.mem_of_getElem? (i := 551) (rfl), rfl⟩
theorem q_548 : (Jvm.Cond.methodLink "TrapDeskLaw" (59 : Nat) ({ cls := "TrapDesk", name := "fail", desc := "(IIZJZ)I" } : Jvm.MethodName)) ∈ gtb := List.mem_filter.mpr ⟨List.mem_of_getElem? (i := 548) (by decide +kernel), rfl⟩
theorem q_549 : (Jvm.Cond.instanceMethod ({ cls := "TrapDesk", name := "fail", desc := "(IIZJZ)I" } : Jvm.MethodName)) ∈ gtb := List.mem_filter.mpr ⟨List.mem_of_getElem? (i := 549) (by decide +kernel), rfl⟩
theorem q_550 : (Jvm.Cond.selects "TrapDesk" ({ cls := "TrapDesk", name := "fail", desc := "(IIZJZ)I" } : Jvm.MethodName) ({ cls := "TrapDesk", name := "fail", desc := "(IIZJZ)I" } : Jvm.MethodName)) ∈ gtb := List.mem_filter.mpr ⟨List.mem_of_getElem? (i := 550) (by decide +kernel), rfl⟩
set_option maxRecDepth 20000 in
theorem q_722 : (Jvm.Cond.code ({ cls := "TrapDeskModel", name := "fail", desc := "(IIZJZ)I" } : Jvm.MethodName) prog_9_method_22_code (8 : Nat) (Option.some Jvm.ClassFile.FieldType.int)) ∈ gtb := List.mem_filter.mpr ⟨List.mem_of_getElem? (i := 722) (rfl), rfl⟩
theorem q_719 : (Jvm.Cond.methodLink "TrapDeskLaw" (63 : Nat) ({ cls := "TrapDeskModel", name := "fail", desc := "(IIZJZ)I" } : Jvm.MethodName)) ∈ gtb := List.mem_filter.mpr ⟨List.mem_of_getElem? (i := 719) (by decide +kernel), rfl⟩
theorem q_720 : (Jvm.Cond.instanceMethod ({ cls := "TrapDeskModel", name := "fail", desc := "(IIZJZ)I" } : Jvm.MethodName)) ∈ gtb := List.mem_filter.mpr ⟨List.mem_of_getElem? (i := 720) (by decide +kernel), rfl⟩
theorem q_721 : (Jvm.Cond.selects "TrapDeskModel" ({ cls := "TrapDeskModel", name := "fail", desc := "(IIZJZ)I" } : Jvm.MethodName) ({ cls := "TrapDeskModel", name := "fail", desc := "(IIZJZ)I" } : Jvm.MethodName)) ∈ gtb := List.mem_filter.mpr ⟨List.mem_of_getElem? (i := 721) (by decide +kernel), rfl⟩
set_option maxRecDepth 20000 in
theorem q_558 : (Jvm.Cond.code ({ cls := "TrapDesk", name := "interrupt", desc := "()I" } : Jvm.MethodName) prog_1_method_13_code (3 : Nat) (Option.some Jvm.ClassFile.FieldType.int)) ∈ gtb := List.mem_filter.mpr ⟨List.mem_of_getElem? (i := 558) (rfl), rfl⟩
theorem q_555 : (Jvm.Cond.methodLink "TrapDeskLaw" (64 : Nat) ({ cls := "TrapDesk", name := "interrupt", desc := "()I" } : Jvm.MethodName)) ∈ gtb := List.mem_filter.mpr ⟨List.mem_of_getElem? (i := 555) (by decide +kernel), rfl⟩
theorem q_556 : (Jvm.Cond.instanceMethod ({ cls := "TrapDesk", name := "interrupt", desc := "()I" } : Jvm.MethodName)) ∈ gtb := List.mem_filter.mpr ⟨List.mem_of_getElem? (i := 556) (by decide +kernel), rfl⟩
theorem q_557 : (Jvm.Cond.selects "TrapDesk" ({ cls := "TrapDesk", name := "interrupt", desc := "()I" } : Jvm.MethodName) ({ cls := "TrapDesk", name := "interrupt", desc := "()I" } : Jvm.MethodName)) ∈ gtb := List.mem_filter.mpr ⟨List.mem_of_getElem? (i := 557) (by decide +kernel), rfl⟩
set_option maxRecDepth 20000 in
theorem q_751 : (Jvm.Cond.code ({ cls := "TrapDeskModel", name := "interrupt", desc := "()I" } : Jvm.MethodName) prog_9_method_24_code (5 : Nat) (Option.some Jvm.ClassFile.FieldType.int)) ∈ gtb := List.mem_filter.mpr ⟨List.mem_of_getElem? (i := 751) (rfl), rfl⟩
theorem q_748 : (Jvm.Cond.methodLink "TrapDeskLaw" (68 : Nat) ({ cls := "TrapDeskModel", name := "interrupt", desc := "()I" } : Jvm.MethodName)) ∈ gtb := List.mem_filter.mpr ⟨List.mem_of_getElem? (i := 748) (by decide +kernel), rfl⟩
theorem q_749 : (Jvm.Cond.instanceMethod ({ cls := "TrapDeskModel", name := "interrupt", desc := "()I" } : Jvm.MethodName)) ∈ gtb := List.mem_filter.mpr ⟨List.mem_of_getElem? (i := 749) (by decide +kernel), rfl⟩
theorem q_750 : (Jvm.Cond.selects "TrapDeskModel" ({ cls := "TrapDeskModel", name := "interrupt", desc := "()I" } : Jvm.MethodName) ({ cls := "TrapDeskModel", name := "interrupt", desc := "()I" } : Jvm.MethodName)) ∈ gtb := List.mem_filter.mpr ⟨List.mem_of_getElem? (i := 750) (by decide +kernel), rfl⟩
set_option maxRecDepth 20000 in
theorem q_587 : (Jvm.Cond.code ({ cls := "TrapDesk", name := "count", desc := "(I)I" } : Jvm.MethodName) prog_1_method_14_code (2 : Nat) (Option.some Jvm.ClassFile.FieldType.int)) ∈ gtb := List.mem_filter.mpr ⟨List.mem_of_getElem? (i := 587) (rfl), rfl⟩
theorem q_584 : (Jvm.Cond.methodLink "TrapDeskLaw" (69 : Nat) ({ cls := "TrapDesk", name := "count", desc := "(I)I" } : Jvm.MethodName)) ∈ gtb := List.mem_filter.mpr ⟨List.mem_of_getElem? (i := 584) (by decide +kernel), rfl⟩
theorem q_585 : (Jvm.Cond.instanceMethod ({ cls := "TrapDesk", name := "count", desc := "(I)I" } : Jvm.MethodName)) ∈ gtb := List.mem_filter.mpr ⟨List.mem_of_getElem? (i := 585) (by decide +kernel), rfl⟩
theorem q_586 : (Jvm.Cond.selects "TrapDesk" ({ cls := "TrapDesk", name := "count", desc := "(I)I" } : Jvm.MethodName) ({ cls := "TrapDesk", name := "count", desc := "(I)I" } : Jvm.MethodName)) ∈ gtb := List.mem_filter.mpr ⟨List.mem_of_getElem? (i := 586) (by decide +kernel), rfl⟩
set_option maxRecDepth 20000 in
theorem q_839 : (Jvm.Cond.code ({ cls := "TrapDeskModel", name := "count", desc := "(I)I" } : Jvm.MethodName) prog_9_method_42_code (2 : Nat) (Option.some Jvm.ClassFile.FieldType.int)) ∈ gtb := List.mem_filter.mpr ⟨List.mem_of_getElem? (i := 839) (rfl), rfl⟩
theorem q_836 : (Jvm.Cond.methodLink "TrapDeskLaw" (72 : Nat) ({ cls := "TrapDeskModel", name := "count", desc := "(I)I" } : Jvm.MethodName)) ∈ gtb := List.mem_filter.mpr ⟨List.mem_of_getElem? (i := 836) (by decide +kernel), rfl⟩
theorem q_837 : (Jvm.Cond.instanceMethod ({ cls := "TrapDeskModel", name := "count", desc := "(I)I" } : Jvm.MethodName)) ∈ gtb := List.mem_filter.mpr ⟨List.mem_of_getElem? (i := 837) (by decide +kernel), rfl⟩
theorem q_838 : (Jvm.Cond.selects "TrapDeskModel" ({ cls := "TrapDeskModel", name := "count", desc := "(I)I" } : Jvm.MethodName) ({ cls := "TrapDeskModel", name := "count", desc := "(I)I" } : Jvm.MethodName)) ∈ gtb := List.mem_filter.mpr ⟨List.mem_of_getElem? (i := 838) (by decide +kernel), rfl⟩
set_option maxRecDepth 20000 in
theorem q_591 : (Jvm.Cond.code ({ cls := "TrapDesk", name := "console", desc := "(I)I" } : Jvm.MethodName) prog_1_method_15_code (2 : Nat) (Option.some Jvm.ClassFile.FieldType.int)) ∈ gtb := List.mem_filter.mpr ⟨List.mem_of_getElem? (i := 591) (rfl), rfl⟩
theorem q_588 : (Jvm.Cond.methodLink "TrapDeskLaw" (73 : Nat) ({ cls := "TrapDesk", name := "console", desc := "(I)I" } : Jvm.MethodName)) ∈ gtb := List.mem_filter.mpr ⟨List.mem_of_getElem? (i := 588) (by decide +kernel), rfl⟩
theorem q_589 : (Jvm.Cond.instanceMethod ({ cls := "TrapDesk", name := "console", desc := "(I)I" } : Jvm.MethodName)) ∈ gtb := List.mem_filter.mpr ⟨List.mem_of_getElem? (i := 589) (by decide +kernel), rfl⟩
theorem q_590 : (Jvm.Cond.selects "TrapDesk" ({ cls := "TrapDesk", name := "console", desc := "(I)I" } : Jvm.MethodName) ({ cls := "TrapDesk", name := "console", desc := "(I)I" } : Jvm.MethodName)) ∈ gtb := List.mem_filter.mpr ⟨List.mem_of_getElem? (i := 590) (by decide +kernel), rfl⟩
set_option maxRecDepth 20000 in
theorem q_843 : (Jvm.Cond.code ({ cls := "TrapDeskModel", name := "console", desc := "(I)I" } : Jvm.MethodName) prog_9_method_43_code (2 : Nat) (Option.some Jvm.ClassFile.FieldType.int)) ∈ gtb := List.mem_filter.mpr ⟨List.mem_of_getElem? (i := 843) (rfl), rfl⟩
theorem q_840 : (Jvm.Cond.methodLink "TrapDeskLaw" (76 : Nat) ({ cls := "TrapDeskModel", name := "console", desc := "(I)I" } : Jvm.MethodName)) ∈ gtb := List.mem_filter.mpr ⟨List.mem_of_getElem? (i := 840) (by decide +kernel), rfl⟩
theorem q_841 : (Jvm.Cond.instanceMethod ({ cls := "TrapDeskModel", name := "console", desc := "(I)I" } : Jvm.MethodName)) ∈ gtb := List.mem_filter.mpr ⟨List.mem_of_getElem? (i := 841) (by decide +kernel), rfl⟩
theorem q_842 : (Jvm.Cond.selects "TrapDeskModel" ({ cls := "TrapDeskModel", name := "console", desc := "(I)I" } : Jvm.MethodName) ({ cls := "TrapDeskModel", name := "console", desc := "(I)I" } : Jvm.MethodName)) ∈ gtb := List.mem_filter.mpr ⟨List.mem_of_getElem? (i := 842) (by decide +kernel), rfl⟩
theorem q_50 : (Jvm.Cond.instantiable "TrapDesk" (8 : Nat)) ∈ gtb := List.mem_filter.mpr ⟨List.mem_of_getElem? (i := 50) (by decide +kernel), rfl⟩
theorem q_597 : (Jvm.Cond.instantiable "TrapDeskModel" (23 : Nat)) ∈ gtb := List.mem_filter.mpr ⟨List.mem_of_getElem? (i := 597) (by decide +kernel), rfl⟩
theorem q_49 : (Jvm.Cond.classLink "TrapDeskLaw" (7 : Nat) "TrapDesk") ∈ gtb := List.mem_filter.mpr ⟨List.mem_of_getElem? (i := 49) (by decide +kernel), rfl⟩
set_option maxRecDepth 20000 in
theorem q_53 : (Jvm.Cond.code ({ cls := "TrapDesk", name := "<init>", desc := "()V" } : Jvm.MethodName) prog_1_method_1_code (1 : Nat) (Option.none : Option Jvm.ClassFile.FieldType)) ∈ gtb := List.mem_filter.mpr ⟨List.mem_of_getElem? (i := 53) (rfl), rfl⟩
theorem q_51 : (Jvm.Cond.methodLink "TrapDeskLaw" (9 : Nat) ({ cls := "TrapDesk", name := "<init>", desc := "()V" } : Jvm.MethodName)) ∈ gtb := List.mem_filter.mpr ⟨List.mem_of_getElem? (i := 51) (by decide +kernel), rfl⟩
theorem q_52 : (Jvm.Cond.instanceMethod ({ cls := "TrapDesk", name := "<init>", desc := "()V" } : Jvm.MethodName)) ∈ gtb := List.mem_filter.mpr ⟨List.mem_of_getElem? (i := 52) (by decide +kernel), rfl⟩
theorem q_596 : (Jvm.Cond.classLink "TrapDeskLaw" (10 : Nat) "TrapDeskModel") ∈ gtb := List.mem_filter.mpr ⟨List.mem_of_getElem? (i := 596) (by decide +kernel), rfl⟩
set_option maxRecDepth 20000 in
theorem q_600 : (Jvm.Cond.code ({ cls := "TrapDeskModel", name := "<init>", desc := "()V" } : Jvm.MethodName) prog_9_method_1_code (1 : Nat) (Option.none : Option Jvm.ClassFile.FieldType)) ∈ gtb := List.mem_filter.mpr ⟨List.mem_of_getElem? (i := 600) (rfl), rfl⟩
theorem q_598 : (Jvm.Cond.methodLink "TrapDeskLaw" (12 : Nat) ({ cls := "TrapDeskModel", name := "<init>", desc := "()V" } : Jvm.MethodName)) ∈ gtb := List.mem_filter.mpr ⟨List.mem_of_getElem? (i := 598) (by decide +kernel), rfl⟩
theorem q_599 : (Jvm.Cond.instanceMethod ({ cls := "TrapDeskModel", name := "<init>", desc := "()V" } : Jvm.MethodName)) ∈ gtb := List.mem_filter.mpr ⟨List.mem_of_getElem? (i := 599) (by decide +kernel), rfl⟩
