/-! methods on any state that keeps the invariant -/
/-- the model's reader: the position, the bytes -/
def Pm (σ : Sg) : Prop := 0 ≤ (σ.1 14039).toInt ∧ (σ.1 14039).toInt ≤ (σ.1 14037).toInt
theorem pm_p {σ : Sg} (h : Inv σ) (r : Pm σ) : inR (σ.1 14039) 0 160 := by
  have q := ti_in (iv_14037 h)
  have z : (160 : Int32).toInt = 160 := by decide
  have z0 : (0 : Int32).toInt = 0 := by decide
  obtain ⟨r1, r2⟩ := r
  exact of_ti (by omega) (by omega)

theorem dX9_nextToken_0 : decode cX9_nextToken 0 = .ok (.aload_n 0, 1) := by decide +kernel
theorem dX9_nextToken_1 : decode cX9_nextToken 1 = .ok (.getfield 257, 3) := by decide +kernel
theorem dX9_nextToken_4 : decode cX9_nextToken 4 = .ok (.aload_n 0, 1) := by decide +kernel
theorem dX9_nextToken_5 : decode cX9_nextToken 5 = .ok (.getfield 254, 3) := by decide +kernel
theorem dX9_nextToken_8 : decode cX9_nextToken 8 = .ok (.if_icmp .ge 30, 3) := by decide +kernel
theorem dX9_nextToken_11 : decode cX9_nextToken 11 = .ok (.aload_n 0, 1) := by decide +kernel
theorem dX9_nextToken_12 : decode cX9_nextToken 12 = .ok (.getfield 108, 3) := by decide +kernel
theorem dX9_nextToken_15 : decode cX9_nextToken 15 = .ok (.aload_n 0, 1) := by decide +kernel
theorem dX9_nextToken_16 : decode cX9_nextToken 16 = .ok (.getfield 257, 3) := by decide +kernel
theorem dX9_nextToken_19 : decode cX9_nextToken 19 = .ok (.iaload, 1) := by decide +kernel
theorem dX9_nextToken_20 : decode cX9_nextToken 20 = .ok (.bipush 32, 2) := by decide +kernel
theorem dX9_nextToken_22 : decode cX9_nextToken 22 = .ok (.if_icmp .ne 16, 3) := by decide +kernel
theorem dX9_nextToken_25 : decode cX9_nextToken 25 = .ok (.aload_n 0, 1) := by decide +kernel
theorem dX9_nextToken_26 : decode cX9_nextToken 26 = .ok (.dup, 1) := by decide +kernel
theorem dX9_nextToken_27 : decode cX9_nextToken 27 = .ok (.getfield 257, 3) := by decide +kernel
theorem dX9_nextToken_30 : decode cX9_nextToken 30 = .ok (.iconst 1, 1) := by decide +kernel
theorem dX9_nextToken_31 : decode cX9_nextToken 31 = .ok (.iadd, 1) := by decide +kernel
theorem dX9_nextToken_32 : decode cX9_nextToken 32 = .ok (.putfield 257, 3) := by decide +kernel
theorem dX9_nextToken_35 : decode cX9_nextToken 35 = .ok (.goto (-35), 3) := by decide +kernel
theorem dX9_nextToken_38 : decode cX9_nextToken 38 = .ok (.aload_n 0, 1) := by decide +kernel
theorem dX9_nextToken_39 : decode cX9_nextToken 39 = .ok (.aload_n 0, 1) := by decide +kernel
theorem dX9_nextToken_40 : decode cX9_nextToken 40 = .ok (.getfield 257, 3) := by decide +kernel
theorem dX9_nextToken_43 : decode cX9_nextToken 43 = .ok (.putfield 260, 3) := by decide +kernel
theorem dX9_nextToken_46 : decode cX9_nextToken 46 = .ok (.aload_n 0, 1) := by decide +kernel
theorem dX9_nextToken_47 : decode cX9_nextToken 47 = .ok (.iconst 0, 1) := by decide +kernel
theorem dX9_nextToken_48 : decode cX9_nextToken 48 = .ok (.putfield 263, 3) := by decide +kernel
theorem dX9_nextToken_51 : decode cX9_nextToken 51 = .ok (.aload_n 0, 1) := by decide +kernel
theorem dX9_nextToken_52 : decode cX9_nextToken 52 = .ok (.iconst 0, 1) := by decide +kernel
theorem dX9_nextToken_53 : decode cX9_nextToken 53 = .ok (.putfield 266, 3) := by decide +kernel
theorem dX9_nextToken_56 : decode cX9_nextToken 56 = .ok (.aload_n 0, 1) := by decide +kernel
theorem dX9_nextToken_57 : decode cX9_nextToken 57 = .ok (.getfield 257, 3) := by decide +kernel
theorem dX9_nextToken_60 : decode cX9_nextToken 60 = .ok (.aload_n 0, 1) := by decide +kernel
theorem dX9_nextToken_61 : decode cX9_nextToken 61 = .ok (.getfield 254, 3) := by decide +kernel
theorem dX9_nextToken_64 : decode cX9_nextToken 64 = .ok (.if_icmp .ne 13, 3) := by decide +kernel
theorem dX9_nextToken_67 : decode cX9_nextToken 67 = .ok (.aload_n 0, 1) := by decide +kernel
theorem dX9_nextToken_68 : decode cX9_nextToken 68 = .ok (.ldc2_w 269, 3) := by decide +kernel
theorem dX9_nextToken_71 : decode cX9_nextToken 71 = .ok (.putfield 271, 3) := by decide +kernel
theorem dX9_nextToken_74 : decode cX9_nextToken 74 = .ok (.goto 320, 3) := by decide +kernel
theorem dX9_nextToken_77 : decode cX9_nextToken 77 = .ok (.aload_n 0, 1) := by decide +kernel
theorem dX9_nextToken_78 : decode cX9_nextToken 78 = .ok (.getfield 108, 3) := by decide +kernel
theorem dX9_nextToken_81 : decode cX9_nextToken 81 = .ok (.aload_n 0, 1) := by decide +kernel
theorem dX9_nextToken_82 : decode cX9_nextToken 82 = .ok (.getfield 257, 3) := by decide +kernel
theorem dX9_nextToken_85 : decode cX9_nextToken 85 = .ok (.iaload, 1) := by decide +kernel
theorem dX9_nextToken_86 : decode cX9_nextToken 86 = .ok (.bipush 97, 2) := by decide +kernel
theorem dX9_nextToken_88 : decode cX9_nextToken 88 = .ok (.bipush 122, 2) := by decide +kernel
theorem dX9_nextToken_90 : decode cX9_nextToken 90 = .ok (.invokestatic 124, 3) := by decide +kernel
theorem dX9_nextToken_93 : decode cX9_nextToken 93 = .ok (.ifCond .eq 129, 3) := by decide +kernel
theorem dX9_nextToken_96 : decode cX9_nextToken 96 = .ok (.aload_n 0, 1) := by decide +kernel
theorem dX9_nextToken_97 : decode cX9_nextToken 97 = .ok (.lconst 0, 1) := by decide +kernel
theorem dX9_nextToken_98 : decode cX9_nextToken 98 = .ok (.putfield 271, 3) := by decide +kernel
theorem dX9_nextToken_101 : decode cX9_nextToken 101 = .ok (.aload_n 0, 1) := by decide +kernel
theorem dX9_nextToken_102 : decode cX9_nextToken 102 = .ok (.getfield 257, 3) := by decide +kernel
theorem dX9_nextToken_105 : decode cX9_nextToken 105 = .ok (.aload_n 0, 1) := by decide +kernel
theorem dX9_nextToken_106 : decode cX9_nextToken 106 = .ok (.getfield 254, 3) := by decide +kernel
theorem dX9_nextToken_109 : decode cX9_nextToken 109 = .ok (.if_icmp .ge 82, 3) := by decide +kernel
theorem dX9_nextToken_112 : decode cX9_nextToken 112 = .ok (.aload_n 0, 1) := by decide +kernel
theorem dX9_nextToken_113 : decode cX9_nextToken 113 = .ok (.getfield 108, 3) := by decide +kernel
theorem dX9_nextToken_116 : decode cX9_nextToken 116 = .ok (.aload_n 0, 1) := by decide +kernel
theorem dX9_nextToken_117 : decode cX9_nextToken 117 = .ok (.getfield 257, 3) := by decide +kernel
theorem dX9_nextToken_120 : decode cX9_nextToken 120 = .ok (.iaload, 1) := by decide +kernel
theorem dX9_nextToken_121 : decode cX9_nextToken 121 = .ok (.bipush 97, 2) := by decide +kernel
theorem dX9_nextToken_123 : decode cX9_nextToken 123 = .ok (.bipush 122, 2) := by decide +kernel
theorem dX9_nextToken_125 : decode cX9_nextToken 125 = .ok (.invokestatic 124, 3) := by decide +kernel
theorem dX9_nextToken_128 : decode cX9_nextToken 128 = .ok (.ifCond .eq 63, 3) := by decide +kernel
theorem dX9_nextToken_131 : decode cX9_nextToken 131 = .ok (.aload_n 0, 1) := by decide +kernel
theorem dX9_nextToken_132 : decode cX9_nextToken 132 = .ok (.aload_n 0, 1) := by decide +kernel
theorem dX9_nextToken_133 : decode cX9_nextToken 133 = .ok (.getfield 257, 3) := by decide +kernel
theorem dX9_nextToken_136 : decode cX9_nextToken 136 = .ok (.aload_n 0, 1) := by decide +kernel
theorem dX9_nextToken_137 : decode cX9_nextToken 137 = .ok (.getfield 260, 3) := by decide +kernel
theorem dX9_nextToken_140 : decode cX9_nextToken 140 = .ok (.isub, 1) := by decide +kernel
theorem dX9_nextToken_141 : decode cX9_nextToken 141 = .ok (.bipush 9, 2) := by decide +kernel
theorem dX9_nextToken_143 : decode cX9_nextToken 143 = .ok (.if_icmp .ge 29, 3) := by decide +kernel
theorem dX9_nextToken_146 : decode cX9_nextToken 146 = .ok (.ldc2_w 274, 3) := by decide +kernel
theorem dX9_nextToken_149 : decode cX9_nextToken 149 = .ok (.aload_n 0, 1) := by decide +kernel
theorem dX9_nextToken_150 : decode cX9_nextToken 150 = .ok (.getfield 271, 3) := by decide +kernel
theorem dX9_nextToken_153 : decode cX9_nextToken 153 = .ok (.lmul, 1) := by decide +kernel
theorem dX9_nextToken_154 : decode cX9_nextToken 154 = .ok (.aload_n 0, 1) := by decide +kernel
theorem dX9_nextToken_155 : decode cX9_nextToken 155 = .ok (.getfield 108, 3) := by decide +kernel
theorem dX9_nextToken_158 : decode cX9_nextToken 158 = .ok (.aload_n 0, 1) := by decide +kernel
theorem dX9_nextToken_159 : decode cX9_nextToken 159 = .ok (.getfield 257, 3) := by decide +kernel
theorem dX9_nextToken_162 : decode cX9_nextToken 162 = .ok (.iaload, 1) := by decide +kernel
theorem dX9_nextToken_163 : decode cX9_nextToken 163 = .ok (.i2l, 1) := by decide +kernel
theorem dX9_nextToken_164 : decode cX9_nextToken 164 = .ok (.ladd, 1) := by decide +kernel
theorem dX9_nextToken_165 : decode cX9_nextToken 165 = .ok (.ldc2_w 276, 3) := by decide +kernel
theorem dX9_nextToken_168 : decode cX9_nextToken 168 = .ok (.lsub, 1) := by decide +kernel
theorem dX9_nextToken_169 : decode cX9_nextToken 169 = .ok (.goto 6, 3) := by decide +kernel
theorem dX9_nextToken_172 : decode cX9_nextToken 172 = .ok (.ldc2_w 278, 3) := by decide +kernel
theorem dX9_nextToken_175 : decode cX9_nextToken 175 = .ok (.putfield 271, 3) := by decide +kernel
theorem dX9_nextToken_178 : decode cX9_nextToken 178 = .ok (.aload_n 0, 1) := by decide +kernel
theorem dX9_nextToken_179 : decode cX9_nextToken 179 = .ok (.dup, 1) := by decide +kernel
theorem dX9_nextToken_180 : decode cX9_nextToken 180 = .ok (.getfield 257, 3) := by decide +kernel
theorem dX9_nextToken_183 : decode cX9_nextToken 183 = .ok (.iconst 1, 1) := by decide +kernel
theorem dX9_nextToken_184 : decode cX9_nextToken 184 = .ok (.iadd, 1) := by decide +kernel
theorem dX9_nextToken_185 : decode cX9_nextToken 185 = .ok (.putfield 257, 3) := by decide +kernel
theorem dX9_nextToken_188 : decode cX9_nextToken 188 = .ok (.goto (-87), 3) := by decide +kernel
theorem dX9_nextToken_191 : decode cX9_nextToken 191 = .ok (.aload_n 0, 1) := by decide +kernel
theorem dX9_nextToken_192 : decode cX9_nextToken 192 = .ok (.aload_n 0, 1) := by decide +kernel
theorem dX9_nextToken_193 : decode cX9_nextToken 193 = .ok (.getfield 257, 3) := by decide +kernel
theorem dX9_nextToken_196 : decode cX9_nextToken 196 = .ok (.aload_n 0, 1) := by decide +kernel
theorem dX9_nextToken_197 : decode cX9_nextToken 197 = .ok (.getfield 260, 3) := by decide +kernel
theorem dX9_nextToken_200 : decode cX9_nextToken 200 = .ok (.isub, 1) := by decide +kernel
theorem dX9_nextToken_201 : decode cX9_nextToken 201 = .ok (.bipush 9, 2) := by decide +kernel
theorem dX9_nextToken_203 : decode cX9_nextToken 203 = .ok (.if_icmp .le 9, 3) := by decide +kernel
theorem dX9_nextToken_206 : decode cX9_nextToken 206 = .ok (.ldc2_w 278, 3) := by decide +kernel
theorem dX9_nextToken_209 : decode cX9_nextToken 209 = .ok (.goto 7, 3) := by decide +kernel
theorem dX9_nextToken_212 : decode cX9_nextToken 212 = .ok (.aload_n 0, 1) := by decide +kernel
theorem dX9_nextToken_213 : decode cX9_nextToken 213 = .ok (.getfield 271, 3) := by decide +kernel
theorem dX9_nextToken_216 : decode cX9_nextToken 216 = .ok (.putfield 271, 3) := by decide +kernel
theorem dX9_nextToken_219 : decode cX9_nextToken 219 = .ok (.goto 175, 3) := by decide +kernel
theorem dX9_nextToken_222 : decode cX9_nextToken 222 = .ok (.aload_n 0, 1) := by decide +kernel
theorem dX9_nextToken_223 : decode cX9_nextToken 223 = .ok (.getfield 108, 3) := by decide +kernel
theorem dX9_nextToken_226 : decode cX9_nextToken 226 = .ok (.aload_n 0, 1) := by decide +kernel
theorem dX9_nextToken_227 : decode cX9_nextToken 227 = .ok (.getfield 257, 3) := by decide +kernel
theorem dX9_nextToken_230 : decode cX9_nextToken 230 = .ok (.iaload, 1) := by decide +kernel
theorem dX9_nextToken_231 : decode cX9_nextToken 231 = .ok (.bipush 48, 2) := by decide +kernel
theorem dX9_nextToken_233 : decode cX9_nextToken 233 = .ok (.bipush 57, 2) := by decide +kernel
theorem dX9_nextToken_235 : decode cX9_nextToken 235 = .ok (.invokestatic 124, 3) := by decide +kernel
theorem dX9_nextToken_238 : decode cX9_nextToken 238 = .ok (.ifCond .eq 119, 3) := by decide +kernel
theorem dX9_nextToken_241 : decode cX9_nextToken 241 = .ok (.aload_n 0, 1) := by decide +kernel
theorem dX9_nextToken_242 : decode cX9_nextToken 242 = .ok (.getfield 257, 3) := by decide +kernel
theorem dX9_nextToken_245 : decode cX9_nextToken 245 = .ok (.aload_n 0, 1) := by decide +kernel
theorem dX9_nextToken_246 : decode cX9_nextToken 246 = .ok (.getfield 254, 3) := by decide +kernel
theorem dX9_nextToken_249 : decode cX9_nextToken 249 = .ok (.if_icmp .ge 84, 3) := by decide +kernel
theorem dX9_nextToken_252 : decode cX9_nextToken 252 = .ok (.aload_n 0, 1) := by decide +kernel
theorem dX9_nextToken_253 : decode cX9_nextToken 253 = .ok (.getfield 108, 3) := by decide +kernel
theorem dX9_nextToken_256 : decode cX9_nextToken 256 = .ok (.aload_n 0, 1) := by decide +kernel
theorem dX9_nextToken_257 : decode cX9_nextToken 257 = .ok (.getfield 257, 3) := by decide +kernel
theorem dX9_nextToken_260 : decode cX9_nextToken 260 = .ok (.iaload, 1) := by decide +kernel
theorem dX9_nextToken_261 : decode cX9_nextToken 261 = .ok (.bipush 48, 2) := by decide +kernel
theorem dX9_nextToken_263 : decode cX9_nextToken 263 = .ok (.bipush 57, 2) := by decide +kernel
theorem dX9_nextToken_265 : decode cX9_nextToken 265 = .ok (.invokestatic 124, 3) := by decide +kernel
theorem dX9_nextToken_268 : decode cX9_nextToken 268 = .ok (.ifCond .eq 65, 3) := by decide +kernel
theorem dX9_nextToken_271 : decode cX9_nextToken 271 = .ok (.aload_n 0, 1) := by decide +kernel
theorem dX9_nextToken_272 : decode cX9_nextToken 272 = .ok (.aload_n 0, 1) := by decide +kernel
theorem dX9_nextToken_273 : decode cX9_nextToken 273 = .ok (.getfield 263, 3) := by decide +kernel
theorem dX9_nextToken_276 : decode cX9_nextToken 276 = .ok (.iconst 5, 1) := by decide +kernel
theorem dX9_nextToken_277 : decode cX9_nextToken 277 = .ok (.if_icmp .ge 26, 3) := by decide +kernel
theorem dX9_nextToken_280 : decode cX9_nextToken 280 = .ok (.bipush 10, 2) := by decide +kernel
theorem dX9_nextToken_282 : decode cX9_nextToken 282 = .ok (.aload_n 0, 1) := by decide +kernel
theorem dX9_nextToken_283 : decode cX9_nextToken 283 = .ok (.getfield 266, 3) := by decide +kernel
theorem dX9_nextToken_286 : decode cX9_nextToken 286 = .ok (.imul, 1) := by decide +kernel
theorem dX9_nextToken_287 : decode cX9_nextToken 287 = .ok (.aload_n 0, 1) := by decide +kernel
theorem dX9_nextToken_288 : decode cX9_nextToken 288 = .ok (.getfield 108, 3) := by decide +kernel
theorem dX9_nextToken_291 : decode cX9_nextToken 291 = .ok (.aload_n 0, 1) := by decide +kernel
theorem dX9_nextToken_292 : decode cX9_nextToken 292 = .ok (.getfield 257, 3) := by decide +kernel
theorem dX9_nextToken_295 : decode cX9_nextToken 295 = .ok (.iaload, 1) := by decide +kernel
theorem dX9_nextToken_296 : decode cX9_nextToken 296 = .ok (.iadd, 1) := by decide +kernel
theorem dX9_nextToken_297 : decode cX9_nextToken 297 = .ok (.bipush 48, 2) := by decide +kernel
theorem dX9_nextToken_299 : decode cX9_nextToken 299 = .ok (.isub, 1) := by decide +kernel
theorem dX9_nextToken_300 : decode cX9_nextToken 300 = .ok (.goto 7, 3) := by decide +kernel
theorem dX9_nextToken_303 : decode cX9_nextToken 303 = .ok (.aload_n 0, 1) := by decide +kernel
theorem dX9_nextToken_304 : decode cX9_nextToken 304 = .ok (.getfield 266, 3) := by decide +kernel
theorem dX9_nextToken_307 : decode cX9_nextToken 307 = .ok (.putfield 266, 3) := by decide +kernel
theorem dX9_nextToken_310 : decode cX9_nextToken 310 = .ok (.aload_n 0, 1) := by decide +kernel
theorem dX9_nextToken_311 : decode cX9_nextToken 311 = .ok (.dup, 1) := by decide +kernel
theorem dX9_nextToken_312 : decode cX9_nextToken 312 = .ok (.getfield 263, 3) := by decide +kernel
theorem dX9_nextToken_315 : decode cX9_nextToken 315 = .ok (.iconst 1, 1) := by decide +kernel
theorem dX9_nextToken_316 : decode cX9_nextToken 316 = .ok (.iadd, 1) := by decide +kernel
theorem dX9_nextToken_317 : decode cX9_nextToken 317 = .ok (.putfield 263, 3) := by decide +kernel
theorem dX9_nextToken_320 : decode cX9_nextToken 320 = .ok (.aload_n 0, 1) := by decide +kernel
theorem dX9_nextToken_321 : decode cX9_nextToken 321 = .ok (.dup, 1) := by decide +kernel
theorem dX9_nextToken_322 : decode cX9_nextToken 322 = .ok (.getfield 257, 3) := by decide +kernel
theorem dX9_nextToken_325 : decode cX9_nextToken 325 = .ok (.iconst 1, 1) := by decide +kernel
theorem dX9_nextToken_326 : decode cX9_nextToken 326 = .ok (.iadd, 1) := by decide +kernel
theorem dX9_nextToken_327 : decode cX9_nextToken 327 = .ok (.putfield 257, 3) := by decide +kernel
theorem dX9_nextToken_330 : decode cX9_nextToken 330 = .ok (.goto (-89), 3) := by decide +kernel
theorem dX9_nextToken_333 : decode cX9_nextToken 333 = .ok (.aload_n 0, 1) := by decide +kernel
theorem dX9_nextToken_334 : decode cX9_nextToken 334 = .ok (.aload_n 0, 1) := by decide +kernel
theorem dX9_nextToken_335 : decode cX9_nextToken 335 = .ok (.getfield 263, 3) := by decide +kernel
theorem dX9_nextToken_338 : decode cX9_nextToken 338 = .ok (.iconst 5, 1) := by decide +kernel
theorem dX9_nextToken_339 : decode cX9_nextToken 339 = .ok (.if_icmp .le 9, 3) := by decide +kernel
theorem dX9_nextToken_342 : decode cX9_nextToken 342 = .ok (.ldc2_w 278, 3) := by decide +kernel
theorem dX9_nextToken_345 : decode cX9_nextToken 345 = .ok (.goto 6, 3) := by decide +kernel
theorem dX9_nextToken_348 : decode cX9_nextToken 348 = .ok (.ldc2_w 252, 3) := by decide +kernel
theorem dX9_nextToken_351 : decode cX9_nextToken 351 = .ok (.putfield 271, 3) := by decide +kernel
theorem dX9_nextToken_354 : decode cX9_nextToken 354 = .ok (.goto 40, 3) := by decide +kernel
theorem dX9_nextToken_357 : decode cX9_nextToken 357 = .ok (.aload_n 0, 1) := by decide +kernel
theorem dX9_nextToken_358 : decode cX9_nextToken 358 = .ok (.aload_n 0, 1) := by decide +kernel
theorem dX9_nextToken_359 : decode cX9_nextToken 359 = .ok (.getfield 108, 3) := by decide +kernel
theorem dX9_nextToken_362 : decode cX9_nextToken 362 = .ok (.aload_n 0, 1) := by decide +kernel
theorem dX9_nextToken_363 : decode cX9_nextToken 363 = .ok (.getfield 257, 3) := by decide +kernel
theorem dX9_nextToken_366 : decode cX9_nextToken 366 = .ok (.iaload, 1) := by decide +kernel
theorem dX9_nextToken_367 : decode cX9_nextToken 367 = .ok (.bipush 59, 2) := by decide +kernel
theorem dX9_nextToken_369 : decode cX9_nextToken 369 = .ok (.if_icmp .ne 9, 3) := by decide +kernel
theorem dX9_nextToken_372 : decode cX9_nextToken 372 = .ok (.ldc2_w 280, 3) := by decide +kernel
theorem dX9_nextToken_375 : decode cX9_nextToken 375 = .ok (.goto 6, 3) := by decide +kernel
theorem dX9_nextToken_378 : decode cX9_nextToken 378 = .ok (.ldc2_w 278, 3) := by decide +kernel
theorem dX9_nextToken_381 : decode cX9_nextToken 381 = .ok (.putfield 271, 3) := by decide +kernel
theorem dX9_nextToken_384 : decode cX9_nextToken 384 = .ok (.aload_n 0, 1) := by decide +kernel
theorem dX9_nextToken_385 : decode cX9_nextToken 385 = .ok (.dup, 1) := by decide +kernel
theorem dX9_nextToken_386 : decode cX9_nextToken 386 = .ok (.getfield 257, 3) := by decide +kernel
theorem dX9_nextToken_389 : decode cX9_nextToken 389 = .ok (.iconst 1, 1) := by decide +kernel
theorem dX9_nextToken_390 : decode cX9_nextToken 390 = .ok (.iadd, 1) := by decide +kernel
theorem dX9_nextToken_391 : decode cX9_nextToken 391 = .ok (.putfield 257, 3) := by decide +kernel
theorem dX9_nextToken_394 : decode cX9_nextToken 394 = .ok (.return_, 1) := by decide +kernel
set_option maxRecDepth 100000 in
set_option maxHeartbeats 40000000 in
theorem gx_X9_nextToken {G : vG} {l : Launch} (σ : Sg)  (hI : Inv σ) (hP : Pm σ) : Sp G l yX9_nextToken cX9_nextToken 1 none 1 0 0 [.ref 140] (WW σ) (QV (fun w2 => ∃ σ2, w2 = WW σ2 ∧ Inv σ2 ∧ Cor σ σ2 ∧ Pm σ2 ∧ σ2.1 14045 = σ.1 14045)) := by
  refine Sp_of_R [(some (.ref 140))] [] rfl (by simp) rfl (Nat.le_of_ble_eq_true rfl) ?_
  have HL0 : ∀ (q : Nat) (σ0 : Sg), (σ0.1 14039).toInt + (q : Int) = 160 → inR (σ0.1 14039) 0 160 → Inv σ0 → Cor σ σ0 → Pm σ0 → σ0.1 14045 = σ.1 14045 → R G l yX9_nextToken cX9_nextToken 1 none 1 0 0 (QV (fun w2 => ∃ σ2, w2 = WW σ2 ∧ Inv σ2 ∧ Cor σ σ2 ∧ Pm σ2 ∧ σ2.1 14045 = σ.1 14045)) 0 [(some (.ref 140))] [] (WW σ0) 0 0 := by
    intro q
    induction q with
    | zero =>
      intro σ0 hj0 hrg0 hI0 hC0 hX0_0 hX0_1
      have hM0_ : inR (σ0.1 14039) 160 160 := of_ti (by have z : (160 : Int32).toInt = 160 := (by decide); omega) (by have z : (160 : Int32).toInt = 160 := (by decide); omega)
      refine R_aload_n (pc := 0) dX9_nextToken_0 rfl rfl ?_
      refine g_X9_257 (pc := 1) (v := .int (σ0.1 14039)) rfl dX9_nextToken_1 (c_140 _) rfl ?_
      refine R_aload_n (pc := 4) dX9_nextToken_4 rfl rfl ?_
      refine g_X9_254 (pc := 5) (v := .int (σ0.1 14037)) rfl dX9_nextToken_5 (c_140 _) rfl ?_
      refine R_icge (pc := 8) 38 dX9_nextToken_8 (by decide) (fun _ => ?_) (fun h => False.elim (by have q1 := ti_nle h; have q2 := ti_in (show inR (σ0.1 14039) 160 160 from hM0_); have q3 := ti_in (show inR (σ0.1 14037) 0 160 from (iv_14037 hI0)); have z0 : (0 : Int32).toInt = 0 := (by decide);  have z1 : (14037 : Int32).toInt = 14037 := (by decide);  have z2 : (14039 : Int32).toInt = 14039 := (by decide);  have z3 : (160 : Int32).toInt = 160 := (by decide); omega))
      refine R_aload_n (pc := 38) dX9_nextToken_38 rfl rfl ?_
      refine R_aload_n (pc := 39) dX9_nextToken_39 rfl rfl ?_
      refine g_X9_257 (pc := 40) (v := .int (σ0.1 14039)) rfl dX9_nextToken_40 (c_140 _) rfl ?_
      refine p_X9_260 (pc := 43) rfl dX9_nextToken_43 (c_140 _) (Nat.le_of_ble_eq_true rfl) rfl rfl (s_140_40 _ _) ?_
      have hW2 := cor_si 14040 (σ0.1 14039) hC0 rfl
      refine R_aload_n (pc := 46) dX9_nextToken_46 rfl rfl ?_
      refine R_iconst (pc := 47) (v := 0) dX9_nextToken_47 (by decide) ?_
      refine p_X9_263 (pc := 48) rfl dX9_nextToken_48 (c_140 _) (Nat.le_of_ble_eq_true rfl) rfl rfl (s_140_42 _ _) ?_
      have hW3 := cor_si 14042 0 hW2 rfl
      refine R_aload_n (pc := 51) dX9_nextToken_51 rfl rfl ?_
      refine R_iconst (pc := 52) (v := 0) dX9_nextToken_52 (by decide) ?_
      refine p_X9_266 (pc := 53) rfl dX9_nextToken_53 (c_140 _) (Nat.le_of_ble_eq_true rfl) rfl rfl (s_140_43 _ _) ?_
      have hW4 := cor_si 14043 0 hW3 rfl
      refine R_aload_n (pc := 56) dX9_nextToken_56 rfl rfl ?_
      refine g_X9_257 (pc := 57) (v := .int (σ0.1 14039)) rfl dX9_nextToken_57 (c_140 _) rfl ?_
      refine R_aload_n (pc := 60) dX9_nextToken_60 rfl rfl ?_
      refine g_X9_254 (pc := 61) (v := .int (σ0.1 14037)) rfl dX9_nextToken_61 (c_140 _) rfl ?_
      refine R_icne (pc := 64) 77 dX9_nextToken_64 (by decide) (fun b64_5 => ?_) (fun b64_5 => ?_)
      · skip
        refine R_aload_n (pc := 77) dX9_nextToken_77 rfl rfl ?_
        refine g_X9_108 (pc := 78) (v := .ref 170) rfl dX9_nextToken_78 (c_140 _) rfl ?_
        refine R_aload_n (pc := 81) dX9_nextToken_81 rfl rfl ?_
        refine g_X9_257 (pc := 82) (v := .int (σ0.1 14039)) rfl dX9_nextToken_82 (c_140 _) rfl ?_
        have hx6 : vp_in (σ0.1 14039) 160 := (vp_ti (by have q0 := hP.1; have q1 := hP.2; have q2 := hX0_0.1; have q3 := hX0_0.2; have q4 := ti_ne b64_5; have q5 := ti_in (pm_p hI hP); have q6 := ti_in (iv_14037 hI); have q7 := ti_in hM0_; have q8 := ti_in (iv_14037 hI0); have z0 : (0 : Int32).toInt = 0 := (by decide); have z1 : (1 : Int32).toInt = 1 := (by decide); have z2 : (14037 : Int32).toInt = 14037 := (by decide); have z3 : (14039 : Int32).toInt = 14039 := (by decide); have z4 : (160 : Int32).toInt = 160 := (by decide); omega) (by have q0 := hP.1; have q1 := hP.2; have q2 := hX0_0.1; have q3 := hX0_0.2; have q4 := ti_ne b64_5; have q5 := ti_in (pm_p hI hP); have q6 := ti_in (iv_14037 hI); have q7 := ti_in hM0_; have q8 := ti_in (iv_14037 hI0); have z0 : (0 : Int32).toInt = 0 := (by decide); have z1 : (1 : Int32).toInt = 1 := (by decide); have z2 : (14037 : Int32).toInt = 14037 := (by decide); have z3 : (14039 : Int32).toInt = 14039 := (by decide); have z4 : (160 : Int32).toInt = 160 := (by decide); omega))
        refine W_iaload (pc := 85) (σ0.2.2.1 170 (Int32.toNatClampNeg (σ0.1 14039))) dX9_nextToken_85 (c_170 _) hx6 rfl ?_
        refine R_bipush (pc := 86) (v := 97) dX9_nextToken_86 (by decide) ?_
        refine R_bipush (pc := 88) (v := 122) dX9_nextToken_88 (by decide) ?_
        refine k_X9_124 (pc := 90) (sp_X9_in _ _ _ _) rfl (by decide) (Nat.le_refl _) (Nat.le_refl _) (Nat.le_of_ble_eq_true rfl) dX9_nextToken_90 (fun x w2 h => ?_)
        rcases h with ⟨rfl, ⟨h7, rfl⟩ | ⟨h7, rfl⟩⟩
        · skip
          refine R_ifeq (pc := 93) 222 dX9_nextToken_93 (by decide) (fun h => absurd h (by decide)) (fun _ => ?_)
          refine R_aload_n (pc := 96) dX9_nextToken_96 rfl rfl ?_
          refine R_lconst (pc := 97) (v := 0) dX9_nextToken_97 (by decide) ?_
          refine p_X9_271 (pc := 98) rfl dX9_nextToken_98 (c_140 _) (Nat.le_of_ble_eq_true rfl) rfl rfl (s_140_41 _ _) ?_
          have hW9 := cor_sj 14041 0 hW4 rfl
          have HL101 : ∀ (q : Nat) (σ101 : Sg), (σ101.1 14039).toInt + (q : Int) = 160 → inR (σ101.1 14039) 0 160 → Inv σ101 → Cor σ σ101 → Pm σ101 → σ101.1 14045 = σ.1 14045 → R G l yX9_nextToken cX9_nextToken 1 none 1 0 0 (QV (fun w2 => ∃ σ2, w2 = WW σ2 ∧ Inv σ2 ∧ Cor σ σ2 ∧ Pm σ2 ∧ σ2.1 14045 = σ.1 14045)) 101 [(some (.ref 140))] [] (WW σ101) 0 0 := by
            intro q
            induction q with
            | zero =>
              intro σ101 hj101 hrg101 hI101 hC101 hX101_0 hX101_1
              have hM101_ : inR (σ101.1 14039) 160 160 := of_ti (by have z : (160 : Int32).toInt = 160 := (by decide); omega) (by have z : (160 : Int32).toInt = 160 := (by decide); omega)
              refine R_aload_n (pc := 101) dX9_nextToken_101 rfl rfl ?_
              refine g_X9_257 (pc := 102) (v := .int (σ101.1 14039)) rfl dX9_nextToken_102 (c_140 _) rfl ?_
              refine R_aload_n (pc := 105) dX9_nextToken_105 rfl rfl ?_
              refine g_X9_254 (pc := 106) (v := .int (σ101.1 14037)) rfl dX9_nextToken_106 (c_140 _) rfl ?_
              refine R_icge (pc := 109) 191 dX9_nextToken_109 (by decide) (fun _ => ?_) (fun h => False.elim (by have q1 := ti_nle h; have q2 := ti_in (show inR (σ101.1 14039) 160 160 from hM101_); have q3 := ti_in (show inR (σ101.1 14037) 0 160 from (iv_14037 hI101)); have z0 : (0 : Int32).toInt = 0 := (by decide);  have z1 : (14037 : Int32).toInt = 14037 := (by decide);  have z2 : (14039 : Int32).toInt = 14039 := (by decide);  have z3 : (160 : Int32).toInt = 160 := (by decide); omega))
              refine R_aload_n (pc := 191) dX9_nextToken_191 rfl rfl ?_
              refine R_aload_n (pc := 192) dX9_nextToken_192 rfl rfl ?_
              refine g_X9_257 (pc := 193) (v := .int (σ101.1 14039)) rfl dX9_nextToken_193 (c_140 _) rfl ?_
              refine R_aload_n (pc := 196) dX9_nextToken_196 rfl rfl ?_
              refine g_X9_260 (pc := 197) (v := .int (σ101.1 14040)) rfl dX9_nextToken_197 (c_140 _) rfl ?_
              refine R_isub (pc := 200) dX9_nextToken_200 ?_
              refine R_bipush (pc := 201) (v := 9) dX9_nextToken_201 (by decide) ?_
              refine R_icle (pc := 203) 212 dX9_nextToken_203 (by decide) (fun b203_11 => ?_) (fun b203_11 => ?_)
              · skip
                refine R_aload_n (pc := 212) dX9_nextToken_212 rfl rfl ?_
                refine g_X9_271 (pc := 213) (v := .long (σ101.2.1 14041)) rfl dX9_nextToken_213 (c_140 _) rfl ?_
                refine p_X9_271 (pc := 216) rfl dX9_nextToken_216 (c_140 _) (Nat.le_of_ble_eq_true rfl) rfl rfl (s_140_41 _ _) ?_
                have hW12 := cor_sj 14041 (σ101.2.1 14041) hC101 rfl
                refine R_goto (pc := 219) 394 dX9_nextToken_219 (by decide) ?_
                exact R_vret (pc := 394) dX9_nextToken_394 rfl (Nat.zero_le _) (Nat.zero_le _) ⟨rfl, _, rfl, hI101, hW12, (show Pm (uJ σ101 14041 (σ101.2.1 14041)) from ⟨(show 0 ≤ ((σ101.1 14039) : Int32).toInt from by have q0 := hP.1; have q1 := hP.2; have q2 := hX0_0.1; have q3 := hX0_0.2; have q4 := hX101_0.1; have q5 := hX101_0.2; have q6 := ti_ne b64_5; have q7 := ti_le b203_11; have q8 := ti_in (pm_p hI hP); have q9 := ti_in (iv_14037 hI); have q10 := ti_in hM0_; have q11 := ti_in (iv_14037 hI0); have q12 := ti_in h7; have q13 := ti_in hM101_; have q14 := ti_in (iv_14037 hI101); have z0 : (0 : Int32).toInt = 0 := (by decide); have z1 : (1 : Int32).toInt = 1 := (by decide); have z2 : (122 : Int32).toInt = 122 := (by decide); have z3 : (14037 : Int32).toInt = 14037 := (by decide); have z4 : (14039 : Int32).toInt = 14039 := (by decide); have z5 : (14040 : Int32).toInt = 14040 := (by decide); have z6 : (160 : Int32).toInt = 160 := (by decide); have z7 : (9 : Int32).toInt = 9 := (by decide); have z8 : (97 : Int32).toInt = 97 := (by decide); omega), (show ((σ101.1 14039) : Int32).toInt ≤ ((σ101.1 14037) : Int32).toInt from by have q0 := hP.1; have q1 := hP.2; have q2 := hX0_0.1; have q3 := hX0_0.2; have q4 := hX101_0.1; have q5 := hX101_0.2; have q6 := ti_ne b64_5; have q7 := ti_le b203_11; have q8 := ti_in (pm_p hI hP); have q9 := ti_in (iv_14037 hI); have q10 := ti_in hM0_; have q11 := ti_in (iv_14037 hI0); have q12 := ti_in h7; have q13 := ti_in hM101_; have q14 := ti_in (iv_14037 hI101); have z0 : (0 : Int32).toInt = 0 := (by decide); have z1 : (1 : Int32).toInt = 1 := (by decide); have z2 : (122 : Int32).toInt = 122 := (by decide); have z3 : (14037 : Int32).toInt = 14037 := (by decide); have z4 : (14039 : Int32).toInt = 14039 := (by decide); have z5 : (14040 : Int32).toInt = 14040 := (by decide); have z6 : (160 : Int32).toInt = 160 := (by decide); have z7 : (9 : Int32).toInt = 9 := (by decide); have z8 : (97 : Int32).toInt = 97 := (by decide); omega)⟩), hX101_1⟩
              · skip
                refine R_ldc2 (pc := 206) w_1245c dX9_nextToken_206 ?_
                refine R_goto (pc := 209) 216 dX9_nextToken_209 (by decide) ?_
                refine p_X9_271 (pc := 216) rfl dX9_nextToken_216 (c_140 _) (Nat.le_of_ble_eq_true rfl) rfl rfl (s_140_41 _ _) ?_
                have hW13 := cor_sj 14041 (-4) hC101 rfl
                refine R_goto (pc := 219) 394 dX9_nextToken_219 (by decide) ?_
                exact R_vret (pc := 394) dX9_nextToken_394 rfl (Nat.zero_le _) (Nat.zero_le _) ⟨rfl, _, rfl, hI101, hW13, (show Pm (uJ σ101 14041 (-4)) from ⟨(show 0 ≤ ((σ101.1 14039) : Int32).toInt from by have q0 := hP.1; have q1 := hP.2; have q2 := hX0_0.1; have q3 := hX0_0.2; have q4 := hX101_0.1; have q5 := hX101_0.2; have q6 := ti_ne b64_5; have q7 := ti_nle b203_11; have q8 := ti_in (pm_p hI hP); have q9 := ti_in (iv_14037 hI); have q10 := ti_in hM0_; have q11 := ti_in (iv_14037 hI0); have q12 := ti_in h7; have q13 := ti_in hM101_; have q14 := ti_in (iv_14037 hI101); have z0 : (0 : Int32).toInt = 0 := (by decide); have z1 : (1 : Int32).toInt = 1 := (by decide); have z2 : (122 : Int32).toInt = 122 := (by decide); have z3 : (14037 : Int32).toInt = 14037 := (by decide); have z4 : (14039 : Int32).toInt = 14039 := (by decide); have z5 : (14040 : Int32).toInt = 14040 := (by decide); have z6 : (160 : Int32).toInt = 160 := (by decide); have z7 : (9 : Int32).toInt = 9 := (by decide); have z8 : (97 : Int32).toInt = 97 := (by decide); omega), (show ((σ101.1 14039) : Int32).toInt ≤ ((σ101.1 14037) : Int32).toInt from by have q0 := hP.1; have q1 := hP.2; have q2 := hX0_0.1; have q3 := hX0_0.2; have q4 := hX101_0.1; have q5 := hX101_0.2; have q6 := ti_ne b64_5; have q7 := ti_nle b203_11; have q8 := ti_in (pm_p hI hP); have q9 := ti_in (iv_14037 hI); have q10 := ti_in hM0_; have q11 := ti_in (iv_14037 hI0); have q12 := ti_in h7; have q13 := ti_in hM101_; have q14 := ti_in (iv_14037 hI101); have z0 : (0 : Int32).toInt = 0 := (by decide); have z1 : (1 : Int32).toInt = 1 := (by decide); have z2 : (122 : Int32).toInt = 122 := (by decide); have z3 : (14037 : Int32).toInt = 14037 := (by decide); have z4 : (14039 : Int32).toInt = 14039 := (by decide); have z5 : (14040 : Int32).toInt = 14040 := (by decide); have z6 : (160 : Int32).toInt = 160 := (by decide); have z7 : (9 : Int32).toInt = 9 := (by decide); have z8 : (97 : Int32).toInt = 97 := (by decide); omega)⟩), hX101_1⟩
            | succ q ih101 =>
              intro σ101 hj101 hrg101 hI101 hC101 hX101_0 hX101_1
              have hM101_ : inR (σ101.1 14039) 0 159 := of_ti (ti_in hrg101).1 (by have z : (159 : Int32).toInt = 159 := (by decide); omega)
              refine R_aload_n (pc := 101) dX9_nextToken_101 rfl rfl ?_
              refine g_X9_257 (pc := 102) (v := .int (σ101.1 14039)) rfl dX9_nextToken_102 (c_140 _) rfl ?_
              refine R_aload_n (pc := 105) dX9_nextToken_105 rfl rfl ?_
              refine g_X9_254 (pc := 106) (v := .int (σ101.1 14037)) rfl dX9_nextToken_106 (c_140 _) rfl ?_
              refine R_icge (pc := 109) 191 dX9_nextToken_109 (by decide) (fun b109_14 => ?_) (fun b109_14 => ?_)
              · skip
                refine R_aload_n (pc := 191) dX9_nextToken_191 rfl rfl ?_
                refine R_aload_n (pc := 192) dX9_nextToken_192 rfl rfl ?_
                refine g_X9_257 (pc := 193) (v := .int (σ101.1 14039)) rfl dX9_nextToken_193 (c_140 _) rfl ?_
                refine R_aload_n (pc := 196) dX9_nextToken_196 rfl rfl ?_
                refine g_X9_260 (pc := 197) (v := .int (σ101.1 14040)) rfl dX9_nextToken_197 (c_140 _) rfl ?_
                refine R_isub (pc := 200) dX9_nextToken_200 ?_
                refine R_bipush (pc := 201) (v := 9) dX9_nextToken_201 (by decide) ?_
                refine R_icle (pc := 203) 212 dX9_nextToken_203 (by decide) (fun b203_15 => ?_) (fun b203_15 => ?_)
                · skip
                  refine R_aload_n (pc := 212) dX9_nextToken_212 rfl rfl ?_
                  refine g_X9_271 (pc := 213) (v := .long (σ101.2.1 14041)) rfl dX9_nextToken_213 (c_140 _) rfl ?_
                  refine p_X9_271 (pc := 216) rfl dX9_nextToken_216 (c_140 _) (Nat.le_of_ble_eq_true rfl) rfl rfl (s_140_41 _ _) ?_
                  have hW16 := cor_sj 14041 (σ101.2.1 14041) hC101 rfl
                  refine R_goto (pc := 219) 394 dX9_nextToken_219 (by decide) ?_
                  exact R_vret (pc := 394) dX9_nextToken_394 rfl (Nat.zero_le _) (Nat.zero_le _) ⟨rfl, _, rfl, hI101, hW16, (show Pm (uJ σ101 14041 (σ101.2.1 14041)) from ⟨(show 0 ≤ ((σ101.1 14039) : Int32).toInt from by have q0 := hP.1; have q1 := hP.2; have q2 := hX0_0.1; have q3 := hX0_0.2; have q4 := hX101_0.1; have q5 := hX101_0.2; have q6 := ti_ne b64_5; have q7 := ti_le b109_14; have q8 := ti_le b203_15; have q9 := ti_in (pm_p hI hP); have q10 := ti_in (iv_14037 hI); have q11 := ti_in hM0_; have q12 := ti_in (iv_14037 hI0); have q13 := ti_in h7; have q14 := ti_in hM101_; have q15 := ti_in (iv_14037 hI101); have z0 : (0 : Int32).toInt = 0 := (by decide); have z1 : (1 : Int32).toInt = 1 := (by decide); have z2 : (122 : Int32).toInt = 122 := (by decide); have z3 : (14037 : Int32).toInt = 14037 := (by decide); have z4 : (14039 : Int32).toInt = 14039 := (by decide); have z5 : (14040 : Int32).toInt = 14040 := (by decide); have z6 : (159 : Int32).toInt = 159 := (by decide); have z7 : (160 : Int32).toInt = 160 := (by decide); have z8 : (9 : Int32).toInt = 9 := (by decide); have z9 : (97 : Int32).toInt = 97 := (by decide); omega), (show ((σ101.1 14039) : Int32).toInt ≤ ((σ101.1 14037) : Int32).toInt from by have q0 := hP.1; have q1 := hP.2; have q2 := hX0_0.1; have q3 := hX0_0.2; have q4 := hX101_0.1; have q5 := hX101_0.2; have q6 := ti_ne b64_5; have q7 := ti_le b109_14; have q8 := ti_le b203_15; have q9 := ti_in (pm_p hI hP); have q10 := ti_in (iv_14037 hI); have q11 := ti_in hM0_; have q12 := ti_in (iv_14037 hI0); have q13 := ti_in h7; have q14 := ti_in hM101_; have q15 := ti_in (iv_14037 hI101); have z0 : (0 : Int32).toInt = 0 := (by decide); have z1 : (1 : Int32).toInt = 1 := (by decide); have z2 : (122 : Int32).toInt = 122 := (by decide); have z3 : (14037 : Int32).toInt = 14037 := (by decide); have z4 : (14039 : Int32).toInt = 14039 := (by decide); have z5 : (14040 : Int32).toInt = 14040 := (by decide); have z6 : (159 : Int32).toInt = 159 := (by decide); have z7 : (160 : Int32).toInt = 160 := (by decide); have z8 : (9 : Int32).toInt = 9 := (by decide); have z9 : (97 : Int32).toInt = 97 := (by decide); omega)⟩), hX101_1⟩
                · skip
                  refine R_ldc2 (pc := 206) w_1245c dX9_nextToken_206 ?_
                  refine R_goto (pc := 209) 216 dX9_nextToken_209 (by decide) ?_
                  refine p_X9_271 (pc := 216) rfl dX9_nextToken_216 (c_140 _) (Nat.le_of_ble_eq_true rfl) rfl rfl (s_140_41 _ _) ?_
                  have hW17 := cor_sj 14041 (-4) hC101 rfl
                  refine R_goto (pc := 219) 394 dX9_nextToken_219 (by decide) ?_
                  exact R_vret (pc := 394) dX9_nextToken_394 rfl (Nat.zero_le _) (Nat.zero_le _) ⟨rfl, _, rfl, hI101, hW17, (show Pm (uJ σ101 14041 (-4)) from ⟨(show 0 ≤ ((σ101.1 14039) : Int32).toInt from by have q0 := hP.1; have q1 := hP.2; have q2 := hX0_0.1; have q3 := hX0_0.2; have q4 := hX101_0.1; have q5 := hX101_0.2; have q6 := ti_ne b64_5; have q7 := ti_le b109_14; have q8 := ti_nle b203_15; have q9 := ti_in (pm_p hI hP); have q10 := ti_in (iv_14037 hI); have q11 := ti_in hM0_; have q12 := ti_in (iv_14037 hI0); have q13 := ti_in h7; have q14 := ti_in hM101_; have q15 := ti_in (iv_14037 hI101); have z0 : (0 : Int32).toInt = 0 := (by decide); have z1 : (1 : Int32).toInt = 1 := (by decide); have z2 : (122 : Int32).toInt = 122 := (by decide); have z3 : (14037 : Int32).toInt = 14037 := (by decide); have z4 : (14039 : Int32).toInt = 14039 := (by decide); have z5 : (14040 : Int32).toInt = 14040 := (by decide); have z6 : (159 : Int32).toInt = 159 := (by decide); have z7 : (160 : Int32).toInt = 160 := (by decide); have z8 : (9 : Int32).toInt = 9 := (by decide); have z9 : (97 : Int32).toInt = 97 := (by decide); omega), (show ((σ101.1 14039) : Int32).toInt ≤ ((σ101.1 14037) : Int32).toInt from by have q0 := hP.1; have q1 := hP.2; have q2 := hX0_0.1; have q3 := hX0_0.2; have q4 := hX101_0.1; have q5 := hX101_0.2; have q6 := ti_ne b64_5; have q7 := ti_le b109_14; have q8 := ti_nle b203_15; have q9 := ti_in (pm_p hI hP); have q10 := ti_in (iv_14037 hI); have q11 := ti_in hM0_; have q12 := ti_in (iv_14037 hI0); have q13 := ti_in h7; have q14 := ti_in hM101_; have q15 := ti_in (iv_14037 hI101); have z0 : (0 : Int32).toInt = 0 := (by decide); have z1 : (1 : Int32).toInt = 1 := (by decide); have z2 : (122 : Int32).toInt = 122 := (by decide); have z3 : (14037 : Int32).toInt = 14037 := (by decide); have z4 : (14039 : Int32).toInt = 14039 := (by decide); have z5 : (14040 : Int32).toInt = 14040 := (by decide); have z6 : (159 : Int32).toInt = 159 := (by decide); have z7 : (160 : Int32).toInt = 160 := (by decide); have z8 : (9 : Int32).toInt = 9 := (by decide); have z9 : (97 : Int32).toInt = 97 := (by decide); omega)⟩), hX101_1⟩
              · skip
                refine R_aload_n (pc := 112) dX9_nextToken_112 rfl rfl ?_
                refine g_X9_108 (pc := 113) (v := .ref 170) rfl dX9_nextToken_113 (c_140 _) rfl ?_
                refine R_aload_n (pc := 116) dX9_nextToken_116 rfl rfl ?_
                refine g_X9_257 (pc := 117) (v := .int (σ101.1 14039)) rfl dX9_nextToken_117 (c_140 _) rfl ?_
                have hx18 : vp_in (σ101.1 14039) 160 := (vp_of_inR hM101_ (by decide))
                refine R_iaload (pc := 120) dX9_nextToken_120 (c_170 _) hx18 ?_
                refine R_bipush (pc := 121) (v := 97) dX9_nextToken_121 (by decide) ?_
                refine R_bipush (pc := 123) (v := 122) dX9_nextToken_123 (by decide) ?_
                refine k_X9_124 (pc := 125) (sp_X9_in _ _ _ _) rfl (by decide) (Nat.le_refl _) (Nat.le_refl _) (Nat.le_of_ble_eq_true rfl) dX9_nextToken_125 (fun x w2 h => ?_)
                rcases h with ⟨rfl, ⟨h19, rfl⟩ | ⟨h19, rfl⟩⟩
                · skip
                  refine R_ifeq (pc := 128) 191 dX9_nextToken_128 (by decide) (fun h => absurd h (by decide)) (fun _ => ?_)
                  refine R_aload_n (pc := 131) dX9_nextToken_131 rfl rfl ?_
                  refine R_aload_n (pc := 132) dX9_nextToken_132 rfl rfl ?_
                  refine g_X9_257 (pc := 133) (v := .int (σ101.1 14039)) rfl dX9_nextToken_133 (c_140 _) rfl ?_
                  refine R_aload_n (pc := 136) dX9_nextToken_136 rfl rfl ?_
                  refine g_X9_260 (pc := 137) (v := .int (σ101.1 14040)) rfl dX9_nextToken_137 (c_140 _) rfl ?_
                  refine R_isub (pc := 140) dX9_nextToken_140 ?_
                  refine R_bipush (pc := 141) (v := 9) dX9_nextToken_141 (by decide) ?_
                  refine R_icge (pc := 143) 172 dX9_nextToken_143 (by decide) (fun b143_21 => ?_) (fun b143_21 => ?_)
                  · skip
                    refine R_ldc2 (pc := 172) w_1245c dX9_nextToken_172 ?_
                    refine p_X9_271 (pc := 175) rfl dX9_nextToken_175 (c_140 _) (Nat.le_of_ble_eq_true rfl) rfl rfl (s_140_41 _ _) ?_
                    have hW22 := cor_sj 14041 (-4) hC101 rfl
                    refine R_aload_n (pc := 178) dX9_nextToken_178 rfl rfl ?_
                    refine R_dup (pc := 179) dX9_nextToken_179 rfl ?_
                    refine g_X9_257 (pc := 180) (v := .int (σ101.1 14039)) rfl dX9_nextToken_180 (c_140 _) rfl ?_
                    refine R_iconst (pc := 183) (v := 1) dX9_nextToken_183 (by decide) ?_
                    refine R_iadd (pc := 184) dX9_nextToken_184 ?_
                    have r23 : inR ((σ101.1 14039) + 1) 1 160 := inR_add (show inR (σ101.1 14039) 0 159 from hM101_) (show inR 1 1 1 from (inR_self _)) (by decide) (by decide)
                    have e24 := ti_add (l := 1) (h := 160) (show inR (σ101.1 14039) 0 159 from hM101_) (show inR 1 1 1 from (inR_self _)) (by decide) (by decide)
                    refine p_X9_257 (pc := 185) rfl dX9_nextToken_185 (c_140 _) (Nat.le_of_ble_eq_true rfl) rfl rfl (s_140_39 _ _) ?_
                    have hW25 := cor_si 14039 ((σ101.1 14039) + 1) hW22 rfl
                    refine R_goto (pc := 188) 101 dX9_nextToken_188 (by decide) ?_
                    exact ih101 _ (show (((σ101.1 14039) + 1) : Int32).toInt + (q : Int) = 160 from by have q0 := hP.1; have q1 := hP.2; have q2 := hX0_0.1; have q3 := hX0_0.2; have q4 := hX101_0.1; have q5 := hX101_0.2; have q6 := e24; have q7 := ti_ne b64_5; have q8 := ti_nle b109_14; have q9 := ti_le b143_21; have q10 := ti_in (pm_p hI hP); have q11 := ti_in (iv_14037 hI); have q12 := ti_in hM0_; have q13 := ti_in (iv_14037 hI0); have q14 := ti_in h7; have q15 := ti_in hM101_; have q16 := ti_in (iv_14037 hI101); have q17 := ti_in h19; have q18 := ti_in r23; have q19 := hj101; have z0 : (0 : Int32).toInt = 0 := (by decide); have z1 : (1 : Int32).toInt = 1 := (by decide); have z2 : (122 : Int32).toInt = 122 := (by decide); have z3 : (14037 : Int32).toInt = 14037 := (by decide); have z4 : (14039 : Int32).toInt = 14039 := (by decide); have z5 : (14040 : Int32).toInt = 14040 := (by decide); have z6 : (159 : Int32).toInt = 159 := (by decide); have z7 : (160 : Int32).toInt = 160 := (by decide); have z8 : (9 : Int32).toInt = 9 := (by decide); have z9 : (97 : Int32).toInt = 97 := (by decide); omega) (inR_up r23 (by decide) (by decide)) hI101 hW25 (show Pm (uI (uJ σ101 14041 (-4)) 14039 ((σ101.1 14039) + 1)) from ⟨(show 0 ≤ (((σ101.1 14039) + 1) : Int32).toInt from by have q0 := hP.1; have q1 := hP.2; have q2 := hX0_0.1; have q3 := hX0_0.2; have q4 := hX101_0.1; have q5 := hX101_0.2; have q6 := e24; have q7 := ti_ne b64_5; have q8 := ti_nle b109_14; have q9 := ti_le b143_21; have q10 := ti_in (pm_p hI hP); have q11 := ti_in (iv_14037 hI); have q12 := ti_in hM0_; have q13 := ti_in (iv_14037 hI0); have q14 := ti_in h7; have q15 := ti_in hM101_; have q16 := ti_in (iv_14037 hI101); have q17 := ti_in h19; have q18 := ti_in r23; have z0 : (0 : Int32).toInt = 0 := (by decide); have z1 : (1 : Int32).toInt = 1 := (by decide); have z2 : (122 : Int32).toInt = 122 := (by decide); have z3 : (14037 : Int32).toInt = 14037 := (by decide); have z4 : (14039 : Int32).toInt = 14039 := (by decide); have z5 : (14040 : Int32).toInt = 14040 := (by decide); have z6 : (159 : Int32).toInt = 159 := (by decide); have z7 : (160 : Int32).toInt = 160 := (by decide); have z8 : (9 : Int32).toInt = 9 := (by decide); have z9 : (97 : Int32).toInt = 97 := (by decide); omega), (show (((σ101.1 14039) + 1) : Int32).toInt ≤ ((σ101.1 14037) : Int32).toInt from by have q0 := hP.1; have q1 := hP.2; have q2 := hX0_0.1; have q3 := hX0_0.2; have q4 := hX101_0.1; have q5 := hX101_0.2; have q6 := e24; have q7 := ti_ne b64_5; have q8 := ti_nle b109_14; have q9 := ti_le b143_21; have q10 := ti_in (pm_p hI hP); have q11 := ti_in (iv_14037 hI); have q12 := ti_in hM0_; have q13 := ti_in (iv_14037 hI0); have q14 := ti_in h7; have q15 := ti_in hM101_; have q16 := ti_in (iv_14037 hI101); have q17 := ti_in h19; have q18 := ti_in r23; have z0 : (0 : Int32).toInt = 0 := (by decide); have z1 : (1 : Int32).toInt = 1 := (by decide); have z2 : (122 : Int32).toInt = 122 := (by decide); have z3 : (14037 : Int32).toInt = 14037 := (by decide); have z4 : (14039 : Int32).toInt = 14039 := (by decide); have z5 : (14040 : Int32).toInt = 14040 := (by decide); have z6 : (159 : Int32).toInt = 159 := (by decide); have z7 : (160 : Int32).toInt = 160 := (by decide); have z8 : (9 : Int32).toInt = 9 := (by decide); have z9 : (97 : Int32).toInt = 97 := (by decide); omega)⟩) hX101_1
                  · skip
                    refine R_ldc2 (pc := 146) w_1243c dX9_nextToken_146 ?_
                    refine R_aload_n (pc := 149) dX9_nextToken_149 rfl rfl ?_
                    refine g_X9_271 (pc := 150) (v := .long (σ101.2.1 14041)) rfl dX9_nextToken_150 (c_140 _) rfl ?_
                    refine R_lmul (pc := 153) dX9_nextToken_153 ?_
                    refine R_aload_n (pc := 154) dX9_nextToken_154 rfl rfl ?_
                    refine g_X9_108 (pc := 155) (v := .ref 170) rfl dX9_nextToken_155 (c_140 _) rfl ?_
                    refine R_aload_n (pc := 158) dX9_nextToken_158 rfl rfl ?_
                    refine g_X9_257 (pc := 159) (v := .int (σ101.1 14039)) rfl dX9_nextToken_159 (c_140 _) rfl ?_
                    have hx26 : vp_in (σ101.1 14039) 160 := (vp_of_inR hM101_ (by decide))
                    refine R_iaload (pc := 162) dX9_nextToken_162 (c_170 _) hx26 ?_
                    refine R_i2l (pc := 163) dX9_nextToken_163 ?_
                    refine R_ladd (pc := 164) dX9_nextToken_164 ?_
                    refine R_ldc2 (pc := 165) w_1244c dX9_nextToken_165 ?_
                    refine R_lsub (pc := 168) dX9_nextToken_168 ?_
                    refine R_goto (pc := 169) 175 dX9_nextToken_169 (by decide) ?_
                    refine p_X9_271 (pc := 175) rfl dX9_nextToken_175 (c_140 _) (Nat.le_of_ble_eq_true rfl) rfl rfl (s_140_41 _ _) ?_
                    have hW27 := cor_sj 14041 (((27 * (σ101.2.1 14041)) + (Int32.toInt64 (σ101.2.2.1 170 (Int32.toNatClampNeg (σ101.1 14039))))) - 96) hC101 rfl
                    refine R_aload_n (pc := 178) dX9_nextToken_178 rfl rfl ?_
                    refine R_dup (pc := 179) dX9_nextToken_179 rfl ?_
                    refine g_X9_257 (pc := 180) (v := .int (σ101.1 14039)) rfl dX9_nextToken_180 (c_140 _) rfl ?_
                    refine R_iconst (pc := 183) (v := 1) dX9_nextToken_183 (by decide) ?_
                    refine R_iadd (pc := 184) dX9_nextToken_184 ?_
                    have r28 : inR ((σ101.1 14039) + 1) 1 160 := inR_add (show inR (σ101.1 14039) 0 159 from hM101_) (show inR 1 1 1 from (inR_self _)) (by decide) (by decide)
                    have e29 := ti_add (l := 1) (h := 160) (show inR (σ101.1 14039) 0 159 from hM101_) (show inR 1 1 1 from (inR_self _)) (by decide) (by decide)
                    refine p_X9_257 (pc := 185) rfl dX9_nextToken_185 (c_140 _) (Nat.le_of_ble_eq_true rfl) rfl rfl (s_140_39 _ _) ?_
                    have hW30 := cor_si 14039 ((σ101.1 14039) + 1) hW27 rfl
                    refine R_goto (pc := 188) 101 dX9_nextToken_188 (by decide) ?_
                    exact ih101 _ (show (((σ101.1 14039) + 1) : Int32).toInt + (q : Int) = 160 from by have q0 := hP.1; have q1 := hP.2; have q2 := hX0_0.1; have q3 := hX0_0.2; have q4 := hX101_0.1; have q5 := hX101_0.2; have q6 := e29; have q7 := ti_ne b64_5; have q8 := ti_nle b109_14; have q9 := ti_nle b143_21; have q10 := ti_in (pm_p hI hP); have q11 := ti_in (iv_14037 hI); have q12 := ti_in hM0_; have q13 := ti_in (iv_14037 hI0); have q14 := ti_in h7; have q15 := ti_in hM101_; have q16 := ti_in (iv_14037 hI101); have q17 := ti_in h19; have q18 := ti_in r28; have q19 := hj101; have z0 : (0 : Int32).toInt = 0 := (by decide); have z1 : (1 : Int32).toInt = 1 := (by decide); have z2 : (122 : Int32).toInt = 122 := (by decide); have z3 : (14037 : Int32).toInt = 14037 := (by decide); have z4 : (14039 : Int32).toInt = 14039 := (by decide); have z5 : (14040 : Int32).toInt = 14040 := (by decide); have z6 : (159 : Int32).toInt = 159 := (by decide); have z7 : (160 : Int32).toInt = 160 := (by decide); have z8 : (9 : Int32).toInt = 9 := (by decide); have z9 : (97 : Int32).toInt = 97 := (by decide); omega) (inR_up r28 (by decide) (by decide)) hI101 hW30 (show Pm (uI (uJ σ101 14041 (((27 * (σ101.2.1 14041)) + (Int32.toInt64 (σ101.2.2.1 170 (Int32.toNatClampNeg (σ101.1 14039))))) - 96)) 14039 ((σ101.1 14039) + 1)) from ⟨(show 0 ≤ (((σ101.1 14039) + 1) : Int32).toInt from by have q0 := hP.1; have q1 := hP.2; have q2 := hX0_0.1; have q3 := hX0_0.2; have q4 := hX101_0.1; have q5 := hX101_0.2; have q6 := e29; have q7 := ti_ne b64_5; have q8 := ti_nle b109_14; have q9 := ti_nle b143_21; have q10 := ti_in (pm_p hI hP); have q11 := ti_in (iv_14037 hI); have q12 := ti_in hM0_; have q13 := ti_in (iv_14037 hI0); have q14 := ti_in h7; have q15 := ti_in hM101_; have q16 := ti_in (iv_14037 hI101); have q17 := ti_in h19; have q18 := ti_in r28; have z0 : (0 : Int32).toInt = 0 := (by decide); have z1 : (1 : Int32).toInt = 1 := (by decide); have z2 : (122 : Int32).toInt = 122 := (by decide); have z3 : (14037 : Int32).toInt = 14037 := (by decide); have z4 : (14039 : Int32).toInt = 14039 := (by decide); have z5 : (14040 : Int32).toInt = 14040 := (by decide); have z6 : (159 : Int32).toInt = 159 := (by decide); have z7 : (160 : Int32).toInt = 160 := (by decide); have z8 : (9 : Int32).toInt = 9 := (by decide); have z9 : (97 : Int32).toInt = 97 := (by decide); omega), (show (((σ101.1 14039) + 1) : Int32).toInt ≤ ((σ101.1 14037) : Int32).toInt from by have q0 := hP.1; have q1 := hP.2; have q2 := hX0_0.1; have q3 := hX0_0.2; have q4 := hX101_0.1; have q5 := hX101_0.2; have q6 := e29; have q7 := ti_ne b64_5; have q8 := ti_nle b109_14; have q9 := ti_nle b143_21; have q10 := ti_in (pm_p hI hP); have q11 := ti_in (iv_14037 hI); have q12 := ti_in hM0_; have q13 := ti_in (iv_14037 hI0); have q14 := ti_in h7; have q15 := ti_in hM101_; have q16 := ti_in (iv_14037 hI101); have q17 := ti_in h19; have q18 := ti_in r28; have z0 : (0 : Int32).toInt = 0 := (by decide); have z1 : (1 : Int32).toInt = 1 := (by decide); have z2 : (122 : Int32).toInt = 122 := (by decide); have z3 : (14037 : Int32).toInt = 14037 := (by decide); have z4 : (14039 : Int32).toInt = 14039 := (by decide); have z5 : (14040 : Int32).toInt = 14040 := (by decide); have z6 : (159 : Int32).toInt = 159 := (by decide); have z7 : (160 : Int32).toInt = 160 := (by decide); have z8 : (9 : Int32).toInt = 9 := (by decide); have z9 : (97 : Int32).toInt = 97 := (by decide); omega)⟩) hX101_1
                · skip
                  refine R_ifeq (pc := 128) 191 dX9_nextToken_128 (by decide) (fun _ => ?_) (fun h => absurd (by decide) h)
                  refine R_aload_n (pc := 191) dX9_nextToken_191 rfl rfl ?_
                  refine R_aload_n (pc := 192) dX9_nextToken_192 rfl rfl ?_
                  refine g_X9_257 (pc := 193) (v := .int (σ101.1 14039)) rfl dX9_nextToken_193 (c_140 _) rfl ?_
                  refine R_aload_n (pc := 196) dX9_nextToken_196 rfl rfl ?_
                  refine g_X9_260 (pc := 197) (v := .int (σ101.1 14040)) rfl dX9_nextToken_197 (c_140 _) rfl ?_
                  refine R_isub (pc := 200) dX9_nextToken_200 ?_
                  refine R_bipush (pc := 201) (v := 9) dX9_nextToken_201 (by decide) ?_
                  refine R_icle (pc := 203) 212 dX9_nextToken_203 (by decide) (fun b203_32 => ?_) (fun b203_32 => ?_)
                  · skip
                    refine R_aload_n (pc := 212) dX9_nextToken_212 rfl rfl ?_
                    refine g_X9_271 (pc := 213) (v := .long (σ101.2.1 14041)) rfl dX9_nextToken_213 (c_140 _) rfl ?_
                    refine p_X9_271 (pc := 216) rfl dX9_nextToken_216 (c_140 _) (Nat.le_of_ble_eq_true rfl) rfl rfl (s_140_41 _ _) ?_
                    have hW33 := cor_sj 14041 (σ101.2.1 14041) hC101 rfl
                    refine R_goto (pc := 219) 394 dX9_nextToken_219 (by decide) ?_
                    exact R_vret (pc := 394) dX9_nextToken_394 rfl (Nat.zero_le _) (Nat.zero_le _) ⟨rfl, _, rfl, hI101, hW33, (show Pm (uJ σ101 14041 (σ101.2.1 14041)) from ⟨(show 0 ≤ ((σ101.1 14039) : Int32).toInt from by have q0 := hP.1; have q1 := hP.2; have q2 := hX0_0.1; have q3 := hX0_0.2; have q4 := hX101_0.1; have q5 := hX101_0.2; have q6 := ti_ne b64_5; have q7 := ti_nle b109_14; have q8 := ti_le b203_32; have q9 := ti_in (pm_p hI hP); have q10 := ti_in (iv_14037 hI); have q11 := ti_in hM0_; have q12 := ti_in (iv_14037 hI0); have q13 := ti_in h7; have q14 := ti_in hM101_; have q15 := ti_in (iv_14037 hI101); have z0 : (0 : Int32).toInt = 0 := (by decide); have z1 : (1 : Int32).toInt = 1 := (by decide); have z2 : (122 : Int32).toInt = 122 := (by decide); have z3 : (14037 : Int32).toInt = 14037 := (by decide); have z4 : (14039 : Int32).toInt = 14039 := (by decide); have z5 : (14040 : Int32).toInt = 14040 := (by decide); have z6 : (159 : Int32).toInt = 159 := (by decide); have z7 : (160 : Int32).toInt = 160 := (by decide); have z8 : (9 : Int32).toInt = 9 := (by decide); have z9 : (97 : Int32).toInt = 97 := (by decide); omega), (show ((σ101.1 14039) : Int32).toInt ≤ ((σ101.1 14037) : Int32).toInt from by have q0 := hP.1; have q1 := hP.2; have q2 := hX0_0.1; have q3 := hX0_0.2; have q4 := hX101_0.1; have q5 := hX101_0.2; have q6 := ti_ne b64_5; have q7 := ti_nle b109_14; have q8 := ti_le b203_32; have q9 := ti_in (pm_p hI hP); have q10 := ti_in (iv_14037 hI); have q11 := ti_in hM0_; have q12 := ti_in (iv_14037 hI0); have q13 := ti_in h7; have q14 := ti_in hM101_; have q15 := ti_in (iv_14037 hI101); have z0 : (0 : Int32).toInt = 0 := (by decide); have z1 : (1 : Int32).toInt = 1 := (by decide); have z2 : (122 : Int32).toInt = 122 := (by decide); have z3 : (14037 : Int32).toInt = 14037 := (by decide); have z4 : (14039 : Int32).toInt = 14039 := (by decide); have z5 : (14040 : Int32).toInt = 14040 := (by decide); have z6 : (159 : Int32).toInt = 159 := (by decide); have z7 : (160 : Int32).toInt = 160 := (by decide); have z8 : (9 : Int32).toInt = 9 := (by decide); have z9 : (97 : Int32).toInt = 97 := (by decide); omega)⟩), hX101_1⟩
                  · skip
                    refine R_ldc2 (pc := 206) w_1245c dX9_nextToken_206 ?_
                    refine R_goto (pc := 209) 216 dX9_nextToken_209 (by decide) ?_
                    refine p_X9_271 (pc := 216) rfl dX9_nextToken_216 (c_140 _) (Nat.le_of_ble_eq_true rfl) rfl rfl (s_140_41 _ _) ?_
                    have hW34 := cor_sj 14041 (-4) hC101 rfl
                    refine R_goto (pc := 219) 394 dX9_nextToken_219 (by decide) ?_
                    exact R_vret (pc := 394) dX9_nextToken_394 rfl (Nat.zero_le _) (Nat.zero_le _) ⟨rfl, _, rfl, hI101, hW34, (show Pm (uJ σ101 14041 (-4)) from ⟨(show 0 ≤ ((σ101.1 14039) : Int32).toInt from by have q0 := hP.1; have q1 := hP.2; have q2 := hX0_0.1; have q3 := hX0_0.2; have q4 := hX101_0.1; have q5 := hX101_0.2; have q6 := ti_ne b64_5; have q7 := ti_nle b109_14; have q8 := ti_nle b203_32; have q9 := ti_in (pm_p hI hP); have q10 := ti_in (iv_14037 hI); have q11 := ti_in hM0_; have q12 := ti_in (iv_14037 hI0); have q13 := ti_in h7; have q14 := ti_in hM101_; have q15 := ti_in (iv_14037 hI101); have z0 : (0 : Int32).toInt = 0 := (by decide); have z1 : (1 : Int32).toInt = 1 := (by decide); have z2 : (122 : Int32).toInt = 122 := (by decide); have z3 : (14037 : Int32).toInt = 14037 := (by decide); have z4 : (14039 : Int32).toInt = 14039 := (by decide); have z5 : (14040 : Int32).toInt = 14040 := (by decide); have z6 : (159 : Int32).toInt = 159 := (by decide); have z7 : (160 : Int32).toInt = 160 := (by decide); have z8 : (9 : Int32).toInt = 9 := (by decide); have z9 : (97 : Int32).toInt = 97 := (by decide); omega), (show ((σ101.1 14039) : Int32).toInt ≤ ((σ101.1 14037) : Int32).toInt from by have q0 := hP.1; have q1 := hP.2; have q2 := hX0_0.1; have q3 := hX0_0.2; have q4 := hX101_0.1; have q5 := hX101_0.2; have q6 := ti_ne b64_5; have q7 := ti_nle b109_14; have q8 := ti_nle b203_32; have q9 := ti_in (pm_p hI hP); have q10 := ti_in (iv_14037 hI); have q11 := ti_in hM0_; have q12 := ti_in (iv_14037 hI0); have q13 := ti_in h7; have q14 := ti_in hM101_; have q15 := ti_in (iv_14037 hI101); have z0 : (0 : Int32).toInt = 0 := (by decide); have z1 : (1 : Int32).toInt = 1 := (by decide); have z2 : (122 : Int32).toInt = 122 := (by decide); have z3 : (14037 : Int32).toInt = 14037 := (by decide); have z4 : (14039 : Int32).toInt = 14039 := (by decide); have z5 : (14040 : Int32).toInt = 14040 := (by decide); have z6 : (159 : Int32).toInt = 159 := (by decide); have z7 : (160 : Int32).toInt = 160 := (by decide); have z8 : (9 : Int32).toInt = 9 := (by decide); have z9 : (97 : Int32).toInt = 97 := (by decide); omega)⟩), hX101_1⟩
          exact HL101 ((160 : Int) - ((σ0.1 14039) : Int32).toInt).toNat _ (show ((σ0.1 14039) : Int32).toInt + ((((160 : Int) - ((σ0.1 14039) : Int32).toInt).toNat : Nat) : Int) = 160 from by have q0 := hP.1; have q1 := hP.2; have q2 := hX0_0.1; have q3 := hX0_0.2; have q4 := ti_ne b64_5; have q5 := ti_in (pm_p hI hP); have q6 := ti_in (iv_14037 hI); have q7 := ti_in hM0_; have q8 := ti_in (iv_14037 hI0); have q9 := ti_in h7; have z0 : (0 : Int32).toInt = 0 := (by decide); have z1 : (1 : Int32).toInt = 1 := (by decide); have z2 : (122 : Int32).toInt = 122 := (by decide); have z3 : (14037 : Int32).toInt = 14037 := (by decide); have z4 : (14039 : Int32).toInt = 14039 := (by decide); have z5 : (160 : Int32).toInt = 160 := (by decide); have z6 : (97 : Int32).toInt = 97 := (by decide); omega) (inR_up hM0_ (by decide) (by decide)) hI0 hW9 (show Pm (uJ (uI (uI (uI σ0 14040 (σ0.1 14039)) 14042 0) 14043 0) 14041 0) from ⟨(show 0 ≤ ((σ0.1 14039) : Int32).toInt from by have q0 := hP.1; have q1 := hP.2; have q2 := hX0_0.1; have q3 := hX0_0.2; have q4 := ti_ne b64_5; have q5 := ti_in (pm_p hI hP); have q6 := ti_in (iv_14037 hI); have q7 := ti_in hM0_; have q8 := ti_in (iv_14037 hI0); have q9 := ti_in h7; have z0 : (0 : Int32).toInt = 0 := (by decide); have z1 : (1 : Int32).toInt = 1 := (by decide); have z2 : (122 : Int32).toInt = 122 := (by decide); have z3 : (14037 : Int32).toInt = 14037 := (by decide); have z4 : (14039 : Int32).toInt = 14039 := (by decide); have z5 : (160 : Int32).toInt = 160 := (by decide); have z6 : (97 : Int32).toInt = 97 := (by decide); omega), (show ((σ0.1 14039) : Int32).toInt ≤ ((σ0.1 14037) : Int32).toInt from by have q0 := hP.1; have q1 := hP.2; have q2 := hX0_0.1; have q3 := hX0_0.2; have q4 := ti_ne b64_5; have q5 := ti_in (pm_p hI hP); have q6 := ti_in (iv_14037 hI); have q7 := ti_in hM0_; have q8 := ti_in (iv_14037 hI0); have q9 := ti_in h7; have z0 : (0 : Int32).toInt = 0 := (by decide); have z1 : (1 : Int32).toInt = 1 := (by decide); have z2 : (122 : Int32).toInt = 122 := (by decide); have z3 : (14037 : Int32).toInt = 14037 := (by decide); have z4 : (14039 : Int32).toInt = 14039 := (by decide); have z5 : (160 : Int32).toInt = 160 := (by decide); have z6 : (97 : Int32).toInt = 97 := (by decide); omega)⟩) hX0_1
        · skip
          refine R_ifeq (pc := 93) 222 dX9_nextToken_93 (by decide) (fun _ => ?_) (fun h => absurd (by decide) h)
          refine R_aload_n (pc := 222) dX9_nextToken_222 rfl rfl ?_
          refine g_X9_108 (pc := 223) (v := .ref 170) rfl dX9_nextToken_223 (c_140 _) rfl ?_
          refine R_aload_n (pc := 226) dX9_nextToken_226 rfl rfl ?_
          refine g_X9_257 (pc := 227) (v := .int (σ0.1 14039)) rfl dX9_nextToken_227 (c_140 _) rfl ?_
          have hx36 : vp_in (σ0.1 14039) 160 := (vp_ti (by have q0 := hP.1; have q1 := hP.2; have q2 := hX0_0.1; have q3 := hX0_0.2; have q4 := ti_ne b64_5; have q5 := ti_in (pm_p hI hP); have q6 := ti_in (iv_14037 hI); have q7 := ti_in hM0_; have q8 := ti_in (iv_14037 hI0); have z0 : (0 : Int32).toInt = 0 := (by decide); have z1 : (1 : Int32).toInt = 1 := (by decide); have z2 : (14037 : Int32).toInt = 14037 := (by decide); have z3 : (14039 : Int32).toInt = 14039 := (by decide); have z4 : (160 : Int32).toInt = 160 := (by decide); omega) (by have q0 := hP.1; have q1 := hP.2; have q2 := hX0_0.1; have q3 := hX0_0.2; have q4 := ti_ne b64_5; have q5 := ti_in (pm_p hI hP); have q6 := ti_in (iv_14037 hI); have q7 := ti_in hM0_; have q8 := ti_in (iv_14037 hI0); have z0 : (0 : Int32).toInt = 0 := (by decide); have z1 : (1 : Int32).toInt = 1 := (by decide); have z2 : (14037 : Int32).toInt = 14037 := (by decide); have z3 : (14039 : Int32).toInt = 14039 := (by decide); have z4 : (160 : Int32).toInt = 160 := (by decide); omega))
          refine W_iaload (pc := 230) (σ0.2.2.1 170 (Int32.toNatClampNeg (σ0.1 14039))) dX9_nextToken_230 (c_170 _) hx36 rfl ?_
          refine R_bipush (pc := 231) (v := 48) dX9_nextToken_231 (by decide) ?_
          refine R_bipush (pc := 233) (v := 57) dX9_nextToken_233 (by decide) ?_
          refine k_X9_124 (pc := 235) (sp_X9_in _ _ _ _) rfl (by decide) (Nat.le_refl _) (Nat.le_refl _) (Nat.le_of_ble_eq_true rfl) dX9_nextToken_235 (fun x w2 h => ?_)
          rcases h with ⟨rfl, ⟨h37, rfl⟩ | ⟨h37, rfl⟩⟩
          · skip
            refine R_ifeq (pc := 238) 357 dX9_nextToken_238 (by decide) (fun h => absurd h (by decide)) (fun _ => ?_)
            have HL241 : ∀ (q : Nat) (σ241 : Sg), (σ241.1 14039).toInt + (q : Int) = 160 → inR (σ241.1 14039) 0 160 → Inv σ241 → Cor σ σ241 → Pm σ241 → σ241.1 14045 = σ.1 14045 → R G l yX9_nextToken cX9_nextToken 1 none 1 0 0 (QV (fun w2 => ∃ σ2, w2 = WW σ2 ∧ Inv σ2 ∧ Cor σ σ2 ∧ Pm σ2 ∧ σ2.1 14045 = σ.1 14045)) 241 [(some (.ref 140))] [] (WW σ241) 0 0 := by
              intro q
              induction q with
              | zero =>
                intro σ241 hj241 hrg241 hI241 hC241 hX241_0 hX241_1
                have hM241_ : inR (σ241.1 14039) 160 160 := of_ti (by have z : (160 : Int32).toInt = 160 := (by decide); omega) (by have z : (160 : Int32).toInt = 160 := (by decide); omega)
                refine R_aload_n (pc := 241) dX9_nextToken_241 rfl rfl ?_
                refine g_X9_257 (pc := 242) (v := .int (σ241.1 14039)) rfl dX9_nextToken_242 (c_140 _) rfl ?_
                refine R_aload_n (pc := 245) dX9_nextToken_245 rfl rfl ?_
                refine g_X9_254 (pc := 246) (v := .int (σ241.1 14037)) rfl dX9_nextToken_246 (c_140 _) rfl ?_
                refine R_icge (pc := 249) 333 dX9_nextToken_249 (by decide) (fun _ => ?_) (fun h => False.elim (by have q1 := ti_nle h; have q2 := ti_in (show inR (σ241.1 14039) 160 160 from hM241_); have q3 := ti_in (show inR (σ241.1 14037) 0 160 from (iv_14037 hI241)); have z0 : (0 : Int32).toInt = 0 := (by decide);  have z1 : (14037 : Int32).toInt = 14037 := (by decide);  have z2 : (14039 : Int32).toInt = 14039 := (by decide);  have z3 : (160 : Int32).toInt = 160 := (by decide); omega))
                refine R_aload_n (pc := 333) dX9_nextToken_333 rfl rfl ?_
                refine R_aload_n (pc := 334) dX9_nextToken_334 rfl rfl ?_
                refine g_X9_263 (pc := 335) (v := .int (σ241.1 14042)) rfl dX9_nextToken_335 (c_140 _) rfl ?_
                refine R_iconst (pc := 338) (v := 5) dX9_nextToken_338 (by decide) ?_
                refine R_icle (pc := 339) 348 dX9_nextToken_339 (by decide) (fun b339_40 => ?_) (fun b339_40 => ?_)
                · skip
                  refine R_ldc2 (pc := 348) w_1212c dX9_nextToken_348 ?_
                  refine p_X9_271 (pc := 351) rfl dX9_nextToken_351 (c_140 _) (Nat.le_of_ble_eq_true rfl) rfl rfl (s_140_41 _ _) ?_
                  have hW41 := cor_sj 14041 (-1) hC241 rfl
                  refine R_goto (pc := 354) 394 dX9_nextToken_354 (by decide) ?_
                  exact R_vret (pc := 394) dX9_nextToken_394 rfl (Nat.zero_le _) (Nat.zero_le _) ⟨rfl, _, rfl, hI241, hW41, (show Pm (uJ σ241 14041 (-1)) from ⟨(show 0 ≤ ((σ241.1 14039) : Int32).toInt from by have q0 := hP.1; have q1 := hP.2; have q2 := hX0_0.1; have q3 := hX0_0.2; have q4 := hX241_0.1; have q5 := hX241_0.2; have q6 := ti_ne b64_5; have q7 := ti_le b339_40; have q8 := ti_in (pm_p hI hP); have q9 := ti_in (iv_14037 hI); have q10 := ti_in hM0_; have q11 := ti_in (iv_14037 hI0); have q12 := ti_in h37; have q13 := ti_in hM241_; have q14 := ti_in (iv_14037 hI241); have z0 : (0 : Int32).toInt = 0 := (by decide); have z1 : (1 : Int32).toInt = 1 := (by decide); have z2 : (14037 : Int32).toInt = 14037 := (by decide); have z3 : (14039 : Int32).toInt = 14039 := (by decide); have z4 : (14042 : Int32).toInt = 14042 := (by decide); have z5 : (160 : Int32).toInt = 160 := (by decide); have z6 : (48 : Int32).toInt = 48 := (by decide); have z7 : (5 : Int32).toInt = 5 := (by decide); have z8 : (57 : Int32).toInt = 57 := (by decide); omega), (show ((σ241.1 14039) : Int32).toInt ≤ ((σ241.1 14037) : Int32).toInt from by have q0 := hP.1; have q1 := hP.2; have q2 := hX0_0.1; have q3 := hX0_0.2; have q4 := hX241_0.1; have q5 := hX241_0.2; have q6 := ti_ne b64_5; have q7 := ti_le b339_40; have q8 := ti_in (pm_p hI hP); have q9 := ti_in (iv_14037 hI); have q10 := ti_in hM0_; have q11 := ti_in (iv_14037 hI0); have q12 := ti_in h37; have q13 := ti_in hM241_; have q14 := ti_in (iv_14037 hI241); have z0 : (0 : Int32).toInt = 0 := (by decide); have z1 : (1 : Int32).toInt = 1 := (by decide); have z2 : (14037 : Int32).toInt = 14037 := (by decide); have z3 : (14039 : Int32).toInt = 14039 := (by decide); have z4 : (14042 : Int32).toInt = 14042 := (by decide); have z5 : (160 : Int32).toInt = 160 := (by decide); have z6 : (48 : Int32).toInt = 48 := (by decide); have z7 : (5 : Int32).toInt = 5 := (by decide); have z8 : (57 : Int32).toInt = 57 := (by decide); omega)⟩), hX241_1⟩
                · skip
                  refine R_ldc2 (pc := 342) w_1245c dX9_nextToken_342 ?_
                  refine R_goto (pc := 345) 351 dX9_nextToken_345 (by decide) ?_
                  refine p_X9_271 (pc := 351) rfl dX9_nextToken_351 (c_140 _) (Nat.le_of_ble_eq_true rfl) rfl rfl (s_140_41 _ _) ?_
                  have hW42 := cor_sj 14041 (-4) hC241 rfl
                  refine R_goto (pc := 354) 394 dX9_nextToken_354 (by decide) ?_
                  exact R_vret (pc := 394) dX9_nextToken_394 rfl (Nat.zero_le _) (Nat.zero_le _) ⟨rfl, _, rfl, hI241, hW42, (show Pm (uJ σ241 14041 (-4)) from ⟨(show 0 ≤ ((σ241.1 14039) : Int32).toInt from by have q0 := hP.1; have q1 := hP.2; have q2 := hX0_0.1; have q3 := hX0_0.2; have q4 := hX241_0.1; have q5 := hX241_0.2; have q6 := ti_ne b64_5; have q7 := ti_nle b339_40; have q8 := ti_in (pm_p hI hP); have q9 := ti_in (iv_14037 hI); have q10 := ti_in hM0_; have q11 := ti_in (iv_14037 hI0); have q12 := ti_in h37; have q13 := ti_in hM241_; have q14 := ti_in (iv_14037 hI241); have z0 : (0 : Int32).toInt = 0 := (by decide); have z1 : (1 : Int32).toInt = 1 := (by decide); have z2 : (14037 : Int32).toInt = 14037 := (by decide); have z3 : (14039 : Int32).toInt = 14039 := (by decide); have z4 : (14042 : Int32).toInt = 14042 := (by decide); have z5 : (160 : Int32).toInt = 160 := (by decide); have z6 : (48 : Int32).toInt = 48 := (by decide); have z7 : (5 : Int32).toInt = 5 := (by decide); have z8 : (57 : Int32).toInt = 57 := (by decide); omega), (show ((σ241.1 14039) : Int32).toInt ≤ ((σ241.1 14037) : Int32).toInt from by have q0 := hP.1; have q1 := hP.2; have q2 := hX0_0.1; have q3 := hX0_0.2; have q4 := hX241_0.1; have q5 := hX241_0.2; have q6 := ti_ne b64_5; have q7 := ti_nle b339_40; have q8 := ti_in (pm_p hI hP); have q9 := ti_in (iv_14037 hI); have q10 := ti_in hM0_; have q11 := ti_in (iv_14037 hI0); have q12 := ti_in h37; have q13 := ti_in hM241_; have q14 := ti_in (iv_14037 hI241); have z0 : (0 : Int32).toInt = 0 := (by decide); have z1 : (1 : Int32).toInt = 1 := (by decide); have z2 : (14037 : Int32).toInt = 14037 := (by decide); have z3 : (14039 : Int32).toInt = 14039 := (by decide); have z4 : (14042 : Int32).toInt = 14042 := (by decide); have z5 : (160 : Int32).toInt = 160 := (by decide); have z6 : (48 : Int32).toInt = 48 := (by decide); have z7 : (5 : Int32).toInt = 5 := (by decide); have z8 : (57 : Int32).toInt = 57 := (by decide); omega)⟩), hX241_1⟩
              | succ q ih241 =>
                intro σ241 hj241 hrg241 hI241 hC241 hX241_0 hX241_1
                have hM241_ : inR (σ241.1 14039) 0 159 := of_ti (ti_in hrg241).1 (by have z : (159 : Int32).toInt = 159 := (by decide); omega)
                refine R_aload_n (pc := 241) dX9_nextToken_241 rfl rfl ?_
                refine g_X9_257 (pc := 242) (v := .int (σ241.1 14039)) rfl dX9_nextToken_242 (c_140 _) rfl ?_
                refine R_aload_n (pc := 245) dX9_nextToken_245 rfl rfl ?_
                refine g_X9_254 (pc := 246) (v := .int (σ241.1 14037)) rfl dX9_nextToken_246 (c_140 _) rfl ?_
                refine R_icge (pc := 249) 333 dX9_nextToken_249 (by decide) (fun b249_43 => ?_) (fun b249_43 => ?_)
                · skip
                  refine R_aload_n (pc := 333) dX9_nextToken_333 rfl rfl ?_
                  refine R_aload_n (pc := 334) dX9_nextToken_334 rfl rfl ?_
                  refine g_X9_263 (pc := 335) (v := .int (σ241.1 14042)) rfl dX9_nextToken_335 (c_140 _) rfl ?_
                  refine R_iconst (pc := 338) (v := 5) dX9_nextToken_338 (by decide) ?_
                  refine R_icle (pc := 339) 348 dX9_nextToken_339 (by decide) (fun b339_44 => ?_) (fun b339_44 => ?_)
                  · skip
                    refine R_ldc2 (pc := 348) w_1212c dX9_nextToken_348 ?_
                    refine p_X9_271 (pc := 351) rfl dX9_nextToken_351 (c_140 _) (Nat.le_of_ble_eq_true rfl) rfl rfl (s_140_41 _ _) ?_
                    have hW45 := cor_sj 14041 (-1) hC241 rfl
                    refine R_goto (pc := 354) 394 dX9_nextToken_354 (by decide) ?_
                    exact R_vret (pc := 394) dX9_nextToken_394 rfl (Nat.zero_le _) (Nat.zero_le _) ⟨rfl, _, rfl, hI241, hW45, (show Pm (uJ σ241 14041 (-1)) from ⟨(show 0 ≤ ((σ241.1 14039) : Int32).toInt from by have q0 := hP.1; have q1 := hP.2; have q2 := hX0_0.1; have q3 := hX0_0.2; have q4 := hX241_0.1; have q5 := hX241_0.2; have q6 := ti_ne b64_5; have q7 := ti_le b249_43; have q8 := ti_le b339_44; have q9 := ti_in (pm_p hI hP); have q10 := ti_in (iv_14037 hI); have q11 := ti_in hM0_; have q12 := ti_in (iv_14037 hI0); have q13 := ti_in h37; have q14 := ti_in hM241_; have q15 := ti_in (iv_14037 hI241); have z0 : (0 : Int32).toInt = 0 := (by decide); have z1 : (1 : Int32).toInt = 1 := (by decide); have z2 : (14037 : Int32).toInt = 14037 := (by decide); have z3 : (14039 : Int32).toInt = 14039 := (by decide); have z4 : (14042 : Int32).toInt = 14042 := (by decide); have z5 : (159 : Int32).toInt = 159 := (by decide); have z6 : (160 : Int32).toInt = 160 := (by decide); have z7 : (48 : Int32).toInt = 48 := (by decide); have z8 : (5 : Int32).toInt = 5 := (by decide); have z9 : (57 : Int32).toInt = 57 := (by decide); omega), (show ((σ241.1 14039) : Int32).toInt ≤ ((σ241.1 14037) : Int32).toInt from by have q0 := hP.1; have q1 := hP.2; have q2 := hX0_0.1; have q3 := hX0_0.2; have q4 := hX241_0.1; have q5 := hX241_0.2; have q6 := ti_ne b64_5; have q7 := ti_le b249_43; have q8 := ti_le b339_44; have q9 := ti_in (pm_p hI hP); have q10 := ti_in (iv_14037 hI); have q11 := ti_in hM0_; have q12 := ti_in (iv_14037 hI0); have q13 := ti_in h37; have q14 := ti_in hM241_; have q15 := ti_in (iv_14037 hI241); have z0 : (0 : Int32).toInt = 0 := (by decide); have z1 : (1 : Int32).toInt = 1 := (by decide); have z2 : (14037 : Int32).toInt = 14037 := (by decide); have z3 : (14039 : Int32).toInt = 14039 := (by decide); have z4 : (14042 : Int32).toInt = 14042 := (by decide); have z5 : (159 : Int32).toInt = 159 := (by decide); have z6 : (160 : Int32).toInt = 160 := (by decide); have z7 : (48 : Int32).toInt = 48 := (by decide); have z8 : (5 : Int32).toInt = 5 := (by decide); have z9 : (57 : Int32).toInt = 57 := (by decide); omega)⟩), hX241_1⟩
                  · skip
                    refine R_ldc2 (pc := 342) w_1245c dX9_nextToken_342 ?_
                    refine R_goto (pc := 345) 351 dX9_nextToken_345 (by decide) ?_
                    refine p_X9_271 (pc := 351) rfl dX9_nextToken_351 (c_140 _) (Nat.le_of_ble_eq_true rfl) rfl rfl (s_140_41 _ _) ?_
                    have hW46 := cor_sj 14041 (-4) hC241 rfl
                    refine R_goto (pc := 354) 394 dX9_nextToken_354 (by decide) ?_
                    exact R_vret (pc := 394) dX9_nextToken_394 rfl (Nat.zero_le _) (Nat.zero_le _) ⟨rfl, _, rfl, hI241, hW46, (show Pm (uJ σ241 14041 (-4)) from ⟨(show 0 ≤ ((σ241.1 14039) : Int32).toInt from by have q0 := hP.1; have q1 := hP.2; have q2 := hX0_0.1; have q3 := hX0_0.2; have q4 := hX241_0.1; have q5 := hX241_0.2; have q6 := ti_ne b64_5; have q7 := ti_le b249_43; have q8 := ti_nle b339_44; have q9 := ti_in (pm_p hI hP); have q10 := ti_in (iv_14037 hI); have q11 := ti_in hM0_; have q12 := ti_in (iv_14037 hI0); have q13 := ti_in h37; have q14 := ti_in hM241_; have q15 := ti_in (iv_14037 hI241); have z0 : (0 : Int32).toInt = 0 := (by decide); have z1 : (1 : Int32).toInt = 1 := (by decide); have z2 : (14037 : Int32).toInt = 14037 := (by decide); have z3 : (14039 : Int32).toInt = 14039 := (by decide); have z4 : (14042 : Int32).toInt = 14042 := (by decide); have z5 : (159 : Int32).toInt = 159 := (by decide); have z6 : (160 : Int32).toInt = 160 := (by decide); have z7 : (48 : Int32).toInt = 48 := (by decide); have z8 : (5 : Int32).toInt = 5 := (by decide); have z9 : (57 : Int32).toInt = 57 := (by decide); omega), (show ((σ241.1 14039) : Int32).toInt ≤ ((σ241.1 14037) : Int32).toInt from by have q0 := hP.1; have q1 := hP.2; have q2 := hX0_0.1; have q3 := hX0_0.2; have q4 := hX241_0.1; have q5 := hX241_0.2; have q6 := ti_ne b64_5; have q7 := ti_le b249_43; have q8 := ti_nle b339_44; have q9 := ti_in (pm_p hI hP); have q10 := ti_in (iv_14037 hI); have q11 := ti_in hM0_; have q12 := ti_in (iv_14037 hI0); have q13 := ti_in h37; have q14 := ti_in hM241_; have q15 := ti_in (iv_14037 hI241); have z0 : (0 : Int32).toInt = 0 := (by decide); have z1 : (1 : Int32).toInt = 1 := (by decide); have z2 : (14037 : Int32).toInt = 14037 := (by decide); have z3 : (14039 : Int32).toInt = 14039 := (by decide); have z4 : (14042 : Int32).toInt = 14042 := (by decide); have z5 : (159 : Int32).toInt = 159 := (by decide); have z6 : (160 : Int32).toInt = 160 := (by decide); have z7 : (48 : Int32).toInt = 48 := (by decide); have z8 : (5 : Int32).toInt = 5 := (by decide); have z9 : (57 : Int32).toInt = 57 := (by decide); omega)⟩), hX241_1⟩
                · skip
                  refine R_aload_n (pc := 252) dX9_nextToken_252 rfl rfl ?_
                  refine g_X9_108 (pc := 253) (v := .ref 170) rfl dX9_nextToken_253 (c_140 _) rfl ?_
                  refine R_aload_n (pc := 256) dX9_nextToken_256 rfl rfl ?_
                  refine g_X9_257 (pc := 257) (v := .int (σ241.1 14039)) rfl dX9_nextToken_257 (c_140 _) rfl ?_
                  have hx47 : vp_in (σ241.1 14039) 160 := (vp_of_inR hM241_ (by decide))
                  refine R_iaload (pc := 260) dX9_nextToken_260 (c_170 _) hx47 ?_
                  refine R_bipush (pc := 261) (v := 48) dX9_nextToken_261 (by decide) ?_
                  refine R_bipush (pc := 263) (v := 57) dX9_nextToken_263 (by decide) ?_
                  refine k_X9_124 (pc := 265) (sp_X9_in _ _ _ _) rfl (by decide) (Nat.le_refl _) (Nat.le_refl _) (Nat.le_of_ble_eq_true rfl) dX9_nextToken_265 (fun x w2 h => ?_)
                  rcases h with ⟨rfl, ⟨h48, rfl⟩ | ⟨h48, rfl⟩⟩
                  · skip
                    refine R_ifeq (pc := 268) 333 dX9_nextToken_268 (by decide) (fun h => absurd h (by decide)) (fun _ => ?_)
                    refine R_aload_n (pc := 271) dX9_nextToken_271 rfl rfl ?_
                    refine R_aload_n (pc := 272) dX9_nextToken_272 rfl rfl ?_
                    refine g_X9_263 (pc := 273) (v := .int (σ241.1 14042)) rfl dX9_nextToken_273 (c_140 _) rfl ?_
                    refine R_iconst (pc := 276) (v := 5) dX9_nextToken_276 (by decide) ?_
                    refine R_icge (pc := 277) 303 dX9_nextToken_277 (by decide) (fun b277_50 => ?_) (fun b277_50 => ?_)
                    · skip
                      refine R_aload_n (pc := 303) dX9_nextToken_303 rfl rfl ?_
                      refine g_X9_266 (pc := 304) (v := .int (σ241.1 14043)) rfl dX9_nextToken_304 (c_140 _) rfl ?_
                      refine p_X9_266 (pc := 307) rfl dX9_nextToken_307 (c_140 _) (Nat.le_of_ble_eq_true rfl) rfl rfl (s_140_43 _ _) ?_
                      have hW51 := cor_si 14043 (σ241.1 14043) hC241 rfl
                      refine R_aload_n (pc := 310) dX9_nextToken_310 rfl rfl ?_
                      refine R_dup (pc := 311) dX9_nextToken_311 rfl ?_
                      refine g_X9_263 (pc := 312) (v := .int (σ241.1 14042)) rfl dX9_nextToken_312 (c_140 _) rfl ?_
                      refine R_iconst (pc := 315) (v := 1) dX9_nextToken_315 (by decide) ?_
                      refine R_iadd (pc := 316) dX9_nextToken_316 ?_
                      refine p_X9_263 (pc := 317) rfl dX9_nextToken_317 (c_140 _) (Nat.le_of_ble_eq_true rfl) rfl rfl (s_140_42 _ _) ?_
                      have hW52 := cor_si 14042 ((σ241.1 14042) + 1) hW51 rfl
                      refine R_aload_n (pc := 320) dX9_nextToken_320 rfl rfl ?_
                      refine R_dup (pc := 321) dX9_nextToken_321 rfl ?_
                      refine g_X9_257 (pc := 322) (v := .int (σ241.1 14039)) rfl dX9_nextToken_322 (c_140 _) rfl ?_
                      refine R_iconst (pc := 325) (v := 1) dX9_nextToken_325 (by decide) ?_
                      refine R_iadd (pc := 326) dX9_nextToken_326 ?_
                      have r53 : inR ((σ241.1 14039) + 1) 1 160 := inR_add (show inR (σ241.1 14039) 0 159 from hM241_) (show inR 1 1 1 from (inR_self _)) (by decide) (by decide)
                      have e54 := ti_add (l := 1) (h := 160) (show inR (σ241.1 14039) 0 159 from hM241_) (show inR 1 1 1 from (inR_self _)) (by decide) (by decide)
                      refine p_X9_257 (pc := 327) rfl dX9_nextToken_327 (c_140 _) (Nat.le_of_ble_eq_true rfl) rfl rfl (s_140_39 _ _) ?_
                      have hW55 := cor_si 14039 ((σ241.1 14039) + 1) hW52 rfl
                      refine R_goto (pc := 330) 241 dX9_nextToken_330 (by decide) ?_
                      exact ih241 _ (show (((σ241.1 14039) + 1) : Int32).toInt + (q : Int) = 160 from by have q0 := hP.1; have q1 := hP.2; have q2 := hX0_0.1; have q3 := hX0_0.2; have q4 := hX241_0.1; have q5 := hX241_0.2; have q6 := e54; have q7 := ti_ne b64_5; have q8 := ti_nle b249_43; have q9 := ti_le b277_50; have q10 := ti_in (pm_p hI hP); have q11 := ti_in (iv_14037 hI); have q12 := ti_in hM0_; have q13 := ti_in (iv_14037 hI0); have q14 := ti_in h37; have q15 := ti_in hM241_; have q16 := ti_in (iv_14037 hI241); have q17 := ti_in h48; have q18 := ti_in r53; have q19 := hj241; have z0 : (0 : Int32).toInt = 0 := (by decide); have z1 : (1 : Int32).toInt = 1 := (by decide); have z2 : (14037 : Int32).toInt = 14037 := (by decide); have z3 : (14039 : Int32).toInt = 14039 := (by decide); have z4 : (14042 : Int32).toInt = 14042 := (by decide); have z5 : (159 : Int32).toInt = 159 := (by decide); have z6 : (160 : Int32).toInt = 160 := (by decide); have z7 : (48 : Int32).toInt = 48 := (by decide); have z8 : (5 : Int32).toInt = 5 := (by decide); have z9 : (57 : Int32).toInt = 57 := (by decide); omega) (inR_up r53 (by decide) (by decide)) hI241 hW55 (show Pm (uI (uI (uI σ241 14043 (σ241.1 14043)) 14042 ((σ241.1 14042) + 1)) 14039 ((σ241.1 14039) + 1)) from ⟨(show 0 ≤ (((σ241.1 14039) + 1) : Int32).toInt from by have q0 := hP.1; have q1 := hP.2; have q2 := hX0_0.1; have q3 := hX0_0.2; have q4 := hX241_0.1; have q5 := hX241_0.2; have q6 := e54; have q7 := ti_ne b64_5; have q8 := ti_nle b249_43; have q9 := ti_le b277_50; have q10 := ti_in (pm_p hI hP); have q11 := ti_in (iv_14037 hI); have q12 := ti_in hM0_; have q13 := ti_in (iv_14037 hI0); have q14 := ti_in h37; have q15 := ti_in hM241_; have q16 := ti_in (iv_14037 hI241); have q17 := ti_in h48; have q18 := ti_in r53; have z0 : (0 : Int32).toInt = 0 := (by decide); have z1 : (1 : Int32).toInt = 1 := (by decide); have z2 : (14037 : Int32).toInt = 14037 := (by decide); have z3 : (14039 : Int32).toInt = 14039 := (by decide); have z4 : (14042 : Int32).toInt = 14042 := (by decide); have z5 : (159 : Int32).toInt = 159 := (by decide); have z6 : (160 : Int32).toInt = 160 := (by decide); have z7 : (48 : Int32).toInt = 48 := (by decide); have z8 : (5 : Int32).toInt = 5 := (by decide); have z9 : (57 : Int32).toInt = 57 := (by decide); omega), (show (((σ241.1 14039) + 1) : Int32).toInt ≤ ((σ241.1 14037) : Int32).toInt from by have q0 := hP.1; have q1 := hP.2; have q2 := hX0_0.1; have q3 := hX0_0.2; have q4 := hX241_0.1; have q5 := hX241_0.2; have q6 := e54; have q7 := ti_ne b64_5; have q8 := ti_nle b249_43; have q9 := ti_le b277_50; have q10 := ti_in (pm_p hI hP); have q11 := ti_in (iv_14037 hI); have q12 := ti_in hM0_; have q13 := ti_in (iv_14037 hI0); have q14 := ti_in h37; have q15 := ti_in hM241_; have q16 := ti_in (iv_14037 hI241); have q17 := ti_in h48; have q18 := ti_in r53; have z0 : (0 : Int32).toInt = 0 := (by decide); have z1 : (1 : Int32).toInt = 1 := (by decide); have z2 : (14037 : Int32).toInt = 14037 := (by decide); have z3 : (14039 : Int32).toInt = 14039 := (by decide); have z4 : (14042 : Int32).toInt = 14042 := (by decide); have z5 : (159 : Int32).toInt = 159 := (by decide); have z6 : (160 : Int32).toInt = 160 := (by decide); have z7 : (48 : Int32).toInt = 48 := (by decide); have z8 : (5 : Int32).toInt = 5 := (by decide); have z9 : (57 : Int32).toInt = 57 := (by decide); omega)⟩) hX241_1
                    · skip
                      refine R_bipush (pc := 280) (v := 10) dX9_nextToken_280 (by decide) ?_
                      refine R_aload_n (pc := 282) dX9_nextToken_282 rfl rfl ?_
                      refine g_X9_266 (pc := 283) (v := .int (σ241.1 14043)) rfl dX9_nextToken_283 (c_140 _) rfl ?_
                      refine R_imul (pc := 286) dX9_nextToken_286 ?_
                      refine R_aload_n (pc := 287) dX9_nextToken_287 rfl rfl ?_
                      refine g_X9_108 (pc := 288) (v := .ref 170) rfl dX9_nextToken_288 (c_140 _) rfl ?_
                      refine R_aload_n (pc := 291) dX9_nextToken_291 rfl rfl ?_
                      refine g_X9_257 (pc := 292) (v := .int (σ241.1 14039)) rfl dX9_nextToken_292 (c_140 _) rfl ?_
                      have hx56 : vp_in (σ241.1 14039) 160 := (vp_of_inR hM241_ (by decide))
                      refine R_iaload (pc := 295) dX9_nextToken_295 (c_170 _) hx56 ?_
                      refine R_iadd (pc := 296) dX9_nextToken_296 ?_
                      refine R_bipush (pc := 297) (v := 48) dX9_nextToken_297 (by decide) ?_
                      refine R_isub (pc := 299) dX9_nextToken_299 ?_
                      refine R_goto (pc := 300) 307 dX9_nextToken_300 (by decide) ?_
                      refine p_X9_266 (pc := 307) rfl dX9_nextToken_307 (c_140 _) (Nat.le_of_ble_eq_true rfl) rfl rfl (s_140_43 _ _) ?_
                      have hW57 := cor_si 14043 (((10 * (σ241.1 14043)) + (σ241.2.2.1 170 (Int32.toNatClampNeg (σ241.1 14039)))) - 48) hC241 rfl
                      refine R_aload_n (pc := 310) dX9_nextToken_310 rfl rfl ?_
                      refine R_dup (pc := 311) dX9_nextToken_311 rfl ?_
                      refine g_X9_263 (pc := 312) (v := .int (σ241.1 14042)) rfl dX9_nextToken_312 (c_140 _) rfl ?_
                      refine R_iconst (pc := 315) (v := 1) dX9_nextToken_315 (by decide) ?_
                      refine R_iadd (pc := 316) dX9_nextToken_316 ?_
                      refine p_X9_263 (pc := 317) rfl dX9_nextToken_317 (c_140 _) (Nat.le_of_ble_eq_true rfl) rfl rfl (s_140_42 _ _) ?_
                      have hW58 := cor_si 14042 ((σ241.1 14042) + 1) hW57 rfl
                      refine R_aload_n (pc := 320) dX9_nextToken_320 rfl rfl ?_
                      refine R_dup (pc := 321) dX9_nextToken_321 rfl ?_
                      refine g_X9_257 (pc := 322) (v := .int (σ241.1 14039)) rfl dX9_nextToken_322 (c_140 _) rfl ?_
                      refine R_iconst (pc := 325) (v := 1) dX9_nextToken_325 (by decide) ?_
                      refine R_iadd (pc := 326) dX9_nextToken_326 ?_
                      have r59 : inR ((σ241.1 14039) + 1) 1 160 := inR_add (show inR (σ241.1 14039) 0 159 from hM241_) (show inR 1 1 1 from (inR_self _)) (by decide) (by decide)
                      have e60 := ti_add (l := 1) (h := 160) (show inR (σ241.1 14039) 0 159 from hM241_) (show inR 1 1 1 from (inR_self _)) (by decide) (by decide)
                      refine p_X9_257 (pc := 327) rfl dX9_nextToken_327 (c_140 _) (Nat.le_of_ble_eq_true rfl) rfl rfl (s_140_39 _ _) ?_
                      have hW61 := cor_si 14039 ((σ241.1 14039) + 1) hW58 rfl
                      refine R_goto (pc := 330) 241 dX9_nextToken_330 (by decide) ?_
                      exact ih241 _ (show (((σ241.1 14039) + 1) : Int32).toInt + (q : Int) = 160 from by have q0 := hP.1; have q1 := hP.2; have q2 := hX0_0.1; have q3 := hX0_0.2; have q4 := hX241_0.1; have q5 := hX241_0.2; have q6 := e60; have q7 := ti_ne b64_5; have q8 := ti_nle b249_43; have q9 := ti_nle b277_50; have q10 := ti_in (pm_p hI hP); have q11 := ti_in (iv_14037 hI); have q12 := ti_in hM0_; have q13 := ti_in (iv_14037 hI0); have q14 := ti_in h37; have q15 := ti_in hM241_; have q16 := ti_in (iv_14037 hI241); have q17 := ti_in h48; have q18 := ti_in r59; have q19 := hj241; have z0 : (0 : Int32).toInt = 0 := (by decide); have z1 : (1 : Int32).toInt = 1 := (by decide); have z2 : (14037 : Int32).toInt = 14037 := (by decide); have z3 : (14039 : Int32).toInt = 14039 := (by decide); have z4 : (14042 : Int32).toInt = 14042 := (by decide); have z5 : (159 : Int32).toInt = 159 := (by decide); have z6 : (160 : Int32).toInt = 160 := (by decide); have z7 : (48 : Int32).toInt = 48 := (by decide); have z8 : (5 : Int32).toInt = 5 := (by decide); have z9 : (57 : Int32).toInt = 57 := (by decide); omega) (inR_up r59 (by decide) (by decide)) hI241 hW61 (show Pm (uI (uI (uI σ241 14043 (((10 * (σ241.1 14043)) + (σ241.2.2.1 170 (Int32.toNatClampNeg (σ241.1 14039)))) - 48)) 14042 ((σ241.1 14042) + 1)) 14039 ((σ241.1 14039) + 1)) from ⟨(show 0 ≤ (((σ241.1 14039) + 1) : Int32).toInt from by have q0 := hP.1; have q1 := hP.2; have q2 := hX0_0.1; have q3 := hX0_0.2; have q4 := hX241_0.1; have q5 := hX241_0.2; have q6 := e60; have q7 := ti_ne b64_5; have q8 := ti_nle b249_43; have q9 := ti_nle b277_50; have q10 := ti_in (pm_p hI hP); have q11 := ti_in (iv_14037 hI); have q12 := ti_in hM0_; have q13 := ti_in (iv_14037 hI0); have q14 := ti_in h37; have q15 := ti_in hM241_; have q16 := ti_in (iv_14037 hI241); have q17 := ti_in h48; have q18 := ti_in r59; have z0 : (0 : Int32).toInt = 0 := (by decide); have z1 : (1 : Int32).toInt = 1 := (by decide); have z2 : (14037 : Int32).toInt = 14037 := (by decide); have z3 : (14039 : Int32).toInt = 14039 := (by decide); have z4 : (14042 : Int32).toInt = 14042 := (by decide); have z5 : (159 : Int32).toInt = 159 := (by decide); have z6 : (160 : Int32).toInt = 160 := (by decide); have z7 : (48 : Int32).toInt = 48 := (by decide); have z8 : (5 : Int32).toInt = 5 := (by decide); have z9 : (57 : Int32).toInt = 57 := (by decide); omega), (show (((σ241.1 14039) + 1) : Int32).toInt ≤ ((σ241.1 14037) : Int32).toInt from by have q0 := hP.1; have q1 := hP.2; have q2 := hX0_0.1; have q3 := hX0_0.2; have q4 := hX241_0.1; have q5 := hX241_0.2; have q6 := e60; have q7 := ti_ne b64_5; have q8 := ti_nle b249_43; have q9 := ti_nle b277_50; have q10 := ti_in (pm_p hI hP); have q11 := ti_in (iv_14037 hI); have q12 := ti_in hM0_; have q13 := ti_in (iv_14037 hI0); have q14 := ti_in h37; have q15 := ti_in hM241_; have q16 := ti_in (iv_14037 hI241); have q17 := ti_in h48; have q18 := ti_in r59; have z0 : (0 : Int32).toInt = 0 := (by decide); have z1 : (1 : Int32).toInt = 1 := (by decide); have z2 : (14037 : Int32).toInt = 14037 := (by decide); have z3 : (14039 : Int32).toInt = 14039 := (by decide); have z4 : (14042 : Int32).toInt = 14042 := (by decide); have z5 : (159 : Int32).toInt = 159 := (by decide); have z6 : (160 : Int32).toInt = 160 := (by decide); have z7 : (48 : Int32).toInt = 48 := (by decide); have z8 : (5 : Int32).toInt = 5 := (by decide); have z9 : (57 : Int32).toInt = 57 := (by decide); omega)⟩) hX241_1
                  · skip
                    refine R_ifeq (pc := 268) 333 dX9_nextToken_268 (by decide) (fun _ => ?_) (fun h => absurd (by decide) h)
                    refine R_aload_n (pc := 333) dX9_nextToken_333 rfl rfl ?_
                    refine R_aload_n (pc := 334) dX9_nextToken_334 rfl rfl ?_
                    refine g_X9_263 (pc := 335) (v := .int (σ241.1 14042)) rfl dX9_nextToken_335 (c_140 _) rfl ?_
                    refine R_iconst (pc := 338) (v := 5) dX9_nextToken_338 (by decide) ?_
                    refine R_icle (pc := 339) 348 dX9_nextToken_339 (by decide) (fun b339_63 => ?_) (fun b339_63 => ?_)
                    · skip
                      refine R_ldc2 (pc := 348) w_1212c dX9_nextToken_348 ?_
                      refine p_X9_271 (pc := 351) rfl dX9_nextToken_351 (c_140 _) (Nat.le_of_ble_eq_true rfl) rfl rfl (s_140_41 _ _) ?_
                      have hW64 := cor_sj 14041 (-1) hC241 rfl
                      refine R_goto (pc := 354) 394 dX9_nextToken_354 (by decide) ?_
                      exact R_vret (pc := 394) dX9_nextToken_394 rfl (Nat.zero_le _) (Nat.zero_le _) ⟨rfl, _, rfl, hI241, hW64, (show Pm (uJ σ241 14041 (-1)) from ⟨(show 0 ≤ ((σ241.1 14039) : Int32).toInt from by have q0 := hP.1; have q1 := hP.2; have q2 := hX0_0.1; have q3 := hX0_0.2; have q4 := hX241_0.1; have q5 := hX241_0.2; have q6 := ti_ne b64_5; have q7 := ti_nle b249_43; have q8 := ti_le b339_63; have q9 := ti_in (pm_p hI hP); have q10 := ti_in (iv_14037 hI); have q11 := ti_in hM0_; have q12 := ti_in (iv_14037 hI0); have q13 := ti_in h37; have q14 := ti_in hM241_; have q15 := ti_in (iv_14037 hI241); have z0 : (0 : Int32).toInt = 0 := (by decide); have z1 : (1 : Int32).toInt = 1 := (by decide); have z2 : (14037 : Int32).toInt = 14037 := (by decide); have z3 : (14039 : Int32).toInt = 14039 := (by decide); have z4 : (14042 : Int32).toInt = 14042 := (by decide); have z5 : (159 : Int32).toInt = 159 := (by decide); have z6 : (160 : Int32).toInt = 160 := (by decide); have z7 : (48 : Int32).toInt = 48 := (by decide); have z8 : (5 : Int32).toInt = 5 := (by decide); have z9 : (57 : Int32).toInt = 57 := (by decide); omega), (show ((σ241.1 14039) : Int32).toInt ≤ ((σ241.1 14037) : Int32).toInt from by have q0 := hP.1; have q1 := hP.2; have q2 := hX0_0.1; have q3 := hX0_0.2; have q4 := hX241_0.1; have q5 := hX241_0.2; have q6 := ti_ne b64_5; have q7 := ti_nle b249_43; have q8 := ti_le b339_63; have q9 := ti_in (pm_p hI hP); have q10 := ti_in (iv_14037 hI); have q11 := ti_in hM0_; have q12 := ti_in (iv_14037 hI0); have q13 := ti_in h37; have q14 := ti_in hM241_; have q15 := ti_in (iv_14037 hI241); have z0 : (0 : Int32).toInt = 0 := (by decide); have z1 : (1 : Int32).toInt = 1 := (by decide); have z2 : (14037 : Int32).toInt = 14037 := (by decide); have z3 : (14039 : Int32).toInt = 14039 := (by decide); have z4 : (14042 : Int32).toInt = 14042 := (by decide); have z5 : (159 : Int32).toInt = 159 := (by decide); have z6 : (160 : Int32).toInt = 160 := (by decide); have z7 : (48 : Int32).toInt = 48 := (by decide); have z8 : (5 : Int32).toInt = 5 := (by decide); have z9 : (57 : Int32).toInt = 57 := (by decide); omega)⟩), hX241_1⟩
                    · skip
                      refine R_ldc2 (pc := 342) w_1245c dX9_nextToken_342 ?_
                      refine R_goto (pc := 345) 351 dX9_nextToken_345 (by decide) ?_
                      refine p_X9_271 (pc := 351) rfl dX9_nextToken_351 (c_140 _) (Nat.le_of_ble_eq_true rfl) rfl rfl (s_140_41 _ _) ?_
                      have hW65 := cor_sj 14041 (-4) hC241 rfl
                      refine R_goto (pc := 354) 394 dX9_nextToken_354 (by decide) ?_
                      exact R_vret (pc := 394) dX9_nextToken_394 rfl (Nat.zero_le _) (Nat.zero_le _) ⟨rfl, _, rfl, hI241, hW65, (show Pm (uJ σ241 14041 (-4)) from ⟨(show 0 ≤ ((σ241.1 14039) : Int32).toInt from by have q0 := hP.1; have q1 := hP.2; have q2 := hX0_0.1; have q3 := hX0_0.2; have q4 := hX241_0.1; have q5 := hX241_0.2; have q6 := ti_ne b64_5; have q7 := ti_nle b249_43; have q8 := ti_nle b339_63; have q9 := ti_in (pm_p hI hP); have q10 := ti_in (iv_14037 hI); have q11 := ti_in hM0_; have q12 := ti_in (iv_14037 hI0); have q13 := ti_in h37; have q14 := ti_in hM241_; have q15 := ti_in (iv_14037 hI241); have z0 : (0 : Int32).toInt = 0 := (by decide); have z1 : (1 : Int32).toInt = 1 := (by decide); have z2 : (14037 : Int32).toInt = 14037 := (by decide); have z3 : (14039 : Int32).toInt = 14039 := (by decide); have z4 : (14042 : Int32).toInt = 14042 := (by decide); have z5 : (159 : Int32).toInt = 159 := (by decide); have z6 : (160 : Int32).toInt = 160 := (by decide); have z7 : (48 : Int32).toInt = 48 := (by decide); have z8 : (5 : Int32).toInt = 5 := (by decide); have z9 : (57 : Int32).toInt = 57 := (by decide); omega), (show ((σ241.1 14039) : Int32).toInt ≤ ((σ241.1 14037) : Int32).toInt from by have q0 := hP.1; have q1 := hP.2; have q2 := hX0_0.1; have q3 := hX0_0.2; have q4 := hX241_0.1; have q5 := hX241_0.2; have q6 := ti_ne b64_5; have q7 := ti_nle b249_43; have q8 := ti_nle b339_63; have q9 := ti_in (pm_p hI hP); have q10 := ti_in (iv_14037 hI); have q11 := ti_in hM0_; have q12 := ti_in (iv_14037 hI0); have q13 := ti_in h37; have q14 := ti_in hM241_; have q15 := ti_in (iv_14037 hI241); have z0 : (0 : Int32).toInt = 0 := (by decide); have z1 : (1 : Int32).toInt = 1 := (by decide); have z2 : (14037 : Int32).toInt = 14037 := (by decide); have z3 : (14039 : Int32).toInt = 14039 := (by decide); have z4 : (14042 : Int32).toInt = 14042 := (by decide); have z5 : (159 : Int32).toInt = 159 := (by decide); have z6 : (160 : Int32).toInt = 160 := (by decide); have z7 : (48 : Int32).toInt = 48 := (by decide); have z8 : (5 : Int32).toInt = 5 := (by decide); have z9 : (57 : Int32).toInt = 57 := (by decide); omega)⟩), hX241_1⟩
            exact HL241 ((160 : Int) - ((σ0.1 14039) : Int32).toInt).toNat _ (show ((σ0.1 14039) : Int32).toInt + ((((160 : Int) - ((σ0.1 14039) : Int32).toInt).toNat : Nat) : Int) = 160 from by have q0 := hP.1; have q1 := hP.2; have q2 := hX0_0.1; have q3 := hX0_0.2; have q4 := ti_ne b64_5; have q5 := ti_in (pm_p hI hP); have q6 := ti_in (iv_14037 hI); have q7 := ti_in hM0_; have q8 := ti_in (iv_14037 hI0); have q9 := ti_in h37; have z0 : (0 : Int32).toInt = 0 := (by decide); have z1 : (1 : Int32).toInt = 1 := (by decide); have z2 : (14037 : Int32).toInt = 14037 := (by decide); have z3 : (14039 : Int32).toInt = 14039 := (by decide); have z4 : (160 : Int32).toInt = 160 := (by decide); have z5 : (48 : Int32).toInt = 48 := (by decide); have z6 : (57 : Int32).toInt = 57 := (by decide); omega) (inR_up hM0_ (by decide) (by decide)) hI0 hW4 (show Pm (uI (uI (uI σ0 14040 (σ0.1 14039)) 14042 0) 14043 0) from ⟨(show 0 ≤ ((σ0.1 14039) : Int32).toInt from by have q0 := hP.1; have q1 := hP.2; have q2 := hX0_0.1; have q3 := hX0_0.2; have q4 := ti_ne b64_5; have q5 := ti_in (pm_p hI hP); have q6 := ti_in (iv_14037 hI); have q7 := ti_in hM0_; have q8 := ti_in (iv_14037 hI0); have q9 := ti_in h37; have z0 : (0 : Int32).toInt = 0 := (by decide); have z1 : (1 : Int32).toInt = 1 := (by decide); have z2 : (14037 : Int32).toInt = 14037 := (by decide); have z3 : (14039 : Int32).toInt = 14039 := (by decide); have z4 : (160 : Int32).toInt = 160 := (by decide); have z5 : (48 : Int32).toInt = 48 := (by decide); have z6 : (57 : Int32).toInt = 57 := (by decide); omega), (show ((σ0.1 14039) : Int32).toInt ≤ ((σ0.1 14037) : Int32).toInt from by have q0 := hP.1; have q1 := hP.2; have q2 := hX0_0.1; have q3 := hX0_0.2; have q4 := ti_ne b64_5; have q5 := ti_in (pm_p hI hP); have q6 := ti_in (iv_14037 hI); have q7 := ti_in hM0_; have q8 := ti_in (iv_14037 hI0); have q9 := ti_in h37; have z0 : (0 : Int32).toInt = 0 := (by decide); have z1 : (1 : Int32).toInt = 1 := (by decide); have z2 : (14037 : Int32).toInt = 14037 := (by decide); have z3 : (14039 : Int32).toInt = 14039 := (by decide); have z4 : (160 : Int32).toInt = 160 := (by decide); have z5 : (48 : Int32).toInt = 48 := (by decide); have z6 : (57 : Int32).toInt = 57 := (by decide); omega)⟩) hX0_1
          · skip
            refine R_ifeq (pc := 238) 357 dX9_nextToken_238 (by decide) (fun _ => ?_) (fun h => absurd (by decide) h)
            refine R_aload_n (pc := 357) dX9_nextToken_357 rfl rfl ?_
            refine R_aload_n (pc := 358) dX9_nextToken_358 rfl rfl ?_
            refine g_X9_108 (pc := 359) (v := .ref 170) rfl dX9_nextToken_359 (c_140 _) rfl ?_
            refine R_aload_n (pc := 362) dX9_nextToken_362 rfl rfl ?_
            refine g_X9_257 (pc := 363) (v := .int (σ0.1 14039)) rfl dX9_nextToken_363 (c_140 _) rfl ?_
            have hx67 : vp_in (σ0.1 14039) 160 := (vp_ti (by have q0 := hP.1; have q1 := hP.2; have q2 := hX0_0.1; have q3 := hX0_0.2; have q4 := ti_ne b64_5; have q5 := ti_in (pm_p hI hP); have q6 := ti_in (iv_14037 hI); have q7 := ti_in hM0_; have q8 := ti_in (iv_14037 hI0); have z0 : (0 : Int32).toInt = 0 := (by decide); have z1 : (1 : Int32).toInt = 1 := (by decide); have z2 : (14037 : Int32).toInt = 14037 := (by decide); have z3 : (14039 : Int32).toInt = 14039 := (by decide); have z4 : (160 : Int32).toInt = 160 := (by decide); omega) (by have q0 := hP.1; have q1 := hP.2; have q2 := hX0_0.1; have q3 := hX0_0.2; have q4 := ti_ne b64_5; have q5 := ti_in (pm_p hI hP); have q6 := ti_in (iv_14037 hI); have q7 := ti_in hM0_; have q8 := ti_in (iv_14037 hI0); have z0 : (0 : Int32).toInt = 0 := (by decide); have z1 : (1 : Int32).toInt = 1 := (by decide); have z2 : (14037 : Int32).toInt = 14037 := (by decide); have z3 : (14039 : Int32).toInt = 14039 := (by decide); have z4 : (160 : Int32).toInt = 160 := (by decide); omega))
            refine W_iaload (pc := 366) (σ0.2.2.1 170 (Int32.toNatClampNeg (σ0.1 14039))) dX9_nextToken_366 (c_170 _) hx67 rfl ?_
            refine R_bipush (pc := 367) (v := 59) dX9_nextToken_367 (by decide) ?_
            refine R_icne (pc := 369) 378 dX9_nextToken_369 (by decide) (fun b369_68 => ?_) (fun b369_68 => ?_)
            · skip
              refine R_ldc2 (pc := 378) w_1245c dX9_nextToken_378 ?_
              refine p_X9_271 (pc := 381) rfl dX9_nextToken_381 (c_140 _) (Nat.le_of_ble_eq_true rfl) rfl rfl (s_140_41 _ _) ?_
              have hW69 := cor_sj 14041 (-4) hW4 rfl
              refine R_aload_n (pc := 384) dX9_nextToken_384 rfl rfl ?_
              refine R_dup (pc := 385) dX9_nextToken_385 rfl ?_
              refine g_X9_257 (pc := 386) (v := .int (σ0.1 14039)) rfl dX9_nextToken_386 (c_140 _) rfl ?_
              refine R_iconst (pc := 389) (v := 1) dX9_nextToken_389 (by decide) ?_
              refine R_iadd (pc := 390) dX9_nextToken_390 ?_
              have r70 : inR ((σ0.1 14039) + 1) 161 161 := inR_add (show inR (σ0.1 14039) 160 160 from hM0_) (show inR 1 1 1 from (inR_self _)) (by decide) (by decide)
              have e71 := ti_add (l := 161) (h := 161) (show inR (σ0.1 14039) 160 160 from hM0_) (show inR 1 1 1 from (inR_self _)) (by decide) (by decide)
              refine p_X9_257 (pc := 391) rfl dX9_nextToken_391 (c_140 _) (Nat.le_of_ble_eq_true rfl) rfl rfl (s_140_39 _ _) ?_
              have hW72 := cor_si 14039 ((σ0.1 14039) + 1) hW69 rfl
              exact R_vret (pc := 394) dX9_nextToken_394 rfl (Nat.zero_le _) (Nat.zero_le _) ⟨rfl, _, rfl, hI0, hW72, (show Pm (uI (uJ (uI (uI (uI σ0 14040 (σ0.1 14039)) 14042 0) 14043 0) 14041 (-4)) 14039 ((σ0.1 14039) + 1)) from ⟨(show 0 ≤ (((σ0.1 14039) + 1) : Int32).toInt from by have q0 := hP.1; have q1 := hP.2; have q2 := hX0_0.1; have q3 := hX0_0.2; have q4 := e71; have q5 := ti_ne b64_5; have q6 := ti_ne b369_68; have q7 := ti_in (pm_p hI hP); have q8 := ti_in (iv_14037 hI); have q9 := ti_in hM0_; have q10 := ti_in (iv_14037 hI0); have q11 := ti_in r70; have z0 : (0 : Int32).toInt = 0 := (by decide); have z1 : (1 : Int32).toInt = 1 := (by decide); have z2 : (14037 : Int32).toInt = 14037 := (by decide); have z3 : (14039 : Int32).toInt = 14039 := (by decide); have z4 : (160 : Int32).toInt = 160 := (by decide); have z5 : (161 : Int32).toInt = 161 := (by decide); have z6 : (170 : Int32).toInt = 170 := (by decide); have z7 : (59 : Int32).toInt = 59 := (by decide); omega), (show (((σ0.1 14039) + 1) : Int32).toInt ≤ ((σ0.1 14037) : Int32).toInt from by have q0 := hP.1; have q1 := hP.2; have q2 := hX0_0.1; have q3 := hX0_0.2; have q4 := e71; have q5 := ti_ne b64_5; have q6 := ti_ne b369_68; have q7 := ti_in (pm_p hI hP); have q8 := ti_in (iv_14037 hI); have q9 := ti_in hM0_; have q10 := ti_in (iv_14037 hI0); have q11 := ti_in r70; have z0 : (0 : Int32).toInt = 0 := (by decide); have z1 : (1 : Int32).toInt = 1 := (by decide); have z2 : (14037 : Int32).toInt = 14037 := (by decide); have z3 : (14039 : Int32).toInt = 14039 := (by decide); have z4 : (160 : Int32).toInt = 160 := (by decide); have z5 : (161 : Int32).toInt = 161 := (by decide); have z6 : (170 : Int32).toInt = 170 := (by decide); have z7 : (59 : Int32).toInt = 59 := (by decide); omega)⟩), hX0_1⟩
            · skip
              refine R_ldc2 (pc := 372) w_1246c dX9_nextToken_372 ?_
              refine R_goto (pc := 375) 381 dX9_nextToken_375 (by decide) ?_
              refine p_X9_271 (pc := 381) rfl dX9_nextToken_381 (c_140 _) (Nat.le_of_ble_eq_true rfl) rfl rfl (s_140_41 _ _) ?_
              have hW73 := cor_sj 14041 (-3) hW4 rfl
              refine R_aload_n (pc := 384) dX9_nextToken_384 rfl rfl ?_
              refine R_dup (pc := 385) dX9_nextToken_385 rfl ?_
              refine g_X9_257 (pc := 386) (v := .int (σ0.1 14039)) rfl dX9_nextToken_386 (c_140 _) rfl ?_
              refine R_iconst (pc := 389) (v := 1) dX9_nextToken_389 (by decide) ?_
              refine R_iadd (pc := 390) dX9_nextToken_390 ?_
              have r74 : inR ((σ0.1 14039) + 1) 161 161 := inR_add (show inR (σ0.1 14039) 160 160 from hM0_) (show inR 1 1 1 from (inR_self _)) (by decide) (by decide)
              have e75 := ti_add (l := 161) (h := 161) (show inR (σ0.1 14039) 160 160 from hM0_) (show inR 1 1 1 from (inR_self _)) (by decide) (by decide)
              refine p_X9_257 (pc := 391) rfl dX9_nextToken_391 (c_140 _) (Nat.le_of_ble_eq_true rfl) rfl rfl (s_140_39 _ _) ?_
              have hW76 := cor_si 14039 ((σ0.1 14039) + 1) hW73 rfl
              exact R_vret (pc := 394) dX9_nextToken_394 rfl (Nat.zero_le _) (Nat.zero_le _) ⟨rfl, _, rfl, hI0, hW76, (show Pm (uI (uJ (uI (uI (uI σ0 14040 (σ0.1 14039)) 14042 0) 14043 0) 14041 (-3)) 14039 ((σ0.1 14039) + 1)) from ⟨(show 0 ≤ (((σ0.1 14039) + 1) : Int32).toInt from by have q0 := hP.1; have q1 := hP.2; have q2 := hX0_0.1; have q3 := hX0_0.2; have q4 := e75; have q5 := ti_ne b64_5; have q6 := ti_eq b369_68; have q7 := ti_in (pm_p hI hP); have q8 := ti_in (iv_14037 hI); have q9 := ti_in hM0_; have q10 := ti_in (iv_14037 hI0); have q11 := ti_in r74; have z0 : (0 : Int32).toInt = 0 := (by decide); have z1 : (1 : Int32).toInt = 1 := (by decide); have z2 : (14037 : Int32).toInt = 14037 := (by decide); have z3 : (14039 : Int32).toInt = 14039 := (by decide); have z4 : (160 : Int32).toInt = 160 := (by decide); have z5 : (161 : Int32).toInt = 161 := (by decide); have z6 : (170 : Int32).toInt = 170 := (by decide); have z7 : (59 : Int32).toInt = 59 := (by decide); omega), (show (((σ0.1 14039) + 1) : Int32).toInt ≤ ((σ0.1 14037) : Int32).toInt from by have q0 := hP.1; have q1 := hP.2; have q2 := hX0_0.1; have q3 := hX0_0.2; have q4 := e75; have q5 := ti_ne b64_5; have q6 := ti_eq b369_68; have q7 := ti_in (pm_p hI hP); have q8 := ti_in (iv_14037 hI); have q9 := ti_in hM0_; have q10 := ti_in (iv_14037 hI0); have q11 := ti_in r74; have z0 : (0 : Int32).toInt = 0 := (by decide); have z1 : (1 : Int32).toInt = 1 := (by decide); have z2 : (14037 : Int32).toInt = 14037 := (by decide); have z3 : (14039 : Int32).toInt = 14039 := (by decide); have z4 : (160 : Int32).toInt = 160 := (by decide); have z5 : (161 : Int32).toInt = 161 := (by decide); have z6 : (170 : Int32).toInt = 170 := (by decide); have z7 : (59 : Int32).toInt = 59 := (by decide); omega)⟩), hX0_1⟩
      · skip
        refine R_aload_n (pc := 67) dX9_nextToken_67 rfl rfl ?_
        refine R_ldc2 (pc := 68) w_1242c dX9_nextToken_68 ?_
        refine p_X9_271 (pc := 71) rfl dX9_nextToken_71 (c_140 _) (Nat.le_of_ble_eq_true rfl) rfl rfl (s_140_41 _ _) ?_
        have hW77 := cor_sj 14041 (-2) hW4 rfl
        refine R_goto (pc := 74) 394 dX9_nextToken_74 (by decide) ?_
        exact R_vret (pc := 394) dX9_nextToken_394 rfl (Nat.zero_le _) (Nat.zero_le _) ⟨rfl, _, rfl, hI0, hW77, (show Pm (uJ (uI (uI (uI σ0 14040 (σ0.1 14039)) 14042 0) 14043 0) 14041 (-2)) from ⟨(show 0 ≤ ((σ0.1 14039) : Int32).toInt from by have q0 := hP.1; have q1 := hP.2; have q2 := hX0_0.1; have q3 := hX0_0.2; have q4 := ti_eq b64_5; have q5 := ti_in (pm_p hI hP); have q6 := ti_in (iv_14037 hI); have q7 := ti_in hM0_; have q8 := ti_in (iv_14037 hI0); have z0 : (0 : Int32).toInt = 0 := (by decide); have z1 : (1 : Int32).toInt = 1 := (by decide); have z2 : (14037 : Int32).toInt = 14037 := (by decide); have z3 : (14039 : Int32).toInt = 14039 := (by decide); have z4 : (160 : Int32).toInt = 160 := (by decide); omega), (show ((σ0.1 14039) : Int32).toInt ≤ ((σ0.1 14037) : Int32).toInt from by have q0 := hP.1; have q1 := hP.2; have q2 := hX0_0.1; have q3 := hX0_0.2; have q4 := ti_eq b64_5; have q5 := ti_in (pm_p hI hP); have q6 := ti_in (iv_14037 hI); have q7 := ti_in hM0_; have q8 := ti_in (iv_14037 hI0); have z0 : (0 : Int32).toInt = 0 := (by decide); have z1 : (1 : Int32).toInt = 1 := (by decide); have z2 : (14037 : Int32).toInt = 14037 := (by decide); have z3 : (14039 : Int32).toInt = 14039 := (by decide); have z4 : (160 : Int32).toInt = 160 := (by decide); omega)⟩), hX0_1⟩
    | succ q ih0 =>
      intro σ0 hj0 hrg0 hI0 hC0 hX0_0 hX0_1
      have hM0_ : inR (σ0.1 14039) 0 159 := of_ti (ti_in hrg0).1 (by have z : (159 : Int32).toInt = 159 := (by decide); omega)
      refine R_aload_n (pc := 0) dX9_nextToken_0 rfl rfl ?_
      refine g_X9_257 (pc := 1) (v := .int (σ0.1 14039)) rfl dX9_nextToken_1 (c_140 _) rfl ?_
      refine R_aload_n (pc := 4) dX9_nextToken_4 rfl rfl ?_
      refine g_X9_254 (pc := 5) (v := .int (σ0.1 14037)) rfl dX9_nextToken_5 (c_140 _) rfl ?_
      refine R_icge (pc := 8) 38 dX9_nextToken_8 (by decide) (fun b8_78 => ?_) (fun b8_78 => ?_)
      · skip
        refine R_aload_n (pc := 38) dX9_nextToken_38 rfl rfl ?_
        refine R_aload_n (pc := 39) dX9_nextToken_39 rfl rfl ?_
        refine g_X9_257 (pc := 40) (v := .int (σ0.1 14039)) rfl dX9_nextToken_40 (c_140 _) rfl ?_
        refine p_X9_260 (pc := 43) rfl dX9_nextToken_43 (c_140 _) (Nat.le_of_ble_eq_true rfl) rfl rfl (s_140_40 _ _) ?_
        have hW79 := cor_si 14040 (σ0.1 14039) hC0 rfl
        refine R_aload_n (pc := 46) dX9_nextToken_46 rfl rfl ?_
        refine R_iconst (pc := 47) (v := 0) dX9_nextToken_47 (by decide) ?_
        refine p_X9_263 (pc := 48) rfl dX9_nextToken_48 (c_140 _) (Nat.le_of_ble_eq_true rfl) rfl rfl (s_140_42 _ _) ?_
        have hW80 := cor_si 14042 0 hW79 rfl
        refine R_aload_n (pc := 51) dX9_nextToken_51 rfl rfl ?_
        refine R_iconst (pc := 52) (v := 0) dX9_nextToken_52 (by decide) ?_
        refine p_X9_266 (pc := 53) rfl dX9_nextToken_53 (c_140 _) (Nat.le_of_ble_eq_true rfl) rfl rfl (s_140_43 _ _) ?_
        have hW81 := cor_si 14043 0 hW80 rfl
        refine R_aload_n (pc := 56) dX9_nextToken_56 rfl rfl ?_
        refine g_X9_257 (pc := 57) (v := .int (σ0.1 14039)) rfl dX9_nextToken_57 (c_140 _) rfl ?_
        refine R_aload_n (pc := 60) dX9_nextToken_60 rfl rfl ?_
        refine g_X9_254 (pc := 61) (v := .int (σ0.1 14037)) rfl dX9_nextToken_61 (c_140 _) rfl ?_
        refine R_icne (pc := 64) 77 dX9_nextToken_64 (by decide) (fun b64_82 => ?_) (fun b64_82 => ?_)
        · skip
          refine R_aload_n (pc := 77) dX9_nextToken_77 rfl rfl ?_
          refine g_X9_108 (pc := 78) (v := .ref 170) rfl dX9_nextToken_78 (c_140 _) rfl ?_
          refine R_aload_n (pc := 81) dX9_nextToken_81 rfl rfl ?_
          refine g_X9_257 (pc := 82) (v := .int (σ0.1 14039)) rfl dX9_nextToken_82 (c_140 _) rfl ?_
          have hx83 : vp_in (σ0.1 14039) 160 := (vp_of_inR hM0_ (by decide))
          refine W_iaload (pc := 85) (σ0.2.2.1 170 (Int32.toNatClampNeg (σ0.1 14039))) dX9_nextToken_85 (c_170 _) hx83 rfl ?_
          refine R_bipush (pc := 86) (v := 97) dX9_nextToken_86 (by decide) ?_
          refine R_bipush (pc := 88) (v := 122) dX9_nextToken_88 (by decide) ?_
          refine k_X9_124 (pc := 90) (sp_X9_in _ _ _ _) rfl (by decide) (Nat.le_refl _) (Nat.le_refl _) (Nat.le_of_ble_eq_true rfl) dX9_nextToken_90 (fun x w2 h => ?_)
          rcases h with ⟨rfl, ⟨h84, rfl⟩ | ⟨h84, rfl⟩⟩
          · skip
            refine R_ifeq (pc := 93) 222 dX9_nextToken_93 (by decide) (fun h => absurd h (by decide)) (fun _ => ?_)
            refine R_aload_n (pc := 96) dX9_nextToken_96 rfl rfl ?_
            refine R_lconst (pc := 97) (v := 0) dX9_nextToken_97 (by decide) ?_
            refine p_X9_271 (pc := 98) rfl dX9_nextToken_98 (c_140 _) (Nat.le_of_ble_eq_true rfl) rfl rfl (s_140_41 _ _) ?_
            have hW86 := cor_sj 14041 0 hW81 rfl
            have HL101 : ∀ (q : Nat) (σ101 : Sg), (σ101.1 14039).toInt + (q : Int) = 160 → inR (σ101.1 14039) 0 160 → Inv σ101 → Cor σ σ101 → Pm σ101 → σ101.1 14045 = σ.1 14045 → R G l yX9_nextToken cX9_nextToken 1 none 1 0 0 (QV (fun w2 => ∃ σ2, w2 = WW σ2 ∧ Inv σ2 ∧ Cor σ σ2 ∧ Pm σ2 ∧ σ2.1 14045 = σ.1 14045)) 101 [(some (.ref 140))] [] (WW σ101) 0 0 := by
              intro q
              induction q with
              | zero =>
                intro σ101 hj101 hrg101 hI101 hC101 hX101_0 hX101_1
                have hM101_ : inR (σ101.1 14039) 160 160 := of_ti (by have z : (160 : Int32).toInt = 160 := (by decide); omega) (by have z : (160 : Int32).toInt = 160 := (by decide); omega)
                refine R_aload_n (pc := 101) dX9_nextToken_101 rfl rfl ?_
                refine g_X9_257 (pc := 102) (v := .int (σ101.1 14039)) rfl dX9_nextToken_102 (c_140 _) rfl ?_
                refine R_aload_n (pc := 105) dX9_nextToken_105 rfl rfl ?_
                refine g_X9_254 (pc := 106) (v := .int (σ101.1 14037)) rfl dX9_nextToken_106 (c_140 _) rfl ?_
                refine R_icge (pc := 109) 191 dX9_nextToken_109 (by decide) (fun _ => ?_) (fun h => False.elim (by have q1 := ti_nle h; have q2 := ti_in (show inR (σ101.1 14039) 160 160 from hM101_); have q3 := ti_in (show inR (σ101.1 14037) 0 160 from (iv_14037 hI101)); have z0 : (0 : Int32).toInt = 0 := (by decide);  have z1 : (14037 : Int32).toInt = 14037 := (by decide);  have z2 : (14039 : Int32).toInt = 14039 := (by decide);  have z3 : (160 : Int32).toInt = 160 := (by decide); omega))
                refine R_aload_n (pc := 191) dX9_nextToken_191 rfl rfl ?_
                refine R_aload_n (pc := 192) dX9_nextToken_192 rfl rfl ?_
                refine g_X9_257 (pc := 193) (v := .int (σ101.1 14039)) rfl dX9_nextToken_193 (c_140 _) rfl ?_
                refine R_aload_n (pc := 196) dX9_nextToken_196 rfl rfl ?_
                refine g_X9_260 (pc := 197) (v := .int (σ101.1 14040)) rfl dX9_nextToken_197 (c_140 _) rfl ?_
                refine R_isub (pc := 200) dX9_nextToken_200 ?_
                refine R_bipush (pc := 201) (v := 9) dX9_nextToken_201 (by decide) ?_
                refine R_icle (pc := 203) 212 dX9_nextToken_203 (by decide) (fun b203_88 => ?_) (fun b203_88 => ?_)
                · skip
                  refine R_aload_n (pc := 212) dX9_nextToken_212 rfl rfl ?_
                  refine g_X9_271 (pc := 213) (v := .long (σ101.2.1 14041)) rfl dX9_nextToken_213 (c_140 _) rfl ?_
                  refine p_X9_271 (pc := 216) rfl dX9_nextToken_216 (c_140 _) (Nat.le_of_ble_eq_true rfl) rfl rfl (s_140_41 _ _) ?_
                  have hW89 := cor_sj 14041 (σ101.2.1 14041) hC101 rfl
                  refine R_goto (pc := 219) 394 dX9_nextToken_219 (by decide) ?_
                  exact R_vret (pc := 394) dX9_nextToken_394 rfl (Nat.zero_le _) (Nat.zero_le _) ⟨rfl, _, rfl, hI101, hW89, (show Pm (uJ σ101 14041 (σ101.2.1 14041)) from ⟨(show 0 ≤ ((σ101.1 14039) : Int32).toInt from by have q0 := hP.1; have q1 := hP.2; have q2 := hX0_0.1; have q3 := hX0_0.2; have q4 := hX101_0.1; have q5 := hX101_0.2; have q6 := ti_le b8_78; have q7 := ti_ne b64_82; have q8 := ti_le b203_88; have q9 := ti_in (pm_p hI hP); have q10 := ti_in (iv_14037 hI); have q11 := ti_in hM0_; have q12 := ti_in (iv_14037 hI0); have q13 := ti_in h84; have q14 := ti_in hM101_; have q15 := ti_in (iv_14037 hI101); have z0 : (0 : Int32).toInt = 0 := (by decide); have z1 : (1 : Int32).toInt = 1 := (by decide); have z2 : (122 : Int32).toInt = 122 := (by decide); have z3 : (14037 : Int32).toInt = 14037 := (by decide); have z4 : (14039 : Int32).toInt = 14039 := (by decide); have z5 : (14040 : Int32).toInt = 14040 := (by decide); have z6 : (159 : Int32).toInt = 159 := (by decide); have z7 : (160 : Int32).toInt = 160 := (by decide); have z8 : (9 : Int32).toInt = 9 := (by decide); have z9 : (97 : Int32).toInt = 97 := (by decide); omega), (show ((σ101.1 14039) : Int32).toInt ≤ ((σ101.1 14037) : Int32).toInt from by have q0 := hP.1; have q1 := hP.2; have q2 := hX0_0.1; have q3 := hX0_0.2; have q4 := hX101_0.1; have q5 := hX101_0.2; have q6 := ti_le b8_78; have q7 := ti_ne b64_82; have q8 := ti_le b203_88; have q9 := ti_in (pm_p hI hP); have q10 := ti_in (iv_14037 hI); have q11 := ti_in hM0_; have q12 := ti_in (iv_14037 hI0); have q13 := ti_in h84; have q14 := ti_in hM101_; have q15 := ti_in (iv_14037 hI101); have z0 : (0 : Int32).toInt = 0 := (by decide); have z1 : (1 : Int32).toInt = 1 := (by decide); have z2 : (122 : Int32).toInt = 122 := (by decide); have z3 : (14037 : Int32).toInt = 14037 := (by decide); have z4 : (14039 : Int32).toInt = 14039 := (by decide); have z5 : (14040 : Int32).toInt = 14040 := (by decide); have z6 : (159 : Int32).toInt = 159 := (by decide); have z7 : (160 : Int32).toInt = 160 := (by decide); have z8 : (9 : Int32).toInt = 9 := (by decide); have z9 : (97 : Int32).toInt = 97 := (by decide); omega)⟩), hX101_1⟩
                · skip
                  refine R_ldc2 (pc := 206) w_1245c dX9_nextToken_206 ?_
                  refine R_goto (pc := 209) 216 dX9_nextToken_209 (by decide) ?_
                  refine p_X9_271 (pc := 216) rfl dX9_nextToken_216 (c_140 _) (Nat.le_of_ble_eq_true rfl) rfl rfl (s_140_41 _ _) ?_
                  have hW90 := cor_sj 14041 (-4) hC101 rfl
                  refine R_goto (pc := 219) 394 dX9_nextToken_219 (by decide) ?_
                  exact R_vret (pc := 394) dX9_nextToken_394 rfl (Nat.zero_le _) (Nat.zero_le _) ⟨rfl, _, rfl, hI101, hW90, (show Pm (uJ σ101 14041 (-4)) from ⟨(show 0 ≤ ((σ101.1 14039) : Int32).toInt from by have q0 := hP.1; have q1 := hP.2; have q2 := hX0_0.1; have q3 := hX0_0.2; have q4 := hX101_0.1; have q5 := hX101_0.2; have q6 := ti_le b8_78; have q7 := ti_ne b64_82; have q8 := ti_nle b203_88; have q9 := ti_in (pm_p hI hP); have q10 := ti_in (iv_14037 hI); have q11 := ti_in hM0_; have q12 := ti_in (iv_14037 hI0); have q13 := ti_in h84; have q14 := ti_in hM101_; have q15 := ti_in (iv_14037 hI101); have z0 : (0 : Int32).toInt = 0 := (by decide); have z1 : (1 : Int32).toInt = 1 := (by decide); have z2 : (122 : Int32).toInt = 122 := (by decide); have z3 : (14037 : Int32).toInt = 14037 := (by decide); have z4 : (14039 : Int32).toInt = 14039 := (by decide); have z5 : (14040 : Int32).toInt = 14040 := (by decide); have z6 : (159 : Int32).toInt = 159 := (by decide); have z7 : (160 : Int32).toInt = 160 := (by decide); have z8 : (9 : Int32).toInt = 9 := (by decide); have z9 : (97 : Int32).toInt = 97 := (by decide); omega), (show ((σ101.1 14039) : Int32).toInt ≤ ((σ101.1 14037) : Int32).toInt from by have q0 := hP.1; have q1 := hP.2; have q2 := hX0_0.1; have q3 := hX0_0.2; have q4 := hX101_0.1; have q5 := hX101_0.2; have q6 := ti_le b8_78; have q7 := ti_ne b64_82; have q8 := ti_nle b203_88; have q9 := ti_in (pm_p hI hP); have q10 := ti_in (iv_14037 hI); have q11 := ti_in hM0_; have q12 := ti_in (iv_14037 hI0); have q13 := ti_in h84; have q14 := ti_in hM101_; have q15 := ti_in (iv_14037 hI101); have z0 : (0 : Int32).toInt = 0 := (by decide); have z1 : (1 : Int32).toInt = 1 := (by decide); have z2 : (122 : Int32).toInt = 122 := (by decide); have z3 : (14037 : Int32).toInt = 14037 := (by decide); have z4 : (14039 : Int32).toInt = 14039 := (by decide); have z5 : (14040 : Int32).toInt = 14040 := (by decide); have z6 : (159 : Int32).toInt = 159 := (by decide); have z7 : (160 : Int32).toInt = 160 := (by decide); have z8 : (9 : Int32).toInt = 9 := (by decide); have z9 : (97 : Int32).toInt = 97 := (by decide); omega)⟩), hX101_1⟩
              | succ q ih101 =>
                intro σ101 hj101 hrg101 hI101 hC101 hX101_0 hX101_1
                have hM101_ : inR (σ101.1 14039) 0 159 := of_ti (ti_in hrg101).1 (by have z : (159 : Int32).toInt = 159 := (by decide); omega)
                refine R_aload_n (pc := 101) dX9_nextToken_101 rfl rfl ?_
                refine g_X9_257 (pc := 102) (v := .int (σ101.1 14039)) rfl dX9_nextToken_102 (c_140 _) rfl ?_
                refine R_aload_n (pc := 105) dX9_nextToken_105 rfl rfl ?_
                refine g_X9_254 (pc := 106) (v := .int (σ101.1 14037)) rfl dX9_nextToken_106 (c_140 _) rfl ?_
                refine R_icge (pc := 109) 191 dX9_nextToken_109 (by decide) (fun b109_91 => ?_) (fun b109_91 => ?_)
                · skip
                  refine R_aload_n (pc := 191) dX9_nextToken_191 rfl rfl ?_
                  refine R_aload_n (pc := 192) dX9_nextToken_192 rfl rfl ?_
                  refine g_X9_257 (pc := 193) (v := .int (σ101.1 14039)) rfl dX9_nextToken_193 (c_140 _) rfl ?_
                  refine R_aload_n (pc := 196) dX9_nextToken_196 rfl rfl ?_
                  refine g_X9_260 (pc := 197) (v := .int (σ101.1 14040)) rfl dX9_nextToken_197 (c_140 _) rfl ?_
                  refine R_isub (pc := 200) dX9_nextToken_200 ?_
                  refine R_bipush (pc := 201) (v := 9) dX9_nextToken_201 (by decide) ?_
                  refine R_icle (pc := 203) 212 dX9_nextToken_203 (by decide) (fun b203_92 => ?_) (fun b203_92 => ?_)
                  · skip
                    refine R_aload_n (pc := 212) dX9_nextToken_212 rfl rfl ?_
                    refine g_X9_271 (pc := 213) (v := .long (σ101.2.1 14041)) rfl dX9_nextToken_213 (c_140 _) rfl ?_
                    refine p_X9_271 (pc := 216) rfl dX9_nextToken_216 (c_140 _) (Nat.le_of_ble_eq_true rfl) rfl rfl (s_140_41 _ _) ?_
                    have hW93 := cor_sj 14041 (σ101.2.1 14041) hC101 rfl
                    refine R_goto (pc := 219) 394 dX9_nextToken_219 (by decide) ?_
                    exact R_vret (pc := 394) dX9_nextToken_394 rfl (Nat.zero_le _) (Nat.zero_le _) ⟨rfl, _, rfl, hI101, hW93, (show Pm (uJ σ101 14041 (σ101.2.1 14041)) from ⟨(show 0 ≤ ((σ101.1 14039) : Int32).toInt from by have q0 := hP.1; have q1 := hP.2; have q2 := hX0_0.1; have q3 := hX0_0.2; have q4 := hX101_0.1; have q5 := hX101_0.2; have q6 := ti_le b8_78; have q7 := ti_ne b64_82; have q8 := ti_le b109_91; have q9 := ti_le b203_92; have q10 := ti_in (pm_p hI hP); have q11 := ti_in (iv_14037 hI); have q12 := ti_in hM0_; have q13 := ti_in (iv_14037 hI0); have q14 := ti_in h84; have q15 := ti_in hM101_; have q16 := ti_in (iv_14037 hI101); have z0 : (0 : Int32).toInt = 0 := (by decide); have z1 : (1 : Int32).toInt = 1 := (by decide); have z2 : (122 : Int32).toInt = 122 := (by decide); have z3 : (14037 : Int32).toInt = 14037 := (by decide); have z4 : (14039 : Int32).toInt = 14039 := (by decide); have z5 : (14040 : Int32).toInt = 14040 := (by decide); have z6 : (159 : Int32).toInt = 159 := (by decide); have z7 : (160 : Int32).toInt = 160 := (by decide); have z8 : (9 : Int32).toInt = 9 := (by decide); have z9 : (97 : Int32).toInt = 97 := (by decide); omega), (show ((σ101.1 14039) : Int32).toInt ≤ ((σ101.1 14037) : Int32).toInt from by have q0 := hP.1; have q1 := hP.2; have q2 := hX0_0.1; have q3 := hX0_0.2; have q4 := hX101_0.1; have q5 := hX101_0.2; have q6 := ti_le b8_78; have q7 := ti_ne b64_82; have q8 := ti_le b109_91; have q9 := ti_le b203_92; have q10 := ti_in (pm_p hI hP); have q11 := ti_in (iv_14037 hI); have q12 := ti_in hM0_; have q13 := ti_in (iv_14037 hI0); have q14 := ti_in h84; have q15 := ti_in hM101_; have q16 := ti_in (iv_14037 hI101); have z0 : (0 : Int32).toInt = 0 := (by decide); have z1 : (1 : Int32).toInt = 1 := (by decide); have z2 : (122 : Int32).toInt = 122 := (by decide); have z3 : (14037 : Int32).toInt = 14037 := (by decide); have z4 : (14039 : Int32).toInt = 14039 := (by decide); have z5 : (14040 : Int32).toInt = 14040 := (by decide); have z6 : (159 : Int32).toInt = 159 := (by decide); have z7 : (160 : Int32).toInt = 160 := (by decide); have z8 : (9 : Int32).toInt = 9 := (by decide); have z9 : (97 : Int32).toInt = 97 := (by decide); omega)⟩), hX101_1⟩
                  · skip
                    refine R_ldc2 (pc := 206) w_1245c dX9_nextToken_206 ?_
                    refine R_goto (pc := 209) 216 dX9_nextToken_209 (by decide) ?_
                    refine p_X9_271 (pc := 216) rfl dX9_nextToken_216 (c_140 _) (Nat.le_of_ble_eq_true rfl) rfl rfl (s_140_41 _ _) ?_
                    have hW94 := cor_sj 14041 (-4) hC101 rfl
                    refine R_goto (pc := 219) 394 dX9_nextToken_219 (by decide) ?_
                    exact R_vret (pc := 394) dX9_nextToken_394 rfl (Nat.zero_le _) (Nat.zero_le _) ⟨rfl, _, rfl, hI101, hW94, (show Pm (uJ σ101 14041 (-4)) from ⟨(show 0 ≤ ((σ101.1 14039) : Int32).toInt from by have q0 := hP.1; have q1 := hP.2; have q2 := hX0_0.1; have q3 := hX0_0.2; have q4 := hX101_0.1; have q5 := hX101_0.2; have q6 := ti_le b8_78; have q7 := ti_ne b64_82; have q8 := ti_le b109_91; have q9 := ti_nle b203_92; have q10 := ti_in (pm_p hI hP); have q11 := ti_in (iv_14037 hI); have q12 := ti_in hM0_; have q13 := ti_in (iv_14037 hI0); have q14 := ti_in h84; have q15 := ti_in hM101_; have q16 := ti_in (iv_14037 hI101); have z0 : (0 : Int32).toInt = 0 := (by decide); have z1 : (1 : Int32).toInt = 1 := (by decide); have z2 : (122 : Int32).toInt = 122 := (by decide); have z3 : (14037 : Int32).toInt = 14037 := (by decide); have z4 : (14039 : Int32).toInt = 14039 := (by decide); have z5 : (14040 : Int32).toInt = 14040 := (by decide); have z6 : (159 : Int32).toInt = 159 := (by decide); have z7 : (160 : Int32).toInt = 160 := (by decide); have z8 : (9 : Int32).toInt = 9 := (by decide); have z9 : (97 : Int32).toInt = 97 := (by decide); omega), (show ((σ101.1 14039) : Int32).toInt ≤ ((σ101.1 14037) : Int32).toInt from by have q0 := hP.1; have q1 := hP.2; have q2 := hX0_0.1; have q3 := hX0_0.2; have q4 := hX101_0.1; have q5 := hX101_0.2; have q6 := ti_le b8_78; have q7 := ti_ne b64_82; have q8 := ti_le b109_91; have q9 := ti_nle b203_92; have q10 := ti_in (pm_p hI hP); have q11 := ti_in (iv_14037 hI); have q12 := ti_in hM0_; have q13 := ti_in (iv_14037 hI0); have q14 := ti_in h84; have q15 := ti_in hM101_; have q16 := ti_in (iv_14037 hI101); have z0 : (0 : Int32).toInt = 0 := (by decide); have z1 : (1 : Int32).toInt = 1 := (by decide); have z2 : (122 : Int32).toInt = 122 := (by decide); have z3 : (14037 : Int32).toInt = 14037 := (by decide); have z4 : (14039 : Int32).toInt = 14039 := (by decide); have z5 : (14040 : Int32).toInt = 14040 := (by decide); have z6 : (159 : Int32).toInt = 159 := (by decide); have z7 : (160 : Int32).toInt = 160 := (by decide); have z8 : (9 : Int32).toInt = 9 := (by decide); have z9 : (97 : Int32).toInt = 97 := (by decide); omega)⟩), hX101_1⟩
                · skip
                  refine R_aload_n (pc := 112) dX9_nextToken_112 rfl rfl ?_
                  refine g_X9_108 (pc := 113) (v := .ref 170) rfl dX9_nextToken_113 (c_140 _) rfl ?_
                  refine R_aload_n (pc := 116) dX9_nextToken_116 rfl rfl ?_
                  refine g_X9_257 (pc := 117) (v := .int (σ101.1 14039)) rfl dX9_nextToken_117 (c_140 _) rfl ?_
                  have hx95 : vp_in (σ101.1 14039) 160 := (vp_of_inR hM101_ (by decide))
                  refine R_iaload (pc := 120) dX9_nextToken_120 (c_170 _) hx95 ?_
                  refine R_bipush (pc := 121) (v := 97) dX9_nextToken_121 (by decide) ?_
                  refine R_bipush (pc := 123) (v := 122) dX9_nextToken_123 (by decide) ?_
                  refine k_X9_124 (pc := 125) (sp_X9_in _ _ _ _) rfl (by decide) (Nat.le_refl _) (Nat.le_refl _) (Nat.le_of_ble_eq_true rfl) dX9_nextToken_125 (fun x w2 h => ?_)
                  rcases h with ⟨rfl, ⟨h96, rfl⟩ | ⟨h96, rfl⟩⟩
                  · skip
                    refine R_ifeq (pc := 128) 191 dX9_nextToken_128 (by decide) (fun h => absurd h (by decide)) (fun _ => ?_)
                    refine R_aload_n (pc := 131) dX9_nextToken_131 rfl rfl ?_
                    refine R_aload_n (pc := 132) dX9_nextToken_132 rfl rfl ?_
                    refine g_X9_257 (pc := 133) (v := .int (σ101.1 14039)) rfl dX9_nextToken_133 (c_140 _) rfl ?_
                    refine R_aload_n (pc := 136) dX9_nextToken_136 rfl rfl ?_
                    refine g_X9_260 (pc := 137) (v := .int (σ101.1 14040)) rfl dX9_nextToken_137 (c_140 _) rfl ?_
                    refine R_isub (pc := 140) dX9_nextToken_140 ?_
                    refine R_bipush (pc := 141) (v := 9) dX9_nextToken_141 (by decide) ?_
                    refine R_icge (pc := 143) 172 dX9_nextToken_143 (by decide) (fun b143_98 => ?_) (fun b143_98 => ?_)
                    · skip
                      refine R_ldc2 (pc := 172) w_1245c dX9_nextToken_172 ?_
                      refine p_X9_271 (pc := 175) rfl dX9_nextToken_175 (c_140 _) (Nat.le_of_ble_eq_true rfl) rfl rfl (s_140_41 _ _) ?_
                      have hW99 := cor_sj 14041 (-4) hC101 rfl
                      refine R_aload_n (pc := 178) dX9_nextToken_178 rfl rfl ?_
                      refine R_dup (pc := 179) dX9_nextToken_179 rfl ?_
                      refine g_X9_257 (pc := 180) (v := .int (σ101.1 14039)) rfl dX9_nextToken_180 (c_140 _) rfl ?_
                      refine R_iconst (pc := 183) (v := 1) dX9_nextToken_183 (by decide) ?_
                      refine R_iadd (pc := 184) dX9_nextToken_184 ?_
                      have r100 : inR ((σ101.1 14039) + 1) 1 160 := inR_add (show inR (σ101.1 14039) 0 159 from hM101_) (show inR 1 1 1 from (inR_self _)) (by decide) (by decide)
                      have e101 := ti_add (l := 1) (h := 160) (show inR (σ101.1 14039) 0 159 from hM101_) (show inR 1 1 1 from (inR_self _)) (by decide) (by decide)
                      refine p_X9_257 (pc := 185) rfl dX9_nextToken_185 (c_140 _) (Nat.le_of_ble_eq_true rfl) rfl rfl (s_140_39 _ _) ?_
                      have hW102 := cor_si 14039 ((σ101.1 14039) + 1) hW99 rfl
                      refine R_goto (pc := 188) 101 dX9_nextToken_188 (by decide) ?_
                      exact ih101 _ (show (((σ101.1 14039) + 1) : Int32).toInt + (q : Int) = 160 from by have q0 := hP.1; have q1 := hP.2; have q2 := hX0_0.1; have q3 := hX0_0.2; have q4 := hX101_0.1; have q5 := hX101_0.2; have q6 := e101; have q7 := ti_le b8_78; have q8 := ti_ne b64_82; have q9 := ti_nle b109_91; have q10 := ti_le b143_98; have q11 := ti_in (pm_p hI hP); have q12 := ti_in (iv_14037 hI); have q13 := ti_in hM0_; have q14 := ti_in (iv_14037 hI0); have q15 := ti_in h84; have q16 := ti_in hM101_; have q17 := ti_in (iv_14037 hI101); have q18 := ti_in h96; have q19 := ti_in r100; have q20 := hj101; have z0 : (0 : Int32).toInt = 0 := (by decide); have z1 : (1 : Int32).toInt = 1 := (by decide); have z2 : (122 : Int32).toInt = 122 := (by decide); have z3 : (14037 : Int32).toInt = 14037 := (by decide); have z4 : (14039 : Int32).toInt = 14039 := (by decide); have z5 : (14040 : Int32).toInt = 14040 := (by decide); have z6 : (159 : Int32).toInt = 159 := (by decide); have z7 : (160 : Int32).toInt = 160 := (by decide); have z8 : (9 : Int32).toInt = 9 := (by decide); have z9 : (97 : Int32).toInt = 97 := (by decide); omega) (inR_up r100 (by decide) (by decide)) hI101 hW102 (show Pm (uI (uJ σ101 14041 (-4)) 14039 ((σ101.1 14039) + 1)) from ⟨(show 0 ≤ (((σ101.1 14039) + 1) : Int32).toInt from by have q0 := hP.1; have q1 := hP.2; have q2 := hX0_0.1; have q3 := hX0_0.2; have q4 := hX101_0.1; have q5 := hX101_0.2; have q6 := e101; have q7 := ti_le b8_78; have q8 := ti_ne b64_82; have q9 := ti_nle b109_91; have q10 := ti_le b143_98; have q11 := ti_in (pm_p hI hP); have q12 := ti_in (iv_14037 hI); have q13 := ti_in hM0_; have q14 := ti_in (iv_14037 hI0); have q15 := ti_in h84; have q16 := ti_in hM101_; have q17 := ti_in (iv_14037 hI101); have q18 := ti_in h96; have q19 := ti_in r100; have z0 : (0 : Int32).toInt = 0 := (by decide); have z1 : (1 : Int32).toInt = 1 := (by decide); have z2 : (122 : Int32).toInt = 122 := (by decide); have z3 : (14037 : Int32).toInt = 14037 := (by decide); have z4 : (14039 : Int32).toInt = 14039 := (by decide); have z5 : (14040 : Int32).toInt = 14040 := (by decide); have z6 : (159 : Int32).toInt = 159 := (by decide); have z7 : (160 : Int32).toInt = 160 := (by decide); have z8 : (9 : Int32).toInt = 9 := (by decide); have z9 : (97 : Int32).toInt = 97 := (by decide); omega), (show (((σ101.1 14039) + 1) : Int32).toInt ≤ ((σ101.1 14037) : Int32).toInt from by have q0 := hP.1; have q1 := hP.2; have q2 := hX0_0.1; have q3 := hX0_0.2; have q4 := hX101_0.1; have q5 := hX101_0.2; have q6 := e101; have q7 := ti_le b8_78; have q8 := ti_ne b64_82; have q9 := ti_nle b109_91; have q10 := ti_le b143_98; have q11 := ti_in (pm_p hI hP); have q12 := ti_in (iv_14037 hI); have q13 := ti_in hM0_; have q14 := ti_in (iv_14037 hI0); have q15 := ti_in h84; have q16 := ti_in hM101_; have q17 := ti_in (iv_14037 hI101); have q18 := ti_in h96; have q19 := ti_in r100; have z0 : (0 : Int32).toInt = 0 := (by decide); have z1 : (1 : Int32).toInt = 1 := (by decide); have z2 : (122 : Int32).toInt = 122 := (by decide); have z3 : (14037 : Int32).toInt = 14037 := (by decide); have z4 : (14039 : Int32).toInt = 14039 := (by decide); have z5 : (14040 : Int32).toInt = 14040 := (by decide); have z6 : (159 : Int32).toInt = 159 := (by decide); have z7 : (160 : Int32).toInt = 160 := (by decide); have z8 : (9 : Int32).toInt = 9 := (by decide); have z9 : (97 : Int32).toInt = 97 := (by decide); omega)⟩) hX101_1
                    · skip
                      refine R_ldc2 (pc := 146) w_1243c dX9_nextToken_146 ?_
                      refine R_aload_n (pc := 149) dX9_nextToken_149 rfl rfl ?_
                      refine g_X9_271 (pc := 150) (v := .long (σ101.2.1 14041)) rfl dX9_nextToken_150 (c_140 _) rfl ?_
                      refine R_lmul (pc := 153) dX9_nextToken_153 ?_
                      refine R_aload_n (pc := 154) dX9_nextToken_154 rfl rfl ?_
                      refine g_X9_108 (pc := 155) (v := .ref 170) rfl dX9_nextToken_155 (c_140 _) rfl ?_
                      refine R_aload_n (pc := 158) dX9_nextToken_158 rfl rfl ?_
                      refine g_X9_257 (pc := 159) (v := .int (σ101.1 14039)) rfl dX9_nextToken_159 (c_140 _) rfl ?_
                      have hx103 : vp_in (σ101.1 14039) 160 := (vp_of_inR hM101_ (by decide))
                      refine R_iaload (pc := 162) dX9_nextToken_162 (c_170 _) hx103 ?_
                      refine R_i2l (pc := 163) dX9_nextToken_163 ?_
                      refine R_ladd (pc := 164) dX9_nextToken_164 ?_
                      refine R_ldc2 (pc := 165) w_1244c dX9_nextToken_165 ?_
                      refine R_lsub (pc := 168) dX9_nextToken_168 ?_
                      refine R_goto (pc := 169) 175 dX9_nextToken_169 (by decide) ?_
                      refine p_X9_271 (pc := 175) rfl dX9_nextToken_175 (c_140 _) (Nat.le_of_ble_eq_true rfl) rfl rfl (s_140_41 _ _) ?_
                      have hW104 := cor_sj 14041 (((27 * (σ101.2.1 14041)) + (Int32.toInt64 (σ101.2.2.1 170 (Int32.toNatClampNeg (σ101.1 14039))))) - 96) hC101 rfl
                      refine R_aload_n (pc := 178) dX9_nextToken_178 rfl rfl ?_
                      refine R_dup (pc := 179) dX9_nextToken_179 rfl ?_
                      refine g_X9_257 (pc := 180) (v := .int (σ101.1 14039)) rfl dX9_nextToken_180 (c_140 _) rfl ?_
                      refine R_iconst (pc := 183) (v := 1) dX9_nextToken_183 (by decide) ?_
                      refine R_iadd (pc := 184) dX9_nextToken_184 ?_
                      have r105 : inR ((σ101.1 14039) + 1) 1 160 := inR_add (show inR (σ101.1 14039) 0 159 from hM101_) (show inR 1 1 1 from (inR_self _)) (by decide) (by decide)
                      have e106 := ti_add (l := 1) (h := 160) (show inR (σ101.1 14039) 0 159 from hM101_) (show inR 1 1 1 from (inR_self _)) (by decide) (by decide)
                      refine p_X9_257 (pc := 185) rfl dX9_nextToken_185 (c_140 _) (Nat.le_of_ble_eq_true rfl) rfl rfl (s_140_39 _ _) ?_
                      have hW107 := cor_si 14039 ((σ101.1 14039) + 1) hW104 rfl
                      refine R_goto (pc := 188) 101 dX9_nextToken_188 (by decide) ?_
                      exact ih101 _ (show (((σ101.1 14039) + 1) : Int32).toInt + (q : Int) = 160 from by have q0 := hP.1; have q1 := hP.2; have q2 := hX0_0.1; have q3 := hX0_0.2; have q4 := hX101_0.1; have q5 := hX101_0.2; have q6 := e106; have q7 := ti_le b8_78; have q8 := ti_ne b64_82; have q9 := ti_nle b109_91; have q10 := ti_nle b143_98; have q11 := ti_in (pm_p hI hP); have q12 := ti_in (iv_14037 hI); have q13 := ti_in hM0_; have q14 := ti_in (iv_14037 hI0); have q15 := ti_in h84; have q16 := ti_in hM101_; have q17 := ti_in (iv_14037 hI101); have q18 := ti_in h96; have q19 := ti_in r105; have q20 := hj101; have z0 : (0 : Int32).toInt = 0 := (by decide); have z1 : (1 : Int32).toInt = 1 := (by decide); have z2 : (122 : Int32).toInt = 122 := (by decide); have z3 : (14037 : Int32).toInt = 14037 := (by decide); have z4 : (14039 : Int32).toInt = 14039 := (by decide); have z5 : (14040 : Int32).toInt = 14040 := (by decide); have z6 : (159 : Int32).toInt = 159 := (by decide); have z7 : (160 : Int32).toInt = 160 := (by decide); have z8 : (9 : Int32).toInt = 9 := (by decide); have z9 : (97 : Int32).toInt = 97 := (by decide); omega) (inR_up r105 (by decide) (by decide)) hI101 hW107 (show Pm (uI (uJ σ101 14041 (((27 * (σ101.2.1 14041)) + (Int32.toInt64 (σ101.2.2.1 170 (Int32.toNatClampNeg (σ101.1 14039))))) - 96)) 14039 ((σ101.1 14039) + 1)) from ⟨(show 0 ≤ (((σ101.1 14039) + 1) : Int32).toInt from by have q0 := hP.1; have q1 := hP.2; have q2 := hX0_0.1; have q3 := hX0_0.2; have q4 := hX101_0.1; have q5 := hX101_0.2; have q6 := e106; have q7 := ti_le b8_78; have q8 := ti_ne b64_82; have q9 := ti_nle b109_91; have q10 := ti_nle b143_98; have q11 := ti_in (pm_p hI hP); have q12 := ti_in (iv_14037 hI); have q13 := ti_in hM0_; have q14 := ti_in (iv_14037 hI0); have q15 := ti_in h84; have q16 := ti_in hM101_; have q17 := ti_in (iv_14037 hI101); have q18 := ti_in h96; have q19 := ti_in r105; have z0 : (0 : Int32).toInt = 0 := (by decide); have z1 : (1 : Int32).toInt = 1 := (by decide); have z2 : (122 : Int32).toInt = 122 := (by decide); have z3 : (14037 : Int32).toInt = 14037 := (by decide); have z4 : (14039 : Int32).toInt = 14039 := (by decide); have z5 : (14040 : Int32).toInt = 14040 := (by decide); have z6 : (159 : Int32).toInt = 159 := (by decide); have z7 : (160 : Int32).toInt = 160 := (by decide); have z8 : (9 : Int32).toInt = 9 := (by decide); have z9 : (97 : Int32).toInt = 97 := (by decide); omega), (show (((σ101.1 14039) + 1) : Int32).toInt ≤ ((σ101.1 14037) : Int32).toInt from by have q0 := hP.1; have q1 := hP.2; have q2 := hX0_0.1; have q3 := hX0_0.2; have q4 := hX101_0.1; have q5 := hX101_0.2; have q6 := e106; have q7 := ti_le b8_78; have q8 := ti_ne b64_82; have q9 := ti_nle b109_91; have q10 := ti_nle b143_98; have q11 := ti_in (pm_p hI hP); have q12 := ti_in (iv_14037 hI); have q13 := ti_in hM0_; have q14 := ti_in (iv_14037 hI0); have q15 := ti_in h84; have q16 := ti_in hM101_; have q17 := ti_in (iv_14037 hI101); have q18 := ti_in h96; have q19 := ti_in r105; have z0 : (0 : Int32).toInt = 0 := (by decide); have z1 : (1 : Int32).toInt = 1 := (by decide); have z2 : (122 : Int32).toInt = 122 := (by decide); have z3 : (14037 : Int32).toInt = 14037 := (by decide); have z4 : (14039 : Int32).toInt = 14039 := (by decide); have z5 : (14040 : Int32).toInt = 14040 := (by decide); have z6 : (159 : Int32).toInt = 159 := (by decide); have z7 : (160 : Int32).toInt = 160 := (by decide); have z8 : (9 : Int32).toInt = 9 := (by decide); have z9 : (97 : Int32).toInt = 97 := (by decide); omega)⟩) hX101_1
                  · skip
                    refine R_ifeq (pc := 128) 191 dX9_nextToken_128 (by decide) (fun _ => ?_) (fun h => absurd (by decide) h)
                    refine R_aload_n (pc := 191) dX9_nextToken_191 rfl rfl ?_
                    refine R_aload_n (pc := 192) dX9_nextToken_192 rfl rfl ?_
                    refine g_X9_257 (pc := 193) (v := .int (σ101.1 14039)) rfl dX9_nextToken_193 (c_140 _) rfl ?_
                    refine R_aload_n (pc := 196) dX9_nextToken_196 rfl rfl ?_
                    refine g_X9_260 (pc := 197) (v := .int (σ101.1 14040)) rfl dX9_nextToken_197 (c_140 _) rfl ?_
                    refine R_isub (pc := 200) dX9_nextToken_200 ?_
                    refine R_bipush (pc := 201) (v := 9) dX9_nextToken_201 (by decide) ?_
                    refine R_icle (pc := 203) 212 dX9_nextToken_203 (by decide) (fun b203_109 => ?_) (fun b203_109 => ?_)
                    · skip
                      refine R_aload_n (pc := 212) dX9_nextToken_212 rfl rfl ?_
                      refine g_X9_271 (pc := 213) (v := .long (σ101.2.1 14041)) rfl dX9_nextToken_213 (c_140 _) rfl ?_
                      refine p_X9_271 (pc := 216) rfl dX9_nextToken_216 (c_140 _) (Nat.le_of_ble_eq_true rfl) rfl rfl (s_140_41 _ _) ?_
                      have hW110 := cor_sj 14041 (σ101.2.1 14041) hC101 rfl
                      refine R_goto (pc := 219) 394 dX9_nextToken_219 (by decide) ?_
                      exact R_vret (pc := 394) dX9_nextToken_394 rfl (Nat.zero_le _) (Nat.zero_le _) ⟨rfl, _, rfl, hI101, hW110, (show Pm (uJ σ101 14041 (σ101.2.1 14041)) from ⟨(show 0 ≤ ((σ101.1 14039) : Int32).toInt from by have q0 := hP.1; have q1 := hP.2; have q2 := hX0_0.1; have q3 := hX0_0.2; have q4 := hX101_0.1; have q5 := hX101_0.2; have q6 := ti_le b8_78; have q7 := ti_ne b64_82; have q8 := ti_nle b109_91; have q9 := ti_le b203_109; have q10 := ti_in (pm_p hI hP); have q11 := ti_in (iv_14037 hI); have q12 := ti_in hM0_; have q13 := ti_in (iv_14037 hI0); have q14 := ti_in h84; have q15 := ti_in hM101_; have q16 := ti_in (iv_14037 hI101); have z0 : (0 : Int32).toInt = 0 := (by decide); have z1 : (1 : Int32).toInt = 1 := (by decide); have z2 : (122 : Int32).toInt = 122 := (by decide); have z3 : (14037 : Int32).toInt = 14037 := (by decide); have z4 : (14039 : Int32).toInt = 14039 := (by decide); have z5 : (14040 : Int32).toInt = 14040 := (by decide); have z6 : (159 : Int32).toInt = 159 := (by decide); have z7 : (160 : Int32).toInt = 160 := (by decide); have z8 : (9 : Int32).toInt = 9 := (by decide); have z9 : (97 : Int32).toInt = 97 := (by decide); omega), (show ((σ101.1 14039) : Int32).toInt ≤ ((σ101.1 14037) : Int32).toInt from by have q0 := hP.1; have q1 := hP.2; have q2 := hX0_0.1; have q3 := hX0_0.2; have q4 := hX101_0.1; have q5 := hX101_0.2; have q6 := ti_le b8_78; have q7 := ti_ne b64_82; have q8 := ti_nle b109_91; have q9 := ti_le b203_109; have q10 := ti_in (pm_p hI hP); have q11 := ti_in (iv_14037 hI); have q12 := ti_in hM0_; have q13 := ti_in (iv_14037 hI0); have q14 := ti_in h84; have q15 := ti_in hM101_; have q16 := ti_in (iv_14037 hI101); have z0 : (0 : Int32).toInt = 0 := (by decide); have z1 : (1 : Int32).toInt = 1 := (by decide); have z2 : (122 : Int32).toInt = 122 := (by decide); have z3 : (14037 : Int32).toInt = 14037 := (by decide); have z4 : (14039 : Int32).toInt = 14039 := (by decide); have z5 : (14040 : Int32).toInt = 14040 := (by decide); have z6 : (159 : Int32).toInt = 159 := (by decide); have z7 : (160 : Int32).toInt = 160 := (by decide); have z8 : (9 : Int32).toInt = 9 := (by decide); have z9 : (97 : Int32).toInt = 97 := (by decide); omega)⟩), hX101_1⟩
                    · skip
                      refine R_ldc2 (pc := 206) w_1245c dX9_nextToken_206 ?_
                      refine R_goto (pc := 209) 216 dX9_nextToken_209 (by decide) ?_
                      refine p_X9_271 (pc := 216) rfl dX9_nextToken_216 (c_140 _) (Nat.le_of_ble_eq_true rfl) rfl rfl (s_140_41 _ _) ?_
                      have hW111 := cor_sj 14041 (-4) hC101 rfl
                      refine R_goto (pc := 219) 394 dX9_nextToken_219 (by decide) ?_
                      exact R_vret (pc := 394) dX9_nextToken_394 rfl (Nat.zero_le _) (Nat.zero_le _) ⟨rfl, _, rfl, hI101, hW111, (show Pm (uJ σ101 14041 (-4)) from ⟨(show 0 ≤ ((σ101.1 14039) : Int32).toInt from by have q0 := hP.1; have q1 := hP.2; have q2 := hX0_0.1; have q3 := hX0_0.2; have q4 := hX101_0.1; have q5 := hX101_0.2; have q6 := ti_le b8_78; have q7 := ti_ne b64_82; have q8 := ti_nle b109_91; have q9 := ti_nle b203_109; have q10 := ti_in (pm_p hI hP); have q11 := ti_in (iv_14037 hI); have q12 := ti_in hM0_; have q13 := ti_in (iv_14037 hI0); have q14 := ti_in h84; have q15 := ti_in hM101_; have q16 := ti_in (iv_14037 hI101); have z0 : (0 : Int32).toInt = 0 := (by decide); have z1 : (1 : Int32).toInt = 1 := (by decide); have z2 : (122 : Int32).toInt = 122 := (by decide); have z3 : (14037 : Int32).toInt = 14037 := (by decide); have z4 : (14039 : Int32).toInt = 14039 := (by decide); have z5 : (14040 : Int32).toInt = 14040 := (by decide); have z6 : (159 : Int32).toInt = 159 := (by decide); have z7 : (160 : Int32).toInt = 160 := (by decide); have z8 : (9 : Int32).toInt = 9 := (by decide); have z9 : (97 : Int32).toInt = 97 := (by decide); omega), (show ((σ101.1 14039) : Int32).toInt ≤ ((σ101.1 14037) : Int32).toInt from by have q0 := hP.1; have q1 := hP.2; have q2 := hX0_0.1; have q3 := hX0_0.2; have q4 := hX101_0.1; have q5 := hX101_0.2; have q6 := ti_le b8_78; have q7 := ti_ne b64_82; have q8 := ti_nle b109_91; have q9 := ti_nle b203_109; have q10 := ti_in (pm_p hI hP); have q11 := ti_in (iv_14037 hI); have q12 := ti_in hM0_; have q13 := ti_in (iv_14037 hI0); have q14 := ti_in h84; have q15 := ti_in hM101_; have q16 := ti_in (iv_14037 hI101); have z0 : (0 : Int32).toInt = 0 := (by decide); have z1 : (1 : Int32).toInt = 1 := (by decide); have z2 : (122 : Int32).toInt = 122 := (by decide); have z3 : (14037 : Int32).toInt = 14037 := (by decide); have z4 : (14039 : Int32).toInt = 14039 := (by decide); have z5 : (14040 : Int32).toInt = 14040 := (by decide); have z6 : (159 : Int32).toInt = 159 := (by decide); have z7 : (160 : Int32).toInt = 160 := (by decide); have z8 : (9 : Int32).toInt = 9 := (by decide); have z9 : (97 : Int32).toInt = 97 := (by decide); omega)⟩), hX101_1⟩
            exact HL101 ((160 : Int) - ((σ0.1 14039) : Int32).toInt).toNat _ (show ((σ0.1 14039) : Int32).toInt + ((((160 : Int) - ((σ0.1 14039) : Int32).toInt).toNat : Nat) : Int) = 160 from by have q0 := hP.1; have q1 := hP.2; have q2 := hX0_0.1; have q3 := hX0_0.2; have q4 := ti_le b8_78; have q5 := ti_ne b64_82; have q6 := ti_in (pm_p hI hP); have q7 := ti_in (iv_14037 hI); have q8 := ti_in hM0_; have q9 := ti_in (iv_14037 hI0); have q10 := ti_in h84; have z0 : (0 : Int32).toInt = 0 := (by decide); have z1 : (1 : Int32).toInt = 1 := (by decide); have z2 : (122 : Int32).toInt = 122 := (by decide); have z3 : (14037 : Int32).toInt = 14037 := (by decide); have z4 : (14039 : Int32).toInt = 14039 := (by decide); have z5 : (159 : Int32).toInt = 159 := (by decide); have z6 : (160 : Int32).toInt = 160 := (by decide); have z7 : (97 : Int32).toInt = 97 := (by decide); omega) (inR_up hM0_ (by decide) (by decide)) hI0 hW86 (show Pm (uJ (uI (uI (uI σ0 14040 (σ0.1 14039)) 14042 0) 14043 0) 14041 0) from ⟨(show 0 ≤ ((σ0.1 14039) : Int32).toInt from by have q0 := hP.1; have q1 := hP.2; have q2 := hX0_0.1; have q3 := hX0_0.2; have q4 := ti_le b8_78; have q5 := ti_ne b64_82; have q6 := ti_in (pm_p hI hP); have q7 := ti_in (iv_14037 hI); have q8 := ti_in hM0_; have q9 := ti_in (iv_14037 hI0); have q10 := ti_in h84; have z0 : (0 : Int32).toInt = 0 := (by decide); have z1 : (1 : Int32).toInt = 1 := (by decide); have z2 : (122 : Int32).toInt = 122 := (by decide); have z3 : (14037 : Int32).toInt = 14037 := (by decide); have z4 : (14039 : Int32).toInt = 14039 := (by decide); have z5 : (159 : Int32).toInt = 159 := (by decide); have z6 : (160 : Int32).toInt = 160 := (by decide); have z7 : (97 : Int32).toInt = 97 := (by decide); omega), (show ((σ0.1 14039) : Int32).toInt ≤ ((σ0.1 14037) : Int32).toInt from by have q0 := hP.1; have q1 := hP.2; have q2 := hX0_0.1; have q3 := hX0_0.2; have q4 := ti_le b8_78; have q5 := ti_ne b64_82; have q6 := ti_in (pm_p hI hP); have q7 := ti_in (iv_14037 hI); have q8 := ti_in hM0_; have q9 := ti_in (iv_14037 hI0); have q10 := ti_in h84; have z0 : (0 : Int32).toInt = 0 := (by decide); have z1 : (1 : Int32).toInt = 1 := (by decide); have z2 : (122 : Int32).toInt = 122 := (by decide); have z3 : (14037 : Int32).toInt = 14037 := (by decide); have z4 : (14039 : Int32).toInt = 14039 := (by decide); have z5 : (159 : Int32).toInt = 159 := (by decide); have z6 : (160 : Int32).toInt = 160 := (by decide); have z7 : (97 : Int32).toInt = 97 := (by decide); omega)⟩) hX0_1
          · skip
            refine R_ifeq (pc := 93) 222 dX9_nextToken_93 (by decide) (fun _ => ?_) (fun h => absurd (by decide) h)
            refine R_aload_n (pc := 222) dX9_nextToken_222 rfl rfl ?_
            refine g_X9_108 (pc := 223) (v := .ref 170) rfl dX9_nextToken_223 (c_140 _) rfl ?_
            refine R_aload_n (pc := 226) dX9_nextToken_226 rfl rfl ?_
            refine g_X9_257 (pc := 227) (v := .int (σ0.1 14039)) rfl dX9_nextToken_227 (c_140 _) rfl ?_
            have hx113 : vp_in (σ0.1 14039) 160 := (vp_of_inR hM0_ (by decide))
            refine W_iaload (pc := 230) (σ0.2.2.1 170 (Int32.toNatClampNeg (σ0.1 14039))) dX9_nextToken_230 (c_170 _) hx113 rfl ?_
            refine R_bipush (pc := 231) (v := 48) dX9_nextToken_231 (by decide) ?_
            refine R_bipush (pc := 233) (v := 57) dX9_nextToken_233 (by decide) ?_
            refine k_X9_124 (pc := 235) (sp_X9_in _ _ _ _) rfl (by decide) (Nat.le_refl _) (Nat.le_refl _) (Nat.le_of_ble_eq_true rfl) dX9_nextToken_235 (fun x w2 h => ?_)
            rcases h with ⟨rfl, ⟨h114, rfl⟩ | ⟨h114, rfl⟩⟩
            · skip
              refine R_ifeq (pc := 238) 357 dX9_nextToken_238 (by decide) (fun h => absurd h (by decide)) (fun _ => ?_)
              have HL241 : ∀ (q : Nat) (σ241 : Sg), (σ241.1 14039).toInt + (q : Int) = 160 → inR (σ241.1 14039) 0 160 → Inv σ241 → Cor σ σ241 → Pm σ241 → σ241.1 14045 = σ.1 14045 → R G l yX9_nextToken cX9_nextToken 1 none 1 0 0 (QV (fun w2 => ∃ σ2, w2 = WW σ2 ∧ Inv σ2 ∧ Cor σ σ2 ∧ Pm σ2 ∧ σ2.1 14045 = σ.1 14045)) 241 [(some (.ref 140))] [] (WW σ241) 0 0 := by
                intro q
                induction q with
                | zero =>
                  intro σ241 hj241 hrg241 hI241 hC241 hX241_0 hX241_1
                  have hM241_ : inR (σ241.1 14039) 160 160 := of_ti (by have z : (160 : Int32).toInt = 160 := (by decide); omega) (by have z : (160 : Int32).toInt = 160 := (by decide); omega)
                  refine R_aload_n (pc := 241) dX9_nextToken_241 rfl rfl ?_
                  refine g_X9_257 (pc := 242) (v := .int (σ241.1 14039)) rfl dX9_nextToken_242 (c_140 _) rfl ?_
                  refine R_aload_n (pc := 245) dX9_nextToken_245 rfl rfl ?_
                  refine g_X9_254 (pc := 246) (v := .int (σ241.1 14037)) rfl dX9_nextToken_246 (c_140 _) rfl ?_
                  refine R_icge (pc := 249) 333 dX9_nextToken_249 (by decide) (fun _ => ?_) (fun h => False.elim (by have q1 := ti_nle h; have q2 := ti_in (show inR (σ241.1 14039) 160 160 from hM241_); have q3 := ti_in (show inR (σ241.1 14037) 0 160 from (iv_14037 hI241)); have z0 : (0 : Int32).toInt = 0 := (by decide);  have z1 : (14037 : Int32).toInt = 14037 := (by decide);  have z2 : (14039 : Int32).toInt = 14039 := (by decide);  have z3 : (160 : Int32).toInt = 160 := (by decide); omega))
                  refine R_aload_n (pc := 333) dX9_nextToken_333 rfl rfl ?_
                  refine R_aload_n (pc := 334) dX9_nextToken_334 rfl rfl ?_
                  refine g_X9_263 (pc := 335) (v := .int (σ241.1 14042)) rfl dX9_nextToken_335 (c_140 _) rfl ?_
                  refine R_iconst (pc := 338) (v := 5) dX9_nextToken_338 (by decide) ?_
                  refine R_icle (pc := 339) 348 dX9_nextToken_339 (by decide) (fun b339_117 => ?_) (fun b339_117 => ?_)
                  · skip
                    refine R_ldc2 (pc := 348) w_1212c dX9_nextToken_348 ?_
                    refine p_X9_271 (pc := 351) rfl dX9_nextToken_351 (c_140 _) (Nat.le_of_ble_eq_true rfl) rfl rfl (s_140_41 _ _) ?_
                    have hW118 := cor_sj 14041 (-1) hC241 rfl
                    refine R_goto (pc := 354) 394 dX9_nextToken_354 (by decide) ?_
                    exact R_vret (pc := 394) dX9_nextToken_394 rfl (Nat.zero_le _) (Nat.zero_le _) ⟨rfl, _, rfl, hI241, hW118, (show Pm (uJ σ241 14041 (-1)) from ⟨(show 0 ≤ ((σ241.1 14039) : Int32).toInt from by have q0 := hP.1; have q1 := hP.2; have q2 := hX0_0.1; have q3 := hX0_0.2; have q4 := hX241_0.1; have q5 := hX241_0.2; have q6 := ti_le b8_78; have q7 := ti_ne b64_82; have q8 := ti_le b339_117; have q9 := ti_in (pm_p hI hP); have q10 := ti_in (iv_14037 hI); have q11 := ti_in hM0_; have q12 := ti_in (iv_14037 hI0); have q13 := ti_in h114; have q14 := ti_in hM241_; have q15 := ti_in (iv_14037 hI241); have z0 : (0 : Int32).toInt = 0 := (by decide); have z1 : (1 : Int32).toInt = 1 := (by decide); have z2 : (14037 : Int32).toInt = 14037 := (by decide); have z3 : (14039 : Int32).toInt = 14039 := (by decide); have z4 : (14042 : Int32).toInt = 14042 := (by decide); have z5 : (159 : Int32).toInt = 159 := (by decide); have z6 : (160 : Int32).toInt = 160 := (by decide); have z7 : (48 : Int32).toInt = 48 := (by decide); have z8 : (5 : Int32).toInt = 5 := (by decide); have z9 : (57 : Int32).toInt = 57 := (by decide); omega), (show ((σ241.1 14039) : Int32).toInt ≤ ((σ241.1 14037) : Int32).toInt from by have q0 := hP.1; have q1 := hP.2; have q2 := hX0_0.1; have q3 := hX0_0.2; have q4 := hX241_0.1; have q5 := hX241_0.2; have q6 := ti_le b8_78; have q7 := ti_ne b64_82; have q8 := ti_le b339_117; have q9 := ti_in (pm_p hI hP); have q10 := ti_in (iv_14037 hI); have q11 := ti_in hM0_; have q12 := ti_in (iv_14037 hI0); have q13 := ti_in h114; have q14 := ti_in hM241_; have q15 := ti_in (iv_14037 hI241); have z0 : (0 : Int32).toInt = 0 := (by decide); have z1 : (1 : Int32).toInt = 1 := (by decide); have z2 : (14037 : Int32).toInt = 14037 := (by decide); have z3 : (14039 : Int32).toInt = 14039 := (by decide); have z4 : (14042 : Int32).toInt = 14042 := (by decide); have z5 : (159 : Int32).toInt = 159 := (by decide); have z6 : (160 : Int32).toInt = 160 := (by decide); have z7 : (48 : Int32).toInt = 48 := (by decide); have z8 : (5 : Int32).toInt = 5 := (by decide); have z9 : (57 : Int32).toInt = 57 := (by decide); omega)⟩), hX241_1⟩
                  · skip
                    refine R_ldc2 (pc := 342) w_1245c dX9_nextToken_342 ?_
                    refine R_goto (pc := 345) 351 dX9_nextToken_345 (by decide) ?_
                    refine p_X9_271 (pc := 351) rfl dX9_nextToken_351 (c_140 _) (Nat.le_of_ble_eq_true rfl) rfl rfl (s_140_41 _ _) ?_
                    have hW119 := cor_sj 14041 (-4) hC241 rfl
                    refine R_goto (pc := 354) 394 dX9_nextToken_354 (by decide) ?_
                    exact R_vret (pc := 394) dX9_nextToken_394 rfl (Nat.zero_le _) (Nat.zero_le _) ⟨rfl, _, rfl, hI241, hW119, (show Pm (uJ σ241 14041 (-4)) from ⟨(show 0 ≤ ((σ241.1 14039) : Int32).toInt from by have q0 := hP.1; have q1 := hP.2; have q2 := hX0_0.1; have q3 := hX0_0.2; have q4 := hX241_0.1; have q5 := hX241_0.2; have q6 := ti_le b8_78; have q7 := ti_ne b64_82; have q8 := ti_nle b339_117; have q9 := ti_in (pm_p hI hP); have q10 := ti_in (iv_14037 hI); have q11 := ti_in hM0_; have q12 := ti_in (iv_14037 hI0); have q13 := ti_in h114; have q14 := ti_in hM241_; have q15 := ti_in (iv_14037 hI241); have z0 : (0 : Int32).toInt = 0 := (by decide); have z1 : (1 : Int32).toInt = 1 := (by decide); have z2 : (14037 : Int32).toInt = 14037 := (by decide); have z3 : (14039 : Int32).toInt = 14039 := (by decide); have z4 : (14042 : Int32).toInt = 14042 := (by decide); have z5 : (159 : Int32).toInt = 159 := (by decide); have z6 : (160 : Int32).toInt = 160 := (by decide); have z7 : (48 : Int32).toInt = 48 := (by decide); have z8 : (5 : Int32).toInt = 5 := (by decide); have z9 : (57 : Int32).toInt = 57 := (by decide); omega), (show ((σ241.1 14039) : Int32).toInt ≤ ((σ241.1 14037) : Int32).toInt from by have q0 := hP.1; have q1 := hP.2; have q2 := hX0_0.1; have q3 := hX0_0.2; have q4 := hX241_0.1; have q5 := hX241_0.2; have q6 := ti_le b8_78; have q7 := ti_ne b64_82; have q8 := ti_nle b339_117; have q9 := ti_in (pm_p hI hP); have q10 := ti_in (iv_14037 hI); have q11 := ti_in hM0_; have q12 := ti_in (iv_14037 hI0); have q13 := ti_in h114; have q14 := ti_in hM241_; have q15 := ti_in (iv_14037 hI241); have z0 : (0 : Int32).toInt = 0 := (by decide); have z1 : (1 : Int32).toInt = 1 := (by decide); have z2 : (14037 : Int32).toInt = 14037 := (by decide); have z3 : (14039 : Int32).toInt = 14039 := (by decide); have z4 : (14042 : Int32).toInt = 14042 := (by decide); have z5 : (159 : Int32).toInt = 159 := (by decide); have z6 : (160 : Int32).toInt = 160 := (by decide); have z7 : (48 : Int32).toInt = 48 := (by decide); have z8 : (5 : Int32).toInt = 5 := (by decide); have z9 : (57 : Int32).toInt = 57 := (by decide); omega)⟩), hX241_1⟩
                | succ q ih241 =>
                  intro σ241 hj241 hrg241 hI241 hC241 hX241_0 hX241_1
                  have hM241_ : inR (σ241.1 14039) 0 159 := of_ti (ti_in hrg241).1 (by have z : (159 : Int32).toInt = 159 := (by decide); omega)
                  refine R_aload_n (pc := 241) dX9_nextToken_241 rfl rfl ?_
                  refine g_X9_257 (pc := 242) (v := .int (σ241.1 14039)) rfl dX9_nextToken_242 (c_140 _) rfl ?_
                  refine R_aload_n (pc := 245) dX9_nextToken_245 rfl rfl ?_
                  refine g_X9_254 (pc := 246) (v := .int (σ241.1 14037)) rfl dX9_nextToken_246 (c_140 _) rfl ?_
                  refine R_icge (pc := 249) 333 dX9_nextToken_249 (by decide) (fun b249_120 => ?_) (fun b249_120 => ?_)
                  · skip
                    refine R_aload_n (pc := 333) dX9_nextToken_333 rfl rfl ?_
                    refine R_aload_n (pc := 334) dX9_nextToken_334 rfl rfl ?_
                    refine g_X9_263 (pc := 335) (v := .int (σ241.1 14042)) rfl dX9_nextToken_335 (c_140 _) rfl ?_
                    refine R_iconst (pc := 338) (v := 5) dX9_nextToken_338 (by decide) ?_
                    refine R_icle (pc := 339) 348 dX9_nextToken_339 (by decide) (fun b339_121 => ?_) (fun b339_121 => ?_)
                    · skip
                      refine R_ldc2 (pc := 348) w_1212c dX9_nextToken_348 ?_
                      refine p_X9_271 (pc := 351) rfl dX9_nextToken_351 (c_140 _) (Nat.le_of_ble_eq_true rfl) rfl rfl (s_140_41 _ _) ?_
                      have hW122 := cor_sj 14041 (-1) hC241 rfl
                      refine R_goto (pc := 354) 394 dX9_nextToken_354 (by decide) ?_
                      exact R_vret (pc := 394) dX9_nextToken_394 rfl (Nat.zero_le _) (Nat.zero_le _) ⟨rfl, _, rfl, hI241, hW122, (show Pm (uJ σ241 14041 (-1)) from ⟨(show 0 ≤ ((σ241.1 14039) : Int32).toInt from by have q0 := hP.1; have q1 := hP.2; have q2 := hX0_0.1; have q3 := hX0_0.2; have q4 := hX241_0.1; have q5 := hX241_0.2; have q6 := ti_le b8_78; have q7 := ti_ne b64_82; have q8 := ti_le b249_120; have q9 := ti_le b339_121; have q10 := ti_in (pm_p hI hP); have q11 := ti_in (iv_14037 hI); have q12 := ti_in hM0_; have q13 := ti_in (iv_14037 hI0); have q14 := ti_in h114; have q15 := ti_in hM241_; have q16 := ti_in (iv_14037 hI241); have z0 : (0 : Int32).toInt = 0 := (by decide); have z1 : (1 : Int32).toInt = 1 := (by decide); have z2 : (14037 : Int32).toInt = 14037 := (by decide); have z3 : (14039 : Int32).toInt = 14039 := (by decide); have z4 : (14042 : Int32).toInt = 14042 := (by decide); have z5 : (159 : Int32).toInt = 159 := (by decide); have z6 : (160 : Int32).toInt = 160 := (by decide); have z7 : (48 : Int32).toInt = 48 := (by decide); have z8 : (5 : Int32).toInt = 5 := (by decide); have z9 : (57 : Int32).toInt = 57 := (by decide); omega), (show ((σ241.1 14039) : Int32).toInt ≤ ((σ241.1 14037) : Int32).toInt from by have q0 := hP.1; have q1 := hP.2; have q2 := hX0_0.1; have q3 := hX0_0.2; have q4 := hX241_0.1; have q5 := hX241_0.2; have q6 := ti_le b8_78; have q7 := ti_ne b64_82; have q8 := ti_le b249_120; have q9 := ti_le b339_121; have q10 := ti_in (pm_p hI hP); have q11 := ti_in (iv_14037 hI); have q12 := ti_in hM0_; have q13 := ti_in (iv_14037 hI0); have q14 := ti_in h114; have q15 := ti_in hM241_; have q16 := ti_in (iv_14037 hI241); have z0 : (0 : Int32).toInt = 0 := (by decide); have z1 : (1 : Int32).toInt = 1 := (by decide); have z2 : (14037 : Int32).toInt = 14037 := (by decide); have z3 : (14039 : Int32).toInt = 14039 := (by decide); have z4 : (14042 : Int32).toInt = 14042 := (by decide); have z5 : (159 : Int32).toInt = 159 := (by decide); have z6 : (160 : Int32).toInt = 160 := (by decide); have z7 : (48 : Int32).toInt = 48 := (by decide); have z8 : (5 : Int32).toInt = 5 := (by decide); have z9 : (57 : Int32).toInt = 57 := (by decide); omega)⟩), hX241_1⟩
                    · skip
                      refine R_ldc2 (pc := 342) w_1245c dX9_nextToken_342 ?_
                      refine R_goto (pc := 345) 351 dX9_nextToken_345 (by decide) ?_
                      refine p_X9_271 (pc := 351) rfl dX9_nextToken_351 (c_140 _) (Nat.le_of_ble_eq_true rfl) rfl rfl (s_140_41 _ _) ?_
                      have hW123 := cor_sj 14041 (-4) hC241 rfl
                      refine R_goto (pc := 354) 394 dX9_nextToken_354 (by decide) ?_
                      exact R_vret (pc := 394) dX9_nextToken_394 rfl (Nat.zero_le _) (Nat.zero_le _) ⟨rfl, _, rfl, hI241, hW123, (show Pm (uJ σ241 14041 (-4)) from ⟨(show 0 ≤ ((σ241.1 14039) : Int32).toInt from by have q0 := hP.1; have q1 := hP.2; have q2 := hX0_0.1; have q3 := hX0_0.2; have q4 := hX241_0.1; have q5 := hX241_0.2; have q6 := ti_le b8_78; have q7 := ti_ne b64_82; have q8 := ti_le b249_120; have q9 := ti_nle b339_121; have q10 := ti_in (pm_p hI hP); have q11 := ti_in (iv_14037 hI); have q12 := ti_in hM0_; have q13 := ti_in (iv_14037 hI0); have q14 := ti_in h114; have q15 := ti_in hM241_; have q16 := ti_in (iv_14037 hI241); have z0 : (0 : Int32).toInt = 0 := (by decide); have z1 : (1 : Int32).toInt = 1 := (by decide); have z2 : (14037 : Int32).toInt = 14037 := (by decide); have z3 : (14039 : Int32).toInt = 14039 := (by decide); have z4 : (14042 : Int32).toInt = 14042 := (by decide); have z5 : (159 : Int32).toInt = 159 := (by decide); have z6 : (160 : Int32).toInt = 160 := (by decide); have z7 : (48 : Int32).toInt = 48 := (by decide); have z8 : (5 : Int32).toInt = 5 := (by decide); have z9 : (57 : Int32).toInt = 57 := (by decide); omega), (show ((σ241.1 14039) : Int32).toInt ≤ ((σ241.1 14037) : Int32).toInt from by have q0 := hP.1; have q1 := hP.2; have q2 := hX0_0.1; have q3 := hX0_0.2; have q4 := hX241_0.1; have q5 := hX241_0.2; have q6 := ti_le b8_78; have q7 := ti_ne b64_82; have q8 := ti_le b249_120; have q9 := ti_nle b339_121; have q10 := ti_in (pm_p hI hP); have q11 := ti_in (iv_14037 hI); have q12 := ti_in hM0_; have q13 := ti_in (iv_14037 hI0); have q14 := ti_in h114; have q15 := ti_in hM241_; have q16 := ti_in (iv_14037 hI241); have z0 : (0 : Int32).toInt = 0 := (by decide); have z1 : (1 : Int32).toInt = 1 := (by decide); have z2 : (14037 : Int32).toInt = 14037 := (by decide); have z3 : (14039 : Int32).toInt = 14039 := (by decide); have z4 : (14042 : Int32).toInt = 14042 := (by decide); have z5 : (159 : Int32).toInt = 159 := (by decide); have z6 : (160 : Int32).toInt = 160 := (by decide); have z7 : (48 : Int32).toInt = 48 := (by decide); have z8 : (5 : Int32).toInt = 5 := (by decide); have z9 : (57 : Int32).toInt = 57 := (by decide); omega)⟩), hX241_1⟩
                  · skip
                    refine R_aload_n (pc := 252) dX9_nextToken_252 rfl rfl ?_
                    refine g_X9_108 (pc := 253) (v := .ref 170) rfl dX9_nextToken_253 (c_140 _) rfl ?_
                    refine R_aload_n (pc := 256) dX9_nextToken_256 rfl rfl ?_
                    refine g_X9_257 (pc := 257) (v := .int (σ241.1 14039)) rfl dX9_nextToken_257 (c_140 _) rfl ?_
                    have hx124 : vp_in (σ241.1 14039) 160 := (vp_of_inR hM241_ (by decide))
                    refine R_iaload (pc := 260) dX9_nextToken_260 (c_170 _) hx124 ?_
                    refine R_bipush (pc := 261) (v := 48) dX9_nextToken_261 (by decide) ?_
                    refine R_bipush (pc := 263) (v := 57) dX9_nextToken_263 (by decide) ?_
                    refine k_X9_124 (pc := 265) (sp_X9_in _ _ _ _) rfl (by decide) (Nat.le_refl _) (Nat.le_refl _) (Nat.le_of_ble_eq_true rfl) dX9_nextToken_265 (fun x w2 h => ?_)
                    rcases h with ⟨rfl, ⟨h125, rfl⟩ | ⟨h125, rfl⟩⟩
                    · skip
                      refine R_ifeq (pc := 268) 333 dX9_nextToken_268 (by decide) (fun h => absurd h (by decide)) (fun _ => ?_)
                      refine R_aload_n (pc := 271) dX9_nextToken_271 rfl rfl ?_
                      refine R_aload_n (pc := 272) dX9_nextToken_272 rfl rfl ?_
                      refine g_X9_263 (pc := 273) (v := .int (σ241.1 14042)) rfl dX9_nextToken_273 (c_140 _) rfl ?_
                      refine R_iconst (pc := 276) (v := 5) dX9_nextToken_276 (by decide) ?_
                      refine R_icge (pc := 277) 303 dX9_nextToken_277 (by decide) (fun b277_127 => ?_) (fun b277_127 => ?_)
                      · skip
                        refine R_aload_n (pc := 303) dX9_nextToken_303 rfl rfl ?_
                        refine g_X9_266 (pc := 304) (v := .int (σ241.1 14043)) rfl dX9_nextToken_304 (c_140 _) rfl ?_
                        refine p_X9_266 (pc := 307) rfl dX9_nextToken_307 (c_140 _) (Nat.le_of_ble_eq_true rfl) rfl rfl (s_140_43 _ _) ?_
                        have hW128 := cor_si 14043 (σ241.1 14043) hC241 rfl
                        refine R_aload_n (pc := 310) dX9_nextToken_310 rfl rfl ?_
                        refine R_dup (pc := 311) dX9_nextToken_311 rfl ?_
                        refine g_X9_263 (pc := 312) (v := .int (σ241.1 14042)) rfl dX9_nextToken_312 (c_140 _) rfl ?_
                        refine R_iconst (pc := 315) (v := 1) dX9_nextToken_315 (by decide) ?_
                        refine R_iadd (pc := 316) dX9_nextToken_316 ?_
                        refine p_X9_263 (pc := 317) rfl dX9_nextToken_317 (c_140 _) (Nat.le_of_ble_eq_true rfl) rfl rfl (s_140_42 _ _) ?_
                        have hW129 := cor_si 14042 ((σ241.1 14042) + 1) hW128 rfl
                        refine R_aload_n (pc := 320) dX9_nextToken_320 rfl rfl ?_
                        refine R_dup (pc := 321) dX9_nextToken_321 rfl ?_
                        refine g_X9_257 (pc := 322) (v := .int (σ241.1 14039)) rfl dX9_nextToken_322 (c_140 _) rfl ?_
                        refine R_iconst (pc := 325) (v := 1) dX9_nextToken_325 (by decide) ?_
                        refine R_iadd (pc := 326) dX9_nextToken_326 ?_
                        have r130 : inR ((σ241.1 14039) + 1) 1 160 := inR_add (show inR (σ241.1 14039) 0 159 from hM241_) (show inR 1 1 1 from (inR_self _)) (by decide) (by decide)
                        have e131 := ti_add (l := 1) (h := 160) (show inR (σ241.1 14039) 0 159 from hM241_) (show inR 1 1 1 from (inR_self _)) (by decide) (by decide)
                        refine p_X9_257 (pc := 327) rfl dX9_nextToken_327 (c_140 _) (Nat.le_of_ble_eq_true rfl) rfl rfl (s_140_39 _ _) ?_
                        have hW132 := cor_si 14039 ((σ241.1 14039) + 1) hW129 rfl
                        refine R_goto (pc := 330) 241 dX9_nextToken_330 (by decide) ?_
                        exact ih241 _ (show (((σ241.1 14039) + 1) : Int32).toInt + (q : Int) = 160 from by have q0 := hP.1; have q1 := hP.2; have q2 := hX0_0.1; have q3 := hX0_0.2; have q4 := hX241_0.1; have q5 := hX241_0.2; have q6 := e131; have q7 := ti_le b8_78; have q8 := ti_ne b64_82; have q9 := ti_nle b249_120; have q10 := ti_le b277_127; have q11 := ti_in (pm_p hI hP); have q12 := ti_in (iv_14037 hI); have q13 := ti_in hM0_; have q14 := ti_in (iv_14037 hI0); have q15 := ti_in h114; have q16 := ti_in hM241_; have q17 := ti_in (iv_14037 hI241); have q18 := ti_in h125; have q19 := ti_in r130; have q20 := hj241; have z0 : (0 : Int32).toInt = 0 := (by decide); have z1 : (1 : Int32).toInt = 1 := (by decide); have z2 : (14037 : Int32).toInt = 14037 := (by decide); have z3 : (14039 : Int32).toInt = 14039 := (by decide); have z4 : (14042 : Int32).toInt = 14042 := (by decide); have z5 : (159 : Int32).toInt = 159 := (by decide); have z6 : (160 : Int32).toInt = 160 := (by decide); have z7 : (48 : Int32).toInt = 48 := (by decide); have z8 : (5 : Int32).toInt = 5 := (by decide); have z9 : (57 : Int32).toInt = 57 := (by decide); omega) (inR_up r130 (by decide) (by decide)) hI241 hW132 (show Pm (uI (uI (uI σ241 14043 (σ241.1 14043)) 14042 ((σ241.1 14042) + 1)) 14039 ((σ241.1 14039) + 1)) from ⟨(show 0 ≤ (((σ241.1 14039) + 1) : Int32).toInt from by have q0 := hP.1; have q1 := hP.2; have q2 := hX0_0.1; have q3 := hX0_0.2; have q4 := hX241_0.1; have q5 := hX241_0.2; have q6 := e131; have q7 := ti_le b8_78; have q8 := ti_ne b64_82; have q9 := ti_nle b249_120; have q10 := ti_le b277_127; have q11 := ti_in (pm_p hI hP); have q12 := ti_in (iv_14037 hI); have q13 := ti_in hM0_; have q14 := ti_in (iv_14037 hI0); have q15 := ti_in h114; have q16 := ti_in hM241_; have q17 := ti_in (iv_14037 hI241); have q18 := ti_in h125; have q19 := ti_in r130; have z0 : (0 : Int32).toInt = 0 := (by decide); have z1 : (1 : Int32).toInt = 1 := (by decide); have z2 : (14037 : Int32).toInt = 14037 := (by decide); have z3 : (14039 : Int32).toInt = 14039 := (by decide); have z4 : (14042 : Int32).toInt = 14042 := (by decide); have z5 : (159 : Int32).toInt = 159 := (by decide); have z6 : (160 : Int32).toInt = 160 := (by decide); have z7 : (48 : Int32).toInt = 48 := (by decide); have z8 : (5 : Int32).toInt = 5 := (by decide); have z9 : (57 : Int32).toInt = 57 := (by decide); omega), (show (((σ241.1 14039) + 1) : Int32).toInt ≤ ((σ241.1 14037) : Int32).toInt from by have q0 := hP.1; have q1 := hP.2; have q2 := hX0_0.1; have q3 := hX0_0.2; have q4 := hX241_0.1; have q5 := hX241_0.2; have q6 := e131; have q7 := ti_le b8_78; have q8 := ti_ne b64_82; have q9 := ti_nle b249_120; have q10 := ti_le b277_127; have q11 := ti_in (pm_p hI hP); have q12 := ti_in (iv_14037 hI); have q13 := ti_in hM0_; have q14 := ti_in (iv_14037 hI0); have q15 := ti_in h114; have q16 := ti_in hM241_; have q17 := ti_in (iv_14037 hI241); have q18 := ti_in h125; have q19 := ti_in r130; have z0 : (0 : Int32).toInt = 0 := (by decide); have z1 : (1 : Int32).toInt = 1 := (by decide); have z2 : (14037 : Int32).toInt = 14037 := (by decide); have z3 : (14039 : Int32).toInt = 14039 := (by decide); have z4 : (14042 : Int32).toInt = 14042 := (by decide); have z5 : (159 : Int32).toInt = 159 := (by decide); have z6 : (160 : Int32).toInt = 160 := (by decide); have z7 : (48 : Int32).toInt = 48 := (by decide); have z8 : (5 : Int32).toInt = 5 := (by decide); have z9 : (57 : Int32).toInt = 57 := (by decide); omega)⟩) hX241_1
                      · skip
                        refine R_bipush (pc := 280) (v := 10) dX9_nextToken_280 (by decide) ?_
                        refine R_aload_n (pc := 282) dX9_nextToken_282 rfl rfl ?_
                        refine g_X9_266 (pc := 283) (v := .int (σ241.1 14043)) rfl dX9_nextToken_283 (c_140 _) rfl ?_
                        refine R_imul (pc := 286) dX9_nextToken_286 ?_
                        refine R_aload_n (pc := 287) dX9_nextToken_287 rfl rfl ?_
                        refine g_X9_108 (pc := 288) (v := .ref 170) rfl dX9_nextToken_288 (c_140 _) rfl ?_
                        refine R_aload_n (pc := 291) dX9_nextToken_291 rfl rfl ?_
                        refine g_X9_257 (pc := 292) (v := .int (σ241.1 14039)) rfl dX9_nextToken_292 (c_140 _) rfl ?_
                        have hx133 : vp_in (σ241.1 14039) 160 := (vp_of_inR hM241_ (by decide))
                        refine R_iaload (pc := 295) dX9_nextToken_295 (c_170 _) hx133 ?_
                        refine R_iadd (pc := 296) dX9_nextToken_296 ?_
                        refine R_bipush (pc := 297) (v := 48) dX9_nextToken_297 (by decide) ?_
                        refine R_isub (pc := 299) dX9_nextToken_299 ?_
                        refine R_goto (pc := 300) 307 dX9_nextToken_300 (by decide) ?_
                        refine p_X9_266 (pc := 307) rfl dX9_nextToken_307 (c_140 _) (Nat.le_of_ble_eq_true rfl) rfl rfl (s_140_43 _ _) ?_
                        have hW134 := cor_si 14043 (((10 * (σ241.1 14043)) + (σ241.2.2.1 170 (Int32.toNatClampNeg (σ241.1 14039)))) - 48) hC241 rfl
                        refine R_aload_n (pc := 310) dX9_nextToken_310 rfl rfl ?_
                        refine R_dup (pc := 311) dX9_nextToken_311 rfl ?_
                        refine g_X9_263 (pc := 312) (v := .int (σ241.1 14042)) rfl dX9_nextToken_312 (c_140 _) rfl ?_
                        refine R_iconst (pc := 315) (v := 1) dX9_nextToken_315 (by decide) ?_
                        refine R_iadd (pc := 316) dX9_nextToken_316 ?_
                        refine p_X9_263 (pc := 317) rfl dX9_nextToken_317 (c_140 _) (Nat.le_of_ble_eq_true rfl) rfl rfl (s_140_42 _ _) ?_
                        have hW135 := cor_si 14042 ((σ241.1 14042) + 1) hW134 rfl
                        refine R_aload_n (pc := 320) dX9_nextToken_320 rfl rfl ?_
                        refine R_dup (pc := 321) dX9_nextToken_321 rfl ?_
                        refine g_X9_257 (pc := 322) (v := .int (σ241.1 14039)) rfl dX9_nextToken_322 (c_140 _) rfl ?_
                        refine R_iconst (pc := 325) (v := 1) dX9_nextToken_325 (by decide) ?_
                        refine R_iadd (pc := 326) dX9_nextToken_326 ?_
                        have r136 : inR ((σ241.1 14039) + 1) 1 160 := inR_add (show inR (σ241.1 14039) 0 159 from hM241_) (show inR 1 1 1 from (inR_self _)) (by decide) (by decide)
                        have e137 := ti_add (l := 1) (h := 160) (show inR (σ241.1 14039) 0 159 from hM241_) (show inR 1 1 1 from (inR_self _)) (by decide) (by decide)
                        refine p_X9_257 (pc := 327) rfl dX9_nextToken_327 (c_140 _) (Nat.le_of_ble_eq_true rfl) rfl rfl (s_140_39 _ _) ?_
                        have hW138 := cor_si 14039 ((σ241.1 14039) + 1) hW135 rfl
                        refine R_goto (pc := 330) 241 dX9_nextToken_330 (by decide) ?_
                        exact ih241 _ (show (((σ241.1 14039) + 1) : Int32).toInt + (q : Int) = 160 from by have q0 := hP.1; have q1 := hP.2; have q2 := hX0_0.1; have q3 := hX0_0.2; have q4 := hX241_0.1; have q5 := hX241_0.2; have q6 := e137; have q7 := ti_le b8_78; have q8 := ti_ne b64_82; have q9 := ti_nle b249_120; have q10 := ti_nle b277_127; have q11 := ti_in (pm_p hI hP); have q12 := ti_in (iv_14037 hI); have q13 := ti_in hM0_; have q14 := ti_in (iv_14037 hI0); have q15 := ti_in h114; have q16 := ti_in hM241_; have q17 := ti_in (iv_14037 hI241); have q18 := ti_in h125; have q19 := ti_in r136; have q20 := hj241; have z0 : (0 : Int32).toInt = 0 := (by decide); have z1 : (1 : Int32).toInt = 1 := (by decide); have z2 : (14037 : Int32).toInt = 14037 := (by decide); have z3 : (14039 : Int32).toInt = 14039 := (by decide); have z4 : (14042 : Int32).toInt = 14042 := (by decide); have z5 : (159 : Int32).toInt = 159 := (by decide); have z6 : (160 : Int32).toInt = 160 := (by decide); have z7 : (48 : Int32).toInt = 48 := (by decide); have z8 : (5 : Int32).toInt = 5 := (by decide); have z9 : (57 : Int32).toInt = 57 := (by decide); omega) (inR_up r136 (by decide) (by decide)) hI241 hW138 (show Pm (uI (uI (uI σ241 14043 (((10 * (σ241.1 14043)) + (σ241.2.2.1 170 (Int32.toNatClampNeg (σ241.1 14039)))) - 48)) 14042 ((σ241.1 14042) + 1)) 14039 ((σ241.1 14039) + 1)) from ⟨(show 0 ≤ (((σ241.1 14039) + 1) : Int32).toInt from by have q0 := hP.1; have q1 := hP.2; have q2 := hX0_0.1; have q3 := hX0_0.2; have q4 := hX241_0.1; have q5 := hX241_0.2; have q6 := e137; have q7 := ti_le b8_78; have q8 := ti_ne b64_82; have q9 := ti_nle b249_120; have q10 := ti_nle b277_127; have q11 := ti_in (pm_p hI hP); have q12 := ti_in (iv_14037 hI); have q13 := ti_in hM0_; have q14 := ti_in (iv_14037 hI0); have q15 := ti_in h114; have q16 := ti_in hM241_; have q17 := ti_in (iv_14037 hI241); have q18 := ti_in h125; have q19 := ti_in r136; have z0 : (0 : Int32).toInt = 0 := (by decide); have z1 : (1 : Int32).toInt = 1 := (by decide); have z2 : (14037 : Int32).toInt = 14037 := (by decide); have z3 : (14039 : Int32).toInt = 14039 := (by decide); have z4 : (14042 : Int32).toInt = 14042 := (by decide); have z5 : (159 : Int32).toInt = 159 := (by decide); have z6 : (160 : Int32).toInt = 160 := (by decide); have z7 : (48 : Int32).toInt = 48 := (by decide); have z8 : (5 : Int32).toInt = 5 := (by decide); have z9 : (57 : Int32).toInt = 57 := (by decide); omega), (show (((σ241.1 14039) + 1) : Int32).toInt ≤ ((σ241.1 14037) : Int32).toInt from by have q0 := hP.1; have q1 := hP.2; have q2 := hX0_0.1; have q3 := hX0_0.2; have q4 := hX241_0.1; have q5 := hX241_0.2; have q6 := e137; have q7 := ti_le b8_78; have q8 := ti_ne b64_82; have q9 := ti_nle b249_120; have q10 := ti_nle b277_127; have q11 := ti_in (pm_p hI hP); have q12 := ti_in (iv_14037 hI); have q13 := ti_in hM0_; have q14 := ti_in (iv_14037 hI0); have q15 := ti_in h114; have q16 := ti_in hM241_; have q17 := ti_in (iv_14037 hI241); have q18 := ti_in h125; have q19 := ti_in r136; have z0 : (0 : Int32).toInt = 0 := (by decide); have z1 : (1 : Int32).toInt = 1 := (by decide); have z2 : (14037 : Int32).toInt = 14037 := (by decide); have z3 : (14039 : Int32).toInt = 14039 := (by decide); have z4 : (14042 : Int32).toInt = 14042 := (by decide); have z5 : (159 : Int32).toInt = 159 := (by decide); have z6 : (160 : Int32).toInt = 160 := (by decide); have z7 : (48 : Int32).toInt = 48 := (by decide); have z8 : (5 : Int32).toInt = 5 := (by decide); have z9 : (57 : Int32).toInt = 57 := (by decide); omega)⟩) hX241_1
                    · skip
                      refine R_ifeq (pc := 268) 333 dX9_nextToken_268 (by decide) (fun _ => ?_) (fun h => absurd (by decide) h)
                      refine R_aload_n (pc := 333) dX9_nextToken_333 rfl rfl ?_
                      refine R_aload_n (pc := 334) dX9_nextToken_334 rfl rfl ?_
                      refine g_X9_263 (pc := 335) (v := .int (σ241.1 14042)) rfl dX9_nextToken_335 (c_140 _) rfl ?_
                      refine R_iconst (pc := 338) (v := 5) dX9_nextToken_338 (by decide) ?_
                      refine R_icle (pc := 339) 348 dX9_nextToken_339 (by decide) (fun b339_140 => ?_) (fun b339_140 => ?_)
                      · skip
                        refine R_ldc2 (pc := 348) w_1212c dX9_nextToken_348 ?_
                        refine p_X9_271 (pc := 351) rfl dX9_nextToken_351 (c_140 _) (Nat.le_of_ble_eq_true rfl) rfl rfl (s_140_41 _ _) ?_
                        have hW141 := cor_sj 14041 (-1) hC241 rfl
                        refine R_goto (pc := 354) 394 dX9_nextToken_354 (by decide) ?_
                        exact R_vret (pc := 394) dX9_nextToken_394 rfl (Nat.zero_le _) (Nat.zero_le _) ⟨rfl, _, rfl, hI241, hW141, (show Pm (uJ σ241 14041 (-1)) from ⟨(show 0 ≤ ((σ241.1 14039) : Int32).toInt from by have q0 := hP.1; have q1 := hP.2; have q2 := hX0_0.1; have q3 := hX0_0.2; have q4 := hX241_0.1; have q5 := hX241_0.2; have q6 := ti_le b8_78; have q7 := ti_ne b64_82; have q8 := ti_nle b249_120; have q9 := ti_le b339_140; have q10 := ti_in (pm_p hI hP); have q11 := ti_in (iv_14037 hI); have q12 := ti_in hM0_; have q13 := ti_in (iv_14037 hI0); have q14 := ti_in h114; have q15 := ti_in hM241_; have q16 := ti_in (iv_14037 hI241); have z0 : (0 : Int32).toInt = 0 := (by decide); have z1 : (1 : Int32).toInt = 1 := (by decide); have z2 : (14037 : Int32).toInt = 14037 := (by decide); have z3 : (14039 : Int32).toInt = 14039 := (by decide); have z4 : (14042 : Int32).toInt = 14042 := (by decide); have z5 : (159 : Int32).toInt = 159 := (by decide); have z6 : (160 : Int32).toInt = 160 := (by decide); have z7 : (48 : Int32).toInt = 48 := (by decide); have z8 : (5 : Int32).toInt = 5 := (by decide); have z9 : (57 : Int32).toInt = 57 := (by decide); omega), (show ((σ241.1 14039) : Int32).toInt ≤ ((σ241.1 14037) : Int32).toInt from by have q0 := hP.1; have q1 := hP.2; have q2 := hX0_0.1; have q3 := hX0_0.2; have q4 := hX241_0.1; have q5 := hX241_0.2; have q6 := ti_le b8_78; have q7 := ti_ne b64_82; have q8 := ti_nle b249_120; have q9 := ti_le b339_140; have q10 := ti_in (pm_p hI hP); have q11 := ti_in (iv_14037 hI); have q12 := ti_in hM0_; have q13 := ti_in (iv_14037 hI0); have q14 := ti_in h114; have q15 := ti_in hM241_; have q16 := ti_in (iv_14037 hI241); have z0 : (0 : Int32).toInt = 0 := (by decide); have z1 : (1 : Int32).toInt = 1 := (by decide); have z2 : (14037 : Int32).toInt = 14037 := (by decide); have z3 : (14039 : Int32).toInt = 14039 := (by decide); have z4 : (14042 : Int32).toInt = 14042 := (by decide); have z5 : (159 : Int32).toInt = 159 := (by decide); have z6 : (160 : Int32).toInt = 160 := (by decide); have z7 : (48 : Int32).toInt = 48 := (by decide); have z8 : (5 : Int32).toInt = 5 := (by decide); have z9 : (57 : Int32).toInt = 57 := (by decide); omega)⟩), hX241_1⟩
                      · skip
                        refine R_ldc2 (pc := 342) w_1245c dX9_nextToken_342 ?_
                        refine R_goto (pc := 345) 351 dX9_nextToken_345 (by decide) ?_
                        refine p_X9_271 (pc := 351) rfl dX9_nextToken_351 (c_140 _) (Nat.le_of_ble_eq_true rfl) rfl rfl (s_140_41 _ _) ?_
                        have hW142 := cor_sj 14041 (-4) hC241 rfl
                        refine R_goto (pc := 354) 394 dX9_nextToken_354 (by decide) ?_
                        exact R_vret (pc := 394) dX9_nextToken_394 rfl (Nat.zero_le _) (Nat.zero_le _) ⟨rfl, _, rfl, hI241, hW142, (show Pm (uJ σ241 14041 (-4)) from ⟨(show 0 ≤ ((σ241.1 14039) : Int32).toInt from by have q0 := hP.1; have q1 := hP.2; have q2 := hX0_0.1; have q3 := hX0_0.2; have q4 := hX241_0.1; have q5 := hX241_0.2; have q6 := ti_le b8_78; have q7 := ti_ne b64_82; have q8 := ti_nle b249_120; have q9 := ti_nle b339_140; have q10 := ti_in (pm_p hI hP); have q11 := ti_in (iv_14037 hI); have q12 := ti_in hM0_; have q13 := ti_in (iv_14037 hI0); have q14 := ti_in h114; have q15 := ti_in hM241_; have q16 := ti_in (iv_14037 hI241); have z0 : (0 : Int32).toInt = 0 := (by decide); have z1 : (1 : Int32).toInt = 1 := (by decide); have z2 : (14037 : Int32).toInt = 14037 := (by decide); have z3 : (14039 : Int32).toInt = 14039 := (by decide); have z4 : (14042 : Int32).toInt = 14042 := (by decide); have z5 : (159 : Int32).toInt = 159 := (by decide); have z6 : (160 : Int32).toInt = 160 := (by decide); have z7 : (48 : Int32).toInt = 48 := (by decide); have z8 : (5 : Int32).toInt = 5 := (by decide); have z9 : (57 : Int32).toInt = 57 := (by decide); omega), (show ((σ241.1 14039) : Int32).toInt ≤ ((σ241.1 14037) : Int32).toInt from by have q0 := hP.1; have q1 := hP.2; have q2 := hX0_0.1; have q3 := hX0_0.2; have q4 := hX241_0.1; have q5 := hX241_0.2; have q6 := ti_le b8_78; have q7 := ti_ne b64_82; have q8 := ti_nle b249_120; have q9 := ti_nle b339_140; have q10 := ti_in (pm_p hI hP); have q11 := ti_in (iv_14037 hI); have q12 := ti_in hM0_; have q13 := ti_in (iv_14037 hI0); have q14 := ti_in h114; have q15 := ti_in hM241_; have q16 := ti_in (iv_14037 hI241); have z0 : (0 : Int32).toInt = 0 := (by decide); have z1 : (1 : Int32).toInt = 1 := (by decide); have z2 : (14037 : Int32).toInt = 14037 := (by decide); have z3 : (14039 : Int32).toInt = 14039 := (by decide); have z4 : (14042 : Int32).toInt = 14042 := (by decide); have z5 : (159 : Int32).toInt = 159 := (by decide); have z6 : (160 : Int32).toInt = 160 := (by decide); have z7 : (48 : Int32).toInt = 48 := (by decide); have z8 : (5 : Int32).toInt = 5 := (by decide); have z9 : (57 : Int32).toInt = 57 := (by decide); omega)⟩), hX241_1⟩
              exact HL241 ((160 : Int) - ((σ0.1 14039) : Int32).toInt).toNat _ (show ((σ0.1 14039) : Int32).toInt + ((((160 : Int) - ((σ0.1 14039) : Int32).toInt).toNat : Nat) : Int) = 160 from by have q0 := hP.1; have q1 := hP.2; have q2 := hX0_0.1; have q3 := hX0_0.2; have q4 := ti_le b8_78; have q5 := ti_ne b64_82; have q6 := ti_in (pm_p hI hP); have q7 := ti_in (iv_14037 hI); have q8 := ti_in hM0_; have q9 := ti_in (iv_14037 hI0); have q10 := ti_in h114; have z0 : (0 : Int32).toInt = 0 := (by decide); have z1 : (1 : Int32).toInt = 1 := (by decide); have z2 : (14037 : Int32).toInt = 14037 := (by decide); have z3 : (14039 : Int32).toInt = 14039 := (by decide); have z4 : (159 : Int32).toInt = 159 := (by decide); have z5 : (160 : Int32).toInt = 160 := (by decide); have z6 : (48 : Int32).toInt = 48 := (by decide); have z7 : (57 : Int32).toInt = 57 := (by decide); omega) (inR_up hM0_ (by decide) (by decide)) hI0 hW81 (show Pm (uI (uI (uI σ0 14040 (σ0.1 14039)) 14042 0) 14043 0) from ⟨(show 0 ≤ ((σ0.1 14039) : Int32).toInt from by have q0 := hP.1; have q1 := hP.2; have q2 := hX0_0.1; have q3 := hX0_0.2; have q4 := ti_le b8_78; have q5 := ti_ne b64_82; have q6 := ti_in (pm_p hI hP); have q7 := ti_in (iv_14037 hI); have q8 := ti_in hM0_; have q9 := ti_in (iv_14037 hI0); have q10 := ti_in h114; have z0 : (0 : Int32).toInt = 0 := (by decide); have z1 : (1 : Int32).toInt = 1 := (by decide); have z2 : (14037 : Int32).toInt = 14037 := (by decide); have z3 : (14039 : Int32).toInt = 14039 := (by decide); have z4 : (159 : Int32).toInt = 159 := (by decide); have z5 : (160 : Int32).toInt = 160 := (by decide); have z6 : (48 : Int32).toInt = 48 := (by decide); have z7 : (57 : Int32).toInt = 57 := (by decide); omega), (show ((σ0.1 14039) : Int32).toInt ≤ ((σ0.1 14037) : Int32).toInt from by have q0 := hP.1; have q1 := hP.2; have q2 := hX0_0.1; have q3 := hX0_0.2; have q4 := ti_le b8_78; have q5 := ti_ne b64_82; have q6 := ti_in (pm_p hI hP); have q7 := ti_in (iv_14037 hI); have q8 := ti_in hM0_; have q9 := ti_in (iv_14037 hI0); have q10 := ti_in h114; have z0 : (0 : Int32).toInt = 0 := (by decide); have z1 : (1 : Int32).toInt = 1 := (by decide); have z2 : (14037 : Int32).toInt = 14037 := (by decide); have z3 : (14039 : Int32).toInt = 14039 := (by decide); have z4 : (159 : Int32).toInt = 159 := (by decide); have z5 : (160 : Int32).toInt = 160 := (by decide); have z6 : (48 : Int32).toInt = 48 := (by decide); have z7 : (57 : Int32).toInt = 57 := (by decide); omega)⟩) hX0_1
            · skip
              refine R_ifeq (pc := 238) 357 dX9_nextToken_238 (by decide) (fun _ => ?_) (fun h => absurd (by decide) h)
              refine R_aload_n (pc := 357) dX9_nextToken_357 rfl rfl ?_
              refine R_aload_n (pc := 358) dX9_nextToken_358 rfl rfl ?_
              refine g_X9_108 (pc := 359) (v := .ref 170) rfl dX9_nextToken_359 (c_140 _) rfl ?_
              refine R_aload_n (pc := 362) dX9_nextToken_362 rfl rfl ?_
              refine g_X9_257 (pc := 363) (v := .int (σ0.1 14039)) rfl dX9_nextToken_363 (c_140 _) rfl ?_
              have hx144 : vp_in (σ0.1 14039) 160 := (vp_of_inR hM0_ (by decide))
              refine W_iaload (pc := 366) (σ0.2.2.1 170 (Int32.toNatClampNeg (σ0.1 14039))) dX9_nextToken_366 (c_170 _) hx144 rfl ?_
              refine R_bipush (pc := 367) (v := 59) dX9_nextToken_367 (by decide) ?_
              refine R_icne (pc := 369) 378 dX9_nextToken_369 (by decide) (fun b369_145 => ?_) (fun b369_145 => ?_)
              · skip
                refine R_ldc2 (pc := 378) w_1245c dX9_nextToken_378 ?_
                refine p_X9_271 (pc := 381) rfl dX9_nextToken_381 (c_140 _) (Nat.le_of_ble_eq_true rfl) rfl rfl (s_140_41 _ _) ?_
                have hW146 := cor_sj 14041 (-4) hW81 rfl
                refine R_aload_n (pc := 384) dX9_nextToken_384 rfl rfl ?_
                refine R_dup (pc := 385) dX9_nextToken_385 rfl ?_
                refine g_X9_257 (pc := 386) (v := .int (σ0.1 14039)) rfl dX9_nextToken_386 (c_140 _) rfl ?_
                refine R_iconst (pc := 389) (v := 1) dX9_nextToken_389 (by decide) ?_
                refine R_iadd (pc := 390) dX9_nextToken_390 ?_
                have r147 : inR ((σ0.1 14039) + 1) 1 160 := inR_add (show inR (σ0.1 14039) 0 159 from hM0_) (show inR 1 1 1 from (inR_self _)) (by decide) (by decide)
                have e148 := ti_add (l := 1) (h := 160) (show inR (σ0.1 14039) 0 159 from hM0_) (show inR 1 1 1 from (inR_self _)) (by decide) (by decide)
                refine p_X9_257 (pc := 391) rfl dX9_nextToken_391 (c_140 _) (Nat.le_of_ble_eq_true rfl) rfl rfl (s_140_39 _ _) ?_
                have hW149 := cor_si 14039 ((σ0.1 14039) + 1) hW146 rfl
                exact R_vret (pc := 394) dX9_nextToken_394 rfl (Nat.zero_le _) (Nat.zero_le _) ⟨rfl, _, rfl, hI0, hW149, (show Pm (uI (uJ (uI (uI (uI σ0 14040 (σ0.1 14039)) 14042 0) 14043 0) 14041 (-4)) 14039 ((σ0.1 14039) + 1)) from ⟨(show 0 ≤ (((σ0.1 14039) + 1) : Int32).toInt from by have q0 := hP.1; have q1 := hP.2; have q2 := hX0_0.1; have q3 := hX0_0.2; have q4 := e148; have q5 := ti_le b8_78; have q6 := ti_ne b64_82; have q7 := ti_ne b369_145; have q8 := ti_in (pm_p hI hP); have q9 := ti_in (iv_14037 hI); have q10 := ti_in hM0_; have q11 := ti_in (iv_14037 hI0); have q12 := ti_in r147; have z0 : (0 : Int32).toInt = 0 := (by decide); have z1 : (1 : Int32).toInt = 1 := (by decide); have z2 : (14037 : Int32).toInt = 14037 := (by decide); have z3 : (14039 : Int32).toInt = 14039 := (by decide); have z4 : (159 : Int32).toInt = 159 := (by decide); have z5 : (160 : Int32).toInt = 160 := (by decide); have z6 : (170 : Int32).toInt = 170 := (by decide); have z7 : (59 : Int32).toInt = 59 := (by decide); omega), (show (((σ0.1 14039) + 1) : Int32).toInt ≤ ((σ0.1 14037) : Int32).toInt from by have q0 := hP.1; have q1 := hP.2; have q2 := hX0_0.1; have q3 := hX0_0.2; have q4 := e148; have q5 := ti_le b8_78; have q6 := ti_ne b64_82; have q7 := ti_ne b369_145; have q8 := ti_in (pm_p hI hP); have q9 := ti_in (iv_14037 hI); have q10 := ti_in hM0_; have q11 := ti_in (iv_14037 hI0); have q12 := ti_in r147; have z0 : (0 : Int32).toInt = 0 := (by decide); have z1 : (1 : Int32).toInt = 1 := (by decide); have z2 : (14037 : Int32).toInt = 14037 := (by decide); have z3 : (14039 : Int32).toInt = 14039 := (by decide); have z4 : (159 : Int32).toInt = 159 := (by decide); have z5 : (160 : Int32).toInt = 160 := (by decide); have z6 : (170 : Int32).toInt = 170 := (by decide); have z7 : (59 : Int32).toInt = 59 := (by decide); omega)⟩), hX0_1⟩
              · skip
                refine R_ldc2 (pc := 372) w_1246c dX9_nextToken_372 ?_
                refine R_goto (pc := 375) 381 dX9_nextToken_375 (by decide) ?_
                refine p_X9_271 (pc := 381) rfl dX9_nextToken_381 (c_140 _) (Nat.le_of_ble_eq_true rfl) rfl rfl (s_140_41 _ _) ?_
                have hW150 := cor_sj 14041 (-3) hW81 rfl
                refine R_aload_n (pc := 384) dX9_nextToken_384 rfl rfl ?_
                refine R_dup (pc := 385) dX9_nextToken_385 rfl ?_
                refine g_X9_257 (pc := 386) (v := .int (σ0.1 14039)) rfl dX9_nextToken_386 (c_140 _) rfl ?_
                refine R_iconst (pc := 389) (v := 1) dX9_nextToken_389 (by decide) ?_
                refine R_iadd (pc := 390) dX9_nextToken_390 ?_
                have r151 : inR ((σ0.1 14039) + 1) 1 160 := inR_add (show inR (σ0.1 14039) 0 159 from hM0_) (show inR 1 1 1 from (inR_self _)) (by decide) (by decide)
                have e152 := ti_add (l := 1) (h := 160) (show inR (σ0.1 14039) 0 159 from hM0_) (show inR 1 1 1 from (inR_self _)) (by decide) (by decide)
                refine p_X9_257 (pc := 391) rfl dX9_nextToken_391 (c_140 _) (Nat.le_of_ble_eq_true rfl) rfl rfl (s_140_39 _ _) ?_
                have hW153 := cor_si 14039 ((σ0.1 14039) + 1) hW150 rfl
                exact R_vret (pc := 394) dX9_nextToken_394 rfl (Nat.zero_le _) (Nat.zero_le _) ⟨rfl, _, rfl, hI0, hW153, (show Pm (uI (uJ (uI (uI (uI σ0 14040 (σ0.1 14039)) 14042 0) 14043 0) 14041 (-3)) 14039 ((σ0.1 14039) + 1)) from ⟨(show 0 ≤ (((σ0.1 14039) + 1) : Int32).toInt from by have q0 := hP.1; have q1 := hP.2; have q2 := hX0_0.1; have q3 := hX0_0.2; have q4 := e152; have q5 := ti_le b8_78; have q6 := ti_ne b64_82; have q7 := ti_eq b369_145; have q8 := ti_in (pm_p hI hP); have q9 := ti_in (iv_14037 hI); have q10 := ti_in hM0_; have q11 := ti_in (iv_14037 hI0); have q12 := ti_in r151; have z0 : (0 : Int32).toInt = 0 := (by decide); have z1 : (1 : Int32).toInt = 1 := (by decide); have z2 : (14037 : Int32).toInt = 14037 := (by decide); have z3 : (14039 : Int32).toInt = 14039 := (by decide); have z4 : (159 : Int32).toInt = 159 := (by decide); have z5 : (160 : Int32).toInt = 160 := (by decide); have z6 : (170 : Int32).toInt = 170 := (by decide); have z7 : (59 : Int32).toInt = 59 := (by decide); omega), (show (((σ0.1 14039) + 1) : Int32).toInt ≤ ((σ0.1 14037) : Int32).toInt from by have q0 := hP.1; have q1 := hP.2; have q2 := hX0_0.1; have q3 := hX0_0.2; have q4 := e152; have q5 := ti_le b8_78; have q6 := ti_ne b64_82; have q7 := ti_eq b369_145; have q8 := ti_in (pm_p hI hP); have q9 := ti_in (iv_14037 hI); have q10 := ti_in hM0_; have q11 := ti_in (iv_14037 hI0); have q12 := ti_in r151; have z0 : (0 : Int32).toInt = 0 := (by decide); have z1 : (1 : Int32).toInt = 1 := (by decide); have z2 : (14037 : Int32).toInt = 14037 := (by decide); have z3 : (14039 : Int32).toInt = 14039 := (by decide); have z4 : (159 : Int32).toInt = 159 := (by decide); have z5 : (160 : Int32).toInt = 160 := (by decide); have z6 : (170 : Int32).toInt = 170 := (by decide); have z7 : (59 : Int32).toInt = 59 := (by decide); omega)⟩), hX0_1⟩
        · skip
          refine R_aload_n (pc := 67) dX9_nextToken_67 rfl rfl ?_
          refine R_ldc2 (pc := 68) w_1242c dX9_nextToken_68 ?_
          refine p_X9_271 (pc := 71) rfl dX9_nextToken_71 (c_140 _) (Nat.le_of_ble_eq_true rfl) rfl rfl (s_140_41 _ _) ?_
          have hW154 := cor_sj 14041 (-2) hW81 rfl
          refine R_goto (pc := 74) 394 dX9_nextToken_74 (by decide) ?_
          exact R_vret (pc := 394) dX9_nextToken_394 rfl (Nat.zero_le _) (Nat.zero_le _) ⟨rfl, _, rfl, hI0, hW154, (show Pm (uJ (uI (uI (uI σ0 14040 (σ0.1 14039)) 14042 0) 14043 0) 14041 (-2)) from ⟨(show 0 ≤ ((σ0.1 14039) : Int32).toInt from by have q0 := hP.1; have q1 := hP.2; have q2 := hX0_0.1; have q3 := hX0_0.2; have q4 := ti_le b8_78; have q5 := ti_eq b64_82; have q6 := ti_in (pm_p hI hP); have q7 := ti_in (iv_14037 hI); have q8 := ti_in hM0_; have q9 := ti_in (iv_14037 hI0); have z0 : (0 : Int32).toInt = 0 := (by decide); have z1 : (1 : Int32).toInt = 1 := (by decide); have z2 : (14037 : Int32).toInt = 14037 := (by decide); have z3 : (14039 : Int32).toInt = 14039 := (by decide); have z4 : (159 : Int32).toInt = 159 := (by decide); have z5 : (160 : Int32).toInt = 160 := (by decide); omega), (show ((σ0.1 14039) : Int32).toInt ≤ ((σ0.1 14037) : Int32).toInt from by have q0 := hP.1; have q1 := hP.2; have q2 := hX0_0.1; have q3 := hX0_0.2; have q4 := ti_le b8_78; have q5 := ti_eq b64_82; have q6 := ti_in (pm_p hI hP); have q7 := ti_in (iv_14037 hI); have q8 := ti_in hM0_; have q9 := ti_in (iv_14037 hI0); have z0 : (0 : Int32).toInt = 0 := (by decide); have z1 : (1 : Int32).toInt = 1 := (by decide); have z2 : (14037 : Int32).toInt = 14037 := (by decide); have z3 : (14039 : Int32).toInt = 14039 := (by decide); have z4 : (159 : Int32).toInt = 159 := (by decide); have z5 : (160 : Int32).toInt = 160 := (by decide); omega)⟩), hX0_1⟩
      · skip
        refine R_aload_n (pc := 11) dX9_nextToken_11 rfl rfl ?_
        refine g_X9_108 (pc := 12) (v := .ref 170) rfl dX9_nextToken_12 (c_140 _) rfl ?_
        refine R_aload_n (pc := 15) dX9_nextToken_15 rfl rfl ?_
        refine g_X9_257 (pc := 16) (v := .int (σ0.1 14039)) rfl dX9_nextToken_16 (c_140 _) rfl ?_
        have hx155 : vp_in (σ0.1 14039) 160 := (vp_of_inR hM0_ (by decide))
        refine R_iaload (pc := 19) dX9_nextToken_19 (c_170 _) hx155 ?_
        refine R_bipush (pc := 20) (v := 32) dX9_nextToken_20 (by decide) ?_
        refine R_icne (pc := 22) 38 dX9_nextToken_22 (by decide) (fun b22_156 => ?_) (fun b22_156 => ?_)
        · skip
          refine R_aload_n (pc := 38) dX9_nextToken_38 rfl rfl ?_
          refine R_aload_n (pc := 39) dX9_nextToken_39 rfl rfl ?_
          refine g_X9_257 (pc := 40) (v := .int (σ0.1 14039)) rfl dX9_nextToken_40 (c_140 _) rfl ?_
          refine p_X9_260 (pc := 43) rfl dX9_nextToken_43 (c_140 _) (Nat.le_of_ble_eq_true rfl) rfl rfl (s_140_40 _ _) ?_
          have hW157 := cor_si 14040 (σ0.1 14039) hC0 rfl
          refine R_aload_n (pc := 46) dX9_nextToken_46 rfl rfl ?_
          refine R_iconst (pc := 47) (v := 0) dX9_nextToken_47 (by decide) ?_
          refine p_X9_263 (pc := 48) rfl dX9_nextToken_48 (c_140 _) (Nat.le_of_ble_eq_true rfl) rfl rfl (s_140_42 _ _) ?_
          have hW158 := cor_si 14042 0 hW157 rfl
          refine R_aload_n (pc := 51) dX9_nextToken_51 rfl rfl ?_
          refine R_iconst (pc := 52) (v := 0) dX9_nextToken_52 (by decide) ?_
          refine p_X9_266 (pc := 53) rfl dX9_nextToken_53 (c_140 _) (Nat.le_of_ble_eq_true rfl) rfl rfl (s_140_43 _ _) ?_
          have hW159 := cor_si 14043 0 hW158 rfl
          refine R_aload_n (pc := 56) dX9_nextToken_56 rfl rfl ?_
          refine g_X9_257 (pc := 57) (v := .int (σ0.1 14039)) rfl dX9_nextToken_57 (c_140 _) rfl ?_
          refine R_aload_n (pc := 60) dX9_nextToken_60 rfl rfl ?_
          refine g_X9_254 (pc := 61) (v := .int (σ0.1 14037)) rfl dX9_nextToken_61 (c_140 _) rfl ?_
          refine R_icne (pc := 64) 77 dX9_nextToken_64 (by decide) (fun b64_160 => ?_) (fun b64_160 => ?_)
          · skip
            refine R_aload_n (pc := 77) dX9_nextToken_77 rfl rfl ?_
            refine g_X9_108 (pc := 78) (v := .ref 170) rfl dX9_nextToken_78 (c_140 _) rfl ?_
            refine R_aload_n (pc := 81) dX9_nextToken_81 rfl rfl ?_
            refine g_X9_257 (pc := 82) (v := .int (σ0.1 14039)) rfl dX9_nextToken_82 (c_140 _) rfl ?_
            have hx161 : vp_in (σ0.1 14039) 160 := (vp_of_inR hM0_ (by decide))
            refine W_iaload (pc := 85) (σ0.2.2.1 170 (Int32.toNatClampNeg (σ0.1 14039))) dX9_nextToken_85 (c_170 _) hx161 rfl ?_
            refine R_bipush (pc := 86) (v := 97) dX9_nextToken_86 (by decide) ?_
            refine R_bipush (pc := 88) (v := 122) dX9_nextToken_88 (by decide) ?_
            refine k_X9_124 (pc := 90) (sp_X9_in _ _ _ _) rfl (by decide) (Nat.le_refl _) (Nat.le_refl _) (Nat.le_of_ble_eq_true rfl) dX9_nextToken_90 (fun x w2 h => ?_)
            rcases h with ⟨rfl, ⟨h162, rfl⟩ | ⟨h162, rfl⟩⟩
            · skip
              refine R_ifeq (pc := 93) 222 dX9_nextToken_93 (by decide) (fun h => absurd h (by decide)) (fun _ => ?_)
              refine R_aload_n (pc := 96) dX9_nextToken_96 rfl rfl ?_
              refine R_lconst (pc := 97) (v := 0) dX9_nextToken_97 (by decide) ?_
              refine p_X9_271 (pc := 98) rfl dX9_nextToken_98 (c_140 _) (Nat.le_of_ble_eq_true rfl) rfl rfl (s_140_41 _ _) ?_
              have hW164 := cor_sj 14041 0 hW159 rfl
              have HL101 : ∀ (q : Nat) (σ101 : Sg), (σ101.1 14039).toInt + (q : Int) = 160 → inR (σ101.1 14039) 0 160 → Inv σ101 → Cor σ σ101 → Pm σ101 → σ101.1 14045 = σ.1 14045 → R G l yX9_nextToken cX9_nextToken 1 none 1 0 0 (QV (fun w2 => ∃ σ2, w2 = WW σ2 ∧ Inv σ2 ∧ Cor σ σ2 ∧ Pm σ2 ∧ σ2.1 14045 = σ.1 14045)) 101 [(some (.ref 140))] [] (WW σ101) 0 0 := by
                intro q
                induction q with
                | zero =>
                  intro σ101 hj101 hrg101 hI101 hC101 hX101_0 hX101_1
                  have hM101_ : inR (σ101.1 14039) 160 160 := of_ti (by have z : (160 : Int32).toInt = 160 := (by decide); omega) (by have z : (160 : Int32).toInt = 160 := (by decide); omega)
                  refine R_aload_n (pc := 101) dX9_nextToken_101 rfl rfl ?_
                  refine g_X9_257 (pc := 102) (v := .int (σ101.1 14039)) rfl dX9_nextToken_102 (c_140 _) rfl ?_
                  refine R_aload_n (pc := 105) dX9_nextToken_105 rfl rfl ?_
                  refine g_X9_254 (pc := 106) (v := .int (σ101.1 14037)) rfl dX9_nextToken_106 (c_140 _) rfl ?_
                  refine R_icge (pc := 109) 191 dX9_nextToken_109 (by decide) (fun _ => ?_) (fun h => False.elim (by have q1 := ti_nle h; have q2 := ti_in (show inR (σ101.1 14039) 160 160 from hM101_); have q3 := ti_in (show inR (σ101.1 14037) 0 160 from (iv_14037 hI101)); have z0 : (0 : Int32).toInt = 0 := (by decide);  have z1 : (14037 : Int32).toInt = 14037 := (by decide);  have z2 : (14039 : Int32).toInt = 14039 := (by decide);  have z3 : (160 : Int32).toInt = 160 := (by decide); omega))
                  refine R_aload_n (pc := 191) dX9_nextToken_191 rfl rfl ?_
                  refine R_aload_n (pc := 192) dX9_nextToken_192 rfl rfl ?_
                  refine g_X9_257 (pc := 193) (v := .int (σ101.1 14039)) rfl dX9_nextToken_193 (c_140 _) rfl ?_
                  refine R_aload_n (pc := 196) dX9_nextToken_196 rfl rfl ?_
                  refine g_X9_260 (pc := 197) (v := .int (σ101.1 14040)) rfl dX9_nextToken_197 (c_140 _) rfl ?_
                  refine R_isub (pc := 200) dX9_nextToken_200 ?_
                  refine R_bipush (pc := 201) (v := 9) dX9_nextToken_201 (by decide) ?_
                  refine R_icle (pc := 203) 212 dX9_nextToken_203 (by decide) (fun b203_166 => ?_) (fun b203_166 => ?_)
                  · skip
                    refine R_aload_n (pc := 212) dX9_nextToken_212 rfl rfl ?_
                    refine g_X9_271 (pc := 213) (v := .long (σ101.2.1 14041)) rfl dX9_nextToken_213 (c_140 _) rfl ?_
                    refine p_X9_271 (pc := 216) rfl dX9_nextToken_216 (c_140 _) (Nat.le_of_ble_eq_true rfl) rfl rfl (s_140_41 _ _) ?_
                    have hW167 := cor_sj 14041 (σ101.2.1 14041) hC101 rfl
                    refine R_goto (pc := 219) 394 dX9_nextToken_219 (by decide) ?_
                    exact R_vret (pc := 394) dX9_nextToken_394 rfl (Nat.zero_le _) (Nat.zero_le _) ⟨rfl, _, rfl, hI101, hW167, (show Pm (uJ σ101 14041 (σ101.2.1 14041)) from ⟨(show 0 ≤ ((σ101.1 14039) : Int32).toInt from by have q0 := hP.1; have q1 := hP.2; have q2 := hX0_0.1; have q3 := hX0_0.2; have q4 := hX101_0.1; have q5 := hX101_0.2; have q6 := ti_nle b8_78; have q7 := ti_ne b22_156; have q8 := ti_ne b64_160; have q9 := ti_le b203_166; have q10 := ti_in (pm_p hI hP); have q11 := ti_in (iv_14037 hI); have q12 := ti_in hM0_; have q13 := ti_in (iv_14037 hI0); have q14 := ti_in h162; have q15 := ti_in hM101_; have q16 := ti_in (iv_14037 hI101); have z0 : (0 : Int32).toInt = 0 := (by decide); have z1 : (1 : Int32).toInt = 1 := (by decide); have z2 : (122 : Int32).toInt = 122 := (by decide); have z3 : (14037 : Int32).toInt = 14037 := (by decide); have z4 : (14039 : Int32).toInt = 14039 := (by decide); have z5 : (14040 : Int32).toInt = 14040 := (by decide); have z6 : (159 : Int32).toInt = 159 := (by decide); have z7 : (160 : Int32).toInt = 160 := (by decide); have z8 : (170 : Int32).toInt = 170 := (by decide); have z9 : (32 : Int32).toInt = 32 := (by decide); have z10 : (9 : Int32).toInt = 9 := (by decide); have z11 : (97 : Int32).toInt = 97 := (by decide); omega), (show ((σ101.1 14039) : Int32).toInt ≤ ((σ101.1 14037) : Int32).toInt from by have q0 := hP.1; have q1 := hP.2; have q2 := hX0_0.1; have q3 := hX0_0.2; have q4 := hX101_0.1; have q5 := hX101_0.2; have q6 := ti_nle b8_78; have q7 := ti_ne b22_156; have q8 := ti_ne b64_160; have q9 := ti_le b203_166; have q10 := ti_in (pm_p hI hP); have q11 := ti_in (iv_14037 hI); have q12 := ti_in hM0_; have q13 := ti_in (iv_14037 hI0); have q14 := ti_in h162; have q15 := ti_in hM101_; have q16 := ti_in (iv_14037 hI101); have z0 : (0 : Int32).toInt = 0 := (by decide); have z1 : (1 : Int32).toInt = 1 := (by decide); have z2 : (122 : Int32).toInt = 122 := (by decide); have z3 : (14037 : Int32).toInt = 14037 := (by decide); have z4 : (14039 : Int32).toInt = 14039 := (by decide); have z5 : (14040 : Int32).toInt = 14040 := (by decide); have z6 : (159 : Int32).toInt = 159 := (by decide); have z7 : (160 : Int32).toInt = 160 := (by decide); have z8 : (170 : Int32).toInt = 170 := (by decide); have z9 : (32 : Int32).toInt = 32 := (by decide); have z10 : (9 : Int32).toInt = 9 := (by decide); have z11 : (97 : Int32).toInt = 97 := (by decide); omega)⟩), hX101_1⟩
                  · skip
                    refine R_ldc2 (pc := 206) w_1245c dX9_nextToken_206 ?_
                    refine R_goto (pc := 209) 216 dX9_nextToken_209 (by decide) ?_
                    refine p_X9_271 (pc := 216) rfl dX9_nextToken_216 (c_140 _) (Nat.le_of_ble_eq_true rfl) rfl rfl (s_140_41 _ _) ?_
                    have hW168 := cor_sj 14041 (-4) hC101 rfl
                    refine R_goto (pc := 219) 394 dX9_nextToken_219 (by decide) ?_
                    exact R_vret (pc := 394) dX9_nextToken_394 rfl (Nat.zero_le _) (Nat.zero_le _) ⟨rfl, _, rfl, hI101, hW168, (show Pm (uJ σ101 14041 (-4)) from ⟨(show 0 ≤ ((σ101.1 14039) : Int32).toInt from by have q0 := hP.1; have q1 := hP.2; have q2 := hX0_0.1; have q3 := hX0_0.2; have q4 := hX101_0.1; have q5 := hX101_0.2; have q6 := ti_nle b8_78; have q7 := ti_ne b22_156; have q8 := ti_ne b64_160; have q9 := ti_nle b203_166; have q10 := ti_in (pm_p hI hP); have q11 := ti_in (iv_14037 hI); have q12 := ti_in hM0_; have q13 := ti_in (iv_14037 hI0); have q14 := ti_in h162; have q15 := ti_in hM101_; have q16 := ti_in (iv_14037 hI101); have z0 : (0 : Int32).toInt = 0 := (by decide); have z1 : (1 : Int32).toInt = 1 := (by decide); have z2 : (122 : Int32).toInt = 122 := (by decide); have z3 : (14037 : Int32).toInt = 14037 := (by decide); have z4 : (14039 : Int32).toInt = 14039 := (by decide); have z5 : (14040 : Int32).toInt = 14040 := (by decide); have z6 : (159 : Int32).toInt = 159 := (by decide); have z7 : (160 : Int32).toInt = 160 := (by decide); have z8 : (170 : Int32).toInt = 170 := (by decide); have z9 : (32 : Int32).toInt = 32 := (by decide); have z10 : (9 : Int32).toInt = 9 := (by decide); have z11 : (97 : Int32).toInt = 97 := (by decide); omega), (show ((σ101.1 14039) : Int32).toInt ≤ ((σ101.1 14037) : Int32).toInt from by have q0 := hP.1; have q1 := hP.2; have q2 := hX0_0.1; have q3 := hX0_0.2; have q4 := hX101_0.1; have q5 := hX101_0.2; have q6 := ti_nle b8_78; have q7 := ti_ne b22_156; have q8 := ti_ne b64_160; have q9 := ti_nle b203_166; have q10 := ti_in (pm_p hI hP); have q11 := ti_in (iv_14037 hI); have q12 := ti_in hM0_; have q13 := ti_in (iv_14037 hI0); have q14 := ti_in h162; have q15 := ti_in hM101_; have q16 := ti_in (iv_14037 hI101); have z0 : (0 : Int32).toInt = 0 := (by decide); have z1 : (1 : Int32).toInt = 1 := (by decide); have z2 : (122 : Int32).toInt = 122 := (by decide); have z3 : (14037 : Int32).toInt = 14037 := (by decide); have z4 : (14039 : Int32).toInt = 14039 := (by decide); have z5 : (14040 : Int32).toInt = 14040 := (by decide); have z6 : (159 : Int32).toInt = 159 := (by decide); have z7 : (160 : Int32).toInt = 160 := (by decide); have z8 : (170 : Int32).toInt = 170 := (by decide); have z9 : (32 : Int32).toInt = 32 := (by decide); have z10 : (9 : Int32).toInt = 9 := (by decide); have z11 : (97 : Int32).toInt = 97 := (by decide); omega)⟩), hX101_1⟩
                | succ q ih101 =>
                  intro σ101 hj101 hrg101 hI101 hC101 hX101_0 hX101_1
                  have hM101_ : inR (σ101.1 14039) 0 159 := of_ti (ti_in hrg101).1 (by have z : (159 : Int32).toInt = 159 := (by decide); omega)
                  refine R_aload_n (pc := 101) dX9_nextToken_101 rfl rfl ?_
                  refine g_X9_257 (pc := 102) (v := .int (σ101.1 14039)) rfl dX9_nextToken_102 (c_140 _) rfl ?_
                  refine R_aload_n (pc := 105) dX9_nextToken_105 rfl rfl ?_
                  refine g_X9_254 (pc := 106) (v := .int (σ101.1 14037)) rfl dX9_nextToken_106 (c_140 _) rfl ?_
                  refine R_icge (pc := 109) 191 dX9_nextToken_109 (by decide) (fun b109_169 => ?_) (fun b109_169 => ?_)
                  · skip
                    refine R_aload_n (pc := 191) dX9_nextToken_191 rfl rfl ?_
                    refine R_aload_n (pc := 192) dX9_nextToken_192 rfl rfl ?_
                    refine g_X9_257 (pc := 193) (v := .int (σ101.1 14039)) rfl dX9_nextToken_193 (c_140 _) rfl ?_
                    refine R_aload_n (pc := 196) dX9_nextToken_196 rfl rfl ?_
                    refine g_X9_260 (pc := 197) (v := .int (σ101.1 14040)) rfl dX9_nextToken_197 (c_140 _) rfl ?_
                    refine R_isub (pc := 200) dX9_nextToken_200 ?_
                    refine R_bipush (pc := 201) (v := 9) dX9_nextToken_201 (by decide) ?_
                    refine R_icle (pc := 203) 212 dX9_nextToken_203 (by decide) (fun b203_170 => ?_) (fun b203_170 => ?_)
                    · skip
                      refine R_aload_n (pc := 212) dX9_nextToken_212 rfl rfl ?_
                      refine g_X9_271 (pc := 213) (v := .long (σ101.2.1 14041)) rfl dX9_nextToken_213 (c_140 _) rfl ?_
                      refine p_X9_271 (pc := 216) rfl dX9_nextToken_216 (c_140 _) (Nat.le_of_ble_eq_true rfl) rfl rfl (s_140_41 _ _) ?_
                      have hW171 := cor_sj 14041 (σ101.2.1 14041) hC101 rfl
                      refine R_goto (pc := 219) 394 dX9_nextToken_219 (by decide) ?_
                      exact R_vret (pc := 394) dX9_nextToken_394 rfl (Nat.zero_le _) (Nat.zero_le _) ⟨rfl, _, rfl, hI101, hW171, (show Pm (uJ σ101 14041 (σ101.2.1 14041)) from ⟨(show 0 ≤ ((σ101.1 14039) : Int32).toInt from by have q0 := hP.1; have q1 := hP.2; have q2 := hX0_0.1; have q3 := hX0_0.2; have q4 := hX101_0.1; have q5 := hX101_0.2; have q6 := ti_nle b8_78; have q7 := ti_ne b22_156; have q8 := ti_ne b64_160; have q9 := ti_le b109_169; have q10 := ti_le b203_170; have q11 := ti_in (pm_p hI hP); have q12 := ti_in (iv_14037 hI); have q13 := ti_in hM0_; have q14 := ti_in (iv_14037 hI0); have q15 := ti_in h162; have q16 := ti_in hM101_; have q17 := ti_in (iv_14037 hI101); have z0 : (0 : Int32).toInt = 0 := (by decide); have z1 : (1 : Int32).toInt = 1 := (by decide); have z2 : (122 : Int32).toInt = 122 := (by decide); have z3 : (14037 : Int32).toInt = 14037 := (by decide); have z4 : (14039 : Int32).toInt = 14039 := (by decide); have z5 : (14040 : Int32).toInt = 14040 := (by decide); have z6 : (159 : Int32).toInt = 159 := (by decide); have z7 : (160 : Int32).toInt = 160 := (by decide); have z8 : (170 : Int32).toInt = 170 := (by decide); have z9 : (32 : Int32).toInt = 32 := (by decide); have z10 : (9 : Int32).toInt = 9 := (by decide); have z11 : (97 : Int32).toInt = 97 := (by decide); omega), (show ((σ101.1 14039) : Int32).toInt ≤ ((σ101.1 14037) : Int32).toInt from by have q0 := hP.1; have q1 := hP.2; have q2 := hX0_0.1; have q3 := hX0_0.2; have q4 := hX101_0.1; have q5 := hX101_0.2; have q6 := ti_nle b8_78; have q7 := ti_ne b22_156; have q8 := ti_ne b64_160; have q9 := ti_le b109_169; have q10 := ti_le b203_170; have q11 := ti_in (pm_p hI hP); have q12 := ti_in (iv_14037 hI); have q13 := ti_in hM0_; have q14 := ti_in (iv_14037 hI0); have q15 := ti_in h162; have q16 := ti_in hM101_; have q17 := ti_in (iv_14037 hI101); have z0 : (0 : Int32).toInt = 0 := (by decide); have z1 : (1 : Int32).toInt = 1 := (by decide); have z2 : (122 : Int32).toInt = 122 := (by decide); have z3 : (14037 : Int32).toInt = 14037 := (by decide); have z4 : (14039 : Int32).toInt = 14039 := (by decide); have z5 : (14040 : Int32).toInt = 14040 := (by decide); have z6 : (159 : Int32).toInt = 159 := (by decide); have z7 : (160 : Int32).toInt = 160 := (by decide); have z8 : (170 : Int32).toInt = 170 := (by decide); have z9 : (32 : Int32).toInt = 32 := (by decide); have z10 : (9 : Int32).toInt = 9 := (by decide); have z11 : (97 : Int32).toInt = 97 := (by decide); omega)⟩), hX101_1⟩
                    · skip
                      refine R_ldc2 (pc := 206) w_1245c dX9_nextToken_206 ?_
                      refine R_goto (pc := 209) 216 dX9_nextToken_209 (by decide) ?_
                      refine p_X9_271 (pc := 216) rfl dX9_nextToken_216 (c_140 _) (Nat.le_of_ble_eq_true rfl) rfl rfl (s_140_41 _ _) ?_
                      have hW172 := cor_sj 14041 (-4) hC101 rfl
                      refine R_goto (pc := 219) 394 dX9_nextToken_219 (by decide) ?_
                      exact R_vret (pc := 394) dX9_nextToken_394 rfl (Nat.zero_le _) (Nat.zero_le _) ⟨rfl, _, rfl, hI101, hW172, (show Pm (uJ σ101 14041 (-4)) from ⟨(show 0 ≤ ((σ101.1 14039) : Int32).toInt from by have q0 := hP.1; have q1 := hP.2; have q2 := hX0_0.1; have q3 := hX0_0.2; have q4 := hX101_0.1; have q5 := hX101_0.2; have q6 := ti_nle b8_78; have q7 := ti_ne b22_156; have q8 := ti_ne b64_160; have q9 := ti_le b109_169; have q10 := ti_nle b203_170; have q11 := ti_in (pm_p hI hP); have q12 := ti_in (iv_14037 hI); have q13 := ti_in hM0_; have q14 := ti_in (iv_14037 hI0); have q15 := ti_in h162; have q16 := ti_in hM101_; have q17 := ti_in (iv_14037 hI101); have z0 : (0 : Int32).toInt = 0 := (by decide); have z1 : (1 : Int32).toInt = 1 := (by decide); have z2 : (122 : Int32).toInt = 122 := (by decide); have z3 : (14037 : Int32).toInt = 14037 := (by decide); have z4 : (14039 : Int32).toInt = 14039 := (by decide); have z5 : (14040 : Int32).toInt = 14040 := (by decide); have z6 : (159 : Int32).toInt = 159 := (by decide); have z7 : (160 : Int32).toInt = 160 := (by decide); have z8 : (170 : Int32).toInt = 170 := (by decide); have z9 : (32 : Int32).toInt = 32 := (by decide); have z10 : (9 : Int32).toInt = 9 := (by decide); have z11 : (97 : Int32).toInt = 97 := (by decide); omega), (show ((σ101.1 14039) : Int32).toInt ≤ ((σ101.1 14037) : Int32).toInt from by have q0 := hP.1; have q1 := hP.2; have q2 := hX0_0.1; have q3 := hX0_0.2; have q4 := hX101_0.1; have q5 := hX101_0.2; have q6 := ti_nle b8_78; have q7 := ti_ne b22_156; have q8 := ti_ne b64_160; have q9 := ti_le b109_169; have q10 := ti_nle b203_170; have q11 := ti_in (pm_p hI hP); have q12 := ti_in (iv_14037 hI); have q13 := ti_in hM0_; have q14 := ti_in (iv_14037 hI0); have q15 := ti_in h162; have q16 := ti_in hM101_; have q17 := ti_in (iv_14037 hI101); have z0 : (0 : Int32).toInt = 0 := (by decide); have z1 : (1 : Int32).toInt = 1 := (by decide); have z2 : (122 : Int32).toInt = 122 := (by decide); have z3 : (14037 : Int32).toInt = 14037 := (by decide); have z4 : (14039 : Int32).toInt = 14039 := (by decide); have z5 : (14040 : Int32).toInt = 14040 := (by decide); have z6 : (159 : Int32).toInt = 159 := (by decide); have z7 : (160 : Int32).toInt = 160 := (by decide); have z8 : (170 : Int32).toInt = 170 := (by decide); have z9 : (32 : Int32).toInt = 32 := (by decide); have z10 : (9 : Int32).toInt = 9 := (by decide); have z11 : (97 : Int32).toInt = 97 := (by decide); omega)⟩), hX101_1⟩
                  · skip
                    refine R_aload_n (pc := 112) dX9_nextToken_112 rfl rfl ?_
                    refine g_X9_108 (pc := 113) (v := .ref 170) rfl dX9_nextToken_113 (c_140 _) rfl ?_
                    refine R_aload_n (pc := 116) dX9_nextToken_116 rfl rfl ?_
                    refine g_X9_257 (pc := 117) (v := .int (σ101.1 14039)) rfl dX9_nextToken_117 (c_140 _) rfl ?_
                    have hx173 : vp_in (σ101.1 14039) 160 := (vp_of_inR hM101_ (by decide))
                    refine R_iaload (pc := 120) dX9_nextToken_120 (c_170 _) hx173 ?_
                    refine R_bipush (pc := 121) (v := 97) dX9_nextToken_121 (by decide) ?_
                    refine R_bipush (pc := 123) (v := 122) dX9_nextToken_123 (by decide) ?_
                    refine k_X9_124 (pc := 125) (sp_X9_in _ _ _ _) rfl (by decide) (Nat.le_refl _) (Nat.le_refl _) (Nat.le_of_ble_eq_true rfl) dX9_nextToken_125 (fun x w2 h => ?_)
                    rcases h with ⟨rfl, ⟨h174, rfl⟩ | ⟨h174, rfl⟩⟩
                    · skip
                      refine R_ifeq (pc := 128) 191 dX9_nextToken_128 (by decide) (fun h => absurd h (by decide)) (fun _ => ?_)
                      refine R_aload_n (pc := 131) dX9_nextToken_131 rfl rfl ?_
                      refine R_aload_n (pc := 132) dX9_nextToken_132 rfl rfl ?_
                      refine g_X9_257 (pc := 133) (v := .int (σ101.1 14039)) rfl dX9_nextToken_133 (c_140 _) rfl ?_
                      refine R_aload_n (pc := 136) dX9_nextToken_136 rfl rfl ?_
                      refine g_X9_260 (pc := 137) (v := .int (σ101.1 14040)) rfl dX9_nextToken_137 (c_140 _) rfl ?_
                      refine R_isub (pc := 140) dX9_nextToken_140 ?_
                      refine R_bipush (pc := 141) (v := 9) dX9_nextToken_141 (by decide) ?_
                      refine R_icge (pc := 143) 172 dX9_nextToken_143 (by decide) (fun b143_176 => ?_) (fun b143_176 => ?_)
                      · skip
                        refine R_ldc2 (pc := 172) w_1245c dX9_nextToken_172 ?_
                        refine p_X9_271 (pc := 175) rfl dX9_nextToken_175 (c_140 _) (Nat.le_of_ble_eq_true rfl) rfl rfl (s_140_41 _ _) ?_
                        have hW177 := cor_sj 14041 (-4) hC101 rfl
                        refine R_aload_n (pc := 178) dX9_nextToken_178 rfl rfl ?_
                        refine R_dup (pc := 179) dX9_nextToken_179 rfl ?_
                        refine g_X9_257 (pc := 180) (v := .int (σ101.1 14039)) rfl dX9_nextToken_180 (c_140 _) rfl ?_
                        refine R_iconst (pc := 183) (v := 1) dX9_nextToken_183 (by decide) ?_
                        refine R_iadd (pc := 184) dX9_nextToken_184 ?_
                        have r178 : inR ((σ101.1 14039) + 1) 1 160 := inR_add (show inR (σ101.1 14039) 0 159 from hM101_) (show inR 1 1 1 from (inR_self _)) (by decide) (by decide)
                        have e179 := ti_add (l := 1) (h := 160) (show inR (σ101.1 14039) 0 159 from hM101_) (show inR 1 1 1 from (inR_self _)) (by decide) (by decide)
                        refine p_X9_257 (pc := 185) rfl dX9_nextToken_185 (c_140 _) (Nat.le_of_ble_eq_true rfl) rfl rfl (s_140_39 _ _) ?_
                        have hW180 := cor_si 14039 ((σ101.1 14039) + 1) hW177 rfl
                        refine R_goto (pc := 188) 101 dX9_nextToken_188 (by decide) ?_
                        exact ih101 _ (show (((σ101.1 14039) + 1) : Int32).toInt + (q : Int) = 160 from by have q0 := hP.1; have q1 := hP.2; have q2 := hX0_0.1; have q3 := hX0_0.2; have q4 := hX101_0.1; have q5 := hX101_0.2; have q6 := e179; have q7 := ti_nle b8_78; have q8 := ti_ne b22_156; have q9 := ti_ne b64_160; have q10 := ti_nle b109_169; have q11 := ti_le b143_176; have q12 := ti_in (pm_p hI hP); have q13 := ti_in (iv_14037 hI); have q14 := ti_in hM0_; have q15 := ti_in (iv_14037 hI0); have q16 := ti_in h162; have q17 := ti_in hM101_; have q18 := ti_in (iv_14037 hI101); have q19 := ti_in h174; have q20 := ti_in r178; have q21 := hj101; have z0 : (0 : Int32).toInt = 0 := (by decide); have z1 : (1 : Int32).toInt = 1 := (by decide); have z2 : (122 : Int32).toInt = 122 := (by decide); have z3 : (14037 : Int32).toInt = 14037 := (by decide); have z4 : (14039 : Int32).toInt = 14039 := (by decide); have z5 : (14040 : Int32).toInt = 14040 := (by decide); have z6 : (159 : Int32).toInt = 159 := (by decide); have z7 : (160 : Int32).toInt = 160 := (by decide); have z8 : (170 : Int32).toInt = 170 := (by decide); have z9 : (32 : Int32).toInt = 32 := (by decide); have z10 : (9 : Int32).toInt = 9 := (by decide); have z11 : (97 : Int32).toInt = 97 := (by decide); omega) (inR_up r178 (by decide) (by decide)) hI101 hW180 (show Pm (uI (uJ σ101 14041 (-4)) 14039 ((σ101.1 14039) + 1)) from ⟨(show 0 ≤ (((σ101.1 14039) + 1) : Int32).toInt from by have q0 := hP.1; have q1 := hP.2; have q2 := hX0_0.1; have q3 := hX0_0.2; have q4 := hX101_0.1; have q5 := hX101_0.2; have q6 := e179; have q7 := ti_nle b8_78; have q8 := ti_ne b22_156; have q9 := ti_ne b64_160; have q10 := ti_nle b109_169; have q11 := ti_le b143_176; have q12 := ti_in (pm_p hI hP); have q13 := ti_in (iv_14037 hI); have q14 := ti_in hM0_; have q15 := ti_in (iv_14037 hI0); have q16 := ti_in h162; have q17 := ti_in hM101_; have q18 := ti_in (iv_14037 hI101); have q19 := ti_in h174; have q20 := ti_in r178; have z0 : (0 : Int32).toInt = 0 := (by decide); have z1 : (1 : Int32).toInt = 1 := (by decide); have z2 : (122 : Int32).toInt = 122 := (by decide); have z3 : (14037 : Int32).toInt = 14037 := (by decide); have z4 : (14039 : Int32).toInt = 14039 := (by decide); have z5 : (14040 : Int32).toInt = 14040 := (by decide); have z6 : (159 : Int32).toInt = 159 := (by decide); have z7 : (160 : Int32).toInt = 160 := (by decide); have z8 : (170 : Int32).toInt = 170 := (by decide); have z9 : (32 : Int32).toInt = 32 := (by decide); have z10 : (9 : Int32).toInt = 9 := (by decide); have z11 : (97 : Int32).toInt = 97 := (by decide); omega), (show (((σ101.1 14039) + 1) : Int32).toInt ≤ ((σ101.1 14037) : Int32).toInt from by have q0 := hP.1; have q1 := hP.2; have q2 := hX0_0.1; have q3 := hX0_0.2; have q4 := hX101_0.1; have q5 := hX101_0.2; have q6 := e179; have q7 := ti_nle b8_78; have q8 := ti_ne b22_156; have q9 := ti_ne b64_160; have q10 := ti_nle b109_169; have q11 := ti_le b143_176; have q12 := ti_in (pm_p hI hP); have q13 := ti_in (iv_14037 hI); have q14 := ti_in hM0_; have q15 := ti_in (iv_14037 hI0); have q16 := ti_in h162; have q17 := ti_in hM101_; have q18 := ti_in (iv_14037 hI101); have q19 := ti_in h174; have q20 := ti_in r178; have z0 : (0 : Int32).toInt = 0 := (by decide); have z1 : (1 : Int32).toInt = 1 := (by decide); have z2 : (122 : Int32).toInt = 122 := (by decide); have z3 : (14037 : Int32).toInt = 14037 := (by decide); have z4 : (14039 : Int32).toInt = 14039 := (by decide); have z5 : (14040 : Int32).toInt = 14040 := (by decide); have z6 : (159 : Int32).toInt = 159 := (by decide); have z7 : (160 : Int32).toInt = 160 := (by decide); have z8 : (170 : Int32).toInt = 170 := (by decide); have z9 : (32 : Int32).toInt = 32 := (by decide); have z10 : (9 : Int32).toInt = 9 := (by decide); have z11 : (97 : Int32).toInt = 97 := (by decide); omega)⟩) hX101_1
                      · skip
                        refine R_ldc2 (pc := 146) w_1243c dX9_nextToken_146 ?_
                        refine R_aload_n (pc := 149) dX9_nextToken_149 rfl rfl ?_
                        refine g_X9_271 (pc := 150) (v := .long (σ101.2.1 14041)) rfl dX9_nextToken_150 (c_140 _) rfl ?_
                        refine R_lmul (pc := 153) dX9_nextToken_153 ?_
                        refine R_aload_n (pc := 154) dX9_nextToken_154 rfl rfl ?_
                        refine g_X9_108 (pc := 155) (v := .ref 170) rfl dX9_nextToken_155 (c_140 _) rfl ?_
                        refine R_aload_n (pc := 158) dX9_nextToken_158 rfl rfl ?_
                        refine g_X9_257 (pc := 159) (v := .int (σ101.1 14039)) rfl dX9_nextToken_159 (c_140 _) rfl ?_
                        have hx181 : vp_in (σ101.1 14039) 160 := (vp_of_inR hM101_ (by decide))
                        refine R_iaload (pc := 162) dX9_nextToken_162 (c_170 _) hx181 ?_
                        refine R_i2l (pc := 163) dX9_nextToken_163 ?_
                        refine R_ladd (pc := 164) dX9_nextToken_164 ?_
                        refine R_ldc2 (pc := 165) w_1244c dX9_nextToken_165 ?_
                        refine R_lsub (pc := 168) dX9_nextToken_168 ?_
                        refine R_goto (pc := 169) 175 dX9_nextToken_169 (by decide) ?_
                        refine p_X9_271 (pc := 175) rfl dX9_nextToken_175 (c_140 _) (Nat.le_of_ble_eq_true rfl) rfl rfl (s_140_41 _ _) ?_
                        have hW182 := cor_sj 14041 (((27 * (σ101.2.1 14041)) + (Int32.toInt64 (σ101.2.2.1 170 (Int32.toNatClampNeg (σ101.1 14039))))) - 96) hC101 rfl
                        refine R_aload_n (pc := 178) dX9_nextToken_178 rfl rfl ?_
                        refine R_dup (pc := 179) dX9_nextToken_179 rfl ?_
                        refine g_X9_257 (pc := 180) (v := .int (σ101.1 14039)) rfl dX9_nextToken_180 (c_140 _) rfl ?_
                        refine R_iconst (pc := 183) (v := 1) dX9_nextToken_183 (by decide) ?_
                        refine R_iadd (pc := 184) dX9_nextToken_184 ?_
                        have r183 : inR ((σ101.1 14039) + 1) 1 160 := inR_add (show inR (σ101.1 14039) 0 159 from hM101_) (show inR 1 1 1 from (inR_self _)) (by decide) (by decide)
                        have e184 := ti_add (l := 1) (h := 160) (show inR (σ101.1 14039) 0 159 from hM101_) (show inR 1 1 1 from (inR_self _)) (by decide) (by decide)
                        refine p_X9_257 (pc := 185) rfl dX9_nextToken_185 (c_140 _) (Nat.le_of_ble_eq_true rfl) rfl rfl (s_140_39 _ _) ?_
                        have hW185 := cor_si 14039 ((σ101.1 14039) + 1) hW182 rfl
                        refine R_goto (pc := 188) 101 dX9_nextToken_188 (by decide) ?_
                        exact ih101 _ (show (((σ101.1 14039) + 1) : Int32).toInt + (q : Int) = 160 from by have q0 := hP.1; have q1 := hP.2; have q2 := hX0_0.1; have q3 := hX0_0.2; have q4 := hX101_0.1; have q5 := hX101_0.2; have q6 := e184; have q7 := ti_nle b8_78; have q8 := ti_ne b22_156; have q9 := ti_ne b64_160; have q10 := ti_nle b109_169; have q11 := ti_nle b143_176; have q12 := ti_in (pm_p hI hP); have q13 := ti_in (iv_14037 hI); have q14 := ti_in hM0_; have q15 := ti_in (iv_14037 hI0); have q16 := ti_in h162; have q17 := ti_in hM101_; have q18 := ti_in (iv_14037 hI101); have q19 := ti_in h174; have q20 := ti_in r183; have q21 := hj101; have z0 : (0 : Int32).toInt = 0 := (by decide); have z1 : (1 : Int32).toInt = 1 := (by decide); have z2 : (122 : Int32).toInt = 122 := (by decide); have z3 : (14037 : Int32).toInt = 14037 := (by decide); have z4 : (14039 : Int32).toInt = 14039 := (by decide); have z5 : (14040 : Int32).toInt = 14040 := (by decide); have z6 : (159 : Int32).toInt = 159 := (by decide); have z7 : (160 : Int32).toInt = 160 := (by decide); have z8 : (170 : Int32).toInt = 170 := (by decide); have z9 : (32 : Int32).toInt = 32 := (by decide); have z10 : (9 : Int32).toInt = 9 := (by decide); have z11 : (97 : Int32).toInt = 97 := (by decide); omega) (inR_up r183 (by decide) (by decide)) hI101 hW185 (show Pm (uI (uJ σ101 14041 (((27 * (σ101.2.1 14041)) + (Int32.toInt64 (σ101.2.2.1 170 (Int32.toNatClampNeg (σ101.1 14039))))) - 96)) 14039 ((σ101.1 14039) + 1)) from ⟨(show 0 ≤ (((σ101.1 14039) + 1) : Int32).toInt from by have q0 := hP.1; have q1 := hP.2; have q2 := hX0_0.1; have q3 := hX0_0.2; have q4 := hX101_0.1; have q5 := hX101_0.2; have q6 := e184; have q7 := ti_nle b8_78; have q8 := ti_ne b22_156; have q9 := ti_ne b64_160; have q10 := ti_nle b109_169; have q11 := ti_nle b143_176; have q12 := ti_in (pm_p hI hP); have q13 := ti_in (iv_14037 hI); have q14 := ti_in hM0_; have q15 := ti_in (iv_14037 hI0); have q16 := ti_in h162; have q17 := ti_in hM101_; have q18 := ti_in (iv_14037 hI101); have q19 := ti_in h174; have q20 := ti_in r183; have z0 : (0 : Int32).toInt = 0 := (by decide); have z1 : (1 : Int32).toInt = 1 := (by decide); have z2 : (122 : Int32).toInt = 122 := (by decide); have z3 : (14037 : Int32).toInt = 14037 := (by decide); have z4 : (14039 : Int32).toInt = 14039 := (by decide); have z5 : (14040 : Int32).toInt = 14040 := (by decide); have z6 : (159 : Int32).toInt = 159 := (by decide); have z7 : (160 : Int32).toInt = 160 := (by decide); have z8 : (170 : Int32).toInt = 170 := (by decide); have z9 : (32 : Int32).toInt = 32 := (by decide); have z10 : (9 : Int32).toInt = 9 := (by decide); have z11 : (97 : Int32).toInt = 97 := (by decide); omega), (show (((σ101.1 14039) + 1) : Int32).toInt ≤ ((σ101.1 14037) : Int32).toInt from by have q0 := hP.1; have q1 := hP.2; have q2 := hX0_0.1; have q3 := hX0_0.2; have q4 := hX101_0.1; have q5 := hX101_0.2; have q6 := e184; have q7 := ti_nle b8_78; have q8 := ti_ne b22_156; have q9 := ti_ne b64_160; have q10 := ti_nle b109_169; have q11 := ti_nle b143_176; have q12 := ti_in (pm_p hI hP); have q13 := ti_in (iv_14037 hI); have q14 := ti_in hM0_; have q15 := ti_in (iv_14037 hI0); have q16 := ti_in h162; have q17 := ti_in hM101_; have q18 := ti_in (iv_14037 hI101); have q19 := ti_in h174; have q20 := ti_in r183; have z0 : (0 : Int32).toInt = 0 := (by decide); have z1 : (1 : Int32).toInt = 1 := (by decide); have z2 : (122 : Int32).toInt = 122 := (by decide); have z3 : (14037 : Int32).toInt = 14037 := (by decide); have z4 : (14039 : Int32).toInt = 14039 := (by decide); have z5 : (14040 : Int32).toInt = 14040 := (by decide); have z6 : (159 : Int32).toInt = 159 := (by decide); have z7 : (160 : Int32).toInt = 160 := (by decide); have z8 : (170 : Int32).toInt = 170 := (by decide); have z9 : (32 : Int32).toInt = 32 := (by decide); have z10 : (9 : Int32).toInt = 9 := (by decide); have z11 : (97 : Int32).toInt = 97 := (by decide); omega)⟩) hX101_1
                    · skip
                      refine R_ifeq (pc := 128) 191 dX9_nextToken_128 (by decide) (fun _ => ?_) (fun h => absurd (by decide) h)
                      refine R_aload_n (pc := 191) dX9_nextToken_191 rfl rfl ?_
                      refine R_aload_n (pc := 192) dX9_nextToken_192 rfl rfl ?_
                      refine g_X9_257 (pc := 193) (v := .int (σ101.1 14039)) rfl dX9_nextToken_193 (c_140 _) rfl ?_
                      refine R_aload_n (pc := 196) dX9_nextToken_196 rfl rfl ?_
                      refine g_X9_260 (pc := 197) (v := .int (σ101.1 14040)) rfl dX9_nextToken_197 (c_140 _) rfl ?_
                      refine R_isub (pc := 200) dX9_nextToken_200 ?_
                      refine R_bipush (pc := 201) (v := 9) dX9_nextToken_201 (by decide) ?_
                      refine R_icle (pc := 203) 212 dX9_nextToken_203 (by decide) (fun b203_187 => ?_) (fun b203_187 => ?_)
                      · skip
                        refine R_aload_n (pc := 212) dX9_nextToken_212 rfl rfl ?_
                        refine g_X9_271 (pc := 213) (v := .long (σ101.2.1 14041)) rfl dX9_nextToken_213 (c_140 _) rfl ?_
                        refine p_X9_271 (pc := 216) rfl dX9_nextToken_216 (c_140 _) (Nat.le_of_ble_eq_true rfl) rfl rfl (s_140_41 _ _) ?_
                        have hW188 := cor_sj 14041 (σ101.2.1 14041) hC101 rfl
                        refine R_goto (pc := 219) 394 dX9_nextToken_219 (by decide) ?_
                        exact R_vret (pc := 394) dX9_nextToken_394 rfl (Nat.zero_le _) (Nat.zero_le _) ⟨rfl, _, rfl, hI101, hW188, (show Pm (uJ σ101 14041 (σ101.2.1 14041)) from ⟨(show 0 ≤ ((σ101.1 14039) : Int32).toInt from by have q0 := hP.1; have q1 := hP.2; have q2 := hX0_0.1; have q3 := hX0_0.2; have q4 := hX101_0.1; have q5 := hX101_0.2; have q6 := ti_nle b8_78; have q7 := ti_ne b22_156; have q8 := ti_ne b64_160; have q9 := ti_nle b109_169; have q10 := ti_le b203_187; have q11 := ti_in (pm_p hI hP); have q12 := ti_in (iv_14037 hI); have q13 := ti_in hM0_; have q14 := ti_in (iv_14037 hI0); have q15 := ti_in h162; have q16 := ti_in hM101_; have q17 := ti_in (iv_14037 hI101); have z0 : (0 : Int32).toInt = 0 := (by decide); have z1 : (1 : Int32).toInt = 1 := (by decide); have z2 : (122 : Int32).toInt = 122 := (by decide); have z3 : (14037 : Int32).toInt = 14037 := (by decide); have z4 : (14039 : Int32).toInt = 14039 := (by decide); have z5 : (14040 : Int32).toInt = 14040 := (by decide); have z6 : (159 : Int32).toInt = 159 := (by decide); have z7 : (160 : Int32).toInt = 160 := (by decide); have z8 : (170 : Int32).toInt = 170 := (by decide); have z9 : (32 : Int32).toInt = 32 := (by decide); have z10 : (9 : Int32).toInt = 9 := (by decide); have z11 : (97 : Int32).toInt = 97 := (by decide); omega), (show ((σ101.1 14039) : Int32).toInt ≤ ((σ101.1 14037) : Int32).toInt from by have q0 := hP.1; have q1 := hP.2; have q2 := hX0_0.1; have q3 := hX0_0.2; have q4 := hX101_0.1; have q5 := hX101_0.2; have q6 := ti_nle b8_78; have q7 := ti_ne b22_156; have q8 := ti_ne b64_160; have q9 := ti_nle b109_169; have q10 := ti_le b203_187; have q11 := ti_in (pm_p hI hP); have q12 := ti_in (iv_14037 hI); have q13 := ti_in hM0_; have q14 := ti_in (iv_14037 hI0); have q15 := ti_in h162; have q16 := ti_in hM101_; have q17 := ti_in (iv_14037 hI101); have z0 : (0 : Int32).toInt = 0 := (by decide); have z1 : (1 : Int32).toInt = 1 := (by decide); have z2 : (122 : Int32).toInt = 122 := (by decide); have z3 : (14037 : Int32).toInt = 14037 := (by decide); have z4 : (14039 : Int32).toInt = 14039 := (by decide); have z5 : (14040 : Int32).toInt = 14040 := (by decide); have z6 : (159 : Int32).toInt = 159 := (by decide); have z7 : (160 : Int32).toInt = 160 := (by decide); have z8 : (170 : Int32).toInt = 170 := (by decide); have z9 : (32 : Int32).toInt = 32 := (by decide); have z10 : (9 : Int32).toInt = 9 := (by decide); have z11 : (97 : Int32).toInt = 97 := (by decide); omega)⟩), hX101_1⟩
                      · skip
                        refine R_ldc2 (pc := 206) w_1245c dX9_nextToken_206 ?_
                        refine R_goto (pc := 209) 216 dX9_nextToken_209 (by decide) ?_
                        refine p_X9_271 (pc := 216) rfl dX9_nextToken_216 (c_140 _) (Nat.le_of_ble_eq_true rfl) rfl rfl (s_140_41 _ _) ?_
                        have hW189 := cor_sj 14041 (-4) hC101 rfl
                        refine R_goto (pc := 219) 394 dX9_nextToken_219 (by decide) ?_
                        exact R_vret (pc := 394) dX9_nextToken_394 rfl (Nat.zero_le _) (Nat.zero_le _) ⟨rfl, _, rfl, hI101, hW189, (show Pm (uJ σ101 14041 (-4)) from ⟨(show 0 ≤ ((σ101.1 14039) : Int32).toInt from by have q0 := hP.1; have q1 := hP.2; have q2 := hX0_0.1; have q3 := hX0_0.2; have q4 := hX101_0.1; have q5 := hX101_0.2; have q6 := ti_nle b8_78; have q7 := ti_ne b22_156; have q8 := ti_ne b64_160; have q9 := ti_nle b109_169; have q10 := ti_nle b203_187; have q11 := ti_in (pm_p hI hP); have q12 := ti_in (iv_14037 hI); have q13 := ti_in hM0_; have q14 := ti_in (iv_14037 hI0); have q15 := ti_in h162; have q16 := ti_in hM101_; have q17 := ti_in (iv_14037 hI101); have z0 : (0 : Int32).toInt = 0 := (by decide); have z1 : (1 : Int32).toInt = 1 := (by decide); have z2 : (122 : Int32).toInt = 122 := (by decide); have z3 : (14037 : Int32).toInt = 14037 := (by decide); have z4 : (14039 : Int32).toInt = 14039 := (by decide); have z5 : (14040 : Int32).toInt = 14040 := (by decide); have z6 : (159 : Int32).toInt = 159 := (by decide); have z7 : (160 : Int32).toInt = 160 := (by decide); have z8 : (170 : Int32).toInt = 170 := (by decide); have z9 : (32 : Int32).toInt = 32 := (by decide); have z10 : (9 : Int32).toInt = 9 := (by decide); have z11 : (97 : Int32).toInt = 97 := (by decide); omega), (show ((σ101.1 14039) : Int32).toInt ≤ ((σ101.1 14037) : Int32).toInt from by have q0 := hP.1; have q1 := hP.2; have q2 := hX0_0.1; have q3 := hX0_0.2; have q4 := hX101_0.1; have q5 := hX101_0.2; have q6 := ti_nle b8_78; have q7 := ti_ne b22_156; have q8 := ti_ne b64_160; have q9 := ti_nle b109_169; have q10 := ti_nle b203_187; have q11 := ti_in (pm_p hI hP); have q12 := ti_in (iv_14037 hI); have q13 := ti_in hM0_; have q14 := ti_in (iv_14037 hI0); have q15 := ti_in h162; have q16 := ti_in hM101_; have q17 := ti_in (iv_14037 hI101); have z0 : (0 : Int32).toInt = 0 := (by decide); have z1 : (1 : Int32).toInt = 1 := (by decide); have z2 : (122 : Int32).toInt = 122 := (by decide); have z3 : (14037 : Int32).toInt = 14037 := (by decide); have z4 : (14039 : Int32).toInt = 14039 := (by decide); have z5 : (14040 : Int32).toInt = 14040 := (by decide); have z6 : (159 : Int32).toInt = 159 := (by decide); have z7 : (160 : Int32).toInt = 160 := (by decide); have z8 : (170 : Int32).toInt = 170 := (by decide); have z9 : (32 : Int32).toInt = 32 := (by decide); have z10 : (9 : Int32).toInt = 9 := (by decide); have z11 : (97 : Int32).toInt = 97 := (by decide); omega)⟩), hX101_1⟩
              exact HL101 ((160 : Int) - ((σ0.1 14039) : Int32).toInt).toNat _ (show ((σ0.1 14039) : Int32).toInt + ((((160 : Int) - ((σ0.1 14039) : Int32).toInt).toNat : Nat) : Int) = 160 from by have q0 := hP.1; have q1 := hP.2; have q2 := hX0_0.1; have q3 := hX0_0.2; have q4 := ti_nle b8_78; have q5 := ti_ne b22_156; have q6 := ti_ne b64_160; have q7 := ti_in (pm_p hI hP); have q8 := ti_in (iv_14037 hI); have q9 := ti_in hM0_; have q10 := ti_in (iv_14037 hI0); have q11 := ti_in h162; have z0 : (0 : Int32).toInt = 0 := (by decide); have z1 : (1 : Int32).toInt = 1 := (by decide); have z2 : (122 : Int32).toInt = 122 := (by decide); have z3 : (14037 : Int32).toInt = 14037 := (by decide); have z4 : (14039 : Int32).toInt = 14039 := (by decide); have z5 : (159 : Int32).toInt = 159 := (by decide); have z6 : (160 : Int32).toInt = 160 := (by decide); have z7 : (170 : Int32).toInt = 170 := (by decide); have z8 : (32 : Int32).toInt = 32 := (by decide); have z9 : (97 : Int32).toInt = 97 := (by decide); omega) (inR_up hM0_ (by decide) (by decide)) hI0 hW164 (show Pm (uJ (uI (uI (uI σ0 14040 (σ0.1 14039)) 14042 0) 14043 0) 14041 0) from ⟨(show 0 ≤ ((σ0.1 14039) : Int32).toInt from by have q0 := hP.1; have q1 := hP.2; have q2 := hX0_0.1; have q3 := hX0_0.2; have q4 := ti_nle b8_78; have q5 := ti_ne b22_156; have q6 := ti_ne b64_160; have q7 := ti_in (pm_p hI hP); have q8 := ti_in (iv_14037 hI); have q9 := ti_in hM0_; have q10 := ti_in (iv_14037 hI0); have q11 := ti_in h162; have z0 : (0 : Int32).toInt = 0 := (by decide); have z1 : (1 : Int32).toInt = 1 := (by decide); have z2 : (122 : Int32).toInt = 122 := (by decide); have z3 : (14037 : Int32).toInt = 14037 := (by decide); have z4 : (14039 : Int32).toInt = 14039 := (by decide); have z5 : (159 : Int32).toInt = 159 := (by decide); have z6 : (160 : Int32).toInt = 160 := (by decide); have z7 : (170 : Int32).toInt = 170 := (by decide); have z8 : (32 : Int32).toInt = 32 := (by decide); have z9 : (97 : Int32).toInt = 97 := (by decide); omega), (show ((σ0.1 14039) : Int32).toInt ≤ ((σ0.1 14037) : Int32).toInt from by have q0 := hP.1; have q1 := hP.2; have q2 := hX0_0.1; have q3 := hX0_0.2; have q4 := ti_nle b8_78; have q5 := ti_ne b22_156; have q6 := ti_ne b64_160; have q7 := ti_in (pm_p hI hP); have q8 := ti_in (iv_14037 hI); have q9 := ti_in hM0_; have q10 := ti_in (iv_14037 hI0); have q11 := ti_in h162; have z0 : (0 : Int32).toInt = 0 := (by decide); have z1 : (1 : Int32).toInt = 1 := (by decide); have z2 : (122 : Int32).toInt = 122 := (by decide); have z3 : (14037 : Int32).toInt = 14037 := (by decide); have z4 : (14039 : Int32).toInt = 14039 := (by decide); have z5 : (159 : Int32).toInt = 159 := (by decide); have z6 : (160 : Int32).toInt = 160 := (by decide); have z7 : (170 : Int32).toInt = 170 := (by decide); have z8 : (32 : Int32).toInt = 32 := (by decide); have z9 : (97 : Int32).toInt = 97 := (by decide); omega)⟩) hX0_1
            · skip
              refine R_ifeq (pc := 93) 222 dX9_nextToken_93 (by decide) (fun _ => ?_) (fun h => absurd (by decide) h)
              refine R_aload_n (pc := 222) dX9_nextToken_222 rfl rfl ?_
              refine g_X9_108 (pc := 223) (v := .ref 170) rfl dX9_nextToken_223 (c_140 _) rfl ?_
              refine R_aload_n (pc := 226) dX9_nextToken_226 rfl rfl ?_
              refine g_X9_257 (pc := 227) (v := .int (σ0.1 14039)) rfl dX9_nextToken_227 (c_140 _) rfl ?_
              have hx191 : vp_in (σ0.1 14039) 160 := (vp_of_inR hM0_ (by decide))
              refine W_iaload (pc := 230) (σ0.2.2.1 170 (Int32.toNatClampNeg (σ0.1 14039))) dX9_nextToken_230 (c_170 _) hx191 rfl ?_
              refine R_bipush (pc := 231) (v := 48) dX9_nextToken_231 (by decide) ?_
              refine R_bipush (pc := 233) (v := 57) dX9_nextToken_233 (by decide) ?_
              refine k_X9_124 (pc := 235) (sp_X9_in _ _ _ _) rfl (by decide) (Nat.le_refl _) (Nat.le_refl _) (Nat.le_of_ble_eq_true rfl) dX9_nextToken_235 (fun x w2 h => ?_)
              rcases h with ⟨rfl, ⟨h192, rfl⟩ | ⟨h192, rfl⟩⟩
              · skip
                refine R_ifeq (pc := 238) 357 dX9_nextToken_238 (by decide) (fun h => absurd h (by decide)) (fun _ => ?_)
                have HL241 : ∀ (q : Nat) (σ241 : Sg), (σ241.1 14039).toInt + (q : Int) = 160 → inR (σ241.1 14039) 0 160 → Inv σ241 → Cor σ σ241 → Pm σ241 → σ241.1 14045 = σ.1 14045 → R G l yX9_nextToken cX9_nextToken 1 none 1 0 0 (QV (fun w2 => ∃ σ2, w2 = WW σ2 ∧ Inv σ2 ∧ Cor σ σ2 ∧ Pm σ2 ∧ σ2.1 14045 = σ.1 14045)) 241 [(some (.ref 140))] [] (WW σ241) 0 0 := by
                  intro q
                  induction q with
                  | zero =>
                    intro σ241 hj241 hrg241 hI241 hC241 hX241_0 hX241_1
                    have hM241_ : inR (σ241.1 14039) 160 160 := of_ti (by have z : (160 : Int32).toInt = 160 := (by decide); omega) (by have z : (160 : Int32).toInt = 160 := (by decide); omega)
                    refine R_aload_n (pc := 241) dX9_nextToken_241 rfl rfl ?_
                    refine g_X9_257 (pc := 242) (v := .int (σ241.1 14039)) rfl dX9_nextToken_242 (c_140 _) rfl ?_
                    refine R_aload_n (pc := 245) dX9_nextToken_245 rfl rfl ?_
                    refine g_X9_254 (pc := 246) (v := .int (σ241.1 14037)) rfl dX9_nextToken_246 (c_140 _) rfl ?_
                    refine R_icge (pc := 249) 333 dX9_nextToken_249 (by decide) (fun _ => ?_) (fun h => False.elim (by have q1 := ti_nle h; have q2 := ti_in (show inR (σ241.1 14039) 160 160 from hM241_); have q3 := ti_in (show inR (σ241.1 14037) 0 160 from (iv_14037 hI241)); have z0 : (0 : Int32).toInt = 0 := (by decide);  have z1 : (14037 : Int32).toInt = 14037 := (by decide);  have z2 : (14039 : Int32).toInt = 14039 := (by decide);  have z3 : (160 : Int32).toInt = 160 := (by decide); omega))
                    refine R_aload_n (pc := 333) dX9_nextToken_333 rfl rfl ?_
                    refine R_aload_n (pc := 334) dX9_nextToken_334 rfl rfl ?_
                    refine g_X9_263 (pc := 335) (v := .int (σ241.1 14042)) rfl dX9_nextToken_335 (c_140 _) rfl ?_
                    refine R_iconst (pc := 338) (v := 5) dX9_nextToken_338 (by decide) ?_
                    refine R_icle (pc := 339) 348 dX9_nextToken_339 (by decide) (fun b339_195 => ?_) (fun b339_195 => ?_)
                    · skip
                      refine R_ldc2 (pc := 348) w_1212c dX9_nextToken_348 ?_
                      refine p_X9_271 (pc := 351) rfl dX9_nextToken_351 (c_140 _) (Nat.le_of_ble_eq_true rfl) rfl rfl (s_140_41 _ _) ?_
                      have hW196 := cor_sj 14041 (-1) hC241 rfl
                      refine R_goto (pc := 354) 394 dX9_nextToken_354 (by decide) ?_
                      exact R_vret (pc := 394) dX9_nextToken_394 rfl (Nat.zero_le _) (Nat.zero_le _) ⟨rfl, _, rfl, hI241, hW196, (show Pm (uJ σ241 14041 (-1)) from ⟨(show 0 ≤ ((σ241.1 14039) : Int32).toInt from by have q0 := hP.1; have q1 := hP.2; have q2 := hX0_0.1; have q3 := hX0_0.2; have q4 := hX241_0.1; have q5 := hX241_0.2; have q6 := ti_nle b8_78; have q7 := ti_ne b22_156; have q8 := ti_ne b64_160; have q9 := ti_le b339_195; have q10 := ti_in (pm_p hI hP); have q11 := ti_in (iv_14037 hI); have q12 := ti_in hM0_; have q13 := ti_in (iv_14037 hI0); have q14 := ti_in h192; have q15 := ti_in hM241_; have q16 := ti_in (iv_14037 hI241); have z0 : (0 : Int32).toInt = 0 := (by decide); have z1 : (1 : Int32).toInt = 1 := (by decide); have z2 : (14037 : Int32).toInt = 14037 := (by decide); have z3 : (14039 : Int32).toInt = 14039 := (by decide); have z4 : (14042 : Int32).toInt = 14042 := (by decide); have z5 : (159 : Int32).toInt = 159 := (by decide); have z6 : (160 : Int32).toInt = 160 := (by decide); have z7 : (170 : Int32).toInt = 170 := (by decide); have z8 : (32 : Int32).toInt = 32 := (by decide); have z9 : (48 : Int32).toInt = 48 := (by decide); have z10 : (5 : Int32).toInt = 5 := (by decide); have z11 : (57 : Int32).toInt = 57 := (by decide); omega), (show ((σ241.1 14039) : Int32).toInt ≤ ((σ241.1 14037) : Int32).toInt from by have q0 := hP.1; have q1 := hP.2; have q2 := hX0_0.1; have q3 := hX0_0.2; have q4 := hX241_0.1; have q5 := hX241_0.2; have q6 := ti_nle b8_78; have q7 := ti_ne b22_156; have q8 := ti_ne b64_160; have q9 := ti_le b339_195; have q10 := ti_in (pm_p hI hP); have q11 := ti_in (iv_14037 hI); have q12 := ti_in hM0_; have q13 := ti_in (iv_14037 hI0); have q14 := ti_in h192; have q15 := ti_in hM241_; have q16 := ti_in (iv_14037 hI241); have z0 : (0 : Int32).toInt = 0 := (by decide); have z1 : (1 : Int32).toInt = 1 := (by decide); have z2 : (14037 : Int32).toInt = 14037 := (by decide); have z3 : (14039 : Int32).toInt = 14039 := (by decide); have z4 : (14042 : Int32).toInt = 14042 := (by decide); have z5 : (159 : Int32).toInt = 159 := (by decide); have z6 : (160 : Int32).toInt = 160 := (by decide); have z7 : (170 : Int32).toInt = 170 := (by decide); have z8 : (32 : Int32).toInt = 32 := (by decide); have z9 : (48 : Int32).toInt = 48 := (by decide); have z10 : (5 : Int32).toInt = 5 := (by decide); have z11 : (57 : Int32).toInt = 57 := (by decide); omega)⟩), hX241_1⟩
                    · skip
                      refine R_ldc2 (pc := 342) w_1245c dX9_nextToken_342 ?_
                      refine R_goto (pc := 345) 351 dX9_nextToken_345 (by decide) ?_
                      refine p_X9_271 (pc := 351) rfl dX9_nextToken_351 (c_140 _) (Nat.le_of_ble_eq_true rfl) rfl rfl (s_140_41 _ _) ?_
                      have hW197 := cor_sj 14041 (-4) hC241 rfl
                      refine R_goto (pc := 354) 394 dX9_nextToken_354 (by decide) ?_
                      exact R_vret (pc := 394) dX9_nextToken_394 rfl (Nat.zero_le _) (Nat.zero_le _) ⟨rfl, _, rfl, hI241, hW197, (show Pm (uJ σ241 14041 (-4)) from ⟨(show 0 ≤ ((σ241.1 14039) : Int32).toInt from by have q0 := hP.1; have q1 := hP.2; have q2 := hX0_0.1; have q3 := hX0_0.2; have q4 := hX241_0.1; have q5 := hX241_0.2; have q6 := ti_nle b8_78; have q7 := ti_ne b22_156; have q8 := ti_ne b64_160; have q9 := ti_nle b339_195; have q10 := ti_in (pm_p hI hP); have q11 := ti_in (iv_14037 hI); have q12 := ti_in hM0_; have q13 := ti_in (iv_14037 hI0); have q14 := ti_in h192; have q15 := ti_in hM241_; have q16 := ti_in (iv_14037 hI241); have z0 : (0 : Int32).toInt = 0 := (by decide); have z1 : (1 : Int32).toInt = 1 := (by decide); have z2 : (14037 : Int32).toInt = 14037 := (by decide); have z3 : (14039 : Int32).toInt = 14039 := (by decide); have z4 : (14042 : Int32).toInt = 14042 := (by decide); have z5 : (159 : Int32).toInt = 159 := (by decide); have z6 : (160 : Int32).toInt = 160 := (by decide); have z7 : (170 : Int32).toInt = 170 := (by decide); have z8 : (32 : Int32).toInt = 32 := (by decide); have z9 : (48 : Int32).toInt = 48 := (by decide); have z10 : (5 : Int32).toInt = 5 := (by decide); have z11 : (57 : Int32).toInt = 57 := (by decide); omega), (show ((σ241.1 14039) : Int32).toInt ≤ ((σ241.1 14037) : Int32).toInt from by have q0 := hP.1; have q1 := hP.2; have q2 := hX0_0.1; have q3 := hX0_0.2; have q4 := hX241_0.1; have q5 := hX241_0.2; have q6 := ti_nle b8_78; have q7 := ti_ne b22_156; have q8 := ti_ne b64_160; have q9 := ti_nle b339_195; have q10 := ti_in (pm_p hI hP); have q11 := ti_in (iv_14037 hI); have q12 := ti_in hM0_; have q13 := ti_in (iv_14037 hI0); have q14 := ti_in h192; have q15 := ti_in hM241_; have q16 := ti_in (iv_14037 hI241); have z0 : (0 : Int32).toInt = 0 := (by decide); have z1 : (1 : Int32).toInt = 1 := (by decide); have z2 : (14037 : Int32).toInt = 14037 := (by decide); have z3 : (14039 : Int32).toInt = 14039 := (by decide); have z4 : (14042 : Int32).toInt = 14042 := (by decide); have z5 : (159 : Int32).toInt = 159 := (by decide); have z6 : (160 : Int32).toInt = 160 := (by decide); have z7 : (170 : Int32).toInt = 170 := (by decide); have z8 : (32 : Int32).toInt = 32 := (by decide); have z9 : (48 : Int32).toInt = 48 := (by decide); have z10 : (5 : Int32).toInt = 5 := (by decide); have z11 : (57 : Int32).toInt = 57 := (by decide); omega)⟩), hX241_1⟩
                  | succ q ih241 =>
                    intro σ241 hj241 hrg241 hI241 hC241 hX241_0 hX241_1
                    have hM241_ : inR (σ241.1 14039) 0 159 := of_ti (ti_in hrg241).1 (by have z : (159 : Int32).toInt = 159 := (by decide); omega)
                    refine R_aload_n (pc := 241) dX9_nextToken_241 rfl rfl ?_
                    refine g_X9_257 (pc := 242) (v := .int (σ241.1 14039)) rfl dX9_nextToken_242 (c_140 _) rfl ?_
                    refine R_aload_n (pc := 245) dX9_nextToken_245 rfl rfl ?_
                    refine g_X9_254 (pc := 246) (v := .int (σ241.1 14037)) rfl dX9_nextToken_246 (c_140 _) rfl ?_
                    refine R_icge (pc := 249) 333 dX9_nextToken_249 (by decide) (fun b249_198 => ?_) (fun b249_198 => ?_)
                    · skip
                      refine R_aload_n (pc := 333) dX9_nextToken_333 rfl rfl ?_
                      refine R_aload_n (pc := 334) dX9_nextToken_334 rfl rfl ?_
                      refine g_X9_263 (pc := 335) (v := .int (σ241.1 14042)) rfl dX9_nextToken_335 (c_140 _) rfl ?_
                      refine R_iconst (pc := 338) (v := 5) dX9_nextToken_338 (by decide) ?_
                      refine R_icle (pc := 339) 348 dX9_nextToken_339 (by decide) (fun b339_199 => ?_) (fun b339_199 => ?_)
                      · skip
                        refine R_ldc2 (pc := 348) w_1212c dX9_nextToken_348 ?_
                        refine p_X9_271 (pc := 351) rfl dX9_nextToken_351 (c_140 _) (Nat.le_of_ble_eq_true rfl) rfl rfl (s_140_41 _ _) ?_
                        have hW200 := cor_sj 14041 (-1) hC241 rfl
                        refine R_goto (pc := 354) 394 dX9_nextToken_354 (by decide) ?_
                        exact R_vret (pc := 394) dX9_nextToken_394 rfl (Nat.zero_le _) (Nat.zero_le _) ⟨rfl, _, rfl, hI241, hW200, (show Pm (uJ σ241 14041 (-1)) from ⟨(show 0 ≤ ((σ241.1 14039) : Int32).toInt from by have q0 := hP.1; have q1 := hP.2; have q2 := hX0_0.1; have q3 := hX0_0.2; have q4 := hX241_0.1; have q5 := hX241_0.2; have q6 := ti_nle b8_78; have q7 := ti_ne b22_156; have q8 := ti_ne b64_160; have q9 := ti_le b249_198; have q10 := ti_le b339_199; have q11 := ti_in (pm_p hI hP); have q12 := ti_in (iv_14037 hI); have q13 := ti_in hM0_; have q14 := ti_in (iv_14037 hI0); have q15 := ti_in h192; have q16 := ti_in hM241_; have q17 := ti_in (iv_14037 hI241); have z0 : (0 : Int32).toInt = 0 := (by decide); have z1 : (1 : Int32).toInt = 1 := (by decide); have z2 : (14037 : Int32).toInt = 14037 := (by decide); have z3 : (14039 : Int32).toInt = 14039 := (by decide); have z4 : (14042 : Int32).toInt = 14042 := (by decide); have z5 : (159 : Int32).toInt = 159 := (by decide); have z6 : (160 : Int32).toInt = 160 := (by decide); have z7 : (170 : Int32).toInt = 170 := (by decide); have z8 : (32 : Int32).toInt = 32 := (by decide); have z9 : (48 : Int32).toInt = 48 := (by decide); have z10 : (5 : Int32).toInt = 5 := (by decide); have z11 : (57 : Int32).toInt = 57 := (by decide); omega), (show ((σ241.1 14039) : Int32).toInt ≤ ((σ241.1 14037) : Int32).toInt from by have q0 := hP.1; have q1 := hP.2; have q2 := hX0_0.1; have q3 := hX0_0.2; have q4 := hX241_0.1; have q5 := hX241_0.2; have q6 := ti_nle b8_78; have q7 := ti_ne b22_156; have q8 := ti_ne b64_160; have q9 := ti_le b249_198; have q10 := ti_le b339_199; have q11 := ti_in (pm_p hI hP); have q12 := ti_in (iv_14037 hI); have q13 := ti_in hM0_; have q14 := ti_in (iv_14037 hI0); have q15 := ti_in h192; have q16 := ti_in hM241_; have q17 := ti_in (iv_14037 hI241); have z0 : (0 : Int32).toInt = 0 := (by decide); have z1 : (1 : Int32).toInt = 1 := (by decide); have z2 : (14037 : Int32).toInt = 14037 := (by decide); have z3 : (14039 : Int32).toInt = 14039 := (by decide); have z4 : (14042 : Int32).toInt = 14042 := (by decide); have z5 : (159 : Int32).toInt = 159 := (by decide); have z6 : (160 : Int32).toInt = 160 := (by decide); have z7 : (170 : Int32).toInt = 170 := (by decide); have z8 : (32 : Int32).toInt = 32 := (by decide); have z9 : (48 : Int32).toInt = 48 := (by decide); have z10 : (5 : Int32).toInt = 5 := (by decide); have z11 : (57 : Int32).toInt = 57 := (by decide); omega)⟩), hX241_1⟩
                      · skip
                        refine R_ldc2 (pc := 342) w_1245c dX9_nextToken_342 ?_
                        refine R_goto (pc := 345) 351 dX9_nextToken_345 (by decide) ?_
                        refine p_X9_271 (pc := 351) rfl dX9_nextToken_351 (c_140 _) (Nat.le_of_ble_eq_true rfl) rfl rfl (s_140_41 _ _) ?_
                        have hW201 := cor_sj 14041 (-4) hC241 rfl
                        refine R_goto (pc := 354) 394 dX9_nextToken_354 (by decide) ?_
                        exact R_vret (pc := 394) dX9_nextToken_394 rfl (Nat.zero_le _) (Nat.zero_le _) ⟨rfl, _, rfl, hI241, hW201, (show Pm (uJ σ241 14041 (-4)) from ⟨(show 0 ≤ ((σ241.1 14039) : Int32).toInt from by have q0 := hP.1; have q1 := hP.2; have q2 := hX0_0.1; have q3 := hX0_0.2; have q4 := hX241_0.1; have q5 := hX241_0.2; have q6 := ti_nle b8_78; have q7 := ti_ne b22_156; have q8 := ti_ne b64_160; have q9 := ti_le b249_198; have q10 := ti_nle b339_199; have q11 := ti_in (pm_p hI hP); have q12 := ti_in (iv_14037 hI); have q13 := ti_in hM0_; have q14 := ti_in (iv_14037 hI0); have q15 := ti_in h192; have q16 := ti_in hM241_; have q17 := ti_in (iv_14037 hI241); have z0 : (0 : Int32).toInt = 0 := (by decide); have z1 : (1 : Int32).toInt = 1 := (by decide); have z2 : (14037 : Int32).toInt = 14037 := (by decide); have z3 : (14039 : Int32).toInt = 14039 := (by decide); have z4 : (14042 : Int32).toInt = 14042 := (by decide); have z5 : (159 : Int32).toInt = 159 := (by decide); have z6 : (160 : Int32).toInt = 160 := (by decide); have z7 : (170 : Int32).toInt = 170 := (by decide); have z8 : (32 : Int32).toInt = 32 := (by decide); have z9 : (48 : Int32).toInt = 48 := (by decide); have z10 : (5 : Int32).toInt = 5 := (by decide); have z11 : (57 : Int32).toInt = 57 := (by decide); omega), (show ((σ241.1 14039) : Int32).toInt ≤ ((σ241.1 14037) : Int32).toInt from by have q0 := hP.1; have q1 := hP.2; have q2 := hX0_0.1; have q3 := hX0_0.2; have q4 := hX241_0.1; have q5 := hX241_0.2; have q6 := ti_nle b8_78; have q7 := ti_ne b22_156; have q8 := ti_ne b64_160; have q9 := ti_le b249_198; have q10 := ti_nle b339_199; have q11 := ti_in (pm_p hI hP); have q12 := ti_in (iv_14037 hI); have q13 := ti_in hM0_; have q14 := ti_in (iv_14037 hI0); have q15 := ti_in h192; have q16 := ti_in hM241_; have q17 := ti_in (iv_14037 hI241); have z0 : (0 : Int32).toInt = 0 := (by decide); have z1 : (1 : Int32).toInt = 1 := (by decide); have z2 : (14037 : Int32).toInt = 14037 := (by decide); have z3 : (14039 : Int32).toInt = 14039 := (by decide); have z4 : (14042 : Int32).toInt = 14042 := (by decide); have z5 : (159 : Int32).toInt = 159 := (by decide); have z6 : (160 : Int32).toInt = 160 := (by decide); have z7 : (170 : Int32).toInt = 170 := (by decide); have z8 : (32 : Int32).toInt = 32 := (by decide); have z9 : (48 : Int32).toInt = 48 := (by decide); have z10 : (5 : Int32).toInt = 5 := (by decide); have z11 : (57 : Int32).toInt = 57 := (by decide); omega)⟩), hX241_1⟩
                    · skip
                      refine R_aload_n (pc := 252) dX9_nextToken_252 rfl rfl ?_
                      refine g_X9_108 (pc := 253) (v := .ref 170) rfl dX9_nextToken_253 (c_140 _) rfl ?_
                      refine R_aload_n (pc := 256) dX9_nextToken_256 rfl rfl ?_
                      refine g_X9_257 (pc := 257) (v := .int (σ241.1 14039)) rfl dX9_nextToken_257 (c_140 _) rfl ?_
                      have hx202 : vp_in (σ241.1 14039) 160 := (vp_of_inR hM241_ (by decide))
                      refine R_iaload (pc := 260) dX9_nextToken_260 (c_170 _) hx202 ?_
                      refine R_bipush (pc := 261) (v := 48) dX9_nextToken_261 (by decide) ?_
                      refine R_bipush (pc := 263) (v := 57) dX9_nextToken_263 (by decide) ?_
                      refine k_X9_124 (pc := 265) (sp_X9_in _ _ _ _) rfl (by decide) (Nat.le_refl _) (Nat.le_refl _) (Nat.le_of_ble_eq_true rfl) dX9_nextToken_265 (fun x w2 h => ?_)
                      rcases h with ⟨rfl, ⟨h203, rfl⟩ | ⟨h203, rfl⟩⟩
                      · skip
                        refine R_ifeq (pc := 268) 333 dX9_nextToken_268 (by decide) (fun h => absurd h (by decide)) (fun _ => ?_)
                        refine R_aload_n (pc := 271) dX9_nextToken_271 rfl rfl ?_
                        refine R_aload_n (pc := 272) dX9_nextToken_272 rfl rfl ?_
                        refine g_X9_263 (pc := 273) (v := .int (σ241.1 14042)) rfl dX9_nextToken_273 (c_140 _) rfl ?_
                        refine R_iconst (pc := 276) (v := 5) dX9_nextToken_276 (by decide) ?_
                        refine R_icge (pc := 277) 303 dX9_nextToken_277 (by decide) (fun b277_205 => ?_) (fun b277_205 => ?_)
                        · skip
                          refine R_aload_n (pc := 303) dX9_nextToken_303 rfl rfl ?_
                          refine g_X9_266 (pc := 304) (v := .int (σ241.1 14043)) rfl dX9_nextToken_304 (c_140 _) rfl ?_
                          refine p_X9_266 (pc := 307) rfl dX9_nextToken_307 (c_140 _) (Nat.le_of_ble_eq_true rfl) rfl rfl (s_140_43 _ _) ?_
                          have hW206 := cor_si 14043 (σ241.1 14043) hC241 rfl
                          refine R_aload_n (pc := 310) dX9_nextToken_310 rfl rfl ?_
                          refine R_dup (pc := 311) dX9_nextToken_311 rfl ?_
                          refine g_X9_263 (pc := 312) (v := .int (σ241.1 14042)) rfl dX9_nextToken_312 (c_140 _) rfl ?_
                          refine R_iconst (pc := 315) (v := 1) dX9_nextToken_315 (by decide) ?_
                          refine R_iadd (pc := 316) dX9_nextToken_316 ?_
                          refine p_X9_263 (pc := 317) rfl dX9_nextToken_317 (c_140 _) (Nat.le_of_ble_eq_true rfl) rfl rfl (s_140_42 _ _) ?_
                          have hW207 := cor_si 14042 ((σ241.1 14042) + 1) hW206 rfl
                          refine R_aload_n (pc := 320) dX9_nextToken_320 rfl rfl ?_
                          refine R_dup (pc := 321) dX9_nextToken_321 rfl ?_
                          refine g_X9_257 (pc := 322) (v := .int (σ241.1 14039)) rfl dX9_nextToken_322 (c_140 _) rfl ?_
                          refine R_iconst (pc := 325) (v := 1) dX9_nextToken_325 (by decide) ?_
                          refine R_iadd (pc := 326) dX9_nextToken_326 ?_
                          have r208 : inR ((σ241.1 14039) + 1) 1 160 := inR_add (show inR (σ241.1 14039) 0 159 from hM241_) (show inR 1 1 1 from (inR_self _)) (by decide) (by decide)
                          have e209 := ti_add (l := 1) (h := 160) (show inR (σ241.1 14039) 0 159 from hM241_) (show inR 1 1 1 from (inR_self _)) (by decide) (by decide)
                          refine p_X9_257 (pc := 327) rfl dX9_nextToken_327 (c_140 _) (Nat.le_of_ble_eq_true rfl) rfl rfl (s_140_39 _ _) ?_
                          have hW210 := cor_si 14039 ((σ241.1 14039) + 1) hW207 rfl
                          refine R_goto (pc := 330) 241 dX9_nextToken_330 (by decide) ?_
                          exact ih241 _ (show (((σ241.1 14039) + 1) : Int32).toInt + (q : Int) = 160 from by have q0 := hP.1; have q1 := hP.2; have q2 := hX0_0.1; have q3 := hX0_0.2; have q4 := hX241_0.1; have q5 := hX241_0.2; have q6 := e209; have q7 := ti_nle b8_78; have q8 := ti_ne b22_156; have q9 := ti_ne b64_160; have q10 := ti_nle b249_198; have q11 := ti_le b277_205; have q12 := ti_in (pm_p hI hP); have q13 := ti_in (iv_14037 hI); have q14 := ti_in hM0_; have q15 := ti_in (iv_14037 hI0); have q16 := ti_in h192; have q17 := ti_in hM241_; have q18 := ti_in (iv_14037 hI241); have q19 := ti_in h203; have q20 := ti_in r208; have q21 := hj241; have z0 : (0 : Int32).toInt = 0 := (by decide); have z1 : (1 : Int32).toInt = 1 := (by decide); have z2 : (14037 : Int32).toInt = 14037 := (by decide); have z3 : (14039 : Int32).toInt = 14039 := (by decide); have z4 : (14042 : Int32).toInt = 14042 := (by decide); have z5 : (159 : Int32).toInt = 159 := (by decide); have z6 : (160 : Int32).toInt = 160 := (by decide); have z7 : (170 : Int32).toInt = 170 := (by decide); have z8 : (32 : Int32).toInt = 32 := (by decide); have z9 : (48 : Int32).toInt = 48 := (by decide); have z10 : (5 : Int32).toInt = 5 := (by decide); have z11 : (57 : Int32).toInt = 57 := (by decide); omega) (inR_up r208 (by decide) (by decide)) hI241 hW210 (show Pm (uI (uI (uI σ241 14043 (σ241.1 14043)) 14042 ((σ241.1 14042) + 1)) 14039 ((σ241.1 14039) + 1)) from ⟨(show 0 ≤ (((σ241.1 14039) + 1) : Int32).toInt from by have q0 := hP.1; have q1 := hP.2; have q2 := hX0_0.1; have q3 := hX0_0.2; have q4 := hX241_0.1; have q5 := hX241_0.2; have q6 := e209; have q7 := ti_nle b8_78; have q8 := ti_ne b22_156; have q9 := ti_ne b64_160; have q10 := ti_nle b249_198; have q11 := ti_le b277_205; have q12 := ti_in (pm_p hI hP); have q13 := ti_in (iv_14037 hI); have q14 := ti_in hM0_; have q15 := ti_in (iv_14037 hI0); have q16 := ti_in h192; have q17 := ti_in hM241_; have q18 := ti_in (iv_14037 hI241); have q19 := ti_in h203; have q20 := ti_in r208; have z0 : (0 : Int32).toInt = 0 := (by decide); have z1 : (1 : Int32).toInt = 1 := (by decide); have z2 : (14037 : Int32).toInt = 14037 := (by decide); have z3 : (14039 : Int32).toInt = 14039 := (by decide); have z4 : (14042 : Int32).toInt = 14042 := (by decide); have z5 : (159 : Int32).toInt = 159 := (by decide); have z6 : (160 : Int32).toInt = 160 := (by decide); have z7 : (170 : Int32).toInt = 170 := (by decide); have z8 : (32 : Int32).toInt = 32 := (by decide); have z9 : (48 : Int32).toInt = 48 := (by decide); have z10 : (5 : Int32).toInt = 5 := (by decide); have z11 : (57 : Int32).toInt = 57 := (by decide); omega), (show (((σ241.1 14039) + 1) : Int32).toInt ≤ ((σ241.1 14037) : Int32).toInt from by have q0 := hP.1; have q1 := hP.2; have q2 := hX0_0.1; have q3 := hX0_0.2; have q4 := hX241_0.1; have q5 := hX241_0.2; have q6 := e209; have q7 := ti_nle b8_78; have q8 := ti_ne b22_156; have q9 := ti_ne b64_160; have q10 := ti_nle b249_198; have q11 := ti_le b277_205; have q12 := ti_in (pm_p hI hP); have q13 := ti_in (iv_14037 hI); have q14 := ti_in hM0_; have q15 := ti_in (iv_14037 hI0); have q16 := ti_in h192; have q17 := ti_in hM241_; have q18 := ti_in (iv_14037 hI241); have q19 := ti_in h203; have q20 := ti_in r208; have z0 : (0 : Int32).toInt = 0 := (by decide); have z1 : (1 : Int32).toInt = 1 := (by decide); have z2 : (14037 : Int32).toInt = 14037 := (by decide); have z3 : (14039 : Int32).toInt = 14039 := (by decide); have z4 : (14042 : Int32).toInt = 14042 := (by decide); have z5 : (159 : Int32).toInt = 159 := (by decide); have z6 : (160 : Int32).toInt = 160 := (by decide); have z7 : (170 : Int32).toInt = 170 := (by decide); have z8 : (32 : Int32).toInt = 32 := (by decide); have z9 : (48 : Int32).toInt = 48 := (by decide); have z10 : (5 : Int32).toInt = 5 := (by decide); have z11 : (57 : Int32).toInt = 57 := (by decide); omega)⟩) hX241_1
                        · skip
                          refine R_bipush (pc := 280) (v := 10) dX9_nextToken_280 (by decide) ?_
                          refine R_aload_n (pc := 282) dX9_nextToken_282 rfl rfl ?_
                          refine g_X9_266 (pc := 283) (v := .int (σ241.1 14043)) rfl dX9_nextToken_283 (c_140 _) rfl ?_
                          refine R_imul (pc := 286) dX9_nextToken_286 ?_
                          refine R_aload_n (pc := 287) dX9_nextToken_287 rfl rfl ?_
                          refine g_X9_108 (pc := 288) (v := .ref 170) rfl dX9_nextToken_288 (c_140 _) rfl ?_
                          refine R_aload_n (pc := 291) dX9_nextToken_291 rfl rfl ?_
                          refine g_X9_257 (pc := 292) (v := .int (σ241.1 14039)) rfl dX9_nextToken_292 (c_140 _) rfl ?_
                          have hx211 : vp_in (σ241.1 14039) 160 := (vp_of_inR hM241_ (by decide))
                          refine R_iaload (pc := 295) dX9_nextToken_295 (c_170 _) hx211 ?_
                          refine R_iadd (pc := 296) dX9_nextToken_296 ?_
                          refine R_bipush (pc := 297) (v := 48) dX9_nextToken_297 (by decide) ?_
                          refine R_isub (pc := 299) dX9_nextToken_299 ?_
                          refine R_goto (pc := 300) 307 dX9_nextToken_300 (by decide) ?_
                          refine p_X9_266 (pc := 307) rfl dX9_nextToken_307 (c_140 _) (Nat.le_of_ble_eq_true rfl) rfl rfl (s_140_43 _ _) ?_
                          have hW212 := cor_si 14043 (((10 * (σ241.1 14043)) + (σ241.2.2.1 170 (Int32.toNatClampNeg (σ241.1 14039)))) - 48) hC241 rfl
                          refine R_aload_n (pc := 310) dX9_nextToken_310 rfl rfl ?_
                          refine R_dup (pc := 311) dX9_nextToken_311 rfl ?_
                          refine g_X9_263 (pc := 312) (v := .int (σ241.1 14042)) rfl dX9_nextToken_312 (c_140 _) rfl ?_
                          refine R_iconst (pc := 315) (v := 1) dX9_nextToken_315 (by decide) ?_
                          refine R_iadd (pc := 316) dX9_nextToken_316 ?_
                          refine p_X9_263 (pc := 317) rfl dX9_nextToken_317 (c_140 _) (Nat.le_of_ble_eq_true rfl) rfl rfl (s_140_42 _ _) ?_
                          have hW213 := cor_si 14042 ((σ241.1 14042) + 1) hW212 rfl
                          refine R_aload_n (pc := 320) dX9_nextToken_320 rfl rfl ?_
                          refine R_dup (pc := 321) dX9_nextToken_321 rfl ?_
                          refine g_X9_257 (pc := 322) (v := .int (σ241.1 14039)) rfl dX9_nextToken_322 (c_140 _) rfl ?_
                          refine R_iconst (pc := 325) (v := 1) dX9_nextToken_325 (by decide) ?_
                          refine R_iadd (pc := 326) dX9_nextToken_326 ?_
                          have r214 : inR ((σ241.1 14039) + 1) 1 160 := inR_add (show inR (σ241.1 14039) 0 159 from hM241_) (show inR 1 1 1 from (inR_self _)) (by decide) (by decide)
                          have e215 := ti_add (l := 1) (h := 160) (show inR (σ241.1 14039) 0 159 from hM241_) (show inR 1 1 1 from (inR_self _)) (by decide) (by decide)
                          refine p_X9_257 (pc := 327) rfl dX9_nextToken_327 (c_140 _) (Nat.le_of_ble_eq_true rfl) rfl rfl (s_140_39 _ _) ?_
                          have hW216 := cor_si 14039 ((σ241.1 14039) + 1) hW213 rfl
                          refine R_goto (pc := 330) 241 dX9_nextToken_330 (by decide) ?_
                          exact ih241 _ (show (((σ241.1 14039) + 1) : Int32).toInt + (q : Int) = 160 from by have q0 := hP.1; have q1 := hP.2; have q2 := hX0_0.1; have q3 := hX0_0.2; have q4 := hX241_0.1; have q5 := hX241_0.2; have q6 := e215; have q7 := ti_nle b8_78; have q8 := ti_ne b22_156; have q9 := ti_ne b64_160; have q10 := ti_nle b249_198; have q11 := ti_nle b277_205; have q12 := ti_in (pm_p hI hP); have q13 := ti_in (iv_14037 hI); have q14 := ti_in hM0_; have q15 := ti_in (iv_14037 hI0); have q16 := ti_in h192; have q17 := ti_in hM241_; have q18 := ti_in (iv_14037 hI241); have q19 := ti_in h203; have q20 := ti_in r214; have q21 := hj241; have z0 : (0 : Int32).toInt = 0 := (by decide); have z1 : (1 : Int32).toInt = 1 := (by decide); have z2 : (14037 : Int32).toInt = 14037 := (by decide); have z3 : (14039 : Int32).toInt = 14039 := (by decide); have z4 : (14042 : Int32).toInt = 14042 := (by decide); have z5 : (159 : Int32).toInt = 159 := (by decide); have z6 : (160 : Int32).toInt = 160 := (by decide); have z7 : (170 : Int32).toInt = 170 := (by decide); have z8 : (32 : Int32).toInt = 32 := (by decide); have z9 : (48 : Int32).toInt = 48 := (by decide); have z10 : (5 : Int32).toInt = 5 := (by decide); have z11 : (57 : Int32).toInt = 57 := (by decide); omega) (inR_up r214 (by decide) (by decide)) hI241 hW216 (show Pm (uI (uI (uI σ241 14043 (((10 * (σ241.1 14043)) + (σ241.2.2.1 170 (Int32.toNatClampNeg (σ241.1 14039)))) - 48)) 14042 ((σ241.1 14042) + 1)) 14039 ((σ241.1 14039) + 1)) from ⟨(show 0 ≤ (((σ241.1 14039) + 1) : Int32).toInt from by have q0 := hP.1; have q1 := hP.2; have q2 := hX0_0.1; have q3 := hX0_0.2; have q4 := hX241_0.1; have q5 := hX241_0.2; have q6 := e215; have q7 := ti_nle b8_78; have q8 := ti_ne b22_156; have q9 := ti_ne b64_160; have q10 := ti_nle b249_198; have q11 := ti_nle b277_205; have q12 := ti_in (pm_p hI hP); have q13 := ti_in (iv_14037 hI); have q14 := ti_in hM0_; have q15 := ti_in (iv_14037 hI0); have q16 := ti_in h192; have q17 := ti_in hM241_; have q18 := ti_in (iv_14037 hI241); have q19 := ti_in h203; have q20 := ti_in r214; have z0 : (0 : Int32).toInt = 0 := (by decide); have z1 : (1 : Int32).toInt = 1 := (by decide); have z2 : (14037 : Int32).toInt = 14037 := (by decide); have z3 : (14039 : Int32).toInt = 14039 := (by decide); have z4 : (14042 : Int32).toInt = 14042 := (by decide); have z5 : (159 : Int32).toInt = 159 := (by decide); have z6 : (160 : Int32).toInt = 160 := (by decide); have z7 : (170 : Int32).toInt = 170 := (by decide); have z8 : (32 : Int32).toInt = 32 := (by decide); have z9 : (48 : Int32).toInt = 48 := (by decide); have z10 : (5 : Int32).toInt = 5 := (by decide); have z11 : (57 : Int32).toInt = 57 := (by decide); omega), (show (((σ241.1 14039) + 1) : Int32).toInt ≤ ((σ241.1 14037) : Int32).toInt from by have q0 := hP.1; have q1 := hP.2; have q2 := hX0_0.1; have q3 := hX0_0.2; have q4 := hX241_0.1; have q5 := hX241_0.2; have q6 := e215; have q7 := ti_nle b8_78; have q8 := ti_ne b22_156; have q9 := ti_ne b64_160; have q10 := ti_nle b249_198; have q11 := ti_nle b277_205; have q12 := ti_in (pm_p hI hP); have q13 := ti_in (iv_14037 hI); have q14 := ti_in hM0_; have q15 := ti_in (iv_14037 hI0); have q16 := ti_in h192; have q17 := ti_in hM241_; have q18 := ti_in (iv_14037 hI241); have q19 := ti_in h203; have q20 := ti_in r214; have z0 : (0 : Int32).toInt = 0 := (by decide); have z1 : (1 : Int32).toInt = 1 := (by decide); have z2 : (14037 : Int32).toInt = 14037 := (by decide); have z3 : (14039 : Int32).toInt = 14039 := (by decide); have z4 : (14042 : Int32).toInt = 14042 := (by decide); have z5 : (159 : Int32).toInt = 159 := (by decide); have z6 : (160 : Int32).toInt = 160 := (by decide); have z7 : (170 : Int32).toInt = 170 := (by decide); have z8 : (32 : Int32).toInt = 32 := (by decide); have z9 : (48 : Int32).toInt = 48 := (by decide); have z10 : (5 : Int32).toInt = 5 := (by decide); have z11 : (57 : Int32).toInt = 57 := (by decide); omega)⟩) hX241_1
                      · skip
                        refine R_ifeq (pc := 268) 333 dX9_nextToken_268 (by decide) (fun _ => ?_) (fun h => absurd (by decide) h)
                        refine R_aload_n (pc := 333) dX9_nextToken_333 rfl rfl ?_
                        refine R_aload_n (pc := 334) dX9_nextToken_334 rfl rfl ?_
                        refine g_X9_263 (pc := 335) (v := .int (σ241.1 14042)) rfl dX9_nextToken_335 (c_140 _) rfl ?_
                        refine R_iconst (pc := 338) (v := 5) dX9_nextToken_338 (by decide) ?_
                        refine R_icle (pc := 339) 348 dX9_nextToken_339 (by decide) (fun b339_218 => ?_) (fun b339_218 => ?_)
                        · skip
                          refine R_ldc2 (pc := 348) w_1212c dX9_nextToken_348 ?_
                          refine p_X9_271 (pc := 351) rfl dX9_nextToken_351 (c_140 _) (Nat.le_of_ble_eq_true rfl) rfl rfl (s_140_41 _ _) ?_
                          have hW219 := cor_sj 14041 (-1) hC241 rfl
                          refine R_goto (pc := 354) 394 dX9_nextToken_354 (by decide) ?_
                          exact R_vret (pc := 394) dX9_nextToken_394 rfl (Nat.zero_le _) (Nat.zero_le _) ⟨rfl, _, rfl, hI241, hW219, (show Pm (uJ σ241 14041 (-1)) from ⟨(show 0 ≤ ((σ241.1 14039) : Int32).toInt from by have q0 := hP.1; have q1 := hP.2; have q2 := hX0_0.1; have q3 := hX0_0.2; have q4 := hX241_0.1; have q5 := hX241_0.2; have q6 := ti_nle b8_78; have q7 := ti_ne b22_156; have q8 := ti_ne b64_160; have q9 := ti_nle b249_198; have q10 := ti_le b339_218; have q11 := ti_in (pm_p hI hP); have q12 := ti_in (iv_14037 hI); have q13 := ti_in hM0_; have q14 := ti_in (iv_14037 hI0); have q15 := ti_in h192; have q16 := ti_in hM241_; have q17 := ti_in (iv_14037 hI241); have z0 : (0 : Int32).toInt = 0 := (by decide); have z1 : (1 : Int32).toInt = 1 := (by decide); have z2 : (14037 : Int32).toInt = 14037 := (by decide); have z3 : (14039 : Int32).toInt = 14039 := (by decide); have z4 : (14042 : Int32).toInt = 14042 := (by decide); have z5 : (159 : Int32).toInt = 159 := (by decide); have z6 : (160 : Int32).toInt = 160 := (by decide); have z7 : (170 : Int32).toInt = 170 := (by decide); have z8 : (32 : Int32).toInt = 32 := (by decide); have z9 : (48 : Int32).toInt = 48 := (by decide); have z10 : (5 : Int32).toInt = 5 := (by decide); have z11 : (57 : Int32).toInt = 57 := (by decide); omega), (show ((σ241.1 14039) : Int32).toInt ≤ ((σ241.1 14037) : Int32).toInt from by have q0 := hP.1; have q1 := hP.2; have q2 := hX0_0.1; have q3 := hX0_0.2; have q4 := hX241_0.1; have q5 := hX241_0.2; have q6 := ti_nle b8_78; have q7 := ti_ne b22_156; have q8 := ti_ne b64_160; have q9 := ti_nle b249_198; have q10 := ti_le b339_218; have q11 := ti_in (pm_p hI hP); have q12 := ti_in (iv_14037 hI); have q13 := ti_in hM0_; have q14 := ti_in (iv_14037 hI0); have q15 := ti_in h192; have q16 := ti_in hM241_; have q17 := ti_in (iv_14037 hI241); have z0 : (0 : Int32).toInt = 0 := (by decide); have z1 : (1 : Int32).toInt = 1 := (by decide); have z2 : (14037 : Int32).toInt = 14037 := (by decide); have z3 : (14039 : Int32).toInt = 14039 := (by decide); have z4 : (14042 : Int32).toInt = 14042 := (by decide); have z5 : (159 : Int32).toInt = 159 := (by decide); have z6 : (160 : Int32).toInt = 160 := (by decide); have z7 : (170 : Int32).toInt = 170 := (by decide); have z8 : (32 : Int32).toInt = 32 := (by decide); have z9 : (48 : Int32).toInt = 48 := (by decide); have z10 : (5 : Int32).toInt = 5 := (by decide); have z11 : (57 : Int32).toInt = 57 := (by decide); omega)⟩), hX241_1⟩
                        · skip
                          refine R_ldc2 (pc := 342) w_1245c dX9_nextToken_342 ?_
                          refine R_goto (pc := 345) 351 dX9_nextToken_345 (by decide) ?_
                          refine p_X9_271 (pc := 351) rfl dX9_nextToken_351 (c_140 _) (Nat.le_of_ble_eq_true rfl) rfl rfl (s_140_41 _ _) ?_
                          have hW220 := cor_sj 14041 (-4) hC241 rfl
                          refine R_goto (pc := 354) 394 dX9_nextToken_354 (by decide) ?_
                          exact R_vret (pc := 394) dX9_nextToken_394 rfl (Nat.zero_le _) (Nat.zero_le _) ⟨rfl, _, rfl, hI241, hW220, (show Pm (uJ σ241 14041 (-4)) from ⟨(show 0 ≤ ((σ241.1 14039) : Int32).toInt from by have q0 := hP.1; have q1 := hP.2; have q2 := hX0_0.1; have q3 := hX0_0.2; have q4 := hX241_0.1; have q5 := hX241_0.2; have q6 := ti_nle b8_78; have q7 := ti_ne b22_156; have q8 := ti_ne b64_160; have q9 := ti_nle b249_198; have q10 := ti_nle b339_218; have q11 := ti_in (pm_p hI hP); have q12 := ti_in (iv_14037 hI); have q13 := ti_in hM0_; have q14 := ti_in (iv_14037 hI0); have q15 := ti_in h192; have q16 := ti_in hM241_; have q17 := ti_in (iv_14037 hI241); have z0 : (0 : Int32).toInt = 0 := (by decide); have z1 : (1 : Int32).toInt = 1 := (by decide); have z2 : (14037 : Int32).toInt = 14037 := (by decide); have z3 : (14039 : Int32).toInt = 14039 := (by decide); have z4 : (14042 : Int32).toInt = 14042 := (by decide); have z5 : (159 : Int32).toInt = 159 := (by decide); have z6 : (160 : Int32).toInt = 160 := (by decide); have z7 : (170 : Int32).toInt = 170 := (by decide); have z8 : (32 : Int32).toInt = 32 := (by decide); have z9 : (48 : Int32).toInt = 48 := (by decide); have z10 : (5 : Int32).toInt = 5 := (by decide); have z11 : (57 : Int32).toInt = 57 := (by decide); omega), (show ((σ241.1 14039) : Int32).toInt ≤ ((σ241.1 14037) : Int32).toInt from by have q0 := hP.1; have q1 := hP.2; have q2 := hX0_0.1; have q3 := hX0_0.2; have q4 := hX241_0.1; have q5 := hX241_0.2; have q6 := ti_nle b8_78; have q7 := ti_ne b22_156; have q8 := ti_ne b64_160; have q9 := ti_nle b249_198; have q10 := ti_nle b339_218; have q11 := ti_in (pm_p hI hP); have q12 := ti_in (iv_14037 hI); have q13 := ti_in hM0_; have q14 := ti_in (iv_14037 hI0); have q15 := ti_in h192; have q16 := ti_in hM241_; have q17 := ti_in (iv_14037 hI241); have z0 : (0 : Int32).toInt = 0 := (by decide); have z1 : (1 : Int32).toInt = 1 := (by decide); have z2 : (14037 : Int32).toInt = 14037 := (by decide); have z3 : (14039 : Int32).toInt = 14039 := (by decide); have z4 : (14042 : Int32).toInt = 14042 := (by decide); have z5 : (159 : Int32).toInt = 159 := (by decide); have z6 : (160 : Int32).toInt = 160 := (by decide); have z7 : (170 : Int32).toInt = 170 := (by decide); have z8 : (32 : Int32).toInt = 32 := (by decide); have z9 : (48 : Int32).toInt = 48 := (by decide); have z10 : (5 : Int32).toInt = 5 := (by decide); have z11 : (57 : Int32).toInt = 57 := (by decide); omega)⟩), hX241_1⟩
                exact HL241 ((160 : Int) - ((σ0.1 14039) : Int32).toInt).toNat _ (show ((σ0.1 14039) : Int32).toInt + ((((160 : Int) - ((σ0.1 14039) : Int32).toInt).toNat : Nat) : Int) = 160 from by have q0 := hP.1; have q1 := hP.2; have q2 := hX0_0.1; have q3 := hX0_0.2; have q4 := ti_nle b8_78; have q5 := ti_ne b22_156; have q6 := ti_ne b64_160; have q7 := ti_in (pm_p hI hP); have q8 := ti_in (iv_14037 hI); have q9 := ti_in hM0_; have q10 := ti_in (iv_14037 hI0); have q11 := ti_in h192; have z0 : (0 : Int32).toInt = 0 := (by decide); have z1 : (1 : Int32).toInt = 1 := (by decide); have z2 : (14037 : Int32).toInt = 14037 := (by decide); have z3 : (14039 : Int32).toInt = 14039 := (by decide); have z4 : (159 : Int32).toInt = 159 := (by decide); have z5 : (160 : Int32).toInt = 160 := (by decide); have z6 : (170 : Int32).toInt = 170 := (by decide); have z7 : (32 : Int32).toInt = 32 := (by decide); have z8 : (48 : Int32).toInt = 48 := (by decide); have z9 : (57 : Int32).toInt = 57 := (by decide); omega) (inR_up hM0_ (by decide) (by decide)) hI0 hW159 (show Pm (uI (uI (uI σ0 14040 (σ0.1 14039)) 14042 0) 14043 0) from ⟨(show 0 ≤ ((σ0.1 14039) : Int32).toInt from by have q0 := hP.1; have q1 := hP.2; have q2 := hX0_0.1; have q3 := hX0_0.2; have q4 := ti_nle b8_78; have q5 := ti_ne b22_156; have q6 := ti_ne b64_160; have q7 := ti_in (pm_p hI hP); have q8 := ti_in (iv_14037 hI); have q9 := ti_in hM0_; have q10 := ti_in (iv_14037 hI0); have q11 := ti_in h192; have z0 : (0 : Int32).toInt = 0 := (by decide); have z1 : (1 : Int32).toInt = 1 := (by decide); have z2 : (14037 : Int32).toInt = 14037 := (by decide); have z3 : (14039 : Int32).toInt = 14039 := (by decide); have z4 : (159 : Int32).toInt = 159 := (by decide); have z5 : (160 : Int32).toInt = 160 := (by decide); have z6 : (170 : Int32).toInt = 170 := (by decide); have z7 : (32 : Int32).toInt = 32 := (by decide); have z8 : (48 : Int32).toInt = 48 := (by decide); have z9 : (57 : Int32).toInt = 57 := (by decide); omega), (show ((σ0.1 14039) : Int32).toInt ≤ ((σ0.1 14037) : Int32).toInt from by have q0 := hP.1; have q1 := hP.2; have q2 := hX0_0.1; have q3 := hX0_0.2; have q4 := ti_nle b8_78; have q5 := ti_ne b22_156; have q6 := ti_ne b64_160; have q7 := ti_in (pm_p hI hP); have q8 := ti_in (iv_14037 hI); have q9 := ti_in hM0_; have q10 := ti_in (iv_14037 hI0); have q11 := ti_in h192; have z0 : (0 : Int32).toInt = 0 := (by decide); have z1 : (1 : Int32).toInt = 1 := (by decide); have z2 : (14037 : Int32).toInt = 14037 := (by decide); have z3 : (14039 : Int32).toInt = 14039 := (by decide); have z4 : (159 : Int32).toInt = 159 := (by decide); have z5 : (160 : Int32).toInt = 160 := (by decide); have z6 : (170 : Int32).toInt = 170 := (by decide); have z7 : (32 : Int32).toInt = 32 := (by decide); have z8 : (48 : Int32).toInt = 48 := (by decide); have z9 : (57 : Int32).toInt = 57 := (by decide); omega)⟩) hX0_1
              · skip
                refine R_ifeq (pc := 238) 357 dX9_nextToken_238 (by decide) (fun _ => ?_) (fun h => absurd (by decide) h)
                refine R_aload_n (pc := 357) dX9_nextToken_357 rfl rfl ?_
                refine R_aload_n (pc := 358) dX9_nextToken_358 rfl rfl ?_
                refine g_X9_108 (pc := 359) (v := .ref 170) rfl dX9_nextToken_359 (c_140 _) rfl ?_
                refine R_aload_n (pc := 362) dX9_nextToken_362 rfl rfl ?_
                refine g_X9_257 (pc := 363) (v := .int (σ0.1 14039)) rfl dX9_nextToken_363 (c_140 _) rfl ?_
                have hx222 : vp_in (σ0.1 14039) 160 := (vp_of_inR hM0_ (by decide))
                refine W_iaload (pc := 366) (σ0.2.2.1 170 (Int32.toNatClampNeg (σ0.1 14039))) dX9_nextToken_366 (c_170 _) hx222 rfl ?_
                refine R_bipush (pc := 367) (v := 59) dX9_nextToken_367 (by decide) ?_
                refine R_icne (pc := 369) 378 dX9_nextToken_369 (by decide) (fun b369_223 => ?_) (fun b369_223 => ?_)
                · skip
                  refine R_ldc2 (pc := 378) w_1245c dX9_nextToken_378 ?_
                  refine p_X9_271 (pc := 381) rfl dX9_nextToken_381 (c_140 _) (Nat.le_of_ble_eq_true rfl) rfl rfl (s_140_41 _ _) ?_
                  have hW224 := cor_sj 14041 (-4) hW159 rfl
                  refine R_aload_n (pc := 384) dX9_nextToken_384 rfl rfl ?_
                  refine R_dup (pc := 385) dX9_nextToken_385 rfl ?_
                  refine g_X9_257 (pc := 386) (v := .int (σ0.1 14039)) rfl dX9_nextToken_386 (c_140 _) rfl ?_
                  refine R_iconst (pc := 389) (v := 1) dX9_nextToken_389 (by decide) ?_
                  refine R_iadd (pc := 390) dX9_nextToken_390 ?_
                  have r225 : inR ((σ0.1 14039) + 1) 1 160 := inR_add (show inR (σ0.1 14039) 0 159 from hM0_) (show inR 1 1 1 from (inR_self _)) (by decide) (by decide)
                  have e226 := ti_add (l := 1) (h := 160) (show inR (σ0.1 14039) 0 159 from hM0_) (show inR 1 1 1 from (inR_self _)) (by decide) (by decide)
                  refine p_X9_257 (pc := 391) rfl dX9_nextToken_391 (c_140 _) (Nat.le_of_ble_eq_true rfl) rfl rfl (s_140_39 _ _) ?_
                  have hW227 := cor_si 14039 ((σ0.1 14039) + 1) hW224 rfl
                  exact R_vret (pc := 394) dX9_nextToken_394 rfl (Nat.zero_le _) (Nat.zero_le _) ⟨rfl, _, rfl, hI0, hW227, (show Pm (uI (uJ (uI (uI (uI σ0 14040 (σ0.1 14039)) 14042 0) 14043 0) 14041 (-4)) 14039 ((σ0.1 14039) + 1)) from ⟨(show 0 ≤ (((σ0.1 14039) + 1) : Int32).toInt from by have q0 := hP.1; have q1 := hP.2; have q2 := hX0_0.1; have q3 := hX0_0.2; have q4 := e226; have q5 := ti_nle b8_78; have q6 := ti_ne b22_156; have q7 := ti_ne b64_160; have q8 := ti_ne b369_223; have q9 := ti_in (pm_p hI hP); have q10 := ti_in (iv_14037 hI); have q11 := ti_in hM0_; have q12 := ti_in (iv_14037 hI0); have q13 := ti_in r225; have z0 : (0 : Int32).toInt = 0 := (by decide); have z1 : (1 : Int32).toInt = 1 := (by decide); have z2 : (14037 : Int32).toInt = 14037 := (by decide); have z3 : (14039 : Int32).toInt = 14039 := (by decide); have z4 : (159 : Int32).toInt = 159 := (by decide); have z5 : (160 : Int32).toInt = 160 := (by decide); have z6 : (170 : Int32).toInt = 170 := (by decide); have z7 : (32 : Int32).toInt = 32 := (by decide); have z8 : (59 : Int32).toInt = 59 := (by decide); omega), (show (((σ0.1 14039) + 1) : Int32).toInt ≤ ((σ0.1 14037) : Int32).toInt from by have q0 := hP.1; have q1 := hP.2; have q2 := hX0_0.1; have q3 := hX0_0.2; have q4 := e226; have q5 := ti_nle b8_78; have q6 := ti_ne b22_156; have q7 := ti_ne b64_160; have q8 := ti_ne b369_223; have q9 := ti_in (pm_p hI hP); have q10 := ti_in (iv_14037 hI); have q11 := ti_in hM0_; have q12 := ti_in (iv_14037 hI0); have q13 := ti_in r225; have z0 : (0 : Int32).toInt = 0 := (by decide); have z1 : (1 : Int32).toInt = 1 := (by decide); have z2 : (14037 : Int32).toInt = 14037 := (by decide); have z3 : (14039 : Int32).toInt = 14039 := (by decide); have z4 : (159 : Int32).toInt = 159 := (by decide); have z5 : (160 : Int32).toInt = 160 := (by decide); have z6 : (170 : Int32).toInt = 170 := (by decide); have z7 : (32 : Int32).toInt = 32 := (by decide); have z8 : (59 : Int32).toInt = 59 := (by decide); omega)⟩), hX0_1⟩
                · skip
                  refine R_ldc2 (pc := 372) w_1246c dX9_nextToken_372 ?_
                  refine R_goto (pc := 375) 381 dX9_nextToken_375 (by decide) ?_
                  refine p_X9_271 (pc := 381) rfl dX9_nextToken_381 (c_140 _) (Nat.le_of_ble_eq_true rfl) rfl rfl (s_140_41 _ _) ?_
                  have hW228 := cor_sj 14041 (-3) hW159 rfl
                  refine R_aload_n (pc := 384) dX9_nextToken_384 rfl rfl ?_
                  refine R_dup (pc := 385) dX9_nextToken_385 rfl ?_
                  refine g_X9_257 (pc := 386) (v := .int (σ0.1 14039)) rfl dX9_nextToken_386 (c_140 _) rfl ?_
                  refine R_iconst (pc := 389) (v := 1) dX9_nextToken_389 (by decide) ?_
                  refine R_iadd (pc := 390) dX9_nextToken_390 ?_
                  have r229 : inR ((σ0.1 14039) + 1) 1 160 := inR_add (show inR (σ0.1 14039) 0 159 from hM0_) (show inR 1 1 1 from (inR_self _)) (by decide) (by decide)
                  have e230 := ti_add (l := 1) (h := 160) (show inR (σ0.1 14039) 0 159 from hM0_) (show inR 1 1 1 from (inR_self _)) (by decide) (by decide)
                  refine p_X9_257 (pc := 391) rfl dX9_nextToken_391 (c_140 _) (Nat.le_of_ble_eq_true rfl) rfl rfl (s_140_39 _ _) ?_
                  have hW231 := cor_si 14039 ((σ0.1 14039) + 1) hW228 rfl
                  exact R_vret (pc := 394) dX9_nextToken_394 rfl (Nat.zero_le _) (Nat.zero_le _) ⟨rfl, _, rfl, hI0, hW231, (show Pm (uI (uJ (uI (uI (uI σ0 14040 (σ0.1 14039)) 14042 0) 14043 0) 14041 (-3)) 14039 ((σ0.1 14039) + 1)) from ⟨(show 0 ≤ (((σ0.1 14039) + 1) : Int32).toInt from by have q0 := hP.1; have q1 := hP.2; have q2 := hX0_0.1; have q3 := hX0_0.2; have q4 := e230; have q5 := ti_nle b8_78; have q6 := ti_ne b22_156; have q7 := ti_ne b64_160; have q8 := ti_eq b369_223; have q9 := ti_in (pm_p hI hP); have q10 := ti_in (iv_14037 hI); have q11 := ti_in hM0_; have q12 := ti_in (iv_14037 hI0); have q13 := ti_in r229; have z0 : (0 : Int32).toInt = 0 := (by decide); have z1 : (1 : Int32).toInt = 1 := (by decide); have z2 : (14037 : Int32).toInt = 14037 := (by decide); have z3 : (14039 : Int32).toInt = 14039 := (by decide); have z4 : (159 : Int32).toInt = 159 := (by decide); have z5 : (160 : Int32).toInt = 160 := (by decide); have z6 : (170 : Int32).toInt = 170 := (by decide); have z7 : (32 : Int32).toInt = 32 := (by decide); have z8 : (59 : Int32).toInt = 59 := (by decide); omega), (show (((σ0.1 14039) + 1) : Int32).toInt ≤ ((σ0.1 14037) : Int32).toInt from by have q0 := hP.1; have q1 := hP.2; have q2 := hX0_0.1; have q3 := hX0_0.2; have q4 := e230; have q5 := ti_nle b8_78; have q6 := ti_ne b22_156; have q7 := ti_ne b64_160; have q8 := ti_eq b369_223; have q9 := ti_in (pm_p hI hP); have q10 := ti_in (iv_14037 hI); have q11 := ti_in hM0_; have q12 := ti_in (iv_14037 hI0); have q13 := ti_in r229; have z0 : (0 : Int32).toInt = 0 := (by decide); have z1 : (1 : Int32).toInt = 1 := (by decide); have z2 : (14037 : Int32).toInt = 14037 := (by decide); have z3 : (14039 : Int32).toInt = 14039 := (by decide); have z4 : (159 : Int32).toInt = 159 := (by decide); have z5 : (160 : Int32).toInt = 160 := (by decide); have z6 : (170 : Int32).toInt = 170 := (by decide); have z7 : (32 : Int32).toInt = 32 := (by decide); have z8 : (59 : Int32).toInt = 59 := (by decide); omega)⟩), hX0_1⟩
          · skip
            refine R_aload_n (pc := 67) dX9_nextToken_67 rfl rfl ?_
            refine R_ldc2 (pc := 68) w_1242c dX9_nextToken_68 ?_
            refine p_X9_271 (pc := 71) rfl dX9_nextToken_71 (c_140 _) (Nat.le_of_ble_eq_true rfl) rfl rfl (s_140_41 _ _) ?_
            have hW232 := cor_sj 14041 (-2) hW159 rfl
            refine R_goto (pc := 74) 394 dX9_nextToken_74 (by decide) ?_
            exact R_vret (pc := 394) dX9_nextToken_394 rfl (Nat.zero_le _) (Nat.zero_le _) ⟨rfl, _, rfl, hI0, hW232, (show Pm (uJ (uI (uI (uI σ0 14040 (σ0.1 14039)) 14042 0) 14043 0) 14041 (-2)) from ⟨(show 0 ≤ ((σ0.1 14039) : Int32).toInt from by have q0 := hP.1; have q1 := hP.2; have q2 := hX0_0.1; have q3 := hX0_0.2; have q4 := ti_nle b8_78; have q5 := ti_ne b22_156; have q6 := ti_eq b64_160; have q7 := ti_in (pm_p hI hP); have q8 := ti_in (iv_14037 hI); have q9 := ti_in hM0_; have q10 := ti_in (iv_14037 hI0); have z0 : (0 : Int32).toInt = 0 := (by decide); have z1 : (1 : Int32).toInt = 1 := (by decide); have z2 : (14037 : Int32).toInt = 14037 := (by decide); have z3 : (14039 : Int32).toInt = 14039 := (by decide); have z4 : (159 : Int32).toInt = 159 := (by decide); have z5 : (160 : Int32).toInt = 160 := (by decide); have z6 : (170 : Int32).toInt = 170 := (by decide); have z7 : (32 : Int32).toInt = 32 := (by decide); omega), (show ((σ0.1 14039) : Int32).toInt ≤ ((σ0.1 14037) : Int32).toInt from by have q0 := hP.1; have q1 := hP.2; have q2 := hX0_0.1; have q3 := hX0_0.2; have q4 := ti_nle b8_78; have q5 := ti_ne b22_156; have q6 := ti_eq b64_160; have q7 := ti_in (pm_p hI hP); have q8 := ti_in (iv_14037 hI); have q9 := ti_in hM0_; have q10 := ti_in (iv_14037 hI0); have z0 : (0 : Int32).toInt = 0 := (by decide); have z1 : (1 : Int32).toInt = 1 := (by decide); have z2 : (14037 : Int32).toInt = 14037 := (by decide); have z3 : (14039 : Int32).toInt = 14039 := (by decide); have z4 : (159 : Int32).toInt = 159 := (by decide); have z5 : (160 : Int32).toInt = 160 := (by decide); have z6 : (170 : Int32).toInt = 170 := (by decide); have z7 : (32 : Int32).toInt = 32 := (by decide); omega)⟩), hX0_1⟩
        · skip
          refine R_aload_n (pc := 25) dX9_nextToken_25 rfl rfl ?_
          refine R_dup (pc := 26) dX9_nextToken_26 rfl ?_
          refine g_X9_257 (pc := 27) (v := .int (σ0.1 14039)) rfl dX9_nextToken_27 (c_140 _) rfl ?_
          refine R_iconst (pc := 30) (v := 1) dX9_nextToken_30 (by decide) ?_
          refine R_iadd (pc := 31) dX9_nextToken_31 ?_
          have r233 : inR ((σ0.1 14039) + 1) 1 160 := inR_add (show inR (σ0.1 14039) 0 159 from hM0_) (show inR 1 1 1 from (inR_self _)) (by decide) (by decide)
          have e234 := ti_add (l := 1) (h := 160) (show inR (σ0.1 14039) 0 159 from hM0_) (show inR 1 1 1 from (inR_self _)) (by decide) (by decide)
          refine p_X9_257 (pc := 32) rfl dX9_nextToken_32 (c_140 _) (Nat.le_of_ble_eq_true rfl) rfl rfl (s_140_39 _ _) ?_
          have hW235 := cor_si 14039 ((σ0.1 14039) + 1) hC0 rfl
          refine R_goto (pc := 35) 0 dX9_nextToken_35 (by decide) ?_
          exact ih0 _ (show (((σ0.1 14039) + 1) : Int32).toInt + (q : Int) = 160 from by have q0 := hP.1; have q1 := hP.2; have q2 := hX0_0.1; have q3 := hX0_0.2; have q4 := e234; have q5 := ti_nle b8_78; have q6 := ti_eq b22_156; have q7 := ti_in (pm_p hI hP); have q8 := ti_in (iv_14037 hI); have q9 := ti_in hM0_; have q10 := ti_in (iv_14037 hI0); have q11 := ti_in r233; have q12 := hj0; have z0 : (0 : Int32).toInt = 0 := (by decide); have z1 : (1 : Int32).toInt = 1 := (by decide); have z2 : (14037 : Int32).toInt = 14037 := (by decide); have z3 : (14039 : Int32).toInt = 14039 := (by decide); have z4 : (159 : Int32).toInt = 159 := (by decide); have z5 : (160 : Int32).toInt = 160 := (by decide); have z6 : (170 : Int32).toInt = 170 := (by decide); have z7 : (32 : Int32).toInt = 32 := (by decide); omega) (inR_up r233 (by decide) (by decide)) hI0 hW235 (show Pm (uI σ0 14039 ((σ0.1 14039) + 1)) from ⟨(show 0 ≤ (((σ0.1 14039) + 1) : Int32).toInt from by have q0 := hP.1; have q1 := hP.2; have q2 := hX0_0.1; have q3 := hX0_0.2; have q4 := e234; have q5 := ti_nle b8_78; have q6 := ti_eq b22_156; have q7 := ti_in (pm_p hI hP); have q8 := ti_in (iv_14037 hI); have q9 := ti_in hM0_; have q10 := ti_in (iv_14037 hI0); have q11 := ti_in r233; have z0 : (0 : Int32).toInt = 0 := (by decide); have z1 : (1 : Int32).toInt = 1 := (by decide); have z2 : (14037 : Int32).toInt = 14037 := (by decide); have z3 : (14039 : Int32).toInt = 14039 := (by decide); have z4 : (159 : Int32).toInt = 159 := (by decide); have z5 : (160 : Int32).toInt = 160 := (by decide); have z6 : (170 : Int32).toInt = 170 := (by decide); have z7 : (32 : Int32).toInt = 32 := (by decide); omega), (show (((σ0.1 14039) + 1) : Int32).toInt ≤ ((σ0.1 14037) : Int32).toInt from by have q0 := hP.1; have q1 := hP.2; have q2 := hX0_0.1; have q3 := hX0_0.2; have q4 := e234; have q5 := ti_nle b8_78; have q6 := ti_eq b22_156; have q7 := ti_in (pm_p hI hP); have q8 := ti_in (iv_14037 hI); have q9 := ti_in hM0_; have q10 := ti_in (iv_14037 hI0); have q11 := ti_in r233; have z0 : (0 : Int32).toInt = 0 := (by decide); have z1 : (1 : Int32).toInt = 1 := (by decide); have z2 : (14037 : Int32).toInt = 14037 := (by decide); have z3 : (14039 : Int32).toInt = 14039 := (by decide); have z4 : (159 : Int32).toInt = 159 := (by decide); have z5 : (160 : Int32).toInt = 160 := (by decide); have z6 : (170 : Int32).toInt = 170 := (by decide); have z7 : (32 : Int32).toInt = 32 := (by decide); omega)⟩) hX0_1
  exact HL0 ((160 : Int) - ((σ.1 14039) : Int32).toInt).toNat _ (show ((σ.1 14039) : Int32).toInt + ((((160 : Int) - ((σ.1 14039) : Int32).toInt).toNat : Nat) : Int) = 160 from by have q0 := hP.1; have q1 := hP.2; have q2 := ti_in (pm_p hI hP); have q3 := ti_in (iv_14037 hI); have z0 : (0 : Int32).toInt = 0 := (by decide); have z1 : (1 : Int32).toInt = 1 := (by decide); have z2 : (160 : Int32).toInt = 160 := (by decide); omega) (pm_p hI hP) hI (show Cor σ σ from Cor.rfl' σ) (show Pm σ from ⟨(show 0 ≤ ((σ.1 14039) : Int32).toInt from by have q0 := hP.1; have q1 := hP.2; have q2 := ti_in (pm_p hI hP); have q3 := ti_in (iv_14037 hI); have z0 : (0 : Int32).toInt = 0 := (by decide); have z1 : (1 : Int32).toInt = 1 := (by decide); have z2 : (160 : Int32).toInt = 160 := (by decide); omega), (show ((σ.1 14039) : Int32).toInt ≤ ((σ.1 14037) : Int32).toInt from by have q0 := hP.1; have q1 := hP.2; have q2 := ti_in (pm_p hI hP); have q3 := ti_in (iv_14037 hI); have z0 : (0 : Int32).toInt = 0 := (by decide); have z1 : (1 : Int32).toInt = 1 := (by decide); have z2 : (160 : Int32).toInt = 160 := (by decide); omega)⟩) rfl
theorem dX9_fails_0 : decode cX9_fails 0 = .ok (.aload_n 0, 1) := by decide +kernel
theorem dX9_fails_1 : decode cX9_fails 1 = .ok (.aload_n 0, 1) := by decide +kernel
theorem dX9_fails_2 : decode cX9_fails 2 = .ok (.getfield 260, 3) := by decide +kernel
theorem dX9_fails_5 : decode cX9_fails 5 = .ok (.putfield 282, 3) := by decide +kernel
theorem dX9_fails_8 : decode cX9_fails 8 = .ok (.iconst 0, 1) := by decide +kernel
theorem dX9_fails_9 : decode cX9_fails 9 = .ok (.ireturn, 1) := by decide +kernel
set_option maxRecDepth 100000 in
set_option maxHeartbeats 40000000 in
theorem gx_X9_fails {G : vG} {l : Launch} (σ : Sg)  (hI : Inv σ) (hP : Pm σ) : Sp G l yX9_fails cX9_fails 1 (some .boolean) 0 0 0 [.ref 140] (WW σ) (QI (fun x w2 => (x = 1 ∨ x = 0) ∧ ∃ σ2, w2 = WW σ2 ∧ Inv σ2 ∧ Cor σ σ2 ∧ Pm σ2 ∧ σ2.1 14045 = σ.1 14045)) := by
  refine Sp_of_R [(some (.ref 140))] [] rfl (by simp) rfl (Nat.le_of_ble_eq_true rfl) ?_
  refine R_aload_n (pc := 0) dX9_fails_0 rfl rfl ?_
  refine R_aload_n (pc := 1) dX9_fails_1 rfl rfl ?_
  refine g_X9_260 (pc := 2) (v := .int (σ.1 14040)) rfl dX9_fails_2 (c_140 _) rfl ?_
  refine p_X9_282 (pc := 5) rfl dX9_fails_5 (c_140 _) (Nat.le_of_ble_eq_true rfl) rfl rfl (s_140_44 _ _) ?_
  have hW1 := cor_si 14044 (σ.1 14040) (show Cor σ σ from Cor.rfl' σ) rfl
  refine R_iconst (pc := 8) (v := 0) dX9_fails_8 (by decide) ?_
  exact R_iret (pc := 9) dX9_fails_9 rfl rfl (Nat.zero_le _) (Nat.zero_le _) ⟨_, rfl, Or.inr rfl, _, rfl, hI, hW1, (show Pm (uI σ 14044 (σ.1 14040)) from ⟨(show 0 ≤ ((σ.1 14039) : Int32).toInt from by have q0 := hP.1; have q1 := hP.2; have q2 := ti_in (pm_p hI hP); have q3 := ti_in (iv_14037 hI); have z0 : (0 : Int32).toInt = 0 := (by decide); have z1 : (1 : Int32).toInt = 1 := (by decide); have z2 : (160 : Int32).toInt = 160 := (by decide); omega), (show ((σ.1 14039) : Int32).toInt ≤ ((σ.1 14037) : Int32).toInt from by have q0 := hP.1; have q1 := hP.2; have q2 := ti_in (pm_p hI hP); have q3 := ti_in (iv_14037 hI); have z0 : (0 : Int32).toInt = 0 := (by decide); have z1 : (1 : Int32).toInt = 1 := (by decide); have z2 : (160 : Int32).toInt = 160 := (by decide); omega)⟩), rfl⟩
theorem dX9_isWord_0 : decode cX9_isWord 0 = .ok (.aload_n 0, 1) := by decide +kernel
theorem dX9_isWord_1 : decode cX9_isWord 1 = .ok (.invokevirtual 285, 3) := by decide +kernel
theorem dX9_isWord_4 : decode cX9_isWord 4 = .ok (.aload_n 0, 1) := by decide +kernel
theorem dX9_isWord_5 : decode cX9_isWord 5 = .ok (.getfield 271, 3) := by decide +kernel
theorem dX9_isWord_8 : decode cX9_isWord 8 = .ok (.lload_n 1, 1) := by decide +kernel
theorem dX9_isWord_9 : decode cX9_isWord 9 = .ok (.lcmp, 1) := by decide +kernel
theorem dX9_isWord_10 : decode cX9_isWord 10 = .ok (.ifCond .eq 10, 3) := by decide +kernel
theorem dX9_isWord_13 : decode cX9_isWord 13 = .ok (.aload_n 0, 1) := by decide +kernel
theorem dX9_isWord_14 : decode cX9_isWord 14 = .ok (.invokevirtual 288, 3) := by decide +kernel
theorem dX9_isWord_17 : decode cX9_isWord 17 = .ok (.ifCond .eq 7, 3) := by decide +kernel
theorem dX9_isWord_20 : decode cX9_isWord 20 = .ok (.iconst 1, 1) := by decide +kernel
theorem dX9_isWord_21 : decode cX9_isWord 21 = .ok (.goto 4, 3) := by decide +kernel
theorem dX9_isWord_24 : decode cX9_isWord 24 = .ok (.iconst 0, 1) := by decide +kernel
theorem dX9_isWord_25 : decode cX9_isWord 25 = .ok (.ireturn, 1) := by decide +kernel
set_option maxRecDepth 100000 in
set_option maxHeartbeats 40000000 in
theorem gx_X9_isWord {G : vG} {l : Launch} (σ : Sg) (a : Int64) (hI : Inv σ) (hP : Pm σ) : Sp G l yX9_isWord cX9_isWord 3 (some .boolean) 2 0 0 [.ref 140, .long a] (WW σ) (QI (fun x w2 => (x = 1 ∨ x = 0) ∧ ∃ σ2, w2 = WW σ2 ∧ Inv σ2 ∧ Cor σ σ2 ∧ Pm σ2 ∧ σ2.1 14045 = σ.1 14045)) := by
  refine Sp_of_R [(some (.ref 140)), (some (.long a)), none] [] rfl (by simp) rfl (Nat.le_of_ble_eq_true rfl) ?_
  refine R_aload_n (pc := 0) dX9_isWord_0 rfl rfl ?_
  refine k_X9_285 (pc := 1) (gx_X9_nextToken _ hI hP) rfl (c_140 _) (by decide) (Nat.le_refl _) (Nat.le_refl _) (Nat.le_of_ble_eq_true rfl) dX9_isWord_1 (fun w2 h => ?_)
  obtain ⟨σx2, rfl, hV1, hW6, hP3, hk4⟩ := h
  have hW7 := Cor.trans (show Cor σ σ from Cor.rfl' σ) hW6
  have hkk5 : σx2.1 14045 = σ.1 14045 := hk4.trans rfl
  refine R_aload_n (pc := 4) dX9_isWord_4 rfl rfl ?_
  refine g_X9_271 (pc := 5) (v := .long (σx2.2.1 14041)) rfl dX9_isWord_5 (c_140 _) rfl ?_
  refine R_lload_n (pc := 8) dX9_isWord_8 rfl rfl ?_
  refine R_lcmp (pc := 9) dX9_isWord_9 ?_
  refine R_ifeq (pc := 10) 20 dX9_isWord_10 (by decide) (fun b10_8 => ?_) (fun b10_8 => ?_)
  · skip
    refine R_iconst (pc := 20) (v := 1) dX9_isWord_20 (by decide) ?_
    refine R_goto (pc := 21) 25 dX9_isWord_21 (by decide) ?_
    exact R_iret (pc := 25) dX9_isWord_25 rfl rfl (Nat.zero_le _) (Nat.zero_le _) ⟨_, rfl, Or.inl rfl, _, rfl, hV1, hW7, (show Pm σx2 from ⟨(show 0 ≤ ((σx2.1 14039) : Int32).toInt from by have q0 := hP.1; have q1 := hP.2; have q2 := hP3.1; have q3 := hP3.2; have q4 := ti_eq b10_8; have q5 := ti_in (pm_p hI hP); have q6 := ti_in (iv_14037 hI); have q7 := ti_in (pm_p hV1 hP3); have q8 := ti_in (iv_14037 hV1); have z0 : (0 : Int32).toInt = 0 := (by decide); have z1 : (1 : Int32).toInt = 1 := (by decide); have z2 : (14041 : Int32).toInt = 14041 := (by decide); have z3 : (160 : Int32).toInt = 160 := (by decide); omega), (show ((σx2.1 14039) : Int32).toInt ≤ ((σx2.1 14037) : Int32).toInt from by have q0 := hP.1; have q1 := hP.2; have q2 := hP3.1; have q3 := hP3.2; have q4 := ti_eq b10_8; have q5 := ti_in (pm_p hI hP); have q6 := ti_in (iv_14037 hI); have q7 := ti_in (pm_p hV1 hP3); have q8 := ti_in (iv_14037 hV1); have z0 : (0 : Int32).toInt = 0 := (by decide); have z1 : (1 : Int32).toInt = 1 := (by decide); have z2 : (14041 : Int32).toInt = 14041 := (by decide); have z3 : (160 : Int32).toInt = 160 := (by decide); omega)⟩), hkk5⟩
  · skip
    refine R_aload_n (pc := 13) dX9_isWord_13 rfl rfl ?_
    refine k_X9_288 (pc := 14) (gx_X9_fails _ hV1 hP3) rfl (c_140 _) (by decide) (Nat.le_refl _) (Nat.le_refl _) (Nat.le_of_ble_eq_true rfl) dX9_isWord_14 (fun x w2 h => ?_)
    obtain ⟨hb, σx10, rfl, hV9, hW14, hP11, hk12⟩ := h
    have hW15 := Cor.trans hW7 hW14
    have hkk13 : σx10.1 14045 = σ.1 14045 := hk12.trans hkk5
    rcases hb with rfl | rfl
    · skip
      refine R_ifeq (pc := 17) 24 dX9_isWord_17 (by decide) (fun h => absurd h (by decide)) (fun _ => ?_)
      refine R_iconst (pc := 20) (v := 1) dX9_isWord_20 (by decide) ?_
      refine R_goto (pc := 21) 25 dX9_isWord_21 (by decide) ?_
      exact R_iret (pc := 25) dX9_isWord_25 rfl rfl (Nat.zero_le _) (Nat.zero_le _) ⟨_, rfl, Or.inl rfl, _, rfl, hV9, hW15, (show Pm σx10 from ⟨(show 0 ≤ ((σx10.1 14039) : Int32).toInt from by have q0 := hP.1; have q1 := hP.2; have q2 := hP3.1; have q3 := hP3.2; have q4 := hP11.1; have q5 := hP11.2; have q6 := ti_ne b10_8; have q7 := ti_in (pm_p hI hP); have q8 := ti_in (iv_14037 hI); have q9 := ti_in (pm_p hV1 hP3); have q10 := ti_in (iv_14037 hV1); have q11 := ti_in (pm_p hV9 hP11); have q12 := ti_in (iv_14037 hV9); have z0 : (0 : Int32).toInt = 0 := (by decide); have z1 : (1 : Int32).toInt = 1 := (by decide); have z2 : (14041 : Int32).toInt = 14041 := (by decide); have z3 : (160 : Int32).toInt = 160 := (by decide); omega), (show ((σx10.1 14039) : Int32).toInt ≤ ((σx10.1 14037) : Int32).toInt from by have q0 := hP.1; have q1 := hP.2; have q2 := hP3.1; have q3 := hP3.2; have q4 := hP11.1; have q5 := hP11.2; have q6 := ti_ne b10_8; have q7 := ti_in (pm_p hI hP); have q8 := ti_in (iv_14037 hI); have q9 := ti_in (pm_p hV1 hP3); have q10 := ti_in (iv_14037 hV1); have q11 := ti_in (pm_p hV9 hP11); have q12 := ti_in (iv_14037 hV9); have z0 : (0 : Int32).toInt = 0 := (by decide); have z1 : (1 : Int32).toInt = 1 := (by decide); have z2 : (14041 : Int32).toInt = 14041 := (by decide); have z3 : (160 : Int32).toInt = 160 := (by decide); omega)⟩), hkk13⟩
    · skip
      refine R_ifeq (pc := 17) 24 dX9_isWord_17 (by decide) (fun _ => ?_) (fun h => absurd (by decide) h)
      refine R_iconst (pc := 24) (v := 0) dX9_isWord_24 (by decide) ?_
      exact R_iret (pc := 25) dX9_isWord_25 rfl rfl (Nat.zero_le _) (Nat.zero_le _) ⟨_, rfl, Or.inr rfl, _, rfl, hV9, hW15, (show Pm σx10 from ⟨(show 0 ≤ ((σx10.1 14039) : Int32).toInt from by have q0 := hP.1; have q1 := hP.2; have q2 := hP3.1; have q3 := hP3.2; have q4 := hP11.1; have q5 := hP11.2; have q6 := ti_ne b10_8; have q7 := ti_in (pm_p hI hP); have q8 := ti_in (iv_14037 hI); have q9 := ti_in (pm_p hV1 hP3); have q10 := ti_in (iv_14037 hV1); have q11 := ti_in (pm_p hV9 hP11); have q12 := ti_in (iv_14037 hV9); have z0 : (0 : Int32).toInt = 0 := (by decide); have z1 : (1 : Int32).toInt = 1 := (by decide); have z2 : (14041 : Int32).toInt = 14041 := (by decide); have z3 : (160 : Int32).toInt = 160 := (by decide); omega), (show ((σx10.1 14039) : Int32).toInt ≤ ((σx10.1 14037) : Int32).toInt from by have q0 := hP.1; have q1 := hP.2; have q2 := hP3.1; have q3 := hP3.2; have q4 := hP11.1; have q5 := hP11.2; have q6 := ti_ne b10_8; have q7 := ti_in (pm_p hI hP); have q8 := ti_in (iv_14037 hI); have q9 := ti_in (pm_p hV1 hP3); have q10 := ti_in (iv_14037 hV1); have q11 := ti_in (pm_p hV9 hP11); have q12 := ti_in (iv_14037 hV9); have z0 : (0 : Int32).toInt = 0 := (by decide); have z1 : (1 : Int32).toInt = 1 := (by decide); have z2 : (14041 : Int32).toInt = 14041 := (by decide); have z3 : (160 : Int32).toInt = 160 := (by decide); omega)⟩), hkk13⟩
theorem dX9_isNumber_0 : decode cX9_isNumber 0 = .ok (.aload_n 0, 1) := by decide +kernel
theorem dX9_isNumber_1 : decode cX9_isNumber 1 = .ok (.invokevirtual 285, 3) := by decide +kernel
theorem dX9_isNumber_4 : decode cX9_isNumber 4 = .ok (.aload_n 0, 1) := by decide +kernel
theorem dX9_isNumber_5 : decode cX9_isNumber 5 = .ok (.getfield 271, 3) := by decide +kernel
theorem dX9_isNumber_8 : decode cX9_isNumber 8 = .ok (.ldc2_w 252, 3) := by decide +kernel
theorem dX9_isNumber_11 : decode cX9_isNumber 11 = .ok (.lcmp, 1) := by decide +kernel
theorem dX9_isNumber_12 : decode cX9_isNumber 12 = .ok (.ifCond .ne 15, 3) := by decide +kernel
theorem dX9_isNumber_15 : decode cX9_isNumber 15 = .ok (.aload_n 0, 1) := by decide +kernel
theorem dX9_isNumber_16 : decode cX9_isNumber 16 = .ok (.getfield 266, 3) := by decide +kernel
theorem dX9_isNumber_19 : decode cX9_isNumber 19 = .ok (.iload_n 2, 1) := by decide +kernel
theorem dX9_isNumber_20 : decode cX9_isNumber 20 = .ok (.iload_n 3, 1) := by decide +kernel
theorem dX9_isNumber_21 : decode cX9_isNumber 21 = .ok (.invokestatic 124, 3) := by decide +kernel
theorem dX9_isNumber_24 : decode cX9_isNumber 24 = .ok (.ifCond .ne 8, 3) := by decide +kernel
theorem dX9_isNumber_27 : decode cX9_isNumber 27 = .ok (.aload_n 0, 1) := by decide +kernel
theorem dX9_isNumber_28 : decode cX9_isNumber 28 = .ok (.invokevirtual 288, 3) := by decide +kernel
theorem dX9_isNumber_31 : decode cX9_isNumber 31 = .ok (.ireturn, 1) := by decide +kernel
theorem dX9_isNumber_32 : decode cX9_isNumber 32 = .ok (.aload_n 0, 1) := by decide +kernel
theorem dX9_isNumber_33 : decode cX9_isNumber 33 = .ok (.getfield 111, 3) := by decide +kernel
theorem dX9_isNumber_36 : decode cX9_isNumber 36 = .ok (.iload_n 1, 1) := by decide +kernel
theorem dX9_isNumber_37 : decode cX9_isNumber 37 = .ok (.aload_n 0, 1) := by decide +kernel
theorem dX9_isNumber_38 : decode cX9_isNumber 38 = .ok (.getfield 266, 3) := by decide +kernel
theorem dX9_isNumber_41 : decode cX9_isNumber 41 = .ok (.iastore, 1) := by decide +kernel
theorem dX9_isNumber_42 : decode cX9_isNumber 42 = .ok (.iconst 1, 1) := by decide +kernel
theorem dX9_isNumber_43 : decode cX9_isNumber 43 = .ok (.ireturn, 1) := by decide +kernel
set_option maxRecDepth 100000 in
set_option maxHeartbeats 40000000 in
theorem gx_X9_isNumber {G : vG} {l : Launch} (σ : Sg) (a b c : Int32) (hI : Inv σ) (hP : Pm σ) (ha : inR a 0 47) : Sp G l yX9_isNumber cX9_isNumber 4 (some .boolean) 2 0 0 [.ref 140, .int a, .int b, .int c] (WW σ) (QI (fun x w2 => (x = 1 ∨ x = 0) ∧ ∃ σ2, w2 = WW σ2 ∧ Inv σ2 ∧ Cor σ σ2 ∧ Pm σ2 ∧ σ2.1 14045 = σ.1 14045)) := by
  refine Sp_of_R [(some (.ref 140)), (some (.int a)), (some (.int b)), (some (.int c))] [] rfl (by simp) rfl (Nat.le_of_ble_eq_true rfl) ?_
  refine R_aload_n (pc := 0) dX9_isNumber_0 rfl rfl ?_
  refine k_X9_285 (pc := 1) (gx_X9_nextToken _ hI hP) rfl (c_140 _) (by decide) (Nat.le_refl _) (Nat.le_refl _) (Nat.le_of_ble_eq_true rfl) dX9_isNumber_1 (fun w2 h => ?_)
  obtain ⟨σx2, rfl, hV1, hW6, hP3, hk4⟩ := h
  have hW7 := Cor.trans (show Cor σ σ from Cor.rfl' σ) hW6
  have hkk5 : σx2.1 14045 = σ.1 14045 := hk4.trans rfl
  refine R_aload_n (pc := 4) dX9_isNumber_4 rfl rfl ?_
  refine g_X9_271 (pc := 5) (v := .long (σx2.2.1 14041)) rfl dX9_isNumber_5 (c_140 _) rfl ?_
  refine R_ldc2 (pc := 8) w_1212c dX9_isNumber_8 ?_
  refine R_lcmp (pc := 11) dX9_isNumber_11 ?_
  refine R_ifne (pc := 12) 27 dX9_isNumber_12 (by decide) (fun b12_8 => ?_) (fun b12_8 => ?_)
  · skip
    refine R_aload_n (pc := 27) dX9_isNumber_27 rfl rfl ?_
    refine k_X9_288 (pc := 28) (gx_X9_fails _ hV1 hP3) rfl (c_140 _) (by decide) (Nat.le_refl _) (Nat.le_refl _) (Nat.le_of_ble_eq_true rfl) dX9_isNumber_28 (fun x w2 h => ?_)
    obtain ⟨hb, σx10, rfl, hV9, hW14, hP11, hk12⟩ := h
    have hW15 := Cor.trans hW7 hW14
    have hkk13 : σx10.1 14045 = σ.1 14045 := hk12.trans hkk5
    rcases hb with rfl | rfl
    · skip
      exact R_iret (pc := 31) dX9_isNumber_31 rfl rfl (Nat.zero_le _) (Nat.zero_le _) ⟨_, rfl, Or.inl rfl, _, rfl, hV9, hW15, (show Pm σx10 from ⟨(show 0 ≤ ((σx10.1 14039) : Int32).toInt from by have q0 := hP.1; have q1 := hP.2; have q2 := hP3.1; have q3 := hP3.2; have q4 := hP11.1; have q5 := hP11.2; have q6 := ti_ne b12_8; have q7 := ti_in (pm_p hI hP); have q8 := ti_in (iv_14037 hI); have q9 := ti_in ha; have q10 := ti_in (pm_p hV1 hP3); have q11 := ti_in (iv_14037 hV1); have q12 := ti_in (pm_p hV9 hP11); have q13 := ti_in (iv_14037 hV9); have z0 : (-1 : Int32).toInt = -1 := (by decide); have z1 : (0 : Int32).toInt = 0 := (by decide); have z2 : (1 : Int32).toInt = 1 := (by decide); have z3 : (14041 : Int32).toInt = 14041 := (by decide); have z4 : (160 : Int32).toInt = 160 := (by decide); have z5 : (47 : Int32).toInt = 47 := (by decide); omega), (show ((σx10.1 14039) : Int32).toInt ≤ ((σx10.1 14037) : Int32).toInt from by have q0 := hP.1; have q1 := hP.2; have q2 := hP3.1; have q3 := hP3.2; have q4 := hP11.1; have q5 := hP11.2; have q6 := ti_ne b12_8; have q7 := ti_in (pm_p hI hP); have q8 := ti_in (iv_14037 hI); have q9 := ti_in ha; have q10 := ti_in (pm_p hV1 hP3); have q11 := ti_in (iv_14037 hV1); have q12 := ti_in (pm_p hV9 hP11); have q13 := ti_in (iv_14037 hV9); have z0 : (-1 : Int32).toInt = -1 := (by decide); have z1 : (0 : Int32).toInt = 0 := (by decide); have z2 : (1 : Int32).toInt = 1 := (by decide); have z3 : (14041 : Int32).toInt = 14041 := (by decide); have z4 : (160 : Int32).toInt = 160 := (by decide); have z5 : (47 : Int32).toInt = 47 := (by decide); omega)⟩), hkk13⟩
    · skip
      exact R_iret (pc := 31) dX9_isNumber_31 rfl rfl (Nat.zero_le _) (Nat.zero_le _) ⟨_, rfl, Or.inr rfl, _, rfl, hV9, hW15, (show Pm σx10 from ⟨(show 0 ≤ ((σx10.1 14039) : Int32).toInt from by have q0 := hP.1; have q1 := hP.2; have q2 := hP3.1; have q3 := hP3.2; have q4 := hP11.1; have q5 := hP11.2; have q6 := ti_ne b12_8; have q7 := ti_in (pm_p hI hP); have q8 := ti_in (iv_14037 hI); have q9 := ti_in ha; have q10 := ti_in (pm_p hV1 hP3); have q11 := ti_in (iv_14037 hV1); have q12 := ti_in (pm_p hV9 hP11); have q13 := ti_in (iv_14037 hV9); have z0 : (-1 : Int32).toInt = -1 := (by decide); have z1 : (0 : Int32).toInt = 0 := (by decide); have z2 : (1 : Int32).toInt = 1 := (by decide); have z3 : (14041 : Int32).toInt = 14041 := (by decide); have z4 : (160 : Int32).toInt = 160 := (by decide); have z5 : (47 : Int32).toInt = 47 := (by decide); omega), (show ((σx10.1 14039) : Int32).toInt ≤ ((σx10.1 14037) : Int32).toInt from by have q0 := hP.1; have q1 := hP.2; have q2 := hP3.1; have q3 := hP3.2; have q4 := hP11.1; have q5 := hP11.2; have q6 := ti_ne b12_8; have q7 := ti_in (pm_p hI hP); have q8 := ti_in (iv_14037 hI); have q9 := ti_in ha; have q10 := ti_in (pm_p hV1 hP3); have q11 := ti_in (iv_14037 hV1); have q12 := ti_in (pm_p hV9 hP11); have q13 := ti_in (iv_14037 hV9); have z0 : (-1 : Int32).toInt = -1 := (by decide); have z1 : (0 : Int32).toInt = 0 := (by decide); have z2 : (1 : Int32).toInt = 1 := (by decide); have z3 : (14041 : Int32).toInt = 14041 := (by decide); have z4 : (160 : Int32).toInt = 160 := (by decide); have z5 : (47 : Int32).toInt = 47 := (by decide); omega)⟩), hkk13⟩
  · skip
    refine R_aload_n (pc := 15) dX9_isNumber_15 rfl rfl ?_
    refine g_X9_266 (pc := 16) (v := .int (σx2.1 14043)) rfl dX9_isNumber_16 (c_140 _) rfl ?_
    refine R_iload_n (pc := 19) dX9_isNumber_19 rfl rfl ?_
    refine R_iload_n (pc := 20) dX9_isNumber_20 rfl rfl ?_
    refine k_X9_124 (pc := 21) (sp_X9_in _ _ _ _) rfl (by decide) (Nat.le_refl _) (Nat.le_refl _) (Nat.le_of_ble_eq_true rfl) dX9_isNumber_21 (fun x w2 h => ?_)
    rcases h with ⟨rfl, ⟨h16, rfl⟩ | ⟨h16, rfl⟩⟩
    · skip
      refine R_ifne (pc := 24) 32 dX9_isNumber_24 (by decide) (fun _ => ?_) (fun h => absurd h (by decide))
      refine R_aload_n (pc := 32) dX9_isNumber_32 rfl rfl ?_
      refine g_X9_111 (pc := 33) (v := .ref 171) rfl dX9_isNumber_33 (c_140 _) rfl ?_
      refine R_iload_n (pc := 36) dX9_isNumber_36 rfl rfl ?_
      refine R_aload_n (pc := 37) dX9_isNumber_37 rfl rfl ?_
      refine g_X9_266 (pc := 38) (v := .int (σx2.1 14043)) rfl dX9_isNumber_38 (c_140 _) rfl ?_
      have hx18 : vp_in a 48 := (vp_of_inR ha (by decide))
      refine W_iastore (pc := 41) dX9_isNumber_41 (c_171 _) hx18 (a_171 _ _) ?_
      have hW19 := cor_sa 171 (upd (σx2.2.2.1 171) (Int32.toNatClampNeg a) (σx2.1 14043)) hW7 rfl
      refine R_iconst (pc := 42) (v := 1) dX9_isNumber_42 (by decide) ?_
      exact R_iret (pc := 43) dX9_isNumber_43 rfl rfl (Nat.zero_le _) (Nat.zero_le _) ⟨_, rfl, Or.inl rfl, _, rfl, hV1, hW19, (show Pm (uA σx2 171 (upd (σx2.2.2.1 171) (Int32.toNatClampNeg a) (σx2.1 14043))) from ⟨(show 0 ≤ ((σx2.1 14039) : Int32).toInt from by have q0 := hP.1; have q1 := hP.2; have q2 := hP3.1; have q3 := hP3.2; have q4 := ti_in h16; have q5 := ti_eq b12_8; have q6 := ti_in (pm_p hI hP); have q7 := ti_in (iv_14037 hI); have q8 := ti_in ha; have q9 := ti_in (pm_p hV1 hP3); have q10 := ti_in (iv_14037 hV1); have z0 : (-1 : Int32).toInt = -1 := (by decide); have z1 : (0 : Int32).toInt = 0 := (by decide); have z2 : (1 : Int32).toInt = 1 := (by decide); have z3 : (14041 : Int32).toInt = 14041 := (by decide); have z4 : (160 : Int32).toInt = 160 := (by decide); have z5 : (47 : Int32).toInt = 47 := (by decide); omega), (show ((σx2.1 14039) : Int32).toInt ≤ ((σx2.1 14037) : Int32).toInt from by have q0 := hP.1; have q1 := hP.2; have q2 := hP3.1; have q3 := hP3.2; have q4 := ti_in h16; have q5 := ti_eq b12_8; have q6 := ti_in (pm_p hI hP); have q7 := ti_in (iv_14037 hI); have q8 := ti_in ha; have q9 := ti_in (pm_p hV1 hP3); have q10 := ti_in (iv_14037 hV1); have z0 : (-1 : Int32).toInt = -1 := (by decide); have z1 : (0 : Int32).toInt = 0 := (by decide); have z2 : (1 : Int32).toInt = 1 := (by decide); have z3 : (14041 : Int32).toInt = 14041 := (by decide); have z4 : (160 : Int32).toInt = 160 := (by decide); have z5 : (47 : Int32).toInt = 47 := (by decide); omega)⟩), hkk5⟩
    · skip
      refine R_ifne (pc := 24) 32 dX9_isNumber_24 (by decide) (fun h => absurd (by decide) h) (fun _ => ?_)
      refine R_aload_n (pc := 27) dX9_isNumber_27 rfl rfl ?_
      refine k_X9_288 (pc := 28) (gx_X9_fails _ hV1 hP3) rfl (c_140 _) (by decide) (Nat.le_refl _) (Nat.le_refl _) (Nat.le_of_ble_eq_true rfl) dX9_isNumber_28 (fun x w2 h => ?_)
      obtain ⟨hb, σx22, rfl, hV21, hW26, hP23, hk24⟩ := h
      have hW27 := Cor.trans hW7 hW26
      have hkk25 : σx22.1 14045 = σ.1 14045 := hk24.trans hkk5
      rcases hb with rfl | rfl
      · skip
        exact R_iret (pc := 31) dX9_isNumber_31 rfl rfl (Nat.zero_le _) (Nat.zero_le _) ⟨_, rfl, Or.inl rfl, _, rfl, hV21, hW27, (show Pm σx22 from ⟨(show 0 ≤ ((σx22.1 14039) : Int32).toInt from by have q0 := hP.1; have q1 := hP.2; have q2 := hP3.1; have q3 := hP3.2; have q4 := hP23.1; have q5 := hP23.2; have q6 := ti_eq b12_8; have q7 := ti_in (pm_p hI hP); have q8 := ti_in (iv_14037 hI); have q9 := ti_in ha; have q10 := ti_in (pm_p hV1 hP3); have q11 := ti_in (iv_14037 hV1); have q12 := ti_in (pm_p hV21 hP23); have q13 := ti_in (iv_14037 hV21); have z0 : (-1 : Int32).toInt = -1 := (by decide); have z1 : (0 : Int32).toInt = 0 := (by decide); have z2 : (1 : Int32).toInt = 1 := (by decide); have z3 : (14041 : Int32).toInt = 14041 := (by decide); have z4 : (160 : Int32).toInt = 160 := (by decide); have z5 : (47 : Int32).toInt = 47 := (by decide); omega), (show ((σx22.1 14039) : Int32).toInt ≤ ((σx22.1 14037) : Int32).toInt from by have q0 := hP.1; have q1 := hP.2; have q2 := hP3.1; have q3 := hP3.2; have q4 := hP23.1; have q5 := hP23.2; have q6 := ti_eq b12_8; have q7 := ti_in (pm_p hI hP); have q8 := ti_in (iv_14037 hI); have q9 := ti_in ha; have q10 := ti_in (pm_p hV1 hP3); have q11 := ti_in (iv_14037 hV1); have q12 := ti_in (pm_p hV21 hP23); have q13 := ti_in (iv_14037 hV21); have z0 : (-1 : Int32).toInt = -1 := (by decide); have z1 : (0 : Int32).toInt = 0 := (by decide); have z2 : (1 : Int32).toInt = 1 := (by decide); have z3 : (14041 : Int32).toInt = 14041 := (by decide); have z4 : (160 : Int32).toInt = 160 := (by decide); have z5 : (47 : Int32).toInt = 47 := (by decide); omega)⟩), hkk25⟩
      · skip
        exact R_iret (pc := 31) dX9_isNumber_31 rfl rfl (Nat.zero_le _) (Nat.zero_le _) ⟨_, rfl, Or.inr rfl, _, rfl, hV21, hW27, (show Pm σx22 from ⟨(show 0 ≤ ((σx22.1 14039) : Int32).toInt from by have q0 := hP.1; have q1 := hP.2; have q2 := hP3.1; have q3 := hP3.2; have q4 := hP23.1; have q5 := hP23.2; have q6 := ti_eq b12_8; have q7 := ti_in (pm_p hI hP); have q8 := ti_in (iv_14037 hI); have q9 := ti_in ha; have q10 := ti_in (pm_p hV1 hP3); have q11 := ti_in (iv_14037 hV1); have q12 := ti_in (pm_p hV21 hP23); have q13 := ti_in (iv_14037 hV21); have z0 : (-1 : Int32).toInt = -1 := (by decide); have z1 : (0 : Int32).toInt = 0 := (by decide); have z2 : (1 : Int32).toInt = 1 := (by decide); have z3 : (14041 : Int32).toInt = 14041 := (by decide); have z4 : (160 : Int32).toInt = 160 := (by decide); have z5 : (47 : Int32).toInt = 47 := (by decide); omega), (show ((σx22.1 14039) : Int32).toInt ≤ ((σx22.1 14037) : Int32).toInt from by have q0 := hP.1; have q1 := hP.2; have q2 := hP3.1; have q3 := hP3.2; have q4 := hP23.1; have q5 := hP23.2; have q6 := ti_eq b12_8; have q7 := ti_in (pm_p hI hP); have q8 := ti_in (iv_14037 hI); have q9 := ti_in ha; have q10 := ti_in (pm_p hV1 hP3); have q11 := ti_in (iv_14037 hV1); have q12 := ti_in (pm_p hV21 hP23); have q13 := ti_in (iv_14037 hV21); have z0 : (-1 : Int32).toInt = -1 := (by decide); have z1 : (0 : Int32).toInt = 0 := (by decide); have z2 : (1 : Int32).toInt = 1 := (by decide); have z3 : (14041 : Int32).toInt = 14041 := (by decide); have z4 : (160 : Int32).toInt = 160 := (by decide); have z5 : (47 : Int32).toInt = 47 := (by decide); omega)⟩), hkk25⟩
