def LT (σ : Sg) : Prop := Inv σ ∧ Tie σ ∧ ChL σ ∧ ChD σ
/-! the law, call by call -/
theorem dL_law_0 : decode cL_law 0 = .ok (.new 7, 3) := by decide +kernel
theorem dL_law_3 : decode cL_law 3 = .ok (.dup, 1) := by decide +kernel
theorem dL_law_4 : decode cL_law 4 = .ok (.invokespecial 9, 3) := by decide +kernel
theorem dL_law_7 : decode cL_law 7 = .ok (.astore_n 1, 1) := by decide +kernel
theorem dL_law_8 : decode cL_law 8 = .ok (.new 10, 3) := by decide +kernel
theorem dL_law_11 : decode cL_law 11 = .ok (.dup, 1) := by decide +kernel
theorem dL_law_12 : decode cL_law 12 = .ok (.invokespecial 12, 3) := by decide +kernel
theorem dL_law_15 : decode cL_law 15 = .ok (.astore_n 2, 1) := by decide +kernel
theorem dL_law_16 : decode cL_law 16 = .ok (.iconst 0, 1) := by decide +kernel
theorem dL_law_17 : decode cL_law 17 = .ok (.istore_n 3, 1) := by decide +kernel
theorem dL_law_18 : decode cL_law 18 = .ok (.iload_n 3, 1) := by decide +kernel
theorem dL_law_19 : decode cL_law 19 = .ok (.aload_n 0, 1) := by decide +kernel
theorem dL_law_20 : decode cL_law 20 = .ok (.arraylength, 1) := by decide +kernel
theorem dL_law_21 : decode cL_law 21 = .ok (.bipush 9, 2) := by decide +kernel
theorem dL_law_23 : decode cL_law 23 = .ok (.isub, 1) := by decide +kernel
theorem dL_law_24 : decode cL_law 24 = .ok (.if_icmp .gt 1260, 3) := by decide +kernel
theorem dL_law_27 : decode cL_law 27 = .ok (.aload_n 0, 1) := by decide +kernel
theorem dL_law_28 : decode cL_law 28 = .ok (.iload_n 3, 1) := by decide +kernel
theorem dL_law_29 : decode cL_law 29 = .ok (.iaload, 1) := by decide +kernel
theorem dL_law_30 : decode cL_law 30 = .ok (.bipush 31, 2) := by decide +kernel
theorem dL_law_32 : decode cL_law 32 = .ok (.iand, 1) := by decide +kernel
theorem dL_law_33 : decode cL_law 33 = .ok (.tableswitch 1245 0 31 #[143, 262, 335, 358, 391, 424, 447, 480, 513, 546, 579, 612, 635, 678, 721, 764, 807, 840, 883, 896, 909, 942, 995, 1028, 1051, 1074, 1097, 1160, 1173, 1186, 1199, 1222], 143) := by decide +kernel
theorem dL_law_176 : decode cL_law 176 = .ok (.aload_n 1, 1) := by decide +kernel
theorem dL_law_177 : decode cL_law 177 = .ok (.aload_n 0, 1) := by decide +kernel
theorem dL_law_178 : decode cL_law 178 = .ok (.iload_n 3, 1) := by decide +kernel
theorem dL_law_179 : decode cL_law 179 = .ok (.iconst 1, 1) := by decide +kernel
theorem dL_law_180 : decode cL_law 180 = .ok (.iadd, 1) := by decide +kernel
theorem dL_law_181 : decode cL_law 181 = .ok (.iaload, 1) := by decide +kernel
theorem dL_law_182 : decode cL_law 182 = .ok (.aload_n 0, 1) := by decide +kernel
theorem dL_law_183 : decode cL_law 183 = .ok (.iload_n 3, 1) := by decide +kernel
theorem dL_law_184 : decode cL_law 184 = .ok (.iconst 2, 1) := by decide +kernel
theorem dL_law_185 : decode cL_law 185 = .ok (.iadd, 1) := by decide +kernel
theorem dL_law_186 : decode cL_law 186 = .ok (.iaload, 1) := by decide +kernel
theorem dL_law_187 : decode cL_law 187 = .ok (.aload_n 0, 1) := by decide +kernel
theorem dL_law_188 : decode cL_law 188 = .ok (.iload_n 3, 1) := by decide +kernel
theorem dL_law_189 : decode cL_law 189 = .ok (.iconst 3, 1) := by decide +kernel
theorem dL_law_190 : decode cL_law 190 = .ok (.iadd, 1) := by decide +kernel
theorem dL_law_191 : decode cL_law 191 = .ok (.iaload, 1) := by decide +kernel
theorem dL_law_192 : decode cL_law 192 = .ok (.aload_n 0, 1) := by decide +kernel
theorem dL_law_193 : decode cL_law 193 = .ok (.iload_n 3, 1) := by decide +kernel
theorem dL_law_194 : decode cL_law 194 = .ok (.iconst 4, 1) := by decide +kernel
theorem dL_law_195 : decode cL_law 195 = .ok (.iadd, 1) := by decide +kernel
theorem dL_law_196 : decode cL_law 196 = .ok (.iaload, 1) := by decide +kernel
theorem dL_law_197 : decode cL_law 197 = .ok (.aload_n 0, 1) := by decide +kernel
theorem dL_law_198 : decode cL_law 198 = .ok (.iload_n 3, 1) := by decide +kernel
theorem dL_law_199 : decode cL_law 199 = .ok (.iconst 5, 1) := by decide +kernel
theorem dL_law_200 : decode cL_law 200 = .ok (.iadd, 1) := by decide +kernel
theorem dL_law_201 : decode cL_law 201 = .ok (.iaload, 1) := by decide +kernel
theorem dL_law_202 : decode cL_law 202 = .ok (.i2l, 1) := by decide +kernel
theorem dL_law_203 : decode cL_law 203 = .ok (.bipush 32, 2) := by decide +kernel
theorem dL_law_205 : decode cL_law 205 = .ok (.lshl, 1) := by decide +kernel
theorem dL_law_206 : decode cL_law 206 = .ok (.aload_n 0, 1) := by decide +kernel
theorem dL_law_207 : decode cL_law 207 = .ok (.iload_n 3, 1) := by decide +kernel
theorem dL_law_208 : decode cL_law 208 = .ok (.bipush 6, 2) := by decide +kernel
theorem dL_law_210 : decode cL_law 210 = .ok (.iadd, 1) := by decide +kernel
theorem dL_law_211 : decode cL_law 211 = .ok (.iaload, 1) := by decide +kernel
theorem dL_law_212 : decode cL_law 212 = .ok (.i2l, 1) := by decide +kernel
theorem dL_law_213 : decode cL_law 213 = .ok (.ldc2_w 13, 3) := by decide +kernel
theorem dL_law_216 : decode cL_law 216 = .ok (.land, 1) := by decide +kernel
theorem dL_law_217 : decode cL_law 217 = .ok (.lor, 1) := by decide +kernel
theorem dL_law_218 : decode cL_law 218 = .ok (.aload_n 0, 1) := by decide +kernel
theorem dL_law_219 : decode cL_law 219 = .ok (.iload_n 3, 1) := by decide +kernel
theorem dL_law_220 : decode cL_law 220 = .ok (.bipush 7, 2) := by decide +kernel
theorem dL_law_222 : decode cL_law 222 = .ok (.iadd, 1) := by decide +kernel
theorem dL_law_223 : decode cL_law 223 = .ok (.iaload, 1) := by decide +kernel
theorem dL_law_224 : decode cL_law 224 = .ok (.aload_n 0, 1) := by decide +kernel
theorem dL_law_225 : decode cL_law 225 = .ok (.iload_n 3, 1) := by decide +kernel
theorem dL_law_226 : decode cL_law 226 = .ok (.bipush 8, 2) := by decide +kernel
theorem dL_law_228 : decode cL_law 228 = .ok (.iadd, 1) := by decide +kernel
theorem dL_law_229 : decode cL_law 229 = .ok (.iaload, 1) := by decide +kernel
theorem dL_law_230 : decode cL_law 230 = .ok (.invokevirtual 15, 3) := by decide +kernel
theorem dL_law_233 : decode cL_law 233 = .ok (.pop, 1) := by decide +kernel
theorem dL_law_234 : decode cL_law 234 = .ok (.aload_n 2, 1) := by decide +kernel
theorem dL_law_235 : decode cL_law 235 = .ok (.aload_n 0, 1) := by decide +kernel
theorem dL_law_236 : decode cL_law 236 = .ok (.iload_n 3, 1) := by decide +kernel
theorem dL_law_237 : decode cL_law 237 = .ok (.iconst 1, 1) := by decide +kernel
theorem dL_law_238 : decode cL_law 238 = .ok (.iadd, 1) := by decide +kernel
theorem dL_law_239 : decode cL_law 239 = .ok (.iaload, 1) := by decide +kernel
theorem dL_law_240 : decode cL_law 240 = .ok (.aload_n 0, 1) := by decide +kernel
theorem dL_law_241 : decode cL_law 241 = .ok (.iload_n 3, 1) := by decide +kernel
theorem dL_law_242 : decode cL_law 242 = .ok (.iconst 2, 1) := by decide +kernel
theorem dL_law_243 : decode cL_law 243 = .ok (.iadd, 1) := by decide +kernel
theorem dL_law_244 : decode cL_law 244 = .ok (.iaload, 1) := by decide +kernel
theorem dL_law_245 : decode cL_law 245 = .ok (.aload_n 0, 1) := by decide +kernel
theorem dL_law_246 : decode cL_law 246 = .ok (.iload_n 3, 1) := by decide +kernel
theorem dL_law_247 : decode cL_law 247 = .ok (.iconst 3, 1) := by decide +kernel
theorem dL_law_248 : decode cL_law 248 = .ok (.iadd, 1) := by decide +kernel
theorem dL_law_249 : decode cL_law 249 = .ok (.iaload, 1) := by decide +kernel
theorem dL_law_250 : decode cL_law 250 = .ok (.aload_n 0, 1) := by decide +kernel
theorem dL_law_251 : decode cL_law 251 = .ok (.iload_n 3, 1) := by decide +kernel
theorem dL_law_252 : decode cL_law 252 = .ok (.iconst 4, 1) := by decide +kernel
theorem dL_law_253 : decode cL_law 253 = .ok (.iadd, 1) := by decide +kernel
theorem dL_law_254 : decode cL_law 254 = .ok (.iaload, 1) := by decide +kernel
theorem dL_law_255 : decode cL_law 255 = .ok (.aload_n 0, 1) := by decide +kernel
theorem dL_law_256 : decode cL_law 256 = .ok (.iload_n 3, 1) := by decide +kernel
theorem dL_law_257 : decode cL_law 257 = .ok (.iconst 5, 1) := by decide +kernel
theorem dL_law_258 : decode cL_law 258 = .ok (.iadd, 1) := by decide +kernel
theorem dL_law_259 : decode cL_law 259 = .ok (.iaload, 1) := by decide +kernel
theorem dL_law_260 : decode cL_law 260 = .ok (.i2l, 1) := by decide +kernel
theorem dL_law_261 : decode cL_law 261 = .ok (.bipush 32, 2) := by decide +kernel
theorem dL_law_263 : decode cL_law 263 = .ok (.lshl, 1) := by decide +kernel
theorem dL_law_264 : decode cL_law 264 = .ok (.aload_n 0, 1) := by decide +kernel
theorem dL_law_265 : decode cL_law 265 = .ok (.iload_n 3, 1) := by decide +kernel
theorem dL_law_266 : decode cL_law 266 = .ok (.bipush 6, 2) := by decide +kernel
theorem dL_law_268 : decode cL_law 268 = .ok (.iadd, 1) := by decide +kernel
theorem dL_law_269 : decode cL_law 269 = .ok (.iaload, 1) := by decide +kernel
theorem dL_law_270 : decode cL_law 270 = .ok (.i2l, 1) := by decide +kernel
theorem dL_law_271 : decode cL_law 271 = .ok (.ldc2_w 13, 3) := by decide +kernel
theorem dL_law_274 : decode cL_law 274 = .ok (.land, 1) := by decide +kernel
theorem dL_law_275 : decode cL_law 275 = .ok (.lor, 1) := by decide +kernel
theorem dL_law_276 : decode cL_law 276 = .ok (.aload_n 0, 1) := by decide +kernel
theorem dL_law_277 : decode cL_law 277 = .ok (.iload_n 3, 1) := by decide +kernel
theorem dL_law_278 : decode cL_law 278 = .ok (.bipush 7, 2) := by decide +kernel
theorem dL_law_280 : decode cL_law 280 = .ok (.iadd, 1) := by decide +kernel
theorem dL_law_281 : decode cL_law 281 = .ok (.iaload, 1) := by decide +kernel
theorem dL_law_282 : decode cL_law 282 = .ok (.aload_n 0, 1) := by decide +kernel
theorem dL_law_283 : decode cL_law 283 = .ok (.iload_n 3, 1) := by decide +kernel
theorem dL_law_284 : decode cL_law 284 = .ok (.bipush 8, 2) := by decide +kernel
theorem dL_law_286 : decode cL_law 286 = .ok (.iadd, 1) := by decide +kernel
theorem dL_law_287 : decode cL_law 287 = .ok (.iaload, 1) := by decide +kernel
theorem dL_law_288 : decode cL_law 288 = .ok (.invokevirtual 19, 3) := by decide +kernel
theorem dL_law_291 : decode cL_law 291 = .ok (.pop, 1) := by decide +kernel
theorem dL_law_292 : decode cL_law 292 = .ok (.goto 986, 3) := by decide +kernel
theorem dL_law_295 : decode cL_law 295 = .ok (.aload_n 1, 1) := by decide +kernel
theorem dL_law_296 : decode cL_law 296 = .ok (.aload_n 0, 1) := by decide +kernel
theorem dL_law_297 : decode cL_law 297 = .ok (.iload_n 3, 1) := by decide +kernel
theorem dL_law_298 : decode cL_law 298 = .ok (.iconst 1, 1) := by decide +kernel
theorem dL_law_299 : decode cL_law 299 = .ok (.iadd, 1) := by decide +kernel
theorem dL_law_300 : decode cL_law 300 = .ok (.iaload, 1) := by decide +kernel
theorem dL_law_301 : decode cL_law 301 = .ok (.aload_n 0, 1) := by decide +kernel
theorem dL_law_302 : decode cL_law 302 = .ok (.iload_n 3, 1) := by decide +kernel
theorem dL_law_303 : decode cL_law 303 = .ok (.iconst 2, 1) := by decide +kernel
theorem dL_law_304 : decode cL_law 304 = .ok (.iadd, 1) := by decide +kernel
theorem dL_law_305 : decode cL_law 305 = .ok (.iaload, 1) := by decide +kernel
theorem dL_law_306 : decode cL_law 306 = .ok (.i2l, 1) := by decide +kernel
theorem dL_law_307 : decode cL_law 307 = .ok (.bipush 32, 2) := by decide +kernel
theorem dL_law_309 : decode cL_law 309 = .ok (.lshl, 1) := by decide +kernel
theorem dL_law_310 : decode cL_law 310 = .ok (.aload_n 0, 1) := by decide +kernel
theorem dL_law_311 : decode cL_law 311 = .ok (.iload_n 3, 1) := by decide +kernel
theorem dL_law_312 : decode cL_law 312 = .ok (.iconst 3, 1) := by decide +kernel
theorem dL_law_313 : decode cL_law 313 = .ok (.iadd, 1) := by decide +kernel
theorem dL_law_314 : decode cL_law 314 = .ok (.iaload, 1) := by decide +kernel
theorem dL_law_315 : decode cL_law 315 = .ok (.i2l, 1) := by decide +kernel
theorem dL_law_316 : decode cL_law 316 = .ok (.ldc2_w 13, 3) := by decide +kernel
theorem dL_law_319 : decode cL_law 319 = .ok (.land, 1) := by decide +kernel
theorem dL_law_320 : decode cL_law 320 = .ok (.lor, 1) := by decide +kernel
theorem dL_law_321 : decode cL_law 321 = .ok (.aload_n 0, 1) := by decide +kernel
theorem dL_law_322 : decode cL_law 322 = .ok (.iload_n 3, 1) := by decide +kernel
theorem dL_law_323 : decode cL_law 323 = .ok (.iconst 4, 1) := by decide +kernel
theorem dL_law_324 : decode cL_law 324 = .ok (.iadd, 1) := by decide +kernel
theorem dL_law_325 : decode cL_law 325 = .ok (.iaload, 1) := by decide +kernel
theorem dL_law_326 : decode cL_law 326 = .ok (.invokevirtual 20, 3) := by decide +kernel
theorem dL_law_329 : decode cL_law 329 = .ok (.pop, 1) := by decide +kernel
theorem dL_law_330 : decode cL_law 330 = .ok (.aload_n 2, 1) := by decide +kernel
theorem dL_law_331 : decode cL_law 331 = .ok (.aload_n 0, 1) := by decide +kernel
theorem dL_law_332 : decode cL_law 332 = .ok (.iload_n 3, 1) := by decide +kernel
theorem dL_law_333 : decode cL_law 333 = .ok (.iconst 1, 1) := by decide +kernel
theorem dL_law_334 : decode cL_law 334 = .ok (.iadd, 1) := by decide +kernel
theorem dL_law_335 : decode cL_law 335 = .ok (.iaload, 1) := by decide +kernel
theorem dL_law_336 : decode cL_law 336 = .ok (.aload_n 0, 1) := by decide +kernel
theorem dL_law_337 : decode cL_law 337 = .ok (.iload_n 3, 1) := by decide +kernel
theorem dL_law_338 : decode cL_law 338 = .ok (.iconst 2, 1) := by decide +kernel
theorem dL_law_339 : decode cL_law 339 = .ok (.iadd, 1) := by decide +kernel
theorem dL_law_340 : decode cL_law 340 = .ok (.iaload, 1) := by decide +kernel
theorem dL_law_341 : decode cL_law 341 = .ok (.i2l, 1) := by decide +kernel
theorem dL_law_342 : decode cL_law 342 = .ok (.bipush 32, 2) := by decide +kernel
theorem dL_law_344 : decode cL_law 344 = .ok (.lshl, 1) := by decide +kernel
theorem dL_law_345 : decode cL_law 345 = .ok (.aload_n 0, 1) := by decide +kernel
theorem dL_law_346 : decode cL_law 346 = .ok (.iload_n 3, 1) := by decide +kernel
theorem dL_law_347 : decode cL_law 347 = .ok (.iconst 3, 1) := by decide +kernel
theorem dL_law_348 : decode cL_law 348 = .ok (.iadd, 1) := by decide +kernel
theorem dL_law_349 : decode cL_law 349 = .ok (.iaload, 1) := by decide +kernel
theorem dL_law_350 : decode cL_law 350 = .ok (.i2l, 1) := by decide +kernel
theorem dL_law_351 : decode cL_law 351 = .ok (.ldc2_w 13, 3) := by decide +kernel
theorem dL_law_354 : decode cL_law 354 = .ok (.land, 1) := by decide +kernel
theorem dL_law_355 : decode cL_law 355 = .ok (.lor, 1) := by decide +kernel
theorem dL_law_356 : decode cL_law 356 = .ok (.aload_n 0, 1) := by decide +kernel
theorem dL_law_357 : decode cL_law 357 = .ok (.iload_n 3, 1) := by decide +kernel
theorem dL_law_358 : decode cL_law 358 = .ok (.iconst 4, 1) := by decide +kernel
theorem dL_law_359 : decode cL_law 359 = .ok (.iadd, 1) := by decide +kernel
theorem dL_law_360 : decode cL_law 360 = .ok (.iaload, 1) := by decide +kernel
theorem dL_law_361 : decode cL_law 361 = .ok (.invokevirtual 24, 3) := by decide +kernel
theorem dL_law_364 : decode cL_law 364 = .ok (.pop, 1) := by decide +kernel
theorem dL_law_365 : decode cL_law 365 = .ok (.goto 913, 3) := by decide +kernel
theorem dL_law_368 : decode cL_law 368 = .ok (.aload_n 1, 1) := by decide +kernel
theorem dL_law_369 : decode cL_law 369 = .ok (.aload_n 0, 1) := by decide +kernel
theorem dL_law_370 : decode cL_law 370 = .ok (.iload_n 3, 1) := by decide +kernel
theorem dL_law_371 : decode cL_law 371 = .ok (.iconst 1, 1) := by decide +kernel
theorem dL_law_372 : decode cL_law 372 = .ok (.iadd, 1) := by decide +kernel
theorem dL_law_373 : decode cL_law 373 = .ok (.iaload, 1) := by decide +kernel
theorem dL_law_374 : decode cL_law 374 = .ok (.invokevirtual 25, 3) := by decide +kernel
theorem dL_law_377 : decode cL_law 377 = .ok (.pop, 1) := by decide +kernel
theorem dL_law_378 : decode cL_law 378 = .ok (.aload_n 2, 1) := by decide +kernel
theorem dL_law_379 : decode cL_law 379 = .ok (.aload_n 0, 1) := by decide +kernel
theorem dL_law_380 : decode cL_law 380 = .ok (.iload_n 3, 1) := by decide +kernel
theorem dL_law_381 : decode cL_law 381 = .ok (.iconst 1, 1) := by decide +kernel
theorem dL_law_382 : decode cL_law 382 = .ok (.iadd, 1) := by decide +kernel
theorem dL_law_383 : decode cL_law 383 = .ok (.iaload, 1) := by decide +kernel
theorem dL_law_384 : decode cL_law 384 = .ok (.invokevirtual 29, 3) := by decide +kernel
theorem dL_law_387 : decode cL_law 387 = .ok (.pop, 1) := by decide +kernel
theorem dL_law_388 : decode cL_law 388 = .ok (.goto 890, 3) := by decide +kernel
theorem dL_law_391 : decode cL_law 391 = .ok (.aload_n 1, 1) := by decide +kernel
theorem dL_law_392 : decode cL_law 392 = .ok (.aload_n 0, 1) := by decide +kernel
theorem dL_law_393 : decode cL_law 393 = .ok (.iload_n 3, 1) := by decide +kernel
theorem dL_law_394 : decode cL_law 394 = .ok (.iconst 1, 1) := by decide +kernel
theorem dL_law_395 : decode cL_law 395 = .ok (.iadd, 1) := by decide +kernel
theorem dL_law_396 : decode cL_law 396 = .ok (.iaload, 1) := by decide +kernel
theorem dL_law_397 : decode cL_law 397 = .ok (.aload_n 0, 1) := by decide +kernel
theorem dL_law_398 : decode cL_law 398 = .ok (.iload_n 3, 1) := by decide +kernel
theorem dL_law_399 : decode cL_law 399 = .ok (.iconst 2, 1) := by decide +kernel
theorem dL_law_400 : decode cL_law 400 = .ok (.iadd, 1) := by decide +kernel
theorem dL_law_401 : decode cL_law 401 = .ok (.iaload, 1) := by decide +kernel
theorem dL_law_402 : decode cL_law 402 = .ok (.invokevirtual 30, 3) := by decide +kernel
theorem dL_law_405 : decode cL_law 405 = .ok (.pop, 1) := by decide +kernel
theorem dL_law_406 : decode cL_law 406 = .ok (.aload_n 2, 1) := by decide +kernel
theorem dL_law_407 : decode cL_law 407 = .ok (.aload_n 0, 1) := by decide +kernel
theorem dL_law_408 : decode cL_law 408 = .ok (.iload_n 3, 1) := by decide +kernel
theorem dL_law_409 : decode cL_law 409 = .ok (.iconst 1, 1) := by decide +kernel
theorem dL_law_410 : decode cL_law 410 = .ok (.iadd, 1) := by decide +kernel
theorem dL_law_411 : decode cL_law 411 = .ok (.iaload, 1) := by decide +kernel
theorem dL_law_412 : decode cL_law 412 = .ok (.aload_n 0, 1) := by decide +kernel
theorem dL_law_413 : decode cL_law 413 = .ok (.iload_n 3, 1) := by decide +kernel
theorem dL_law_414 : decode cL_law 414 = .ok (.iconst 2, 1) := by decide +kernel
theorem dL_law_415 : decode cL_law 415 = .ok (.iadd, 1) := by decide +kernel
theorem dL_law_416 : decode cL_law 416 = .ok (.iaload, 1) := by decide +kernel
theorem dL_law_417 : decode cL_law 417 = .ok (.invokevirtual 34, 3) := by decide +kernel
theorem dL_law_420 : decode cL_law 420 = .ok (.pop, 1) := by decide +kernel
theorem dL_law_421 : decode cL_law 421 = .ok (.goto 857, 3) := by decide +kernel
theorem dL_law_424 : decode cL_law 424 = .ok (.aload_n 1, 1) := by decide +kernel
theorem dL_law_425 : decode cL_law 425 = .ok (.aload_n 0, 1) := by decide +kernel
theorem dL_law_426 : decode cL_law 426 = .ok (.iload_n 3, 1) := by decide +kernel
theorem dL_law_427 : decode cL_law 427 = .ok (.iconst 1, 1) := by decide +kernel
theorem dL_law_428 : decode cL_law 428 = .ok (.iadd, 1) := by decide +kernel
theorem dL_law_429 : decode cL_law 429 = .ok (.iaload, 1) := by decide +kernel
theorem dL_law_430 : decode cL_law 430 = .ok (.aload_n 0, 1) := by decide +kernel
theorem dL_law_431 : decode cL_law 431 = .ok (.iload_n 3, 1) := by decide +kernel
theorem dL_law_432 : decode cL_law 432 = .ok (.iconst 2, 1) := by decide +kernel
theorem dL_law_433 : decode cL_law 433 = .ok (.iadd, 1) := by decide +kernel
theorem dL_law_434 : decode cL_law 434 = .ok (.iaload, 1) := by decide +kernel
theorem dL_law_435 : decode cL_law 435 = .ok (.invokevirtual 35, 3) := by decide +kernel
theorem dL_law_438 : decode cL_law 438 = .ok (.pop, 1) := by decide +kernel
theorem dL_law_439 : decode cL_law 439 = .ok (.aload_n 2, 1) := by decide +kernel
theorem dL_law_440 : decode cL_law 440 = .ok (.aload_n 0, 1) := by decide +kernel
theorem dL_law_441 : decode cL_law 441 = .ok (.iload_n 3, 1) := by decide +kernel
theorem dL_law_442 : decode cL_law 442 = .ok (.iconst 1, 1) := by decide +kernel
theorem dL_law_443 : decode cL_law 443 = .ok (.iadd, 1) := by decide +kernel
theorem dL_law_444 : decode cL_law 444 = .ok (.iaload, 1) := by decide +kernel
theorem dL_law_445 : decode cL_law 445 = .ok (.aload_n 0, 1) := by decide +kernel
theorem dL_law_446 : decode cL_law 446 = .ok (.iload_n 3, 1) := by decide +kernel
theorem dL_law_447 : decode cL_law 447 = .ok (.iconst 2, 1) := by decide +kernel
theorem dL_law_448 : decode cL_law 448 = .ok (.iadd, 1) := by decide +kernel
theorem dL_law_449 : decode cL_law 449 = .ok (.iaload, 1) := by decide +kernel
theorem dL_law_450 : decode cL_law 450 = .ok (.invokevirtual 38, 3) := by decide +kernel
theorem dL_law_453 : decode cL_law 453 = .ok (.pop, 1) := by decide +kernel
theorem dL_law_454 : decode cL_law 454 = .ok (.goto 824, 3) := by decide +kernel
theorem dL_law_457 : decode cL_law 457 = .ok (.aload_n 1, 1) := by decide +kernel
theorem dL_law_458 : decode cL_law 458 = .ok (.aload_n 0, 1) := by decide +kernel
theorem dL_law_459 : decode cL_law 459 = .ok (.iload_n 3, 1) := by decide +kernel
theorem dL_law_460 : decode cL_law 460 = .ok (.iconst 1, 1) := by decide +kernel
theorem dL_law_461 : decode cL_law 461 = .ok (.iadd, 1) := by decide +kernel
theorem dL_law_462 : decode cL_law 462 = .ok (.iaload, 1) := by decide +kernel
theorem dL_law_463 : decode cL_law 463 = .ok (.invokevirtual 39, 3) := by decide +kernel
theorem dL_law_466 : decode cL_law 466 = .ok (.pop, 1) := by decide +kernel
theorem dL_law_467 : decode cL_law 467 = .ok (.aload_n 2, 1) := by decide +kernel
theorem dL_law_468 : decode cL_law 468 = .ok (.aload_n 0, 1) := by decide +kernel
theorem dL_law_469 : decode cL_law 469 = .ok (.iload_n 3, 1) := by decide +kernel
theorem dL_law_470 : decode cL_law 470 = .ok (.iconst 1, 1) := by decide +kernel
theorem dL_law_471 : decode cL_law 471 = .ok (.iadd, 1) := by decide +kernel
theorem dL_law_472 : decode cL_law 472 = .ok (.iaload, 1) := by decide +kernel
theorem dL_law_473 : decode cL_law 473 = .ok (.invokevirtual 42, 3) := by decide +kernel
theorem dL_law_476 : decode cL_law 476 = .ok (.pop, 1) := by decide +kernel
theorem dL_law_477 : decode cL_law 477 = .ok (.goto 801, 3) := by decide +kernel
theorem dL_law_480 : decode cL_law 480 = .ok (.aload_n 1, 1) := by decide +kernel
theorem dL_law_481 : decode cL_law 481 = .ok (.aload_n 0, 1) := by decide +kernel
theorem dL_law_482 : decode cL_law 482 = .ok (.iload_n 3, 1) := by decide +kernel
theorem dL_law_483 : decode cL_law 483 = .ok (.iconst 1, 1) := by decide +kernel
theorem dL_law_484 : decode cL_law 484 = .ok (.iadd, 1) := by decide +kernel
theorem dL_law_485 : decode cL_law 485 = .ok (.iaload, 1) := by decide +kernel
theorem dL_law_486 : decode cL_law 486 = .ok (.aload_n 0, 1) := by decide +kernel
theorem dL_law_487 : decode cL_law 487 = .ok (.iload_n 3, 1) := by decide +kernel
theorem dL_law_488 : decode cL_law 488 = .ok (.iconst 2, 1) := by decide +kernel
theorem dL_law_489 : decode cL_law 489 = .ok (.iadd, 1) := by decide +kernel
theorem dL_law_490 : decode cL_law 490 = .ok (.iaload, 1) := by decide +kernel
theorem dL_law_491 : decode cL_law 491 = .ok (.invokevirtual 43, 3) := by decide +kernel
theorem dL_law_494 : decode cL_law 494 = .ok (.pop, 1) := by decide +kernel
theorem dL_law_495 : decode cL_law 495 = .ok (.aload_n 2, 1) := by decide +kernel
theorem dL_law_496 : decode cL_law 496 = .ok (.aload_n 0, 1) := by decide +kernel
theorem dL_law_497 : decode cL_law 497 = .ok (.iload_n 3, 1) := by decide +kernel
theorem dL_law_498 : decode cL_law 498 = .ok (.iconst 1, 1) := by decide +kernel
theorem dL_law_499 : decode cL_law 499 = .ok (.iadd, 1) := by decide +kernel
theorem dL_law_500 : decode cL_law 500 = .ok (.iaload, 1) := by decide +kernel
theorem dL_law_501 : decode cL_law 501 = .ok (.aload_n 0, 1) := by decide +kernel
theorem dL_law_502 : decode cL_law 502 = .ok (.iload_n 3, 1) := by decide +kernel
theorem dL_law_503 : decode cL_law 503 = .ok (.iconst 2, 1) := by decide +kernel
theorem dL_law_504 : decode cL_law 504 = .ok (.iadd, 1) := by decide +kernel
theorem dL_law_505 : decode cL_law 505 = .ok (.iaload, 1) := by decide +kernel
theorem dL_law_506 : decode cL_law 506 = .ok (.invokevirtual 46, 3) := by decide +kernel
theorem dL_law_509 : decode cL_law 509 = .ok (.pop, 1) := by decide +kernel
theorem dL_law_510 : decode cL_law 510 = .ok (.goto 768, 3) := by decide +kernel
theorem dL_law_513 : decode cL_law 513 = .ok (.aload_n 1, 1) := by decide +kernel
theorem dL_law_514 : decode cL_law 514 = .ok (.aload_n 0, 1) := by decide +kernel
theorem dL_law_515 : decode cL_law 515 = .ok (.iload_n 3, 1) := by decide +kernel
theorem dL_law_516 : decode cL_law 516 = .ok (.iconst 1, 1) := by decide +kernel
theorem dL_law_517 : decode cL_law 517 = .ok (.iadd, 1) := by decide +kernel
theorem dL_law_518 : decode cL_law 518 = .ok (.iaload, 1) := by decide +kernel
theorem dL_law_519 : decode cL_law 519 = .ok (.aload_n 0, 1) := by decide +kernel
theorem dL_law_520 : decode cL_law 520 = .ok (.iload_n 3, 1) := by decide +kernel
theorem dL_law_521 : decode cL_law 521 = .ok (.iconst 2, 1) := by decide +kernel
theorem dL_law_522 : decode cL_law 522 = .ok (.iadd, 1) := by decide +kernel
theorem dL_law_523 : decode cL_law 523 = .ok (.iaload, 1) := by decide +kernel
theorem dL_law_524 : decode cL_law 524 = .ok (.invokevirtual 47, 3) := by decide +kernel
theorem dL_law_527 : decode cL_law 527 = .ok (.pop, 1) := by decide +kernel
theorem dL_law_528 : decode cL_law 528 = .ok (.aload_n 2, 1) := by decide +kernel
theorem dL_law_529 : decode cL_law 529 = .ok (.aload_n 0, 1) := by decide +kernel
theorem dL_law_530 : decode cL_law 530 = .ok (.iload_n 3, 1) := by decide +kernel
theorem dL_law_531 : decode cL_law 531 = .ok (.iconst 1, 1) := by decide +kernel
theorem dL_law_532 : decode cL_law 532 = .ok (.iadd, 1) := by decide +kernel
theorem dL_law_533 : decode cL_law 533 = .ok (.iaload, 1) := by decide +kernel
theorem dL_law_534 : decode cL_law 534 = .ok (.aload_n 0, 1) := by decide +kernel
theorem dL_law_535 : decode cL_law 535 = .ok (.iload_n 3, 1) := by decide +kernel
theorem dL_law_536 : decode cL_law 536 = .ok (.iconst 2, 1) := by decide +kernel
theorem dL_law_537 : decode cL_law 537 = .ok (.iadd, 1) := by decide +kernel
theorem dL_law_538 : decode cL_law 538 = .ok (.iaload, 1) := by decide +kernel
theorem dL_law_539 : decode cL_law 539 = .ok (.invokevirtual 50, 3) := by decide +kernel
theorem dL_law_542 : decode cL_law 542 = .ok (.pop, 1) := by decide +kernel
theorem dL_law_543 : decode cL_law 543 = .ok (.goto 735, 3) := by decide +kernel
theorem dL_law_546 : decode cL_law 546 = .ok (.aload_n 1, 1) := by decide +kernel
theorem dL_law_547 : decode cL_law 547 = .ok (.aload_n 0, 1) := by decide +kernel
theorem dL_law_548 : decode cL_law 548 = .ok (.iload_n 3, 1) := by decide +kernel
theorem dL_law_549 : decode cL_law 549 = .ok (.iconst 1, 1) := by decide +kernel
theorem dL_law_550 : decode cL_law 550 = .ok (.iadd, 1) := by decide +kernel
theorem dL_law_551 : decode cL_law 551 = .ok (.iaload, 1) := by decide +kernel
theorem dL_law_552 : decode cL_law 552 = .ok (.aload_n 0, 1) := by decide +kernel
theorem dL_law_553 : decode cL_law 553 = .ok (.iload_n 3, 1) := by decide +kernel
theorem dL_law_554 : decode cL_law 554 = .ok (.iconst 2, 1) := by decide +kernel
theorem dL_law_555 : decode cL_law 555 = .ok (.iadd, 1) := by decide +kernel
theorem dL_law_556 : decode cL_law 556 = .ok (.iaload, 1) := by decide +kernel
theorem dL_law_557 : decode cL_law 557 = .ok (.invokevirtual 51, 3) := by decide +kernel
theorem dL_law_560 : decode cL_law 560 = .ok (.aload_n 2, 1) := by decide +kernel
theorem dL_law_561 : decode cL_law 561 = .ok (.aload_n 0, 1) := by decide +kernel
theorem dL_law_562 : decode cL_law 562 = .ok (.iload_n 3, 1) := by decide +kernel
theorem dL_law_563 : decode cL_law 563 = .ok (.iconst 1, 1) := by decide +kernel
theorem dL_law_564 : decode cL_law 564 = .ok (.iadd, 1) := by decide +kernel
theorem dL_law_565 : decode cL_law 565 = .ok (.iaload, 1) := by decide +kernel
theorem dL_law_566 : decode cL_law 566 = .ok (.aload_n 0, 1) := by decide +kernel
theorem dL_law_567 : decode cL_law 567 = .ok (.iload_n 3, 1) := by decide +kernel
theorem dL_law_568 : decode cL_law 568 = .ok (.iconst 2, 1) := by decide +kernel
theorem dL_law_569 : decode cL_law 569 = .ok (.iadd, 1) := by decide +kernel
theorem dL_law_570 : decode cL_law 570 = .ok (.iaload, 1) := by decide +kernel
theorem dL_law_571 : decode cL_law 571 = .ok (.invokevirtual 54, 3) := by decide +kernel
theorem dL_law_574 : decode cL_law 574 = .ok (.if_icmp .eq 704, 3) := by decide +kernel
theorem dL_law_579 : decode cL_law 579 = .ok (.aload_n 1, 1) := by decide +kernel
theorem dL_law_580 : decode cL_law 580 = .ok (.aload_n 0, 1) := by decide +kernel
theorem dL_law_581 : decode cL_law 581 = .ok (.iload_n 3, 1) := by decide +kernel
theorem dL_law_582 : decode cL_law 582 = .ok (.iconst 1, 1) := by decide +kernel
theorem dL_law_583 : decode cL_law 583 = .ok (.iadd, 1) := by decide +kernel
theorem dL_law_584 : decode cL_law 584 = .ok (.iaload, 1) := by decide +kernel
theorem dL_law_585 : decode cL_law 585 = .ok (.aload_n 0, 1) := by decide +kernel
theorem dL_law_586 : decode cL_law 586 = .ok (.iload_n 3, 1) := by decide +kernel
theorem dL_law_587 : decode cL_law 587 = .ok (.iconst 2, 1) := by decide +kernel
theorem dL_law_588 : decode cL_law 588 = .ok (.iadd, 1) := by decide +kernel
theorem dL_law_589 : decode cL_law 589 = .ok (.iaload, 1) := by decide +kernel
theorem dL_law_590 : decode cL_law 590 = .ok (.invokevirtual 55, 3) := by decide +kernel
theorem dL_law_593 : decode cL_law 593 = .ok (.pop, 1) := by decide +kernel
theorem dL_law_594 : decode cL_law 594 = .ok (.aload_n 2, 1) := by decide +kernel
theorem dL_law_595 : decode cL_law 595 = .ok (.aload_n 0, 1) := by decide +kernel
theorem dL_law_596 : decode cL_law 596 = .ok (.iload_n 3, 1) := by decide +kernel
theorem dL_law_597 : decode cL_law 597 = .ok (.iconst 1, 1) := by decide +kernel
theorem dL_law_598 : decode cL_law 598 = .ok (.iadd, 1) := by decide +kernel
theorem dL_law_599 : decode cL_law 599 = .ok (.iaload, 1) := by decide +kernel
theorem dL_law_600 : decode cL_law 600 = .ok (.aload_n 0, 1) := by decide +kernel
theorem dL_law_601 : decode cL_law 601 = .ok (.iload_n 3, 1) := by decide +kernel
theorem dL_law_602 : decode cL_law 602 = .ok (.iconst 2, 1) := by decide +kernel
theorem dL_law_603 : decode cL_law 603 = .ok (.iadd, 1) := by decide +kernel
theorem dL_law_604 : decode cL_law 604 = .ok (.iaload, 1) := by decide +kernel
theorem dL_law_605 : decode cL_law 605 = .ok (.invokevirtual 58, 3) := by decide +kernel
theorem dL_law_608 : decode cL_law 608 = .ok (.pop, 1) := by decide +kernel
theorem dL_law_609 : decode cL_law 609 = .ok (.goto 669, 3) := by decide +kernel
theorem dL_law_612 : decode cL_law 612 = .ok (.aload_n 1, 1) := by decide +kernel
theorem dL_law_613 : decode cL_law 613 = .ok (.aload_n 0, 1) := by decide +kernel
theorem dL_law_614 : decode cL_law 614 = .ok (.iload_n 3, 1) := by decide +kernel
theorem dL_law_615 : decode cL_law 615 = .ok (.iconst 1, 1) := by decide +kernel
theorem dL_law_616 : decode cL_law 616 = .ok (.iadd, 1) := by decide +kernel
theorem dL_law_617 : decode cL_law 617 = .ok (.iaload, 1) := by decide +kernel
theorem dL_law_618 : decode cL_law 618 = .ok (.aload_n 0, 1) := by decide +kernel
theorem dL_law_619 : decode cL_law 619 = .ok (.iload_n 3, 1) := by decide +kernel
theorem dL_law_620 : decode cL_law 620 = .ok (.iconst 2, 1) := by decide +kernel
theorem dL_law_621 : decode cL_law 621 = .ok (.iadd, 1) := by decide +kernel
theorem dL_law_622 : decode cL_law 622 = .ok (.iaload, 1) := by decide +kernel
theorem dL_law_623 : decode cL_law 623 = .ok (.invokevirtual 59, 3) := by decide +kernel
theorem dL_law_626 : decode cL_law 626 = .ok (.pop, 1) := by decide +kernel
theorem dL_law_627 : decode cL_law 627 = .ok (.aload_n 2, 1) := by decide +kernel
theorem dL_law_628 : decode cL_law 628 = .ok (.aload_n 0, 1) := by decide +kernel
theorem dL_law_629 : decode cL_law 629 = .ok (.iload_n 3, 1) := by decide +kernel
theorem dL_law_630 : decode cL_law 630 = .ok (.iconst 1, 1) := by decide +kernel
theorem dL_law_631 : decode cL_law 631 = .ok (.iadd, 1) := by decide +kernel
theorem dL_law_632 : decode cL_law 632 = .ok (.iaload, 1) := by decide +kernel
theorem dL_law_633 : decode cL_law 633 = .ok (.aload_n 0, 1) := by decide +kernel
theorem dL_law_634 : decode cL_law 634 = .ok (.iload_n 3, 1) := by decide +kernel
theorem dL_law_635 : decode cL_law 635 = .ok (.iconst 2, 1) := by decide +kernel
theorem dL_law_636 : decode cL_law 636 = .ok (.iadd, 1) := by decide +kernel
theorem dL_law_637 : decode cL_law 637 = .ok (.iaload, 1) := by decide +kernel
theorem dL_law_638 : decode cL_law 638 = .ok (.invokevirtual 62, 3) := by decide +kernel
theorem dL_law_641 : decode cL_law 641 = .ok (.pop, 1) := by decide +kernel
theorem dL_law_642 : decode cL_law 642 = .ok (.goto 636, 3) := by decide +kernel
theorem dL_law_645 : decode cL_law 645 = .ok (.aload_n 1, 1) := by decide +kernel
theorem dL_law_646 : decode cL_law 646 = .ok (.aload_n 0, 1) := by decide +kernel
theorem dL_law_647 : decode cL_law 647 = .ok (.iload_n 3, 1) := by decide +kernel
theorem dL_law_648 : decode cL_law 648 = .ok (.iconst 1, 1) := by decide +kernel
theorem dL_law_649 : decode cL_law 649 = .ok (.iadd, 1) := by decide +kernel
theorem dL_law_650 : decode cL_law 650 = .ok (.iaload, 1) := by decide +kernel
theorem dL_law_651 : decode cL_law 651 = .ok (.invokevirtual 63, 3) := by decide +kernel
theorem dL_law_654 : decode cL_law 654 = .ok (.pop, 1) := by decide +kernel
theorem dL_law_655 : decode cL_law 655 = .ok (.aload_n 2, 1) := by decide +kernel
theorem dL_law_656 : decode cL_law 656 = .ok (.aload_n 0, 1) := by decide +kernel
theorem dL_law_657 : decode cL_law 657 = .ok (.iload_n 3, 1) := by decide +kernel
theorem dL_law_658 : decode cL_law 658 = .ok (.iconst 1, 1) := by decide +kernel
theorem dL_law_659 : decode cL_law 659 = .ok (.iadd, 1) := by decide +kernel
theorem dL_law_660 : decode cL_law 660 = .ok (.iaload, 1) := by decide +kernel
theorem dL_law_661 : decode cL_law 661 = .ok (.invokevirtual 66, 3) := by decide +kernel
theorem dL_law_664 : decode cL_law 664 = .ok (.pop, 1) := by decide +kernel
theorem dL_law_665 : decode cL_law 665 = .ok (.goto 613, 3) := by decide +kernel
theorem dL_law_668 : decode cL_law 668 = .ok (.aload_n 1, 1) := by decide +kernel
theorem dL_law_669 : decode cL_law 669 = .ok (.aload_n 0, 1) := by decide +kernel
theorem dL_law_670 : decode cL_law 670 = .ok (.iload_n 3, 1) := by decide +kernel
theorem dL_law_671 : decode cL_law 671 = .ok (.iconst 1, 1) := by decide +kernel
theorem dL_law_672 : decode cL_law 672 = .ok (.iadd, 1) := by decide +kernel
theorem dL_law_673 : decode cL_law 673 = .ok (.iaload, 1) := by decide +kernel
theorem dL_law_674 : decode cL_law 674 = .ok (.aload_n 0, 1) := by decide +kernel
theorem dL_law_675 : decode cL_law 675 = .ok (.iload_n 3, 1) := by decide +kernel
theorem dL_law_676 : decode cL_law 676 = .ok (.iconst 2, 1) := by decide +kernel
theorem dL_law_677 : decode cL_law 677 = .ok (.iadd, 1) := by decide +kernel
theorem dL_law_678 : decode cL_law 678 = .ok (.iaload, 1) := by decide +kernel
theorem dL_law_679 : decode cL_law 679 = .ok (.aload_n 0, 1) := by decide +kernel
theorem dL_law_680 : decode cL_law 680 = .ok (.iload_n 3, 1) := by decide +kernel
theorem dL_law_681 : decode cL_law 681 = .ok (.iconst 3, 1) := by decide +kernel
theorem dL_law_682 : decode cL_law 682 = .ok (.iadd, 1) := by decide +kernel
theorem dL_law_683 : decode cL_law 683 = .ok (.iaload, 1) := by decide +kernel
theorem dL_law_684 : decode cL_law 684 = .ok (.invokevirtual 67, 3) := by decide +kernel
theorem dL_law_687 : decode cL_law 687 = .ok (.pop, 1) := by decide +kernel
theorem dL_law_688 : decode cL_law 688 = .ok (.aload_n 2, 1) := by decide +kernel
theorem dL_law_689 : decode cL_law 689 = .ok (.aload_n 0, 1) := by decide +kernel
theorem dL_law_690 : decode cL_law 690 = .ok (.iload_n 3, 1) := by decide +kernel
theorem dL_law_691 : decode cL_law 691 = .ok (.iconst 1, 1) := by decide +kernel
theorem dL_law_692 : decode cL_law 692 = .ok (.iadd, 1) := by decide +kernel
theorem dL_law_693 : decode cL_law 693 = .ok (.iaload, 1) := by decide +kernel
theorem dL_law_694 : decode cL_law 694 = .ok (.aload_n 0, 1) := by decide +kernel
theorem dL_law_695 : decode cL_law 695 = .ok (.iload_n 3, 1) := by decide +kernel
theorem dL_law_696 : decode cL_law 696 = .ok (.iconst 2, 1) := by decide +kernel
theorem dL_law_697 : decode cL_law 697 = .ok (.iadd, 1) := by decide +kernel
theorem dL_law_698 : decode cL_law 698 = .ok (.iaload, 1) := by decide +kernel
theorem dL_law_699 : decode cL_law 699 = .ok (.aload_n 0, 1) := by decide +kernel
theorem dL_law_700 : decode cL_law 700 = .ok (.iload_n 3, 1) := by decide +kernel
theorem dL_law_701 : decode cL_law 701 = .ok (.iconst 3, 1) := by decide +kernel
theorem dL_law_702 : decode cL_law 702 = .ok (.iadd, 1) := by decide +kernel
theorem dL_law_703 : decode cL_law 703 = .ok (.iaload, 1) := by decide +kernel
theorem dL_law_704 : decode cL_law 704 = .ok (.invokevirtual 71, 3) := by decide +kernel
theorem dL_law_707 : decode cL_law 707 = .ok (.pop, 1) := by decide +kernel
theorem dL_law_708 : decode cL_law 708 = .ok (.goto 570, 3) := by decide +kernel
theorem dL_law_711 : decode cL_law 711 = .ok (.aload_n 1, 1) := by decide +kernel
theorem dL_law_712 : decode cL_law 712 = .ok (.aload_n 0, 1) := by decide +kernel
theorem dL_law_713 : decode cL_law 713 = .ok (.iload_n 3, 1) := by decide +kernel
theorem dL_law_714 : decode cL_law 714 = .ok (.iconst 1, 1) := by decide +kernel
theorem dL_law_715 : decode cL_law 715 = .ok (.iadd, 1) := by decide +kernel
theorem dL_law_716 : decode cL_law 716 = .ok (.iaload, 1) := by decide +kernel
theorem dL_law_717 : decode cL_law 717 = .ok (.aload_n 0, 1) := by decide +kernel
theorem dL_law_718 : decode cL_law 718 = .ok (.iload_n 3, 1) := by decide +kernel
theorem dL_law_719 : decode cL_law 719 = .ok (.iconst 2, 1) := by decide +kernel
theorem dL_law_720 : decode cL_law 720 = .ok (.iadd, 1) := by decide +kernel
theorem dL_law_721 : decode cL_law 721 = .ok (.iaload, 1) := by decide +kernel
theorem dL_law_722 : decode cL_law 722 = .ok (.aload_n 0, 1) := by decide +kernel
theorem dL_law_723 : decode cL_law 723 = .ok (.iload_n 3, 1) := by decide +kernel
theorem dL_law_724 : decode cL_law 724 = .ok (.iconst 3, 1) := by decide +kernel
theorem dL_law_725 : decode cL_law 725 = .ok (.iadd, 1) := by decide +kernel
theorem dL_law_726 : decode cL_law 726 = .ok (.iaload, 1) := by decide +kernel
theorem dL_law_727 : decode cL_law 727 = .ok (.invokevirtual 72, 3) := by decide +kernel
theorem dL_law_730 : decode cL_law 730 = .ok (.pop, 1) := by decide +kernel
theorem dL_law_731 : decode cL_law 731 = .ok (.aload_n 2, 1) := by decide +kernel
theorem dL_law_732 : decode cL_law 732 = .ok (.aload_n 0, 1) := by decide +kernel
theorem dL_law_733 : decode cL_law 733 = .ok (.iload_n 3, 1) := by decide +kernel
theorem dL_law_734 : decode cL_law 734 = .ok (.iconst 1, 1) := by decide +kernel
theorem dL_law_735 : decode cL_law 735 = .ok (.iadd, 1) := by decide +kernel
theorem dL_law_736 : decode cL_law 736 = .ok (.iaload, 1) := by decide +kernel
theorem dL_law_737 : decode cL_law 737 = .ok (.aload_n 0, 1) := by decide +kernel
theorem dL_law_738 : decode cL_law 738 = .ok (.iload_n 3, 1) := by decide +kernel
theorem dL_law_739 : decode cL_law 739 = .ok (.iconst 2, 1) := by decide +kernel
theorem dL_law_740 : decode cL_law 740 = .ok (.iadd, 1) := by decide +kernel
theorem dL_law_741 : decode cL_law 741 = .ok (.iaload, 1) := by decide +kernel
theorem dL_law_742 : decode cL_law 742 = .ok (.aload_n 0, 1) := by decide +kernel
theorem dL_law_743 : decode cL_law 743 = .ok (.iload_n 3, 1) := by decide +kernel
theorem dL_law_744 : decode cL_law 744 = .ok (.iconst 3, 1) := by decide +kernel
theorem dL_law_745 : decode cL_law 745 = .ok (.iadd, 1) := by decide +kernel
theorem dL_law_746 : decode cL_law 746 = .ok (.iaload, 1) := by decide +kernel
theorem dL_law_747 : decode cL_law 747 = .ok (.invokevirtual 75, 3) := by decide +kernel
theorem dL_law_750 : decode cL_law 750 = .ok (.pop, 1) := by decide +kernel
theorem dL_law_751 : decode cL_law 751 = .ok (.goto 527, 3) := by decide +kernel
theorem dL_law_754 : decode cL_law 754 = .ok (.aload_n 1, 1) := by decide +kernel
theorem dL_law_755 : decode cL_law 755 = .ok (.aload_n 0, 1) := by decide +kernel
theorem dL_law_756 : decode cL_law 756 = .ok (.iload_n 3, 1) := by decide +kernel
theorem dL_law_757 : decode cL_law 757 = .ok (.iconst 1, 1) := by decide +kernel
theorem dL_law_758 : decode cL_law 758 = .ok (.iadd, 1) := by decide +kernel
theorem dL_law_759 : decode cL_law 759 = .ok (.iaload, 1) := by decide +kernel
theorem dL_law_760 : decode cL_law 760 = .ok (.aload_n 0, 1) := by decide +kernel
theorem dL_law_761 : decode cL_law 761 = .ok (.iload_n 3, 1) := by decide +kernel
theorem dL_law_762 : decode cL_law 762 = .ok (.iconst 2, 1) := by decide +kernel
theorem dL_law_763 : decode cL_law 763 = .ok (.iadd, 1) := by decide +kernel
theorem dL_law_764 : decode cL_law 764 = .ok (.iaload, 1) := by decide +kernel
theorem dL_law_765 : decode cL_law 765 = .ok (.aload_n 0, 1) := by decide +kernel
theorem dL_law_766 : decode cL_law 766 = .ok (.iload_n 3, 1) := by decide +kernel
theorem dL_law_767 : decode cL_law 767 = .ok (.iconst 3, 1) := by decide +kernel
theorem dL_law_768 : decode cL_law 768 = .ok (.iadd, 1) := by decide +kernel
theorem dL_law_769 : decode cL_law 769 = .ok (.iaload, 1) := by decide +kernel
theorem dL_law_770 : decode cL_law 770 = .ok (.invokevirtual 76, 3) := by decide +kernel
theorem dL_law_773 : decode cL_law 773 = .ok (.pop, 1) := by decide +kernel
theorem dL_law_774 : decode cL_law 774 = .ok (.aload_n 2, 1) := by decide +kernel
theorem dL_law_775 : decode cL_law 775 = .ok (.aload_n 0, 1) := by decide +kernel
theorem dL_law_776 : decode cL_law 776 = .ok (.iload_n 3, 1) := by decide +kernel
theorem dL_law_777 : decode cL_law 777 = .ok (.iconst 1, 1) := by decide +kernel
theorem dL_law_778 : decode cL_law 778 = .ok (.iadd, 1) := by decide +kernel
theorem dL_law_779 : decode cL_law 779 = .ok (.iaload, 1) := by decide +kernel
theorem dL_law_780 : decode cL_law 780 = .ok (.aload_n 0, 1) := by decide +kernel
theorem dL_law_781 : decode cL_law 781 = .ok (.iload_n 3, 1) := by decide +kernel
theorem dL_law_782 : decode cL_law 782 = .ok (.iconst 2, 1) := by decide +kernel
theorem dL_law_783 : decode cL_law 783 = .ok (.iadd, 1) := by decide +kernel
theorem dL_law_784 : decode cL_law 784 = .ok (.iaload, 1) := by decide +kernel
theorem dL_law_785 : decode cL_law 785 = .ok (.aload_n 0, 1) := by decide +kernel
theorem dL_law_786 : decode cL_law 786 = .ok (.iload_n 3, 1) := by decide +kernel
theorem dL_law_787 : decode cL_law 787 = .ok (.iconst 3, 1) := by decide +kernel
theorem dL_law_788 : decode cL_law 788 = .ok (.iadd, 1) := by decide +kernel
theorem dL_law_789 : decode cL_law 789 = .ok (.iaload, 1) := by decide +kernel
theorem dL_law_790 : decode cL_law 790 = .ok (.invokevirtual 79, 3) := by decide +kernel
theorem dL_law_793 : decode cL_law 793 = .ok (.pop, 1) := by decide +kernel
theorem dL_law_794 : decode cL_law 794 = .ok (.goto 484, 3) := by decide +kernel
theorem dL_law_797 : decode cL_law 797 = .ok (.aload_n 1, 1) := by decide +kernel
theorem dL_law_798 : decode cL_law 798 = .ok (.aload_n 0, 1) := by decide +kernel
theorem dL_law_799 : decode cL_law 799 = .ok (.iload_n 3, 1) := by decide +kernel
theorem dL_law_800 : decode cL_law 800 = .ok (.iconst 1, 1) := by decide +kernel
theorem dL_law_801 : decode cL_law 801 = .ok (.iadd, 1) := by decide +kernel
theorem dL_law_802 : decode cL_law 802 = .ok (.iaload, 1) := by decide +kernel
theorem dL_law_803 : decode cL_law 803 = .ok (.aload_n 0, 1) := by decide +kernel
theorem dL_law_804 : decode cL_law 804 = .ok (.iload_n 3, 1) := by decide +kernel
theorem dL_law_805 : decode cL_law 805 = .ok (.iconst 2, 1) := by decide +kernel
theorem dL_law_806 : decode cL_law 806 = .ok (.iadd, 1) := by decide +kernel
theorem dL_law_807 : decode cL_law 807 = .ok (.iaload, 1) := by decide +kernel
theorem dL_law_808 : decode cL_law 808 = .ok (.aload_n 0, 1) := by decide +kernel
theorem dL_law_809 : decode cL_law 809 = .ok (.iload_n 3, 1) := by decide +kernel
theorem dL_law_810 : decode cL_law 810 = .ok (.iconst 3, 1) := by decide +kernel
theorem dL_law_811 : decode cL_law 811 = .ok (.iadd, 1) := by decide +kernel
theorem dL_law_812 : decode cL_law 812 = .ok (.iaload, 1) := by decide +kernel
theorem dL_law_813 : decode cL_law 813 = .ok (.invokevirtual 80, 3) := by decide +kernel
theorem dL_law_816 : decode cL_law 816 = .ok (.pop, 1) := by decide +kernel
theorem dL_law_817 : decode cL_law 817 = .ok (.aload_n 2, 1) := by decide +kernel
theorem dL_law_818 : decode cL_law 818 = .ok (.aload_n 0, 1) := by decide +kernel
theorem dL_law_819 : decode cL_law 819 = .ok (.iload_n 3, 1) := by decide +kernel
theorem dL_law_820 : decode cL_law 820 = .ok (.iconst 1, 1) := by decide +kernel
theorem dL_law_821 : decode cL_law 821 = .ok (.iadd, 1) := by decide +kernel
theorem dL_law_822 : decode cL_law 822 = .ok (.iaload, 1) := by decide +kernel
theorem dL_law_823 : decode cL_law 823 = .ok (.aload_n 0, 1) := by decide +kernel
theorem dL_law_824 : decode cL_law 824 = .ok (.iload_n 3, 1) := by decide +kernel
theorem dL_law_825 : decode cL_law 825 = .ok (.iconst 2, 1) := by decide +kernel
theorem dL_law_826 : decode cL_law 826 = .ok (.iadd, 1) := by decide +kernel
theorem dL_law_827 : decode cL_law 827 = .ok (.iaload, 1) := by decide +kernel
theorem dL_law_828 : decode cL_law 828 = .ok (.aload_n 0, 1) := by decide +kernel
theorem dL_law_829 : decode cL_law 829 = .ok (.iload_n 3, 1) := by decide +kernel
theorem dL_law_830 : decode cL_law 830 = .ok (.iconst 3, 1) := by decide +kernel
theorem dL_law_831 : decode cL_law 831 = .ok (.iadd, 1) := by decide +kernel
theorem dL_law_832 : decode cL_law 832 = .ok (.iaload, 1) := by decide +kernel
theorem dL_law_833 : decode cL_law 833 = .ok (.invokevirtual 83, 3) := by decide +kernel
theorem dL_law_836 : decode cL_law 836 = .ok (.pop, 1) := by decide +kernel
theorem dL_law_837 : decode cL_law 837 = .ok (.goto 441, 3) := by decide +kernel
theorem dL_law_840 : decode cL_law 840 = .ok (.aload_n 1, 1) := by decide +kernel
theorem dL_law_841 : decode cL_law 841 = .ok (.aload_n 0, 1) := by decide +kernel
theorem dL_law_842 : decode cL_law 842 = .ok (.iload_n 3, 1) := by decide +kernel
theorem dL_law_843 : decode cL_law 843 = .ok (.iconst 1, 1) := by decide +kernel
theorem dL_law_844 : decode cL_law 844 = .ok (.iadd, 1) := by decide +kernel
theorem dL_law_845 : decode cL_law 845 = .ok (.iaload, 1) := by decide +kernel
theorem dL_law_846 : decode cL_law 846 = .ok (.aload_n 0, 1) := by decide +kernel
theorem dL_law_847 : decode cL_law 847 = .ok (.iload_n 3, 1) := by decide +kernel
theorem dL_law_848 : decode cL_law 848 = .ok (.iconst 2, 1) := by decide +kernel
theorem dL_law_849 : decode cL_law 849 = .ok (.iadd, 1) := by decide +kernel
theorem dL_law_850 : decode cL_law 850 = .ok (.iaload, 1) := by decide +kernel
theorem dL_law_851 : decode cL_law 851 = .ok (.invokevirtual 84, 3) := by decide +kernel
theorem dL_law_854 : decode cL_law 854 = .ok (.pop, 1) := by decide +kernel
theorem dL_law_855 : decode cL_law 855 = .ok (.aload_n 2, 1) := by decide +kernel
theorem dL_law_856 : decode cL_law 856 = .ok (.aload_n 0, 1) := by decide +kernel
theorem dL_law_857 : decode cL_law 857 = .ok (.iload_n 3, 1) := by decide +kernel
theorem dL_law_858 : decode cL_law 858 = .ok (.iconst 1, 1) := by decide +kernel
theorem dL_law_859 : decode cL_law 859 = .ok (.iadd, 1) := by decide +kernel
theorem dL_law_860 : decode cL_law 860 = .ok (.iaload, 1) := by decide +kernel
theorem dL_law_861 : decode cL_law 861 = .ok (.aload_n 0, 1) := by decide +kernel
theorem dL_law_862 : decode cL_law 862 = .ok (.iload_n 3, 1) := by decide +kernel
theorem dL_law_863 : decode cL_law 863 = .ok (.iconst 2, 1) := by decide +kernel
theorem dL_law_864 : decode cL_law 864 = .ok (.iadd, 1) := by decide +kernel
theorem dL_law_865 : decode cL_law 865 = .ok (.iaload, 1) := by decide +kernel
theorem dL_law_866 : decode cL_law 866 = .ok (.invokevirtual 87, 3) := by decide +kernel
theorem dL_law_869 : decode cL_law 869 = .ok (.pop, 1) := by decide +kernel
theorem dL_law_870 : decode cL_law 870 = .ok (.goto 408, 3) := by decide +kernel
theorem dL_law_873 : decode cL_law 873 = .ok (.aload_n 1, 1) := by decide +kernel
theorem dL_law_874 : decode cL_law 874 = .ok (.aload_n 0, 1) := by decide +kernel
theorem dL_law_875 : decode cL_law 875 = .ok (.iload_n 3, 1) := by decide +kernel
theorem dL_law_876 : decode cL_law 876 = .ok (.iconst 1, 1) := by decide +kernel
theorem dL_law_877 : decode cL_law 877 = .ok (.iadd, 1) := by decide +kernel
theorem dL_law_878 : decode cL_law 878 = .ok (.iaload, 1) := by decide +kernel
theorem dL_law_879 : decode cL_law 879 = .ok (.aload_n 0, 1) := by decide +kernel
theorem dL_law_880 : decode cL_law 880 = .ok (.iload_n 3, 1) := by decide +kernel
theorem dL_law_881 : decode cL_law 881 = .ok (.iconst 2, 1) := by decide +kernel
theorem dL_law_882 : decode cL_law 882 = .ok (.iadd, 1) := by decide +kernel
theorem dL_law_883 : decode cL_law 883 = .ok (.iaload, 1) := by decide +kernel
theorem dL_law_884 : decode cL_law 884 = .ok (.aload_n 0, 1) := by decide +kernel
theorem dL_law_885 : decode cL_law 885 = .ok (.iload_n 3, 1) := by decide +kernel
theorem dL_law_886 : decode cL_law 886 = .ok (.iconst 3, 1) := by decide +kernel
theorem dL_law_887 : decode cL_law 887 = .ok (.iadd, 1) := by decide +kernel
theorem dL_law_888 : decode cL_law 888 = .ok (.iaload, 1) := by decide +kernel
theorem dL_law_889 : decode cL_law 889 = .ok (.invokevirtual 88, 3) := by decide +kernel
theorem dL_law_892 : decode cL_law 892 = .ok (.pop, 1) := by decide +kernel
theorem dL_law_893 : decode cL_law 893 = .ok (.aload_n 2, 1) := by decide +kernel
theorem dL_law_894 : decode cL_law 894 = .ok (.aload_n 0, 1) := by decide +kernel
theorem dL_law_895 : decode cL_law 895 = .ok (.iload_n 3, 1) := by decide +kernel
theorem dL_law_896 : decode cL_law 896 = .ok (.iconst 1, 1) := by decide +kernel
theorem dL_law_897 : decode cL_law 897 = .ok (.iadd, 1) := by decide +kernel
theorem dL_law_898 : decode cL_law 898 = .ok (.iaload, 1) := by decide +kernel
theorem dL_law_899 : decode cL_law 899 = .ok (.aload_n 0, 1) := by decide +kernel
theorem dL_law_900 : decode cL_law 900 = .ok (.iload_n 3, 1) := by decide +kernel
theorem dL_law_901 : decode cL_law 901 = .ok (.iconst 2, 1) := by decide +kernel
theorem dL_law_902 : decode cL_law 902 = .ok (.iadd, 1) := by decide +kernel
theorem dL_law_903 : decode cL_law 903 = .ok (.iaload, 1) := by decide +kernel
theorem dL_law_904 : decode cL_law 904 = .ok (.aload_n 0, 1) := by decide +kernel
theorem dL_law_905 : decode cL_law 905 = .ok (.iload_n 3, 1) := by decide +kernel
theorem dL_law_906 : decode cL_law 906 = .ok (.iconst 3, 1) := by decide +kernel
theorem dL_law_907 : decode cL_law 907 = .ok (.iadd, 1) := by decide +kernel
theorem dL_law_908 : decode cL_law 908 = .ok (.iaload, 1) := by decide +kernel
theorem dL_law_909 : decode cL_law 909 = .ok (.invokevirtual 91, 3) := by decide +kernel
theorem dL_law_912 : decode cL_law 912 = .ok (.pop, 1) := by decide +kernel
theorem dL_law_913 : decode cL_law 913 = .ok (.goto 365, 3) := by decide +kernel
theorem dL_law_916 : decode cL_law 916 = .ok (.aload_n 1, 1) := by decide +kernel
theorem dL_law_917 : decode cL_law 917 = .ok (.invokevirtual 92, 3) := by decide +kernel
theorem dL_law_920 : decode cL_law 920 = .ok (.pop, 1) := by decide +kernel
theorem dL_law_921 : decode cL_law 921 = .ok (.aload_n 2, 1) := by decide +kernel
theorem dL_law_922 : decode cL_law 922 = .ok (.invokevirtual 96, 3) := by decide +kernel
theorem dL_law_925 : decode cL_law 925 = .ok (.pop, 1) := by decide +kernel
theorem dL_law_926 : decode cL_law 926 = .ok (.goto 352, 3) := by decide +kernel
theorem dL_law_929 : decode cL_law 929 = .ok (.aload_n 1, 1) := by decide +kernel
theorem dL_law_930 : decode cL_law 930 = .ok (.invokevirtual 97, 3) := by decide +kernel
theorem dL_law_933 : decode cL_law 933 = .ok (.pop, 1) := by decide +kernel
theorem dL_law_934 : decode cL_law 934 = .ok (.aload_n 2, 1) := by decide +kernel
theorem dL_law_935 : decode cL_law 935 = .ok (.invokevirtual 100, 3) := by decide +kernel
theorem dL_law_938 : decode cL_law 938 = .ok (.pop, 1) := by decide +kernel
theorem dL_law_939 : decode cL_law 939 = .ok (.goto 339, 3) := by decide +kernel
theorem dL_law_942 : decode cL_law 942 = .ok (.aload_n 1, 1) := by decide +kernel
theorem dL_law_943 : decode cL_law 943 = .ok (.aload_n 0, 1) := by decide +kernel
theorem dL_law_944 : decode cL_law 944 = .ok (.iload_n 3, 1) := by decide +kernel
theorem dL_law_945 : decode cL_law 945 = .ok (.iconst 1, 1) := by decide +kernel
theorem dL_law_946 : decode cL_law 946 = .ok (.iadd, 1) := by decide +kernel
theorem dL_law_947 : decode cL_law 947 = .ok (.iaload, 1) := by decide +kernel
theorem dL_law_948 : decode cL_law 948 = .ok (.aload_n 0, 1) := by decide +kernel
theorem dL_law_949 : decode cL_law 949 = .ok (.iload_n 3, 1) := by decide +kernel
theorem dL_law_950 : decode cL_law 950 = .ok (.iconst 2, 1) := by decide +kernel
theorem dL_law_951 : decode cL_law 951 = .ok (.iadd, 1) := by decide +kernel
theorem dL_law_952 : decode cL_law 952 = .ok (.iaload, 1) := by decide +kernel
theorem dL_law_953 : decode cL_law 953 = .ok (.invokevirtual 101, 3) := by decide +kernel
theorem dL_law_956 : decode cL_law 956 = .ok (.pop, 1) := by decide +kernel
theorem dL_law_957 : decode cL_law 957 = .ok (.aload_n 2, 1) := by decide +kernel
theorem dL_law_958 : decode cL_law 958 = .ok (.aload_n 0, 1) := by decide +kernel
theorem dL_law_959 : decode cL_law 959 = .ok (.iload_n 3, 1) := by decide +kernel
theorem dL_law_960 : decode cL_law 960 = .ok (.iconst 1, 1) := by decide +kernel
theorem dL_law_961 : decode cL_law 961 = .ok (.iadd, 1) := by decide +kernel
theorem dL_law_962 : decode cL_law 962 = .ok (.iaload, 1) := by decide +kernel
theorem dL_law_963 : decode cL_law 963 = .ok (.aload_n 0, 1) := by decide +kernel
theorem dL_law_964 : decode cL_law 964 = .ok (.iload_n 3, 1) := by decide +kernel
theorem dL_law_965 : decode cL_law 965 = .ok (.iconst 2, 1) := by decide +kernel
theorem dL_law_966 : decode cL_law 966 = .ok (.iadd, 1) := by decide +kernel
theorem dL_law_967 : decode cL_law 967 = .ok (.iaload, 1) := by decide +kernel
theorem dL_law_968 : decode cL_law 968 = .ok (.invokevirtual 104, 3) := by decide +kernel
theorem dL_law_971 : decode cL_law 971 = .ok (.pop, 1) := by decide +kernel
theorem dL_law_972 : decode cL_law 972 = .ok (.goto 306, 3) := by decide +kernel
theorem dL_law_975 : decode cL_law 975 = .ok (.aload_n 1, 1) := by decide +kernel
theorem dL_law_976 : decode cL_law 976 = .ok (.aload_n 0, 1) := by decide +kernel
theorem dL_law_977 : decode cL_law 977 = .ok (.iload_n 3, 1) := by decide +kernel
theorem dL_law_978 : decode cL_law 978 = .ok (.iconst 1, 1) := by decide +kernel
theorem dL_law_979 : decode cL_law 979 = .ok (.iadd, 1) := by decide +kernel
theorem dL_law_980 : decode cL_law 980 = .ok (.iaload, 1) := by decide +kernel
theorem dL_law_981 : decode cL_law 981 = .ok (.i2l, 1) := by decide +kernel
theorem dL_law_982 : decode cL_law 982 = .ok (.bipush 32, 2) := by decide +kernel
theorem dL_law_984 : decode cL_law 984 = .ok (.lshl, 1) := by decide +kernel
theorem dL_law_985 : decode cL_law 985 = .ok (.aload_n 0, 1) := by decide +kernel
theorem dL_law_986 : decode cL_law 986 = .ok (.iload_n 3, 1) := by decide +kernel
theorem dL_law_987 : decode cL_law 987 = .ok (.iconst 2, 1) := by decide +kernel
theorem dL_law_988 : decode cL_law 988 = .ok (.iadd, 1) := by decide +kernel
theorem dL_law_989 : decode cL_law 989 = .ok (.iaload, 1) := by decide +kernel
theorem dL_law_990 : decode cL_law 990 = .ok (.i2l, 1) := by decide +kernel
theorem dL_law_991 : decode cL_law 991 = .ok (.ldc2_w 13, 3) := by decide +kernel
theorem dL_law_994 : decode cL_law 994 = .ok (.land, 1) := by decide +kernel
theorem dL_law_995 : decode cL_law 995 = .ok (.lor, 1) := by decide +kernel
theorem dL_law_996 : decode cL_law 996 = .ok (.invokevirtual 105, 3) := by decide +kernel
theorem dL_law_999 : decode cL_law 999 = .ok (.pop, 1) := by decide +kernel
theorem dL_law_1000 : decode cL_law 1000 = .ok (.aload_n 2, 1) := by decide +kernel
theorem dL_law_1001 : decode cL_law 1001 = .ok (.aload_n 0, 1) := by decide +kernel
theorem dL_law_1002 : decode cL_law 1002 = .ok (.iload_n 3, 1) := by decide +kernel
theorem dL_law_1003 : decode cL_law 1003 = .ok (.iconst 1, 1) := by decide +kernel
theorem dL_law_1004 : decode cL_law 1004 = .ok (.iadd, 1) := by decide +kernel
theorem dL_law_1005 : decode cL_law 1005 = .ok (.iaload, 1) := by decide +kernel
theorem dL_law_1006 : decode cL_law 1006 = .ok (.i2l, 1) := by decide +kernel
theorem dL_law_1007 : decode cL_law 1007 = .ok (.bipush 32, 2) := by decide +kernel
theorem dL_law_1009 : decode cL_law 1009 = .ok (.lshl, 1) := by decide +kernel
theorem dL_law_1010 : decode cL_law 1010 = .ok (.aload_n 0, 1) := by decide +kernel
theorem dL_law_1011 : decode cL_law 1011 = .ok (.iload_n 3, 1) := by decide +kernel
theorem dL_law_1012 : decode cL_law 1012 = .ok (.iconst 2, 1) := by decide +kernel
theorem dL_law_1013 : decode cL_law 1013 = .ok (.iadd, 1) := by decide +kernel
theorem dL_law_1014 : decode cL_law 1014 = .ok (.iaload, 1) := by decide +kernel
theorem dL_law_1015 : decode cL_law 1015 = .ok (.i2l, 1) := by decide +kernel
theorem dL_law_1016 : decode cL_law 1016 = .ok (.ldc2_w 13, 3) := by decide +kernel
theorem dL_law_1019 : decode cL_law 1019 = .ok (.land, 1) := by decide +kernel
theorem dL_law_1020 : decode cL_law 1020 = .ok (.lor, 1) := by decide +kernel
theorem dL_law_1021 : decode cL_law 1021 = .ok (.invokevirtual 109, 3) := by decide +kernel
theorem dL_law_1024 : decode cL_law 1024 = .ok (.pop, 1) := by decide +kernel
theorem dL_law_1025 : decode cL_law 1025 = .ok (.goto 253, 3) := by decide +kernel
theorem dL_law_1028 : decode cL_law 1028 = .ok (.aload_n 1, 1) := by decide +kernel
theorem dL_law_1029 : decode cL_law 1029 = .ok (.aload_n 0, 1) := by decide +kernel
theorem dL_law_1030 : decode cL_law 1030 = .ok (.iload_n 3, 1) := by decide +kernel
theorem dL_law_1031 : decode cL_law 1031 = .ok (.iconst 1, 1) := by decide +kernel
theorem dL_law_1032 : decode cL_law 1032 = .ok (.iadd, 1) := by decide +kernel
theorem dL_law_1033 : decode cL_law 1033 = .ok (.iaload, 1) := by decide +kernel
theorem dL_law_1034 : decode cL_law 1034 = .ok (.aload_n 0, 1) := by decide +kernel
theorem dL_law_1035 : decode cL_law 1035 = .ok (.iload_n 3, 1) := by decide +kernel
theorem dL_law_1036 : decode cL_law 1036 = .ok (.iconst 2, 1) := by decide +kernel
theorem dL_law_1037 : decode cL_law 1037 = .ok (.iadd, 1) := by decide +kernel
theorem dL_law_1038 : decode cL_law 1038 = .ok (.iaload, 1) := by decide +kernel
theorem dL_law_1039 : decode cL_law 1039 = .ok (.invokevirtual 110, 3) := by decide +kernel
theorem dL_law_1042 : decode cL_law 1042 = .ok (.pop, 1) := by decide +kernel
theorem dL_law_1043 : decode cL_law 1043 = .ok (.aload_n 2, 1) := by decide +kernel
theorem dL_law_1044 : decode cL_law 1044 = .ok (.aload_n 0, 1) := by decide +kernel
theorem dL_law_1045 : decode cL_law 1045 = .ok (.iload_n 3, 1) := by decide +kernel
theorem dL_law_1046 : decode cL_law 1046 = .ok (.iconst 1, 1) := by decide +kernel
theorem dL_law_1047 : decode cL_law 1047 = .ok (.iadd, 1) := by decide +kernel
theorem dL_law_1048 : decode cL_law 1048 = .ok (.iaload, 1) := by decide +kernel
theorem dL_law_1049 : decode cL_law 1049 = .ok (.aload_n 0, 1) := by decide +kernel
theorem dL_law_1050 : decode cL_law 1050 = .ok (.iload_n 3, 1) := by decide +kernel
theorem dL_law_1051 : decode cL_law 1051 = .ok (.iconst 2, 1) := by decide +kernel
theorem dL_law_1052 : decode cL_law 1052 = .ok (.iadd, 1) := by decide +kernel
theorem dL_law_1053 : decode cL_law 1053 = .ok (.iaload, 1) := by decide +kernel
theorem dL_law_1054 : decode cL_law 1054 = .ok (.invokevirtual 113, 3) := by decide +kernel
theorem dL_law_1057 : decode cL_law 1057 = .ok (.pop, 1) := by decide +kernel
theorem dL_law_1058 : decode cL_law 1058 = .ok (.goto 220, 3) := by decide +kernel
theorem dL_law_1061 : decode cL_law 1061 = .ok (.aload_n 1, 1) := by decide +kernel
theorem dL_law_1062 : decode cL_law 1062 = .ok (.aload_n 0, 1) := by decide +kernel
theorem dL_law_1063 : decode cL_law 1063 = .ok (.iload_n 3, 1) := by decide +kernel
theorem dL_law_1064 : decode cL_law 1064 = .ok (.iconst 1, 1) := by decide +kernel
theorem dL_law_1065 : decode cL_law 1065 = .ok (.iadd, 1) := by decide +kernel
theorem dL_law_1066 : decode cL_law 1066 = .ok (.iaload, 1) := by decide +kernel
theorem dL_law_1067 : decode cL_law 1067 = .ok (.invokevirtual 114, 3) := by decide +kernel
theorem dL_law_1070 : decode cL_law 1070 = .ok (.pop, 1) := by decide +kernel
theorem dL_law_1071 : decode cL_law 1071 = .ok (.aload_n 2, 1) := by decide +kernel
theorem dL_law_1072 : decode cL_law 1072 = .ok (.aload_n 0, 1) := by decide +kernel
theorem dL_law_1073 : decode cL_law 1073 = .ok (.iload_n 3, 1) := by decide +kernel
theorem dL_law_1074 : decode cL_law 1074 = .ok (.iconst 1, 1) := by decide +kernel
theorem dL_law_1075 : decode cL_law 1075 = .ok (.iadd, 1) := by decide +kernel
theorem dL_law_1076 : decode cL_law 1076 = .ok (.iaload, 1) := by decide +kernel
theorem dL_law_1077 : decode cL_law 1077 = .ok (.invokevirtual 117, 3) := by decide +kernel
theorem dL_law_1080 : decode cL_law 1080 = .ok (.pop, 1) := by decide +kernel
theorem dL_law_1081 : decode cL_law 1081 = .ok (.goto 197, 3) := by decide +kernel
theorem dL_law_1084 : decode cL_law 1084 = .ok (.aload_n 1, 1) := by decide +kernel
theorem dL_law_1085 : decode cL_law 1085 = .ok (.aload_n 0, 1) := by decide +kernel
theorem dL_law_1086 : decode cL_law 1086 = .ok (.iload_n 3, 1) := by decide +kernel
theorem dL_law_1087 : decode cL_law 1087 = .ok (.iconst 1, 1) := by decide +kernel
theorem dL_law_1088 : decode cL_law 1088 = .ok (.iadd, 1) := by decide +kernel
theorem dL_law_1089 : decode cL_law 1089 = .ok (.iaload, 1) := by decide +kernel
theorem dL_law_1090 : decode cL_law 1090 = .ok (.invokevirtual 118, 3) := by decide +kernel
theorem dL_law_1093 : decode cL_law 1093 = .ok (.pop2, 1) := by decide +kernel
theorem dL_law_1094 : decode cL_law 1094 = .ok (.aload_n 2, 1) := by decide +kernel
theorem dL_law_1095 : decode cL_law 1095 = .ok (.aload_n 0, 1) := by decide +kernel
theorem dL_law_1096 : decode cL_law 1096 = .ok (.iload_n 3, 1) := by decide +kernel
theorem dL_law_1097 : decode cL_law 1097 = .ok (.iconst 1, 1) := by decide +kernel
theorem dL_law_1098 : decode cL_law 1098 = .ok (.iadd, 1) := by decide +kernel
theorem dL_law_1099 : decode cL_law 1099 = .ok (.iaload, 1) := by decide +kernel
theorem dL_law_1100 : decode cL_law 1100 = .ok (.invokevirtual 122, 3) := by decide +kernel
theorem dL_law_1103 : decode cL_law 1103 = .ok (.pop2, 1) := by decide +kernel
theorem dL_law_1104 : decode cL_law 1104 = .ok (.goto 174, 3) := by decide +kernel
theorem dL_law_1107 : decode cL_law 1107 = .ok (.aload_n 1, 1) := by decide +kernel
theorem dL_law_1108 : decode cL_law 1108 = .ok (.aload_n 0, 1) := by decide +kernel
theorem dL_law_1109 : decode cL_law 1109 = .ok (.iload_n 3, 1) := by decide +kernel
theorem dL_law_1110 : decode cL_law 1110 = .ok (.iconst 1, 1) := by decide +kernel
theorem dL_law_1111 : decode cL_law 1111 = .ok (.iadd, 1) := by decide +kernel
theorem dL_law_1112 : decode cL_law 1112 = .ok (.iaload, 1) := by decide +kernel
theorem dL_law_1113 : decode cL_law 1113 = .ok (.invokevirtual 123, 3) := by decide +kernel
theorem dL_law_1116 : decode cL_law 1116 = .ok (.pop, 1) := by decide +kernel
theorem dL_law_1117 : decode cL_law 1117 = .ok (.aload_n 2, 1) := by decide +kernel
theorem dL_law_1118 : decode cL_law 1118 = .ok (.aload_n 0, 1) := by decide +kernel
theorem dL_law_1119 : decode cL_law 1119 = .ok (.iload_n 3, 1) := by decide +kernel
theorem dL_law_1120 : decode cL_law 1120 = .ok (.iconst 1, 1) := by decide +kernel
theorem dL_law_1121 : decode cL_law 1121 = .ok (.iadd, 1) := by decide +kernel
theorem dL_law_1122 : decode cL_law 1122 = .ok (.iaload, 1) := by decide +kernel
theorem dL_law_1123 : decode cL_law 1123 = .ok (.invokevirtual 126, 3) := by decide +kernel
theorem dL_law_1126 : decode cL_law 1126 = .ok (.pop, 1) := by decide +kernel
theorem dL_law_1127 : decode cL_law 1127 = .ok (.goto 151, 3) := by decide +kernel
theorem dL_law_1130 : decode cL_law 1130 = .ok (.aload_n 1, 1) := by decide +kernel
theorem dL_law_1131 : decode cL_law 1131 = .ok (.aload_n 0, 1) := by decide +kernel
theorem dL_law_1132 : decode cL_law 1132 = .ok (.iload_n 3, 1) := by decide +kernel
theorem dL_law_1133 : decode cL_law 1133 = .ok (.iconst 1, 1) := by decide +kernel
theorem dL_law_1134 : decode cL_law 1134 = .ok (.iadd, 1) := by decide +kernel
theorem dL_law_1135 : decode cL_law 1135 = .ok (.iaload, 1) := by decide +kernel
theorem dL_law_1136 : decode cL_law 1136 = .ok (.i2l, 1) := by decide +kernel
theorem dL_law_1137 : decode cL_law 1137 = .ok (.bipush 32, 2) := by decide +kernel
theorem dL_law_1139 : decode cL_law 1139 = .ok (.lshl, 1) := by decide +kernel
theorem dL_law_1140 : decode cL_law 1140 = .ok (.aload_n 0, 1) := by decide +kernel
theorem dL_law_1141 : decode cL_law 1141 = .ok (.iload_n 3, 1) := by decide +kernel
theorem dL_law_1142 : decode cL_law 1142 = .ok (.iconst 2, 1) := by decide +kernel
theorem dL_law_1143 : decode cL_law 1143 = .ok (.iadd, 1) := by decide +kernel
theorem dL_law_1144 : decode cL_law 1144 = .ok (.iaload, 1) := by decide +kernel
theorem dL_law_1145 : decode cL_law 1145 = .ok (.i2l, 1) := by decide +kernel
theorem dL_law_1146 : decode cL_law 1146 = .ok (.ldc2_w 13, 3) := by decide +kernel
theorem dL_law_1149 : decode cL_law 1149 = .ok (.land, 1) := by decide +kernel
theorem dL_law_1150 : decode cL_law 1150 = .ok (.lor, 1) := by decide +kernel
theorem dL_law_1151 : decode cL_law 1151 = .ok (.aload_n 0, 1) := by decide +kernel
theorem dL_law_1152 : decode cL_law 1152 = .ok (.iload_n 3, 1) := by decide +kernel
theorem dL_law_1153 : decode cL_law 1153 = .ok (.iconst 3, 1) := by decide +kernel
theorem dL_law_1154 : decode cL_law 1154 = .ok (.iadd, 1) := by decide +kernel
theorem dL_law_1155 : decode cL_law 1155 = .ok (.iaload, 1) := by decide +kernel
theorem dL_law_1156 : decode cL_law 1156 = .ok (.invokevirtual 127, 3) := by decide +kernel
theorem dL_law_1159 : decode cL_law 1159 = .ok (.pop, 1) := by decide +kernel
theorem dL_law_1160 : decode cL_law 1160 = .ok (.aload_n 2, 1) := by decide +kernel
theorem dL_law_1161 : decode cL_law 1161 = .ok (.aload_n 0, 1) := by decide +kernel
theorem dL_law_1162 : decode cL_law 1162 = .ok (.iload_n 3, 1) := by decide +kernel
theorem dL_law_1163 : decode cL_law 1163 = .ok (.iconst 1, 1) := by decide +kernel
theorem dL_law_1164 : decode cL_law 1164 = .ok (.iadd, 1) := by decide +kernel
theorem dL_law_1165 : decode cL_law 1165 = .ok (.iaload, 1) := by decide +kernel
theorem dL_law_1166 : decode cL_law 1166 = .ok (.i2l, 1) := by decide +kernel
theorem dL_law_1167 : decode cL_law 1167 = .ok (.bipush 32, 2) := by decide +kernel
theorem dL_law_1169 : decode cL_law 1169 = .ok (.lshl, 1) := by decide +kernel
theorem dL_law_1170 : decode cL_law 1170 = .ok (.aload_n 0, 1) := by decide +kernel
theorem dL_law_1171 : decode cL_law 1171 = .ok (.iload_n 3, 1) := by decide +kernel
theorem dL_law_1172 : decode cL_law 1172 = .ok (.iconst 2, 1) := by decide +kernel
theorem dL_law_1173 : decode cL_law 1173 = .ok (.iadd, 1) := by decide +kernel
theorem dL_law_1174 : decode cL_law 1174 = .ok (.iaload, 1) := by decide +kernel
theorem dL_law_1175 : decode cL_law 1175 = .ok (.i2l, 1) := by decide +kernel
theorem dL_law_1176 : decode cL_law 1176 = .ok (.ldc2_w 13, 3) := by decide +kernel
theorem dL_law_1179 : decode cL_law 1179 = .ok (.land, 1) := by decide +kernel
theorem dL_law_1180 : decode cL_law 1180 = .ok (.lor, 1) := by decide +kernel
theorem dL_law_1181 : decode cL_law 1181 = .ok (.aload_n 0, 1) := by decide +kernel
theorem dL_law_1182 : decode cL_law 1182 = .ok (.iload_n 3, 1) := by decide +kernel
theorem dL_law_1183 : decode cL_law 1183 = .ok (.iconst 3, 1) := by decide +kernel
theorem dL_law_1184 : decode cL_law 1184 = .ok (.iadd, 1) := by decide +kernel
theorem dL_law_1185 : decode cL_law 1185 = .ok (.iaload, 1) := by decide +kernel
theorem dL_law_1186 : decode cL_law 1186 = .ok (.invokevirtual 131, 3) := by decide +kernel
theorem dL_law_1189 : decode cL_law 1189 = .ok (.pop, 1) := by decide +kernel
theorem dL_law_1190 : decode cL_law 1190 = .ok (.goto 88, 3) := by decide +kernel
theorem dL_law_1193 : decode cL_law 1193 = .ok (.aload_n 1, 1) := by decide +kernel
theorem dL_law_1194 : decode cL_law 1194 = .ok (.invokevirtual 132, 3) := by decide +kernel
theorem dL_law_1197 : decode cL_law 1197 = .ok (.pop, 1) := by decide +kernel
theorem dL_law_1198 : decode cL_law 1198 = .ok (.aload_n 2, 1) := by decide +kernel
theorem dL_law_1199 : decode cL_law 1199 = .ok (.invokevirtual 135, 3) := by decide +kernel
theorem dL_law_1202 : decode cL_law 1202 = .ok (.pop, 1) := by decide +kernel
theorem dL_law_1203 : decode cL_law 1203 = .ok (.goto 75, 3) := by decide +kernel
theorem dL_law_1206 : decode cL_law 1206 = .ok (.aload_n 1, 1) := by decide +kernel
theorem dL_law_1207 : decode cL_law 1207 = .ok (.invokevirtual 136, 3) := by decide +kernel
theorem dL_law_1210 : decode cL_law 1210 = .ok (.pop, 1) := by decide +kernel
theorem dL_law_1211 : decode cL_law 1211 = .ok (.aload_n 2, 1) := by decide +kernel
theorem dL_law_1212 : decode cL_law 1212 = .ok (.invokevirtual 139, 3) := by decide +kernel
theorem dL_law_1215 : decode cL_law 1215 = .ok (.pop, 1) := by decide +kernel
theorem dL_law_1216 : decode cL_law 1216 = .ok (.goto 62, 3) := by decide +kernel
theorem dL_law_1219 : decode cL_law 1219 = .ok (.aload_n 1, 1) := by decide +kernel
theorem dL_law_1220 : decode cL_law 1220 = .ok (.invokevirtual 140, 3) := by decide +kernel
theorem dL_law_1223 : decode cL_law 1223 = .ok (.pop, 1) := by decide +kernel
theorem dL_law_1224 : decode cL_law 1224 = .ok (.aload_n 2, 1) := by decide +kernel
theorem dL_law_1225 : decode cL_law 1225 = .ok (.invokevirtual 143, 3) := by decide +kernel
theorem dL_law_1228 : decode cL_law 1228 = .ok (.pop, 1) := by decide +kernel
theorem dL_law_1229 : decode cL_law 1229 = .ok (.goto 49, 3) := by decide +kernel
theorem dL_law_1232 : decode cL_law 1232 = .ok (.aload_n 1, 1) := by decide +kernel
theorem dL_law_1233 : decode cL_law 1233 = .ok (.aload_n 0, 1) := by decide +kernel
theorem dL_law_1234 : decode cL_law 1234 = .ok (.iload_n 3, 1) := by decide +kernel
theorem dL_law_1235 : decode cL_law 1235 = .ok (.iconst 1, 1) := by decide +kernel
theorem dL_law_1236 : decode cL_law 1236 = .ok (.iadd, 1) := by decide +kernel
theorem dL_law_1237 : decode cL_law 1237 = .ok (.iaload, 1) := by decide +kernel
theorem dL_law_1238 : decode cL_law 1238 = .ok (.invokevirtual 144, 3) := by decide +kernel
theorem dL_law_1241 : decode cL_law 1241 = .ok (.pop, 1) := by decide +kernel
theorem dL_law_1242 : decode cL_law 1242 = .ok (.aload_n 2, 1) := by decide +kernel
theorem dL_law_1243 : decode cL_law 1243 = .ok (.aload_n 0, 1) := by decide +kernel
theorem dL_law_1244 : decode cL_law 1244 = .ok (.iload_n 3, 1) := by decide +kernel
theorem dL_law_1245 : decode cL_law 1245 = .ok (.iconst 1, 1) := by decide +kernel
theorem dL_law_1246 : decode cL_law 1246 = .ok (.iadd, 1) := by decide +kernel
theorem dL_law_1247 : decode cL_law 1247 = .ok (.iaload, 1) := by decide +kernel
theorem dL_law_1248 : decode cL_law 1248 = .ok (.invokevirtual 147, 3) := by decide +kernel
theorem dL_law_1251 : decode cL_law 1251 = .ok (.pop, 1) := by decide +kernel
theorem dL_law_1252 : decode cL_law 1252 = .ok (.goto 26, 3) := by decide +kernel
theorem dL_law_1255 : decode cL_law 1255 = .ok (.aload_n 1, 1) := by decide +kernel
theorem dL_law_1256 : decode cL_law 1256 = .ok (.aload_n 0, 1) := by decide +kernel
theorem dL_law_1257 : decode cL_law 1257 = .ok (.iload_n 3, 1) := by decide +kernel
theorem dL_law_1258 : decode cL_law 1258 = .ok (.iconst 1, 1) := by decide +kernel
theorem dL_law_1259 : decode cL_law 1259 = .ok (.iadd, 1) := by decide +kernel
theorem dL_law_1260 : decode cL_law 1260 = .ok (.iaload, 1) := by decide +kernel
theorem dL_law_1261 : decode cL_law 1261 = .ok (.invokevirtual 148, 3) := by decide +kernel
theorem dL_law_1264 : decode cL_law 1264 = .ok (.pop, 1) := by decide +kernel
theorem dL_law_1265 : decode cL_law 1265 = .ok (.aload_n 2, 1) := by decide +kernel
theorem dL_law_1266 : decode cL_law 1266 = .ok (.aload_n 0, 1) := by decide +kernel
theorem dL_law_1267 : decode cL_law 1267 = .ok (.iload_n 3, 1) := by decide +kernel
theorem dL_law_1268 : decode cL_law 1268 = .ok (.iconst 1, 1) := by decide +kernel
theorem dL_law_1269 : decode cL_law 1269 = .ok (.iadd, 1) := by decide +kernel
theorem dL_law_1270 : decode cL_law 1270 = .ok (.iaload, 1) := by decide +kernel
theorem dL_law_1271 : decode cL_law 1271 = .ok (.invokevirtual 151, 3) := by decide +kernel
theorem dL_law_1274 : decode cL_law 1274 = .ok (.pop, 1) := by decide +kernel
theorem dL_law_1275 : decode cL_law 1275 = .ok (.goto 3, 3) := by decide +kernel
theorem dL_law_1278 : decode cL_law 1278 = .ok (.iinc 3 9, 3) := by decide +kernel
theorem dL_law_1281 : decode cL_law 1281 = .ok (.goto (-1263), 3) := by decide +kernel
theorem dL_law_1284 : decode cL_law 1284 = .ok (.iconst 1, 1) := by decide +kernel
theorem dL_law_1285 : decode cL_law 1285 = .ok (.ireturn, 1) := by decide +kernel
theorem sc_in {G : vG} {I : Nat} {c : Int32} (k : Nat) (hL : I + 9 ≤ gL G) (hB : gL G ≤ 4608) (hc : c = nI k) (hk : k < 9) : vp_in (nI I + c) (gL G) := by
  rw [hc, nI_add]
  exact vp_in_nI (by omega) (by omega)
theorem sc_in0 {G : vG} {I : Nat} (hL : I + 9 ≤ gL G) (hB : gL G ≤ 4608) : vp_in (nI I) (gL G) := vp_in_nI (by omega) (by omega)
set_option maxRecDepth 100000 in
set_option maxHeartbeats 40000000 in
theorem law_0 {G : vG} {l : Launch} (σ : Sg) (I : Nat) (hV : LT σ) (hL : I + 9 ≤ gL G) (hB : gL G ≤ 4608) (hk : ∀ σ2 : Sg, LT σ2 → R G l yL_law cL_law 4 (some .boolean) 11 600000 7302250 (fun r _ => r = some (.int 1)) 18 [some (.ref 1000200), some (.ref 0), some (.ref 140), some (.int ((nI I) + 9))] [] (WW σ2) 173 3534) : R G l yL_law cL_law 4 (some .boolean) 11 600000 7302250 (fun r _ => r = some (.int 1)) 176 [some (.ref 1000200), some (.ref 0), some (.ref 140), some (.int (nI I))] [] (WW σ) 173 3534 := by
  refine R_aload_n (pc := 176) dL_law_176 rfl rfl ?_
  refine R_aload_n (pc := 177) dL_law_177 rfl rfl ?_
  refine R_iload_n (pc := 178) dL_law_178 rfl rfl ?_
  refine R_iconst (pc := 179) (v := 1) dL_law_179 (by decide) ?_
  refine R_iadd (pc := 180) dL_law_180 ?_
  refine R_sld (pc := 181) dL_law_181 (sc_in 1 hL hB (by decide) (by decide)) ?_
  refine R_aload_n (pc := 182) dL_law_182 rfl rfl ?_
  refine R_iload_n (pc := 183) dL_law_183 rfl rfl ?_
  refine R_iconst (pc := 184) (v := 2) dL_law_184 (by decide) ?_
  refine R_iadd (pc := 185) dL_law_185 ?_
  refine R_sld (pc := 186) dL_law_186 (sc_in 2 hL hB (by decide) (by decide)) ?_
  refine R_aload_n (pc := 187) dL_law_187 rfl rfl ?_
  refine R_iload_n (pc := 188) dL_law_188 rfl rfl ?_
  refine R_iconst (pc := 189) (v := 3) dL_law_189 (by decide) ?_
  refine R_iadd (pc := 190) dL_law_190 ?_
  refine R_sld (pc := 191) dL_law_191 (sc_in 3 hL hB (by decide) (by decide)) ?_
  refine R_aload_n (pc := 192) dL_law_192 rfl rfl ?_
  refine R_iload_n (pc := 193) dL_law_193 rfl rfl ?_
  refine R_iconst (pc := 194) (v := 4) dL_law_194 (by decide) ?_
  refine R_iadd (pc := 195) dL_law_195 ?_
  refine R_sld (pc := 196) dL_law_196 (sc_in 4 hL hB (by decide) (by decide)) ?_
  refine R_aload_n (pc := 197) dL_law_197 rfl rfl ?_
  refine R_iload_n (pc := 198) dL_law_198 rfl rfl ?_
  refine R_iconst (pc := 199) (v := 5) dL_law_199 (by decide) ?_
  refine R_iadd (pc := 200) dL_law_200 ?_
  refine R_sld (pc := 201) dL_law_201 (sc_in 5 hL hB (by decide) (by decide)) ?_
  refine R_i2l (pc := 202) dL_law_202 ?_
  refine R_bipush (pc := 203) (v := 32) dL_law_203 (by decide) ?_
  refine R_lshl (pc := 205) dL_law_205 ?_
  refine R_aload_n (pc := 206) dL_law_206 rfl rfl ?_
  refine R_iload_n (pc := 207) dL_law_207 rfl rfl ?_
  refine R_bipush (pc := 208) (v := 6) dL_law_208 (by decide) ?_
  refine R_iadd (pc := 210) dL_law_210 ?_
  refine R_sld (pc := 211) dL_law_211 (sc_in 6 hL hB (by decide) (by decide)) ?_
  refine R_i2l (pc := 212) dL_law_212 ?_
  refine R_ldc2 (pc := 213) w_1271c dL_law_213 ?_
  refine R_land (pc := 216) dL_law_216 ?_
  refine R_lor (pc := 217) dL_law_217 ?_
  refine R_aload_n (pc := 218) dL_law_218 rfl rfl ?_
  refine R_iload_n (pc := 219) dL_law_219 rfl rfl ?_
  refine R_bipush (pc := 220) (v := 7) dL_law_220 (by decide) ?_
  refine R_iadd (pc := 222) dL_law_222 ?_
  refine R_sld (pc := 223) dL_law_223 (sc_in 7 hL hB (by decide) (by decide)) ?_
  refine R_aload_n (pc := 224) dL_law_224 rfl rfl ?_
  refine R_iload_n (pc := 225) dL_law_225 rfl rfl ?_
  refine R_bipush (pc := 226) (v := 8) dL_law_226 (by decide) ?_
  refine R_iadd (pc := 228) dL_law_228 ?_
  refine R_sld (pc := 229) dL_law_229 (sc_in 8 hL hB (by decide) (by decide)) ?_
  refine k_L_15 (pc := 230) (gk_X8_card _ _ _ _ _ _ _ _ hV.1 hV.2.2.1 hV.2.2.2) rfl (c_0 _) (by decide) (Nat.le_of_ble_eq_true rfl) (Nat.le_of_ble_eq_true rfl) (Nat.le_of_ble_eq_true rfl) dL_law_230 (fun y3 w2 h => ?_)
  obtain ⟨hx5, σx1, rfl, hV2, hW4, hK6, hK7⟩ := h
  refine R_pop (pc := 233) dL_law_233 rfl ?_
  refine R_aload_n (pc := 234) dL_law_234 rfl rfl ?_
  refine R_aload_n (pc := 235) dL_law_235 rfl rfl ?_
  refine R_iload_n (pc := 236) dL_law_236 rfl rfl ?_
  refine R_iconst (pc := 237) (v := 1) dL_law_237 (by decide) ?_
  refine R_iadd (pc := 238) dL_law_238 ?_
  refine R_sld (pc := 239) dL_law_239 (sc_in 1 hL hB (by decide) (by decide)) ?_
  refine R_aload_n (pc := 240) dL_law_240 rfl rfl ?_
  refine R_iload_n (pc := 241) dL_law_241 rfl rfl ?_
  refine R_iconst (pc := 242) (v := 2) dL_law_242 (by decide) ?_
  refine R_iadd (pc := 243) dL_law_243 ?_
  refine R_sld (pc := 244) dL_law_244 (sc_in 2 hL hB (by decide) (by decide)) ?_
  refine R_aload_n (pc := 245) dL_law_245 rfl rfl ?_
  refine R_iload_n (pc := 246) dL_law_246 rfl rfl ?_
  refine R_iconst (pc := 247) (v := 3) dL_law_247 (by decide) ?_
  refine R_iadd (pc := 248) dL_law_248 ?_
  refine R_sld (pc := 249) dL_law_249 (sc_in 3 hL hB (by decide) (by decide)) ?_
  refine R_aload_n (pc := 250) dL_law_250 rfl rfl ?_
  refine R_iload_n (pc := 251) dL_law_251 rfl rfl ?_
  refine R_iconst (pc := 252) (v := 4) dL_law_252 (by decide) ?_
  refine R_iadd (pc := 253) dL_law_253 ?_
  refine R_sld (pc := 254) dL_law_254 (sc_in 4 hL hB (by decide) (by decide)) ?_
  refine R_aload_n (pc := 255) dL_law_255 rfl rfl ?_
  refine R_iload_n (pc := 256) dL_law_256 rfl rfl ?_
  refine R_iconst (pc := 257) (v := 5) dL_law_257 (by decide) ?_
  refine R_iadd (pc := 258) dL_law_258 ?_
  refine R_sld (pc := 259) dL_law_259 (sc_in 5 hL hB (by decide) (by decide)) ?_
  refine R_i2l (pc := 260) dL_law_260 ?_
  refine R_bipush (pc := 261) (v := 32) dL_law_261 (by decide) ?_
  refine R_lshl (pc := 263) dL_law_263 ?_
  refine R_aload_n (pc := 264) dL_law_264 rfl rfl ?_
  refine R_iload_n (pc := 265) dL_law_265 rfl rfl ?_
  refine R_bipush (pc := 266) (v := 6) dL_law_266 (by decide) ?_
  refine R_iadd (pc := 268) dL_law_268 ?_
  refine R_sld (pc := 269) dL_law_269 (sc_in 6 hL hB (by decide) (by decide)) ?_
  refine R_i2l (pc := 270) dL_law_270 ?_
  refine R_ldc2 (pc := 271) w_1271c dL_law_271 ?_
  refine R_land (pc := 274) dL_law_274 ?_
  refine R_lor (pc := 275) dL_law_275 ?_
  refine R_aload_n (pc := 276) dL_law_276 rfl rfl ?_
  refine R_iload_n (pc := 277) dL_law_277 rfl rfl ?_
  refine R_bipush (pc := 278) (v := 7) dL_law_278 (by decide) ?_
  refine R_iadd (pc := 280) dL_law_280 ?_
  refine R_sld (pc := 281) dL_law_281 (sc_in 7 hL hB (by decide) (by decide)) ?_
  refine R_aload_n (pc := 282) dL_law_282 rfl rfl ?_
  refine R_iload_n (pc := 283) dL_law_283 rfl rfl ?_
  refine R_bipush (pc := 284) (v := 8) dL_law_284 (by decide) ?_
  refine R_iadd (pc := 286) dL_law_286 ?_
  refine R_sld (pc := 287) dL_law_287 (sc_in 8 hL hB (by decide) (by decide)) ?_
  refine k_L_19 (pc := 288) (ge_X9_card _ _ _ _ _ _ _ _ hV2) rfl (c_140 _) (by decide) (Nat.le_of_ble_eq_true rfl) (Nat.le_of_ble_eq_true rfl) (Nat.le_of_ble_eq_true rfl) dL_law_288 (fun y10 w2 h => ?_)
  obtain ⟨hx12, σx8, rfl, hV9, hW11⟩ := h
  have hT13 := st_card _ _ _ _ _ _ _ hV.1 hV.2.1 hW4 hW11
  have hQ14 := chL_fr hK6 (fr_bif (fr_X9_card _ _ _ _ _ _ _ _) hW11)
  have hQ15 := chD_fr hK7 (fr_bif (fr_X9_card _ _ _ _ _ _ _ _) hW11)
  refine R_pop (pc := 291) dL_law_291 rfl ?_
  refine R_goto (pc := 292) 1278 dL_law_292 (by decide) ?_
  refine inc_4_3_9_a (pc := 1278) dL_law_1278 ?_
  refine R_goto (pc := 1281) 18 dL_law_1281 (by decide) ?_
  exact hk _ ⟨hV9, hT13, hQ14, hQ15⟩
set_option maxRecDepth 100000 in
set_option maxHeartbeats 40000000 in
theorem law_1 {G : vG} {l : Launch} (σ : Sg) (I : Nat) (hV : LT σ) (hL : I + 9 ≤ gL G) (hB : gL G ≤ 4608) (hk : ∀ σ2 : Sg, LT σ2 → R G l yL_law cL_law 4 (some .boolean) 11 600000 7302250 (fun r _ => r = some (.int 1)) 18 [some (.ref 1000200), some (.ref 0), some (.ref 140), some (.int ((nI I) + 9))] [] (WW σ2) 173 3534) : R G l yL_law cL_law 4 (some .boolean) 11 600000 7302250 (fun r _ => r = some (.int 1)) 295 [some (.ref 1000200), some (.ref 0), some (.ref 140), some (.int (nI I))] [] (WW σ) 173 3534 := by
  refine R_aload_n (pc := 295) dL_law_295 rfl rfl ?_
  refine R_aload_n (pc := 296) dL_law_296 rfl rfl ?_
  refine R_iload_n (pc := 297) dL_law_297 rfl rfl ?_
  refine R_iconst (pc := 298) (v := 1) dL_law_298 (by decide) ?_
  refine R_iadd (pc := 299) dL_law_299 ?_
  refine R_sld (pc := 300) dL_law_300 (sc_in 1 hL hB (by decide) (by decide)) ?_
  refine R_aload_n (pc := 301) dL_law_301 rfl rfl ?_
  refine R_iload_n (pc := 302) dL_law_302 rfl rfl ?_
  refine R_iconst (pc := 303) (v := 2) dL_law_303 (by decide) ?_
  refine R_iadd (pc := 304) dL_law_304 ?_
  refine R_sld (pc := 305) dL_law_305 (sc_in 2 hL hB (by decide) (by decide)) ?_
  refine R_i2l (pc := 306) dL_law_306 ?_
  refine R_bipush (pc := 307) (v := 32) dL_law_307 (by decide) ?_
  refine R_lshl (pc := 309) dL_law_309 ?_
  refine R_aload_n (pc := 310) dL_law_310 rfl rfl ?_
  refine R_iload_n (pc := 311) dL_law_311 rfl rfl ?_
  refine R_iconst (pc := 312) (v := 3) dL_law_312 (by decide) ?_
  refine R_iadd (pc := 313) dL_law_313 ?_
  refine R_sld (pc := 314) dL_law_314 (sc_in 3 hL hB (by decide) (by decide)) ?_
  refine R_i2l (pc := 315) dL_law_315 ?_
  refine R_ldc2 (pc := 316) w_1271c dL_law_316 ?_
  refine R_land (pc := 319) dL_law_319 ?_
  refine R_lor (pc := 320) dL_law_320 ?_
  refine R_aload_n (pc := 321) dL_law_321 rfl rfl ?_
  refine R_iload_n (pc := 322) dL_law_322 rfl rfl ?_
  refine R_iconst (pc := 323) (v := 4) dL_law_323 (by decide) ?_
  refine R_iadd (pc := 324) dL_law_324 ?_
  refine R_sld (pc := 325) dL_law_325 (sc_in 4 hL hB (by decide) (by decide)) ?_
  refine k_L_20 (pc := 326) (gk_X8_caption _ _ _ _ hV.1 hV.2.2.1 hV.2.2.2) rfl (c_0 _) (by decide) (Nat.le_of_ble_eq_true rfl) (Nat.le_of_ble_eq_true rfl) (Nat.le_of_ble_eq_true rfl) dL_law_326 (fun y3 w2 h => ?_)
  obtain ⟨hx5, σx1, rfl, hV2, hW4, hK6, hK7⟩ := h
  refine R_pop (pc := 329) dL_law_329 rfl ?_
  refine R_aload_n (pc := 330) dL_law_330 rfl rfl ?_
  refine R_aload_n (pc := 331) dL_law_331 rfl rfl ?_
  refine R_iload_n (pc := 332) dL_law_332 rfl rfl ?_
  refine R_iconst (pc := 333) (v := 1) dL_law_333 (by decide) ?_
  refine R_iadd (pc := 334) dL_law_334 ?_
  refine R_sld (pc := 335) dL_law_335 (sc_in 1 hL hB (by decide) (by decide)) ?_
  refine R_aload_n (pc := 336) dL_law_336 rfl rfl ?_
  refine R_iload_n (pc := 337) dL_law_337 rfl rfl ?_
  refine R_iconst (pc := 338) (v := 2) dL_law_338 (by decide) ?_
  refine R_iadd (pc := 339) dL_law_339 ?_
  refine R_sld (pc := 340) dL_law_340 (sc_in 2 hL hB (by decide) (by decide)) ?_
  refine R_i2l (pc := 341) dL_law_341 ?_
  refine R_bipush (pc := 342) (v := 32) dL_law_342 (by decide) ?_
  refine R_lshl (pc := 344) dL_law_344 ?_
  refine R_aload_n (pc := 345) dL_law_345 rfl rfl ?_
  refine R_iload_n (pc := 346) dL_law_346 rfl rfl ?_
  refine R_iconst (pc := 347) (v := 3) dL_law_347 (by decide) ?_
  refine R_iadd (pc := 348) dL_law_348 ?_
  refine R_sld (pc := 349) dL_law_349 (sc_in 3 hL hB (by decide) (by decide)) ?_
  refine R_i2l (pc := 350) dL_law_350 ?_
  refine R_ldc2 (pc := 351) w_1271c dL_law_351 ?_
  refine R_land (pc := 354) dL_law_354 ?_
  refine R_lor (pc := 355) dL_law_355 ?_
  refine R_aload_n (pc := 356) dL_law_356 rfl rfl ?_
  refine R_iload_n (pc := 357) dL_law_357 rfl rfl ?_
  refine R_iconst (pc := 358) (v := 4) dL_law_358 (by decide) ?_
  refine R_iadd (pc := 359) dL_law_359 ?_
  refine R_sld (pc := 360) dL_law_360 (sc_in 4 hL hB (by decide) (by decide)) ?_
  refine k_L_24 (pc := 361) (ge_X9_caption _ _ _ _ hV2) rfl (c_140 _) (by decide) (Nat.le_of_ble_eq_true rfl) (Nat.le_of_ble_eq_true rfl) (Nat.le_of_ble_eq_true rfl) dL_law_361 (fun y10 w2 h => ?_)
  obtain ⟨hx12, σx8, rfl, hV9, hW11⟩ := h
  have hT13 := st_caption _ _ _ hV.1 hV.2.1 hW4 hW11
  have hQ14 := chL_fr hK6 (fr_bif (fr_X9_caption _ _ _ _) hW11)
  have hQ15 := chD_fr hK7 (fr_bif (fr_X9_caption _ _ _ _) hW11)
  refine R_pop (pc := 364) dL_law_364 rfl ?_
  refine R_goto (pc := 365) 1278 dL_law_365 (by decide) ?_
  refine inc_4_3_9_a (pc := 1278) dL_law_1278 ?_
  refine R_goto (pc := 1281) 18 dL_law_1281 (by decide) ?_
  exact hk _ ⟨hV9, hT13, hQ14, hQ15⟩
set_option maxRecDepth 100000 in
set_option maxHeartbeats 40000000 in
theorem law_2 {G : vG} {l : Launch} (σ : Sg) (I : Nat) (hV : LT σ) (hL : I + 9 ≤ gL G) (hB : gL G ≤ 4608) (hk : ∀ σ2 : Sg, LT σ2 → R G l yL_law cL_law 4 (some .boolean) 11 600000 7302250 (fun r _ => r = some (.int 1)) 18 [some (.ref 1000200), some (.ref 0), some (.ref 140), some (.int ((nI I) + 9))] [] (WW σ2) 173 3534) : R G l yL_law cL_law 4 (some .boolean) 11 600000 7302250 (fun r _ => r = some (.int 1)) 368 [some (.ref 1000200), some (.ref 0), some (.ref 140), some (.int (nI I))] [] (WW σ) 173 3534 := by
  refine R_aload_n (pc := 368) dL_law_368 rfl rfl ?_
  refine R_aload_n (pc := 369) dL_law_369 rfl rfl ?_
  refine R_iload_n (pc := 370) dL_law_370 rfl rfl ?_
  refine R_iconst (pc := 371) (v := 1) dL_law_371 (by decide) ?_
  refine R_iadd (pc := 372) dL_law_372 ?_
  refine R_sld (pc := 373) dL_law_373 (sc_in 1 hL hB (by decide) (by decide)) ?_
  refine k_L_25 (pc := 374) (ge_X8_days _ _ hV.1) rfl (c_0 _) (by decide) (Nat.le_of_ble_eq_true rfl) (Nat.le_of_ble_eq_true rfl) (Nat.le_of_ble_eq_true rfl) dL_law_374 (fun y3 w2 h => ?_)
  obtain ⟨hx5, σx1, rfl, hV2, hW4⟩ := h
  refine R_pop (pc := 377) dL_law_377 rfl ?_
  refine R_aload_n (pc := 378) dL_law_378 rfl rfl ?_
  refine R_aload_n (pc := 379) dL_law_379 rfl rfl ?_
  refine R_iload_n (pc := 380) dL_law_380 rfl rfl ?_
  refine R_iconst (pc := 381) (v := 1) dL_law_381 (by decide) ?_
  refine R_iadd (pc := 382) dL_law_382 ?_
  refine R_sld (pc := 383) dL_law_383 (sc_in 1 hL hB (by decide) (by decide)) ?_
  refine k_L_29 (pc := 384) (ge_X9_days _ _ hV2) rfl (c_140 _) (by decide) (Nat.le_of_ble_eq_true rfl) (Nat.le_of_ble_eq_true rfl) (Nat.le_of_ble_eq_true rfl) dL_law_384 (fun y8 w2 h => ?_)
  obtain ⟨hx10, σx6, rfl, hV7, hW9⟩ := h
  have hT11 := st_days _ hV.1 hV.2.1 hW4 hW9
  have hQ12 := chL_fr (chL_fr hV.2.2.1 (fr_bif (fr_X8_days _ _) hW4)) (fr_bif (fr_X9_days _ _) hW9)
  have hQ13 := chD_fr (chD_fr hV.2.2.2 (fr_bif (fr_X8_days _ _) hW4)) (fr_bif (fr_X9_days _ _) hW9)
  refine R_pop (pc := 387) dL_law_387 rfl ?_
  refine R_goto (pc := 388) 1278 dL_law_388 (by decide) ?_
  refine inc_4_3_9_a (pc := 1278) dL_law_1278 ?_
  refine R_goto (pc := 1281) 18 dL_law_1281 (by decide) ?_
  exact hk _ ⟨hV7, hT11, hQ12, hQ13⟩
set_option maxRecDepth 100000 in
set_option maxHeartbeats 40000000 in
theorem law_3 {G : vG} {l : Launch} (σ : Sg) (I : Nat) (hV : LT σ) (hL : I + 9 ≤ gL G) (hB : gL G ≤ 4608) (hk : ∀ σ2 : Sg, LT σ2 → R G l yL_law cL_law 4 (some .boolean) 11 600000 7302250 (fun r _ => r = some (.int 1)) 18 [some (.ref 1000200), some (.ref 0), some (.ref 140), some (.int ((nI I) + 9))] [] (WW σ2) 173 3534) : R G l yL_law cL_law 4 (some .boolean) 11 600000 7302250 (fun r _ => r = some (.int 1)) 391 [some (.ref 1000200), some (.ref 0), some (.ref 140), some (.int (nI I))] [] (WW σ) 173 3534 := by
  refine R_aload_n (pc := 391) dL_law_391 rfl rfl ?_
  refine R_aload_n (pc := 392) dL_law_392 rfl rfl ?_
  refine R_iload_n (pc := 393) dL_law_393 rfl rfl ?_
  refine R_iconst (pc := 394) (v := 1) dL_law_394 (by decide) ?_
  refine R_iadd (pc := 395) dL_law_395 ?_
  refine R_sld (pc := 396) dL_law_396 (sc_in 1 hL hB (by decide) (by decide)) ?_
  refine R_aload_n (pc := 397) dL_law_397 rfl rfl ?_
  refine R_iload_n (pc := 398) dL_law_398 rfl rfl ?_
  refine R_iconst (pc := 399) (v := 2) dL_law_399 (by decide) ?_
  refine R_iadd (pc := 400) dL_law_400 ?_
  refine R_sld (pc := 401) dL_law_401 (sc_in 2 hL hB (by decide) (by decide)) ?_
  refine k_L_30 (pc := 402) (ge_X8_set _ _ _ hV.1) rfl (c_0 _) (by decide) (Nat.le_of_ble_eq_true rfl) (Nat.le_of_ble_eq_true rfl) (Nat.le_of_ble_eq_true rfl) dL_law_402 (fun y3 w2 h => ?_)
  obtain ⟨hx5, σx1, rfl, hV2, hW4⟩ := h
  refine R_pop (pc := 405) dL_law_405 rfl ?_
  refine R_aload_n (pc := 406) dL_law_406 rfl rfl ?_
  refine R_aload_n (pc := 407) dL_law_407 rfl rfl ?_
  refine R_iload_n (pc := 408) dL_law_408 rfl rfl ?_
  refine R_iconst (pc := 409) (v := 1) dL_law_409 (by decide) ?_
  refine R_iadd (pc := 410) dL_law_410 ?_
  refine R_sld (pc := 411) dL_law_411 (sc_in 1 hL hB (by decide) (by decide)) ?_
  refine R_aload_n (pc := 412) dL_law_412 rfl rfl ?_
  refine R_iload_n (pc := 413) dL_law_413 rfl rfl ?_
  refine R_iconst (pc := 414) (v := 2) dL_law_414 (by decide) ?_
  refine R_iadd (pc := 415) dL_law_415 ?_
  refine R_sld (pc := 416) dL_law_416 (sc_in 2 hL hB (by decide) (by decide)) ?_
  refine k_L_34 (pc := 417) (ge_X9_set _ _ _ hV2) rfl (c_140 _) (by decide) (Nat.le_of_ble_eq_true rfl) (Nat.le_of_ble_eq_true rfl) (Nat.le_of_ble_eq_true rfl) dL_law_417 (fun y8 w2 h => ?_)
  obtain ⟨hx10, σx6, rfl, hV7, hW9⟩ := h
  have hT11 := st_set _ _ hV.1 hV.2.1 hW4 hW9
  have hQ12 := chL_fr (chL_fr hV.2.2.1 (fr_trans (fr_X8_set _ _ _) (fr_cor hW4))) (fr_trans (fr_X9_set _ _ _) (fr_cor hW9))
  have hQ13 := chD_fr (chD_fr hV.2.2.2 (fr_trans (fr_X8_set _ _ _) (fr_cor hW4))) (fr_trans (fr_X9_set _ _ _) (fr_cor hW9))
  refine R_pop (pc := 420) dL_law_420 rfl ?_
  refine R_goto (pc := 421) 1278 dL_law_421 (by decide) ?_
  refine inc_4_3_9_a (pc := 1278) dL_law_1278 ?_
  refine R_goto (pc := 1281) 18 dL_law_1281 (by decide) ?_
  exact hk _ ⟨hV7, hT11, hQ12, hQ13⟩
set_option maxRecDepth 100000 in
set_option maxHeartbeats 40000000 in
theorem law_4 {G : vG} {l : Launch} (σ : Sg) (I : Nat) (hV : LT σ) (hL : I + 9 ≤ gL G) (hB : gL G ≤ 4608) (hk : ∀ σ2 : Sg, LT σ2 → R G l yL_law cL_law 4 (some .boolean) 11 600000 7302250 (fun r _ => r = some (.int 1)) 18 [some (.ref 1000200), some (.ref 0), some (.ref 140), some (.int ((nI I) + 9))] [] (WW σ2) 173 3534) : R G l yL_law cL_law 4 (some .boolean) 11 600000 7302250 (fun r _ => r = some (.int 1)) 424 [some (.ref 1000200), some (.ref 0), some (.ref 140), some (.int (nI I))] [] (WW σ) 173 3534 := by
  refine R_aload_n (pc := 424) dL_law_424 rfl rfl ?_
  refine R_aload_n (pc := 425) dL_law_425 rfl rfl ?_
  refine R_iload_n (pc := 426) dL_law_426 rfl rfl ?_
  refine R_iconst (pc := 427) (v := 1) dL_law_427 (by decide) ?_
  refine R_iadd (pc := 428) dL_law_428 ?_
  refine R_sld (pc := 429) dL_law_429 (sc_in 1 hL hB (by decide) (by decide)) ?_
  refine R_aload_n (pc := 430) dL_law_430 rfl rfl ?_
  refine R_iload_n (pc := 431) dL_law_431 rfl rfl ?_
  refine R_iconst (pc := 432) (v := 2) dL_law_432 (by decide) ?_
  refine R_iadd (pc := 433) dL_law_433 ?_
  refine R_sld (pc := 434) dL_law_434 (sc_in 2 hL hB (by decide) (by decide)) ?_
  refine k_L_35 (pc := 435) (gp_difference _ _ _ hV.1) rfl (c_0 _) (by decide) (Nat.le_of_ble_eq_true rfl) (Nat.le_of_ble_eq_true rfl) (Nat.le_of_ble_eq_true rfl) dL_law_435 (fun y3 w2 h => ?_)
  obtain ⟨σx1, rfl, hV2, hW4⟩ := h
  refine R_pop (pc := 438) dL_law_438 rfl ?_
  refine R_aload_n (pc := 439) dL_law_439 rfl rfl ?_
  refine R_aload_n (pc := 440) dL_law_440 rfl rfl ?_
  refine R_iload_n (pc := 441) dL_law_441 rfl rfl ?_
  refine R_iconst (pc := 442) (v := 1) dL_law_442 (by decide) ?_
  refine R_iadd (pc := 443) dL_law_443 ?_
  refine R_sld (pc := 444) dL_law_444 (sc_in 1 hL hB (by decide) (by decide)) ?_
  refine R_aload_n (pc := 445) dL_law_445 rfl rfl ?_
  refine R_iload_n (pc := 446) dL_law_446 rfl rfl ?_
  refine R_iconst (pc := 447) (v := 2) dL_law_447 (by decide) ?_
  refine R_iadd (pc := 448) dL_law_448 ?_
  refine R_sld (pc := 449) dL_law_449 (sc_in 2 hL hB (by decide) (by decide)) ?_
  refine k_L_38 (pc := 450) (gp_m_difference _ _ _ hV2) rfl (c_140 _) (by decide) (Nat.le_of_ble_eq_true rfl) (Nat.le_of_ble_eq_true rfl) (Nat.le_of_ble_eq_true rfl) dL_law_450 (fun y8 w2 h => ?_)
  obtain ⟨σx6, rfl, hV7, hW9⟩ := h
  have hT11 := tie_cor (tie_cor hV.2.1 hW4) hW9
  have hQ12 := chL_fr (chL_fr hV.2.2.1 (fr_cor hW4)) (fr_cor hW9)
  have hQ13 := chD_fr (chD_fr hV.2.2.2 (fr_cor hW4)) (fr_cor hW9)
  refine R_pop (pc := 453) dL_law_453 rfl ?_
  refine R_goto (pc := 454) 1278 dL_law_454 (by decide) ?_
  refine inc_4_3_9_a (pc := 1278) dL_law_1278 ?_
  refine R_goto (pc := 1281) 18 dL_law_1281 (by decide) ?_
  exact hk _ ⟨hV7, hT11, hQ12, hQ13⟩
set_option maxRecDepth 100000 in
set_option maxHeartbeats 40000000 in
theorem law_5 {G : vG} {l : Launch} (σ : Sg) (I : Nat) (hV : LT σ) (hL : I + 9 ≤ gL G) (hB : gL G ≤ 4608) (hk : ∀ σ2 : Sg, LT σ2 → R G l yL_law cL_law 4 (some .boolean) 11 600000 7302250 (fun r _ => r = some (.int 1)) 18 [some (.ref 1000200), some (.ref 0), some (.ref 140), some (.int ((nI I) + 9))] [] (WW σ2) 173 3534) : R G l yL_law cL_law 4 (some .boolean) 11 600000 7302250 (fun r _ => r = some (.int 1)) 457 [some (.ref 1000200), some (.ref 0), some (.ref 140), some (.int (nI I))] [] (WW σ) 173 3534 := by
  refine R_aload_n (pc := 457) dL_law_457 rfl rfl ?_
  refine R_aload_n (pc := 458) dL_law_458 rfl rfl ?_
  refine R_iload_n (pc := 459) dL_law_459 rfl rfl ?_
  refine R_iconst (pc := 460) (v := 1) dL_law_460 (by decide) ?_
  refine R_iadd (pc := 461) dL_law_461 ?_
  refine R_sld (pc := 462) dL_law_462 (sc_in 1 hL hB (by decide) (by decide)) ?_
  refine k_L_39 (pc := 463) (gp_negative _ _ hV.1) rfl (c_0 _) (by decide) (Nat.le_of_ble_eq_true rfl) (Nat.le_of_ble_eq_true rfl) (Nat.le_of_ble_eq_true rfl) dL_law_463 (fun y3 w2 h => ?_)
  obtain ⟨σx1, rfl, hV2, hW4⟩ := h
  refine R_pop (pc := 466) dL_law_466 rfl ?_
  refine R_aload_n (pc := 467) dL_law_467 rfl rfl ?_
  refine R_aload_n (pc := 468) dL_law_468 rfl rfl ?_
  refine R_iload_n (pc := 469) dL_law_469 rfl rfl ?_
  refine R_iconst (pc := 470) (v := 1) dL_law_470 (by decide) ?_
  refine R_iadd (pc := 471) dL_law_471 ?_
  refine R_sld (pc := 472) dL_law_472 (sc_in 1 hL hB (by decide) (by decide)) ?_
  refine k_L_42 (pc := 473) (gp_m_negative _ _ hV2) rfl (c_140 _) (by decide) (Nat.le_of_ble_eq_true rfl) (Nat.le_of_ble_eq_true rfl) (Nat.le_of_ble_eq_true rfl) dL_law_473 (fun y8 w2 h => ?_)
  obtain ⟨σx6, rfl, hV7, hW9⟩ := h
  have hT11 := tie_cor (tie_cor hV.2.1 hW4) hW9
  have hQ12 := chL_fr (chL_fr hV.2.2.1 (fr_cor hW4)) (fr_cor hW9)
  have hQ13 := chD_fr (chD_fr hV.2.2.2 (fr_cor hW4)) (fr_cor hW9)
  refine R_pop (pc := 476) dL_law_476 rfl ?_
  refine R_goto (pc := 477) 1278 dL_law_477 (by decide) ?_
  refine inc_4_3_9_a (pc := 1278) dL_law_1278 ?_
  refine R_goto (pc := 1281) 18 dL_law_1281 (by decide) ?_
  exact hk _ ⟨hV7, hT11, hQ12, hQ13⟩
set_option maxRecDepth 100000 in
set_option maxHeartbeats 40000000 in
theorem law_6 {G : vG} {l : Launch} (σ : Sg) (I : Nat) (hV : LT σ) (hL : I + 9 ≤ gL G) (hB : gL G ≤ 4608) (hk : ∀ σ2 : Sg, LT σ2 → R G l yL_law cL_law 4 (some .boolean) 11 600000 7302250 (fun r _ => r = some (.int 1)) 18 [some (.ref 1000200), some (.ref 0), some (.ref 140), some (.int ((nI I) + 9))] [] (WW σ2) 173 3534) : R G l yL_law cL_law 4 (some .boolean) 11 600000 7302250 (fun r _ => r = some (.int 1)) 480 [some (.ref 1000200), some (.ref 0), some (.ref 140), some (.int (nI I))] [] (WW σ) 173 3534 := by
  refine R_aload_n (pc := 480) dL_law_480 rfl rfl ?_
  refine R_aload_n (pc := 481) dL_law_481 rfl rfl ?_
  refine R_iload_n (pc := 482) dL_law_482 rfl rfl ?_
  refine R_iconst (pc := 483) (v := 1) dL_law_483 (by decide) ?_
  refine R_iadd (pc := 484) dL_law_484 ?_
  refine R_sld (pc := 485) dL_law_485 (sc_in 1 hL hB (by decide) (by decide)) ?_
  refine R_aload_n (pc := 486) dL_law_486 rfl rfl ?_
  refine R_iload_n (pc := 487) dL_law_487 rfl rfl ?_
  refine R_iconst (pc := 488) (v := 2) dL_law_488 (by decide) ?_
  refine R_iadd (pc := 489) dL_law_489 ?_
  refine R_sld (pc := 490) dL_law_490 (sc_in 2 hL hB (by decide) (by decide)) ?_
  refine k_L_43 (pc := 491) (gp_far _ _ _ hV.1) rfl (c_0 _) (by decide) (Nat.le_of_ble_eq_true rfl) (Nat.le_of_ble_eq_true rfl) (Nat.le_of_ble_eq_true rfl) dL_law_491 (fun y3 w2 h => ?_)
  obtain ⟨σx1, rfl, hV2, hW4⟩ := h
  refine R_pop (pc := 494) dL_law_494 rfl ?_
  refine R_aload_n (pc := 495) dL_law_495 rfl rfl ?_
  refine R_aload_n (pc := 496) dL_law_496 rfl rfl ?_
  refine R_iload_n (pc := 497) dL_law_497 rfl rfl ?_
  refine R_iconst (pc := 498) (v := 1) dL_law_498 (by decide) ?_
  refine R_iadd (pc := 499) dL_law_499 ?_
  refine R_sld (pc := 500) dL_law_500 (sc_in 1 hL hB (by decide) (by decide)) ?_
  refine R_aload_n (pc := 501) dL_law_501 rfl rfl ?_
  refine R_iload_n (pc := 502) dL_law_502 rfl rfl ?_
  refine R_iconst (pc := 503) (v := 2) dL_law_503 (by decide) ?_
  refine R_iadd (pc := 504) dL_law_504 ?_
  refine R_sld (pc := 505) dL_law_505 (sc_in 2 hL hB (by decide) (by decide)) ?_
  refine k_L_46 (pc := 506) (gp_m_far _ _ _ hV2) rfl (c_140 _) (by decide) (Nat.le_of_ble_eq_true rfl) (Nat.le_of_ble_eq_true rfl) (Nat.le_of_ble_eq_true rfl) dL_law_506 (fun y8 w2 h => ?_)
  obtain ⟨σx6, rfl, hV7, hW9⟩ := h
  have hT11 := tie_cor (tie_cor hV.2.1 hW4) hW9
  have hQ12 := chL_fr (chL_fr hV.2.2.1 (fr_cor hW4)) (fr_cor hW9)
  have hQ13 := chD_fr (chD_fr hV.2.2.2 (fr_cor hW4)) (fr_cor hW9)
  refine R_pop (pc := 509) dL_law_509 rfl ?_
  refine R_goto (pc := 510) 1278 dL_law_510 (by decide) ?_
  refine inc_4_3_9_a (pc := 1278) dL_law_1278 ?_
  refine R_goto (pc := 1281) 18 dL_law_1281 (by decide) ?_
  exact hk _ ⟨hV7, hT11, hQ12, hQ13⟩
set_option maxRecDepth 100000 in
set_option maxHeartbeats 40000000 in
theorem law_7 {G : vG} {l : Launch} (σ : Sg) (I : Nat) (hV : LT σ) (hL : I + 9 ≤ gL G) (hB : gL G ≤ 4608) (hk : ∀ σ2 : Sg, LT σ2 → R G l yL_law cL_law 4 (some .boolean) 11 600000 7302250 (fun r _ => r = some (.int 1)) 18 [some (.ref 1000200), some (.ref 0), some (.ref 140), some (.int ((nI I) + 9))] [] (WW σ2) 173 3534) : R G l yL_law cL_law 4 (some .boolean) 11 600000 7302250 (fun r _ => r = some (.int 1)) 513 [some (.ref 1000200), some (.ref 0), some (.ref 140), some (.int (nI I))] [] (WW σ) 173 3534 := by
  refine R_aload_n (pc := 513) dL_law_513 rfl rfl ?_
  refine R_aload_n (pc := 514) dL_law_514 rfl rfl ?_
  refine R_iload_n (pc := 515) dL_law_515 rfl rfl ?_
  refine R_iconst (pc := 516) (v := 1) dL_law_516 (by decide) ?_
  refine R_iadd (pc := 517) dL_law_517 ?_
  refine R_sld (pc := 518) dL_law_518 (sc_in 1 hL hB (by decide) (by decide)) ?_
  refine R_aload_n (pc := 519) dL_law_519 rfl rfl ?_
  refine R_iload_n (pc := 520) dL_law_520 rfl rfl ?_
  refine R_iconst (pc := 521) (v := 2) dL_law_521 (by decide) ?_
  refine R_iadd (pc := 522) dL_law_522 ?_
  refine R_sld (pc := 523) dL_law_523 (sc_in 2 hL hB (by decide) (by decide)) ?_
  refine k_L_47 (pc := 524) (gp_match _ _ _ hV.1) rfl (c_0 _) (by decide) (Nat.le_of_ble_eq_true rfl) (Nat.le_of_ble_eq_true rfl) (Nat.le_of_ble_eq_true rfl) dL_law_524 (fun y3 w2 h => ?_)
  obtain ⟨σx1, rfl, hV2, hW4⟩ := h
  refine R_pop (pc := 527) dL_law_527 rfl ?_
  refine R_aload_n (pc := 528) dL_law_528 rfl rfl ?_
  refine R_aload_n (pc := 529) dL_law_529 rfl rfl ?_
  refine R_iload_n (pc := 530) dL_law_530 rfl rfl ?_
  refine R_iconst (pc := 531) (v := 1) dL_law_531 (by decide) ?_
  refine R_iadd (pc := 532) dL_law_532 ?_
  refine R_sld (pc := 533) dL_law_533 (sc_in 1 hL hB (by decide) (by decide)) ?_
  refine R_aload_n (pc := 534) dL_law_534 rfl rfl ?_
  refine R_iload_n (pc := 535) dL_law_535 rfl rfl ?_
  refine R_iconst (pc := 536) (v := 2) dL_law_536 (by decide) ?_
  refine R_iadd (pc := 537) dL_law_537 ?_
  refine R_sld (pc := 538) dL_law_538 (sc_in 2 hL hB (by decide) (by decide)) ?_
  refine k_L_50 (pc := 539) (gp_m_match _ _ _ hV2) rfl (c_140 _) (by decide) (Nat.le_of_ble_eq_true rfl) (Nat.le_of_ble_eq_true rfl) (Nat.le_of_ble_eq_true rfl) dL_law_539 (fun y8 w2 h => ?_)
  obtain ⟨σx6, rfl, hV7, hW9⟩ := h
  have hT11 := tie_cor (tie_cor hV.2.1 hW4) hW9
  have hQ12 := chL_fr (chL_fr hV.2.2.1 (fr_cor hW4)) (fr_cor hW9)
  have hQ13 := chD_fr (chD_fr hV.2.2.2 (fr_cor hW4)) (fr_cor hW9)
  refine R_pop (pc := 542) dL_law_542 rfl ?_
  refine R_goto (pc := 543) 1278 dL_law_543 (by decide) ?_
  refine inc_4_3_9_a (pc := 1278) dL_law_1278 ?_
  refine R_goto (pc := 1281) 18 dL_law_1281 (by decide) ?_
  exact hk _ ⟨hV7, hT11, hQ12, hQ13⟩
set_option maxRecDepth 100000 in
set_option maxHeartbeats 40000000 in
theorem law_8 {G : vG} {l : Launch} (σ : Sg) (I : Nat) (hV : LT σ) (hL : I + 9 ≤ gL G) (hB : gL G ≤ 4608) (hk : ∀ σ2 : Sg, LT σ2 → R G l yL_law cL_law 4 (some .boolean) 11 600000 7302250 (fun r _ => r = some (.int 1)) 18 [some (.ref 1000200), some (.ref 0), some (.ref 140), some (.int ((nI I) + 9))] [] (WW σ2) 173 3534) : R G l yL_law cL_law 4 (some .boolean) 11 600000 7302250 (fun r _ => r = some (.int 1)) 546 [some (.ref 1000200), some (.ref 0), some (.ref 140), some (.int (nI I))] [] (WW σ) 173 3534 := by
  refine R_aload_n (pc := 546) dL_law_546 rfl rfl ?_
  refine R_aload_n (pc := 547) dL_law_547 rfl rfl ?_
  refine R_iload_n (pc := 548) dL_law_548 rfl rfl ?_
  refine R_iconst (pc := 549) (v := 1) dL_law_549 (by decide) ?_
  refine R_iadd (pc := 550) dL_law_550 ?_
  refine R_sld (pc := 551) dL_law_551 (sc_in 1 hL hB (by decide) (by decide)) ?_
  refine R_aload_n (pc := 552) dL_law_552 rfl rfl ?_
  refine R_iload_n (pc := 553) dL_law_553 rfl rfl ?_
  refine R_iconst (pc := 554) (v := 2) dL_law_554 (by decide) ?_
  refine R_iadd (pc := 555) dL_law_555 ?_
  refine R_sld (pc := 556) dL_law_556 (sc_in 2 hL hB (by decide) (by decide)) ?_
  refine k_L_51 (pc := 557) (gq_X8_of _ _ _ hV.1 (fun i hi => by have q := iva_141 hV.1 i hi; rw [t_list hV.2.1] at q; exact q)) rfl (c_0 _) (by decide) (Nat.le_of_ble_eq_true rfl) (Nat.le_of_ble_eq_true rfl) (Nat.le_of_ble_eq_true rfl) dL_law_557 (fun y3 w2 h => ?_)
  obtain ⟨hx5, σx1, rfl, hV2, hW4⟩ := h
  refine R_aload_n (pc := 560) dL_law_560 rfl rfl ?_
  refine R_aload_n (pc := 561) dL_law_561 rfl rfl ?_
  refine R_iload_n (pc := 562) dL_law_562 rfl rfl ?_
  refine R_iconst (pc := 563) (v := 1) dL_law_563 (by decide) ?_
  refine R_iadd (pc := 564) dL_law_564 ?_
  refine R_sld (pc := 565) dL_law_565 (sc_in 1 hL hB (by decide) (by decide)) ?_
  refine R_aload_n (pc := 566) dL_law_566 rfl rfl ?_
  refine R_iload_n (pc := 567) dL_law_567 rfl rfl ?_
  refine R_iconst (pc := 568) (v := 2) dL_law_568 (by decide) ?_
  refine R_iadd (pc := 569) dL_law_569 ?_
  refine R_sld (pc := 570) dL_law_570 (sc_in 2 hL hB (by decide) (by decide)) ?_
  refine k_L_54 (pc := 571) (gq_X9_of _ _ _ hV2 (fun i hi => by have q := iva_4 hV2 i hi; rw [← t_numb (tie_cor hV.2.1 hW4)] at q; exact q)) rfl (c_140 _) (by decide) (Nat.le_of_ble_eq_true rfl) (Nat.le_of_ble_eq_true rfl) (Nat.le_of_ble_eq_true rfl) dL_law_571 (fun y8 w2 h => ?_)
  obtain ⟨hx10, σx6, rfl, hV7, hW9⟩ := h
  have hT11 := tie_cor (tie_cor hV.2.1 hW4) hW9
  have hQ12 := chL_fr (chL_fr hV.2.2.1 (fr_cor hW4)) (fr_cor hW9)
  have hQ13 := chD_fr (chD_fr hV.2.2.2 (fr_cor hW4)) (fr_cor hW9)
  refine R_iceq (pc := 574) 1278 dL_law_574 (by decide) (fun _ => ?_) (fun h => absurd (hx5.trans ((ans_of hV.1 hV2 hV.2.1 hV.2.2.1 hV.2.2.2 hW4).trans hx10.symm)) h)
  refine inc_4_3_9_a (pc := 1278) dL_law_1278 ?_
  refine R_goto (pc := 1281) 18 dL_law_1281 (by decide) ?_
  exact hk _ ⟨hV7, hT11, hQ12, hQ13⟩
set_option maxRecDepth 100000 in
set_option maxHeartbeats 40000000 in
theorem law_9 {G : vG} {l : Launch} (σ : Sg) (I : Nat) (hV : LT σ) (hL : I + 9 ≤ gL G) (hB : gL G ≤ 4608) (hk : ∀ σ2 : Sg, LT σ2 → R G l yL_law cL_law 4 (some .boolean) 11 600000 7302250 (fun r _ => r = some (.int 1)) 18 [some (.ref 1000200), some (.ref 0), some (.ref 140), some (.int ((nI I) + 9))] [] (WW σ2) 173 3534) : R G l yL_law cL_law 4 (some .boolean) 11 600000 7302250 (fun r _ => r = some (.int 1)) 579 [some (.ref 1000200), some (.ref 0), some (.ref 140), some (.int (nI I))] [] (WW σ) 173 3534 := by
  refine R_aload_n (pc := 579) dL_law_579 rfl rfl ?_
  refine R_aload_n (pc := 580) dL_law_580 rfl rfl ?_
  refine R_iload_n (pc := 581) dL_law_581 rfl rfl ?_
  refine R_iconst (pc := 582) (v := 1) dL_law_582 (by decide) ?_
  refine R_iadd (pc := 583) dL_law_583 ?_
  refine R_sld (pc := 584) dL_law_584 (sc_in 1 hL hB (by decide) (by decide)) ?_
  refine R_aload_n (pc := 585) dL_law_585 rfl rfl ?_
  refine R_iload_n (pc := 586) dL_law_586 rfl rfl ?_
  refine R_iconst (pc := 587) (v := 2) dL_law_587 (by decide) ?_
  refine R_iadd (pc := 588) dL_law_588 ?_
  refine R_sld (pc := 589) dL_law_589 (sc_in 2 hL hB (by decide) (by decide)) ?_
  refine k_L_55 (pc := 590) (gp_series _ _ _ hV.1) rfl (c_0 _) (by decide) (Nat.le_of_ble_eq_true rfl) (Nat.le_of_ble_eq_true rfl) (Nat.le_of_ble_eq_true rfl) dL_law_590 (fun y3 w2 h => ?_)
  obtain ⟨σx1, rfl, hV2, hW4⟩ := h
  refine R_pop (pc := 593) dL_law_593 rfl ?_
  refine R_aload_n (pc := 594) dL_law_594 rfl rfl ?_
  refine R_aload_n (pc := 595) dL_law_595 rfl rfl ?_
  refine R_iload_n (pc := 596) dL_law_596 rfl rfl ?_
  refine R_iconst (pc := 597) (v := 1) dL_law_597 (by decide) ?_
  refine R_iadd (pc := 598) dL_law_598 ?_
  refine R_sld (pc := 599) dL_law_599 (sc_in 1 hL hB (by decide) (by decide)) ?_
  refine R_aload_n (pc := 600) dL_law_600 rfl rfl ?_
  refine R_iload_n (pc := 601) dL_law_601 rfl rfl ?_
  refine R_iconst (pc := 602) (v := 2) dL_law_602 (by decide) ?_
  refine R_iadd (pc := 603) dL_law_603 ?_
  refine R_sld (pc := 604) dL_law_604 (sc_in 2 hL hB (by decide) (by decide)) ?_
  refine k_L_58 (pc := 605) (gp_m_series _ _ _ hV2) rfl (c_140 _) (by decide) (Nat.le_of_ble_eq_true rfl) (Nat.le_of_ble_eq_true rfl) (Nat.le_of_ble_eq_true rfl) dL_law_605 (fun y8 w2 h => ?_)
  obtain ⟨σx6, rfl, hV7, hW9⟩ := h
  have hT11 := tie_cor (tie_cor hV.2.1 hW4) hW9
  have hQ12 := chL_fr (chL_fr hV.2.2.1 (fr_cor hW4)) (fr_cor hW9)
  have hQ13 := chD_fr (chD_fr hV.2.2.2 (fr_cor hW4)) (fr_cor hW9)
  refine R_pop (pc := 608) dL_law_608 rfl ?_
  refine R_goto (pc := 609) 1278 dL_law_609 (by decide) ?_
  refine inc_4_3_9_a (pc := 1278) dL_law_1278 ?_
  refine R_goto (pc := 1281) 18 dL_law_1281 (by decide) ?_
  exact hk _ ⟨hV7, hT11, hQ12, hQ13⟩
set_option maxRecDepth 100000 in
set_option maxHeartbeats 40000000 in
theorem law_10 {G : vG} {l : Launch} (σ : Sg) (I : Nat) (hV : LT σ) (hL : I + 9 ≤ gL G) (hB : gL G ≤ 4608) (hk : ∀ σ2 : Sg, LT σ2 → R G l yL_law cL_law 4 (some .boolean) 11 600000 7302250 (fun r _ => r = some (.int 1)) 18 [some (.ref 1000200), some (.ref 0), some (.ref 140), some (.int ((nI I) + 9))] [] (WW σ2) 173 3534) : R G l yL_law cL_law 4 (some .boolean) 11 600000 7302250 (fun r _ => r = some (.int 1)) 612 [some (.ref 1000200), some (.ref 0), some (.ref 140), some (.int (nI I))] [] (WW σ) 173 3534 := by
  refine R_aload_n (pc := 612) dL_law_612 rfl rfl ?_
  refine R_aload_n (pc := 613) dL_law_613 rfl rfl ?_
  refine R_iload_n (pc := 614) dL_law_614 rfl rfl ?_
  refine R_iconst (pc := 615) (v := 1) dL_law_615 (by decide) ?_
  refine R_iadd (pc := 616) dL_law_616 ?_
  refine R_sld (pc := 617) dL_law_617 (sc_in 1 hL hB (by decide) (by decide)) ?_
  refine R_aload_n (pc := 618) dL_law_618 rfl rfl ?_
  refine R_iload_n (pc := 619) dL_law_619 rfl rfl ?_
  refine R_iconst (pc := 620) (v := 2) dL_law_620 (by decide) ?_
  refine R_iadd (pc := 621) dL_law_621 ?_
  refine R_sld (pc := 622) dL_law_622 (sc_in 2 hL hB (by decide) (by decide)) ?_
  refine k_L_59 (pc := 623) (gp_gap _ _ _ hV.1) rfl (c_0 _) (by decide) (Nat.le_of_ble_eq_true rfl) (Nat.le_of_ble_eq_true rfl) (Nat.le_of_ble_eq_true rfl) dL_law_623 (fun y3 w2 h => ?_)
  obtain ⟨σx1, rfl, hV2, hW4⟩ := h
  refine R_pop (pc := 626) dL_law_626 rfl ?_
  refine R_aload_n (pc := 627) dL_law_627 rfl rfl ?_
  refine R_aload_n (pc := 628) dL_law_628 rfl rfl ?_
  refine R_iload_n (pc := 629) dL_law_629 rfl rfl ?_
  refine R_iconst (pc := 630) (v := 1) dL_law_630 (by decide) ?_
  refine R_iadd (pc := 631) dL_law_631 ?_
  refine R_sld (pc := 632) dL_law_632 (sc_in 1 hL hB (by decide) (by decide)) ?_
  refine R_aload_n (pc := 633) dL_law_633 rfl rfl ?_
  refine R_iload_n (pc := 634) dL_law_634 rfl rfl ?_
  refine R_iconst (pc := 635) (v := 2) dL_law_635 (by decide) ?_
  refine R_iadd (pc := 636) dL_law_636 ?_
  refine R_sld (pc := 637) dL_law_637 (sc_in 2 hL hB (by decide) (by decide)) ?_
  refine k_L_62 (pc := 638) (gp_m_gap _ _ _ hV2) rfl (c_140 _) (by decide) (Nat.le_of_ble_eq_true rfl) (Nat.le_of_ble_eq_true rfl) (Nat.le_of_ble_eq_true rfl) dL_law_638 (fun y8 w2 h => ?_)
  obtain ⟨σx6, rfl, hV7, hW9⟩ := h
  have hT11 := tie_cor (tie_cor hV.2.1 hW4) hW9
  have hQ12 := chL_fr (chL_fr hV.2.2.1 (fr_cor hW4)) (fr_cor hW9)
  have hQ13 := chD_fr (chD_fr hV.2.2.2 (fr_cor hW4)) (fr_cor hW9)
  refine R_pop (pc := 641) dL_law_641 rfl ?_
  refine R_goto (pc := 642) 1278 dL_law_642 (by decide) ?_
  refine inc_4_3_9_a (pc := 1278) dL_law_1278 ?_
  refine R_goto (pc := 1281) 18 dL_law_1281 (by decide) ?_
  exact hk _ ⟨hV7, hT11, hQ12, hQ13⟩
set_option maxRecDepth 100000 in
set_option maxHeartbeats 40000000 in
theorem law_11 {G : vG} {l : Launch} (σ : Sg) (I : Nat) (hV : LT σ) (hL : I + 9 ≤ gL G) (hB : gL G ≤ 4608) (hk : ∀ σ2 : Sg, LT σ2 → R G l yL_law cL_law 4 (some .boolean) 11 600000 7302250 (fun r _ => r = some (.int 1)) 18 [some (.ref 1000200), some (.ref 0), some (.ref 140), some (.int ((nI I) + 9))] [] (WW σ2) 173 3534) : R G l yL_law cL_law 4 (some .boolean) 11 600000 7302250 (fun r _ => r = some (.int 1)) 645 [some (.ref 1000200), some (.ref 0), some (.ref 140), some (.int (nI I))] [] (WW σ) 173 3534 := by
  refine R_aload_n (pc := 645) dL_law_645 rfl rfl ?_
  refine R_aload_n (pc := 646) dL_law_646 rfl rfl ?_
  refine R_iload_n (pc := 647) dL_law_647 rfl rfl ?_
  refine R_iconst (pc := 648) (v := 1) dL_law_648 (by decide) ?_
  refine R_iadd (pc := 649) dL_law_649 ?_
  refine R_sld (pc := 650) dL_law_650 (sc_in 1 hL hB (by decide) (by decide)) ?_
  refine k_L_63 (pc := 651) (gp_unseen _ _ hV.1) rfl (c_0 _) (by decide) (Nat.le_of_ble_eq_true rfl) (Nat.le_of_ble_eq_true rfl) (Nat.le_of_ble_eq_true rfl) dL_law_651 (fun y3 w2 h => ?_)
  obtain ⟨σx1, rfl, hV2, hW4⟩ := h
  refine R_pop (pc := 654) dL_law_654 rfl ?_
  refine R_aload_n (pc := 655) dL_law_655 rfl rfl ?_
  refine R_aload_n (pc := 656) dL_law_656 rfl rfl ?_
  refine R_iload_n (pc := 657) dL_law_657 rfl rfl ?_
  refine R_iconst (pc := 658) (v := 1) dL_law_658 (by decide) ?_
  refine R_iadd (pc := 659) dL_law_659 ?_
  refine R_sld (pc := 660) dL_law_660 (sc_in 1 hL hB (by decide) (by decide)) ?_
  refine k_L_66 (pc := 661) (gp_m_unseen _ _ hV2) rfl (c_140 _) (by decide) (Nat.le_of_ble_eq_true rfl) (Nat.le_of_ble_eq_true rfl) (Nat.le_of_ble_eq_true rfl) dL_law_661 (fun y8 w2 h => ?_)
  obtain ⟨σx6, rfl, hV7, hW9⟩ := h
  have hT11 := tie_cor (tie_cor hV.2.1 hW4) hW9
  have hQ12 := chL_fr (chL_fr hV.2.2.1 (fr_cor hW4)) (fr_cor hW9)
  have hQ13 := chD_fr (chD_fr hV.2.2.2 (fr_cor hW4)) (fr_cor hW9)
  refine R_pop (pc := 664) dL_law_664 rfl ?_
  refine R_goto (pc := 665) 1278 dL_law_665 (by decide) ?_
  refine inc_4_3_9_a (pc := 1278) dL_law_1278 ?_
  refine R_goto (pc := 1281) 18 dL_law_1281 (by decide) ?_
  exact hk _ ⟨hV7, hT11, hQ12, hQ13⟩
set_option maxRecDepth 100000 in
set_option maxHeartbeats 40000000 in
theorem law_12 {G : vG} {l : Launch} (σ : Sg) (I : Nat) (hV : LT σ) (hL : I + 9 ≤ gL G) (hB : gL G ≤ 4608) (hk : ∀ σ2 : Sg, LT σ2 → R G l yL_law cL_law 4 (some .boolean) 11 600000 7302250 (fun r _ => r = some (.int 1)) 18 [some (.ref 1000200), some (.ref 0), some (.ref 140), some (.int ((nI I) + 9))] [] (WW σ2) 173 3534) : R G l yL_law cL_law 4 (some .boolean) 11 600000 7302250 (fun r _ => r = some (.int 1)) 668 [some (.ref 1000200), some (.ref 0), some (.ref 140), some (.int (nI I))] [] (WW σ) 173 3534 := by
  refine R_aload_n (pc := 668) dL_law_668 rfl rfl ?_
  refine R_aload_n (pc := 669) dL_law_669 rfl rfl ?_
  refine R_iload_n (pc := 670) dL_law_670 rfl rfl ?_
  refine R_iconst (pc := 671) (v := 1) dL_law_671 (by decide) ?_
  refine R_iadd (pc := 672) dL_law_672 ?_
  refine R_sld (pc := 673) dL_law_673 (sc_in 1 hL hB (by decide) (by decide)) ?_
  refine R_aload_n (pc := 674) dL_law_674 rfl rfl ?_
  refine R_iload_n (pc := 675) dL_law_675 rfl rfl ?_
  refine R_iconst (pc := 676) (v := 2) dL_law_676 (by decide) ?_
  refine R_iadd (pc := 677) dL_law_677 ?_
  refine R_sld (pc := 678) dL_law_678 (sc_in 2 hL hB (by decide) (by decide)) ?_
  refine R_aload_n (pc := 679) dL_law_679 rfl rfl ?_
  refine R_iload_n (pc := 680) dL_law_680 rfl rfl ?_
  refine R_iconst (pc := 681) (v := 3) dL_law_681 (by decide) ?_
  refine R_iadd (pc := 682) dL_law_682 ?_
  refine R_sld (pc := 683) dL_law_683 (sc_in 3 hL hB (by decide) (by decide)) ?_
  refine k_L_67 (pc := 684) (gp_overlap _ _ _ _ hV.1) rfl (c_0 _) (by decide) (Nat.le_of_ble_eq_true rfl) (Nat.le_of_ble_eq_true rfl) (Nat.le_of_ble_eq_true rfl) dL_law_684 (fun y3 w2 h => ?_)
  obtain ⟨σx1, rfl, hV2, hW4⟩ := h
  refine R_pop (pc := 687) dL_law_687 rfl ?_
  refine R_aload_n (pc := 688) dL_law_688 rfl rfl ?_
  refine R_aload_n (pc := 689) dL_law_689 rfl rfl ?_
  refine R_iload_n (pc := 690) dL_law_690 rfl rfl ?_
  refine R_iconst (pc := 691) (v := 1) dL_law_691 (by decide) ?_
  refine R_iadd (pc := 692) dL_law_692 ?_
  refine R_sld (pc := 693) dL_law_693 (sc_in 1 hL hB (by decide) (by decide)) ?_
  refine R_aload_n (pc := 694) dL_law_694 rfl rfl ?_
  refine R_iload_n (pc := 695) dL_law_695 rfl rfl ?_
  refine R_iconst (pc := 696) (v := 2) dL_law_696 (by decide) ?_
  refine R_iadd (pc := 697) dL_law_697 ?_
  refine R_sld (pc := 698) dL_law_698 (sc_in 2 hL hB (by decide) (by decide)) ?_
  refine R_aload_n (pc := 699) dL_law_699 rfl rfl ?_
  refine R_iload_n (pc := 700) dL_law_700 rfl rfl ?_
  refine R_iconst (pc := 701) (v := 3) dL_law_701 (by decide) ?_
  refine R_iadd (pc := 702) dL_law_702 ?_
  refine R_sld (pc := 703) dL_law_703 (sc_in 3 hL hB (by decide) (by decide)) ?_
  refine k_L_71 (pc := 704) (gp_m_overlap _ _ _ _ hV2) rfl (c_140 _) (by decide) (Nat.le_of_ble_eq_true rfl) (Nat.le_of_ble_eq_true rfl) (Nat.le_of_ble_eq_true rfl) dL_law_704 (fun y8 w2 h => ?_)
  obtain ⟨σx6, rfl, hV7, hW9⟩ := h
  have hT11 := tie_cor (tie_cor hV.2.1 hW4) hW9
  have hQ12 := chL_fr (chL_fr hV.2.2.1 (fr_cor hW4)) (fr_cor hW9)
  have hQ13 := chD_fr (chD_fr hV.2.2.2 (fr_cor hW4)) (fr_cor hW9)
  refine R_pop (pc := 707) dL_law_707 rfl ?_
  refine R_goto (pc := 708) 1278 dL_law_708 (by decide) ?_
  refine inc_4_3_9_a (pc := 1278) dL_law_1278 ?_
  refine R_goto (pc := 1281) 18 dL_law_1281 (by decide) ?_
  exact hk _ ⟨hV7, hT11, hQ12, hQ13⟩
set_option maxRecDepth 100000 in
set_option maxHeartbeats 40000000 in
theorem law_13 {G : vG} {l : Launch} (σ : Sg) (I : Nat) (hV : LT σ) (hL : I + 9 ≤ gL G) (hB : gL G ≤ 4608) (hk : ∀ σ2 : Sg, LT σ2 → R G l yL_law cL_law 4 (some .boolean) 11 600000 7302250 (fun r _ => r = some (.int 1)) 18 [some (.ref 1000200), some (.ref 0), some (.ref 140), some (.int ((nI I) + 9))] [] (WW σ2) 173 3534) : R G l yL_law cL_law 4 (some .boolean) 11 600000 7302250 (fun r _ => r = some (.int 1)) 711 [some (.ref 1000200), some (.ref 0), some (.ref 140), some (.int (nI I))] [] (WW σ) 173 3534 := by
  refine R_aload_n (pc := 711) dL_law_711 rfl rfl ?_
  refine R_aload_n (pc := 712) dL_law_712 rfl rfl ?_
  refine R_iload_n (pc := 713) dL_law_713 rfl rfl ?_
  refine R_iconst (pc := 714) (v := 1) dL_law_714 (by decide) ?_
  refine R_iadd (pc := 715) dL_law_715 ?_
  refine R_sld (pc := 716) dL_law_716 (sc_in 1 hL hB (by decide) (by decide)) ?_
  refine R_aload_n (pc := 717) dL_law_717 rfl rfl ?_
  refine R_iload_n (pc := 718) dL_law_718 rfl rfl ?_
  refine R_iconst (pc := 719) (v := 2) dL_law_719 (by decide) ?_
  refine R_iadd (pc := 720) dL_law_720 ?_
  refine R_sld (pc := 721) dL_law_721 (sc_in 2 hL hB (by decide) (by decide)) ?_
  refine R_aload_n (pc := 722) dL_law_722 rfl rfl ?_
  refine R_iload_n (pc := 723) dL_law_723 rfl rfl ?_
  refine R_iconst (pc := 724) (v := 3) dL_law_724 (by decide) ?_
  refine R_iadd (pc := 725) dL_law_725 ?_
  refine R_sld (pc := 726) dL_law_726 (sc_in 3 hL hB (by decide) (by decide)) ?_
  refine k_L_72 (pc := 727) (ge_X8_feature _ _ _ _ hV.1) rfl (c_0 _) (by decide) (Nat.le_of_ble_eq_true rfl) (Nat.le_of_ble_eq_true rfl) (Nat.le_of_ble_eq_true rfl) dL_law_727 (fun y3 w2 h => ?_)
  obtain ⟨hx5, σx1, rfl, hV2, hW4⟩ := h
  refine R_pop (pc := 730) dL_law_730 rfl ?_
  refine R_aload_n (pc := 731) dL_law_731 rfl rfl ?_
  refine R_aload_n (pc := 732) dL_law_732 rfl rfl ?_
  refine R_iload_n (pc := 733) dL_law_733 rfl rfl ?_
  refine R_iconst (pc := 734) (v := 1) dL_law_734 (by decide) ?_
  refine R_iadd (pc := 735) dL_law_735 ?_
  refine R_sld (pc := 736) dL_law_736 (sc_in 1 hL hB (by decide) (by decide)) ?_
  refine R_aload_n (pc := 737) dL_law_737 rfl rfl ?_
  refine R_iload_n (pc := 738) dL_law_738 rfl rfl ?_
  refine R_iconst (pc := 739) (v := 2) dL_law_739 (by decide) ?_
  refine R_iadd (pc := 740) dL_law_740 ?_
  refine R_sld (pc := 741) dL_law_741 (sc_in 2 hL hB (by decide) (by decide)) ?_
  refine R_aload_n (pc := 742) dL_law_742 rfl rfl ?_
  refine R_iload_n (pc := 743) dL_law_743 rfl rfl ?_
  refine R_iconst (pc := 744) (v := 3) dL_law_744 (by decide) ?_
  refine R_iadd (pc := 745) dL_law_745 ?_
  refine R_sld (pc := 746) dL_law_746 (sc_in 3 hL hB (by decide) (by decide)) ?_
  refine k_L_75 (pc := 747) (ge_X9_feature _ _ _ _ hV2) rfl (c_140 _) (by decide) (Nat.le_of_ble_eq_true rfl) (Nat.le_of_ble_eq_true rfl) (Nat.le_of_ble_eq_true rfl) dL_law_747 (fun y8 w2 h => ?_)
  obtain ⟨hx10, σx6, rfl, hV7, hW9⟩ := h
  have hT11 := st_feature _ _ _ hV.1 hV.2.1 hW4 hW9
  have hQ12 := chL_fr (chL_fr hV.2.2.1 (fr_bif (fr_X8_feature _ _ _ _) hW4)) (fr_bif (fr_X9_feature _ _ _ _) hW9)
  have hQ13 := chD_fr (chD_fr hV.2.2.2 (fr_bif (fr_X8_feature _ _ _ _) hW4)) (fr_bif (fr_X9_feature _ _ _ _) hW9)
  refine R_pop (pc := 750) dL_law_750 rfl ?_
  refine R_goto (pc := 751) 1278 dL_law_751 (by decide) ?_
  refine inc_4_3_9_a (pc := 1278) dL_law_1278 ?_
  refine R_goto (pc := 1281) 18 dL_law_1281 (by decide) ?_
  exact hk _ ⟨hV7, hT11, hQ12, hQ13⟩
set_option maxRecDepth 100000 in
set_option maxHeartbeats 40000000 in
theorem law_14 {G : vG} {l : Launch} (σ : Sg) (I : Nat) (hV : LT σ) (hL : I + 9 ≤ gL G) (hB : gL G ≤ 4608) (hk : ∀ σ2 : Sg, LT σ2 → R G l yL_law cL_law 4 (some .boolean) 11 600000 7302250 (fun r _ => r = some (.int 1)) 18 [some (.ref 1000200), some (.ref 0), some (.ref 140), some (.int ((nI I) + 9))] [] (WW σ2) 173 3534) : R G l yL_law cL_law 4 (some .boolean) 11 600000 7302250 (fun r _ => r = some (.int 1)) 754 [some (.ref 1000200), some (.ref 0), some (.ref 140), some (.int (nI I))] [] (WW σ) 173 3534 := by
  refine R_aload_n (pc := 754) dL_law_754 rfl rfl ?_
  refine R_aload_n (pc := 755) dL_law_755 rfl rfl ?_
  refine R_iload_n (pc := 756) dL_law_756 rfl rfl ?_
  refine R_iconst (pc := 757) (v := 1) dL_law_757 (by decide) ?_
  refine R_iadd (pc := 758) dL_law_758 ?_
  refine R_sld (pc := 759) dL_law_759 (sc_in 1 hL hB (by decide) (by decide)) ?_
  refine R_aload_n (pc := 760) dL_law_760 rfl rfl ?_
  refine R_iload_n (pc := 761) dL_law_761 rfl rfl ?_
  refine R_iconst (pc := 762) (v := 2) dL_law_762 (by decide) ?_
  refine R_iadd (pc := 763) dL_law_763 ?_
  refine R_sld (pc := 764) dL_law_764 (sc_in 2 hL hB (by decide) (by decide)) ?_
  refine R_aload_n (pc := 765) dL_law_765 rfl rfl ?_
  refine R_iload_n (pc := 766) dL_law_766 rfl rfl ?_
  refine R_iconst (pc := 767) (v := 3) dL_law_767 (by decide) ?_
  refine R_iadd (pc := 768) dL_law_768 ?_
  refine R_sld (pc := 769) dL_law_769 (sc_in 3 hL hB (by decide) (by decide)) ?_
  refine k_L_76 (pc := 770) (ge_X8_shows _ _ _ _ hV.1) rfl (c_0 _) (by decide) (Nat.le_of_ble_eq_true rfl) (Nat.le_of_ble_eq_true rfl) (Nat.le_of_ble_eq_true rfl) dL_law_770 (fun y3 w2 h => ?_)
  obtain ⟨hx5, σx1, rfl, hV2, hW4⟩ := h
  refine R_pop (pc := 773) dL_law_773 rfl ?_
  refine R_aload_n (pc := 774) dL_law_774 rfl rfl ?_
  refine R_aload_n (pc := 775) dL_law_775 rfl rfl ?_
  refine R_iload_n (pc := 776) dL_law_776 rfl rfl ?_
  refine R_iconst (pc := 777) (v := 1) dL_law_777 (by decide) ?_
  refine R_iadd (pc := 778) dL_law_778 ?_
  refine R_sld (pc := 779) dL_law_779 (sc_in 1 hL hB (by decide) (by decide)) ?_
  refine R_aload_n (pc := 780) dL_law_780 rfl rfl ?_
  refine R_iload_n (pc := 781) dL_law_781 rfl rfl ?_
  refine R_iconst (pc := 782) (v := 2) dL_law_782 (by decide) ?_
  refine R_iadd (pc := 783) dL_law_783 ?_
  refine R_sld (pc := 784) dL_law_784 (sc_in 2 hL hB (by decide) (by decide)) ?_
  refine R_aload_n (pc := 785) dL_law_785 rfl rfl ?_
  refine R_iload_n (pc := 786) dL_law_786 rfl rfl ?_
  refine R_iconst (pc := 787) (v := 3) dL_law_787 (by decide) ?_
  refine R_iadd (pc := 788) dL_law_788 ?_
  refine R_sld (pc := 789) dL_law_789 (sc_in 3 hL hB (by decide) (by decide)) ?_
  refine k_L_79 (pc := 790) (ge_X9_shows _ _ _ _ hV2) rfl (c_140 _) (by decide) (Nat.le_of_ble_eq_true rfl) (Nat.le_of_ble_eq_true rfl) (Nat.le_of_ble_eq_true rfl) dL_law_790 (fun y8 w2 h => ?_)
  obtain ⟨hx10, σx6, rfl, hV7, hW9⟩ := h
  have hT11 := st_shows _ _ _ hV.1 hV.2.1 hW4 hW9
  have hQ12 := chL_fr (chL_fr hV.2.2.1 (fr_bif (fr_X8_shows _ _ _ _) hW4)) (fr_bif (fr_X9_shows _ _ _ _) hW9)
  have hQ13 := chD_fr (chD_fr hV.2.2.2 (fr_bif (fr_X8_shows _ _ _ _) hW4)) (fr_bif (fr_X9_shows _ _ _ _) hW9)
  refine R_pop (pc := 793) dL_law_793 rfl ?_
  refine R_goto (pc := 794) 1278 dL_law_794 (by decide) ?_
  refine inc_4_3_9_a (pc := 1278) dL_law_1278 ?_
  refine R_goto (pc := 1281) 18 dL_law_1281 (by decide) ?_
  exact hk _ ⟨hV7, hT11, hQ12, hQ13⟩
set_option maxRecDepth 100000 in
set_option maxHeartbeats 40000000 in
theorem law_15 {G : vG} {l : Launch} (σ : Sg) (I : Nat) (hV : LT σ) (hL : I + 9 ≤ gL G) (hB : gL G ≤ 4608) (hk : ∀ σ2 : Sg, LT σ2 → R G l yL_law cL_law 4 (some .boolean) 11 600000 7302250 (fun r _ => r = some (.int 1)) 18 [some (.ref 1000200), some (.ref 0), some (.ref 140), some (.int ((nI I) + 9))] [] (WW σ2) 173 3534) : R G l yL_law cL_law 4 (some .boolean) 11 600000 7302250 (fun r _ => r = some (.int 1)) 797 [some (.ref 1000200), some (.ref 0), some (.ref 140), some (.int (nI I))] [] (WW σ) 173 3534 := by
  refine R_aload_n (pc := 797) dL_law_797 rfl rfl ?_
  refine R_aload_n (pc := 798) dL_law_798 rfl rfl ?_
  refine R_iload_n (pc := 799) dL_law_799 rfl rfl ?_
  refine R_iconst (pc := 800) (v := 1) dL_law_800 (by decide) ?_
  refine R_iadd (pc := 801) dL_law_801 ?_
  refine R_sld (pc := 802) dL_law_802 (sc_in 1 hL hB (by decide) (by decide)) ?_
  refine R_aload_n (pc := 803) dL_law_803 rfl rfl ?_
  refine R_iload_n (pc := 804) dL_law_804 rfl rfl ?_
  refine R_iconst (pc := 805) (v := 2) dL_law_805 (by decide) ?_
  refine R_iadd (pc := 806) dL_law_806 ?_
  refine R_sld (pc := 807) dL_law_807 (sc_in 2 hL hB (by decide) (by decide)) ?_
  refine R_aload_n (pc := 808) dL_law_808 rfl rfl ?_
  refine R_iload_n (pc := 809) dL_law_809 rfl rfl ?_
  refine R_iconst (pc := 810) (v := 3) dL_law_810 (by decide) ?_
  refine R_iadd (pc := 811) dL_law_811 ?_
  refine R_sld (pc := 812) dL_law_812 (sc_in 3 hL hB (by decide) (by decide)) ?_
  refine k_L_80 (pc := 813) (ge_X8_back _ _ _ _ hV.1) rfl (c_0 _) (by decide) (Nat.le_of_ble_eq_true rfl) (Nat.le_of_ble_eq_true rfl) (Nat.le_of_ble_eq_true rfl) dL_law_813 (fun y3 w2 h => ?_)
  obtain ⟨hx5, σx1, rfl, hV2, hW4⟩ := h
  refine R_pop (pc := 816) dL_law_816 rfl ?_
  refine R_aload_n (pc := 817) dL_law_817 rfl rfl ?_
  refine R_aload_n (pc := 818) dL_law_818 rfl rfl ?_
  refine R_iload_n (pc := 819) dL_law_819 rfl rfl ?_
  refine R_iconst (pc := 820) (v := 1) dL_law_820 (by decide) ?_
  refine R_iadd (pc := 821) dL_law_821 ?_
  refine R_sld (pc := 822) dL_law_822 (sc_in 1 hL hB (by decide) (by decide)) ?_
  refine R_aload_n (pc := 823) dL_law_823 rfl rfl ?_
  refine R_iload_n (pc := 824) dL_law_824 rfl rfl ?_
  refine R_iconst (pc := 825) (v := 2) dL_law_825 (by decide) ?_
  refine R_iadd (pc := 826) dL_law_826 ?_
  refine R_sld (pc := 827) dL_law_827 (sc_in 2 hL hB (by decide) (by decide)) ?_
  refine R_aload_n (pc := 828) dL_law_828 rfl rfl ?_
  refine R_iload_n (pc := 829) dL_law_829 rfl rfl ?_
  refine R_iconst (pc := 830) (v := 3) dL_law_830 (by decide) ?_
  refine R_iadd (pc := 831) dL_law_831 ?_
  refine R_sld (pc := 832) dL_law_832 (sc_in 3 hL hB (by decide) (by decide)) ?_
  refine k_L_83 (pc := 833) (ge_X9_back _ _ _ _ hV2) rfl (c_140 _) (by decide) (Nat.le_of_ble_eq_true rfl) (Nat.le_of_ble_eq_true rfl) (Nat.le_of_ble_eq_true rfl) dL_law_833 (fun y8 w2 h => ?_)
  obtain ⟨hx10, σx6, rfl, hV7, hW9⟩ := h
  have hT11 := st_back _ _ _ hV.1 hV.2.1 hW4 hW9
  have hQ12 := chL_fr (chL_fr hV.2.2.1 (fr_bif (fr_X8_back _ _ _ _) hW4)) (fr_bif (fr_X9_back _ _ _ _) hW9)
  have hQ13 := chD_fr (chD_fr hV.2.2.2 (fr_bif (fr_X8_back _ _ _ _) hW4)) (fr_bif (fr_X9_back _ _ _ _) hW9)
  refine R_pop (pc := 836) dL_law_836 rfl ?_
  refine R_goto (pc := 837) 1278 dL_law_837 (by decide) ?_
  refine inc_4_3_9_a (pc := 1278) dL_law_1278 ?_
  refine R_goto (pc := 1281) 18 dL_law_1281 (by decide) ?_
  exact hk _ ⟨hV7, hT11, hQ12, hQ13⟩
set_option maxRecDepth 100000 in
set_option maxHeartbeats 40000000 in
theorem law_16 {G : vG} {l : Launch} (σ : Sg) (I : Nat) (hV : LT σ) (hL : I + 9 ≤ gL G) (hB : gL G ≤ 4608) (hk : ∀ σ2 : Sg, LT σ2 → R G l yL_law cL_law 4 (some .boolean) 11 600000 7302250 (fun r _ => r = some (.int 1)) 18 [some (.ref 1000200), some (.ref 0), some (.ref 140), some (.int ((nI I) + 9))] [] (WW σ2) 173 3534) : R G l yL_law cL_law 4 (some .boolean) 11 600000 7302250 (fun r _ => r = some (.int 1)) 840 [some (.ref 1000200), some (.ref 0), some (.ref 140), some (.int (nI I))] [] (WW σ) 173 3534 := by
  refine R_aload_n (pc := 840) dL_law_840 rfl rfl ?_
  refine R_aload_n (pc := 841) dL_law_841 rfl rfl ?_
  refine R_iload_n (pc := 842) dL_law_842 rfl rfl ?_
  refine R_iconst (pc := 843) (v := 1) dL_law_843 (by decide) ?_
  refine R_iadd (pc := 844) dL_law_844 ?_
  refine R_sld (pc := 845) dL_law_845 (sc_in 1 hL hB (by decide) (by decide)) ?_
  refine R_aload_n (pc := 846) dL_law_846 rfl rfl ?_
  refine R_iload_n (pc := 847) dL_law_847 rfl rfl ?_
  refine R_iconst (pc := 848) (v := 2) dL_law_848 (by decide) ?_
  refine R_iadd (pc := 849) dL_law_849 ?_
  refine R_sld (pc := 850) dL_law_850 (sc_in 2 hL hB (by decide) (by decide)) ?_
  refine k_L_84 (pc := 851) (ge_X8_later _ _ _ hV.1) rfl (c_0 _) (by decide) (Nat.le_of_ble_eq_true rfl) (Nat.le_of_ble_eq_true rfl) (Nat.le_of_ble_eq_true rfl) dL_law_851 (fun y3 w2 h => ?_)
  obtain ⟨hx5, σx1, rfl, hV2, hW4⟩ := h
  refine R_pop (pc := 854) dL_law_854 rfl ?_
  refine R_aload_n (pc := 855) dL_law_855 rfl rfl ?_
  refine R_aload_n (pc := 856) dL_law_856 rfl rfl ?_
  refine R_iload_n (pc := 857) dL_law_857 rfl rfl ?_
  refine R_iconst (pc := 858) (v := 1) dL_law_858 (by decide) ?_
  refine R_iadd (pc := 859) dL_law_859 ?_
  refine R_sld (pc := 860) dL_law_860 (sc_in 1 hL hB (by decide) (by decide)) ?_
  refine R_aload_n (pc := 861) dL_law_861 rfl rfl ?_
  refine R_iload_n (pc := 862) dL_law_862 rfl rfl ?_
  refine R_iconst (pc := 863) (v := 2) dL_law_863 (by decide) ?_
  refine R_iadd (pc := 864) dL_law_864 ?_
  refine R_sld (pc := 865) dL_law_865 (sc_in 2 hL hB (by decide) (by decide)) ?_
  refine k_L_87 (pc := 866) (ge_X9_later _ _ _ hV2) rfl (c_140 _) (by decide) (Nat.le_of_ble_eq_true rfl) (Nat.le_of_ble_eq_true rfl) (Nat.le_of_ble_eq_true rfl) dL_law_866 (fun y8 w2 h => ?_)
  obtain ⟨hx10, σx6, rfl, hV7, hW9⟩ := h
  have hT11 := st_later _ _ hV.1 hV.2.1 hW4 hW9
  have hQ12 := chL_fr (chL_fr hV.2.2.1 (fr_bif (fr_X8_later _ _ _) hW4)) (fr_bif (fr_X9_later _ _ _) hW9)
  have hQ13 := chD_fr (chD_fr hV.2.2.2 (fr_bif (fr_X8_later _ _ _) hW4)) (fr_bif (fr_X9_later _ _ _) hW9)
  refine R_pop (pc := 869) dL_law_869 rfl ?_
  refine R_goto (pc := 870) 1278 dL_law_870 (by decide) ?_
  refine inc_4_3_9_a (pc := 1278) dL_law_1278 ?_
  refine R_goto (pc := 1281) 18 dL_law_1281 (by decide) ?_
  exact hk _ ⟨hV7, hT11, hQ12, hQ13⟩
set_option maxRecDepth 100000 in
set_option maxHeartbeats 40000000 in
theorem law_17 {G : vG} {l : Launch} (σ : Sg) (I : Nat) (hV : LT σ) (hL : I + 9 ≤ gL G) (hB : gL G ≤ 4608) (hk : ∀ σ2 : Sg, LT σ2 → R G l yL_law cL_law 4 (some .boolean) 11 600000 7302250 (fun r _ => r = some (.int 1)) 18 [some (.ref 1000200), some (.ref 0), some (.ref 140), some (.int ((nI I) + 9))] [] (WW σ2) 173 3534) : R G l yL_law cL_law 4 (some .boolean) 11 600000 7302250 (fun r _ => r = some (.int 1)) 873 [some (.ref 1000200), some (.ref 0), some (.ref 140), some (.int (nI I))] [] (WW σ) 173 3534 := by
  refine R_aload_n (pc := 873) dL_law_873 rfl rfl ?_
  refine R_aload_n (pc := 874) dL_law_874 rfl rfl ?_
  refine R_iload_n (pc := 875) dL_law_875 rfl rfl ?_
  refine R_iconst (pc := 876) (v := 1) dL_law_876 (by decide) ?_
  refine R_iadd (pc := 877) dL_law_877 ?_
  refine R_sld (pc := 878) dL_law_878 (sc_in 1 hL hB (by decide) (by decide)) ?_
  refine R_aload_n (pc := 879) dL_law_879 rfl rfl ?_
  refine R_iload_n (pc := 880) dL_law_880 rfl rfl ?_
  refine R_iconst (pc := 881) (v := 2) dL_law_881 (by decide) ?_
  refine R_iadd (pc := 882) dL_law_882 ?_
  refine R_sld (pc := 883) dL_law_883 (sc_in 2 hL hB (by decide) (by decide)) ?_
  refine R_aload_n (pc := 884) dL_law_884 rfl rfl ?_
  refine R_iload_n (pc := 885) dL_law_885 rfl rfl ?_
  refine R_iconst (pc := 886) (v := 3) dL_law_886 (by decide) ?_
  refine R_iadd (pc := 887) dL_law_887 ?_
  refine R_sld (pc := 888) dL_law_888 (sc_in 3 hL hB (by decide) (by decide)) ?_
  refine k_L_88 (pc := 889) (gp_span _ _ _ _ hV.1) rfl (c_0 _) (by decide) (Nat.le_of_ble_eq_true rfl) (Nat.le_of_ble_eq_true rfl) (Nat.le_of_ble_eq_true rfl) dL_law_889 (fun y3 w2 h => ?_)
  obtain ⟨σx1, rfl, hV2, hW4⟩ := h
  refine R_pop (pc := 892) dL_law_892 rfl ?_
  refine R_aload_n (pc := 893) dL_law_893 rfl rfl ?_
  refine R_aload_n (pc := 894) dL_law_894 rfl rfl ?_
  refine R_iload_n (pc := 895) dL_law_895 rfl rfl ?_
  refine R_iconst (pc := 896) (v := 1) dL_law_896 (by decide) ?_
  refine R_iadd (pc := 897) dL_law_897 ?_
  refine R_sld (pc := 898) dL_law_898 (sc_in 1 hL hB (by decide) (by decide)) ?_
  refine R_aload_n (pc := 899) dL_law_899 rfl rfl ?_
  refine R_iload_n (pc := 900) dL_law_900 rfl rfl ?_
  refine R_iconst (pc := 901) (v := 2) dL_law_901 (by decide) ?_
  refine R_iadd (pc := 902) dL_law_902 ?_
  refine R_sld (pc := 903) dL_law_903 (sc_in 2 hL hB (by decide) (by decide)) ?_
  refine R_aload_n (pc := 904) dL_law_904 rfl rfl ?_
  refine R_iload_n (pc := 905) dL_law_905 rfl rfl ?_
  refine R_iconst (pc := 906) (v := 3) dL_law_906 (by decide) ?_
  refine R_iadd (pc := 907) dL_law_907 ?_
  refine R_sld (pc := 908) dL_law_908 (sc_in 3 hL hB (by decide) (by decide)) ?_
  refine k_L_91 (pc := 909) (gp_m_span _ _ _ _ hV2) rfl (c_140 _) (by decide) (Nat.le_of_ble_eq_true rfl) (Nat.le_of_ble_eq_true rfl) (Nat.le_of_ble_eq_true rfl) dL_law_909 (fun y8 w2 h => ?_)
  obtain ⟨σx6, rfl, hV7, hW9⟩ := h
  have hT11 := tie_cor (tie_cor hV.2.1 hW4) hW9
  have hQ12 := chL_fr (chL_fr hV.2.2.1 (fr_cor hW4)) (fr_cor hW9)
  have hQ13 := chD_fr (chD_fr hV.2.2.2 (fr_cor hW4)) (fr_cor hW9)
  refine R_pop (pc := 912) dL_law_912 rfl ?_
  refine R_goto (pc := 913) 1278 dL_law_913 (by decide) ?_
  refine inc_4_3_9_a (pc := 1278) dL_law_1278 ?_
  refine R_goto (pc := 1281) 18 dL_law_1281 (by decide) ?_
  exact hk _ ⟨hV7, hT11, hQ12, hQ13⟩
set_option maxRecDepth 100000 in
set_option maxHeartbeats 40000000 in
theorem law_18 {G : vG} {l : Launch} (σ : Sg) (I : Nat) (hV : LT σ) (hL : I + 9 ≤ gL G) (hB : gL G ≤ 4608) (hk : ∀ σ2 : Sg, LT σ2 → R G l yL_law cL_law 4 (some .boolean) 11 600000 7302250 (fun r _ => r = some (.int 1)) 18 [some (.ref 1000200), some (.ref 0), some (.ref 140), some (.int ((nI I) + 9))] [] (WW σ2) 173 3534) : R G l yL_law cL_law 4 (some .boolean) 11 600000 7302250 (fun r _ => r = some (.int 1)) 916 [some (.ref 1000200), some (.ref 0), some (.ref 140), some (.int (nI I))] [] (WW σ) 173 3534 := by
  refine R_aload_n (pc := 916) dL_law_916 rfl rfl ?_
  refine k_L_92 (pc := 917) (gp_quarrel _ hV.1) rfl (c_0 _) (by decide) (Nat.le_of_ble_eq_true rfl) (Nat.le_of_ble_eq_true rfl) (Nat.le_of_ble_eq_true rfl) dL_law_917 (fun y3 w2 h => ?_)
  obtain ⟨σx1, rfl, hV2, hW4⟩ := h
  refine R_pop (pc := 920) dL_law_920 rfl ?_
  refine R_aload_n (pc := 921) dL_law_921 rfl rfl ?_
  refine k_L_96 (pc := 922) (gp_m_quarrel _ hV2) rfl (c_140 _) (by decide) (Nat.le_of_ble_eq_true rfl) (Nat.le_of_ble_eq_true rfl) (Nat.le_of_ble_eq_true rfl) dL_law_922 (fun y8 w2 h => ?_)
  obtain ⟨σx6, rfl, hV7, hW9⟩ := h
  have hT11 := tie_cor (tie_cor hV.2.1 hW4) hW9
  have hQ12 := chL_fr (chL_fr hV.2.2.1 (fr_cor hW4)) (fr_cor hW9)
  have hQ13 := chD_fr (chD_fr hV.2.2.2 (fr_cor hW4)) (fr_cor hW9)
  refine R_pop (pc := 925) dL_law_925 rfl ?_
  refine R_goto (pc := 926) 1278 dL_law_926 (by decide) ?_
  refine inc_4_3_9_a (pc := 1278) dL_law_1278 ?_
  refine R_goto (pc := 1281) 18 dL_law_1281 (by decide) ?_
  exact hk _ ⟨hV7, hT11, hQ12, hQ13⟩
set_option maxRecDepth 100000 in
set_option maxHeartbeats 40000000 in
theorem law_19 {G : vG} {l : Launch} (σ : Sg) (I : Nat) (hV : LT σ) (hL : I + 9 ≤ gL G) (hB : gL G ≤ 4608) (hk : ∀ σ2 : Sg, LT σ2 → R G l yL_law cL_law 4 (some .boolean) 11 600000 7302250 (fun r _ => r = some (.int 1)) 18 [some (.ref 1000200), some (.ref 0), some (.ref 140), some (.int ((nI I) + 9))] [] (WW σ2) 173 3534) : R G l yL_law cL_law 4 (some .boolean) 11 600000 7302250 (fun r _ => r = some (.int 1)) 929 [some (.ref 1000200), some (.ref 0), some (.ref 140), some (.int (nI I))] [] (WW σ) 173 3534 := by
  refine R_aload_n (pc := 929) dL_law_929 rfl rfl ?_
  refine k_L_97 (pc := 930) (gp_culprit _ hV.1) rfl (c_0 _) (by decide) (Nat.le_of_ble_eq_true rfl) (Nat.le_of_ble_eq_true rfl) (Nat.le_of_ble_eq_true rfl) dL_law_930 (fun y3 w2 h => ?_)
  obtain ⟨σx1, rfl, hV2, hW4⟩ := h
  refine R_pop (pc := 933) dL_law_933 rfl ?_
  refine R_aload_n (pc := 934) dL_law_934 rfl rfl ?_
  refine k_L_100 (pc := 935) (gp_m_culprit _ hV2) rfl (c_140 _) (by decide) (Nat.le_of_ble_eq_true rfl) (Nat.le_of_ble_eq_true rfl) (Nat.le_of_ble_eq_true rfl) dL_law_935 (fun y8 w2 h => ?_)
  obtain ⟨σx6, rfl, hV7, hW9⟩ := h
  have hT11 := tie_cor (tie_cor hV.2.1 hW4) hW9
  have hQ12 := chL_fr (chL_fr hV.2.2.1 (fr_cor hW4)) (fr_cor hW9)
  have hQ13 := chD_fr (chD_fr hV.2.2.2 (fr_cor hW4)) (fr_cor hW9)
  refine R_pop (pc := 938) dL_law_938 rfl ?_
  refine R_goto (pc := 939) 1278 dL_law_939 (by decide) ?_
  refine inc_4_3_9_a (pc := 1278) dL_law_1278 ?_
  refine R_goto (pc := 1281) 18 dL_law_1281 (by decide) ?_
  exact hk _ ⟨hV7, hT11, hQ12, hQ13⟩
set_option maxRecDepth 100000 in
set_option maxHeartbeats 40000000 in
theorem law_20 {G : vG} {l : Launch} (σ : Sg) (I : Nat) (hV : LT σ) (hL : I + 9 ≤ gL G) (hB : gL G ≤ 4608) (hk : ∀ σ2 : Sg, LT σ2 → R G l yL_law cL_law 4 (some .boolean) 11 600000 7302250 (fun r _ => r = some (.int 1)) 18 [some (.ref 1000200), some (.ref 0), some (.ref 140), some (.int ((nI I) + 9))] [] (WW σ2) 173 3534) : R G l yL_law cL_law 4 (some .boolean) 11 600000 7302250 (fun r _ => r = some (.int 1)) 942 [some (.ref 1000200), some (.ref 0), some (.ref 140), some (.int (nI I))] [] (WW σ) 173 3534 := by
  refine R_aload_n (pc := 942) dL_law_942 rfl rfl ?_
  refine R_aload_n (pc := 943) dL_law_943 rfl rfl ?_
  refine R_iload_n (pc := 944) dL_law_944 rfl rfl ?_
  refine R_iconst (pc := 945) (v := 1) dL_law_945 (by decide) ?_
  refine R_iadd (pc := 946) dL_law_946 ?_
  refine R_sld (pc := 947) dL_law_947 (sc_in 1 hL hB (by decide) (by decide)) ?_
  refine R_aload_n (pc := 948) dL_law_948 rfl rfl ?_
  refine R_iload_n (pc := 949) dL_law_949 rfl rfl ?_
  refine R_iconst (pc := 950) (v := 2) dL_law_950 (by decide) ?_
  refine R_iadd (pc := 951) dL_law_951 ?_
  refine R_sld (pc := 952) dL_law_952 (sc_in 2 hL hB (by decide) (by decide)) ?_
  refine k_L_101 (pc := 953) (ge_X8_landmark _ _ _ hV.1) rfl (c_0 _) (by decide) (Nat.le_of_ble_eq_true rfl) (Nat.le_of_ble_eq_true rfl) (Nat.le_of_ble_eq_true rfl) dL_law_953 (fun y3 w2 h => ?_)
  obtain ⟨hx5, σx1, rfl, hV2, hW4⟩ := h
  refine R_pop (pc := 956) dL_law_956 rfl ?_
  refine R_aload_n (pc := 957) dL_law_957 rfl rfl ?_
  refine R_aload_n (pc := 958) dL_law_958 rfl rfl ?_
  refine R_iload_n (pc := 959) dL_law_959 rfl rfl ?_
  refine R_iconst (pc := 960) (v := 1) dL_law_960 (by decide) ?_
  refine R_iadd (pc := 961) dL_law_961 ?_
  refine R_sld (pc := 962) dL_law_962 (sc_in 1 hL hB (by decide) (by decide)) ?_
  refine R_aload_n (pc := 963) dL_law_963 rfl rfl ?_
  refine R_iload_n (pc := 964) dL_law_964 rfl rfl ?_
  refine R_iconst (pc := 965) (v := 2) dL_law_965 (by decide) ?_
  refine R_iadd (pc := 966) dL_law_966 ?_
  refine R_sld (pc := 967) dL_law_967 (sc_in 2 hL hB (by decide) (by decide)) ?_
  refine k_L_104 (pc := 968) (ge_X9_landmark _ _ _ hV2) rfl (c_140 _) (by decide) (Nat.le_of_ble_eq_true rfl) (Nat.le_of_ble_eq_true rfl) (Nat.le_of_ble_eq_true rfl) dL_law_968 (fun y8 w2 h => ?_)
  obtain ⟨hx10, σx6, rfl, hV7, hW9⟩ := h
  have hT11 := st_landmark _ _ hV.1 hV.2.1 hW4 hW9
  have hQ12 := chL_fr (chL_fr hV.2.2.1 (fr_bif (fr_X8_landmark _ _ _) hW4)) (fr_bif (fr_X9_landmark _ _ _) hW9)
  have hQ13 := chD_fr (chD_fr hV.2.2.2 (fr_bif (fr_X8_landmark _ _ _) hW4)) (fr_bif (fr_X9_landmark _ _ _) hW9)
  refine R_pop (pc := 971) dL_law_971 rfl ?_
  refine R_goto (pc := 972) 1278 dL_law_972 (by decide) ?_
  refine inc_4_3_9_a (pc := 1278) dL_law_1278 ?_
  refine R_goto (pc := 1281) 18 dL_law_1281 (by decide) ?_
  exact hk _ ⟨hV7, hT11, hQ12, hQ13⟩
set_option maxRecDepth 100000 in
set_option maxHeartbeats 40000000 in
theorem law_21 {G : vG} {l : Launch} (σ : Sg) (I : Nat) (hV : LT σ) (hL : I + 9 ≤ gL G) (hB : gL G ≤ 4608) (hk : ∀ σ2 : Sg, LT σ2 → R G l yL_law cL_law 4 (some .boolean) 11 600000 7302250 (fun r _ => r = some (.int 1)) 18 [some (.ref 1000200), some (.ref 0), some (.ref 140), some (.int ((nI I) + 9))] [] (WW σ2) 173 3534) : R G l yL_law cL_law 4 (some .boolean) 11 600000 7302250 (fun r _ => r = some (.int 1)) 975 [some (.ref 1000200), some (.ref 0), some (.ref 140), some (.int (nI I))] [] (WW σ) 173 3534 := by
  refine R_aload_n (pc := 975) dL_law_975 rfl rfl ?_
  refine R_aload_n (pc := 976) dL_law_976 rfl rfl ?_
  refine R_iload_n (pc := 977) dL_law_977 rfl rfl ?_
  refine R_iconst (pc := 978) (v := 1) dL_law_978 (by decide) ?_
  refine R_iadd (pc := 979) dL_law_979 ?_
  refine R_sld (pc := 980) dL_law_980 (sc_in 1 hL hB (by decide) (by decide)) ?_
  refine R_i2l (pc := 981) dL_law_981 ?_
  refine R_bipush (pc := 982) (v := 32) dL_law_982 (by decide) ?_
  refine R_lshl (pc := 984) dL_law_984 ?_
  refine R_aload_n (pc := 985) dL_law_985 rfl rfl ?_
  refine R_iload_n (pc := 986) dL_law_986 rfl rfl ?_
  refine R_iconst (pc := 987) (v := 2) dL_law_987 (by decide) ?_
  refine R_iadd (pc := 988) dL_law_988 ?_
  refine R_sld (pc := 989) dL_law_989 (sc_in 2 hL hB (by decide) (by decide)) ?_
  refine R_i2l (pc := 990) dL_law_990 ?_
  refine R_ldc2 (pc := 991) w_1271c dL_law_991 ?_
  refine R_land (pc := 994) dL_law_994 ?_
  refine R_lor (pc := 995) dL_law_995 ?_
  refine k_L_105 (pc := 996) (ge_X8_walls _ _ hV.1) rfl (c_0 _) (by decide) (Nat.le_of_ble_eq_true rfl) (Nat.le_of_ble_eq_true rfl) (Nat.le_of_ble_eq_true rfl) dL_law_996 (fun y3 w2 h => ?_)
  obtain ⟨hx5, σx1, rfl, hV2, hW4⟩ := h
  refine R_pop (pc := 999) dL_law_999 rfl ?_
  refine R_aload_n (pc := 1000) dL_law_1000 rfl rfl ?_
  refine R_aload_n (pc := 1001) dL_law_1001 rfl rfl ?_
  refine R_iload_n (pc := 1002) dL_law_1002 rfl rfl ?_
  refine R_iconst (pc := 1003) (v := 1) dL_law_1003 (by decide) ?_
  refine R_iadd (pc := 1004) dL_law_1004 ?_
  refine R_sld (pc := 1005) dL_law_1005 (sc_in 1 hL hB (by decide) (by decide)) ?_
  refine R_i2l (pc := 1006) dL_law_1006 ?_
  refine R_bipush (pc := 1007) (v := 32) dL_law_1007 (by decide) ?_
  refine R_lshl (pc := 1009) dL_law_1009 ?_
  refine R_aload_n (pc := 1010) dL_law_1010 rfl rfl ?_
  refine R_iload_n (pc := 1011) dL_law_1011 rfl rfl ?_
  refine R_iconst (pc := 1012) (v := 2) dL_law_1012 (by decide) ?_
  refine R_iadd (pc := 1013) dL_law_1013 ?_
  refine R_sld (pc := 1014) dL_law_1014 (sc_in 2 hL hB (by decide) (by decide)) ?_
  refine R_i2l (pc := 1015) dL_law_1015 ?_
  refine R_ldc2 (pc := 1016) w_1271c dL_law_1016 ?_
  refine R_land (pc := 1019) dL_law_1019 ?_
  refine R_lor (pc := 1020) dL_law_1020 ?_
  refine k_L_109 (pc := 1021) (ge_X9_walls _ _ hV2) rfl (c_140 _) (by decide) (Nat.le_of_ble_eq_true rfl) (Nat.le_of_ble_eq_true rfl) (Nat.le_of_ble_eq_true rfl) dL_law_1021 (fun y8 w2 h => ?_)
  obtain ⟨hx10, σx6, rfl, hV7, hW9⟩ := h
  have hT11 := st_walls _ hV.1 hV.2.1 hW4 hW9
  have hQ12 := chL_fr (chL_fr hV.2.2.1 (fr_trans (fr_X8_walls _ _) (fr_cor hW4))) (fr_trans (fr_X9_walls _ _) (fr_cor hW9))
  have hQ13 := chD_fr (chD_fr hV.2.2.2 (fr_trans (fr_X8_walls _ _) (fr_cor hW4))) (fr_trans (fr_X9_walls _ _) (fr_cor hW9))
  refine R_pop (pc := 1024) dL_law_1024 rfl ?_
  refine R_goto (pc := 1025) 1278 dL_law_1025 (by decide) ?_
  refine inc_4_3_9_a (pc := 1278) dL_law_1278 ?_
  refine R_goto (pc := 1281) 18 dL_law_1281 (by decide) ?_
  exact hk _ ⟨hV7, hT11, hQ12, hQ13⟩
set_option maxRecDepth 100000 in
set_option maxHeartbeats 40000000 in
theorem law_22 {G : vG} {l : Launch} (σ : Sg) (I : Nat) (hV : LT σ) (hL : I + 9 ≤ gL G) (hB : gL G ≤ 4608) (hk : ∀ σ2 : Sg, LT σ2 → R G l yL_law cL_law 4 (some .boolean) 11 600000 7302250 (fun r _ => r = some (.int 1)) 18 [some (.ref 1000200), some (.ref 0), some (.ref 140), some (.int ((nI I) + 9))] [] (WW σ2) 173 3534) : R G l yL_law cL_law 4 (some .boolean) 11 600000 7302250 (fun r _ => r = some (.int 1)) 1028 [some (.ref 1000200), some (.ref 0), some (.ref 140), some (.int (nI I))] [] (WW σ) 173 3534 := by
  refine R_aload_n (pc := 1028) dL_law_1028 rfl rfl ?_
  refine R_aload_n (pc := 1029) dL_law_1029 rfl rfl ?_
  refine R_iload_n (pc := 1030) dL_law_1030 rfl rfl ?_
  refine R_iconst (pc := 1031) (v := 1) dL_law_1031 (by decide) ?_
  refine R_iadd (pc := 1032) dL_law_1032 ?_
  refine R_sld (pc := 1033) dL_law_1033 (sc_in 1 hL hB (by decide) (by decide)) ?_
  refine R_aload_n (pc := 1034) dL_law_1034 rfl rfl ?_
  refine R_iload_n (pc := 1035) dL_law_1035 rfl rfl ?_
  refine R_iconst (pc := 1036) (v := 2) dL_law_1036 (by decide) ?_
  refine R_iadd (pc := 1037) dL_law_1037 ?_
  refine R_sld (pc := 1038) dL_law_1038 (sc_in 2 hL hB (by decide) (by decide)) ?_
  refine k_L_110 (pc := 1039) (ge_X8_view _ _ _ hV.1) rfl (c_0 _) (by decide) (Nat.le_of_ble_eq_true rfl) (Nat.le_of_ble_eq_true rfl) (Nat.le_of_ble_eq_true rfl) dL_law_1039 (fun y3 w2 h => ?_)
  obtain ⟨hx5, σx1, rfl, hV2, hW4⟩ := h
  refine R_pop (pc := 1042) dL_law_1042 rfl ?_
  refine R_aload_n (pc := 1043) dL_law_1043 rfl rfl ?_
  refine R_aload_n (pc := 1044) dL_law_1044 rfl rfl ?_
  refine R_iload_n (pc := 1045) dL_law_1045 rfl rfl ?_
  refine R_iconst (pc := 1046) (v := 1) dL_law_1046 (by decide) ?_
  refine R_iadd (pc := 1047) dL_law_1047 ?_
  refine R_sld (pc := 1048) dL_law_1048 (sc_in 1 hL hB (by decide) (by decide)) ?_
  refine R_aload_n (pc := 1049) dL_law_1049 rfl rfl ?_
  refine R_iload_n (pc := 1050) dL_law_1050 rfl rfl ?_
  refine R_iconst (pc := 1051) (v := 2) dL_law_1051 (by decide) ?_
  refine R_iadd (pc := 1052) dL_law_1052 ?_
  refine R_sld (pc := 1053) dL_law_1053 (sc_in 2 hL hB (by decide) (by decide)) ?_
  refine k_L_113 (pc := 1054) (ge_X9_view _ _ _ hV2) rfl (c_140 _) (by decide) (Nat.le_of_ble_eq_true rfl) (Nat.le_of_ble_eq_true rfl) (Nat.le_of_ble_eq_true rfl) dL_law_1054 (fun y8 w2 h => ?_)
  obtain ⟨hx10, σx6, rfl, hV7, hW9⟩ := h
  have hT11 := st_view _ _ hV.1 hV.2.1 hW4 hW9
  have hQ12 := chL_fr (chL_fr hV.2.2.1 (fr_bif (fr_X8_view _ _ _) hW4)) (fr_bif (fr_X9_view _ _ _) hW9)
  have hQ13 := chD_fr (chD_fr hV.2.2.2 (fr_bif (fr_X8_view _ _ _) hW4)) (fr_bif (fr_X9_view _ _ _) hW9)
  refine R_pop (pc := 1057) dL_law_1057 rfl ?_
  refine R_goto (pc := 1058) 1278 dL_law_1058 (by decide) ?_
  refine inc_4_3_9_a (pc := 1278) dL_law_1278 ?_
  refine R_goto (pc := 1281) 18 dL_law_1281 (by decide) ?_
  exact hk _ ⟨hV7, hT11, hQ12, hQ13⟩
set_option maxRecDepth 100000 in
set_option maxHeartbeats 40000000 in
theorem law_23 {G : vG} {l : Launch} (σ : Sg) (I : Nat) (hV : LT σ) (hL : I + 9 ≤ gL G) (hB : gL G ≤ 4608) (hk : ∀ σ2 : Sg, LT σ2 → R G l yL_law cL_law 4 (some .boolean) 11 600000 7302250 (fun r _ => r = some (.int 1)) 18 [some (.ref 1000200), some (.ref 0), some (.ref 140), some (.int ((nI I) + 9))] [] (WW σ2) 173 3534) : R G l yL_law cL_law 4 (some .boolean) 11 600000 7302250 (fun r _ => r = some (.int 1)) 1061 [some (.ref 1000200), some (.ref 0), some (.ref 140), some (.int (nI I))] [] (WW σ) 173 3534 := by
  refine R_aload_n (pc := 1061) dL_law_1061 rfl rfl ?_
  refine R_aload_n (pc := 1062) dL_law_1062 rfl rfl ?_
  refine R_iload_n (pc := 1063) dL_law_1063 rfl rfl ?_
  refine R_iconst (pc := 1064) (v := 1) dL_law_1064 (by decide) ?_
  refine R_iadd (pc := 1065) dL_law_1065 ?_
  refine R_sld (pc := 1066) dL_law_1066 (sc_in 1 hL hB (by decide) (by decide)) ?_
  refine k_L_114 (pc := 1067) (ge_X8_unview _ _ hV.1) rfl (c_0 _) (by decide) (Nat.le_of_ble_eq_true rfl) (Nat.le_of_ble_eq_true rfl) (Nat.le_of_ble_eq_true rfl) dL_law_1067 (fun y3 w2 h => ?_)
  obtain ⟨hx5, σx1, rfl, hV2, hW4⟩ := h
  refine R_pop (pc := 1070) dL_law_1070 rfl ?_
  refine R_aload_n (pc := 1071) dL_law_1071 rfl rfl ?_
  refine R_aload_n (pc := 1072) dL_law_1072 rfl rfl ?_
  refine R_iload_n (pc := 1073) dL_law_1073 rfl rfl ?_
  refine R_iconst (pc := 1074) (v := 1) dL_law_1074 (by decide) ?_
  refine R_iadd (pc := 1075) dL_law_1075 ?_
  refine R_sld (pc := 1076) dL_law_1076 (sc_in 1 hL hB (by decide) (by decide)) ?_
  refine k_L_117 (pc := 1077) (ge_X9_unview _ _ hV2) rfl (c_140 _) (by decide) (Nat.le_of_ble_eq_true rfl) (Nat.le_of_ble_eq_true rfl) (Nat.le_of_ble_eq_true rfl) dL_law_1077 (fun y8 w2 h => ?_)
  obtain ⟨hx10, σx6, rfl, hV7, hW9⟩ := h
  have hT11 := st_unview _ hV.1 hV.2.1 hW4 hW9
  have hQ12 := chL_fr (chL_fr hV.2.2.1 (fr_bif (fr_X8_unview _ _) hW4)) (fr_bif (fr_X9_unview _ _) hW9)
  have hQ13 := chD_fr (chD_fr hV.2.2.2 (fr_bif (fr_X8_unview _ _) hW4)) (fr_bif (fr_X9_unview _ _) hW9)
  refine R_pop (pc := 1080) dL_law_1080 rfl ?_
  refine R_goto (pc := 1081) 1278 dL_law_1081 (by decide) ?_
  refine inc_4_3_9_a (pc := 1278) dL_law_1278 ?_
  refine R_goto (pc := 1281) 18 dL_law_1281 (by decide) ?_
  exact hk _ ⟨hV7, hT11, hQ12, hQ13⟩
set_option maxRecDepth 100000 in
set_option maxHeartbeats 40000000 in
theorem law_24 {G : vG} {l : Launch} (σ : Sg) (I : Nat) (hV : LT σ) (hL : I + 9 ≤ gL G) (hB : gL G ≤ 4608) (hk : ∀ σ2 : Sg, LT σ2 → R G l yL_law cL_law 4 (some .boolean) 11 600000 7302250 (fun r _ => r = some (.int 1)) 18 [some (.ref 1000200), some (.ref 0), some (.ref 140), some (.int ((nI I) + 9))] [] (WW σ2) 173 3534) : R G l yL_law cL_law 4 (some .boolean) 11 600000 7302250 (fun r _ => r = some (.int 1)) 1084 [some (.ref 1000200), some (.ref 0), some (.ref 140), some (.int (nI I))] [] (WW σ) 173 3534 := by
  refine R_aload_n (pc := 1084) dL_law_1084 rfl rfl ?_
  refine R_aload_n (pc := 1085) dL_law_1085 rfl rfl ?_
  refine R_iload_n (pc := 1086) dL_law_1086 rfl rfl ?_
  refine R_iconst (pc := 1087) (v := 1) dL_law_1087 (by decide) ?_
  refine R_iadd (pc := 1088) dL_law_1088 ?_
  refine R_sld (pc := 1089) dL_law_1089 (sc_in 1 hL hB (by decide) (by decide)) ?_
  refine k_L_118 (pc := 1090) (gp_stood _ _ hV.1) rfl (c_0 _) (by decide) (Nat.le_of_ble_eq_true rfl) (Nat.le_of_ble_eq_true rfl) (Nat.le_of_ble_eq_true rfl) dL_law_1090 (fun y3 w2 h => ?_)
  obtain ⟨σx1, rfl, hV2, hW4⟩ := h
  refine R_pop2 (pc := 1093) dL_law_1093 ?_
  refine R_aload_n (pc := 1094) dL_law_1094 rfl rfl ?_
  refine R_aload_n (pc := 1095) dL_law_1095 rfl rfl ?_
  refine R_iload_n (pc := 1096) dL_law_1096 rfl rfl ?_
  refine R_iconst (pc := 1097) (v := 1) dL_law_1097 (by decide) ?_
  refine R_iadd (pc := 1098) dL_law_1098 ?_
  refine R_sld (pc := 1099) dL_law_1099 (sc_in 1 hL hB (by decide) (by decide)) ?_
  refine k_L_122 (pc := 1100) (gp_m_stood _ _ hV2) rfl (c_140 _) (by decide) (Nat.le_of_ble_eq_true rfl) (Nat.le_of_ble_eq_true rfl) (Nat.le_of_ble_eq_true rfl) dL_law_1100 (fun y8 w2 h => ?_)
  obtain ⟨σx6, rfl, hV7, hW9⟩ := h
  have hT11 := tie_cor (tie_cor hV.2.1 hW4) hW9
  have hQ12 := chL_fr (chL_fr hV.2.2.1 (fr_cor hW4)) (fr_cor hW9)
  have hQ13 := chD_fr (chD_fr hV.2.2.2 (fr_cor hW4)) (fr_cor hW9)
  refine R_pop2 (pc := 1103) dL_law_1103 ?_
  refine R_goto (pc := 1104) 1278 dL_law_1104 (by decide) ?_
  refine inc_4_3_9_a (pc := 1278) dL_law_1278 ?_
  refine R_goto (pc := 1281) 18 dL_law_1281 (by decide) ?_
  exact hk _ ⟨hV7, hT11, hQ12, hQ13⟩
set_option maxRecDepth 100000 in
set_option maxHeartbeats 40000000 in
theorem law_25 {G : vG} {l : Launch} (σ : Sg) (I : Nat) (hV : LT σ) (hL : I + 9 ≤ gL G) (hB : gL G ≤ 4608) (hk : ∀ σ2 : Sg, LT σ2 → R G l yL_law cL_law 4 (some .boolean) 11 600000 7302250 (fun r _ => r = some (.int 1)) 18 [some (.ref 1000200), some (.ref 0), some (.ref 140), some (.int ((nI I) + 9))] [] (WW σ2) 173 3534) : R G l yL_law cL_law 4 (some .boolean) 11 600000 7302250 (fun r _ => r = some (.int 1)) 1107 [some (.ref 1000200), some (.ref 0), some (.ref 140), some (.int (nI I))] [] (WW σ) 173 3534 := by
  refine R_aload_n (pc := 1107) dL_law_1107 rfl rfl ?_
  refine R_aload_n (pc := 1108) dL_law_1108 rfl rfl ?_
  refine R_iload_n (pc := 1109) dL_law_1109 rfl rfl ?_
  refine R_iconst (pc := 1110) (v := 1) dL_law_1110 (by decide) ?_
  refine R_iadd (pc := 1111) dL_law_1111 ?_
  refine R_sld (pc := 1112) dL_law_1112 (sc_in 1 hL hB (by decide) (by decide)) ?_
  refine k_L_123 (pc := 1113) (gp_together _ _ hV.1) rfl (c_0 _) (by decide) (Nat.le_of_ble_eq_true rfl) (Nat.le_of_ble_eq_true rfl) (Nat.le_of_ble_eq_true rfl) dL_law_1113 (fun y3 w2 h => ?_)
  obtain ⟨σx1, rfl, hV2, hW4⟩ := h
  refine R_pop (pc := 1116) dL_law_1116 rfl ?_
  refine R_aload_n (pc := 1117) dL_law_1117 rfl rfl ?_
  refine R_aload_n (pc := 1118) dL_law_1118 rfl rfl ?_
  refine R_iload_n (pc := 1119) dL_law_1119 rfl rfl ?_
  refine R_iconst (pc := 1120) (v := 1) dL_law_1120 (by decide) ?_
  refine R_iadd (pc := 1121) dL_law_1121 ?_
  refine R_sld (pc := 1122) dL_law_1122 (sc_in 1 hL hB (by decide) (by decide)) ?_
  refine k_L_126 (pc := 1123) (gp_m_together _ _ hV2) rfl (c_140 _) (by decide) (Nat.le_of_ble_eq_true rfl) (Nat.le_of_ble_eq_true rfl) (Nat.le_of_ble_eq_true rfl) dL_law_1123 (fun y8 w2 h => ?_)
  obtain ⟨σx6, rfl, hV7, hW9⟩ := h
  have hT11 := tie_cor (tie_cor hV.2.1 hW4) hW9
  have hQ12 := chL_fr (chL_fr hV.2.2.1 (fr_cor hW4)) (fr_cor hW9)
  have hQ13 := chD_fr (chD_fr hV.2.2.2 (fr_cor hW4)) (fr_cor hW9)
  refine R_pop (pc := 1126) dL_law_1126 rfl ?_
  refine R_goto (pc := 1127) 1278 dL_law_1127 (by decide) ?_
  refine inc_4_3_9_a (pc := 1278) dL_law_1278 ?_
  refine R_goto (pc := 1281) 18 dL_law_1281 (by decide) ?_
  exact hk _ ⟨hV7, hT11, hQ12, hQ13⟩
set_option maxRecDepth 100000 in
set_option maxHeartbeats 40000000 in
theorem law_26 {G : vG} {l : Launch} (σ : Sg) (I : Nat) (hV : LT σ) (hL : I + 9 ≤ gL G) (hB : gL G ≤ 4608) (hk : ∀ σ2 : Sg, LT σ2 → R G l yL_law cL_law 4 (some .boolean) 11 600000 7302250 (fun r _ => r = some (.int 1)) 18 [some (.ref 1000200), some (.ref 0), some (.ref 140), some (.int ((nI I) + 9))] [] (WW σ2) 173 3534) : R G l yL_law cL_law 4 (some .boolean) 11 600000 7302250 (fun r _ => r = some (.int 1)) 1130 [some (.ref 1000200), some (.ref 0), some (.ref 140), some (.int (nI I))] [] (WW σ) 173 3534 := by
  refine R_aload_n (pc := 1130) dL_law_1130 rfl rfl ?_
  refine R_aload_n (pc := 1131) dL_law_1131 rfl rfl ?_
  refine R_iload_n (pc := 1132) dL_law_1132 rfl rfl ?_
  refine R_iconst (pc := 1133) (v := 1) dL_law_1133 (by decide) ?_
  refine R_iadd (pc := 1134) dL_law_1134 ?_
  refine R_sld (pc := 1135) dL_law_1135 (sc_in 1 hL hB (by decide) (by decide)) ?_
  refine R_i2l (pc := 1136) dL_law_1136 ?_
  refine R_bipush (pc := 1137) (v := 32) dL_law_1137 (by decide) ?_
  refine R_lshl (pc := 1139) dL_law_1139 ?_
  refine R_aload_n (pc := 1140) dL_law_1140 rfl rfl ?_
  refine R_iload_n (pc := 1141) dL_law_1141 rfl rfl ?_
  refine R_iconst (pc := 1142) (v := 2) dL_law_1142 (by decide) ?_
  refine R_iadd (pc := 1143) dL_law_1143 ?_
  refine R_sld (pc := 1144) dL_law_1144 (sc_in 2 hL hB (by decide) (by decide)) ?_
  refine R_i2l (pc := 1145) dL_law_1145 ?_
  refine R_ldc2 (pc := 1146) w_1271c dL_law_1146 ?_
  refine R_land (pc := 1149) dL_law_1149 ?_
  refine R_lor (pc := 1150) dL_law_1150 ?_
  refine R_aload_n (pc := 1151) dL_law_1151 rfl rfl ?_
  refine R_iload_n (pc := 1152) dL_law_1152 rfl rfl ?_
  refine R_iconst (pc := 1153) (v := 3) dL_law_1153 (by decide) ?_
  refine R_iadd (pc := 1154) dL_law_1154 ?_
  refine R_sld (pc := 1155) dL_law_1155 (sc_in 3 hL hB (by decide) (by decide)) ?_
  refine k_L_127 (pc := 1156) (ge_X8_write _ _ _ hV.1) rfl (c_0 _) (by decide) (Nat.le_of_ble_eq_true rfl) (Nat.le_of_ble_eq_true rfl) (Nat.le_of_ble_eq_true rfl) dL_law_1156 (fun y3 w2 h => ?_)
  obtain ⟨hx5, σx1, rfl, hV2, hW4⟩ := h
  refine R_pop (pc := 1159) dL_law_1159 rfl ?_
  refine R_aload_n (pc := 1160) dL_law_1160 rfl rfl ?_
  refine R_aload_n (pc := 1161) dL_law_1161 rfl rfl ?_
  refine R_iload_n (pc := 1162) dL_law_1162 rfl rfl ?_
  refine R_iconst (pc := 1163) (v := 1) dL_law_1163 (by decide) ?_
  refine R_iadd (pc := 1164) dL_law_1164 ?_
  refine R_sld (pc := 1165) dL_law_1165 (sc_in 1 hL hB (by decide) (by decide)) ?_
  refine R_i2l (pc := 1166) dL_law_1166 ?_
  refine R_bipush (pc := 1167) (v := 32) dL_law_1167 (by decide) ?_
  refine R_lshl (pc := 1169) dL_law_1169 ?_
  refine R_aload_n (pc := 1170) dL_law_1170 rfl rfl ?_
  refine R_iload_n (pc := 1171) dL_law_1171 rfl rfl ?_
  refine R_iconst (pc := 1172) (v := 2) dL_law_1172 (by decide) ?_
  refine R_iadd (pc := 1173) dL_law_1173 ?_
  refine R_sld (pc := 1174) dL_law_1174 (sc_in 2 hL hB (by decide) (by decide)) ?_
  refine R_i2l (pc := 1175) dL_law_1175 ?_
  refine R_ldc2 (pc := 1176) w_1271c dL_law_1176 ?_
  refine R_land (pc := 1179) dL_law_1179 ?_
  refine R_lor (pc := 1180) dL_law_1180 ?_
  refine R_aload_n (pc := 1181) dL_law_1181 rfl rfl ?_
  refine R_iload_n (pc := 1182) dL_law_1182 rfl rfl ?_
  refine R_iconst (pc := 1183) (v := 3) dL_law_1183 (by decide) ?_
  refine R_iadd (pc := 1184) dL_law_1184 ?_
  refine R_sld (pc := 1185) dL_law_1185 (sc_in 3 hL hB (by decide) (by decide)) ?_
  refine k_L_131 (pc := 1186) (ge_X9_write _ _ _ hV2) rfl (c_140 _) (by decide) (Nat.le_of_ble_eq_true rfl) (Nat.le_of_ble_eq_true rfl) (Nat.le_of_ble_eq_true rfl) dL_law_1186 (fun y8 w2 h => ?_)
  obtain ⟨hx10, σx6, rfl, hV7, hW9⟩ := h
  have hT11 := st_write _ _ hV.1 hV.2.1 hW4 hW9
  have hQ12 := chL_fr (chL_fr hV.2.2.1 (fr_bif (fr_X8_write _ _ _) hW4)) (fr_bif (fr_X9_write _ _ _) hW9)
  have hQ13 := chD_fr (chD_fr hV.2.2.2 (fr_bif (fr_X8_write _ _ _) hW4)) (fr_bif (fr_X9_write _ _ _) hW9)
  refine R_pop (pc := 1189) dL_law_1189 rfl ?_
  refine R_goto (pc := 1190) 1278 dL_law_1190 (by decide) ?_
  refine inc_4_3_9_a (pc := 1278) dL_law_1278 ?_
  refine R_goto (pc := 1281) 18 dL_law_1281 (by decide) ?_
  exact hk _ ⟨hV7, hT11, hQ12, hQ13⟩
set_option maxRecDepth 100000 in
set_option maxHeartbeats 40000000 in
theorem law_27 {G : vG} {l : Launch} (σ : Sg) (I : Nat) (hV : LT σ) (hL : I + 9 ≤ gL G) (hB : gL G ≤ 4608) (hk : ∀ σ2 : Sg, LT σ2 → R G l yL_law cL_law 4 (some .boolean) 11 600000 7302250 (fun r _ => r = some (.int 1)) 18 [some (.ref 1000200), some (.ref 0), some (.ref 140), some (.int ((nI I) + 9))] [] (WW σ2) 173 3534) : R G l yL_law cL_law 4 (some .boolean) 11 600000 7302250 (fun r _ => r = some (.int 1)) 1193 [some (.ref 1000200), some (.ref 0), some (.ref 140), some (.int (nI I))] [] (WW σ) 173 3534 := by
  refine R_aload_n (pc := 1193) dL_law_1193 rfl rfl ?_
  refine k_L_132 (pc := 1194) (ge_X8_erase _ hV.1) rfl (c_0 _) (by decide) (Nat.le_of_ble_eq_true rfl) (Nat.le_of_ble_eq_true rfl) (Nat.le_of_ble_eq_true rfl) dL_law_1194 (fun y3 w2 h => ?_)
  obtain ⟨hx5, σx1, rfl, hV2, hW4⟩ := h
  refine R_pop (pc := 1197) dL_law_1197 rfl ?_
  refine R_aload_n (pc := 1198) dL_law_1198 rfl rfl ?_
  refine k_L_135 (pc := 1199) (ge_X9_erase _ hV2) rfl (c_140 _) (by decide) (Nat.le_of_ble_eq_true rfl) (Nat.le_of_ble_eq_true rfl) (Nat.le_of_ble_eq_true rfl) dL_law_1199 (fun y8 w2 h => ?_)
  obtain ⟨hx10, σx6, rfl, hV7, hW9⟩ := h
  have hT11 := st_erase hV.1 hV.2.1 hW4 hW9
  have hQ12 := chL_fr (chL_fr hV.2.2.1 (fr_trans (fr_X8_erase _) (fr_cor hW4))) (fr_trans (fr_X9_erase _) (fr_cor hW9))
  have hQ13 := chD_fr (chD_fr hV.2.2.2 (fr_trans (fr_X8_erase _) (fr_cor hW4))) (fr_trans (fr_X9_erase _) (fr_cor hW9))
  refine R_pop (pc := 1202) dL_law_1202 rfl ?_
  refine R_goto (pc := 1203) 1278 dL_law_1203 (by decide) ?_
  refine inc_4_3_9_a (pc := 1278) dL_law_1278 ?_
  refine R_goto (pc := 1281) 18 dL_law_1281 (by decide) ?_
  exact hk _ ⟨hV7, hT11, hQ12, hQ13⟩
set_option maxRecDepth 100000 in
set_option maxHeartbeats 40000000 in
theorem law_28 {G : vG} {l : Launch} (σ : Sg) (I : Nat) (hV : LT σ) (hL : I + 9 ≤ gL G) (hB : gL G ≤ 4608) (hk : ∀ σ2 : Sg, LT σ2 → R G l yL_law cL_law 4 (some .boolean) 11 600000 7302250 (fun r _ => r = some (.int 1)) 18 [some (.ref 1000200), some (.ref 0), some (.ref 140), some (.int ((nI I) + 9))] [] (WW σ2) 173 3534) : R G l yL_law cL_law 4 (some .boolean) 11 600000 7302250 (fun r _ => r = some (.int 1)) 1206 [some (.ref 1000200), some (.ref 0), some (.ref 140), some (.int (nI I))] [] (WW σ) 173 3534 := by
  refine R_aload_n (pc := 1206) dL_law_1206 rfl rfl ?_
  refine k_L_136 (pc := 1207) (gp_fault _ hV.1) rfl (c_0 _) (by decide) (Nat.le_of_ble_eq_true rfl) (Nat.le_of_ble_eq_true rfl) (Nat.le_of_ble_eq_true rfl) dL_law_1207 (fun y3 w2 h => ?_)
  obtain ⟨σx1, rfl, hV2, hW4⟩ := h
  refine R_pop (pc := 1210) dL_law_1210 rfl ?_
  refine R_aload_n (pc := 1211) dL_law_1211 rfl rfl ?_
  refine k_L_139 (pc := 1212) (gp_m_fault _ hV2) rfl (c_140 _) (by decide) (Nat.le_of_ble_eq_true rfl) (Nat.le_of_ble_eq_true rfl) (Nat.le_of_ble_eq_true rfl) dL_law_1212 (fun y8 w2 h => ?_)
  obtain ⟨σx6, rfl, hV7, hW9⟩ := h
  have hT11 := tie_cor (tie_w hV.2.1 (cod_w hW4)) hW9
  have hQ12 := chL_fr (chL_fr hV.2.2.1 (fr_cod hW4)) (fr_cor hW9)
  have hQ13 := chD_fr (chD_fr hV.2.2.2 (fr_cod hW4)) (fr_cor hW9)
  refine R_pop (pc := 1215) dL_law_1215 rfl ?_
  refine R_goto (pc := 1216) 1278 dL_law_1216 (by decide) ?_
  refine inc_4_3_9_a (pc := 1278) dL_law_1278 ?_
  refine R_goto (pc := 1281) 18 dL_law_1281 (by decide) ?_
  exact hk _ ⟨hV7, hT11, hQ12, hQ13⟩
set_option maxRecDepth 100000 in
set_option maxHeartbeats 40000000 in
theorem law_29 {G : vG} {l : Launch} (σ : Sg) (I : Nat) (hV : LT σ) (hL : I + 9 ≤ gL G) (hB : gL G ≤ 4608) (hk : ∀ σ2 : Sg, LT σ2 → R G l yL_law cL_law 4 (some .boolean) 11 600000 7302250 (fun r _ => r = some (.int 1)) 18 [some (.ref 1000200), some (.ref 0), some (.ref 140), some (.int ((nI I) + 9))] [] (WW σ2) 173 3534) : R G l yL_law cL_law 4 (some .boolean) 11 600000 7302250 (fun r _ => r = some (.int 1)) 1219 [some (.ref 1000200), some (.ref 0), some (.ref 140), some (.int (nI I))] [] (WW σ) 173 3534 := by
  refine R_aload_n (pc := 1219) dL_law_1219 rfl rfl ?_
  refine k_L_140 (pc := 1220) (ge_X8_catalogue _ hV.1) rfl (c_0 _) (by decide) (Nat.le_of_ble_eq_true rfl) (Nat.le_of_ble_eq_true rfl) (Nat.le_of_ble_eq_true rfl) dL_law_1220 (fun y3 w2 h => ?_)
  obtain ⟨σx1, rfl, hV2, hW4⟩ := h
  refine R_pop (pc := 1223) dL_law_1223 rfl ?_
  refine R_aload_n (pc := 1224) dL_law_1224 rfl rfl ?_
  refine k_L_143 (pc := 1225) (ge_X9_catalogue _ hV2) rfl (c_140 _) (by decide) (Nat.le_of_ble_eq_true rfl) (Nat.le_of_ble_eq_true rfl) (Nat.le_of_ble_eq_true rfl) dL_law_1225 (fun y8 w2 h => ?_)
  obtain ⟨σx6, rfl, hV7, hW9⟩ := h
  have hT11 := st_catalogue hV.2.1 hW4 hW9
  have hQ12 := chL_fr (chL_fr hV.2.2.1 (fr_cat8 hW4)) (fr_cat9 hW9)
  have hQ13 := chD_fr (chD_fr hV.2.2.2 (fr_cat8 hW4)) (fr_cat9 hW9)
  refine R_pop (pc := 1228) dL_law_1228 rfl ?_
  refine R_goto (pc := 1229) 1278 dL_law_1229 (by decide) ?_
  refine inc_4_3_9_a (pc := 1278) dL_law_1278 ?_
  refine R_goto (pc := 1281) 18 dL_law_1281 (by decide) ?_
  exact hk _ ⟨hV7, hT11, hQ12, hQ13⟩
set_option maxRecDepth 100000 in
set_option maxHeartbeats 40000000 in
theorem law_30 {G : vG} {l : Launch} (σ : Sg) (I : Nat) (hV : LT σ) (hL : I + 9 ≤ gL G) (hB : gL G ≤ 4608) (hk : ∀ σ2 : Sg, LT σ2 → R G l yL_law cL_law 4 (some .boolean) 11 600000 7302250 (fun r _ => r = some (.int 1)) 18 [some (.ref 1000200), some (.ref 0), some (.ref 140), some (.int ((nI I) + 9))] [] (WW σ2) 173 3534) : R G l yL_law cL_law 4 (some .boolean) 11 600000 7302250 (fun r _ => r = some (.int 1)) 1232 [some (.ref 1000200), some (.ref 0), some (.ref 140), some (.int (nI I))] [] (WW σ) 173 3534 := by
  refine R_aload_n (pc := 1232) dL_law_1232 rfl rfl ?_
  refine R_aload_n (pc := 1233) dL_law_1233 rfl rfl ?_
  refine R_iload_n (pc := 1234) dL_law_1234 rfl rfl ?_
  refine R_iconst (pc := 1235) (v := 1) dL_law_1235 (by decide) ?_
  refine R_iadd (pc := 1236) dL_law_1236 ?_
  refine R_sld (pc := 1237) dL_law_1237 (sc_in 1 hL hB (by decide) (by decide)) ?_
  refine k_L_144 (pc := 1238) (gp_breaks _ _ hV.1) rfl (c_0 _) (by decide) (Nat.le_of_ble_eq_true rfl) (Nat.le_of_ble_eq_true rfl) (Nat.le_of_ble_eq_true rfl) dL_law_1238 (fun y3 w2 h => ?_)
  obtain ⟨σx1, rfl, hV2, hW4⟩ := h
  refine R_pop (pc := 1241) dL_law_1241 rfl ?_
  refine R_aload_n (pc := 1242) dL_law_1242 rfl rfl ?_
  refine R_aload_n (pc := 1243) dL_law_1243 rfl rfl ?_
  refine R_iload_n (pc := 1244) dL_law_1244 rfl rfl ?_
  refine R_iconst (pc := 1245) (v := 1) dL_law_1245 (by decide) ?_
  refine R_iadd (pc := 1246) dL_law_1246 ?_
  refine R_sld (pc := 1247) dL_law_1247 (sc_in 1 hL hB (by decide) (by decide)) ?_
  refine k_L_147 (pc := 1248) (gp_m_breaks _ _ hV2) rfl (c_140 _) (by decide) (Nat.le_of_ble_eq_true rfl) (Nat.le_of_ble_eq_true rfl) (Nat.le_of_ble_eq_true rfl) dL_law_1248 (fun y8 w2 h => ?_)
  obtain ⟨σx6, rfl, hV7, hW9⟩ := h
  have hT11 := tie_cor (tie_cor hV.2.1 hW4) hW9
  have hQ12 := chL_fr (chL_fr hV.2.2.1 (fr_cor hW4)) (fr_cor hW9)
  have hQ13 := chD_fr (chD_fr hV.2.2.2 (fr_cor hW4)) (fr_cor hW9)
  refine R_pop (pc := 1251) dL_law_1251 rfl ?_
  refine R_goto (pc := 1252) 1278 dL_law_1252 (by decide) ?_
  refine inc_4_3_9_a (pc := 1278) dL_law_1278 ?_
  refine R_goto (pc := 1281) 18 dL_law_1281 (by decide) ?_
  exact hk _ ⟨hV7, hT11, hQ12, hQ13⟩
set_option maxRecDepth 100000 in
set_option maxHeartbeats 40000000 in
theorem law_31 {G : vG} {l : Launch} (σ : Sg) (I : Nat) (hV : LT σ) (hL : I + 9 ≤ gL G) (hB : gL G ≤ 4608) (hk : ∀ σ2 : Sg, LT σ2 → R G l yL_law cL_law 4 (some .boolean) 11 600000 7302250 (fun r _ => r = some (.int 1)) 18 [some (.ref 1000200), some (.ref 0), some (.ref 140), some (.int ((nI I) + 9))] [] (WW σ2) 173 3534) : R G l yL_law cL_law 4 (some .boolean) 11 600000 7302250 (fun r _ => r = some (.int 1)) 1255 [some (.ref 1000200), some (.ref 0), some (.ref 140), some (.int (nI I))] [] (WW σ) 173 3534 := by
  refine R_aload_n (pc := 1255) dL_law_1255 rfl rfl ?_
  refine R_aload_n (pc := 1256) dL_law_1256 rfl rfl ?_
  refine R_iload_n (pc := 1257) dL_law_1257 rfl rfl ?_
  refine R_iconst (pc := 1258) (v := 1) dL_law_1258 (by decide) ?_
  refine R_iadd (pc := 1259) dL_law_1259 ?_
  refine R_sld (pc := 1260) dL_law_1260 (sc_in 1 hL hB (by decide) (by decide)) ?_
  refine k_L_148 (pc := 1261) (gp_count _ _ hV.1) rfl (c_0 _) (by decide) (Nat.le_of_ble_eq_true rfl) (Nat.le_of_ble_eq_true rfl) (Nat.le_of_ble_eq_true rfl) dL_law_1261 (fun y3 w2 h => ?_)
  obtain ⟨σx1, rfl, hV2, hW4⟩ := h
  refine R_pop (pc := 1264) dL_law_1264 rfl ?_
  refine R_aload_n (pc := 1265) dL_law_1265 rfl rfl ?_
  refine R_aload_n (pc := 1266) dL_law_1266 rfl rfl ?_
  refine R_iload_n (pc := 1267) dL_law_1267 rfl rfl ?_
  refine R_iconst (pc := 1268) (v := 1) dL_law_1268 (by decide) ?_
  refine R_iadd (pc := 1269) dL_law_1269 ?_
  refine R_sld (pc := 1270) dL_law_1270 (sc_in 1 hL hB (by decide) (by decide)) ?_
  refine k_L_151 (pc := 1271) (gp_m_count _ _ hV2) rfl (c_140 _) (by decide) (Nat.le_of_ble_eq_true rfl) (Nat.le_of_ble_eq_true rfl) (Nat.le_of_ble_eq_true rfl) dL_law_1271 (fun y8 w2 h => ?_)
  obtain ⟨σx6, rfl, hV7, hW9⟩ := h
  have hT11 := tie_cor (tie_cor hV.2.1 hW4) hW9
  have hQ12 := chL_fr (chL_fr hV.2.2.1 (fr_cor hW4)) (fr_cor hW9)
  have hQ13 := chD_fr (chD_fr hV.2.2.2 (fr_cor hW4)) (fr_cor hW9)
  refine R_pop (pc := 1274) dL_law_1274 rfl ?_
  refine R_goto (pc := 1275) 1278 dL_law_1275 (by decide) ?_
  refine inc_4_3_9_a (pc := 1278) dL_law_1278 ?_
  refine R_goto (pc := 1281) 18 dL_law_1281 (by decide) ?_
  exact hk _ ⟨hV7, hT11, hQ12, hQ13⟩
theorem and31 (v : Int32) : ∃ j : Nat, j < 32 ∧ v &&& 31 = nI j := by
  refine ⟨(v &&& 31).toInt.toNat, ?_⟩
  have h : (v &&& 31).toBitVec.toNat < 32 := by
    rw [Int32.toBitVec_and]
    exact Nat.lt_of_le_of_lt (by rw [BitVec.toNat_and]; exact Nat.and_le_right) (by decide : (31 : Int32).toBitVec.toNat < 32)
  have h2 : (v &&& 31).toInt = ((v &&& 31).toBitVec.toNat : Int) := by
    show (v &&& 31).toBitVec.toInt = _
    rw [BitVec.toInt_eq_toNat_of_lt (by omega)]
  refine ⟨by omega, ?_⟩
  apply Int32.toInt_inj.mp
  rw [nI_toInt (by omega)]
  omega
set_option maxRecDepth 100000 in
set_option maxHeartbeats 40000000 in
theorem law_body {G : vG} {l : Launch} (σ : Sg) (I : Nat) (hV : LT σ) (hL : I + 9 ≤ gL G) (hB : gL G ≤ 4608) (hk : ∀ σ2 : Sg, LT σ2 → R G l yL_law cL_law 4 (some .boolean) 11 600000 7302250 (fun r _ => r = some (.int 1)) 18 [some (.ref 1000200), some (.ref 0), some (.ref 140), some (.int ((nI I) + 9))] [] (WW σ2) 173 3534) : R G l yL_law cL_law 4 (some .boolean) 11 600000 7302250 (fun r _ => r = some (.int 1)) 27 [some (.ref 1000200), some (.ref 0), some (.ref 140), some (.int (nI I))] [] (WW σ) 173 3534 := by
  refine R_aload_n (pc := 27) dL_law_27 rfl rfl ?_
  refine R_iload_n (pc := 28) dL_law_28 rfl rfl ?_
  refine R_sld (pc := 29) dL_law_29 (sc_in0 hL hB) ?_
  refine R_bipush (pc := 30) (v := 31) dL_law_30 (by decide) ?_
  refine R_iand (pc := 32) dL_law_32 ?_
  obtain ⟨j, hj, e⟩ := and31 (gX G (Int32.toNatClampNeg (nI I)))
  refine R_cv (nI j) e ?_
  clear e
  rcases (show j = 0 ∨ j = 1 ∨ j = 2 ∨ j = 3 ∨ j = 4 ∨ j = 5 ∨ j = 6 ∨ j = 7 ∨ j = 8 ∨ j = 9 ∨ j = 10 ∨ j = 11 ∨ j = 12 ∨ j = 13 ∨ j = 14 ∨ j = 15 ∨ j = 16 ∨ j = 17 ∨ j = 18 ∨ j = 19 ∨ j = 20 ∨ j = 21 ∨ j = 22 ∨ j = 23 ∨ j = 24 ∨ j = 25 ∨ j = 26 ∨ j = 27 ∨ j = 28 ∨ j = 29 ∨ j = 30 ∨ j = 31 by omega) with rfl | rfl | rfl | rfl | rfl | rfl | rfl | rfl | rfl | rfl | rfl | rfl | rfl | rfl | rfl | rfl | rfl | rfl | rfl | rfl | rfl | rfl | rfl | rfl | rfl | rfl | rfl | rfl | rfl | rfl | rfl | rfl
  · exact R_tin (pc := 33) 176 dL_law_33 (by decide) (by decide) rfl (by decide) (law_0 σ I hV hL hB hk)
  · exact R_tin (pc := 33) 295 dL_law_33 (by decide) (by decide) rfl (by decide) (law_1 σ I hV hL hB hk)
  · exact R_tin (pc := 33) 368 dL_law_33 (by decide) (by decide) rfl (by decide) (law_2 σ I hV hL hB hk)
  · exact R_tin (pc := 33) 391 dL_law_33 (by decide) (by decide) rfl (by decide) (law_3 σ I hV hL hB hk)
  · exact R_tin (pc := 33) 424 dL_law_33 (by decide) (by decide) rfl (by decide) (law_4 σ I hV hL hB hk)
  · exact R_tin (pc := 33) 457 dL_law_33 (by decide) (by decide) rfl (by decide) (law_5 σ I hV hL hB hk)
  · exact R_tin (pc := 33) 480 dL_law_33 (by decide) (by decide) rfl (by decide) (law_6 σ I hV hL hB hk)
  · exact R_tin (pc := 33) 513 dL_law_33 (by decide) (by decide) rfl (by decide) (law_7 σ I hV hL hB hk)
  · exact R_tin (pc := 33) 546 dL_law_33 (by decide) (by decide) rfl (by decide) (law_8 σ I hV hL hB hk)
  · exact R_tin (pc := 33) 579 dL_law_33 (by decide) (by decide) rfl (by decide) (law_9 σ I hV hL hB hk)
  · exact R_tin (pc := 33) 612 dL_law_33 (by decide) (by decide) rfl (by decide) (law_10 σ I hV hL hB hk)
  · exact R_tin (pc := 33) 645 dL_law_33 (by decide) (by decide) rfl (by decide) (law_11 σ I hV hL hB hk)
  · exact R_tin (pc := 33) 668 dL_law_33 (by decide) (by decide) rfl (by decide) (law_12 σ I hV hL hB hk)
  · exact R_tin (pc := 33) 711 dL_law_33 (by decide) (by decide) rfl (by decide) (law_13 σ I hV hL hB hk)
  · exact R_tin (pc := 33) 754 dL_law_33 (by decide) (by decide) rfl (by decide) (law_14 σ I hV hL hB hk)
  · exact R_tin (pc := 33) 797 dL_law_33 (by decide) (by decide) rfl (by decide) (law_15 σ I hV hL hB hk)
  · exact R_tin (pc := 33) 840 dL_law_33 (by decide) (by decide) rfl (by decide) (law_16 σ I hV hL hB hk)
  · exact R_tin (pc := 33) 873 dL_law_33 (by decide) (by decide) rfl (by decide) (law_17 σ I hV hL hB hk)
  · exact R_tin (pc := 33) 916 dL_law_33 (by decide) (by decide) rfl (by decide) (law_18 σ I hV hL hB hk)
  · exact R_tin (pc := 33) 929 dL_law_33 (by decide) (by decide) rfl (by decide) (law_19 σ I hV hL hB hk)
  · exact R_tin (pc := 33) 942 dL_law_33 (by decide) (by decide) rfl (by decide) (law_20 σ I hV hL hB hk)
  · exact R_tin (pc := 33) 975 dL_law_33 (by decide) (by decide) rfl (by decide) (law_21 σ I hV hL hB hk)
  · exact R_tin (pc := 33) 1028 dL_law_33 (by decide) (by decide) rfl (by decide) (law_22 σ I hV hL hB hk)
  · exact R_tin (pc := 33) 1061 dL_law_33 (by decide) (by decide) rfl (by decide) (law_23 σ I hV hL hB hk)
  · exact R_tin (pc := 33) 1084 dL_law_33 (by decide) (by decide) rfl (by decide) (law_24 σ I hV hL hB hk)
  · exact R_tin (pc := 33) 1107 dL_law_33 (by decide) (by decide) rfl (by decide) (law_25 σ I hV hL hB hk)
  · exact R_tin (pc := 33) 1130 dL_law_33 (by decide) (by decide) rfl (by decide) (law_26 σ I hV hL hB hk)
  · exact R_tin (pc := 33) 1193 dL_law_33 (by decide) (by decide) rfl (by decide) (law_27 σ I hV hL hB hk)
  · exact R_tin (pc := 33) 1206 dL_law_33 (by decide) (by decide) rfl (by decide) (law_28 σ I hV hL hB hk)
  · exact R_tin (pc := 33) 1219 dL_law_33 (by decide) (by decide) rfl (by decide) (law_29 σ I hV hL hB hk)
  · exact R_tin (pc := 33) 1232 dL_law_33 (by decide) (by decide) rfl (by decide) (law_30 σ I hV hL hB hk)
  · exact R_tin (pc := 33) 1255 dL_law_33 (by decide) (by decide) rfl (by decide) (law_31 σ I hV hL hB hk)
set_option maxRecDepth 100000 in
set_option maxHeartbeats 40000000 in
theorem law_loop {G : vG} {l : Launch} (hB : gL G ≤ 4608) : ∀ (q I : Nat) (σ : Sg), gL G < I + 9 + q → I ≤ 4608 → LT σ → R G l yL_law cL_law 4 (some .boolean) 11 600000 7302250 (fun r _ => r = some (.int 1)) 18 [some (.ref 1000200), some (.ref 0), some (.ref 140), some (.int (nI I))] [] (WW σ) 173 3534 := by
  have e9 : (9 : Int32) = nI 9 := rfl
  have hs : (nI (gL G) - 9).toInt = (gL G : Int) - 9 := by
    have h := ti_sub (a := nI (gL G)) (b := 9) (l1 := 0) (h1 := nI 4608) (l2 := 9) (h2 := 9) (l := -9) (h := 4599) (inR_nI hB (by decide)) (inR_self _) (by decide) (by decide)
    rw [h, nI_toInt (by omega)]
    rfl
  intro q
  induction q with
  | zero =>
    intro I σ hq hI hV
    refine R_iload_n (pc := 18) dL_law_18 rfl rfl ?_
    refine R_aload_n (pc := 19) dL_law_19 rfl rfl ?_
    refine R_slen (pc := 20) dL_law_20 ?_
    refine R_bipush (pc := 21) (v := 9) dL_law_21 (by decide) ?_
    refine R_isub (pc := 23) dL_law_23 ?_
    refine R_icgt (pc := 24) 1284 dL_law_24 (by decide) (fun _ => ?_) (fun h => ?_)
    · refine R_iconst (pc := 1284) (v := 1) dL_law_1284 (by decide) ?_
      exact R_iret (pc := 1285) dL_law_1285 rfl rfl (Nat.le_of_ble_eq_true rfl) (Nat.le_of_ble_eq_true rfl) rfl
    · have h2 := ti_nlt h
      rw [hs, nI_toInt (by omega)] at h2
      omega
  | succ q ih =>
    intro I σ hq hI hV
    refine R_iload_n (pc := 18) dL_law_18 rfl rfl ?_
    refine R_aload_n (pc := 19) dL_law_19 rfl rfl ?_
    refine R_slen (pc := 20) dL_law_20 ?_
    refine R_bipush (pc := 21) (v := 9) dL_law_21 (by decide) ?_
    refine R_isub (pc := 23) dL_law_23 ?_
    refine R_icgt (pc := 24) 1284 dL_law_24 (by decide) (fun _ => ?_) (fun h => ?_)
    · refine R_iconst (pc := 1284) (v := 1) dL_law_1284 (by decide) ?_
      exact R_iret (pc := 1285) dL_law_1285 rfl rfl (Nat.le_of_ble_eq_true rfl) (Nat.le_of_ble_eq_true rfl) rfl
    · have h2 := ti_nlt h
      rw [hs, nI_toInt (by omega)] at h2
      refine law_body σ I hV (by omega) hB (fun σ2 h3 => ?_)
      rw [show nI I + 9 = nI (I + 9) from nI_add I 9]
      exact ih (I + 9) σ2 (by omega) (by omega) h3
