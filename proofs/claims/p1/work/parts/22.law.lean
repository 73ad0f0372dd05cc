theorem dL_law_0 : decode cL_law 0 = .ok (.new 7, 3) := by decide +kernel
theorem dL_law_3 : decode cL_law 3 = .ok (.dup, 1) := by decide +kernel
theorem dL_law_4 : decode cL_law 4 = .ok (.invokespecial 9, 3) := by decide +kernel
theorem dL_law_7 : decode cL_law 7 = .ok (.astore_n 1, 1) := by decide +kernel
theorem dL_law_8 : decode cL_law 8 = .ok (.new 10, 3) := by decide +kernel
theorem dL_law_11 : decode cL_law 11 = .ok (.dup, 1) := by decide +kernel
theorem dL_law_12 : decode cL_law 12 = .ok (.invokespecial 12, 3) := by decide +kernel
theorem dL_law_15 : decode cL_law 15 = .ok (.astore_n 2, 1) := by decide +kernel
theorem dL_law_16 : decode cL_law 16 = .ok (.iconst 0, 1) := by decide +kernel
theorem dL_law_17 : decode cL_law 17 = .ok (.istore_n 3, 1) := by decide +kernel
theorem dL_law_18 : decode cL_law 18 = .ok (.iload_n 3, 1) := by decide +kernel
theorem dL_law_19 : decode cL_law 19 = .ok (.aload_n 0, 1) := by decide +kernel
theorem dL_law_20 : decode cL_law 20 = .ok (.arraylength, 1) := by decide +kernel
theorem dL_law_21 : decode cL_law 21 = .ok (.bipush 9, 2) := by decide +kernel
theorem dL_law_23 : decode cL_law 23 = .ok (.isub, 1) := by decide +kernel
theorem dL_law_24 : decode cL_law 24 = .ok (.if_icmp .gt 1261, 3) := by decide +kernel
theorem dL_law_27 : decode cL_law 27 = .ok (.aload_n 0, 1) := by decide +kernel
theorem dL_law_28 : decode cL_law 28 = .ok (.iload_n 3, 1) := by decide +kernel
theorem dL_law_29 : decode cL_law 29 = .ok (.iaload, 1) := by decide +kernel
theorem dL_law_30 : decode cL_law 30 = .ok (.bipush 31, 2) := by decide +kernel
theorem dL_law_32 : decode cL_law 32 = .ok (.iand, 1) := by decide +kernel
theorem dL_law_33 : decode cL_law 33 = .ok (.tableswitch 1246 0 31 #[143, 262, 335, 358, 391, 424, 447, 480, 513, 546, 579, 612, 635, 678, 721, 764, 807, 840, 883, 896, 909, 942, 995, 1028, 1051, 1075, 1098, 1161, 1174, 1187, 1200, 1223], 143) := by decide +kernel
theorem dL_law_176 : decode cL_law 176 = .ok (.aload_n 1, 1) := by decide +kernel
theorem dL_law_177 : decode cL_law 177 = .ok (.aload_n 0, 1) := by decide +kernel
theorem dL_law_178 : decode cL_law 178 = .ok (.iload_n 3, 1) := by decide +kernel
theorem dL_law_179 : decode cL_law 179 = .ok (.iconst 1, 1) := by decide +kernel
theorem dL_law_180 : decode cL_law 180 = .ok (.iadd, 1) := by decide +kernel
theorem dL_law_181 : decode cL_law 181 = .ok (.iaload, 1) := by decide +kernel
theorem dL_law_182 : decode cL_law 182 = .ok (.aload_n 0, 1) := by decide +kernel
theorem dL_law_183 : decode cL_law 183 = .ok (.iload_n 3, 1) := by decide +kernel
theorem dL_law_184 : decode cL_law 184 = .ok (.iconst 2, 1) := by decide +kernel
theorem dL_law_185 : decode cL_law 185 = .ok (.iadd, 1) := by decide +kernel
theorem dL_law_186 : decode cL_law 186 = .ok (.iaload, 1) := by decide +kernel
theorem dL_law_187 : decode cL_law 187 = .ok (.aload_n 0, 1) := by decide +kernel
theorem dL_law_188 : decode cL_law 188 = .ok (.iload_n 3, 1) := by decide +kernel
theorem dL_law_189 : decode cL_law 189 = .ok (.iconst 3, 1) := by decide +kernel
theorem dL_law_190 : decode cL_law 190 = .ok (.iadd, 1) := by decide +kernel
theorem dL_law_191 : decode cL_law 191 = .ok (.iaload, 1) := by decide +kernel
theorem dL_law_192 : decode cL_law 192 = .ok (.aload_n 0, 1) := by decide +kernel
theorem dL_law_193 : decode cL_law 193 = .ok (.iload_n 3, 1) := by decide +kernel
theorem dL_law_194 : decode cL_law 194 = .ok (.iconst 4, 1) := by decide +kernel
theorem dL_law_195 : decode cL_law 195 = .ok (.iadd, 1) := by decide +kernel
theorem dL_law_196 : decode cL_law 196 = .ok (.iaload, 1) := by decide +kernel
theorem dL_law_197 : decode cL_law 197 = .ok (.aload_n 0, 1) := by decide +kernel
theorem dL_law_198 : decode cL_law 198 = .ok (.iload_n 3, 1) := by decide +kernel
theorem dL_law_199 : decode cL_law 199 = .ok (.iconst 5, 1) := by decide +kernel
theorem dL_law_200 : decode cL_law 200 = .ok (.iadd, 1) := by decide +kernel
theorem dL_law_201 : decode cL_law 201 = .ok (.iaload, 1) := by decide +kernel
theorem dL_law_202 : decode cL_law 202 = .ok (.i2l, 1) := by decide +kernel
theorem dL_law_203 : decode cL_law 203 = .ok (.bipush 32, 2) := by decide +kernel
theorem dL_law_205 : decode cL_law 205 = .ok (.lshl, 1) := by decide +kernel
theorem dL_law_206 : decode cL_law 206 = .ok (.aload_n 0, 1) := by decide +kernel
theorem dL_law_207 : decode cL_law 207 = .ok (.iload_n 3, 1) := by decide +kernel
theorem dL_law_208 : decode cL_law 208 = .ok (.bipush 6, 2) := by decide +kernel
theorem dL_law_210 : decode cL_law 210 = .ok (.iadd, 1) := by decide +kernel
theorem dL_law_211 : decode cL_law 211 = .ok (.iaload, 1) := by decide +kernel
theorem dL_law_212 : decode cL_law 212 = .ok (.i2l, 1) := by decide +kernel
theorem dL_law_213 : decode cL_law 213 = .ok (.ldc2_w 13, 3) := by decide +kernel
theorem dL_law_216 : decode cL_law 216 = .ok (.land, 1) := by decide +kernel
theorem dL_law_217 : decode cL_law 217 = .ok (.lor, 1) := by decide +kernel
theorem dL_law_218 : decode cL_law 218 = .ok (.aload_n 0, 1) := by decide +kernel
theorem dL_law_219 : decode cL_law 219 = .ok (.iload_n 3, 1) := by decide +kernel
theorem dL_law_220 : decode cL_law 220 = .ok (.bipush 7, 2) := by decide +kernel
theorem dL_law_222 : decode cL_law 222 = .ok (.iadd, 1) := by decide +kernel
theorem dL_law_223 : decode cL_law 223 = .ok (.iaload, 1) := by decide +kernel
theorem dL_law_224 : decode cL_law 224 = .ok (.aload_n 0, 1) := by decide +kernel
theorem dL_law_225 : decode cL_law 225 = .ok (.iload_n 3, 1) := by decide +kernel
theorem dL_law_226 : decode cL_law 226 = .ok (.bipush 8, 2) := by decide +kernel
theorem dL_law_228 : decode cL_law 228 = .ok (.iadd, 1) := by decide +kernel
theorem dL_law_229 : decode cL_law 229 = .ok (.iaload, 1) := by decide +kernel
theorem dL_law_230 : decode cL_law 230 = .ok (.invokevirtual 15, 3) := by decide +kernel
theorem dL_law_233 : decode cL_law 233 = .ok (.aload_n 2, 1) := by decide +kernel
theorem dL_law_234 : decode cL_law 234 = .ok (.aload_n 0, 1) := by decide +kernel
theorem dL_law_235 : decode cL_law 235 = .ok (.iload_n 3, 1) := by decide +kernel
theorem dL_law_236 : decode cL_law 236 = .ok (.iconst 1, 1) := by decide +kernel
theorem dL_law_237 : decode cL_law 237 = .ok (.iadd, 1) := by decide +kernel
theorem dL_law_238 : decode cL_law 238 = .ok (.iaload, 1) := by decide +kernel
theorem dL_law_239 : decode cL_law 239 = .ok (.aload_n 0, 1) := by decide +kernel
theorem dL_law_240 : decode cL_law 240 = .ok (.iload_n 3, 1) := by decide +kernel
theorem dL_law_241 : decode cL_law 241 = .ok (.iconst 2, 1) := by decide +kernel
theorem dL_law_242 : decode cL_law 242 = .ok (.iadd, 1) := by decide +kernel
theorem dL_law_243 : decode cL_law 243 = .ok (.iaload, 1) := by decide +kernel
theorem dL_law_244 : decode cL_law 244 = .ok (.aload_n 0, 1) := by decide +kernel
theorem dL_law_245 : decode cL_law 245 = .ok (.iload_n 3, 1) := by decide +kernel
theorem dL_law_246 : decode cL_law 246 = .ok (.iconst 3, 1) := by decide +kernel
theorem dL_law_247 : decode cL_law 247 = .ok (.iadd, 1) := by decide +kernel
theorem dL_law_248 : decode cL_law 248 = .ok (.iaload, 1) := by decide +kernel
theorem dL_law_249 : decode cL_law 249 = .ok (.aload_n 0, 1) := by decide +kernel
theorem dL_law_250 : decode cL_law 250 = .ok (.iload_n 3, 1) := by decide +kernel
theorem dL_law_251 : decode cL_law 251 = .ok (.iconst 4, 1) := by decide +kernel
theorem dL_law_252 : decode cL_law 252 = .ok (.iadd, 1) := by decide +kernel
theorem dL_law_253 : decode cL_law 253 = .ok (.iaload, 1) := by decide +kernel
theorem dL_law_254 : decode cL_law 254 = .ok (.aload_n 0, 1) := by decide +kernel
theorem dL_law_255 : decode cL_law 255 = .ok (.iload_n 3, 1) := by decide +kernel
theorem dL_law_256 : decode cL_law 256 = .ok (.iconst 5, 1) := by decide +kernel
theorem dL_law_257 : decode cL_law 257 = .ok (.iadd, 1) := by decide +kernel
theorem dL_law_258 : decode cL_law 258 = .ok (.iaload, 1) := by decide +kernel
theorem dL_law_259 : decode cL_law 259 = .ok (.i2l, 1) := by decide +kernel
theorem dL_law_260 : decode cL_law 260 = .ok (.bipush 32, 2) := by decide +kernel
theorem dL_law_262 : decode cL_law 262 = .ok (.lshl, 1) := by decide +kernel
theorem dL_law_263 : decode cL_law 263 = .ok (.aload_n 0, 1) := by decide +kernel
theorem dL_law_264 : decode cL_law 264 = .ok (.iload_n 3, 1) := by decide +kernel
theorem dL_law_265 : decode cL_law 265 = .ok (.bipush 6, 2) := by decide +kernel
theorem dL_law_267 : decode cL_law 267 = .ok (.iadd, 1) := by decide +kernel
theorem dL_law_268 : decode cL_law 268 = .ok (.iaload, 1) := by decide +kernel
theorem dL_law_269 : decode cL_law 269 = .ok (.i2l, 1) := by decide +kernel
theorem dL_law_270 : decode cL_law 270 = .ok (.ldc2_w 13, 3) := by decide +kernel
theorem dL_law_273 : decode cL_law 273 = .ok (.land, 1) := by decide +kernel
theorem dL_law_274 : decode cL_law 274 = .ok (.lor, 1) := by decide +kernel
theorem dL_law_275 : decode cL_law 275 = .ok (.aload_n 0, 1) := by decide +kernel
theorem dL_law_276 : decode cL_law 276 = .ok (.iload_n 3, 1) := by decide +kernel
theorem dL_law_277 : decode cL_law 277 = .ok (.bipush 7, 2) := by decide +kernel
theorem dL_law_279 : decode cL_law 279 = .ok (.iadd, 1) := by decide +kernel
theorem dL_law_280 : decode cL_law 280 = .ok (.iaload, 1) := by decide +kernel
theorem dL_law_281 : decode cL_law 281 = .ok (.aload_n 0, 1) := by decide +kernel
theorem dL_law_282 : decode cL_law 282 = .ok (.iload_n 3, 1) := by decide +kernel
theorem dL_law_283 : decode cL_law 283 = .ok (.bipush 8, 2) := by decide +kernel
theorem dL_law_285 : decode cL_law 285 = .ok (.iadd, 1) := by decide +kernel
theorem dL_law_286 : decode cL_law 286 = .ok (.iaload, 1) := by decide +kernel
theorem dL_law_287 : decode cL_law 287 = .ok (.invokevirtual 19, 3) := by decide +kernel
theorem dL_law_290 : decode cL_law 290 = .ok (.if_icmp .eq 989, 3) := by decide +kernel
theorem dL_law_293 : decode cL_law 293 = .ok (.iconst 0, 1) := by decide +kernel
theorem dL_law_294 : decode cL_law 294 = .ok (.ireturn, 1) := by decide +kernel
theorem dL_law_295 : decode cL_law 295 = .ok (.aload_n 1, 1) := by decide +kernel
theorem dL_law_296 : decode cL_law 296 = .ok (.aload_n 0, 1) := by decide +kernel
theorem dL_law_297 : decode cL_law 297 = .ok (.iload_n 3, 1) := by decide +kernel
theorem dL_law_298 : decode cL_law 298 = .ok (.iconst 1, 1) := by decide +kernel
theorem dL_law_299 : decode cL_law 299 = .ok (.iadd, 1) := by decide +kernel
theorem dL_law_300 : decode cL_law 300 = .ok (.iaload, 1) := by decide +kernel
theorem dL_law_301 : decode cL_law 301 = .ok (.aload_n 0, 1) := by decide +kernel
theorem dL_law_302 : decode cL_law 302 = .ok (.iload_n 3, 1) := by decide +kernel
theorem dL_law_303 : decode cL_law 303 = .ok (.iconst 2, 1) := by decide +kernel
theorem dL_law_304 : decode cL_law 304 = .ok (.iadd, 1) := by decide +kernel
theorem dL_law_305 : decode cL_law 305 = .ok (.iaload, 1) := by decide +kernel
theorem dL_law_306 : decode cL_law 306 = .ok (.i2l, 1) := by decide +kernel
theorem dL_law_307 : decode cL_law 307 = .ok (.bipush 32, 2) := by decide +kernel
theorem dL_law_309 : decode cL_law 309 = .ok (.lshl, 1) := by decide +kernel
theorem dL_law_310 : decode cL_law 310 = .ok (.aload_n 0, 1) := by decide +kernel
theorem dL_law_311 : decode cL_law 311 = .ok (.iload_n 3, 1) := by decide +kernel
theorem dL_law_312 : decode cL_law 312 = .ok (.iconst 3, 1) := by decide +kernel
theorem dL_law_313 : decode cL_law 313 = .ok (.iadd, 1) := by decide +kernel
theorem dL_law_314 : decode cL_law 314 = .ok (.iaload, 1) := by decide +kernel
theorem dL_law_315 : decode cL_law 315 = .ok (.i2l, 1) := by decide +kernel
theorem dL_law_316 : decode cL_law 316 = .ok (.ldc2_w 13, 3) := by decide +kernel
theorem dL_law_319 : decode cL_law 319 = .ok (.land, 1) := by decide +kernel
theorem dL_law_320 : decode cL_law 320 = .ok (.lor, 1) := by decide +kernel
theorem dL_law_321 : decode cL_law 321 = .ok (.aload_n 0, 1) := by decide +kernel
theorem dL_law_322 : decode cL_law 322 = .ok (.iload_n 3, 1) := by decide +kernel
theorem dL_law_323 : decode cL_law 323 = .ok (.iconst 4, 1) := by decide +kernel
theorem dL_law_324 : decode cL_law 324 = .ok (.iadd, 1) := by decide +kernel
theorem dL_law_325 : decode cL_law 325 = .ok (.iaload, 1) := by decide +kernel
theorem dL_law_326 : decode cL_law 326 = .ok (.invokevirtual 20, 3) := by decide +kernel
theorem dL_law_329 : decode cL_law 329 = .ok (.aload_n 2, 1) := by decide +kernel
theorem dL_law_330 : decode cL_law 330 = .ok (.aload_n 0, 1) := by decide +kernel
theorem dL_law_331 : decode cL_law 331 = .ok (.iload_n 3, 1) := by decide +kernel
theorem dL_law_332 : decode cL_law 332 = .ok (.iconst 1, 1) := by decide +kernel
theorem dL_law_333 : decode cL_law 333 = .ok (.iadd, 1) := by decide +kernel
theorem dL_law_334 : decode cL_law 334 = .ok (.iaload, 1) := by decide +kernel
theorem dL_law_335 : decode cL_law 335 = .ok (.aload_n 0, 1) := by decide +kernel
theorem dL_law_336 : decode cL_law 336 = .ok (.iload_n 3, 1) := by decide +kernel
theorem dL_law_337 : decode cL_law 337 = .ok (.iconst 2, 1) := by decide +kernel
theorem dL_law_338 : decode cL_law 338 = .ok (.iadd, 1) := by decide +kernel
theorem dL_law_339 : decode cL_law 339 = .ok (.iaload, 1) := by decide +kernel
theorem dL_law_340 : decode cL_law 340 = .ok (.i2l, 1) := by decide +kernel
theorem dL_law_341 : decode cL_law 341 = .ok (.bipush 32, 2) := by decide +kernel
theorem dL_law_343 : decode cL_law 343 = .ok (.lshl, 1) := by decide +kernel
theorem dL_law_344 : decode cL_law 344 = .ok (.aload_n 0, 1) := by decide +kernel
theorem dL_law_345 : decode cL_law 345 = .ok (.iload_n 3, 1) := by decide +kernel
theorem dL_law_346 : decode cL_law 346 = .ok (.iconst 3, 1) := by decide +kernel
theorem dL_law_347 : decode cL_law 347 = .ok (.iadd, 1) := by decide +kernel
theorem dL_law_348 : decode cL_law 348 = .ok (.iaload, 1) := by decide +kernel
theorem dL_law_349 : decode cL_law 349 = .ok (.i2l, 1) := by decide +kernel
theorem dL_law_350 : decode cL_law 350 = .ok (.ldc2_w 13, 3) := by decide +kernel
theorem dL_law_353 : decode cL_law 353 = .ok (.land, 1) := by decide +kernel
theorem dL_law_354 : decode cL_law 354 = .ok (.lor, 1) := by decide +kernel
theorem dL_law_355 : decode cL_law 355 = .ok (.aload_n 0, 1) := by decide +kernel
theorem dL_law_356 : decode cL_law 356 = .ok (.iload_n 3, 1) := by decide +kernel
theorem dL_law_357 : decode cL_law 357 = .ok (.iconst 4, 1) := by decide +kernel
theorem dL_law_358 : decode cL_law 358 = .ok (.iadd, 1) := by decide +kernel
theorem dL_law_359 : decode cL_law 359 = .ok (.iaload, 1) := by decide +kernel
theorem dL_law_360 : decode cL_law 360 = .ok (.invokevirtual 24, 3) := by decide +kernel
theorem dL_law_363 : decode cL_law 363 = .ok (.if_icmp .eq 916, 3) := by decide +kernel
theorem dL_law_366 : decode cL_law 366 = .ok (.iconst 0, 1) := by decide +kernel
theorem dL_law_367 : decode cL_law 367 = .ok (.ireturn, 1) := by decide +kernel
theorem dL_law_368 : decode cL_law 368 = .ok (.aload_n 1, 1) := by decide +kernel
theorem dL_law_369 : decode cL_law 369 = .ok (.aload_n 0, 1) := by decide +kernel
theorem dL_law_370 : decode cL_law 370 = .ok (.iload_n 3, 1) := by decide +kernel
theorem dL_law_371 : decode cL_law 371 = .ok (.iconst 1, 1) := by decide +kernel
theorem dL_law_372 : decode cL_law 372 = .ok (.iadd, 1) := by decide +kernel
theorem dL_law_373 : decode cL_law 373 = .ok (.iaload, 1) := by decide +kernel
theorem dL_law_374 : decode cL_law 374 = .ok (.invokevirtual 25, 3) := by decide +kernel
theorem dL_law_377 : decode cL_law 377 = .ok (.aload_n 2, 1) := by decide +kernel
theorem dL_law_378 : decode cL_law 378 = .ok (.aload_n 0, 1) := by decide +kernel
theorem dL_law_379 : decode cL_law 379 = .ok (.iload_n 3, 1) := by decide +kernel
theorem dL_law_380 : decode cL_law 380 = .ok (.iconst 1, 1) := by decide +kernel
theorem dL_law_381 : decode cL_law 381 = .ok (.iadd, 1) := by decide +kernel
theorem dL_law_382 : decode cL_law 382 = .ok (.iaload, 1) := by decide +kernel
theorem dL_law_383 : decode cL_law 383 = .ok (.invokevirtual 29, 3) := by decide +kernel
theorem dL_law_386 : decode cL_law 386 = .ok (.if_icmp .eq 893, 3) := by decide +kernel
theorem dL_law_389 : decode cL_law 389 = .ok (.iconst 0, 1) := by decide +kernel
theorem dL_law_390 : decode cL_law 390 = .ok (.ireturn, 1) := by decide +kernel
theorem dL_law_391 : decode cL_law 391 = .ok (.aload_n 1, 1) := by decide +kernel
theorem dL_law_392 : decode cL_law 392 = .ok (.aload_n 0, 1) := by decide +kernel
theorem dL_law_393 : decode cL_law 393 = .ok (.iload_n 3, 1) := by decide +kernel
theorem dL_law_394 : decode cL_law 394 = .ok (.iconst 1, 1) := by decide +kernel
theorem dL_law_395 : decode cL_law 395 = .ok (.iadd, 1) := by decide +kernel
theorem dL_law_396 : decode cL_law 396 = .ok (.iaload, 1) := by decide +kernel
theorem dL_law_397 : decode cL_law 397 = .ok (.aload_n 0, 1) := by decide +kernel
theorem dL_law_398 : decode cL_law 398 = .ok (.iload_n 3, 1) := by decide +kernel
theorem dL_law_399 : decode cL_law 399 = .ok (.iconst 2, 1) := by decide +kernel
theorem dL_law_400 : decode cL_law 400 = .ok (.iadd, 1) := by decide +kernel
theorem dL_law_401 : decode cL_law 401 = .ok (.iaload, 1) := by decide +kernel
theorem dL_law_402 : decode cL_law 402 = .ok (.invokevirtual 30, 3) := by decide +kernel
theorem dL_law_405 : decode cL_law 405 = .ok (.aload_n 2, 1) := by decide +kernel
theorem dL_law_406 : decode cL_law 406 = .ok (.aload_n 0, 1) := by decide +kernel
theorem dL_law_407 : decode cL_law 407 = .ok (.iload_n 3, 1) := by decide +kernel
theorem dL_law_408 : decode cL_law 408 = .ok (.iconst 1, 1) := by decide +kernel
theorem dL_law_409 : decode cL_law 409 = .ok (.iadd, 1) := by decide +kernel
theorem dL_law_410 : decode cL_law 410 = .ok (.iaload, 1) := by decide +kernel
theorem dL_law_411 : decode cL_law 411 = .ok (.aload_n 0, 1) := by decide +kernel
theorem dL_law_412 : decode cL_law 412 = .ok (.iload_n 3, 1) := by decide +kernel
theorem dL_law_413 : decode cL_law 413 = .ok (.iconst 2, 1) := by decide +kernel
theorem dL_law_414 : decode cL_law 414 = .ok (.iadd, 1) := by decide +kernel
theorem dL_law_415 : decode cL_law 415 = .ok (.iaload, 1) := by decide +kernel
theorem dL_law_416 : decode cL_law 416 = .ok (.invokevirtual 34, 3) := by decide +kernel
theorem dL_law_419 : decode cL_law 419 = .ok (.if_icmp .eq 860, 3) := by decide +kernel
theorem dL_law_422 : decode cL_law 422 = .ok (.iconst 0, 1) := by decide +kernel
theorem dL_law_423 : decode cL_law 423 = .ok (.ireturn, 1) := by decide +kernel
theorem dL_law_424 : decode cL_law 424 = .ok (.aload_n 1, 1) := by decide +kernel
theorem dL_law_425 : decode cL_law 425 = .ok (.aload_n 0, 1) := by decide +kernel
theorem dL_law_426 : decode cL_law 426 = .ok (.iload_n 3, 1) := by decide +kernel
theorem dL_law_427 : decode cL_law 427 = .ok (.iconst 1, 1) := by decide +kernel
theorem dL_law_428 : decode cL_law 428 = .ok (.iadd, 1) := by decide +kernel
theorem dL_law_429 : decode cL_law 429 = .ok (.iaload, 1) := by decide +kernel
theorem dL_law_430 : decode cL_law 430 = .ok (.aload_n 0, 1) := by decide +kernel
theorem dL_law_431 : decode cL_law 431 = .ok (.iload_n 3, 1) := by decide +kernel
theorem dL_law_432 : decode cL_law 432 = .ok (.iconst 2, 1) := by decide +kernel
theorem dL_law_433 : decode cL_law 433 = .ok (.iadd, 1) := by decide +kernel
theorem dL_law_434 : decode cL_law 434 = .ok (.iaload, 1) := by decide +kernel
theorem dL_law_435 : decode cL_law 435 = .ok (.invokevirtual 35, 3) := by decide +kernel
theorem dL_law_438 : decode cL_law 438 = .ok (.aload_n 2, 1) := by decide +kernel
theorem dL_law_439 : decode cL_law 439 = .ok (.aload_n 0, 1) := by decide +kernel
theorem dL_law_440 : decode cL_law 440 = .ok (.iload_n 3, 1) := by decide +kernel
theorem dL_law_441 : decode cL_law 441 = .ok (.iconst 1, 1) := by decide +kernel
theorem dL_law_442 : decode cL_law 442 = .ok (.iadd, 1) := by decide +kernel
theorem dL_law_443 : decode cL_law 443 = .ok (.iaload, 1) := by decide +kernel
theorem dL_law_444 : decode cL_law 444 = .ok (.aload_n 0, 1) := by decide +kernel
theorem dL_law_445 : decode cL_law 445 = .ok (.iload_n 3, 1) := by decide +kernel
theorem dL_law_446 : decode cL_law 446 = .ok (.iconst 2, 1) := by decide +kernel
theorem dL_law_447 : decode cL_law 447 = .ok (.iadd, 1) := by decide +kernel
theorem dL_law_448 : decode cL_law 448 = .ok (.iaload, 1) := by decide +kernel
theorem dL_law_449 : decode cL_law 449 = .ok (.invokevirtual 38, 3) := by decide +kernel
theorem dL_law_452 : decode cL_law 452 = .ok (.if_icmp .eq 827, 3) := by decide +kernel
theorem dL_law_455 : decode cL_law 455 = .ok (.iconst 0, 1) := by decide +kernel
theorem dL_law_456 : decode cL_law 456 = .ok (.ireturn, 1) := by decide +kernel
theorem dL_law_457 : decode cL_law 457 = .ok (.aload_n 1, 1) := by decide +kernel
theorem dL_law_458 : decode cL_law 458 = .ok (.aload_n 0, 1) := by decide +kernel
theorem dL_law_459 : decode cL_law 459 = .ok (.iload_n 3, 1) := by decide +kernel
theorem dL_law_460 : decode cL_law 460 = .ok (.iconst 1, 1) := by decide +kernel
theorem dL_law_461 : decode cL_law 461 = .ok (.iadd, 1) := by decide +kernel
theorem dL_law_462 : decode cL_law 462 = .ok (.iaload, 1) := by decide +kernel
theorem dL_law_463 : decode cL_law 463 = .ok (.invokevirtual 39, 3) := by decide +kernel
theorem dL_law_466 : decode cL_law 466 = .ok (.aload_n 2, 1) := by decide +kernel
theorem dL_law_467 : decode cL_law 467 = .ok (.aload_n 0, 1) := by decide +kernel
theorem dL_law_468 : decode cL_law 468 = .ok (.iload_n 3, 1) := by decide +kernel
theorem dL_law_469 : decode cL_law 469 = .ok (.iconst 1, 1) := by decide +kernel
theorem dL_law_470 : decode cL_law 470 = .ok (.iadd, 1) := by decide +kernel
theorem dL_law_471 : decode cL_law 471 = .ok (.iaload, 1) := by decide +kernel
theorem dL_law_472 : decode cL_law 472 = .ok (.invokevirtual 42, 3) := by decide +kernel
theorem dL_law_475 : decode cL_law 475 = .ok (.if_icmp .eq 804, 3) := by decide +kernel
theorem dL_law_478 : decode cL_law 478 = .ok (.iconst 0, 1) := by decide +kernel
theorem dL_law_479 : decode cL_law 479 = .ok (.ireturn, 1) := by decide +kernel
theorem dL_law_480 : decode cL_law 480 = .ok (.aload_n 1, 1) := by decide +kernel
theorem dL_law_481 : decode cL_law 481 = .ok (.aload_n 0, 1) := by decide +kernel
theorem dL_law_482 : decode cL_law 482 = .ok (.iload_n 3, 1) := by decide +kernel
theorem dL_law_483 : decode cL_law 483 = .ok (.iconst 1, 1) := by decide +kernel
theorem dL_law_484 : decode cL_law 484 = .ok (.iadd, 1) := by decide +kernel
theorem dL_law_485 : decode cL_law 485 = .ok (.iaload, 1) := by decide +kernel
theorem dL_law_486 : decode cL_law 486 = .ok (.aload_n 0, 1) := by decide +kernel
theorem dL_law_487 : decode cL_law 487 = .ok (.iload_n 3, 1) := by decide +kernel
theorem dL_law_488 : decode cL_law 488 = .ok (.iconst 2, 1) := by decide +kernel
theorem dL_law_489 : decode cL_law 489 = .ok (.iadd, 1) := by decide +kernel
theorem dL_law_490 : decode cL_law 490 = .ok (.iaload, 1) := by decide +kernel
theorem dL_law_491 : decode cL_law 491 = .ok (.invokevirtual 43, 3) := by decide +kernel
theorem dL_law_494 : decode cL_law 494 = .ok (.aload_n 2, 1) := by decide +kernel
theorem dL_law_495 : decode cL_law 495 = .ok (.aload_n 0, 1) := by decide +kernel
theorem dL_law_496 : decode cL_law 496 = .ok (.iload_n 3, 1) := by decide +kernel
theorem dL_law_497 : decode cL_law 497 = .ok (.iconst 1, 1) := by decide +kernel
theorem dL_law_498 : decode cL_law 498 = .ok (.iadd, 1) := by decide +kernel
theorem dL_law_499 : decode cL_law 499 = .ok (.iaload, 1) := by decide +kernel
theorem dL_law_500 : decode cL_law 500 = .ok (.aload_n 0, 1) := by decide +kernel
theorem dL_law_501 : decode cL_law 501 = .ok (.iload_n 3, 1) := by decide +kernel
theorem dL_law_502 : decode cL_law 502 = .ok (.iconst 2, 1) := by decide +kernel
theorem dL_law_503 : decode cL_law 503 = .ok (.iadd, 1) := by decide +kernel
theorem dL_law_504 : decode cL_law 504 = .ok (.iaload, 1) := by decide +kernel
theorem dL_law_505 : decode cL_law 505 = .ok (.invokevirtual 46, 3) := by decide +kernel
theorem dL_law_508 : decode cL_law 508 = .ok (.if_icmp .eq 771, 3) := by decide +kernel
theorem dL_law_511 : decode cL_law 511 = .ok (.iconst 0, 1) := by decide +kernel
theorem dL_law_512 : decode cL_law 512 = .ok (.ireturn, 1) := by decide +kernel
theorem dL_law_513 : decode cL_law 513 = .ok (.aload_n 1, 1) := by decide +kernel
theorem dL_law_514 : decode cL_law 514 = .ok (.aload_n 0, 1) := by decide +kernel
theorem dL_law_515 : decode cL_law 515 = .ok (.iload_n 3, 1) := by decide +kernel
theorem dL_law_516 : decode cL_law 516 = .ok (.iconst 1, 1) := by decide +kernel
theorem dL_law_517 : decode cL_law 517 = .ok (.iadd, 1) := by decide +kernel
theorem dL_law_518 : decode cL_law 518 = .ok (.iaload, 1) := by decide +kernel
theorem dL_law_519 : decode cL_law 519 = .ok (.aload_n 0, 1) := by decide +kernel
theorem dL_law_520 : decode cL_law 520 = .ok (.iload_n 3, 1) := by decide +kernel
theorem dL_law_521 : decode cL_law 521 = .ok (.iconst 2, 1) := by decide +kernel
theorem dL_law_522 : decode cL_law 522 = .ok (.iadd, 1) := by decide +kernel
theorem dL_law_523 : decode cL_law 523 = .ok (.iaload, 1) := by decide +kernel
theorem dL_law_524 : decode cL_law 524 = .ok (.invokevirtual 47, 3) := by decide +kernel
theorem dL_law_527 : decode cL_law 527 = .ok (.aload_n 2, 1) := by decide +kernel
theorem dL_law_528 : decode cL_law 528 = .ok (.aload_n 0, 1) := by decide +kernel
theorem dL_law_529 : decode cL_law 529 = .ok (.iload_n 3, 1) := by decide +kernel
theorem dL_law_530 : decode cL_law 530 = .ok (.iconst 1, 1) := by decide +kernel
theorem dL_law_531 : decode cL_law 531 = .ok (.iadd, 1) := by decide +kernel
theorem dL_law_532 : decode cL_law 532 = .ok (.iaload, 1) := by decide +kernel
theorem dL_law_533 : decode cL_law 533 = .ok (.aload_n 0, 1) := by decide +kernel
theorem dL_law_534 : decode cL_law 534 = .ok (.iload_n 3, 1) := by decide +kernel
theorem dL_law_535 : decode cL_law 535 = .ok (.iconst 2, 1) := by decide +kernel
theorem dL_law_536 : decode cL_law 536 = .ok (.iadd, 1) := by decide +kernel
theorem dL_law_537 : decode cL_law 537 = .ok (.iaload, 1) := by decide +kernel
theorem dL_law_538 : decode cL_law 538 = .ok (.invokevirtual 50, 3) := by decide +kernel
theorem dL_law_541 : decode cL_law 541 = .ok (.if_icmp .eq 738, 3) := by decide +kernel
theorem dL_law_544 : decode cL_law 544 = .ok (.iconst 0, 1) := by decide +kernel
theorem dL_law_545 : decode cL_law 545 = .ok (.ireturn, 1) := by decide +kernel
theorem dL_law_546 : decode cL_law 546 = .ok (.aload_n 1, 1) := by decide +kernel
theorem dL_law_547 : decode cL_law 547 = .ok (.aload_n 0, 1) := by decide +kernel
theorem dL_law_548 : decode cL_law 548 = .ok (.iload_n 3, 1) := by decide +kernel
theorem dL_law_549 : decode cL_law 549 = .ok (.iconst 1, 1) := by decide +kernel
theorem dL_law_550 : decode cL_law 550 = .ok (.iadd, 1) := by decide +kernel
theorem dL_law_551 : decode cL_law 551 = .ok (.iaload, 1) := by decide +kernel
theorem dL_law_552 : decode cL_law 552 = .ok (.aload_n 0, 1) := by decide +kernel
theorem dL_law_553 : decode cL_law 553 = .ok (.iload_n 3, 1) := by decide +kernel
theorem dL_law_554 : decode cL_law 554 = .ok (.iconst 2, 1) := by decide +kernel
theorem dL_law_555 : decode cL_law 555 = .ok (.iadd, 1) := by decide +kernel
theorem dL_law_556 : decode cL_law 556 = .ok (.iaload, 1) := by decide +kernel
theorem dL_law_557 : decode cL_law 557 = .ok (.invokevirtual 51, 3) := by decide +kernel
theorem dL_law_560 : decode cL_law 560 = .ok (.aload_n 2, 1) := by decide +kernel
theorem dL_law_561 : decode cL_law 561 = .ok (.aload_n 0, 1) := by decide +kernel
theorem dL_law_562 : decode cL_law 562 = .ok (.iload_n 3, 1) := by decide +kernel
theorem dL_law_563 : decode cL_law 563 = .ok (.iconst 1, 1) := by decide +kernel
theorem dL_law_564 : decode cL_law 564 = .ok (.iadd, 1) := by decide +kernel
theorem dL_law_565 : decode cL_law 565 = .ok (.iaload, 1) := by decide +kernel
theorem dL_law_566 : decode cL_law 566 = .ok (.aload_n 0, 1) := by decide +kernel
theorem dL_law_567 : decode cL_law 567 = .ok (.iload_n 3, 1) := by decide +kernel
theorem dL_law_568 : decode cL_law 568 = .ok (.iconst 2, 1) := by decide +kernel
theorem dL_law_569 : decode cL_law 569 = .ok (.iadd, 1) := by decide +kernel
theorem dL_law_570 : decode cL_law 570 = .ok (.iaload, 1) := by decide +kernel
theorem dL_law_571 : decode cL_law 571 = .ok (.invokevirtual 54, 3) := by decide +kernel
theorem dL_law_574 : decode cL_law 574 = .ok (.if_icmp .eq 705, 3) := by decide +kernel
theorem dL_law_577 : decode cL_law 577 = .ok (.iconst 0, 1) := by decide +kernel
theorem dL_law_578 : decode cL_law 578 = .ok (.ireturn, 1) := by decide +kernel
theorem dL_law_579 : decode cL_law 579 = .ok (.aload_n 1, 1) := by decide +kernel
theorem dL_law_580 : decode cL_law 580 = .ok (.aload_n 0, 1) := by decide +kernel
theorem dL_law_581 : decode cL_law 581 = .ok (.iload_n 3, 1) := by decide +kernel
theorem dL_law_582 : decode cL_law 582 = .ok (.iconst 1, 1) := by decide +kernel
theorem dL_law_583 : decode cL_law 583 = .ok (.iadd, 1) := by decide +kernel
theorem dL_law_584 : decode cL_law 584 = .ok (.iaload, 1) := by decide +kernel
theorem dL_law_585 : decode cL_law 585 = .ok (.aload_n 0, 1) := by decide +kernel
theorem dL_law_586 : decode cL_law 586 = .ok (.iload_n 3, 1) := by decide +kernel
theorem dL_law_587 : decode cL_law 587 = .ok (.iconst 2, 1) := by decide +kernel
theorem dL_law_588 : decode cL_law 588 = .ok (.iadd, 1) := by decide +kernel
theorem dL_law_589 : decode cL_law 589 = .ok (.iaload, 1) := by decide +kernel
theorem dL_law_590 : decode cL_law 590 = .ok (.invokevirtual 55, 3) := by decide +kernel
theorem dL_law_593 : decode cL_law 593 = .ok (.aload_n 2, 1) := by decide +kernel
theorem dL_law_594 : decode cL_law 594 = .ok (.aload_n 0, 1) := by decide +kernel
theorem dL_law_595 : decode cL_law 595 = .ok (.iload_n 3, 1) := by decide +kernel
theorem dL_law_596 : decode cL_law 596 = .ok (.iconst 1, 1) := by decide +kernel
theorem dL_law_597 : decode cL_law 597 = .ok (.iadd, 1) := by decide +kernel
theorem dL_law_598 : decode cL_law 598 = .ok (.iaload, 1) := by decide +kernel
theorem dL_law_599 : decode cL_law 599 = .ok (.aload_n 0, 1) := by decide +kernel
theorem dL_law_600 : decode cL_law 600 = .ok (.iload_n 3, 1) := by decide +kernel
theorem dL_law_601 : decode cL_law 601 = .ok (.iconst 2, 1) := by decide +kernel
theorem dL_law_602 : decode cL_law 602 = .ok (.iadd, 1) := by decide +kernel
theorem dL_law_603 : decode cL_law 603 = .ok (.iaload, 1) := by decide +kernel
theorem dL_law_604 : decode cL_law 604 = .ok (.invokevirtual 58, 3) := by decide +kernel
theorem dL_law_607 : decode cL_law 607 = .ok (.if_icmp .eq 672, 3) := by decide +kernel
theorem dL_law_610 : decode cL_law 610 = .ok (.iconst 0, 1) := by decide +kernel
theorem dL_law_611 : decode cL_law 611 = .ok (.ireturn, 1) := by decide +kernel
theorem dL_law_612 : decode cL_law 612 = .ok (.aload_n 1, 1) := by decide +kernel
theorem dL_law_613 : decode cL_law 613 = .ok (.aload_n 0, 1) := by decide +kernel
theorem dL_law_614 : decode cL_law 614 = .ok (.iload_n 3, 1) := by decide +kernel
theorem dL_law_615 : decode cL_law 615 = .ok (.iconst 1, 1) := by decide +kernel
theorem dL_law_616 : decode cL_law 616 = .ok (.iadd, 1) := by decide +kernel
theorem dL_law_617 : decode cL_law 617 = .ok (.iaload, 1) := by decide +kernel
theorem dL_law_618 : decode cL_law 618 = .ok (.aload_n 0, 1) := by decide +kernel
theorem dL_law_619 : decode cL_law 619 = .ok (.iload_n 3, 1) := by decide +kernel
theorem dL_law_620 : decode cL_law 620 = .ok (.iconst 2, 1) := by decide +kernel
theorem dL_law_621 : decode cL_law 621 = .ok (.iadd, 1) := by decide +kernel
theorem dL_law_622 : decode cL_law 622 = .ok (.iaload, 1) := by decide +kernel
theorem dL_law_623 : decode cL_law 623 = .ok (.invokevirtual 59, 3) := by decide +kernel
theorem dL_law_626 : decode cL_law 626 = .ok (.aload_n 2, 1) := by decide +kernel
theorem dL_law_627 : decode cL_law 627 = .ok (.aload_n 0, 1) := by decide +kernel
theorem dL_law_628 : decode cL_law 628 = .ok (.iload_n 3, 1) := by decide +kernel
theorem dL_law_629 : decode cL_law 629 = .ok (.iconst 1, 1) := by decide +kernel
theorem dL_law_630 : decode cL_law 630 = .ok (.iadd, 1) := by decide +kernel
theorem dL_law_631 : decode cL_law 631 = .ok (.iaload, 1) := by decide +kernel
theorem dL_law_632 : decode cL_law 632 = .ok (.aload_n 0, 1) := by decide +kernel
theorem dL_law_633 : decode cL_law 633 = .ok (.iload_n 3, 1) := by decide +kernel
theorem dL_law_634 : decode cL_law 634 = .ok (.iconst 2, 1) := by decide +kernel
theorem dL_law_635 : decode cL_law 635 = .ok (.iadd, 1) := by decide +kernel
theorem dL_law_636 : decode cL_law 636 = .ok (.iaload, 1) := by decide +kernel
theorem dL_law_637 : decode cL_law 637 = .ok (.invokevirtual 62, 3) := by decide +kernel
theorem dL_law_640 : decode cL_law 640 = .ok (.if_icmp .eq 639, 3) := by decide +kernel
theorem dL_law_643 : decode cL_law 643 = .ok (.iconst 0, 1) := by decide +kernel
theorem dL_law_644 : decode cL_law 644 = .ok (.ireturn, 1) := by decide +kernel
theorem dL_law_645 : decode cL_law 645 = .ok (.aload_n 1, 1) := by decide +kernel
theorem dL_law_646 : decode cL_law 646 = .ok (.aload_n 0, 1) := by decide +kernel
theorem dL_law_647 : decode cL_law 647 = .ok (.iload_n 3, 1) := by decide +kernel
theorem dL_law_648 : decode cL_law 648 = .ok (.iconst 1, 1) := by decide +kernel
theorem dL_law_649 : decode cL_law 649 = .ok (.iadd, 1) := by decide +kernel
theorem dL_law_650 : decode cL_law 650 = .ok (.iaload, 1) := by decide +kernel
theorem dL_law_651 : decode cL_law 651 = .ok (.invokevirtual 63, 3) := by decide +kernel
theorem dL_law_654 : decode cL_law 654 = .ok (.aload_n 2, 1) := by decide +kernel
theorem dL_law_655 : decode cL_law 655 = .ok (.aload_n 0, 1) := by decide +kernel
theorem dL_law_656 : decode cL_law 656 = .ok (.iload_n 3, 1) := by decide +kernel
theorem dL_law_657 : decode cL_law 657 = .ok (.iconst 1, 1) := by decide +kernel
theorem dL_law_658 : decode cL_law 658 = .ok (.iadd, 1) := by decide +kernel
theorem dL_law_659 : decode cL_law 659 = .ok (.iaload, 1) := by decide +kernel
theorem dL_law_660 : decode cL_law 660 = .ok (.invokevirtual 66, 3) := by decide +kernel
theorem dL_law_663 : decode cL_law 663 = .ok (.if_icmp .eq 616, 3) := by decide +kernel
theorem dL_law_666 : decode cL_law 666 = .ok (.iconst 0, 1) := by decide +kernel
theorem dL_law_667 : decode cL_law 667 = .ok (.ireturn, 1) := by decide +kernel
theorem dL_law_668 : decode cL_law 668 = .ok (.aload_n 1, 1) := by decide +kernel
theorem dL_law_669 : decode cL_law 669 = .ok (.aload_n 0, 1) := by decide +kernel
theorem dL_law_670 : decode cL_law 670 = .ok (.iload_n 3, 1) := by decide +kernel
theorem dL_law_671 : decode cL_law 671 = .ok (.iconst 1, 1) := by decide +kernel
theorem dL_law_672 : decode cL_law 672 = .ok (.iadd, 1) := by decide +kernel
theorem dL_law_673 : decode cL_law 673 = .ok (.iaload, 1) := by decide +kernel
theorem dL_law_674 : decode cL_law 674 = .ok (.aload_n 0, 1) := by decide +kernel
theorem dL_law_675 : decode cL_law 675 = .ok (.iload_n 3, 1) := by decide +kernel
theorem dL_law_676 : decode cL_law 676 = .ok (.iconst 2, 1) := by decide +kernel
theorem dL_law_677 : decode cL_law 677 = .ok (.iadd, 1) := by decide +kernel
theorem dL_law_678 : decode cL_law 678 = .ok (.iaload, 1) := by decide +kernel
theorem dL_law_679 : decode cL_law 679 = .ok (.aload_n 0, 1) := by decide +kernel
theorem dL_law_680 : decode cL_law 680 = .ok (.iload_n 3, 1) := by decide +kernel
theorem dL_law_681 : decode cL_law 681 = .ok (.iconst 3, 1) := by decide +kernel
theorem dL_law_682 : decode cL_law 682 = .ok (.iadd, 1) := by decide +kernel
theorem dL_law_683 : decode cL_law 683 = .ok (.iaload, 1) := by decide +kernel
theorem dL_law_684 : decode cL_law 684 = .ok (.invokevirtual 67, 3) := by decide +kernel
theorem dL_law_687 : decode cL_law 687 = .ok (.aload_n 2, 1) := by decide +kernel
theorem dL_law_688 : decode cL_law 688 = .ok (.aload_n 0, 1) := by decide +kernel
theorem dL_law_689 : decode cL_law 689 = .ok (.iload_n 3, 1) := by decide +kernel
theorem dL_law_690 : decode cL_law 690 = .ok (.iconst 1, 1) := by decide +kernel
theorem dL_law_691 : decode cL_law 691 = .ok (.iadd, 1) := by decide +kernel
theorem dL_law_692 : decode cL_law 692 = .ok (.iaload, 1) := by decide +kernel
theorem dL_law_693 : decode cL_law 693 = .ok (.aload_n 0, 1) := by decide +kernel
theorem dL_law_694 : decode cL_law 694 = .ok (.iload_n 3, 1) := by decide +kernel
theorem dL_law_695 : decode cL_law 695 = .ok (.iconst 2, 1) := by decide +kernel
theorem dL_law_696 : decode cL_law 696 = .ok (.iadd, 1) := by decide +kernel
theorem dL_law_697 : decode cL_law 697 = .ok (.iaload, 1) := by decide +kernel
theorem dL_law_698 : decode cL_law 698 = .ok (.aload_n 0, 1) := by decide +kernel
theorem dL_law_699 : decode cL_law 699 = .ok (.iload_n 3, 1) := by decide +kernel
theorem dL_law_700 : decode cL_law 700 = .ok (.iconst 3, 1) := by decide +kernel
theorem dL_law_701 : decode cL_law 701 = .ok (.iadd, 1) := by decide +kernel
theorem dL_law_702 : decode cL_law 702 = .ok (.iaload, 1) := by decide +kernel
theorem dL_law_703 : decode cL_law 703 = .ok (.invokevirtual 71, 3) := by decide +kernel
theorem dL_law_706 : decode cL_law 706 = .ok (.if_icmp .eq 573, 3) := by decide +kernel
theorem dL_law_709 : decode cL_law 709 = .ok (.iconst 0, 1) := by decide +kernel
theorem dL_law_710 : decode cL_law 710 = .ok (.ireturn, 1) := by decide +kernel
theorem dL_law_711 : decode cL_law 711 = .ok (.aload_n 1, 1) := by decide +kernel
theorem dL_law_712 : decode cL_law 712 = .ok (.aload_n 0, 1) := by decide +kernel
theorem dL_law_713 : decode cL_law 713 = .ok (.iload_n 3, 1) := by decide +kernel
theorem dL_law_714 : decode cL_law 714 = .ok (.iconst 1, 1) := by decide +kernel
theorem dL_law_715 : decode cL_law 715 = .ok (.iadd, 1) := by decide +kernel
theorem dL_law_716 : decode cL_law 716 = .ok (.iaload, 1) := by decide +kernel
theorem dL_law_717 : decode cL_law 717 = .ok (.aload_n 0, 1) := by decide +kernel
theorem dL_law_718 : decode cL_law 718 = .ok (.iload_n 3, 1) := by decide +kernel
theorem dL_law_719 : decode cL_law 719 = .ok (.iconst 2, 1) := by decide +kernel
theorem dL_law_720 : decode cL_law 720 = .ok (.iadd, 1) := by decide +kernel
theorem dL_law_721 : decode cL_law 721 = .ok (.iaload, 1) := by decide +kernel
theorem dL_law_722 : decode cL_law 722 = .ok (.aload_n 0, 1) := by decide +kernel
theorem dL_law_723 : decode cL_law 723 = .ok (.iload_n 3, 1) := by decide +kernel
theorem dL_law_724 : decode cL_law 724 = .ok (.iconst 3, 1) := by decide +kernel
theorem dL_law_725 : decode cL_law 725 = .ok (.iadd, 1) := by decide +kernel
theorem dL_law_726 : decode cL_law 726 = .ok (.iaload, 1) := by decide +kernel
theorem dL_law_727 : decode cL_law 727 = .ok (.invokevirtual 72, 3) := by decide +kernel
theorem dL_law_730 : decode cL_law 730 = .ok (.aload_n 2, 1) := by decide +kernel
theorem dL_law_731 : decode cL_law 731 = .ok (.aload_n 0, 1) := by decide +kernel
theorem dL_law_732 : decode cL_law 732 = .ok (.iload_n 3, 1) := by decide +kernel
theorem dL_law_733 : decode cL_law 733 = .ok (.iconst 1, 1) := by decide +kernel
theorem dL_law_734 : decode cL_law 734 = .ok (.iadd, 1) := by decide +kernel
theorem dL_law_735 : decode cL_law 735 = .ok (.iaload, 1) := by decide +kernel
theorem dL_law_736 : decode cL_law 736 = .ok (.aload_n 0, 1) := by decide +kernel
theorem dL_law_737 : decode cL_law 737 = .ok (.iload_n 3, 1) := by decide +kernel
theorem dL_law_738 : decode cL_law 738 = .ok (.iconst 2, 1) := by decide +kernel
theorem dL_law_739 : decode cL_law 739 = .ok (.iadd, 1) := by decide +kernel
theorem dL_law_740 : decode cL_law 740 = .ok (.iaload, 1) := by decide +kernel
theorem dL_law_741 : decode cL_law 741 = .ok (.aload_n 0, 1) := by decide +kernel
theorem dL_law_742 : decode cL_law 742 = .ok (.iload_n 3, 1) := by decide +kernel
theorem dL_law_743 : decode cL_law 743 = .ok (.iconst 3, 1) := by decide +kernel
theorem dL_law_744 : decode cL_law 744 = .ok (.iadd, 1) := by decide +kernel
theorem dL_law_745 : decode cL_law 745 = .ok (.iaload, 1) := by decide +kernel
theorem dL_law_746 : decode cL_law 746 = .ok (.invokevirtual 75, 3) := by decide +kernel
theorem dL_law_749 : decode cL_law 749 = .ok (.if_icmp .eq 530, 3) := by decide +kernel
theorem dL_law_752 : decode cL_law 752 = .ok (.iconst 0, 1) := by decide +kernel
theorem dL_law_753 : decode cL_law 753 = .ok (.ireturn, 1) := by decide +kernel
theorem dL_law_754 : decode cL_law 754 = .ok (.aload_n 1, 1) := by decide +kernel
theorem dL_law_755 : decode cL_law 755 = .ok (.aload_n 0, 1) := by decide +kernel
theorem dL_law_756 : decode cL_law 756 = .ok (.iload_n 3, 1) := by decide +kernel
theorem dL_law_757 : decode cL_law 757 = .ok (.iconst 1, 1) := by decide +kernel
theorem dL_law_758 : decode cL_law 758 = .ok (.iadd, 1) := by decide +kernel
theorem dL_law_759 : decode cL_law 759 = .ok (.iaload, 1) := by decide +kernel
theorem dL_law_760 : decode cL_law 760 = .ok (.aload_n 0, 1) := by decide +kernel
theorem dL_law_761 : decode cL_law 761 = .ok (.iload_n 3, 1) := by decide +kernel
theorem dL_law_762 : decode cL_law 762 = .ok (.iconst 2, 1) := by decide +kernel
theorem dL_law_763 : decode cL_law 763 = .ok (.iadd, 1) := by decide +kernel
theorem dL_law_764 : decode cL_law 764 = .ok (.iaload, 1) := by decide +kernel
theorem dL_law_765 : decode cL_law 765 = .ok (.aload_n 0, 1) := by decide +kernel
theorem dL_law_766 : decode cL_law 766 = .ok (.iload_n 3, 1) := by decide +kernel
theorem dL_law_767 : decode cL_law 767 = .ok (.iconst 3, 1) := by decide +kernel
theorem dL_law_768 : decode cL_law 768 = .ok (.iadd, 1) := by decide +kernel
theorem dL_law_769 : decode cL_law 769 = .ok (.iaload, 1) := by decide +kernel
theorem dL_law_770 : decode cL_law 770 = .ok (.invokevirtual 76, 3) := by decide +kernel
theorem dL_law_773 : decode cL_law 773 = .ok (.aload_n 2, 1) := by decide +kernel
theorem dL_law_774 : decode cL_law 774 = .ok (.aload_n 0, 1) := by decide +kernel
theorem dL_law_775 : decode cL_law 775 = .ok (.iload_n 3, 1) := by decide +kernel
theorem dL_law_776 : decode cL_law 776 = .ok (.iconst 1, 1) := by decide +kernel
theorem dL_law_777 : decode cL_law 777 = .ok (.iadd, 1) := by decide +kernel
theorem dL_law_778 : decode cL_law 778 = .ok (.iaload, 1) := by decide +kernel
theorem dL_law_779 : decode cL_law 779 = .ok (.aload_n 0, 1) := by decide +kernel
theorem dL_law_780 : decode cL_law 780 = .ok (.iload_n 3, 1) := by decide +kernel
theorem dL_law_781 : decode cL_law 781 = .ok (.iconst 2, 1) := by decide +kernel
theorem dL_law_782 : decode cL_law 782 = .ok (.iadd, 1) := by decide +kernel
theorem dL_law_783 : decode cL_law 783 = .ok (.iaload, 1) := by decide +kernel
theorem dL_law_784 : decode cL_law 784 = .ok (.aload_n 0, 1) := by decide +kernel
theorem dL_law_785 : decode cL_law 785 = .ok (.iload_n 3, 1) := by decide +kernel
theorem dL_law_786 : decode cL_law 786 = .ok (.iconst 3, 1) := by decide +kernel
theorem dL_law_787 : decode cL_law 787 = .ok (.iadd, 1) := by decide +kernel
theorem dL_law_788 : decode cL_law 788 = .ok (.iaload, 1) := by decide +kernel
theorem dL_law_789 : decode cL_law 789 = .ok (.invokevirtual 79, 3) := by decide +kernel
theorem dL_law_792 : decode cL_law 792 = .ok (.if_icmp .eq 487, 3) := by decide +kernel
theorem dL_law_795 : decode cL_law 795 = .ok (.iconst 0, 1) := by decide +kernel
theorem dL_law_796 : decode cL_law 796 = .ok (.ireturn, 1) := by decide +kernel
theorem dL_law_797 : decode cL_law 797 = .ok (.aload_n 1, 1) := by decide +kernel
theorem dL_law_798 : decode cL_law 798 = .ok (.aload_n 0, 1) := by decide +kernel
theorem dL_law_799 : decode cL_law 799 = .ok (.iload_n 3, 1) := by decide +kernel
theorem dL_law_800 : decode cL_law 800 = .ok (.iconst 1, 1) := by decide +kernel
theorem dL_law_801 : decode cL_law 801 = .ok (.iadd, 1) := by decide +kernel
theorem dL_law_802 : decode cL_law 802 = .ok (.iaload, 1) := by decide +kernel
theorem dL_law_803 : decode cL_law 803 = .ok (.aload_n 0, 1) := by decide +kernel
theorem dL_law_804 : decode cL_law 804 = .ok (.iload_n 3, 1) := by decide +kernel
theorem dL_law_805 : decode cL_law 805 = .ok (.iconst 2, 1) := by decide +kernel
theorem dL_law_806 : decode cL_law 806 = .ok (.iadd, 1) := by decide +kernel
theorem dL_law_807 : decode cL_law 807 = .ok (.iaload, 1) := by decide +kernel
theorem dL_law_808 : decode cL_law 808 = .ok (.aload_n 0, 1) := by decide +kernel
theorem dL_law_809 : decode cL_law 809 = .ok (.iload_n 3, 1) := by decide +kernel
theorem dL_law_810 : decode cL_law 810 = .ok (.iconst 3, 1) := by decide +kernel
theorem dL_law_811 : decode cL_law 811 = .ok (.iadd, 1) := by decide +kernel
theorem dL_law_812 : decode cL_law 812 = .ok (.iaload, 1) := by decide +kernel
theorem dL_law_813 : decode cL_law 813 = .ok (.invokevirtual 80, 3) := by decide +kernel
theorem dL_law_816 : decode cL_law 816 = .ok (.aload_n 2, 1) := by decide +kernel
theorem dL_law_817 : decode cL_law 817 = .ok (.aload_n 0, 1) := by decide +kernel
theorem dL_law_818 : decode cL_law 818 = .ok (.iload_n 3, 1) := by decide +kernel
theorem dL_law_819 : decode cL_law 819 = .ok (.iconst 1, 1) := by decide +kernel
theorem dL_law_820 : decode cL_law 820 = .ok (.iadd, 1) := by decide +kernel
theorem dL_law_821 : decode cL_law 821 = .ok (.iaload, 1) := by decide +kernel
theorem dL_law_822 : decode cL_law 822 = .ok (.aload_n 0, 1) := by decide +kernel
theorem dL_law_823 : decode cL_law 823 = .ok (.iload_n 3, 1) := by decide +kernel
theorem dL_law_824 : decode cL_law 824 = .ok (.iconst 2, 1) := by decide +kernel
theorem dL_law_825 : decode cL_law 825 = .ok (.iadd, 1) := by decide +kernel
theorem dL_law_826 : decode cL_law 826 = .ok (.iaload, 1) := by decide +kernel
theorem dL_law_827 : decode cL_law 827 = .ok (.aload_n 0, 1) := by decide +kernel
theorem dL_law_828 : decode cL_law 828 = .ok (.iload_n 3, 1) := by decide +kernel
theorem dL_law_829 : decode cL_law 829 = .ok (.iconst 3, 1) := by decide +kernel
theorem dL_law_830 : decode cL_law 830 = .ok (.iadd, 1) := by decide +kernel
theorem dL_law_831 : decode cL_law 831 = .ok (.iaload, 1) := by decide +kernel
theorem dL_law_832 : decode cL_law 832 = .ok (.invokevirtual 83, 3) := by decide +kernel
theorem dL_law_835 : decode cL_law 835 = .ok (.if_icmp .eq 444, 3) := by decide +kernel
theorem dL_law_838 : decode cL_law 838 = .ok (.iconst 0, 1) := by decide +kernel
theorem dL_law_839 : decode cL_law 839 = .ok (.ireturn, 1) := by decide +kernel
theorem dL_law_840 : decode cL_law 840 = .ok (.aload_n 1, 1) := by decide +kernel
theorem dL_law_841 : decode cL_law 841 = .ok (.aload_n 0, 1) := by decide +kernel
theorem dL_law_842 : decode cL_law 842 = .ok (.iload_n 3, 1) := by decide +kernel
theorem dL_law_843 : decode cL_law 843 = .ok (.iconst 1, 1) := by decide +kernel
theorem dL_law_844 : decode cL_law 844 = .ok (.iadd, 1) := by decide +kernel
theorem dL_law_845 : decode cL_law 845 = .ok (.iaload, 1) := by decide +kernel
theorem dL_law_846 : decode cL_law 846 = .ok (.aload_n 0, 1) := by decide +kernel
theorem dL_law_847 : decode cL_law 847 = .ok (.iload_n 3, 1) := by decide +kernel
theorem dL_law_848 : decode cL_law 848 = .ok (.iconst 2, 1) := by decide +kernel
theorem dL_law_849 : decode cL_law 849 = .ok (.iadd, 1) := by decide +kernel
theorem dL_law_850 : decode cL_law 850 = .ok (.iaload, 1) := by decide +kernel
theorem dL_law_851 : decode cL_law 851 = .ok (.invokevirtual 84, 3) := by decide +kernel
theorem dL_law_854 : decode cL_law 854 = .ok (.aload_n 2, 1) := by decide +kernel
theorem dL_law_855 : decode cL_law 855 = .ok (.aload_n 0, 1) := by decide +kernel
theorem dL_law_856 : decode cL_law 856 = .ok (.iload_n 3, 1) := by decide +kernel
theorem dL_law_857 : decode cL_law 857 = .ok (.iconst 1, 1) := by decide +kernel
theorem dL_law_858 : decode cL_law 858 = .ok (.iadd, 1) := by decide +kernel
theorem dL_law_859 : decode cL_law 859 = .ok (.iaload, 1) := by decide +kernel
theorem dL_law_860 : decode cL_law 860 = .ok (.aload_n 0, 1) := by decide +kernel
theorem dL_law_861 : decode cL_law 861 = .ok (.iload_n 3, 1) := by decide +kernel
theorem dL_law_862 : decode cL_law 862 = .ok (.iconst 2, 1) := by decide +kernel
theorem dL_law_863 : decode cL_law 863 = .ok (.iadd, 1) := by decide +kernel
theorem dL_law_864 : decode cL_law 864 = .ok (.iaload, 1) := by decide +kernel
theorem dL_law_865 : decode cL_law 865 = .ok (.invokevirtual 87, 3) := by decide +kernel
theorem dL_law_868 : decode cL_law 868 = .ok (.if_icmp .eq 411, 3) := by decide +kernel
theorem dL_law_871 : decode cL_law 871 = .ok (.iconst 0, 1) := by decide +kernel
theorem dL_law_872 : decode cL_law 872 = .ok (.ireturn, 1) := by decide +kernel
theorem dL_law_873 : decode cL_law 873 = .ok (.aload_n 1, 1) := by decide +kernel
theorem dL_law_874 : decode cL_law 874 = .ok (.aload_n 0, 1) := by decide +kernel
theorem dL_law_875 : decode cL_law 875 = .ok (.iload_n 3, 1) := by decide +kernel
theorem dL_law_876 : decode cL_law 876 = .ok (.iconst 1, 1) := by decide +kernel
theorem dL_law_877 : decode cL_law 877 = .ok (.iadd, 1) := by decide +kernel
theorem dL_law_878 : decode cL_law 878 = .ok (.iaload, 1) := by decide +kernel
theorem dL_law_879 : decode cL_law 879 = .ok (.aload_n 0, 1) := by decide +kernel
theorem dL_law_880 : decode cL_law 880 = .ok (.iload_n 3, 1) := by decide +kernel
theorem dL_law_881 : decode cL_law 881 = .ok (.iconst 2, 1) := by decide +kernel
theorem dL_law_882 : decode cL_law 882 = .ok (.iadd, 1) := by decide +kernel
theorem dL_law_883 : decode cL_law 883 = .ok (.iaload, 1) := by decide +kernel
theorem dL_law_884 : decode cL_law 884 = .ok (.aload_n 0, 1) := by decide +kernel
theorem dL_law_885 : decode cL_law 885 = .ok (.iload_n 3, 1) := by decide +kernel
theorem dL_law_886 : decode cL_law 886 = .ok (.iconst 3, 1) := by decide +kernel
theorem dL_law_887 : decode cL_law 887 = .ok (.iadd, 1) := by decide +kernel
theorem dL_law_888 : decode cL_law 888 = .ok (.iaload, 1) := by decide +kernel
theorem dL_law_889 : decode cL_law 889 = .ok (.invokevirtual 88, 3) := by decide +kernel
theorem dL_law_892 : decode cL_law 892 = .ok (.aload_n 2, 1) := by decide +kernel
theorem dL_law_893 : decode cL_law 893 = .ok (.aload_n 0, 1) := by decide +kernel
theorem dL_law_894 : decode cL_law 894 = .ok (.iload_n 3, 1) := by decide +kernel
theorem dL_law_895 : decode cL_law 895 = .ok (.iconst 1, 1) := by decide +kernel
theorem dL_law_896 : decode cL_law 896 = .ok (.iadd, 1) := by decide +kernel
theorem dL_law_897 : decode cL_law 897 = .ok (.iaload, 1) := by decide +kernel
theorem dL_law_898 : decode cL_law 898 = .ok (.aload_n 0, 1) := by decide +kernel
theorem dL_law_899 : decode cL_law 899 = .ok (.iload_n 3, 1) := by decide +kernel
theorem dL_law_900 : decode cL_law 900 = .ok (.iconst 2, 1) := by decide +kernel
theorem dL_law_901 : decode cL_law 901 = .ok (.iadd, 1) := by decide +kernel
theorem dL_law_902 : decode cL_law 902 = .ok (.iaload, 1) := by decide +kernel
theorem dL_law_903 : decode cL_law 903 = .ok (.aload_n 0, 1) := by decide +kernel
theorem dL_law_904 : decode cL_law 904 = .ok (.iload_n 3, 1) := by decide +kernel
theorem dL_law_905 : decode cL_law 905 = .ok (.iconst 3, 1) := by decide +kernel
theorem dL_law_906 : decode cL_law 906 = .ok (.iadd, 1) := by decide +kernel
theorem dL_law_907 : decode cL_law 907 = .ok (.iaload, 1) := by decide +kernel
theorem dL_law_908 : decode cL_law 908 = .ok (.invokevirtual 91, 3) := by decide +kernel
theorem dL_law_911 : decode cL_law 911 = .ok (.if_icmp .eq 368, 3) := by decide +kernel
theorem dL_law_914 : decode cL_law 914 = .ok (.iconst 0, 1) := by decide +kernel
theorem dL_law_915 : decode cL_law 915 = .ok (.ireturn, 1) := by decide +kernel
theorem dL_law_916 : decode cL_law 916 = .ok (.aload_n 1, 1) := by decide +kernel
theorem dL_law_917 : decode cL_law 917 = .ok (.invokevirtual 92, 3) := by decide +kernel
theorem dL_law_920 : decode cL_law 920 = .ok (.aload_n 2, 1) := by decide +kernel
theorem dL_law_921 : decode cL_law 921 = .ok (.invokevirtual 96, 3) := by decide +kernel
theorem dL_law_924 : decode cL_law 924 = .ok (.if_icmp .eq 355, 3) := by decide +kernel
theorem dL_law_927 : decode cL_law 927 = .ok (.iconst 0, 1) := by decide +kernel
theorem dL_law_928 : decode cL_law 928 = .ok (.ireturn, 1) := by decide +kernel
theorem dL_law_929 : decode cL_law 929 = .ok (.aload_n 1, 1) := by decide +kernel
theorem dL_law_930 : decode cL_law 930 = .ok (.invokevirtual 97, 3) := by decide +kernel
theorem dL_law_933 : decode cL_law 933 = .ok (.aload_n 2, 1) := by decide +kernel
theorem dL_law_934 : decode cL_law 934 = .ok (.invokevirtual 100, 3) := by decide +kernel
theorem dL_law_937 : decode cL_law 937 = .ok (.if_icmp .eq 342, 3) := by decide +kernel
theorem dL_law_940 : decode cL_law 940 = .ok (.iconst 0, 1) := by decide +kernel
theorem dL_law_941 : decode cL_law 941 = .ok (.ireturn, 1) := by decide +kernel
theorem dL_law_942 : decode cL_law 942 = .ok (.aload_n 1, 1) := by decide +kernel
theorem dL_law_943 : decode cL_law 943 = .ok (.aload_n 0, 1) := by decide +kernel
theorem dL_law_944 : decode cL_law 944 = .ok (.iload_n 3, 1) := by decide +kernel
theorem dL_law_945 : decode cL_law 945 = .ok (.iconst 1, 1) := by decide +kernel
theorem dL_law_946 : decode cL_law 946 = .ok (.iadd, 1) := by decide +kernel
theorem dL_law_947 : decode cL_law 947 = .ok (.iaload, 1) := by decide +kernel
theorem dL_law_948 : decode cL_law 948 = .ok (.aload_n 0, 1) := by decide +kernel
theorem dL_law_949 : decode cL_law 949 = .ok (.iload_n 3, 1) := by decide +kernel
theorem dL_law_950 : decode cL_law 950 = .ok (.iconst 2, 1) := by decide +kernel
theorem dL_law_951 : decode cL_law 951 = .ok (.iadd, 1) := by decide +kernel
theorem dL_law_952 : decode cL_law 952 = .ok (.iaload, 1) := by decide +kernel
theorem dL_law_953 : decode cL_law 953 = .ok (.invokevirtual 101, 3) := by decide +kernel
theorem dL_law_956 : decode cL_law 956 = .ok (.aload_n 2, 1) := by decide +kernel
theorem dL_law_957 : decode cL_law 957 = .ok (.aload_n 0, 1) := by decide +kernel
theorem dL_law_958 : decode cL_law 958 = .ok (.iload_n 3, 1) := by decide +kernel
theorem dL_law_959 : decode cL_law 959 = .ok (.iconst 1, 1) := by decide +kernel
theorem dL_law_960 : decode cL_law 960 = .ok (.iadd, 1) := by decide +kernel
theorem dL_law_961 : decode cL_law 961 = .ok (.iaload, 1) := by decide +kernel
theorem dL_law_962 : decode cL_law 962 = .ok (.aload_n 0, 1) := by decide +kernel
theorem dL_law_963 : decode cL_law 963 = .ok (.iload_n 3, 1) := by decide +kernel
theorem dL_law_964 : decode cL_law 964 = .ok (.iconst 2, 1) := by decide +kernel
theorem dL_law_965 : decode cL_law 965 = .ok (.iadd, 1) := by decide +kernel
theorem dL_law_966 : decode cL_law 966 = .ok (.iaload, 1) := by decide +kernel
theorem dL_law_967 : decode cL_law 967 = .ok (.invokevirtual 104, 3) := by decide +kernel
theorem dL_law_970 : decode cL_law 970 = .ok (.if_icmp .eq 309, 3) := by decide +kernel
theorem dL_law_973 : decode cL_law 973 = .ok (.iconst 0, 1) := by decide +kernel
theorem dL_law_974 : decode cL_law 974 = .ok (.ireturn, 1) := by decide +kernel
theorem dL_law_975 : decode cL_law 975 = .ok (.aload_n 1, 1) := by decide +kernel
theorem dL_law_976 : decode cL_law 976 = .ok (.aload_n 0, 1) := by decide +kernel
theorem dL_law_977 : decode cL_law 977 = .ok (.iload_n 3, 1) := by decide +kernel
theorem dL_law_978 : decode cL_law 978 = .ok (.iconst 1, 1) := by decide +kernel
theorem dL_law_979 : decode cL_law 979 = .ok (.iadd, 1) := by decide +kernel
theorem dL_law_980 : decode cL_law 980 = .ok (.iaload, 1) := by decide +kernel
theorem dL_law_981 : decode cL_law 981 = .ok (.i2l, 1) := by decide +kernel
theorem dL_law_982 : decode cL_law 982 = .ok (.bipush 32, 2) := by decide +kernel
theorem dL_law_984 : decode cL_law 984 = .ok (.lshl, 1) := by decide +kernel
theorem dL_law_985 : decode cL_law 985 = .ok (.aload_n 0, 1) := by decide +kernel
theorem dL_law_986 : decode cL_law 986 = .ok (.iload_n 3, 1) := by decide +kernel
theorem dL_law_987 : decode cL_law 987 = .ok (.iconst 2, 1) := by decide +kernel
theorem dL_law_988 : decode cL_law 988 = .ok (.iadd, 1) := by decide +kernel
theorem dL_law_989 : decode cL_law 989 = .ok (.iaload, 1) := by decide +kernel
theorem dL_law_990 : decode cL_law 990 = .ok (.i2l, 1) := by decide +kernel
theorem dL_law_991 : decode cL_law 991 = .ok (.ldc2_w 13, 3) := by decide +kernel
theorem dL_law_994 : decode cL_law 994 = .ok (.land, 1) := by decide +kernel
theorem dL_law_995 : decode cL_law 995 = .ok (.lor, 1) := by decide +kernel
theorem dL_law_996 : decode cL_law 996 = .ok (.invokevirtual 105, 3) := by decide +kernel
theorem dL_law_999 : decode cL_law 999 = .ok (.aload_n 2, 1) := by decide +kernel
theorem dL_law_1000 : decode cL_law 1000 = .ok (.aload_n 0, 1) := by decide +kernel
theorem dL_law_1001 : decode cL_law 1001 = .ok (.iload_n 3, 1) := by decide +kernel
theorem dL_law_1002 : decode cL_law 1002 = .ok (.iconst 1, 1) := by decide +kernel
theorem dL_law_1003 : decode cL_law 1003 = .ok (.iadd, 1) := by decide +kernel
theorem dL_law_1004 : decode cL_law 1004 = .ok (.iaload, 1) := by decide +kernel
theorem dL_law_1005 : decode cL_law 1005 = .ok (.i2l, 1) := by decide +kernel
theorem dL_law_1006 : decode cL_law 1006 = .ok (.bipush 32, 2) := by decide +kernel
theorem dL_law_1008 : decode cL_law 1008 = .ok (.lshl, 1) := by decide +kernel
theorem dL_law_1009 : decode cL_law 1009 = .ok (.aload_n 0, 1) := by decide +kernel
theorem dL_law_1010 : decode cL_law 1010 = .ok (.iload_n 3, 1) := by decide +kernel
theorem dL_law_1011 : decode cL_law 1011 = .ok (.iconst 2, 1) := by decide +kernel
theorem dL_law_1012 : decode cL_law 1012 = .ok (.iadd, 1) := by decide +kernel
theorem dL_law_1013 : decode cL_law 1013 = .ok (.iaload, 1) := by decide +kernel
theorem dL_law_1014 : decode cL_law 1014 = .ok (.i2l, 1) := by decide +kernel
theorem dL_law_1015 : decode cL_law 1015 = .ok (.ldc2_w 13, 3) := by decide +kernel
theorem dL_law_1018 : decode cL_law 1018 = .ok (.land, 1) := by decide +kernel
theorem dL_law_1019 : decode cL_law 1019 = .ok (.lor, 1) := by decide +kernel
theorem dL_law_1020 : decode cL_law 1020 = .ok (.invokevirtual 109, 3) := by decide +kernel
theorem dL_law_1023 : decode cL_law 1023 = .ok (.if_icmp .eq 256, 3) := by decide +kernel
theorem dL_law_1026 : decode cL_law 1026 = .ok (.iconst 0, 1) := by decide +kernel
theorem dL_law_1027 : decode cL_law 1027 = .ok (.ireturn, 1) := by decide +kernel
theorem dL_law_1028 : decode cL_law 1028 = .ok (.aload_n 1, 1) := by decide +kernel
theorem dL_law_1029 : decode cL_law 1029 = .ok (.aload_n 0, 1) := by decide +kernel
theorem dL_law_1030 : decode cL_law 1030 = .ok (.iload_n 3, 1) := by decide +kernel
theorem dL_law_1031 : decode cL_law 1031 = .ok (.iconst 1, 1) := by decide +kernel
theorem dL_law_1032 : decode cL_law 1032 = .ok (.iadd, 1) := by decide +kernel
theorem dL_law_1033 : decode cL_law 1033 = .ok (.iaload, 1) := by decide +kernel
theorem dL_law_1034 : decode cL_law 1034 = .ok (.aload_n 0, 1) := by decide +kernel
theorem dL_law_1035 : decode cL_law 1035 = .ok (.iload_n 3, 1) := by decide +kernel
theorem dL_law_1036 : decode cL_law 1036 = .ok (.iconst 2, 1) := by decide +kernel
theorem dL_law_1037 : decode cL_law 1037 = .ok (.iadd, 1) := by decide +kernel
theorem dL_law_1038 : decode cL_law 1038 = .ok (.iaload, 1) := by decide +kernel
theorem dL_law_1039 : decode cL_law 1039 = .ok (.invokevirtual 110, 3) := by decide +kernel
theorem dL_law_1042 : decode cL_law 1042 = .ok (.aload_n 2, 1) := by decide +kernel
theorem dL_law_1043 : decode cL_law 1043 = .ok (.aload_n 0, 1) := by decide +kernel
theorem dL_law_1044 : decode cL_law 1044 = .ok (.iload_n 3, 1) := by decide +kernel
theorem dL_law_1045 : decode cL_law 1045 = .ok (.iconst 1, 1) := by decide +kernel
theorem dL_law_1046 : decode cL_law 1046 = .ok (.iadd, 1) := by decide +kernel
theorem dL_law_1047 : decode cL_law 1047 = .ok (.iaload, 1) := by decide +kernel
theorem dL_law_1048 : decode cL_law 1048 = .ok (.aload_n 0, 1) := by decide +kernel
theorem dL_law_1049 : decode cL_law 1049 = .ok (.iload_n 3, 1) := by decide +kernel
theorem dL_law_1050 : decode cL_law 1050 = .ok (.iconst 2, 1) := by decide +kernel
theorem dL_law_1051 : decode cL_law 1051 = .ok (.iadd, 1) := by decide +kernel
theorem dL_law_1052 : decode cL_law 1052 = .ok (.iaload, 1) := by decide +kernel
theorem dL_law_1053 : decode cL_law 1053 = .ok (.invokevirtual 113, 3) := by decide +kernel
theorem dL_law_1056 : decode cL_law 1056 = .ok (.if_icmp .eq 223, 3) := by decide +kernel
theorem dL_law_1059 : decode cL_law 1059 = .ok (.iconst 0, 1) := by decide +kernel
theorem dL_law_1060 : decode cL_law 1060 = .ok (.ireturn, 1) := by decide +kernel
theorem dL_law_1061 : decode cL_law 1061 = .ok (.aload_n 1, 1) := by decide +kernel
theorem dL_law_1062 : decode cL_law 1062 = .ok (.aload_n 0, 1) := by decide +kernel
theorem dL_law_1063 : decode cL_law 1063 = .ok (.iload_n 3, 1) := by decide +kernel
theorem dL_law_1064 : decode cL_law 1064 = .ok (.iconst 1, 1) := by decide +kernel
theorem dL_law_1065 : decode cL_law 1065 = .ok (.iadd, 1) := by decide +kernel
theorem dL_law_1066 : decode cL_law 1066 = .ok (.iaload, 1) := by decide +kernel
theorem dL_law_1067 : decode cL_law 1067 = .ok (.invokevirtual 114, 3) := by decide +kernel
theorem dL_law_1070 : decode cL_law 1070 = .ok (.aload_n 2, 1) := by decide +kernel
theorem dL_law_1071 : decode cL_law 1071 = .ok (.aload_n 0, 1) := by decide +kernel
theorem dL_law_1072 : decode cL_law 1072 = .ok (.iload_n 3, 1) := by decide +kernel
theorem dL_law_1073 : decode cL_law 1073 = .ok (.iconst 1, 1) := by decide +kernel
theorem dL_law_1074 : decode cL_law 1074 = .ok (.iadd, 1) := by decide +kernel
theorem dL_law_1075 : decode cL_law 1075 = .ok (.iaload, 1) := by decide +kernel
theorem dL_law_1076 : decode cL_law 1076 = .ok (.invokevirtual 117, 3) := by decide +kernel
theorem dL_law_1079 : decode cL_law 1079 = .ok (.if_icmp .eq 200, 3) := by decide +kernel
theorem dL_law_1082 : decode cL_law 1082 = .ok (.iconst 0, 1) := by decide +kernel
theorem dL_law_1083 : decode cL_law 1083 = .ok (.ireturn, 1) := by decide +kernel
theorem dL_law_1084 : decode cL_law 1084 = .ok (.aload_n 1, 1) := by decide +kernel
theorem dL_law_1085 : decode cL_law 1085 = .ok (.aload_n 0, 1) := by decide +kernel
theorem dL_law_1086 : decode cL_law 1086 = .ok (.iload_n 3, 1) := by decide +kernel
theorem dL_law_1087 : decode cL_law 1087 = .ok (.iconst 1, 1) := by decide +kernel
theorem dL_law_1088 : decode cL_law 1088 = .ok (.iadd, 1) := by decide +kernel
theorem dL_law_1089 : decode cL_law 1089 = .ok (.iaload, 1) := by decide +kernel
theorem dL_law_1090 : decode cL_law 1090 = .ok (.invokevirtual 118, 3) := by decide +kernel
theorem dL_law_1093 : decode cL_law 1093 = .ok (.aload_n 2, 1) := by decide +kernel
theorem dL_law_1094 : decode cL_law 1094 = .ok (.aload_n 0, 1) := by decide +kernel
theorem dL_law_1095 : decode cL_law 1095 = .ok (.iload_n 3, 1) := by decide +kernel
theorem dL_law_1096 : decode cL_law 1096 = .ok (.iconst 1, 1) := by decide +kernel
theorem dL_law_1097 : decode cL_law 1097 = .ok (.iadd, 1) := by decide +kernel
theorem dL_law_1098 : decode cL_law 1098 = .ok (.iaload, 1) := by decide +kernel
theorem dL_law_1099 : decode cL_law 1099 = .ok (.invokevirtual 122, 3) := by decide +kernel
theorem dL_law_1102 : decode cL_law 1102 = .ok (.lcmp, 1) := by decide +kernel
theorem dL_law_1103 : decode cL_law 1103 = .ok (.ifCond .eq 176, 3) := by decide +kernel
theorem dL_law_1106 : decode cL_law 1106 = .ok (.iconst 0, 1) := by decide +kernel
theorem dL_law_1107 : decode cL_law 1107 = .ok (.ireturn, 1) := by decide +kernel
theorem dL_law_1108 : decode cL_law 1108 = .ok (.aload_n 1, 1) := by decide +kernel
theorem dL_law_1109 : decode cL_law 1109 = .ok (.aload_n 0, 1) := by decide +kernel
theorem dL_law_1110 : decode cL_law 1110 = .ok (.iload_n 3, 1) := by decide +kernel
theorem dL_law_1111 : decode cL_law 1111 = .ok (.iconst 1, 1) := by decide +kernel
theorem dL_law_1112 : decode cL_law 1112 = .ok (.iadd, 1) := by decide +kernel
theorem dL_law_1113 : decode cL_law 1113 = .ok (.iaload, 1) := by decide +kernel
theorem dL_law_1114 : decode cL_law 1114 = .ok (.invokevirtual 123, 3) := by decide +kernel
theorem dL_law_1117 : decode cL_law 1117 = .ok (.aload_n 2, 1) := by decide +kernel
theorem dL_law_1118 : decode cL_law 1118 = .ok (.aload_n 0, 1) := by decide +kernel
theorem dL_law_1119 : decode cL_law 1119 = .ok (.iload_n 3, 1) := by decide +kernel
theorem dL_law_1120 : decode cL_law 1120 = .ok (.iconst 1, 1) := by decide +kernel
theorem dL_law_1121 : decode cL_law 1121 = .ok (.iadd, 1) := by decide +kernel
theorem dL_law_1122 : decode cL_law 1122 = .ok (.iaload, 1) := by decide +kernel
theorem dL_law_1123 : decode cL_law 1123 = .ok (.invokevirtual 126, 3) := by decide +kernel
theorem dL_law_1126 : decode cL_law 1126 = .ok (.if_icmp .eq 153, 3) := by decide +kernel
theorem dL_law_1129 : decode cL_law 1129 = .ok (.iconst 0, 1) := by decide +kernel
theorem dL_law_1130 : decode cL_law 1130 = .ok (.ireturn, 1) := by decide +kernel
theorem dL_law_1131 : decode cL_law 1131 = .ok (.aload_n 1, 1) := by decide +kernel
theorem dL_law_1132 : decode cL_law 1132 = .ok (.aload_n 0, 1) := by decide +kernel
theorem dL_law_1133 : decode cL_law 1133 = .ok (.iload_n 3, 1) := by decide +kernel
theorem dL_law_1134 : decode cL_law 1134 = .ok (.iconst 1, 1) := by decide +kernel
theorem dL_law_1135 : decode cL_law 1135 = .ok (.iadd, 1) := by decide +kernel
theorem dL_law_1136 : decode cL_law 1136 = .ok (.iaload, 1) := by decide +kernel
theorem dL_law_1137 : decode cL_law 1137 = .ok (.i2l, 1) := by decide +kernel
theorem dL_law_1138 : decode cL_law 1138 = .ok (.bipush 32, 2) := by decide +kernel
theorem dL_law_1140 : decode cL_law 1140 = .ok (.lshl, 1) := by decide +kernel
theorem dL_law_1141 : decode cL_law 1141 = .ok (.aload_n 0, 1) := by decide +kernel
theorem dL_law_1142 : decode cL_law 1142 = .ok (.iload_n 3, 1) := by decide +kernel
theorem dL_law_1143 : decode cL_law 1143 = .ok (.iconst 2, 1) := by decide +kernel
theorem dL_law_1144 : decode cL_law 1144 = .ok (.iadd, 1) := by decide +kernel
theorem dL_law_1145 : decode cL_law 1145 = .ok (.iaload, 1) := by decide +kernel
theorem dL_law_1146 : decode cL_law 1146 = .ok (.i2l, 1) := by decide +kernel
theorem dL_law_1147 : decode cL_law 1147 = .ok (.ldc2_w 13, 3) := by decide +kernel
theorem dL_law_1150 : decode cL_law 1150 = .ok (.land, 1) := by decide +kernel
theorem dL_law_1151 : decode cL_law 1151 = .ok (.lor, 1) := by decide +kernel
theorem dL_law_1152 : decode cL_law 1152 = .ok (.aload_n 0, 1) := by decide +kernel
theorem dL_law_1153 : decode cL_law 1153 = .ok (.iload_n 3, 1) := by decide +kernel
theorem dL_law_1154 : decode cL_law 1154 = .ok (.iconst 3, 1) := by decide +kernel
theorem dL_law_1155 : decode cL_law 1155 = .ok (.iadd, 1) := by decide +kernel
theorem dL_law_1156 : decode cL_law 1156 = .ok (.iaload, 1) := by decide +kernel
theorem dL_law_1157 : decode cL_law 1157 = .ok (.invokevirtual 127, 3) := by decide +kernel
theorem dL_law_1160 : decode cL_law 1160 = .ok (.aload_n 2, 1) := by decide +kernel
theorem dL_law_1161 : decode cL_law 1161 = .ok (.aload_n 0, 1) := by decide +kernel
theorem dL_law_1162 : decode cL_law 1162 = .ok (.iload_n 3, 1) := by decide +kernel
theorem dL_law_1163 : decode cL_law 1163 = .ok (.iconst 1, 1) := by decide +kernel
theorem dL_law_1164 : decode cL_law 1164 = .ok (.iadd, 1) := by decide +kernel
theorem dL_law_1165 : decode cL_law 1165 = .ok (.iaload, 1) := by decide +kernel
theorem dL_law_1166 : decode cL_law 1166 = .ok (.i2l, 1) := by decide +kernel
theorem dL_law_1167 : decode cL_law 1167 = .ok (.bipush 32, 2) := by decide +kernel
theorem dL_law_1169 : decode cL_law 1169 = .ok (.lshl, 1) := by decide +kernel
theorem dL_law_1170 : decode cL_law 1170 = .ok (.aload_n 0, 1) := by decide +kernel
theorem dL_law_1171 : decode cL_law 1171 = .ok (.iload_n 3, 1) := by decide +kernel
theorem dL_law_1172 : decode cL_law 1172 = .ok (.iconst 2, 1) := by decide +kernel
theorem dL_law_1173 : decode cL_law 1173 = .ok (.iadd, 1) := by decide +kernel
theorem dL_law_1174 : decode cL_law 1174 = .ok (.iaload, 1) := by decide +kernel
theorem dL_law_1175 : decode cL_law 1175 = .ok (.i2l, 1) := by decide +kernel
theorem dL_law_1176 : decode cL_law 1176 = .ok (.ldc2_w 13, 3) := by decide +kernel
theorem dL_law_1179 : decode cL_law 1179 = .ok (.land, 1) := by decide +kernel
theorem dL_law_1180 : decode cL_law 1180 = .ok (.lor, 1) := by decide +kernel
theorem dL_law_1181 : decode cL_law 1181 = .ok (.aload_n 0, 1) := by decide +kernel
theorem dL_law_1182 : decode cL_law 1182 = .ok (.iload_n 3, 1) := by decide +kernel
theorem dL_law_1183 : decode cL_law 1183 = .ok (.iconst 3, 1) := by decide +kernel
theorem dL_law_1184 : decode cL_law 1184 = .ok (.iadd, 1) := by decide +kernel
theorem dL_law_1185 : decode cL_law 1185 = .ok (.iaload, 1) := by decide +kernel
theorem dL_law_1186 : decode cL_law 1186 = .ok (.invokevirtual 131, 3) := by decide +kernel
theorem dL_law_1189 : decode cL_law 1189 = .ok (.if_icmp .eq 90, 3) := by decide +kernel
theorem dL_law_1192 : decode cL_law 1192 = .ok (.iconst 0, 1) := by decide +kernel
theorem dL_law_1193 : decode cL_law 1193 = .ok (.ireturn, 1) := by decide +kernel
theorem dL_law_1194 : decode cL_law 1194 = .ok (.aload_n 1, 1) := by decide +kernel
theorem dL_law_1195 : decode cL_law 1195 = .ok (.invokevirtual 132, 3) := by decide +kernel
theorem dL_law_1198 : decode cL_law 1198 = .ok (.aload_n 2, 1) := by decide +kernel
theorem dL_law_1199 : decode cL_law 1199 = .ok (.invokevirtual 135, 3) := by decide +kernel
theorem dL_law_1202 : decode cL_law 1202 = .ok (.if_icmp .eq 77, 3) := by decide +kernel
theorem dL_law_1205 : decode cL_law 1205 = .ok (.iconst 0, 1) := by decide +kernel
theorem dL_law_1206 : decode cL_law 1206 = .ok (.ireturn, 1) := by decide +kernel
theorem dL_law_1207 : decode cL_law 1207 = .ok (.aload_n 1, 1) := by decide +kernel
theorem dL_law_1208 : decode cL_law 1208 = .ok (.invokevirtual 136, 3) := by decide +kernel
theorem dL_law_1211 : decode cL_law 1211 = .ok (.aload_n 2, 1) := by decide +kernel
theorem dL_law_1212 : decode cL_law 1212 = .ok (.invokevirtual 139, 3) := by decide +kernel
theorem dL_law_1215 : decode cL_law 1215 = .ok (.if_icmp .eq 64, 3) := by decide +kernel
theorem dL_law_1218 : decode cL_law 1218 = .ok (.iconst 0, 1) := by decide +kernel
theorem dL_law_1219 : decode cL_law 1219 = .ok (.ireturn, 1) := by decide +kernel
theorem dL_law_1220 : decode cL_law 1220 = .ok (.aload_n 1, 1) := by decide +kernel
theorem dL_law_1221 : decode cL_law 1221 = .ok (.invokevirtual 140, 3) := by decide +kernel
theorem dL_law_1224 : decode cL_law 1224 = .ok (.aload_n 2, 1) := by decide +kernel
theorem dL_law_1225 : decode cL_law 1225 = .ok (.invokevirtual 143, 3) := by decide +kernel
theorem dL_law_1228 : decode cL_law 1228 = .ok (.if_icmp .eq 51, 3) := by decide +kernel
theorem dL_law_1231 : decode cL_law 1231 = .ok (.iconst 0, 1) := by decide +kernel
theorem dL_law_1232 : decode cL_law 1232 = .ok (.ireturn, 1) := by decide +kernel
theorem dL_law_1233 : decode cL_law 1233 = .ok (.aload_n 1, 1) := by decide +kernel
theorem dL_law_1234 : decode cL_law 1234 = .ok (.aload_n 0, 1) := by decide +kernel
theorem dL_law_1235 : decode cL_law 1235 = .ok (.iload_n 3, 1) := by decide +kernel
theorem dL_law_1236 : decode cL_law 1236 = .ok (.iconst 1, 1) := by decide +kernel
theorem dL_law_1237 : decode cL_law 1237 = .ok (.iadd, 1) := by decide +kernel
theorem dL_law_1238 : decode cL_law 1238 = .ok (.iaload, 1) := by decide +kernel
theorem dL_law_1239 : decode cL_law 1239 = .ok (.invokevirtual 144, 3) := by decide +kernel
theorem dL_law_1242 : decode cL_law 1242 = .ok (.aload_n 2, 1) := by decide +kernel
theorem dL_law_1243 : decode cL_law 1243 = .ok (.aload_n 0, 1) := by decide +kernel
theorem dL_law_1244 : decode cL_law 1244 = .ok (.iload_n 3, 1) := by decide +kernel
theorem dL_law_1245 : decode cL_law 1245 = .ok (.iconst 1, 1) := by decide +kernel
theorem dL_law_1246 : decode cL_law 1246 = .ok (.iadd, 1) := by decide +kernel
theorem dL_law_1247 : decode cL_law 1247 = .ok (.iaload, 1) := by decide +kernel
theorem dL_law_1248 : decode cL_law 1248 = .ok (.invokevirtual 147, 3) := by decide +kernel
theorem dL_law_1251 : decode cL_law 1251 = .ok (.if_icmp .eq 28, 3) := by decide +kernel
theorem dL_law_1254 : decode cL_law 1254 = .ok (.iconst 0, 1) := by decide +kernel
theorem dL_law_1255 : decode cL_law 1255 = .ok (.ireturn, 1) := by decide +kernel
theorem dL_law_1256 : decode cL_law 1256 = .ok (.aload_n 1, 1) := by decide +kernel
theorem dL_law_1257 : decode cL_law 1257 = .ok (.aload_n 0, 1) := by decide +kernel
theorem dL_law_1258 : decode cL_law 1258 = .ok (.iload_n 3, 1) := by decide +kernel
theorem dL_law_1259 : decode cL_law 1259 = .ok (.iconst 1, 1) := by decide +kernel
theorem dL_law_1260 : decode cL_law 1260 = .ok (.iadd, 1) := by decide +kernel
theorem dL_law_1261 : decode cL_law 1261 = .ok (.iaload, 1) := by decide +kernel
theorem dL_law_1262 : decode cL_law 1262 = .ok (.invokevirtual 148, 3) := by decide +kernel
theorem dL_law_1265 : decode cL_law 1265 = .ok (.aload_n 2, 1) := by decide +kernel
theorem dL_law_1266 : decode cL_law 1266 = .ok (.aload_n 0, 1) := by decide +kernel
theorem dL_law_1267 : decode cL_law 1267 = .ok (.iload_n 3, 1) := by decide +kernel
theorem dL_law_1268 : decode cL_law 1268 = .ok (.iconst 1, 1) := by decide +kernel
theorem dL_law_1269 : decode cL_law 1269 = .ok (.iadd, 1) := by decide +kernel
theorem dL_law_1270 : decode cL_law 1270 = .ok (.iaload, 1) := by decide +kernel
theorem dL_law_1271 : decode cL_law 1271 = .ok (.invokevirtual 151, 3) := by decide +kernel
theorem dL_law_1274 : decode cL_law 1274 = .ok (.if_icmp .eq 5, 3) := by decide +kernel
theorem dL_law_1277 : decode cL_law 1277 = .ok (.iconst 0, 1) := by decide +kernel
theorem dL_law_1278 : decode cL_law 1278 = .ok (.ireturn, 1) := by decide +kernel
theorem dL_law_1279 : decode cL_law 1279 = .ok (.iinc 3 9, 3) := by decide +kernel
theorem dL_law_1282 : decode cL_law 1282 = .ok (.goto (-1264), 3) := by decide +kernel
theorem dL_law_1285 : decode cL_law 1285 = .ok (.iconst 1, 1) := by decide +kernel
theorem dL_law_1286 : decode cL_law 1286 = .ok (.ireturn, 1) := by decide +kernel
theorem and31 (v : Int32) : ∃ j : Nat, j < 32 ∧ v &&& 31 = nI j := by
  refine ⟨(v &&& 31).toInt.toNat, ?_⟩
  have h : (v &&& 31).toBitVec.toNat < 32 := by
    rw [Int32.toBitVec_and]
    exact Nat.lt_of_le_of_lt (by rw [BitVec.toNat_and]; exact Nat.and_le_right) (by decide : (31 : Int32).toBitVec.toNat < 32)
  have h2 : (v &&& 31).toInt = ((v &&& 31).toBitVec.toNat : Int) := by
    show (v &&& 31).toBitVec.toInt = _
    rw [BitVec.toInt_eq_toNat_of_lt (by omega)]
  refine ⟨by omega, ?_⟩
  apply Int32.toInt_inj.mp
  rw [nI_toInt (by omega)]
  omega
set_option maxRecDepth 100000 in
set_option maxHeartbeats 40000000 in
theorem law_out {G : vG} {l : Launch} (hL9 : gL G = 9) (w : VW) : R G l yL_law cL_law 4 (some .boolean) 11 600000 7302250 (fun r _ => r = some (.int 1)) 18 [some (.ref 1000200), some (.ref 0), some (.ref 140), some (.int (0 + 9))] [] w 173 3534 := by
  refine R_iload_n (pc := 18) dL_law_18 rfl rfl ?_
  refine R_aload_n (pc := 19) dL_law_19 rfl rfl ?_
  refine R_slen (pc := 20) dL_law_20 ?_
  refine R_bipush (pc := 21) (v := 9) dL_law_21 (by decide) ?_
  refine R_isub (pc := 23) dL_law_23 ?_
  refine R_icgt (pc := 24) 1285 dL_law_24 (by decide) (fun _ => ?_) (fun h => absurd (by rw [hL9]; decide) h)
  refine R_iconst (pc := 1285) (v := 1) dL_law_1285 (by decide) ?_
  exact R_iret (pc := 1286) dL_law_1286 rfl rfl (Nat.le_of_ble_eq_true rfl) (Nat.le_of_ble_eq_true rfl) rfl
set_option maxRecDepth 100000 in
set_option maxHeartbeats 40000000 in
theorem law_0 {G : vG} {l : Launch} (hL9 : gL G = 9) : R G l yL_law cL_law 4 (some .boolean) 11 600000 7302250 (fun r _ => r = some (.int 1)) 176 [some (.ref 1000200), some (.ref 0), some (.ref 140), some (.int 0)] [] (WW σF) 173 3534 := by
  refine R_aload_n (pc := 176) dL_law_176 rfl rfl ?_
  refine R_aload_n (pc := 177) dL_law_177 rfl rfl ?_
  refine R_iload_n (pc := 178) dL_law_178 rfl rfl ?_
  refine R_iconst (pc := 179) (v := 1) dL_law_179 (by decide) ?_
  refine R_iadd (pc := 180) dL_law_180 ?_
  refine R_cv 1 (by decide) ?_
  refine R_sld (pc := 181) dL_law_181 (by rw [hL9]; unfold vp_in; decide) ?_
  refine R_aload_n (pc := 182) dL_law_182 rfl rfl ?_
  refine R_iload_n (pc := 183) dL_law_183 rfl rfl ?_
  refine R_iconst (pc := 184) (v := 2) dL_law_184 (by decide) ?_
  refine R_iadd (pc := 185) dL_law_185 ?_
  refine R_cv 2 (by decide) ?_
  refine R_sld (pc := 186) dL_law_186 (by rw [hL9]; unfold vp_in; decide) ?_
  refine R_aload_n (pc := 187) dL_law_187 rfl rfl ?_
  refine R_iload_n (pc := 188) dL_law_188 rfl rfl ?_
  refine R_iconst (pc := 189) (v := 3) dL_law_189 (by decide) ?_
  refine R_iadd (pc := 190) dL_law_190 ?_
  refine R_cv 3 (by decide) ?_
  refine R_sld (pc := 191) dL_law_191 (by rw [hL9]; unfold vp_in; decide) ?_
  refine R_aload_n (pc := 192) dL_law_192 rfl rfl ?_
  refine R_iload_n (pc := 193) dL_law_193 rfl rfl ?_
  refine R_iconst (pc := 194) (v := 4) dL_law_194 (by decide) ?_
  refine R_iadd (pc := 195) dL_law_195 ?_
  refine R_cv 4 (by decide) ?_
  refine R_sld (pc := 196) dL_law_196 (by rw [hL9]; unfold vp_in; decide) ?_
  refine R_aload_n (pc := 197) dL_law_197 rfl rfl ?_
  refine R_iload_n (pc := 198) dL_law_198 rfl rfl ?_
  refine R_iconst (pc := 199) (v := 5) dL_law_199 (by decide) ?_
  refine R_iadd (pc := 200) dL_law_200 ?_
  refine R_cv 5 (by decide) ?_
  refine R_sld (pc := 201) dL_law_201 (by rw [hL9]; unfold vp_in; decide) ?_
  refine R_i2l (pc := 202) dL_law_202 ?_
  refine R_bipush (pc := 203) (v := 32) dL_law_203 (by decide) ?_
  refine R_lshl (pc := 205) dL_law_205 ?_
  refine R_aload_n (pc := 206) dL_law_206 rfl rfl ?_
  refine R_iload_n (pc := 207) dL_law_207 rfl rfl ?_
  refine R_bipush (pc := 208) (v := 6) dL_law_208 (by decide) ?_
  refine R_iadd (pc := 210) dL_law_210 ?_
  refine R_cv 6 (by decide) ?_
  refine R_sld (pc := 211) dL_law_211 (by rw [hL9]; unfold vp_in; decide) ?_
  refine R_i2l (pc := 212) dL_law_212 ?_
  refine R_ldc2 (pc := 213) w_1271c dL_law_213 ?_
  refine R_land (pc := 216) dL_law_216 ?_
  refine R_lor (pc := 217) dL_law_217 ?_
  refine R_aload_n (pc := 218) dL_law_218 rfl rfl ?_
  refine R_iload_n (pc := 219) dL_law_219 rfl rfl ?_
  refine R_bipush (pc := 220) (v := 7) dL_law_220 (by decide) ?_
  refine R_iadd (pc := 222) dL_law_222 ?_
  refine R_cv 7 (by decide) ?_
  refine R_sld (pc := 223) dL_law_223 (by rw [hL9]; unfold vp_in; decide) ?_
  refine R_aload_n (pc := 224) dL_law_224 rfl rfl ?_
  refine R_iload_n (pc := 225) dL_law_225 rfl rfl ?_
  refine R_bipush (pc := 226) (v := 8) dL_law_226 (by decide) ?_
  refine R_iadd (pc := 228) dL_law_228 ?_
  refine R_cv 8 (by decide) ?_
  refine R_sld (pc := 229) dL_law_229 (by rw [hL9]; unfold vp_in; decide) ?_
  refine k_L_15 (pc := 230) (fp_card _ _ _ _ _ _ _) rfl (c_0 _) (by decide) (Nat.le_of_ble_eq_true rfl) (Nat.le_of_ble_eq_true rfl) (Nat.le_of_ble_eq_true rfl) dL_law_230 (fun x w2 h => ?_)
  obtain ⟨rfl, τ, rfl⟩ := h
  refine R_aload_n (pc := 233) dL_law_233 rfl rfl ?_
  refine R_aload_n (pc := 234) dL_law_234 rfl rfl ?_
  refine R_iload_n (pc := 235) dL_law_235 rfl rfl ?_
  refine R_iconst (pc := 236) (v := 1) dL_law_236 (by decide) ?_
  refine R_iadd (pc := 237) dL_law_237 ?_
  refine R_cv 1 (by decide) ?_
  refine R_sld (pc := 238) dL_law_238 (by rw [hL9]; unfold vp_in; decide) ?_
  refine R_aload_n (pc := 239) dL_law_239 rfl rfl ?_
  refine R_iload_n (pc := 240) dL_law_240 rfl rfl ?_
  refine R_iconst (pc := 241) (v := 2) dL_law_241 (by decide) ?_
  refine R_iadd (pc := 242) dL_law_242 ?_
  refine R_cv 2 (by decide) ?_
  refine R_sld (pc := 243) dL_law_243 (by rw [hL9]; unfold vp_in; decide) ?_
  refine R_aload_n (pc := 244) dL_law_244 rfl rfl ?_
  refine R_iload_n (pc := 245) dL_law_245 rfl rfl ?_
  refine R_iconst (pc := 246) (v := 3) dL_law_246 (by decide) ?_
  refine R_iadd (pc := 247) dL_law_247 ?_
  refine R_cv 3 (by decide) ?_
  refine R_sld (pc := 248) dL_law_248 (by rw [hL9]; unfold vp_in; decide) ?_
  refine R_aload_n (pc := 249) dL_law_249 rfl rfl ?_
  refine R_iload_n (pc := 250) dL_law_250 rfl rfl ?_
  refine R_iconst (pc := 251) (v := 4) dL_law_251 (by decide) ?_
  refine R_iadd (pc := 252) dL_law_252 ?_
  refine R_cv 4 (by decide) ?_
  refine R_sld (pc := 253) dL_law_253 (by rw [hL9]; unfold vp_in; decide) ?_
  refine R_aload_n (pc := 254) dL_law_254 rfl rfl ?_
  refine R_iload_n (pc := 255) dL_law_255 rfl rfl ?_
  refine R_iconst (pc := 256) (v := 5) dL_law_256 (by decide) ?_
  refine R_iadd (pc := 257) dL_law_257 ?_
  refine R_cv 5 (by decide) ?_
  refine R_sld (pc := 258) dL_law_258 (by rw [hL9]; unfold vp_in; decide) ?_
  refine R_i2l (pc := 259) dL_law_259 ?_
  refine R_bipush (pc := 260) (v := 32) dL_law_260 (by decide) ?_
  refine R_lshl (pc := 262) dL_law_262 ?_
  refine R_aload_n (pc := 263) dL_law_263 rfl rfl ?_
  refine R_iload_n (pc := 264) dL_law_264 rfl rfl ?_
  refine R_bipush (pc := 265) (v := 6) dL_law_265 (by decide) ?_
  refine R_iadd (pc := 267) dL_law_267 ?_
  refine R_cv 6 (by decide) ?_
  refine R_sld (pc := 268) dL_law_268 (by rw [hL9]; unfold vp_in; decide) ?_
  refine R_i2l (pc := 269) dL_law_269 ?_
  refine R_ldc2 (pc := 270) w_1271c dL_law_270 ?_
  refine R_land (pc := 273) dL_law_273 ?_
  refine R_lor (pc := 274) dL_law_274 ?_
  refine R_aload_n (pc := 275) dL_law_275 rfl rfl ?_
  refine R_iload_n (pc := 276) dL_law_276 rfl rfl ?_
  refine R_bipush (pc := 277) (v := 7) dL_law_277 (by decide) ?_
  refine R_iadd (pc := 279) dL_law_279 ?_
  refine R_cv 7 (by decide) ?_
  refine R_sld (pc := 280) dL_law_280 (by rw [hL9]; unfold vp_in; decide) ?_
  refine R_aload_n (pc := 281) dL_law_281 rfl rfl ?_
  refine R_iload_n (pc := 282) dL_law_282 rfl rfl ?_
  refine R_bipush (pc := 283) (v := 8) dL_law_283 (by decide) ?_
  refine R_iadd (pc := 285) dL_law_285 ?_
  refine R_cv 8 (by decide) ?_
  refine R_sld (pc := 286) dL_law_286 (by rw [hL9]; unfold vp_in; decide) ?_
  refine k_L_19 (pc := 287) (fm_card _ _ _ _ _ _ _ _) rfl (c_140 _) (by decide) (Nat.le_of_ble_eq_true rfl) (Nat.le_of_ble_eq_true rfl) (Nat.le_of_ble_eq_true rfl) dL_law_287 (fun x w2 h => ?_)
  subst h
  refine R_iceq (pc := 290) 1279 dL_law_290 (by decide) (fun _ => ?_) (fun h => absurd rfl h)
  refine inc_4_3_9_a (pc := 1279) dL_law_1279 ?_
  refine R_goto (pc := 1282) 18 dL_law_1282 (by decide) ?_
  exact law_out hL9 _
set_option maxRecDepth 100000 in
set_option maxHeartbeats 40000000 in
theorem law_1 {G : vG} {l : Launch} (hL9 : gL G = 9) : R G l yL_law cL_law 4 (some .boolean) 11 600000 7302250 (fun r _ => r = some (.int 1)) 295 [some (.ref 1000200), some (.ref 0), some (.ref 140), some (.int 0)] [] (WW σF) 173 3534 := by
  refine R_aload_n (pc := 295) dL_law_295 rfl rfl ?_
  refine R_aload_n (pc := 296) dL_law_296 rfl rfl ?_
  refine R_iload_n (pc := 297) dL_law_297 rfl rfl ?_
  refine R_iconst (pc := 298) (v := 1) dL_law_298 (by decide) ?_
  refine R_iadd (pc := 299) dL_law_299 ?_
  refine R_cv 1 (by decide) ?_
  refine R_sld (pc := 300) dL_law_300 (by rw [hL9]; unfold vp_in; decide) ?_
  refine R_aload_n (pc := 301) dL_law_301 rfl rfl ?_
  refine R_iload_n (pc := 302) dL_law_302 rfl rfl ?_
  refine R_iconst (pc := 303) (v := 2) dL_law_303 (by decide) ?_
  refine R_iadd (pc := 304) dL_law_304 ?_
  refine R_cv 2 (by decide) ?_
  refine R_sld (pc := 305) dL_law_305 (by rw [hL9]; unfold vp_in; decide) ?_
  refine R_i2l (pc := 306) dL_law_306 ?_
  refine R_bipush (pc := 307) (v := 32) dL_law_307 (by decide) ?_
  refine R_lshl (pc := 309) dL_law_309 ?_
  refine R_aload_n (pc := 310) dL_law_310 rfl rfl ?_
  refine R_iload_n (pc := 311) dL_law_311 rfl rfl ?_
  refine R_iconst (pc := 312) (v := 3) dL_law_312 (by decide) ?_
  refine R_iadd (pc := 313) dL_law_313 ?_
  refine R_cv 3 (by decide) ?_
  refine R_sld (pc := 314) dL_law_314 (by rw [hL9]; unfold vp_in; decide) ?_
  refine R_i2l (pc := 315) dL_law_315 ?_
  refine R_ldc2 (pc := 316) w_1271c dL_law_316 ?_
  refine R_land (pc := 319) dL_law_319 ?_
  refine R_lor (pc := 320) dL_law_320 ?_
  refine R_aload_n (pc := 321) dL_law_321 rfl rfl ?_
  refine R_iload_n (pc := 322) dL_law_322 rfl rfl ?_
  refine R_iconst (pc := 323) (v := 4) dL_law_323 (by decide) ?_
  refine R_iadd (pc := 324) dL_law_324 ?_
  refine R_cv 4 (by decide) ?_
  refine R_sld (pc := 325) dL_law_325 (by rw [hL9]; unfold vp_in; decide) ?_
  refine k_L_20 (pc := 326) (fp_caption _ _ _) rfl (c_0 _) (by decide) (Nat.le_of_ble_eq_true rfl) (Nat.le_of_ble_eq_true rfl) (Nat.le_of_ble_eq_true rfl) dL_law_326 (fun x w2 h => ?_)
  obtain ⟨rfl, τ, rfl⟩ := h
  refine R_aload_n (pc := 329) dL_law_329 rfl rfl ?_
  refine R_aload_n (pc := 330) dL_law_330 rfl rfl ?_
  refine R_iload_n (pc := 331) dL_law_331 rfl rfl ?_
  refine R_iconst (pc := 332) (v := 1) dL_law_332 (by decide) ?_
  refine R_iadd (pc := 333) dL_law_333 ?_
  refine R_cv 1 (by decide) ?_
  refine R_sld (pc := 334) dL_law_334 (by rw [hL9]; unfold vp_in; decide) ?_
  refine R_aload_n (pc := 335) dL_law_335 rfl rfl ?_
  refine R_iload_n (pc := 336) dL_law_336 rfl rfl ?_
  refine R_iconst (pc := 337) (v := 2) dL_law_337 (by decide) ?_
  refine R_iadd (pc := 338) dL_law_338 ?_
  refine R_cv 2 (by decide) ?_
  refine R_sld (pc := 339) dL_law_339 (by rw [hL9]; unfold vp_in; decide) ?_
  refine R_i2l (pc := 340) dL_law_340 ?_
  refine R_bipush (pc := 341) (v := 32) dL_law_341 (by decide) ?_
  refine R_lshl (pc := 343) dL_law_343 ?_
  refine R_aload_n (pc := 344) dL_law_344 rfl rfl ?_
  refine R_iload_n (pc := 345) dL_law_345 rfl rfl ?_
  refine R_iconst (pc := 346) (v := 3) dL_law_346 (by decide) ?_
  refine R_iadd (pc := 347) dL_law_347 ?_
  refine R_cv 3 (by decide) ?_
  refine R_sld (pc := 348) dL_law_348 (by rw [hL9]; unfold vp_in; decide) ?_
  refine R_i2l (pc := 349) dL_law_349 ?_
  refine R_ldc2 (pc := 350) w_1271c dL_law_350 ?_
  refine R_land (pc := 353) dL_law_353 ?_
  refine R_lor (pc := 354) dL_law_354 ?_
  refine R_aload_n (pc := 355) dL_law_355 rfl rfl ?_
  refine R_iload_n (pc := 356) dL_law_356 rfl rfl ?_
  refine R_iconst (pc := 357) (v := 4) dL_law_357 (by decide) ?_
  refine R_iadd (pc := 358) dL_law_358 ?_
  refine R_cv 4 (by decide) ?_
  refine R_sld (pc := 359) dL_law_359 (by rw [hL9]; unfold vp_in; decide) ?_
  refine k_L_24 (pc := 360) (fm_caption _ _ _ _) rfl (c_140 _) (by decide) (Nat.le_of_ble_eq_true rfl) (Nat.le_of_ble_eq_true rfl) (Nat.le_of_ble_eq_true rfl) dL_law_360 (fun x w2 h => ?_)
  subst h
  refine R_iceq (pc := 363) 1279 dL_law_363 (by decide) (fun _ => ?_) (fun h => absurd rfl h)
  refine inc_4_3_9_a (pc := 1279) dL_law_1279 ?_
  refine R_goto (pc := 1282) 18 dL_law_1282 (by decide) ?_
  exact law_out hL9 _
set_option maxRecDepth 100000 in
set_option maxHeartbeats 40000000 in
theorem law_2 {G : vG} {l : Launch} (hL9 : gL G = 9) : R G l yL_law cL_law 4 (some .boolean) 11 600000 7302250 (fun r _ => r = some (.int 1)) 368 [some (.ref 1000200), some (.ref 0), some (.ref 140), some (.int 0)] [] (WW σF) 173 3534 := by
  refine R_aload_n (pc := 368) dL_law_368 rfl rfl ?_
  refine R_aload_n (pc := 369) dL_law_369 rfl rfl ?_
  refine R_iload_n (pc := 370) dL_law_370 rfl rfl ?_
  refine R_iconst (pc := 371) (v := 1) dL_law_371 (by decide) ?_
  refine R_iadd (pc := 372) dL_law_372 ?_
  refine R_cv 1 (by decide) ?_
  refine R_sld (pc := 373) dL_law_373 (by rw [hL9]; unfold vp_in; decide) ?_
  refine k_L_25 (pc := 374) (fp_days _) rfl (c_0 _) (by decide) (Nat.le_of_ble_eq_true rfl) (Nat.le_of_ble_eq_true rfl) (Nat.le_of_ble_eq_true rfl) dL_law_374 (fun x w2 h => ?_)
  obtain ⟨rfl, τ, rfl⟩ := h
  refine R_aload_n (pc := 377) dL_law_377 rfl rfl ?_
  refine R_aload_n (pc := 378) dL_law_378 rfl rfl ?_
  refine R_iload_n (pc := 379) dL_law_379 rfl rfl ?_
  refine R_iconst (pc := 380) (v := 1) dL_law_380 (by decide) ?_
  refine R_iadd (pc := 381) dL_law_381 ?_
  refine R_cv 1 (by decide) ?_
  refine R_sld (pc := 382) dL_law_382 (by rw [hL9]; unfold vp_in; decide) ?_
  refine k_L_29 (pc := 383) (fm_days _ _) rfl (c_140 _) (by decide) (Nat.le_of_ble_eq_true rfl) (Nat.le_of_ble_eq_true rfl) (Nat.le_of_ble_eq_true rfl) dL_law_383 (fun x w2 h => ?_)
  subst h
  refine R_iceq (pc := 386) 1279 dL_law_386 (by decide) (fun _ => ?_) (fun h => absurd rfl h)
  refine inc_4_3_9_a (pc := 1279) dL_law_1279 ?_
  refine R_goto (pc := 1282) 18 dL_law_1282 (by decide) ?_
  exact law_out hL9 _
set_option maxRecDepth 100000 in
set_option maxHeartbeats 40000000 in
theorem law_3 {G : vG} {l : Launch} (hL9 : gL G = 9) : R G l yL_law cL_law 4 (some .boolean) 11 600000 7302250 (fun r _ => r = some (.int 1)) 391 [some (.ref 1000200), some (.ref 0), some (.ref 140), some (.int 0)] [] (WW σF) 173 3534 := by
  refine R_aload_n (pc := 391) dL_law_391 rfl rfl ?_
  refine R_aload_n (pc := 392) dL_law_392 rfl rfl ?_
  refine R_iload_n (pc := 393) dL_law_393 rfl rfl ?_
  refine R_iconst (pc := 394) (v := 1) dL_law_394 (by decide) ?_
  refine R_iadd (pc := 395) dL_law_395 ?_
  refine R_cv 1 (by decide) ?_
  refine R_sld (pc := 396) dL_law_396 (by rw [hL9]; unfold vp_in; decide) ?_
  refine R_aload_n (pc := 397) dL_law_397 rfl rfl ?_
  refine R_iload_n (pc := 398) dL_law_398 rfl rfl ?_
  refine R_iconst (pc := 399) (v := 2) dL_law_399 (by decide) ?_
  refine R_iadd (pc := 400) dL_law_400 ?_
  refine R_cv 2 (by decide) ?_
  refine R_sld (pc := 401) dL_law_401 (by rw [hL9]; unfold vp_in; decide) ?_
  refine k_L_30 (pc := 402) (fp_set _ _) rfl (c_0 _) (by decide) (Nat.le_of_ble_eq_true rfl) (Nat.le_of_ble_eq_true rfl) (Nat.le_of_ble_eq_true rfl) dL_law_402 (fun x w2 h => ?_)
  obtain ⟨rfl, τ, rfl⟩ := h
  refine R_aload_n (pc := 405) dL_law_405 rfl rfl ?_
  refine R_aload_n (pc := 406) dL_law_406 rfl rfl ?_
  refine R_iload_n (pc := 407) dL_law_407 rfl rfl ?_
  refine R_iconst (pc := 408) (v := 1) dL_law_408 (by decide) ?_
  refine R_iadd (pc := 409) dL_law_409 ?_
  refine R_cv 1 (by decide) ?_
  refine R_sld (pc := 410) dL_law_410 (by rw [hL9]; unfold vp_in; decide) ?_
  refine R_aload_n (pc := 411) dL_law_411 rfl rfl ?_
  refine R_iload_n (pc := 412) dL_law_412 rfl rfl ?_
  refine R_iconst (pc := 413) (v := 2) dL_law_413 (by decide) ?_
  refine R_iadd (pc := 414) dL_law_414 ?_
  refine R_cv 2 (by decide) ?_
  refine R_sld (pc := 415) dL_law_415 (by rw [hL9]; unfold vp_in; decide) ?_
  refine k_L_34 (pc := 416) (fm_set _ _ _) rfl (c_140 _) (by decide) (Nat.le_of_ble_eq_true rfl) (Nat.le_of_ble_eq_true rfl) (Nat.le_of_ble_eq_true rfl) dL_law_416 (fun x w2 h => ?_)
  subst h
  refine R_iceq (pc := 419) 1279 dL_law_419 (by decide) (fun _ => ?_) (fun h => absurd rfl h)
  refine inc_4_3_9_a (pc := 1279) dL_law_1279 ?_
  refine R_goto (pc := 1282) 18 dL_law_1282 (by decide) ?_
  exact law_out hL9 _
set_option maxRecDepth 100000 in
set_option maxHeartbeats 40000000 in
theorem law_4 {G : vG} {l : Launch} (hL9 : gL G = 9) : R G l yL_law cL_law 4 (some .boolean) 11 600000 7302250 (fun r _ => r = some (.int 1)) 424 [some (.ref 1000200), some (.ref 0), some (.ref 140), some (.int 0)] [] (WW σF) 173 3534 := by
  refine R_aload_n (pc := 424) dL_law_424 rfl rfl ?_
  refine R_aload_n (pc := 425) dL_law_425 rfl rfl ?_
  refine R_iload_n (pc := 426) dL_law_426 rfl rfl ?_
  refine R_iconst (pc := 427) (v := 1) dL_law_427 (by decide) ?_
  refine R_iadd (pc := 428) dL_law_428 ?_
  refine R_cv 1 (by decide) ?_
  refine R_sld (pc := 429) dL_law_429 (by rw [hL9]; unfold vp_in; decide) ?_
  refine R_aload_n (pc := 430) dL_law_430 rfl rfl ?_
  refine R_iload_n (pc := 431) dL_law_431 rfl rfl ?_
  refine R_iconst (pc := 432) (v := 2) dL_law_432 (by decide) ?_
  refine R_iadd (pc := 433) dL_law_433 ?_
  refine R_cv 2 (by decide) ?_
  refine R_sld (pc := 434) dL_law_434 (by rw [hL9]; unfold vp_in; decide) ?_
  refine k_L_35 (pc := 435) (fp_difference _ _) rfl (c_0 _) (by decide) (Nat.le_of_ble_eq_true rfl) (Nat.le_of_ble_eq_true rfl) (Nat.le_of_ble_eq_true rfl) dL_law_435 (fun x w2 h => ?_)
  obtain ⟨rfl, τ, rfl⟩ := h
  refine R_aload_n (pc := 438) dL_law_438 rfl rfl ?_
  refine R_aload_n (pc := 439) dL_law_439 rfl rfl ?_
  refine R_iload_n (pc := 440) dL_law_440 rfl rfl ?_
  refine R_iconst (pc := 441) (v := 1) dL_law_441 (by decide) ?_
  refine R_iadd (pc := 442) dL_law_442 ?_
  refine R_cv 1 (by decide) ?_
  refine R_sld (pc := 443) dL_law_443 (by rw [hL9]; unfold vp_in; decide) ?_
  refine R_aload_n (pc := 444) dL_law_444 rfl rfl ?_
  refine R_iload_n (pc := 445) dL_law_445 rfl rfl ?_
  refine R_iconst (pc := 446) (v := 2) dL_law_446 (by decide) ?_
  refine R_iadd (pc := 447) dL_law_447 ?_
  refine R_cv 2 (by decide) ?_
  refine R_sld (pc := 448) dL_law_448 (by rw [hL9]; unfold vp_in; decide) ?_
  refine k_L_38 (pc := 449) (fm_difference _ _ _) rfl (c_140 _) (by decide) (Nat.le_of_ble_eq_true rfl) (Nat.le_of_ble_eq_true rfl) (Nat.le_of_ble_eq_true rfl) dL_law_449 (fun x w2 h => ?_)
  subst h
  refine R_iceq (pc := 452) 1279 dL_law_452 (by decide) (fun _ => ?_) (fun h => absurd rfl h)
  refine inc_4_3_9_a (pc := 1279) dL_law_1279 ?_
  refine R_goto (pc := 1282) 18 dL_law_1282 (by decide) ?_
  exact law_out hL9 _
set_option maxRecDepth 100000 in
set_option maxHeartbeats 40000000 in
theorem law_5 {G : vG} {l : Launch} (hL9 : gL G = 9) : R G l yL_law cL_law 4 (some .boolean) 11 600000 7302250 (fun r _ => r = some (.int 1)) 457 [some (.ref 1000200), some (.ref 0), some (.ref 140), some (.int 0)] [] (WW σF) 173 3534 := by
  refine R_aload_n (pc := 457) dL_law_457 rfl rfl ?_
  refine R_aload_n (pc := 458) dL_law_458 rfl rfl ?_
  refine R_iload_n (pc := 459) dL_law_459 rfl rfl ?_
  refine R_iconst (pc := 460) (v := 1) dL_law_460 (by decide) ?_
  refine R_iadd (pc := 461) dL_law_461 ?_
  refine R_cv 1 (by decide) ?_
  refine R_sld (pc := 462) dL_law_462 (by rw [hL9]; unfold vp_in; decide) ?_
  refine k_L_39 (pc := 463) (fp_negative _) rfl (c_0 _) (by decide) (Nat.le_of_ble_eq_true rfl) (Nat.le_of_ble_eq_true rfl) (Nat.le_of_ble_eq_true rfl) dL_law_463 (fun x w2 h => ?_)
  obtain ⟨rfl, τ, rfl⟩ := h
  refine R_aload_n (pc := 466) dL_law_466 rfl rfl ?_
  refine R_aload_n (pc := 467) dL_law_467 rfl rfl ?_
  refine R_iload_n (pc := 468) dL_law_468 rfl rfl ?_
  refine R_iconst (pc := 469) (v := 1) dL_law_469 (by decide) ?_
  refine R_iadd (pc := 470) dL_law_470 ?_
  refine R_cv 1 (by decide) ?_
  refine R_sld (pc := 471) dL_law_471 (by rw [hL9]; unfold vp_in; decide) ?_
  refine k_L_42 (pc := 472) (fm_negative _ _) rfl (c_140 _) (by decide) (Nat.le_of_ble_eq_true rfl) (Nat.le_of_ble_eq_true rfl) (Nat.le_of_ble_eq_true rfl) dL_law_472 (fun x w2 h => ?_)
  subst h
  refine R_iceq (pc := 475) 1279 dL_law_475 (by decide) (fun _ => ?_) (fun h => absurd rfl h)
  refine inc_4_3_9_a (pc := 1279) dL_law_1279 ?_
  refine R_goto (pc := 1282) 18 dL_law_1282 (by decide) ?_
  exact law_out hL9 _
set_option maxRecDepth 100000 in
set_option maxHeartbeats 40000000 in
theorem law_6 {G : vG} {l : Launch} (hL9 : gL G = 9) : R G l yL_law cL_law 4 (some .boolean) 11 600000 7302250 (fun r _ => r = some (.int 1)) 480 [some (.ref 1000200), some (.ref 0), some (.ref 140), some (.int 0)] [] (WW σF) 173 3534 := by
  refine R_aload_n (pc := 480) dL_law_480 rfl rfl ?_
  refine R_aload_n (pc := 481) dL_law_481 rfl rfl ?_
  refine R_iload_n (pc := 482) dL_law_482 rfl rfl ?_
  refine R_iconst (pc := 483) (v := 1) dL_law_483 (by decide) ?_
  refine R_iadd (pc := 484) dL_law_484 ?_
  refine R_cv 1 (by decide) ?_
  refine R_sld (pc := 485) dL_law_485 (by rw [hL9]; unfold vp_in; decide) ?_
  refine R_aload_n (pc := 486) dL_law_486 rfl rfl ?_
  refine R_iload_n (pc := 487) dL_law_487 rfl rfl ?_
  refine R_iconst (pc := 488) (v := 2) dL_law_488 (by decide) ?_
  refine R_iadd (pc := 489) dL_law_489 ?_
  refine R_cv 2 (by decide) ?_
  refine R_sld (pc := 490) dL_law_490 (by rw [hL9]; unfold vp_in; decide) ?_
  refine k_L_43 (pc := 491) (fp_far _ _) rfl (c_0 _) (by decide) (Nat.le_of_ble_eq_true rfl) (Nat.le_of_ble_eq_true rfl) (Nat.le_of_ble_eq_true rfl) dL_law_491 (fun x w2 h => ?_)
  obtain ⟨rfl, τ, rfl⟩ := h
  refine R_aload_n (pc := 494) dL_law_494 rfl rfl ?_
  refine R_aload_n (pc := 495) dL_law_495 rfl rfl ?_
  refine R_iload_n (pc := 496) dL_law_496 rfl rfl ?_
  refine R_iconst (pc := 497) (v := 1) dL_law_497 (by decide) ?_
  refine R_iadd (pc := 498) dL_law_498 ?_
  refine R_cv 1 (by decide) ?_
  refine R_sld (pc := 499) dL_law_499 (by rw [hL9]; unfold vp_in; decide) ?_
  refine R_aload_n (pc := 500) dL_law_500 rfl rfl ?_
  refine R_iload_n (pc := 501) dL_law_501 rfl rfl ?_
  refine R_iconst (pc := 502) (v := 2) dL_law_502 (by decide) ?_
  refine R_iadd (pc := 503) dL_law_503 ?_
  refine R_cv 2 (by decide) ?_
  refine R_sld (pc := 504) dL_law_504 (by rw [hL9]; unfold vp_in; decide) ?_
  refine k_L_46 (pc := 505) (fm_far _ _ _) rfl (c_140 _) (by decide) (Nat.le_of_ble_eq_true rfl) (Nat.le_of_ble_eq_true rfl) (Nat.le_of_ble_eq_true rfl) dL_law_505 (fun x w2 h => ?_)
  subst h
  refine R_iceq (pc := 508) 1279 dL_law_508 (by decide) (fun _ => ?_) (fun h => absurd rfl h)
  refine inc_4_3_9_a (pc := 1279) dL_law_1279 ?_
  refine R_goto (pc := 1282) 18 dL_law_1282 (by decide) ?_
  exact law_out hL9 _
set_option maxRecDepth 100000 in
set_option maxHeartbeats 40000000 in
theorem law_7 {G : vG} {l : Launch} (hL9 : gL G = 9) : R G l yL_law cL_law 4 (some .boolean) 11 600000 7302250 (fun r _ => r = some (.int 1)) 513 [some (.ref 1000200), some (.ref 0), some (.ref 140), some (.int 0)] [] (WW σF) 173 3534 := by
  refine R_aload_n (pc := 513) dL_law_513 rfl rfl ?_
  refine R_aload_n (pc := 514) dL_law_514 rfl rfl ?_
  refine R_iload_n (pc := 515) dL_law_515 rfl rfl ?_
  refine R_iconst (pc := 516) (v := 1) dL_law_516 (by decide) ?_
  refine R_iadd (pc := 517) dL_law_517 ?_
  refine R_cv 1 (by decide) ?_
  refine R_sld (pc := 518) dL_law_518 (by rw [hL9]; unfold vp_in; decide) ?_
  refine R_aload_n (pc := 519) dL_law_519 rfl rfl ?_
  refine R_iload_n (pc := 520) dL_law_520 rfl rfl ?_
  refine R_iconst (pc := 521) (v := 2) dL_law_521 (by decide) ?_
  refine R_iadd (pc := 522) dL_law_522 ?_
  refine R_cv 2 (by decide) ?_
  refine R_sld (pc := 523) dL_law_523 (by rw [hL9]; unfold vp_in; decide) ?_
  refine k_L_47 (pc := 524) (fp_match _ _) rfl (c_0 _) (by decide) (Nat.le_of_ble_eq_true rfl) (Nat.le_of_ble_eq_true rfl) (Nat.le_of_ble_eq_true rfl) dL_law_524 (fun x w2 h => ?_)
  obtain ⟨rfl, τ, rfl⟩ := h
  refine R_aload_n (pc := 527) dL_law_527 rfl rfl ?_
  refine R_aload_n (pc := 528) dL_law_528 rfl rfl ?_
  refine R_iload_n (pc := 529) dL_law_529 rfl rfl ?_
  refine R_iconst (pc := 530) (v := 1) dL_law_530 (by decide) ?_
  refine R_iadd (pc := 531) dL_law_531 ?_
  refine R_cv 1 (by decide) ?_
  refine R_sld (pc := 532) dL_law_532 (by rw [hL9]; unfold vp_in; decide) ?_
  refine R_aload_n (pc := 533) dL_law_533 rfl rfl ?_
  refine R_iload_n (pc := 534) dL_law_534 rfl rfl ?_
  refine R_iconst (pc := 535) (v := 2) dL_law_535 (by decide) ?_
  refine R_iadd (pc := 536) dL_law_536 ?_
  refine R_cv 2 (by decide) ?_
  refine R_sld (pc := 537) dL_law_537 (by rw [hL9]; unfold vp_in; decide) ?_
  refine k_L_50 (pc := 538) (fm_match _ _ _) rfl (c_140 _) (by decide) (Nat.le_of_ble_eq_true rfl) (Nat.le_of_ble_eq_true rfl) (Nat.le_of_ble_eq_true rfl) dL_law_538 (fun x w2 h => ?_)
  subst h
  refine R_iceq (pc := 541) 1279 dL_law_541 (by decide) (fun _ => ?_) (fun h => absurd rfl h)
  refine inc_4_3_9_a (pc := 1279) dL_law_1279 ?_
  refine R_goto (pc := 1282) 18 dL_law_1282 (by decide) ?_
  exact law_out hL9 _
set_option maxRecDepth 100000 in
set_option maxHeartbeats 40000000 in
theorem law_8 {G : vG} {l : Launch} (hL9 : gL G = 9) : R G l yL_law cL_law 4 (some .boolean) 11 600000 7302250 (fun r _ => r = some (.int 1)) 546 [some (.ref 1000200), some (.ref 0), some (.ref 140), some (.int 0)] [] (WW σF) 173 3534 := by
  refine R_aload_n (pc := 546) dL_law_546 rfl rfl ?_
  refine R_aload_n (pc := 547) dL_law_547 rfl rfl ?_
  refine R_iload_n (pc := 548) dL_law_548 rfl rfl ?_
  refine R_iconst (pc := 549) (v := 1) dL_law_549 (by decide) ?_
  refine R_iadd (pc := 550) dL_law_550 ?_
  refine R_cv 1 (by decide) ?_
  refine R_sld (pc := 551) dL_law_551 (by rw [hL9]; unfold vp_in; decide) ?_
  refine R_aload_n (pc := 552) dL_law_552 rfl rfl ?_
  refine R_iload_n (pc := 553) dL_law_553 rfl rfl ?_
  refine R_iconst (pc := 554) (v := 2) dL_law_554 (by decide) ?_
  refine R_iadd (pc := 555) dL_law_555 ?_
  refine R_cv 2 (by decide) ?_
  refine R_sld (pc := 556) dL_law_556 (by rw [hL9]; unfold vp_in; decide) ?_
  refine k_L_51 (pc := 557) (fp_of _ _) rfl (c_0 _) (by decide) (Nat.le_of_ble_eq_true rfl) (Nat.le_of_ble_eq_true rfl) (Nat.le_of_ble_eq_true rfl) dL_law_557 (fun x w2 h => ?_)
  obtain ⟨rfl, τ, rfl⟩ := h
  refine R_aload_n (pc := 560) dL_law_560 rfl rfl ?_
  refine R_aload_n (pc := 561) dL_law_561 rfl rfl ?_
  refine R_iload_n (pc := 562) dL_law_562 rfl rfl ?_
  refine R_iconst (pc := 563) (v := 1) dL_law_563 (by decide) ?_
  refine R_iadd (pc := 564) dL_law_564 ?_
  refine R_cv 1 (by decide) ?_
  refine R_sld (pc := 565) dL_law_565 (by rw [hL9]; unfold vp_in; decide) ?_
  refine R_aload_n (pc := 566) dL_law_566 rfl rfl ?_
  refine R_iload_n (pc := 567) dL_law_567 rfl rfl ?_
  refine R_iconst (pc := 568) (v := 2) dL_law_568 (by decide) ?_
  refine R_iadd (pc := 569) dL_law_569 ?_
  refine R_cv 2 (by decide) ?_
  refine R_sld (pc := 570) dL_law_570 (by rw [hL9]; unfold vp_in; decide) ?_
  refine k_L_54 (pc := 571) (fm_of _ _ _) rfl (c_140 _) (by decide) (Nat.le_of_ble_eq_true rfl) (Nat.le_of_ble_eq_true rfl) (Nat.le_of_ble_eq_true rfl) dL_law_571 (fun x w2 h => ?_)
  subst h
  refine R_iceq (pc := 574) 1279 dL_law_574 (by decide) (fun _ => ?_) (fun h => absurd rfl h)
  refine inc_4_3_9_a (pc := 1279) dL_law_1279 ?_
  refine R_goto (pc := 1282) 18 dL_law_1282 (by decide) ?_
  exact law_out hL9 _
set_option maxRecDepth 100000 in
set_option maxHeartbeats 40000000 in
theorem law_9 {G : vG} {l : Launch} (hL9 : gL G = 9) : R G l yL_law cL_law 4 (some .boolean) 11 600000 7302250 (fun r _ => r = some (.int 1)) 579 [some (.ref 1000200), some (.ref 0), some (.ref 140), some (.int 0)] [] (WW σF) 173 3534 := by
  refine R_aload_n (pc := 579) dL_law_579 rfl rfl ?_
  refine R_aload_n (pc := 580) dL_law_580 rfl rfl ?_
  refine R_iload_n (pc := 581) dL_law_581 rfl rfl ?_
  refine R_iconst (pc := 582) (v := 1) dL_law_582 (by decide) ?_
  refine R_iadd (pc := 583) dL_law_583 ?_
  refine R_cv 1 (by decide) ?_
  refine R_sld (pc := 584) dL_law_584 (by rw [hL9]; unfold vp_in; decide) ?_
  refine R_aload_n (pc := 585) dL_law_585 rfl rfl ?_
  refine R_iload_n (pc := 586) dL_law_586 rfl rfl ?_
  refine R_iconst (pc := 587) (v := 2) dL_law_587 (by decide) ?_
  refine R_iadd (pc := 588) dL_law_588 ?_
  refine R_cv 2 (by decide) ?_
  refine R_sld (pc := 589) dL_law_589 (by rw [hL9]; unfold vp_in; decide) ?_
  refine k_L_55 (pc := 590) (fp_series _ _) rfl (c_0 _) (by decide) (Nat.le_of_ble_eq_true rfl) (Nat.le_of_ble_eq_true rfl) (Nat.le_of_ble_eq_true rfl) dL_law_590 (fun x w2 h => ?_)
  obtain ⟨rfl, τ, rfl⟩ := h
  refine R_aload_n (pc := 593) dL_law_593 rfl rfl ?_
  refine R_aload_n (pc := 594) dL_law_594 rfl rfl ?_
  refine R_iload_n (pc := 595) dL_law_595 rfl rfl ?_
  refine R_iconst (pc := 596) (v := 1) dL_law_596 (by decide) ?_
  refine R_iadd (pc := 597) dL_law_597 ?_
  refine R_cv 1 (by decide) ?_
  refine R_sld (pc := 598) dL_law_598 (by rw [hL9]; unfold vp_in; decide) ?_
  refine R_aload_n (pc := 599) dL_law_599 rfl rfl ?_
  refine R_iload_n (pc := 600) dL_law_600 rfl rfl ?_
  refine R_iconst (pc := 601) (v := 2) dL_law_601 (by decide) ?_
  refine R_iadd (pc := 602) dL_law_602 ?_
  refine R_cv 2 (by decide) ?_
  refine R_sld (pc := 603) dL_law_603 (by rw [hL9]; unfold vp_in; decide) ?_
  refine k_L_58 (pc := 604) (fm_series _ _ _) rfl (c_140 _) (by decide) (Nat.le_of_ble_eq_true rfl) (Nat.le_of_ble_eq_true rfl) (Nat.le_of_ble_eq_true rfl) dL_law_604 (fun x w2 h => ?_)
  subst h
  refine R_iceq (pc := 607) 1279 dL_law_607 (by decide) (fun _ => ?_) (fun h => absurd rfl h)
  refine inc_4_3_9_a (pc := 1279) dL_law_1279 ?_
  refine R_goto (pc := 1282) 18 dL_law_1282 (by decide) ?_
  exact law_out hL9 _
set_option maxRecDepth 100000 in
set_option maxHeartbeats 40000000 in
theorem law_10 {G : vG} {l : Launch} (hL9 : gL G = 9) : R G l yL_law cL_law 4 (some .boolean) 11 600000 7302250 (fun r _ => r = some (.int 1)) 612 [some (.ref 1000200), some (.ref 0), some (.ref 140), some (.int 0)] [] (WW σF) 173 3534 := by
  refine R_aload_n (pc := 612) dL_law_612 rfl rfl ?_
  refine R_aload_n (pc := 613) dL_law_613 rfl rfl ?_
  refine R_iload_n (pc := 614) dL_law_614 rfl rfl ?_
  refine R_iconst (pc := 615) (v := 1) dL_law_615 (by decide) ?_
  refine R_iadd (pc := 616) dL_law_616 ?_
  refine R_cv 1 (by decide) ?_
  refine R_sld (pc := 617) dL_law_617 (by rw [hL9]; unfold vp_in; decide) ?_
  refine R_aload_n (pc := 618) dL_law_618 rfl rfl ?_
  refine R_iload_n (pc := 619) dL_law_619 rfl rfl ?_
  refine R_iconst (pc := 620) (v := 2) dL_law_620 (by decide) ?_
  refine R_iadd (pc := 621) dL_law_621 ?_
  refine R_cv 2 (by decide) ?_
  refine R_sld (pc := 622) dL_law_622 (by rw [hL9]; unfold vp_in; decide) ?_
  refine k_L_59 (pc := 623) (fp_gap _ _) rfl (c_0 _) (by decide) (Nat.le_of_ble_eq_true rfl) (Nat.le_of_ble_eq_true rfl) (Nat.le_of_ble_eq_true rfl) dL_law_623 (fun x w2 h => ?_)
  obtain ⟨rfl, τ, rfl⟩ := h
  refine R_aload_n (pc := 626) dL_law_626 rfl rfl ?_
  refine R_aload_n (pc := 627) dL_law_627 rfl rfl ?_
  refine R_iload_n (pc := 628) dL_law_628 rfl rfl ?_
  refine R_iconst (pc := 629) (v := 1) dL_law_629 (by decide) ?_
  refine R_iadd (pc := 630) dL_law_630 ?_
  refine R_cv 1 (by decide) ?_
  refine R_sld (pc := 631) dL_law_631 (by rw [hL9]; unfold vp_in; decide) ?_
  refine R_aload_n (pc := 632) dL_law_632 rfl rfl ?_
  refine R_iload_n (pc := 633) dL_law_633 rfl rfl ?_
  refine R_iconst (pc := 634) (v := 2) dL_law_634 (by decide) ?_
  refine R_iadd (pc := 635) dL_law_635 ?_
  refine R_cv 2 (by decide) ?_
  refine R_sld (pc := 636) dL_law_636 (by rw [hL9]; unfold vp_in; decide) ?_
  refine k_L_62 (pc := 637) (fm_gap _ _ _) rfl (c_140 _) (by decide) (Nat.le_of_ble_eq_true rfl) (Nat.le_of_ble_eq_true rfl) (Nat.le_of_ble_eq_true rfl) dL_law_637 (fun x w2 h => ?_)
  subst h
  refine R_iceq (pc := 640) 1279 dL_law_640 (by decide) (fun _ => ?_) (fun h => absurd rfl h)
  refine inc_4_3_9_a (pc := 1279) dL_law_1279 ?_
  refine R_goto (pc := 1282) 18 dL_law_1282 (by decide) ?_
  exact law_out hL9 _
set_option maxRecDepth 100000 in
set_option maxHeartbeats 40000000 in
theorem law_11 {G : vG} {l : Launch} (hL9 : gL G = 9) : R G l yL_law cL_law 4 (some .boolean) 11 600000 7302250 (fun r _ => r = some (.int 1)) 645 [some (.ref 1000200), some (.ref 0), some (.ref 140), some (.int 0)] [] (WW σF) 173 3534 := by
  refine R_aload_n (pc := 645) dL_law_645 rfl rfl ?_
  refine R_aload_n (pc := 646) dL_law_646 rfl rfl ?_
  refine R_iload_n (pc := 647) dL_law_647 rfl rfl ?_
  refine R_iconst (pc := 648) (v := 1) dL_law_648 (by decide) ?_
  refine R_iadd (pc := 649) dL_law_649 ?_
  refine R_cv 1 (by decide) ?_
  refine R_sld (pc := 650) dL_law_650 (by rw [hL9]; unfold vp_in; decide) ?_
  refine k_L_63 (pc := 651) (fp_unseen _) rfl (c_0 _) (by decide) (Nat.le_of_ble_eq_true rfl) (Nat.le_of_ble_eq_true rfl) (Nat.le_of_ble_eq_true rfl) dL_law_651 (fun x w2 h => ?_)
  obtain ⟨rfl, τ, rfl⟩ := h
  refine R_aload_n (pc := 654) dL_law_654 rfl rfl ?_
  refine R_aload_n (pc := 655) dL_law_655 rfl rfl ?_
  refine R_iload_n (pc := 656) dL_law_656 rfl rfl ?_
  refine R_iconst (pc := 657) (v := 1) dL_law_657 (by decide) ?_
  refine R_iadd (pc := 658) dL_law_658 ?_
  refine R_cv 1 (by decide) ?_
  refine R_sld (pc := 659) dL_law_659 (by rw [hL9]; unfold vp_in; decide) ?_
  refine k_L_66 (pc := 660) (fm_unseen _ _) rfl (c_140 _) (by decide) (Nat.le_of_ble_eq_true rfl) (Nat.le_of_ble_eq_true rfl) (Nat.le_of_ble_eq_true rfl) dL_law_660 (fun x w2 h => ?_)
  subst h
  refine R_iceq (pc := 663) 1279 dL_law_663 (by decide) (fun _ => ?_) (fun h => absurd rfl h)
  refine inc_4_3_9_a (pc := 1279) dL_law_1279 ?_
  refine R_goto (pc := 1282) 18 dL_law_1282 (by decide) ?_
  exact law_out hL9 _
set_option maxRecDepth 100000 in
set_option maxHeartbeats 40000000 in
theorem law_12 {G : vG} {l : Launch} (hL9 : gL G = 9) : R G l yL_law cL_law 4 (some .boolean) 11 600000 7302250 (fun r _ => r = some (.int 1)) 668 [some (.ref 1000200), some (.ref 0), some (.ref 140), some (.int 0)] [] (WW σF) 173 3534 := by
  refine R_aload_n (pc := 668) dL_law_668 rfl rfl ?_
  refine R_aload_n (pc := 669) dL_law_669 rfl rfl ?_
  refine R_iload_n (pc := 670) dL_law_670 rfl rfl ?_
  refine R_iconst (pc := 671) (v := 1) dL_law_671 (by decide) ?_
  refine R_iadd (pc := 672) dL_law_672 ?_
  refine R_cv 1 (by decide) ?_
  refine R_sld (pc := 673) dL_law_673 (by rw [hL9]; unfold vp_in; decide) ?_
  refine R_aload_n (pc := 674) dL_law_674 rfl rfl ?_
  refine R_iload_n (pc := 675) dL_law_675 rfl rfl ?_
  refine R_iconst (pc := 676) (v := 2) dL_law_676 (by decide) ?_
  refine R_iadd (pc := 677) dL_law_677 ?_
  refine R_cv 2 (by decide) ?_
  refine R_sld (pc := 678) dL_law_678 (by rw [hL9]; unfold vp_in; decide) ?_
  refine R_aload_n (pc := 679) dL_law_679 rfl rfl ?_
  refine R_iload_n (pc := 680) dL_law_680 rfl rfl ?_
  refine R_iconst (pc := 681) (v := 3) dL_law_681 (by decide) ?_
  refine R_iadd (pc := 682) dL_law_682 ?_
  refine R_cv 3 (by decide) ?_
  refine R_sld (pc := 683) dL_law_683 (by rw [hL9]; unfold vp_in; decide) ?_
  refine k_L_67 (pc := 684) (fp_overlap _ _ _) rfl (c_0 _) (by decide) (Nat.le_of_ble_eq_true rfl) (Nat.le_of_ble_eq_true rfl) (Nat.le_of_ble_eq_true rfl) dL_law_684 (fun x w2 h => ?_)
  obtain ⟨rfl, τ, rfl⟩ := h
  refine R_aload_n (pc := 687) dL_law_687 rfl rfl ?_
  refine R_aload_n (pc := 688) dL_law_688 rfl rfl ?_
  refine R_iload_n (pc := 689) dL_law_689 rfl rfl ?_
  refine R_iconst (pc := 690) (v := 1) dL_law_690 (by decide) ?_
  refine R_iadd (pc := 691) dL_law_691 ?_
  refine R_cv 1 (by decide) ?_
  refine R_sld (pc := 692) dL_law_692 (by rw [hL9]; unfold vp_in; decide) ?_
  refine R_aload_n (pc := 693) dL_law_693 rfl rfl ?_
  refine R_iload_n (pc := 694) dL_law_694 rfl rfl ?_
  refine R_iconst (pc := 695) (v := 2) dL_law_695 (by decide) ?_
  refine R_iadd (pc := 696) dL_law_696 ?_
  refine R_cv 2 (by decide) ?_
  refine R_sld (pc := 697) dL_law_697 (by rw [hL9]; unfold vp_in; decide) ?_
  refine R_aload_n (pc := 698) dL_law_698 rfl rfl ?_
  refine R_iload_n (pc := 699) dL_law_699 rfl rfl ?_
  refine R_iconst (pc := 700) (v := 3) dL_law_700 (by decide) ?_
  refine R_iadd (pc := 701) dL_law_701 ?_
  refine R_cv 3 (by decide) ?_
  refine R_sld (pc := 702) dL_law_702 (by rw [hL9]; unfold vp_in; decide) ?_
  refine k_L_71 (pc := 703) (fm_overlap _ _ _ _) rfl (c_140 _) (by decide) (Nat.le_of_ble_eq_true rfl) (Nat.le_of_ble_eq_true rfl) (Nat.le_of_ble_eq_true rfl) dL_law_703 (fun x w2 h => ?_)
  subst h
  refine R_iceq (pc := 706) 1279 dL_law_706 (by decide) (fun _ => ?_) (fun h => absurd rfl h)
  refine inc_4_3_9_a (pc := 1279) dL_law_1279 ?_
  refine R_goto (pc := 1282) 18 dL_law_1282 (by decide) ?_
  exact law_out hL9 _
set_option maxRecDepth 100000 in
set_option maxHeartbeats 40000000 in
theorem law_13 {G : vG} {l : Launch} (hL9 : gL G = 9) : R G l yL_law cL_law 4 (some .boolean) 11 600000 7302250 (fun r _ => r = some (.int 1)) 711 [some (.ref 1000200), some (.ref 0), some (.ref 140), some (.int 0)] [] (WW σF) 173 3534 := by
  refine R_aload_n (pc := 711) dL_law_711 rfl rfl ?_
  refine R_aload_n (pc := 712) dL_law_712 rfl rfl ?_
  refine R_iload_n (pc := 713) dL_law_713 rfl rfl ?_
  refine R_iconst (pc := 714) (v := 1) dL_law_714 (by decide) ?_
  refine R_iadd (pc := 715) dL_law_715 ?_
  refine R_cv 1 (by decide) ?_
  refine R_sld (pc := 716) dL_law_716 (by rw [hL9]; unfold vp_in; decide) ?_
  refine R_aload_n (pc := 717) dL_law_717 rfl rfl ?_
  refine R_iload_n (pc := 718) dL_law_718 rfl rfl ?_
  refine R_iconst (pc := 719) (v := 2) dL_law_719 (by decide) ?_
  refine R_iadd (pc := 720) dL_law_720 ?_
  refine R_cv 2 (by decide) ?_
  refine R_sld (pc := 721) dL_law_721 (by rw [hL9]; unfold vp_in; decide) ?_
  refine R_aload_n (pc := 722) dL_law_722 rfl rfl ?_
  refine R_iload_n (pc := 723) dL_law_723 rfl rfl ?_
  refine R_iconst (pc := 724) (v := 3) dL_law_724 (by decide) ?_
  refine R_iadd (pc := 725) dL_law_725 ?_
  refine R_cv 3 (by decide) ?_
  refine R_sld (pc := 726) dL_law_726 (by rw [hL9]; unfold vp_in; decide) ?_
  refine k_L_72 (pc := 727) (fp_feature _ _ _) rfl (c_0 _) (by decide) (Nat.le_of_ble_eq_true rfl) (Nat.le_of_ble_eq_true rfl) (Nat.le_of_ble_eq_true rfl) dL_law_727 (fun x w2 h => ?_)
  obtain ⟨rfl, τ, rfl⟩ := h
  refine R_aload_n (pc := 730) dL_law_730 rfl rfl ?_
  refine R_aload_n (pc := 731) dL_law_731 rfl rfl ?_
  refine R_iload_n (pc := 732) dL_law_732 rfl rfl ?_
  refine R_iconst (pc := 733) (v := 1) dL_law_733 (by decide) ?_
  refine R_iadd (pc := 734) dL_law_734 ?_
  refine R_cv 1 (by decide) ?_
  refine R_sld (pc := 735) dL_law_735 (by rw [hL9]; unfold vp_in; decide) ?_
  refine R_aload_n (pc := 736) dL_law_736 rfl rfl ?_
  refine R_iload_n (pc := 737) dL_law_737 rfl rfl ?_
  refine R_iconst (pc := 738) (v := 2) dL_law_738 (by decide) ?_
  refine R_iadd (pc := 739) dL_law_739 ?_
  refine R_cv 2 (by decide) ?_
  refine R_sld (pc := 740) dL_law_740 (by rw [hL9]; unfold vp_in; decide) ?_
  refine R_aload_n (pc := 741) dL_law_741 rfl rfl ?_
  refine R_iload_n (pc := 742) dL_law_742 rfl rfl ?_
  refine R_iconst (pc := 743) (v := 3) dL_law_743 (by decide) ?_
  refine R_iadd (pc := 744) dL_law_744 ?_
  refine R_cv 3 (by decide) ?_
  refine R_sld (pc := 745) dL_law_745 (by rw [hL9]; unfold vp_in; decide) ?_
  refine k_L_75 (pc := 746) (fm_feature _ _ _ _) rfl (c_140 _) (by decide) (Nat.le_of_ble_eq_true rfl) (Nat.le_of_ble_eq_true rfl) (Nat.le_of_ble_eq_true rfl) dL_law_746 (fun x w2 h => ?_)
  subst h
  refine R_iceq (pc := 749) 1279 dL_law_749 (by decide) (fun _ => ?_) (fun h => absurd rfl h)
  refine inc_4_3_9_a (pc := 1279) dL_law_1279 ?_
  refine R_goto (pc := 1282) 18 dL_law_1282 (by decide) ?_
  exact law_out hL9 _
set_option maxRecDepth 100000 in
set_option maxHeartbeats 40000000 in
theorem law_14 {G : vG} {l : Launch} (hL9 : gL G = 9) : R G l yL_law cL_law 4 (some .boolean) 11 600000 7302250 (fun r _ => r = some (.int 1)) 754 [some (.ref 1000200), some (.ref 0), some (.ref 140), some (.int 0)] [] (WW σF) 173 3534 := by
  refine R_aload_n (pc := 754) dL_law_754 rfl rfl ?_
  refine R_aload_n (pc := 755) dL_law_755 rfl rfl ?_
  refine R_iload_n (pc := 756) dL_law_756 rfl rfl ?_
  refine R_iconst (pc := 757) (v := 1) dL_law_757 (by decide) ?_
  refine R_iadd (pc := 758) dL_law_758 ?_
  refine R_cv 1 (by decide) ?_
  refine R_sld (pc := 759) dL_law_759 (by rw [hL9]; unfold vp_in; decide) ?_
  refine R_aload_n (pc := 760) dL_law_760 rfl rfl ?_
  refine R_iload_n (pc := 761) dL_law_761 rfl rfl ?_
  refine R_iconst (pc := 762) (v := 2) dL_law_762 (by decide) ?_
  refine R_iadd (pc := 763) dL_law_763 ?_
  refine R_cv 2 (by decide) ?_
  refine R_sld (pc := 764) dL_law_764 (by rw [hL9]; unfold vp_in; decide) ?_
  refine R_aload_n (pc := 765) dL_law_765 rfl rfl ?_
  refine R_iload_n (pc := 766) dL_law_766 rfl rfl ?_
  refine R_iconst (pc := 767) (v := 3) dL_law_767 (by decide) ?_
  refine R_iadd (pc := 768) dL_law_768 ?_
  refine R_cv 3 (by decide) ?_
  refine R_sld (pc := 769) dL_law_769 (by rw [hL9]; unfold vp_in; decide) ?_
  refine k_L_76 (pc := 770) (fp_shows _ _ _) rfl (c_0 _) (by decide) (Nat.le_of_ble_eq_true rfl) (Nat.le_of_ble_eq_true rfl) (Nat.le_of_ble_eq_true rfl) dL_law_770 (fun x w2 h => ?_)
  obtain ⟨rfl, τ, rfl⟩ := h
  refine R_aload_n (pc := 773) dL_law_773 rfl rfl ?_
  refine R_aload_n (pc := 774) dL_law_774 rfl rfl ?_
  refine R_iload_n (pc := 775) dL_law_775 rfl rfl ?_
  refine R_iconst (pc := 776) (v := 1) dL_law_776 (by decide) ?_
  refine R_iadd (pc := 777) dL_law_777 ?_
  refine R_cv 1 (by decide) ?_
  refine R_sld (pc := 778) dL_law_778 (by rw [hL9]; unfold vp_in; decide) ?_
  refine R_aload_n (pc := 779) dL_law_779 rfl rfl ?_
  refine R_iload_n (pc := 780) dL_law_780 rfl rfl ?_
  refine R_iconst (pc := 781) (v := 2) dL_law_781 (by decide) ?_
  refine R_iadd (pc := 782) dL_law_782 ?_
  refine R_cv 2 (by decide) ?_
  refine R_sld (pc := 783) dL_law_783 (by rw [hL9]; unfold vp_in; decide) ?_
  refine R_aload_n (pc := 784) dL_law_784 rfl rfl ?_
  refine R_iload_n (pc := 785) dL_law_785 rfl rfl ?_
  refine R_iconst (pc := 786) (v := 3) dL_law_786 (by decide) ?_
  refine R_iadd (pc := 787) dL_law_787 ?_
  refine R_cv 3 (by decide) ?_
  refine R_sld (pc := 788) dL_law_788 (by rw [hL9]; unfold vp_in; decide) ?_
  refine k_L_79 (pc := 789) (fm_shows _ _ _ _) rfl (c_140 _) (by decide) (Nat.le_of_ble_eq_true rfl) (Nat.le_of_ble_eq_true rfl) (Nat.le_of_ble_eq_true rfl) dL_law_789 (fun x w2 h => ?_)
  subst h
  refine R_iceq (pc := 792) 1279 dL_law_792 (by decide) (fun _ => ?_) (fun h => absurd rfl h)
  refine inc_4_3_9_a (pc := 1279) dL_law_1279 ?_
  refine R_goto (pc := 1282) 18 dL_law_1282 (by decide) ?_
  exact law_out hL9 _
set_option maxRecDepth 100000 in
set_option maxHeartbeats 40000000 in
theorem law_15 {G : vG} {l : Launch} (hL9 : gL G = 9) : R G l yL_law cL_law 4 (some .boolean) 11 600000 7302250 (fun r _ => r = some (.int 1)) 797 [some (.ref 1000200), some (.ref 0), some (.ref 140), some (.int 0)] [] (WW σF) 173 3534 := by
  refine R_aload_n (pc := 797) dL_law_797 rfl rfl ?_
  refine R_aload_n (pc := 798) dL_law_798 rfl rfl ?_
  refine R_iload_n (pc := 799) dL_law_799 rfl rfl ?_
  refine R_iconst (pc := 800) (v := 1) dL_law_800 (by decide) ?_
  refine R_iadd (pc := 801) dL_law_801 ?_
  refine R_cv 1 (by decide) ?_
  refine R_sld (pc := 802) dL_law_802 (by rw [hL9]; unfold vp_in; decide) ?_
  refine R_aload_n (pc := 803) dL_law_803 rfl rfl ?_
  refine R_iload_n (pc := 804) dL_law_804 rfl rfl ?_
  refine R_iconst (pc := 805) (v := 2) dL_law_805 (by decide) ?_
  refine R_iadd (pc := 806) dL_law_806 ?_
  refine R_cv 2 (by decide) ?_
  refine R_sld (pc := 807) dL_law_807 (by rw [hL9]; unfold vp_in; decide) ?_
  refine R_aload_n (pc := 808) dL_law_808 rfl rfl ?_
  refine R_iload_n (pc := 809) dL_law_809 rfl rfl ?_
  refine R_iconst (pc := 810) (v := 3) dL_law_810 (by decide) ?_
  refine R_iadd (pc := 811) dL_law_811 ?_
  refine R_cv 3 (by decide) ?_
  refine R_sld (pc := 812) dL_law_812 (by rw [hL9]; unfold vp_in; decide) ?_
  refine k_L_80 (pc := 813) (fp_back _ _ _) rfl (c_0 _) (by decide) (Nat.le_of_ble_eq_true rfl) (Nat.le_of_ble_eq_true rfl) (Nat.le_of_ble_eq_true rfl) dL_law_813 (fun x w2 h => ?_)
  obtain ⟨rfl, τ, rfl⟩ := h
  refine R_aload_n (pc := 816) dL_law_816 rfl rfl ?_
  refine R_aload_n (pc := 817) dL_law_817 rfl rfl ?_
  refine R_iload_n (pc := 818) dL_law_818 rfl rfl ?_
  refine R_iconst (pc := 819) (v := 1) dL_law_819 (by decide) ?_
  refine R_iadd (pc := 820) dL_law_820 ?_
  refine R_cv 1 (by decide) ?_
  refine R_sld (pc := 821) dL_law_821 (by rw [hL9]; unfold vp_in; decide) ?_
  refine R_aload_n (pc := 822) dL_law_822 rfl rfl ?_
  refine R_iload_n (pc := 823) dL_law_823 rfl rfl ?_
  refine R_iconst (pc := 824) (v := 2) dL_law_824 (by decide) ?_
  refine R_iadd (pc := 825) dL_law_825 ?_
  refine R_cv 2 (by decide) ?_
  refine R_sld (pc := 826) dL_law_826 (by rw [hL9]; unfold vp_in; decide) ?_
  refine R_aload_n (pc := 827) dL_law_827 rfl rfl ?_
  refine R_iload_n (pc := 828) dL_law_828 rfl rfl ?_
  refine R_iconst (pc := 829) (v := 3) dL_law_829 (by decide) ?_
  refine R_iadd (pc := 830) dL_law_830 ?_
  refine R_cv 3 (by decide) ?_
  refine R_sld (pc := 831) dL_law_831 (by rw [hL9]; unfold vp_in; decide) ?_
  refine k_L_83 (pc := 832) (fm_back _ _ _ _) rfl (c_140 _) (by decide) (Nat.le_of_ble_eq_true rfl) (Nat.le_of_ble_eq_true rfl) (Nat.le_of_ble_eq_true rfl) dL_law_832 (fun x w2 h => ?_)
  subst h
  refine R_iceq (pc := 835) 1279 dL_law_835 (by decide) (fun _ => ?_) (fun h => absurd rfl h)
  refine inc_4_3_9_a (pc := 1279) dL_law_1279 ?_
  refine R_goto (pc := 1282) 18 dL_law_1282 (by decide) ?_
  exact law_out hL9 _
set_option maxRecDepth 100000 in
set_option maxHeartbeats 40000000 in
theorem law_16 {G : vG} {l : Launch} (hL9 : gL G = 9) : R G l yL_law cL_law 4 (some .boolean) 11 600000 7302250 (fun r _ => r = some (.int 1)) 840 [some (.ref 1000200), some (.ref 0), some (.ref 140), some (.int 0)] [] (WW σF) 173 3534 := by
  refine R_aload_n (pc := 840) dL_law_840 rfl rfl ?_
  refine R_aload_n (pc := 841) dL_law_841 rfl rfl ?_
  refine R_iload_n (pc := 842) dL_law_842 rfl rfl ?_
  refine R_iconst (pc := 843) (v := 1) dL_law_843 (by decide) ?_
  refine R_iadd (pc := 844) dL_law_844 ?_
  refine R_cv 1 (by decide) ?_
  refine R_sld (pc := 845) dL_law_845 (by rw [hL9]; unfold vp_in; decide) ?_
  refine R_aload_n (pc := 846) dL_law_846 rfl rfl ?_
  refine R_iload_n (pc := 847) dL_law_847 rfl rfl ?_
  refine R_iconst (pc := 848) (v := 2) dL_law_848 (by decide) ?_
  refine R_iadd (pc := 849) dL_law_849 ?_
  refine R_cv 2 (by decide) ?_
  refine R_sld (pc := 850) dL_law_850 (by rw [hL9]; unfold vp_in; decide) ?_
  refine k_L_84 (pc := 851) (fp_later _ _) rfl (c_0 _) (by decide) (Nat.le_of_ble_eq_true rfl) (Nat.le_of_ble_eq_true rfl) (Nat.le_of_ble_eq_true rfl) dL_law_851 (fun x w2 h => ?_)
  obtain ⟨rfl, τ, rfl⟩ := h
  refine R_aload_n (pc := 854) dL_law_854 rfl rfl ?_
  refine R_aload_n (pc := 855) dL_law_855 rfl rfl ?_
  refine R_iload_n (pc := 856) dL_law_856 rfl rfl ?_
  refine R_iconst (pc := 857) (v := 1) dL_law_857 (by decide) ?_
  refine R_iadd (pc := 858) dL_law_858 ?_
  refine R_cv 1 (by decide) ?_
  refine R_sld (pc := 859) dL_law_859 (by rw [hL9]; unfold vp_in; decide) ?_
  refine R_aload_n (pc := 860) dL_law_860 rfl rfl ?_
  refine R_iload_n (pc := 861) dL_law_861 rfl rfl ?_
  refine R_iconst (pc := 862) (v := 2) dL_law_862 (by decide) ?_
  refine R_iadd (pc := 863) dL_law_863 ?_
  refine R_cv 2 (by decide) ?_
  refine R_sld (pc := 864) dL_law_864 (by rw [hL9]; unfold vp_in; decide) ?_
  refine k_L_87 (pc := 865) (fm_later _ _ _) rfl (c_140 _) (by decide) (Nat.le_of_ble_eq_true rfl) (Nat.le_of_ble_eq_true rfl) (Nat.le_of_ble_eq_true rfl) dL_law_865 (fun x w2 h => ?_)
  subst h
  refine R_iceq (pc := 868) 1279 dL_law_868 (by decide) (fun _ => ?_) (fun h => absurd rfl h)
  refine inc_4_3_9_a (pc := 1279) dL_law_1279 ?_
  refine R_goto (pc := 1282) 18 dL_law_1282 (by decide) ?_
  exact law_out hL9 _
set_option maxRecDepth 100000 in
set_option maxHeartbeats 40000000 in
theorem law_17 {G : vG} {l : Launch} (hL9 : gL G = 9) : R G l yL_law cL_law 4 (some .boolean) 11 600000 7302250 (fun r _ => r = some (.int 1)) 873 [some (.ref 1000200), some (.ref 0), some (.ref 140), some (.int 0)] [] (WW σF) 173 3534 := by
  refine R_aload_n (pc := 873) dL_law_873 rfl rfl ?_
  refine R_aload_n (pc := 874) dL_law_874 rfl rfl ?_
  refine R_iload_n (pc := 875) dL_law_875 rfl rfl ?_
  refine R_iconst (pc := 876) (v := 1) dL_law_876 (by decide) ?_
  refine R_iadd (pc := 877) dL_law_877 ?_
  refine R_cv 1 (by decide) ?_
  refine R_sld (pc := 878) dL_law_878 (by rw [hL9]; unfold vp_in; decide) ?_
  refine R_aload_n (pc := 879) dL_law_879 rfl rfl ?_
  refine R_iload_n (pc := 880) dL_law_880 rfl rfl ?_
  refine R_iconst (pc := 881) (v := 2) dL_law_881 (by decide) ?_
  refine R_iadd (pc := 882) dL_law_882 ?_
  refine R_cv 2 (by decide) ?_
  refine R_sld (pc := 883) dL_law_883 (by rw [hL9]; unfold vp_in; decide) ?_
  refine R_aload_n (pc := 884) dL_law_884 rfl rfl ?_
  refine R_iload_n (pc := 885) dL_law_885 rfl rfl ?_
  refine R_iconst (pc := 886) (v := 3) dL_law_886 (by decide) ?_
  refine R_iadd (pc := 887) dL_law_887 ?_
  refine R_cv 3 (by decide) ?_
  refine R_sld (pc := 888) dL_law_888 (by rw [hL9]; unfold vp_in; decide) ?_
  refine k_L_88 (pc := 889) (fp_span _ _ _) rfl (c_0 _) (by decide) (Nat.le_of_ble_eq_true rfl) (Nat.le_of_ble_eq_true rfl) (Nat.le_of_ble_eq_true rfl) dL_law_889 (fun x w2 h => ?_)
  obtain ⟨rfl, τ, rfl⟩ := h
  refine R_aload_n (pc := 892) dL_law_892 rfl rfl ?_
  refine R_aload_n (pc := 893) dL_law_893 rfl rfl ?_
  refine R_iload_n (pc := 894) dL_law_894 rfl rfl ?_
  refine R_iconst (pc := 895) (v := 1) dL_law_895 (by decide) ?_
  refine R_iadd (pc := 896) dL_law_896 ?_
  refine R_cv 1 (by decide) ?_
  refine R_sld (pc := 897) dL_law_897 (by rw [hL9]; unfold vp_in; decide) ?_
  refine R_aload_n (pc := 898) dL_law_898 rfl rfl ?_
  refine R_iload_n (pc := 899) dL_law_899 rfl rfl ?_
  refine R_iconst (pc := 900) (v := 2) dL_law_900 (by decide) ?_
  refine R_iadd (pc := 901) dL_law_901 ?_
  refine R_cv 2 (by decide) ?_
  refine R_sld (pc := 902) dL_law_902 (by rw [hL9]; unfold vp_in; decide) ?_
  refine R_aload_n (pc := 903) dL_law_903 rfl rfl ?_
  refine R_iload_n (pc := 904) dL_law_904 rfl rfl ?_
  refine R_iconst (pc := 905) (v := 3) dL_law_905 (by decide) ?_
  refine R_iadd (pc := 906) dL_law_906 ?_
  refine R_cv 3 (by decide) ?_
  refine R_sld (pc := 907) dL_law_907 (by rw [hL9]; unfold vp_in; decide) ?_
  refine k_L_91 (pc := 908) (fm_span _ _ _ _) rfl (c_140 _) (by decide) (Nat.le_of_ble_eq_true rfl) (Nat.le_of_ble_eq_true rfl) (Nat.le_of_ble_eq_true rfl) dL_law_908 (fun x w2 h => ?_)
  subst h
  refine R_iceq (pc := 911) 1279 dL_law_911 (by decide) (fun _ => ?_) (fun h => absurd rfl h)
  refine inc_4_3_9_a (pc := 1279) dL_law_1279 ?_
  refine R_goto (pc := 1282) 18 dL_law_1282 (by decide) ?_
  exact law_out hL9 _
set_option maxRecDepth 100000 in
set_option maxHeartbeats 40000000 in
theorem law_18 {G : vG} {l : Launch} (hL9 : gL G = 9) : R G l yL_law cL_law 4 (some .boolean) 11 600000 7302250 (fun r _ => r = some (.int 1)) 916 [some (.ref 1000200), some (.ref 0), some (.ref 140), some (.int 0)] [] (WW σF) 173 3534 := by
  refine R_aload_n (pc := 916) dL_law_916 rfl rfl ?_
  refine k_L_92 (pc := 917) (fp_quarrel) rfl (c_0 _) (by decide) (Nat.le_of_ble_eq_true rfl) (Nat.le_of_ble_eq_true rfl) (Nat.le_of_ble_eq_true rfl) dL_law_917 (fun x w2 h => ?_)
  obtain ⟨rfl, τ, rfl⟩ := h
  refine R_aload_n (pc := 920) dL_law_920 rfl rfl ?_
  refine k_L_96 (pc := 921) (fm_quarrel _) rfl (c_140 _) (by decide) (Nat.le_of_ble_eq_true rfl) (Nat.le_of_ble_eq_true rfl) (Nat.le_of_ble_eq_true rfl) dL_law_921 (fun x w2 h => ?_)
  subst h
  refine R_iceq (pc := 924) 1279 dL_law_924 (by decide) (fun _ => ?_) (fun h => absurd rfl h)
  refine inc_4_3_9_a (pc := 1279) dL_law_1279 ?_
  refine R_goto (pc := 1282) 18 dL_law_1282 (by decide) ?_
  exact law_out hL9 _
set_option maxRecDepth 100000 in
set_option maxHeartbeats 40000000 in
theorem law_19 {G : vG} {l : Launch} (hL9 : gL G = 9) : R G l yL_law cL_law 4 (some .boolean) 11 600000 7302250 (fun r _ => r = some (.int 1)) 929 [some (.ref 1000200), some (.ref 0), some (.ref 140), some (.int 0)] [] (WW σF) 173 3534 := by
  refine R_aload_n (pc := 929) dL_law_929 rfl rfl ?_
  refine k_L_97 (pc := 930) (fp_culprit) rfl (c_0 _) (by decide) (Nat.le_of_ble_eq_true rfl) (Nat.le_of_ble_eq_true rfl) (Nat.le_of_ble_eq_true rfl) dL_law_930 (fun x w2 h => ?_)
  obtain ⟨rfl, τ, rfl⟩ := h
  refine R_aload_n (pc := 933) dL_law_933 rfl rfl ?_
  refine k_L_100 (pc := 934) (fm_culprit _) rfl (c_140 _) (by decide) (Nat.le_of_ble_eq_true rfl) (Nat.le_of_ble_eq_true rfl) (Nat.le_of_ble_eq_true rfl) dL_law_934 (fun x w2 h => ?_)
  subst h
  refine R_iceq (pc := 937) 1279 dL_law_937 (by decide) (fun _ => ?_) (fun h => absurd rfl h)
  refine inc_4_3_9_a (pc := 1279) dL_law_1279 ?_
  refine R_goto (pc := 1282) 18 dL_law_1282 (by decide) ?_
  exact law_out hL9 _
set_option maxRecDepth 100000 in
set_option maxHeartbeats 40000000 in
theorem law_20 {G : vG} {l : Launch} (hL9 : gL G = 9) : R G l yL_law cL_law 4 (some .boolean) 11 600000 7302250 (fun r _ => r = some (.int 1)) 942 [some (.ref 1000200), some (.ref 0), some (.ref 140), some (.int 0)] [] (WW σF) 173 3534 := by
  refine R_aload_n (pc := 942) dL_law_942 rfl rfl ?_
  refine R_aload_n (pc := 943) dL_law_943 rfl rfl ?_
  refine R_iload_n (pc := 944) dL_law_944 rfl rfl ?_
  refine R_iconst (pc := 945) (v := 1) dL_law_945 (by decide) ?_
  refine R_iadd (pc := 946) dL_law_946 ?_
  refine R_cv 1 (by decide) ?_
  refine R_sld (pc := 947) dL_law_947 (by rw [hL9]; unfold vp_in; decide) ?_
  refine R_aload_n (pc := 948) dL_law_948 rfl rfl ?_
  refine R_iload_n (pc := 949) dL_law_949 rfl rfl ?_
  refine R_iconst (pc := 950) (v := 2) dL_law_950 (by decide) ?_
  refine R_iadd (pc := 951) dL_law_951 ?_
  refine R_cv 2 (by decide) ?_
  refine R_sld (pc := 952) dL_law_952 (by rw [hL9]; unfold vp_in; decide) ?_
  refine k_L_101 (pc := 953) (fp_landmark _ _) rfl (c_0 _) (by decide) (Nat.le_of_ble_eq_true rfl) (Nat.le_of_ble_eq_true rfl) (Nat.le_of_ble_eq_true rfl) dL_law_953 (fun x w2 h => ?_)
  obtain ⟨rfl, τ, rfl⟩ := h
  refine R_aload_n (pc := 956) dL_law_956 rfl rfl ?_
  refine R_aload_n (pc := 957) dL_law_957 rfl rfl ?_
  refine R_iload_n (pc := 958) dL_law_958 rfl rfl ?_
  refine R_iconst (pc := 959) (v := 1) dL_law_959 (by decide) ?_
  refine R_iadd (pc := 960) dL_law_960 ?_
  refine R_cv 1 (by decide) ?_
  refine R_sld (pc := 961) dL_law_961 (by rw [hL9]; unfold vp_in; decide) ?_
  refine R_aload_n (pc := 962) dL_law_962 rfl rfl ?_
  refine R_iload_n (pc := 963) dL_law_963 rfl rfl ?_
  refine R_iconst (pc := 964) (v := 2) dL_law_964 (by decide) ?_
  refine R_iadd (pc := 965) dL_law_965 ?_
  refine R_cv 2 (by decide) ?_
  refine R_sld (pc := 966) dL_law_966 (by rw [hL9]; unfold vp_in; decide) ?_
  refine k_L_104 (pc := 967) (fm_landmark _ _ _) rfl (c_140 _) (by decide) (Nat.le_of_ble_eq_true rfl) (Nat.le_of_ble_eq_true rfl) (Nat.le_of_ble_eq_true rfl) dL_law_967 (fun x w2 h => ?_)
  subst h
  refine R_iceq (pc := 970) 1279 dL_law_970 (by decide) (fun _ => ?_) (fun h => absurd rfl h)
  refine inc_4_3_9_a (pc := 1279) dL_law_1279 ?_
  refine R_goto (pc := 1282) 18 dL_law_1282 (by decide) ?_
  exact law_out hL9 _
set_option maxRecDepth 100000 in
set_option maxHeartbeats 40000000 in
theorem law_21 {G : vG} {l : Launch} (hL9 : gL G = 9) : R G l yL_law cL_law 4 (some .boolean) 11 600000 7302250 (fun r _ => r = some (.int 1)) 975 [some (.ref 1000200), some (.ref 0), some (.ref 140), some (.int 0)] [] (WW σF) 173 3534 := by
  refine R_aload_n (pc := 975) dL_law_975 rfl rfl ?_
  refine R_aload_n (pc := 976) dL_law_976 rfl rfl ?_
  refine R_iload_n (pc := 977) dL_law_977 rfl rfl ?_
  refine R_iconst (pc := 978) (v := 1) dL_law_978 (by decide) ?_
  refine R_iadd (pc := 979) dL_law_979 ?_
  refine R_cv 1 (by decide) ?_
  refine R_sld (pc := 980) dL_law_980 (by rw [hL9]; unfold vp_in; decide) ?_
  refine R_i2l (pc := 981) dL_law_981 ?_
  refine R_bipush (pc := 982) (v := 32) dL_law_982 (by decide) ?_
  refine R_lshl (pc := 984) dL_law_984 ?_
  refine R_aload_n (pc := 985) dL_law_985 rfl rfl ?_
  refine R_iload_n (pc := 986) dL_law_986 rfl rfl ?_
  refine R_iconst (pc := 987) (v := 2) dL_law_987 (by decide) ?_
  refine R_iadd (pc := 988) dL_law_988 ?_
  refine R_cv 2 (by decide) ?_
  refine R_sld (pc := 989) dL_law_989 (by rw [hL9]; unfold vp_in; decide) ?_
  refine R_i2l (pc := 990) dL_law_990 ?_
  refine R_ldc2 (pc := 991) w_1271c dL_law_991 ?_
  refine R_land (pc := 994) dL_law_994 ?_
  refine R_lor (pc := 995) dL_law_995 ?_
  refine k_L_105 (pc := 996) (fp_walls _) rfl (c_0 _) (by decide) (Nat.le_of_ble_eq_true rfl) (Nat.le_of_ble_eq_true rfl) (Nat.le_of_ble_eq_true rfl) dL_law_996 (fun x w2 h => ?_)
  obtain ⟨rfl, τ, rfl⟩ := h
  refine R_aload_n (pc := 999) dL_law_999 rfl rfl ?_
  refine R_aload_n (pc := 1000) dL_law_1000 rfl rfl ?_
  refine R_iload_n (pc := 1001) dL_law_1001 rfl rfl ?_
  refine R_iconst (pc := 1002) (v := 1) dL_law_1002 (by decide) ?_
  refine R_iadd (pc := 1003) dL_law_1003 ?_
  refine R_cv 1 (by decide) ?_
  refine R_sld (pc := 1004) dL_law_1004 (by rw [hL9]; unfold vp_in; decide) ?_
  refine R_i2l (pc := 1005) dL_law_1005 ?_
  refine R_bipush (pc := 1006) (v := 32) dL_law_1006 (by decide) ?_
  refine R_lshl (pc := 1008) dL_law_1008 ?_
  refine R_aload_n (pc := 1009) dL_law_1009 rfl rfl ?_
  refine R_iload_n (pc := 1010) dL_law_1010 rfl rfl ?_
  refine R_iconst (pc := 1011) (v := 2) dL_law_1011 (by decide) ?_
  refine R_iadd (pc := 1012) dL_law_1012 ?_
  refine R_cv 2 (by decide) ?_
  refine R_sld (pc := 1013) dL_law_1013 (by rw [hL9]; unfold vp_in; decide) ?_
  refine R_i2l (pc := 1014) dL_law_1014 ?_
  refine R_ldc2 (pc := 1015) w_1271c dL_law_1015 ?_
  refine R_land (pc := 1018) dL_law_1018 ?_
  refine R_lor (pc := 1019) dL_law_1019 ?_
  refine k_L_109 (pc := 1020) (fm_walls _ _) rfl (c_140 _) (by decide) (Nat.le_of_ble_eq_true rfl) (Nat.le_of_ble_eq_true rfl) (Nat.le_of_ble_eq_true rfl) dL_law_1020 (fun x w2 h => ?_)
  subst h
  refine R_iceq (pc := 1023) 1279 dL_law_1023 (by decide) (fun _ => ?_) (fun h => absurd rfl h)
  refine inc_4_3_9_a (pc := 1279) dL_law_1279 ?_
  refine R_goto (pc := 1282) 18 dL_law_1282 (by decide) ?_
  exact law_out hL9 _
set_option maxRecDepth 100000 in
set_option maxHeartbeats 40000000 in
theorem law_22 {G : vG} {l : Launch} (hL9 : gL G = 9) : R G l yL_law cL_law 4 (some .boolean) 11 600000 7302250 (fun r _ => r = some (.int 1)) 1028 [some (.ref 1000200), some (.ref 0), some (.ref 140), some (.int 0)] [] (WW σF) 173 3534 := by
  refine R_aload_n (pc := 1028) dL_law_1028 rfl rfl ?_
  refine R_aload_n (pc := 1029) dL_law_1029 rfl rfl ?_
  refine R_iload_n (pc := 1030) dL_law_1030 rfl rfl ?_
  refine R_iconst (pc := 1031) (v := 1) dL_law_1031 (by decide) ?_
  refine R_iadd (pc := 1032) dL_law_1032 ?_
  refine R_cv 1 (by decide) ?_
  refine R_sld (pc := 1033) dL_law_1033 (by rw [hL9]; unfold vp_in; decide) ?_
  refine R_aload_n (pc := 1034) dL_law_1034 rfl rfl ?_
  refine R_iload_n (pc := 1035) dL_law_1035 rfl rfl ?_
  refine R_iconst (pc := 1036) (v := 2) dL_law_1036 (by decide) ?_
  refine R_iadd (pc := 1037) dL_law_1037 ?_
  refine R_cv 2 (by decide) ?_
  refine R_sld (pc := 1038) dL_law_1038 (by rw [hL9]; unfold vp_in; decide) ?_
  refine k_L_110 (pc := 1039) (fp_view _ _) rfl (c_0 _) (by decide) (Nat.le_of_ble_eq_true rfl) (Nat.le_of_ble_eq_true rfl) (Nat.le_of_ble_eq_true rfl) dL_law_1039 (fun x w2 h => ?_)
  obtain ⟨rfl, τ, rfl⟩ := h
  refine R_aload_n (pc := 1042) dL_law_1042 rfl rfl ?_
  refine R_aload_n (pc := 1043) dL_law_1043 rfl rfl ?_
  refine R_iload_n (pc := 1044) dL_law_1044 rfl rfl ?_
  refine R_iconst (pc := 1045) (v := 1) dL_law_1045 (by decide) ?_
  refine R_iadd (pc := 1046) dL_law_1046 ?_
  refine R_cv 1 (by decide) ?_
  refine R_sld (pc := 1047) dL_law_1047 (by rw [hL9]; unfold vp_in; decide) ?_
  refine R_aload_n (pc := 1048) dL_law_1048 rfl rfl ?_
  refine R_iload_n (pc := 1049) dL_law_1049 rfl rfl ?_
  refine R_iconst (pc := 1050) (v := 2) dL_law_1050 (by decide) ?_
  refine R_iadd (pc := 1051) dL_law_1051 ?_
  refine R_cv 2 (by decide) ?_
  refine R_sld (pc := 1052) dL_law_1052 (by rw [hL9]; unfold vp_in; decide) ?_
  refine k_L_113 (pc := 1053) (fm_view _ _ _) rfl (c_140 _) (by decide) (Nat.le_of_ble_eq_true rfl) (Nat.le_of_ble_eq_true rfl) (Nat.le_of_ble_eq_true rfl) dL_law_1053 (fun x w2 h => ?_)
  subst h
  refine R_iceq (pc := 1056) 1279 dL_law_1056 (by decide) (fun _ => ?_) (fun h => absurd rfl h)
  refine inc_4_3_9_a (pc := 1279) dL_law_1279 ?_
  refine R_goto (pc := 1282) 18 dL_law_1282 (by decide) ?_
  exact law_out hL9 _
set_option maxRecDepth 100000 in
set_option maxHeartbeats 40000000 in
theorem law_23 {G : vG} {l : Launch} (hL9 : gL G = 9) : R G l yL_law cL_law 4 (some .boolean) 11 600000 7302250 (fun r _ => r = some (.int 1)) 1061 [some (.ref 1000200), some (.ref 0), some (.ref 140), some (.int 0)] [] (WW σF) 173 3534 := by
  refine R_aload_n (pc := 1061) dL_law_1061 rfl rfl ?_
  refine R_aload_n (pc := 1062) dL_law_1062 rfl rfl ?_
  refine R_iload_n (pc := 1063) dL_law_1063 rfl rfl ?_
  refine R_iconst (pc := 1064) (v := 1) dL_law_1064 (by decide) ?_
  refine R_iadd (pc := 1065) dL_law_1065 ?_
  refine R_cv 1 (by decide) ?_
  refine R_sld (pc := 1066) dL_law_1066 (by rw [hL9]; unfold vp_in; decide) ?_
  refine k_L_114 (pc := 1067) (fp_unview _) rfl (c_0 _) (by decide) (Nat.le_of_ble_eq_true rfl) (Nat.le_of_ble_eq_true rfl) (Nat.le_of_ble_eq_true rfl) dL_law_1067 (fun x w2 h => ?_)
  obtain ⟨rfl, τ, rfl⟩ := h
  refine R_aload_n (pc := 1070) dL_law_1070 rfl rfl ?_
  refine R_aload_n (pc := 1071) dL_law_1071 rfl rfl ?_
  refine R_iload_n (pc := 1072) dL_law_1072 rfl rfl ?_
  refine R_iconst (pc := 1073) (v := 1) dL_law_1073 (by decide) ?_
  refine R_iadd (pc := 1074) dL_law_1074 ?_
  refine R_cv 1 (by decide) ?_
  refine R_sld (pc := 1075) dL_law_1075 (by rw [hL9]; unfold vp_in; decide) ?_
  refine k_L_117 (pc := 1076) (fm_unview _ _) rfl (c_140 _) (by decide) (Nat.le_of_ble_eq_true rfl) (Nat.le_of_ble_eq_true rfl) (Nat.le_of_ble_eq_true rfl) dL_law_1076 (fun x w2 h => ?_)
  subst h
  refine R_iceq (pc := 1079) 1279 dL_law_1079 (by decide) (fun _ => ?_) (fun h => absurd rfl h)
  refine inc_4_3_9_a (pc := 1279) dL_law_1279 ?_
  refine R_goto (pc := 1282) 18 dL_law_1282 (by decide) ?_
  exact law_out hL9 _
set_option maxRecDepth 100000 in
set_option maxHeartbeats 40000000 in
theorem law_24 {G : vG} {l : Launch} (hL9 : gL G = 9) : R G l yL_law cL_law 4 (some .boolean) 11 600000 7302250 (fun r _ => r = some (.int 1)) 1084 [some (.ref 1000200), some (.ref 0), some (.ref 140), some (.int 0)] [] (WW σF) 173 3534 := by
  refine R_aload_n (pc := 1084) dL_law_1084 rfl rfl ?_
  refine R_aload_n (pc := 1085) dL_law_1085 rfl rfl ?_
  refine R_iload_n (pc := 1086) dL_law_1086 rfl rfl ?_
  refine R_iconst (pc := 1087) (v := 1) dL_law_1087 (by decide) ?_
  refine R_iadd (pc := 1088) dL_law_1088 ?_
  refine R_cv 1 (by decide) ?_
  refine R_sld (pc := 1089) dL_law_1089 (by rw [hL9]; unfold vp_in; decide) ?_
  refine k_L_118 (pc := 1090) (fp_stood _) rfl (c_0 _) (by decide) (Nat.le_of_ble_eq_true rfl) (Nat.le_of_ble_eq_true rfl) (Nat.le_of_ble_eq_true rfl) dL_law_1090 (fun x w2 h => ?_)
  obtain ⟨rfl, τ, rfl⟩ := h
  refine R_aload_n (pc := 1093) dL_law_1093 rfl rfl ?_
  refine R_aload_n (pc := 1094) dL_law_1094 rfl rfl ?_
  refine R_iload_n (pc := 1095) dL_law_1095 rfl rfl ?_
  refine R_iconst (pc := 1096) (v := 1) dL_law_1096 (by decide) ?_
  refine R_iadd (pc := 1097) dL_law_1097 ?_
  refine R_cv 1 (by decide) ?_
  refine R_sld (pc := 1098) dL_law_1098 (by rw [hL9]; unfold vp_in; decide) ?_
  refine k_L_122 (pc := 1099) (fm_stood _ _) rfl (c_140 _) (by decide) (Nat.le_of_ble_eq_true rfl) (Nat.le_of_ble_eq_true rfl) (Nat.le_of_ble_eq_true rfl) dL_law_1099 (fun x w2 h => ?_)
  subst h
  refine R_lcmp (pc := 1102) dL_law_1102 ?_
  refine R_cv 0 (by decide) ?_
  refine R_ifeq (pc := 1103) 1279 dL_law_1103 (by decide) (fun _ => ?_) (fun h => absurd (by decide) h)
  refine inc_4_3_9_a (pc := 1279) dL_law_1279 ?_
  refine R_goto (pc := 1282) 18 dL_law_1282 (by decide) ?_
  exact law_out hL9 _
set_option maxRecDepth 100000 in
set_option maxHeartbeats 40000000 in
theorem law_25 {G : vG} {l : Launch} (hL9 : gL G = 9) : R G l yL_law cL_law 4 (some .boolean) 11 600000 7302250 (fun r _ => r = some (.int 1)) 1108 [some (.ref 1000200), some (.ref 0), some (.ref 140), some (.int 0)] [] (WW σF) 173 3534 := by
  refine R_aload_n (pc := 1108) dL_law_1108 rfl rfl ?_
  refine R_aload_n (pc := 1109) dL_law_1109 rfl rfl ?_
  refine R_iload_n (pc := 1110) dL_law_1110 rfl rfl ?_
  refine R_iconst (pc := 1111) (v := 1) dL_law_1111 (by decide) ?_
  refine R_iadd (pc := 1112) dL_law_1112 ?_
  refine R_cv 1 (by decide) ?_
  refine R_sld (pc := 1113) dL_law_1113 (by rw [hL9]; unfold vp_in; decide) ?_
  refine k_L_123 (pc := 1114) (fp_together _) rfl (c_0 _) (by decide) (Nat.le_of_ble_eq_true rfl) (Nat.le_of_ble_eq_true rfl) (Nat.le_of_ble_eq_true rfl) dL_law_1114 (fun x w2 h => ?_)
  obtain ⟨rfl, τ, rfl⟩ := h
  refine R_aload_n (pc := 1117) dL_law_1117 rfl rfl ?_
  refine R_aload_n (pc := 1118) dL_law_1118 rfl rfl ?_
  refine R_iload_n (pc := 1119) dL_law_1119 rfl rfl ?_
  refine R_iconst (pc := 1120) (v := 1) dL_law_1120 (by decide) ?_
  refine R_iadd (pc := 1121) dL_law_1121 ?_
  refine R_cv 1 (by decide) ?_
  refine R_sld (pc := 1122) dL_law_1122 (by rw [hL9]; unfold vp_in; decide) ?_
  refine k_L_126 (pc := 1123) (fm_together _ _) rfl (c_140 _) (by decide) (Nat.le_of_ble_eq_true rfl) (Nat.le_of_ble_eq_true rfl) (Nat.le_of_ble_eq_true rfl) dL_law_1123 (fun x w2 h => ?_)
  subst h
  refine R_iceq (pc := 1126) 1279 dL_law_1126 (by decide) (fun _ => ?_) (fun h => absurd rfl h)
  refine inc_4_3_9_a (pc := 1279) dL_law_1279 ?_
  refine R_goto (pc := 1282) 18 dL_law_1282 (by decide) ?_
  exact law_out hL9 _
set_option maxRecDepth 100000 in
set_option maxHeartbeats 40000000 in
theorem law_26 {G : vG} {l : Launch} (hL9 : gL G = 9) : R G l yL_law cL_law 4 (some .boolean) 11 600000 7302250 (fun r _ => r = some (.int 1)) 1131 [some (.ref 1000200), some (.ref 0), some (.ref 140), some (.int 0)] [] (WW σF) 173 3534 := by
  refine R_aload_n (pc := 1131) dL_law_1131 rfl rfl ?_
  refine R_aload_n (pc := 1132) dL_law_1132 rfl rfl ?_
  refine R_iload_n (pc := 1133) dL_law_1133 rfl rfl ?_
  refine R_iconst (pc := 1134) (v := 1) dL_law_1134 (by decide) ?_
  refine R_iadd (pc := 1135) dL_law_1135 ?_
  refine R_cv 1 (by decide) ?_
  refine R_sld (pc := 1136) dL_law_1136 (by rw [hL9]; unfold vp_in; decide) ?_
  refine R_i2l (pc := 1137) dL_law_1137 ?_
  refine R_bipush (pc := 1138) (v := 32) dL_law_1138 (by decide) ?_
  refine R_lshl (pc := 1140) dL_law_1140 ?_
  refine R_aload_n (pc := 1141) dL_law_1141 rfl rfl ?_
  refine R_iload_n (pc := 1142) dL_law_1142 rfl rfl ?_
  refine R_iconst (pc := 1143) (v := 2) dL_law_1143 (by decide) ?_
  refine R_iadd (pc := 1144) dL_law_1144 ?_
  refine R_cv 2 (by decide) ?_
  refine R_sld (pc := 1145) dL_law_1145 (by rw [hL9]; unfold vp_in; decide) ?_
  refine R_i2l (pc := 1146) dL_law_1146 ?_
  refine R_ldc2 (pc := 1147) w_1271c dL_law_1147 ?_
  refine R_land (pc := 1150) dL_law_1150 ?_
  refine R_lor (pc := 1151) dL_law_1151 ?_
  refine R_aload_n (pc := 1152) dL_law_1152 rfl rfl ?_
  refine R_iload_n (pc := 1153) dL_law_1153 rfl rfl ?_
  refine R_iconst (pc := 1154) (v := 3) dL_law_1154 (by decide) ?_
  refine R_iadd (pc := 1155) dL_law_1155 ?_
  refine R_cv 3 (by decide) ?_
  refine R_sld (pc := 1156) dL_law_1156 (by rw [hL9]; unfold vp_in; decide) ?_
  refine k_L_127 (pc := 1157) (fp_write _ _) rfl (c_0 _) (by decide) (Nat.le_of_ble_eq_true rfl) (Nat.le_of_ble_eq_true rfl) (Nat.le_of_ble_eq_true rfl) dL_law_1157 (fun x w2 h => ?_)
  obtain ⟨rfl, τ, rfl⟩ := h
  refine R_aload_n (pc := 1160) dL_law_1160 rfl rfl ?_
  refine R_aload_n (pc := 1161) dL_law_1161 rfl rfl ?_
  refine R_iload_n (pc := 1162) dL_law_1162 rfl rfl ?_
  refine R_iconst (pc := 1163) (v := 1) dL_law_1163 (by decide) ?_
  refine R_iadd (pc := 1164) dL_law_1164 ?_
  refine R_cv 1 (by decide) ?_
  refine R_sld (pc := 1165) dL_law_1165 (by rw [hL9]; unfold vp_in; decide) ?_
  refine R_i2l (pc := 1166) dL_law_1166 ?_
  refine R_bipush (pc := 1167) (v := 32) dL_law_1167 (by decide) ?_
  refine R_lshl (pc := 1169) dL_law_1169 ?_
  refine R_aload_n (pc := 1170) dL_law_1170 rfl rfl ?_
  refine R_iload_n (pc := 1171) dL_law_1171 rfl rfl ?_
  refine R_iconst (pc := 1172) (v := 2) dL_law_1172 (by decide) ?_
  refine R_iadd (pc := 1173) dL_law_1173 ?_
  refine R_cv 2 (by decide) ?_
  refine R_sld (pc := 1174) dL_law_1174 (by rw [hL9]; unfold vp_in; decide) ?_
  refine R_i2l (pc := 1175) dL_law_1175 ?_
  refine R_ldc2 (pc := 1176) w_1271c dL_law_1176 ?_
  refine R_land (pc := 1179) dL_law_1179 ?_
  refine R_lor (pc := 1180) dL_law_1180 ?_
  refine R_aload_n (pc := 1181) dL_law_1181 rfl rfl ?_
  refine R_iload_n (pc := 1182) dL_law_1182 rfl rfl ?_
  refine R_iconst (pc := 1183) (v := 3) dL_law_1183 (by decide) ?_
  refine R_iadd (pc := 1184) dL_law_1184 ?_
  refine R_cv 3 (by decide) ?_
  refine R_sld (pc := 1185) dL_law_1185 (by rw [hL9]; unfold vp_in; decide) ?_
  refine k_L_131 (pc := 1186) (fm_write _ _ _) rfl (c_140 _) (by decide) (Nat.le_of_ble_eq_true rfl) (Nat.le_of_ble_eq_true rfl) (Nat.le_of_ble_eq_true rfl) dL_law_1186 (fun x w2 h => ?_)
  subst h
  refine R_iceq (pc := 1189) 1279 dL_law_1189 (by decide) (fun _ => ?_) (fun h => absurd rfl h)
  refine inc_4_3_9_a (pc := 1279) dL_law_1279 ?_
  refine R_goto (pc := 1282) 18 dL_law_1282 (by decide) ?_
  exact law_out hL9 _
set_option maxRecDepth 100000 in
set_option maxHeartbeats 40000000 in
theorem law_27 {G : vG} {l : Launch} (hL9 : gL G = 9) : R G l yL_law cL_law 4 (some .boolean) 11 600000 7302250 (fun r _ => r = some (.int 1)) 1194 [some (.ref 1000200), some (.ref 0), some (.ref 140), some (.int 0)] [] (WW σF) 173 3534 := by
  refine R_aload_n (pc := 1194) dL_law_1194 rfl rfl ?_
  refine k_L_132 (pc := 1195) (fp_erase) rfl (c_0 _) (by decide) (Nat.le_of_ble_eq_true rfl) (Nat.le_of_ble_eq_true rfl) (Nat.le_of_ble_eq_true rfl) dL_law_1195 (fun x w2 h => ?_)
  obtain ⟨rfl, τ, rfl⟩ := h
  refine R_aload_n (pc := 1198) dL_law_1198 rfl rfl ?_
  refine k_L_135 (pc := 1199) (fm_erase _) rfl (c_140 _) (by decide) (Nat.le_of_ble_eq_true rfl) (Nat.le_of_ble_eq_true rfl) (Nat.le_of_ble_eq_true rfl) dL_law_1199 (fun x w2 h => ?_)
  subst h
  refine R_iceq (pc := 1202) 1279 dL_law_1202 (by decide) (fun _ => ?_) (fun h => absurd rfl h)
  refine inc_4_3_9_a (pc := 1279) dL_law_1279 ?_
  refine R_goto (pc := 1282) 18 dL_law_1282 (by decide) ?_
  exact law_out hL9 _
set_option maxRecDepth 100000 in
set_option maxHeartbeats 40000000 in
theorem law_28 {G : vG} {l : Launch} (hL9 : gL G = 9) : R G l yL_law cL_law 4 (some .boolean) 11 600000 7302250 (fun r _ => r = some (.int 1)) 1207 [some (.ref 1000200), some (.ref 0), some (.ref 140), some (.int 0)] [] (WW σF) 173 3534 := by
  refine R_aload_n (pc := 1207) dL_law_1207 rfl rfl ?_
  refine k_L_136 (pc := 1208) (fp_fault) rfl (c_0 _) (by decide) (Nat.le_of_ble_eq_true rfl) (Nat.le_of_ble_eq_true rfl) (Nat.le_of_ble_eq_true rfl) dL_law_1208 (fun x w2 h => ?_)
  obtain ⟨rfl, τ, rfl⟩ := h
  refine R_aload_n (pc := 1211) dL_law_1211 rfl rfl ?_
  refine k_L_139 (pc := 1212) (fm_fault _) rfl (c_140 _) (by decide) (Nat.le_of_ble_eq_true rfl) (Nat.le_of_ble_eq_true rfl) (Nat.le_of_ble_eq_true rfl) dL_law_1212 (fun x w2 h => ?_)
  subst h
  refine R_iceq (pc := 1215) 1279 dL_law_1215 (by decide) (fun _ => ?_) (fun h => absurd rfl h)
  refine inc_4_3_9_a (pc := 1279) dL_law_1279 ?_
  refine R_goto (pc := 1282) 18 dL_law_1282 (by decide) ?_
  exact law_out hL9 _
set_option maxRecDepth 100000 in
set_option maxHeartbeats 40000000 in
theorem law_29 {G : vG} {l : Launch} (hL9 : gL G = 9) : R G l yL_law cL_law 4 (some .boolean) 11 600000 7302250 (fun r _ => r = some (.int 1)) 1220 [some (.ref 1000200), some (.ref 0), some (.ref 140), some (.int 0)] [] (WW σF) 173 3534 := by
  refine R_aload_n (pc := 1220) dL_law_1220 rfl rfl ?_
  refine k_L_140 (pc := 1221) (fp_catalogue) rfl (c_0 _) (by decide) (Nat.le_of_ble_eq_true rfl) (Nat.le_of_ble_eq_true rfl) (Nat.le_of_ble_eq_true rfl) dL_law_1221 (fun x w2 h => ?_)
  obtain ⟨rfl, τ, rfl⟩ := h
  refine R_aload_n (pc := 1224) dL_law_1224 rfl rfl ?_
  refine k_L_143 (pc := 1225) (fm_catalogue _) rfl (c_140 _) (by decide) (Nat.le_of_ble_eq_true rfl) (Nat.le_of_ble_eq_true rfl) (Nat.le_of_ble_eq_true rfl) dL_law_1225 (fun x w2 h => ?_)
  subst h
  refine R_iceq (pc := 1228) 1279 dL_law_1228 (by decide) (fun _ => ?_) (fun h => absurd rfl h)
  refine inc_4_3_9_a (pc := 1279) dL_law_1279 ?_
  refine R_goto (pc := 1282) 18 dL_law_1282 (by decide) ?_
  exact law_out hL9 _
set_option maxRecDepth 100000 in
set_option maxHeartbeats 40000000 in
theorem law_30 {G : vG} {l : Launch} (hL9 : gL G = 9) : R G l yL_law cL_law 4 (some .boolean) 11 600000 7302250 (fun r _ => r = some (.int 1)) 1233 [some (.ref 1000200), some (.ref 0), some (.ref 140), some (.int 0)] [] (WW σF) 173 3534 := by
  refine R_aload_n (pc := 1233) dL_law_1233 rfl rfl ?_
  refine R_aload_n (pc := 1234) dL_law_1234 rfl rfl ?_
  refine R_iload_n (pc := 1235) dL_law_1235 rfl rfl ?_
  refine R_iconst (pc := 1236) (v := 1) dL_law_1236 (by decide) ?_
  refine R_iadd (pc := 1237) dL_law_1237 ?_
  refine R_cv 1 (by decide) ?_
  refine R_sld (pc := 1238) dL_law_1238 (by rw [hL9]; unfold vp_in; decide) ?_
  refine k_L_144 (pc := 1239) (fp_breaks _) rfl (c_0 _) (by decide) (Nat.le_of_ble_eq_true rfl) (Nat.le_of_ble_eq_true rfl) (Nat.le_of_ble_eq_true rfl) dL_law_1239 (fun x w2 h => ?_)
  obtain ⟨rfl, τ, rfl⟩ := h
  refine R_aload_n (pc := 1242) dL_law_1242 rfl rfl ?_
  refine R_aload_n (pc := 1243) dL_law_1243 rfl rfl ?_
  refine R_iload_n (pc := 1244) dL_law_1244 rfl rfl ?_
  refine R_iconst (pc := 1245) (v := 1) dL_law_1245 (by decide) ?_
  refine R_iadd (pc := 1246) dL_law_1246 ?_
  refine R_cv 1 (by decide) ?_
  refine R_sld (pc := 1247) dL_law_1247 (by rw [hL9]; unfold vp_in; decide) ?_
  refine k_L_147 (pc := 1248) (fm_breaks _ _) rfl (c_140 _) (by decide) (Nat.le_of_ble_eq_true rfl) (Nat.le_of_ble_eq_true rfl) (Nat.le_of_ble_eq_true rfl) dL_law_1248 (fun x w2 h => ?_)
  subst h
  refine R_iceq (pc := 1251) 1279 dL_law_1251 (by decide) (fun _ => ?_) (fun h => absurd rfl h)
  refine inc_4_3_9_a (pc := 1279) dL_law_1279 ?_
  refine R_goto (pc := 1282) 18 dL_law_1282 (by decide) ?_
  exact law_out hL9 _
set_option maxRecDepth 100000 in
set_option maxHeartbeats 40000000 in
theorem law_31 {G : vG} {l : Launch} (hL9 : gL G = 9) : R G l yL_law cL_law 4 (some .boolean) 11 600000 7302250 (fun r _ => r = some (.int 1)) 1256 [some (.ref 1000200), some (.ref 0), some (.ref 140), some (.int 0)] [] (WW σF) 173 3534 := by
  refine R_aload_n (pc := 1256) dL_law_1256 rfl rfl ?_
  refine R_aload_n (pc := 1257) dL_law_1257 rfl rfl ?_
  refine R_iload_n (pc := 1258) dL_law_1258 rfl rfl ?_
  refine R_iconst (pc := 1259) (v := 1) dL_law_1259 (by decide) ?_
  refine R_iadd (pc := 1260) dL_law_1260 ?_
  refine R_cv 1 (by decide) ?_
  refine R_sld (pc := 1261) dL_law_1261 (by rw [hL9]; unfold vp_in; decide) ?_
  refine k_L_148 (pc := 1262) (fp_count _) rfl (c_0 _) (by decide) (Nat.le_of_ble_eq_true rfl) (Nat.le_of_ble_eq_true rfl) (Nat.le_of_ble_eq_true rfl) dL_law_1262 (fun x w2 h => ?_)
  obtain ⟨rfl, τ, rfl⟩ := h
  refine R_aload_n (pc := 1265) dL_law_1265 rfl rfl ?_
  refine R_aload_n (pc := 1266) dL_law_1266 rfl rfl ?_
  refine R_iload_n (pc := 1267) dL_law_1267 rfl rfl ?_
  refine R_iconst (pc := 1268) (v := 1) dL_law_1268 (by decide) ?_
  refine R_iadd (pc := 1269) dL_law_1269 ?_
  refine R_cv 1 (by decide) ?_
  refine R_sld (pc := 1270) dL_law_1270 (by rw [hL9]; unfold vp_in; decide) ?_
  refine k_L_151 (pc := 1271) (fm_count _ _) rfl (c_140 _) (by decide) (Nat.le_of_ble_eq_true rfl) (Nat.le_of_ble_eq_true rfl) (Nat.le_of_ble_eq_true rfl) dL_law_1271 (fun x w2 h => ?_)
  subst h
  refine R_iceq (pc := 1274) 1279 dL_law_1274 (by decide) (fun _ => ?_) (fun h => absurd rfl h)
  refine inc_4_3_9_a (pc := 1279) dL_law_1279 ?_
  refine R_goto (pc := 1282) 18 dL_law_1282 (by decide) ?_
  exact law_out hL9 _
set_option maxRecDepth 100000 in
set_option maxHeartbeats 40000000 in
theorem law_body {G : vG} {l : Launch} (hL9 : gL G = 9) : R G l yL_law cL_law 4 (some .boolean) 11 600000 7302250 (fun r _ => r = some (.int 1)) 27 [some (.ref 1000200), some (.ref 0), some (.ref 140), some (.int 0)] [] (WW σF) 173 3534 := by
  refine R_aload_n (pc := 27) dL_law_27 rfl rfl ?_
  refine R_iload_n (pc := 28) dL_law_28 rfl rfl ?_
  refine R_sld (pc := 29) dL_law_29 (by rw [hL9]; unfold vp_in; decide) ?_
  refine R_bipush (pc := 30) (v := 31) dL_law_30 (by decide) ?_
  refine R_iand (pc := 32) dL_law_32 ?_
  obtain ⟨j, hj, e⟩ := and31 (gX G (Int32.toNatClampNeg 0))
  refine R_cv (nI j) e ?_
  clear e
  rcases (show j = 0 ∨ j = 1 ∨ j = 2 ∨ j = 3 ∨ j = 4 ∨ j = 5 ∨ j = 6 ∨ j = 7 ∨ j = 8 ∨ j = 9 ∨ j = 10 ∨ j = 11 ∨ j = 12 ∨ j = 13 ∨ j = 14 ∨ j = 15 ∨ j = 16 ∨ j = 17 ∨ j = 18 ∨ j = 19 ∨ j = 20 ∨ j = 21 ∨ j = 22 ∨ j = 23 ∨ j = 24 ∨ j = 25 ∨ j = 26 ∨ j = 27 ∨ j = 28 ∨ j = 29 ∨ j = 30 ∨ j = 31 by omega) with rfl | rfl | rfl | rfl | rfl | rfl | rfl | rfl | rfl | rfl | rfl | rfl | rfl | rfl | rfl | rfl | rfl | rfl | rfl | rfl | rfl | rfl | rfl | rfl | rfl | rfl | rfl | rfl | rfl | rfl | rfl | rfl
  · exact R_tin (pc := 33) 176 dL_law_33 (by decide) (by decide) rfl (by decide) (law_0 hL9)
  · exact R_tin (pc := 33) 295 dL_law_33 (by decide) (by decide) rfl (by decide) (law_1 hL9)
  · exact R_tin (pc := 33) 368 dL_law_33 (by decide) (by decide) rfl (by decide) (law_2 hL9)
  · exact R_tin (pc := 33) 391 dL_law_33 (by decide) (by decide) rfl (by decide) (law_3 hL9)
  · exact R_tin (pc := 33) 424 dL_law_33 (by decide) (by decide) rfl (by decide) (law_4 hL9)
  · exact R_tin (pc := 33) 457 dL_law_33 (by decide) (by decide) rfl (by decide) (law_5 hL9)
  · exact R_tin (pc := 33) 480 dL_law_33 (by decide) (by decide) rfl (by decide) (law_6 hL9)
  · exact R_tin (pc := 33) 513 dL_law_33 (by decide) (by decide) rfl (by decide) (law_7 hL9)
  · exact R_tin (pc := 33) 546 dL_law_33 (by decide) (by decide) rfl (by decide) (law_8 hL9)
  · exact R_tin (pc := 33) 579 dL_law_33 (by decide) (by decide) rfl (by decide) (law_9 hL9)
  · exact R_tin (pc := 33) 612 dL_law_33 (by decide) (by decide) rfl (by decide) (law_10 hL9)
  · exact R_tin (pc := 33) 645 dL_law_33 (by decide) (by decide) rfl (by decide) (law_11 hL9)
  · exact R_tin (pc := 33) 668 dL_law_33 (by decide) (by decide) rfl (by decide) (law_12 hL9)
  · exact R_tin (pc := 33) 711 dL_law_33 (by decide) (by decide) rfl (by decide) (law_13 hL9)
  · exact R_tin (pc := 33) 754 dL_law_33 (by decide) (by decide) rfl (by decide) (law_14 hL9)
  · exact R_tin (pc := 33) 797 dL_law_33 (by decide) (by decide) rfl (by decide) (law_15 hL9)
  · exact R_tin (pc := 33) 840 dL_law_33 (by decide) (by decide) rfl (by decide) (law_16 hL9)
  · exact R_tin (pc := 33) 873 dL_law_33 (by decide) (by decide) rfl (by decide) (law_17 hL9)
  · exact R_tin (pc := 33) 916 dL_law_33 (by decide) (by decide) rfl (by decide) (law_18 hL9)
  · exact R_tin (pc := 33) 929 dL_law_33 (by decide) (by decide) rfl (by decide) (law_19 hL9)
  · exact R_tin (pc := 33) 942 dL_law_33 (by decide) (by decide) rfl (by decide) (law_20 hL9)
  · exact R_tin (pc := 33) 975 dL_law_33 (by decide) (by decide) rfl (by decide) (law_21 hL9)
  · exact R_tin (pc := 33) 1028 dL_law_33 (by decide) (by decide) rfl (by decide) (law_22 hL9)
  · exact R_tin (pc := 33) 1061 dL_law_33 (by decide) (by decide) rfl (by decide) (law_23 hL9)
  · exact R_tin (pc := 33) 1084 dL_law_33 (by decide) (by decide) rfl (by decide) (law_24 hL9)
  · exact R_tin (pc := 33) 1108 dL_law_33 (by decide) (by decide) rfl (by decide) (law_25 hL9)
  · exact R_tin (pc := 33) 1131 dL_law_33 (by decide) (by decide) rfl (by decide) (law_26 hL9)
  · exact R_tin (pc := 33) 1194 dL_law_33 (by decide) (by decide) rfl (by decide) (law_27 hL9)
  · exact R_tin (pc := 33) 1207 dL_law_33 (by decide) (by decide) rfl (by decide) (law_28 hL9)
  · exact R_tin (pc := 33) 1220 dL_law_33 (by decide) (by decide) rfl (by decide) (law_29 hL9)
  · exact R_tin (pc := 33) 1233 dL_law_33 (by decide) (by decide) rfl (by decide) (law_30 hL9)
  · exact R_tin (pc := 33) 1256 dL_law_33 (by decide) (by decide) rfl (by decide) (law_31 hL9)
set_option maxRecDepth 100000 in
set_option maxHeartbeats 40000000 in
theorem law_head {G : vG} {l : Launch} (hL : gL G ≤ 9) : R G l yL_law cL_law 4 (some .boolean) 11 600000 7302250 (fun r _ => r = some (.int 1)) 18 [some (.ref 1000200), some (.ref 0), some (.ref 140), some (.int 0)] [] (WW σF) 173 3534 := by
  refine R_iload_n (pc := 18) dL_law_18 rfl rfl ?_
  refine R_aload_n (pc := 19) dL_law_19 rfl rfl ?_
  refine R_slen (pc := 20) dL_law_20 ?_
  refine R_bipush (pc := 21) (v := 9) dL_law_21 (by decide) ?_
  refine R_isub (pc := 23) dL_law_23 ?_
  refine R_icgt (pc := 24) 1285 dL_law_24 (by decide) (fun _ => ?_) (fun h => ?_)
  · refine R_iconst (pc := 1285) (v := 1) dL_law_1285 (by decide) ?_
    exact R_iret (pc := 1286) dL_law_1286 rfl rfl (Nat.le_of_ble_eq_true rfl) (Nat.le_of_ble_eq_true rfl) rfl
  · have hL9 : gL G = 9 := by
      rcases (show gL G = 0 ∨ gL G = 1 ∨ gL G = 2 ∨ gL G = 3 ∨ gL G = 4 ∨ gL G = 5 ∨ gL G = 6 ∨ gL G = 7 ∨ gL G = 8 ∨ gL G = 9 by omega) with e | e | e | e | e | e | e | e | e | e
      all_goals first | exact e | (rw [e] at h; exact absurd (by decide) h)
    exact law_body hL9
set_option maxRecDepth 100000 in
set_option maxHeartbeats 40000000 in
theorem law_start {G : vG} {l : Launch} (hL : gL G ≤ 9) : R G l yL_law cL_law 4 (some .boolean) 11 600000 7302250 (fun r _ => r = some (.int 1)) 0 [some (.ref 1000200), none, none, none] [] [] 0 0 := by
  refine C_new (pc := 0) (ci := 8) (C := RX8) (T := TX8) (N := 10) (ty := tyX8) (fs := [.null, .null, .null, .null, .null, .null, .null, .null, .null, .int 0]) 0 rfl rfl inX8 tyX8_ok wcl_18 wins_X8 wini_X8 (fun j hj => by rcases (show j = 0 ∨ j = 1 ∨ j = 2 ∨ j = 3 ∨ j = 4 ∨ j = 5 ∨ j = 6 ∨ j = 7 ∨ j = 8 ∨ j = 9 by omega) with rfl | rfl | rfl | rfl | rfl | rfl | rfl | rfl | rfl | rfl <;> rfl) rfl (by decide) (by decide) (by decide) dL_law_0 ?_
  refine R_dup (pc := 3) dL_law_3 rfl ?_
  refine R_weq KP_X8_init_0 rfl ?_
  refine k_L_9 (pc := 4) sp_X8_init_0 rfl (by decide) (Nat.le_of_ble_eq_true rfl) (Nat.le_of_ble_eq_true rfl) (by decide) dL_law_4 (fun w2 h => ?_)
  subst h
  refine st_4_1_a_a (pc := 7) dL_law_7 ?_
  refine C_new (pc := 8) (ci := 9) (C := RX9) (T := TX9) (N := 49) (ty := tyX9) (fs := [.int 0, .null, .null, .null, .null, .null, .null, .null, .null, .null, .null, .int 0, .int 0, .int 0, .int 0, .null, .null, .null, .null, .null, .null, .null, .null, .null, .null, .int 0, .null, .null, .null, .null, .null, .null, .int 0, .null, .long 0, .null, .null, .int 0, .null, .int 0, .int 0, .long 0, .int 0, .int 0, .int 0, .int 0, .null, .int 0, .null]) 140 rfl rfl inX9 tyX9_ok wcl_828 wins_X9 wini_X9 (fun j hj => by rcases (show j = 0 ∨ j = 1 ∨ j = 2 ∨ j = 3 ∨ j = 4 ∨ j = 5 ∨ j = 6 ∨ j = 7 ∨ j = 8 ∨ j = 9 ∨ j = 10 ∨ j = 11 ∨ j = 12 ∨ j = 13 ∨ j = 14 ∨ j = 15 ∨ j = 16 ∨ j = 17 ∨ j = 18 ∨ j = 19 ∨ j = 20 ∨ j = 21 ∨ j = 22 ∨ j = 23 ∨ j = 24 ∨ j = 25 ∨ j = 26 ∨ j = 27 ∨ j = 28 ∨ j = 29 ∨ j = 30 ∨ j = 31 ∨ j = 32 ∨ j = 33 ∨ j = 34 ∨ j = 35 ∨ j = 36 ∨ j = 37 ∨ j = 38 ∨ j = 39 ∨ j = 40 ∨ j = 41 ∨ j = 42 ∨ j = 43 ∨ j = 44 ∨ j = 45 ∨ j = 46 ∨ j = 47 ∨ j = 48 by omega) with rfl | rfl | rfl | rfl | rfl | rfl | rfl | rfl | rfl | rfl | rfl | rfl | rfl | rfl | rfl | rfl | rfl | rfl | rfl | rfl | rfl | rfl | rfl | rfl | rfl | rfl | rfl | rfl | rfl | rfl | rfl | rfl | rfl | rfl | rfl | rfl | rfl | rfl | rfl | rfl | rfl | rfl | rfl | rfl | rfl | rfl | rfl | rfl | rfl <;> rfl) rfl (by decide) (Nat.le_of_ble_eq_true rfl) (Nat.le_of_ble_eq_true rfl) dL_law_8 ?_
  refine R_dup (pc := 11) dL_law_11 rfl ?_
  refine R_weq KP_X9_init_140 rfl ?_
  refine k_L_12 (pc := 12) sp_X9_init_140 rfl (by decide) (Nat.le_of_ble_eq_true rfl) (Nat.le_of_ble_eq_true rfl) (by decide) dL_law_12 (fun w2 h => ?_)
  subst h
  refine st_4_2_a_a (pc := 15) dL_law_15 ?_
  refine R_iconst (pc := 16) (v := 0) dL_law_16 (by decide) ?_
  refine st_4_3_i_a (pc := 17) dL_law_17 ?_
  refine R_weq (WW σF) KQ_WW ?_
  exact law_head hL
