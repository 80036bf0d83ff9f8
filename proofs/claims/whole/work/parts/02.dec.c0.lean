theorem dd_L_law_0 : decode (zc mm_L_law) 0 = .ok (.new 7, 3) := by decide +kernel
theorem dd_L_law_3 : decode (zc mm_L_law) 3 = .ok (.dup, 1) := by decide +kernel
theorem dd_L_law_4 : decode (zc mm_L_law) 4 = .ok (.invokespecial 9, 3) := by decide +kernel
theorem dd_L_law_7 : decode (zc mm_L_law) 7 = .ok (.astore_n 1, 1) := by decide +kernel
theorem dd_L_law_8 : decode (zc mm_L_law) 8 = .ok (.new 10, 3) := by decide +kernel
theorem dd_L_law_11 : decode (zc mm_L_law) 11 = .ok (.dup, 1) := by decide +kernel
theorem dd_L_law_12 : decode (zc mm_L_law) 12 = .ok (.invokespecial 12, 3) := by decide +kernel
theorem dd_L_law_15 : decode (zc mm_L_law) 15 = .ok (.astore_n 2, 1) := by decide +kernel
theorem dd_L_law_16 : decode (zc mm_L_law) 16 = .ok (.iconst 0, 1) := by decide +kernel
theorem dd_L_law_17 : decode (zc mm_L_law) 17 = .ok (.istore_n 3, 1) := by decide +kernel
theorem dd_L_law_18 : decode (zc mm_L_law) 18 = .ok (.iload_n 3, 1) := by decide +kernel
theorem dd_L_law_19 : decode (zc mm_L_law) 19 = .ok (.aload_n 0, 1) := by decide +kernel
theorem dd_L_law_20 : decode (zc mm_L_law) 20 = .ok (.arraylength, 1) := by decide +kernel
theorem dd_L_law_21 : decode (zc mm_L_law) 21 = .ok (.bipush 8, 2) := by decide +kernel
theorem dd_L_law_23 : decode (zc mm_L_law) 23 = .ok (.isub, 1) := by decide +kernel
theorem dd_L_law_24 : decode (zc mm_L_law) 24 = .ok (.if_icmp .gt 1771, 3) := by decide +kernel
theorem dd_L_law_27 : decode (zc mm_L_law) 27 = .ok (.aload_n 0, 1) := by decide +kernel
theorem dd_L_law_28 : decode (zc mm_L_law) 28 = .ok (.iload_n 3, 1) := by decide +kernel
theorem dd_L_law_29 : decode (zc mm_L_law) 29 = .ok (.iaload, 1) := by decide +kernel
theorem dd_L_law_30 : decode (zc mm_L_law) 30 = .ok (.bipush 63, 2) := by decide +kernel
theorem dd_L_law_32 : decode (zc mm_L_law) 32 = .ok (.iand, 1) := by decide +kernel
theorem dd_L_law_33 : decode (zc mm_L_law) 33 = .ok (.tableswitch 1756 0 38 #[171, 194, 207, 220, 243, 286, 339, 382, 415, 458, 501, 554, 641, 704, 757, 820, 883, 936, 989, 1032, 1075, 1118, 1161, 1194, 1227, 1250, 1293, 1326, 1359, 1393, 1446, 1479, 1522, 1556, 1631, 1694, 1707, 1720, 1733], 171) := by decide +kernel
theorem dd_L_law_204 : decode (zc mm_L_law) 204 = .ok (.aload_n 1, 1) := by decide +kernel
theorem dd_L_law_205 : decode (zc mm_L_law) 205 = .ok (.aload_n 0, 1) := by decide +kernel
theorem dd_L_law_206 : decode (zc mm_L_law) 206 = .ok (.iload_n 3, 1) := by decide +kernel
theorem dd_L_law_207 : decode (zc mm_L_law) 207 = .ok (.iconst 1, 1) := by decide +kernel
theorem dd_L_law_208 : decode (zc mm_L_law) 208 = .ok (.iadd, 1) := by decide +kernel
theorem dd_L_law_209 : decode (zc mm_L_law) 209 = .ok (.iaload, 1) := by decide +kernel
theorem dd_L_law_210 : decode (zc mm_L_law) 210 = .ok (.invokevirtual 13, 3) := by decide +kernel
theorem dd_L_law_213 : decode (zc mm_L_law) 213 = .ok (.aload_n 2, 1) := by decide +kernel
theorem dd_L_law_214 : decode (zc mm_L_law) 214 = .ok (.aload_n 0, 1) := by decide +kernel
theorem dd_L_law_215 : decode (zc mm_L_law) 215 = .ok (.iload_n 3, 1) := by decide +kernel
theorem dd_L_law_216 : decode (zc mm_L_law) 216 = .ok (.iconst 1, 1) := by decide +kernel
theorem dd_L_law_217 : decode (zc mm_L_law) 217 = .ok (.iadd, 1) := by decide +kernel
theorem dd_L_law_218 : decode (zc mm_L_law) 218 = .ok (.iaload, 1) := by decide +kernel
theorem dd_L_law_219 : decode (zc mm_L_law) 219 = .ok (.invokevirtual 17, 3) := by decide +kernel
theorem dd_L_law_222 : decode (zc mm_L_law) 222 = .ok (.if_icmp .eq 1567, 3) := by decide +kernel
theorem dd_L_law_225 : decode (zc mm_L_law) 225 = .ok (.iconst 0, 1) := by decide +kernel
theorem dd_L_law_226 : decode (zc mm_L_law) 226 = .ok (.ireturn, 1) := by decide +kernel
theorem dd_L_law_227 : decode (zc mm_L_law) 227 = .ok (.aload_n 1, 1) := by decide +kernel
theorem dd_L_law_228 : decode (zc mm_L_law) 228 = .ok (.invokevirtual 18, 3) := by decide +kernel
theorem dd_L_law_231 : decode (zc mm_L_law) 231 = .ok (.aload_n 2, 1) := by decide +kernel
theorem dd_L_law_232 : decode (zc mm_L_law) 232 = .ok (.invokevirtual 22, 3) := by decide +kernel
theorem dd_L_law_235 : decode (zc mm_L_law) 235 = .ok (.if_icmp .eq 1554, 3) := by decide +kernel
theorem dd_L_law_238 : decode (zc mm_L_law) 238 = .ok (.iconst 0, 1) := by decide +kernel
theorem dd_L_law_239 : decode (zc mm_L_law) 239 = .ok (.ireturn, 1) := by decide +kernel
theorem dd_L_law_240 : decode (zc mm_L_law) 240 = .ok (.aload_n 1, 1) := by decide +kernel
theorem dd_L_law_241 : decode (zc mm_L_law) 241 = .ok (.invokevirtual 23, 3) := by decide +kernel
theorem dd_L_law_244 : decode (zc mm_L_law) 244 = .ok (.aload_n 2, 1) := by decide +kernel
theorem dd_L_law_245 : decode (zc mm_L_law) 245 = .ok (.invokevirtual 26, 3) := by decide +kernel
theorem dd_L_law_248 : decode (zc mm_L_law) 248 = .ok (.if_icmp .eq 1541, 3) := by decide +kernel
theorem dd_L_law_251 : decode (zc mm_L_law) 251 = .ok (.iconst 0, 1) := by decide +kernel
theorem dd_L_law_252 : decode (zc mm_L_law) 252 = .ok (.ireturn, 1) := by decide +kernel
theorem dd_L_law_253 : decode (zc mm_L_law) 253 = .ok (.aload_n 1, 1) := by decide +kernel
theorem dd_L_law_254 : decode (zc mm_L_law) 254 = .ok (.aload_n 0, 1) := by decide +kernel
theorem dd_L_law_255 : decode (zc mm_L_law) 255 = .ok (.iload_n 3, 1) := by decide +kernel
theorem dd_L_law_256 : decode (zc mm_L_law) 256 = .ok (.iconst 1, 1) := by decide +kernel
theorem dd_L_law_257 : decode (zc mm_L_law) 257 = .ok (.iadd, 1) := by decide +kernel
theorem dd_L_law_258 : decode (zc mm_L_law) 258 = .ok (.iaload, 1) := by decide +kernel
theorem dd_L_law_259 : decode (zc mm_L_law) 259 = .ok (.invokevirtual 27, 3) := by decide +kernel
theorem dd_L_law_262 : decode (zc mm_L_law) 262 = .ok (.aload_n 2, 1) := by decide +kernel
theorem dd_L_law_263 : decode (zc mm_L_law) 263 = .ok (.aload_n 0, 1) := by decide +kernel
theorem dd_L_law_264 : decode (zc mm_L_law) 264 = .ok (.iload_n 3, 1) := by decide +kernel
theorem dd_L_law_265 : decode (zc mm_L_law) 265 = .ok (.iconst 1, 1) := by decide +kernel
theorem dd_L_law_266 : decode (zc mm_L_law) 266 = .ok (.iadd, 1) := by decide +kernel
theorem dd_L_law_267 : decode (zc mm_L_law) 267 = .ok (.iaload, 1) := by decide +kernel
theorem dd_L_law_268 : decode (zc mm_L_law) 268 = .ok (.invokevirtual 30, 3) := by decide +kernel
theorem dd_L_law_271 : decode (zc mm_L_law) 271 = .ok (.if_icmp .eq 1518, 3) := by decide +kernel
theorem dd_L_law_274 : decode (zc mm_L_law) 274 = .ok (.iconst 0, 1) := by decide +kernel
theorem dd_L_law_275 : decode (zc mm_L_law) 275 = .ok (.ireturn, 1) := by decide +kernel
theorem dd_L_law_276 : decode (zc mm_L_law) 276 = .ok (.aload_n 1, 1) := by decide +kernel
theorem dd_L_law_277 : decode (zc mm_L_law) 277 = .ok (.aload_n 0, 1) := by decide +kernel
theorem dd_L_law_278 : decode (zc mm_L_law) 278 = .ok (.iload_n 3, 1) := by decide +kernel
theorem dd_L_law_279 : decode (zc mm_L_law) 279 = .ok (.iconst 1, 1) := by decide +kernel
theorem dd_L_law_280 : decode (zc mm_L_law) 280 = .ok (.iadd, 1) := by decide +kernel
theorem dd_L_law_281 : decode (zc mm_L_law) 281 = .ok (.iaload, 1) := by decide +kernel
theorem dd_L_law_282 : decode (zc mm_L_law) 282 = .ok (.aload_n 0, 1) := by decide +kernel
theorem dd_L_law_283 : decode (zc mm_L_law) 283 = .ok (.iload_n 3, 1) := by decide +kernel
theorem dd_L_law_284 : decode (zc mm_L_law) 284 = .ok (.iconst 2, 1) := by decide +kernel
theorem dd_L_law_285 : decode (zc mm_L_law) 285 = .ok (.iadd, 1) := by decide +kernel
theorem dd_L_law_286 : decode (zc mm_L_law) 286 = .ok (.iaload, 1) := by decide +kernel
theorem dd_L_law_287 : decode (zc mm_L_law) 287 = .ok (.aload_n 0, 1) := by decide +kernel
theorem dd_L_law_288 : decode (zc mm_L_law) 288 = .ok (.iload_n 3, 1) := by decide +kernel
theorem dd_L_law_289 : decode (zc mm_L_law) 289 = .ok (.iconst 3, 1) := by decide +kernel
theorem dd_L_law_290 : decode (zc mm_L_law) 290 = .ok (.iadd, 1) := by decide +kernel
theorem dd_L_law_291 : decode (zc mm_L_law) 291 = .ok (.iaload, 1) := by decide +kernel
theorem dd_L_law_292 : decode (zc mm_L_law) 292 = .ok (.invokevirtual 31, 3) := by decide +kernel
theorem dd_L_law_295 : decode (zc mm_L_law) 295 = .ok (.aload_n 2, 1) := by decide +kernel
theorem dd_L_law_296 : decode (zc mm_L_law) 296 = .ok (.aload_n 0, 1) := by decide +kernel
theorem dd_L_law_297 : decode (zc mm_L_law) 297 = .ok (.iload_n 3, 1) := by decide +kernel
theorem dd_L_law_298 : decode (zc mm_L_law) 298 = .ok (.iconst 1, 1) := by decide +kernel
theorem dd_L_law_299 : decode (zc mm_L_law) 299 = .ok (.iadd, 1) := by decide +kernel
theorem dd_L_law_300 : decode (zc mm_L_law) 300 = .ok (.iaload, 1) := by decide +kernel
theorem dd_L_law_301 : decode (zc mm_L_law) 301 = .ok (.aload_n 0, 1) := by decide +kernel
theorem dd_L_law_302 : decode (zc mm_L_law) 302 = .ok (.iload_n 3, 1) := by decide +kernel
theorem dd_L_law_303 : decode (zc mm_L_law) 303 = .ok (.iconst 2, 1) := by decide +kernel
theorem dd_L_law_304 : decode (zc mm_L_law) 304 = .ok (.iadd, 1) := by decide +kernel
theorem dd_L_law_305 : decode (zc mm_L_law) 305 = .ok (.iaload, 1) := by decide +kernel
theorem dd_L_law_306 : decode (zc mm_L_law) 306 = .ok (.aload_n 0, 1) := by decide +kernel
theorem dd_L_law_307 : decode (zc mm_L_law) 307 = .ok (.iload_n 3, 1) := by decide +kernel
theorem dd_L_law_308 : decode (zc mm_L_law) 308 = .ok (.iconst 3, 1) := by decide +kernel
theorem dd_L_law_309 : decode (zc mm_L_law) 309 = .ok (.iadd, 1) := by decide +kernel
theorem dd_L_law_310 : decode (zc mm_L_law) 310 = .ok (.iaload, 1) := by decide +kernel
theorem dd_L_law_311 : decode (zc mm_L_law) 311 = .ok (.invokevirtual 35, 3) := by decide +kernel
theorem dd_L_law_314 : decode (zc mm_L_law) 314 = .ok (.if_icmp .eq 1475, 3) := by decide +kernel
theorem dd_L_law_317 : decode (zc mm_L_law) 317 = .ok (.iconst 0, 1) := by decide +kernel
theorem dd_L_law_318 : decode (zc mm_L_law) 318 = .ok (.ireturn, 1) := by decide +kernel
theorem dd_L_law_319 : decode (zc mm_L_law) 319 = .ok (.aload_n 1, 1) := by decide +kernel
theorem dd_L_law_320 : decode (zc mm_L_law) 320 = .ok (.aload_n 0, 1) := by decide +kernel
theorem dd_L_law_321 : decode (zc mm_L_law) 321 = .ok (.iload_n 3, 1) := by decide +kernel
theorem dd_L_law_322 : decode (zc mm_L_law) 322 = .ok (.iconst 1, 1) := by decide +kernel
theorem dd_L_law_323 : decode (zc mm_L_law) 323 = .ok (.iadd, 1) := by decide +kernel
theorem dd_L_law_324 : decode (zc mm_L_law) 324 = .ok (.iaload, 1) := by decide +kernel
theorem dd_L_law_325 : decode (zc mm_L_law) 325 = .ok (.aload_n 0, 1) := by decide +kernel
theorem dd_L_law_326 : decode (zc mm_L_law) 326 = .ok (.iload_n 3, 1) := by decide +kernel
theorem dd_L_law_327 : decode (zc mm_L_law) 327 = .ok (.iconst 2, 1) := by decide +kernel
theorem dd_L_law_328 : decode (zc mm_L_law) 328 = .ok (.iadd, 1) := by decide +kernel
theorem dd_L_law_329 : decode (zc mm_L_law) 329 = .ok (.iaload, 1) := by decide +kernel
theorem dd_L_law_330 : decode (zc mm_L_law) 330 = .ok (.aload_n 0, 1) := by decide +kernel
theorem dd_L_law_331 : decode (zc mm_L_law) 331 = .ok (.iload_n 3, 1) := by decide +kernel
theorem dd_L_law_332 : decode (zc mm_L_law) 332 = .ok (.iconst 3, 1) := by decide +kernel
theorem dd_L_law_333 : decode (zc mm_L_law) 333 = .ok (.iadd, 1) := by decide +kernel
theorem dd_L_law_334 : decode (zc mm_L_law) 334 = .ok (.iaload, 1) := by decide +kernel
theorem dd_L_law_335 : decode (zc mm_L_law) 335 = .ok (.aload_n 0, 1) := by decide +kernel
theorem dd_L_law_336 : decode (zc mm_L_law) 336 = .ok (.iload_n 3, 1) := by decide +kernel
theorem dd_L_law_337 : decode (zc mm_L_law) 337 = .ok (.iconst 4, 1) := by decide +kernel
theorem dd_L_law_338 : decode (zc mm_L_law) 338 = .ok (.iadd, 1) := by decide +kernel
theorem dd_L_law_339 : decode (zc mm_L_law) 339 = .ok (.iaload, 1) := by decide +kernel
theorem dd_L_law_340 : decode (zc mm_L_law) 340 = .ok (.invokevirtual 36, 3) := by decide +kernel
theorem dd_L_law_343 : decode (zc mm_L_law) 343 = .ok (.aload_n 2, 1) := by decide +kernel
theorem dd_L_law_344 : decode (zc mm_L_law) 344 = .ok (.aload_n 0, 1) := by decide +kernel
theorem dd_L_law_345 : decode (zc mm_L_law) 345 = .ok (.iload_n 3, 1) := by decide +kernel
theorem dd_L_law_346 : decode (zc mm_L_law) 346 = .ok (.iconst 1, 1) := by decide +kernel
theorem dd_L_law_347 : decode (zc mm_L_law) 347 = .ok (.iadd, 1) := by decide +kernel
theorem dd_L_law_348 : decode (zc mm_L_law) 348 = .ok (.iaload, 1) := by decide +kernel
theorem dd_L_law_349 : decode (zc mm_L_law) 349 = .ok (.aload_n 0, 1) := by decide +kernel
theorem dd_L_law_350 : decode (zc mm_L_law) 350 = .ok (.iload_n 3, 1) := by decide +kernel
theorem dd_L_law_351 : decode (zc mm_L_law) 351 = .ok (.iconst 2, 1) := by decide +kernel
theorem dd_L_law_352 : decode (zc mm_L_law) 352 = .ok (.iadd, 1) := by decide +kernel
theorem dd_L_law_353 : decode (zc mm_L_law) 353 = .ok (.iaload, 1) := by decide +kernel
theorem dd_L_law_354 : decode (zc mm_L_law) 354 = .ok (.aload_n 0, 1) := by decide +kernel
theorem dd_L_law_355 : decode (zc mm_L_law) 355 = .ok (.iload_n 3, 1) := by decide +kernel
theorem dd_L_law_356 : decode (zc mm_L_law) 356 = .ok (.iconst 3, 1) := by decide +kernel
theorem dd_L_law_357 : decode (zc mm_L_law) 357 = .ok (.iadd, 1) := by decide +kernel
theorem dd_L_law_358 : decode (zc mm_L_law) 358 = .ok (.iaload, 1) := by decide +kernel
theorem dd_L_law_359 : decode (zc mm_L_law) 359 = .ok (.aload_n 0, 1) := by decide +kernel
theorem dd_L_law_360 : decode (zc mm_L_law) 360 = .ok (.iload_n 3, 1) := by decide +kernel
theorem dd_L_law_361 : decode (zc mm_L_law) 361 = .ok (.iconst 4, 1) := by decide +kernel
theorem dd_L_law_362 : decode (zc mm_L_law) 362 = .ok (.iadd, 1) := by decide +kernel
theorem dd_L_law_363 : decode (zc mm_L_law) 363 = .ok (.iaload, 1) := by decide +kernel
theorem dd_L_law_364 : decode (zc mm_L_law) 364 = .ok (.invokevirtual 40, 3) := by decide +kernel
theorem dd_L_law_367 : decode (zc mm_L_law) 367 = .ok (.if_icmp .eq 1422, 3) := by decide +kernel
theorem dd_L_law_370 : decode (zc mm_L_law) 370 = .ok (.iconst 0, 1) := by decide +kernel
theorem dd_L_law_371 : decode (zc mm_L_law) 371 = .ok (.ireturn, 1) := by decide +kernel
theorem dd_L_law_372 : decode (zc mm_L_law) 372 = .ok (.aload_n 1, 1) := by decide +kernel
theorem dd_L_law_373 : decode (zc mm_L_law) 373 = .ok (.aload_n 0, 1) := by decide +kernel
theorem dd_L_law_374 : decode (zc mm_L_law) 374 = .ok (.iload_n 3, 1) := by decide +kernel
theorem dd_L_law_375 : decode (zc mm_L_law) 375 = .ok (.iconst 1, 1) := by decide +kernel
theorem dd_L_law_376 : decode (zc mm_L_law) 376 = .ok (.iadd, 1) := by decide +kernel
theorem dd_L_law_377 : decode (zc mm_L_law) 377 = .ok (.iaload, 1) := by decide +kernel
theorem dd_L_law_378 : decode (zc mm_L_law) 378 = .ok (.aload_n 0, 1) := by decide +kernel
theorem dd_L_law_379 : decode (zc mm_L_law) 379 = .ok (.iload_n 3, 1) := by decide +kernel
theorem dd_L_law_380 : decode (zc mm_L_law) 380 = .ok (.iconst 2, 1) := by decide +kernel
theorem dd_L_law_381 : decode (zc mm_L_law) 381 = .ok (.iadd, 1) := by decide +kernel
theorem dd_L_law_382 : decode (zc mm_L_law) 382 = .ok (.iaload, 1) := by decide +kernel
theorem dd_L_law_383 : decode (zc mm_L_law) 383 = .ok (.aload_n 0, 1) := by decide +kernel
theorem dd_L_law_384 : decode (zc mm_L_law) 384 = .ok (.iload_n 3, 1) := by decide +kernel
theorem dd_L_law_385 : decode (zc mm_L_law) 385 = .ok (.iconst 3, 1) := by decide +kernel
theorem dd_L_law_386 : decode (zc mm_L_law) 386 = .ok (.iadd, 1) := by decide +kernel
theorem dd_L_law_387 : decode (zc mm_L_law) 387 = .ok (.iaload, 1) := by decide +kernel
theorem dd_L_law_388 : decode (zc mm_L_law) 388 = .ok (.invokevirtual 41, 3) := by decide +kernel
theorem dd_L_law_391 : decode (zc mm_L_law) 391 = .ok (.aload_n 2, 1) := by decide +kernel
theorem dd_L_law_392 : decode (zc mm_L_law) 392 = .ok (.aload_n 0, 1) := by decide +kernel
theorem dd_L_law_393 : decode (zc mm_L_law) 393 = .ok (.iload_n 3, 1) := by decide +kernel
theorem dd_L_law_394 : decode (zc mm_L_law) 394 = .ok (.iconst 1, 1) := by decide +kernel
theorem dd_L_law_395 : decode (zc mm_L_law) 395 = .ok (.iadd, 1) := by decide +kernel
theorem dd_L_law_396 : decode (zc mm_L_law) 396 = .ok (.iaload, 1) := by decide +kernel
theorem dd_L_law_397 : decode (zc mm_L_law) 397 = .ok (.aload_n 0, 1) := by decide +kernel
theorem dd_L_law_398 : decode (zc mm_L_law) 398 = .ok (.iload_n 3, 1) := by decide +kernel
theorem dd_L_law_399 : decode (zc mm_L_law) 399 = .ok (.iconst 2, 1) := by decide +kernel
theorem dd_L_law_400 : decode (zc mm_L_law) 400 = .ok (.iadd, 1) := by decide +kernel
theorem dd_L_law_401 : decode (zc mm_L_law) 401 = .ok (.iaload, 1) := by decide +kernel
theorem dd_L_law_402 : decode (zc mm_L_law) 402 = .ok (.aload_n 0, 1) := by decide +kernel
theorem dd_L_law_403 : decode (zc mm_L_law) 403 = .ok (.iload_n 3, 1) := by decide +kernel
theorem dd_L_law_404 : decode (zc mm_L_law) 404 = .ok (.iconst 3, 1) := by decide +kernel
theorem dd_L_law_405 : decode (zc mm_L_law) 405 = .ok (.iadd, 1) := by decide +kernel
theorem dd_L_law_406 : decode (zc mm_L_law) 406 = .ok (.iaload, 1) := by decide +kernel
theorem dd_L_law_407 : decode (zc mm_L_law) 407 = .ok (.invokevirtual 44, 3) := by decide +kernel
theorem dd_L_law_410 : decode (zc mm_L_law) 410 = .ok (.if_icmp .eq 1379, 3) := by decide +kernel
theorem dd_L_law_413 : decode (zc mm_L_law) 413 = .ok (.iconst 0, 1) := by decide +kernel
theorem dd_L_law_414 : decode (zc mm_L_law) 414 = .ok (.ireturn, 1) := by decide +kernel
theorem dd_L_law_415 : decode (zc mm_L_law) 415 = .ok (.aload_n 1, 1) := by decide +kernel
theorem dd_L_law_416 : decode (zc mm_L_law) 416 = .ok (.aload_n 0, 1) := by decide +kernel
theorem dd_L_law_417 : decode (zc mm_L_law) 417 = .ok (.iload_n 3, 1) := by decide +kernel
theorem dd_L_law_418 : decode (zc mm_L_law) 418 = .ok (.iconst 1, 1) := by decide +kernel
theorem dd_L_law_419 : decode (zc mm_L_law) 419 = .ok (.iadd, 1) := by decide +kernel
theorem dd_L_law_420 : decode (zc mm_L_law) 420 = .ok (.iaload, 1) := by decide +kernel
theorem dd_L_law_421 : decode (zc mm_L_law) 421 = .ok (.aload_n 0, 1) := by decide +kernel
theorem dd_L_law_422 : decode (zc mm_L_law) 422 = .ok (.iload_n 3, 1) := by decide +kernel
theorem dd_L_law_423 : decode (zc mm_L_law) 423 = .ok (.iconst 2, 1) := by decide +kernel
theorem dd_L_law_424 : decode (zc mm_L_law) 424 = .ok (.iadd, 1) := by decide +kernel
theorem dd_L_law_425 : decode (zc mm_L_law) 425 = .ok (.iaload, 1) := by decide +kernel
theorem dd_L_law_426 : decode (zc mm_L_law) 426 = .ok (.invokevirtual 45, 3) := by decide +kernel
theorem dd_L_law_429 : decode (zc mm_L_law) 429 = .ok (.aload_n 2, 1) := by decide +kernel
theorem dd_L_law_430 : decode (zc mm_L_law) 430 = .ok (.aload_n 0, 1) := by decide +kernel
theorem dd_L_law_431 : decode (zc mm_L_law) 431 = .ok (.iload_n 3, 1) := by decide +kernel
theorem dd_L_law_432 : decode (zc mm_L_law) 432 = .ok (.iconst 1, 1) := by decide +kernel
theorem dd_L_law_433 : decode (zc mm_L_law) 433 = .ok (.iadd, 1) := by decide +kernel
theorem dd_L_law_434 : decode (zc mm_L_law) 434 = .ok (.iaload, 1) := by decide +kernel
theorem dd_L_law_435 : decode (zc mm_L_law) 435 = .ok (.aload_n 0, 1) := by decide +kernel
theorem dd_L_law_436 : decode (zc mm_L_law) 436 = .ok (.iload_n 3, 1) := by decide +kernel
theorem dd_L_law_437 : decode (zc mm_L_law) 437 = .ok (.iconst 2, 1) := by decide +kernel
theorem dd_L_law_438 : decode (zc mm_L_law) 438 = .ok (.iadd, 1) := by decide +kernel
theorem dd_L_law_439 : decode (zc mm_L_law) 439 = .ok (.iaload, 1) := by decide +kernel
theorem dd_L_law_440 : decode (zc mm_L_law) 440 = .ok (.invokevirtual 49, 3) := by decide +kernel
theorem dd_L_law_443 : decode (zc mm_L_law) 443 = .ok (.if_icmp .eq 1346, 3) := by decide +kernel
theorem dd_L_law_446 : decode (zc mm_L_law) 446 = .ok (.iconst 0, 1) := by decide +kernel
theorem dd_L_law_447 : decode (zc mm_L_law) 447 = .ok (.ireturn, 1) := by decide +kernel
theorem dd_L_law_448 : decode (zc mm_L_law) 448 = .ok (.aload_n 1, 1) := by decide +kernel
theorem dd_L_law_449 : decode (zc mm_L_law) 449 = .ok (.aload_n 0, 1) := by decide +kernel
theorem dd_L_law_450 : decode (zc mm_L_law) 450 = .ok (.iload_n 3, 1) := by decide +kernel
theorem dd_L_law_451 : decode (zc mm_L_law) 451 = .ok (.iconst 1, 1) := by decide +kernel
theorem dd_L_law_452 : decode (zc mm_L_law) 452 = .ok (.iadd, 1) := by decide +kernel
theorem dd_L_law_453 : decode (zc mm_L_law) 453 = .ok (.iaload, 1) := by decide +kernel
theorem dd_L_law_454 : decode (zc mm_L_law) 454 = .ok (.aload_n 0, 1) := by decide +kernel
theorem dd_L_law_455 : decode (zc mm_L_law) 455 = .ok (.iload_n 3, 1) := by decide +kernel
theorem dd_L_law_456 : decode (zc mm_L_law) 456 = .ok (.iconst 2, 1) := by decide +kernel
theorem dd_L_law_457 : decode (zc mm_L_law) 457 = .ok (.iadd, 1) := by decide +kernel
theorem dd_L_law_458 : decode (zc mm_L_law) 458 = .ok (.iaload, 1) := by decide +kernel
theorem dd_L_law_459 : decode (zc mm_L_law) 459 = .ok (.aload_n 0, 1) := by decide +kernel
theorem dd_L_law_460 : decode (zc mm_L_law) 460 = .ok (.iload_n 3, 1) := by decide +kernel
theorem dd_L_law_461 : decode (zc mm_L_law) 461 = .ok (.iconst 3, 1) := by decide +kernel
theorem dd_L_law_462 : decode (zc mm_L_law) 462 = .ok (.iadd, 1) := by decide +kernel
theorem dd_L_law_463 : decode (zc mm_L_law) 463 = .ok (.iaload, 1) := by decide +kernel
theorem dd_L_law_464 : decode (zc mm_L_law) 464 = .ok (.invokevirtual 50, 3) := by decide +kernel
theorem dd_L_law_467 : decode (zc mm_L_law) 467 = .ok (.aload_n 2, 1) := by decide +kernel
theorem dd_L_law_468 : decode (zc mm_L_law) 468 = .ok (.aload_n 0, 1) := by decide +kernel
theorem dd_L_law_469 : decode (zc mm_L_law) 469 = .ok (.iload_n 3, 1) := by decide +kernel
theorem dd_L_law_470 : decode (zc mm_L_law) 470 = .ok (.iconst 1, 1) := by decide +kernel
theorem dd_L_law_471 : decode (zc mm_L_law) 471 = .ok (.iadd, 1) := by decide +kernel
theorem dd_L_law_472 : decode (zc mm_L_law) 472 = .ok (.iaload, 1) := by decide +kernel
theorem dd_L_law_473 : decode (zc mm_L_law) 473 = .ok (.aload_n 0, 1) := by decide +kernel
theorem dd_L_law_474 : decode (zc mm_L_law) 474 = .ok (.iload_n 3, 1) := by decide +kernel
theorem dd_L_law_475 : decode (zc mm_L_law) 475 = .ok (.iconst 2, 1) := by decide +kernel
theorem dd_L_law_476 : decode (zc mm_L_law) 476 = .ok (.iadd, 1) := by decide +kernel
theorem dd_L_law_477 : decode (zc mm_L_law) 477 = .ok (.iaload, 1) := by decide +kernel
theorem dd_L_law_478 : decode (zc mm_L_law) 478 = .ok (.aload_n 0, 1) := by decide +kernel
theorem dd_L_law_479 : decode (zc mm_L_law) 479 = .ok (.iload_n 3, 1) := by decide +kernel
theorem dd_L_law_480 : decode (zc mm_L_law) 480 = .ok (.iconst 3, 1) := by decide +kernel
theorem dd_L_law_481 : decode (zc mm_L_law) 481 = .ok (.iadd, 1) := by decide +kernel
theorem dd_L_law_482 : decode (zc mm_L_law) 482 = .ok (.iaload, 1) := by decide +kernel
theorem dd_L_law_483 : decode (zc mm_L_law) 483 = .ok (.invokevirtual 53, 3) := by decide +kernel
theorem dd_L_law_486 : decode (zc mm_L_law) 486 = .ok (.if_icmp .eq 1303, 3) := by decide +kernel
theorem dd_L_law_489 : decode (zc mm_L_law) 489 = .ok (.iconst 0, 1) := by decide +kernel
theorem dd_L_law_490 : decode (zc mm_L_law) 490 = .ok (.ireturn, 1) := by decide +kernel
theorem dd_L_law_491 : decode (zc mm_L_law) 491 = .ok (.aload_n 1, 1) := by decide +kernel
theorem dd_L_law_492 : decode (zc mm_L_law) 492 = .ok (.aload_n 0, 1) := by decide +kernel
theorem dd_L_law_493 : decode (zc mm_L_law) 493 = .ok (.iload_n 3, 1) := by decide +kernel
theorem dd_L_law_494 : decode (zc mm_L_law) 494 = .ok (.iconst 1, 1) := by decide +kernel
theorem dd_L_law_495 : decode (zc mm_L_law) 495 = .ok (.iadd, 1) := by decide +kernel
theorem dd_L_law_496 : decode (zc mm_L_law) 496 = .ok (.iaload, 1) := by decide +kernel
theorem dd_L_law_497 : decode (zc mm_L_law) 497 = .ok (.aload_n 0, 1) := by decide +kernel
theorem dd_L_law_498 : decode (zc mm_L_law) 498 = .ok (.iload_n 3, 1) := by decide +kernel
theorem dd_L_law_499 : decode (zc mm_L_law) 499 = .ok (.iconst 2, 1) := by decide +kernel
theorem dd_L_law_500 : decode (zc mm_L_law) 500 = .ok (.iadd, 1) := by decide +kernel
theorem dd_L_law_501 : decode (zc mm_L_law) 501 = .ok (.iaload, 1) := by decide +kernel
theorem dd_L_law_502 : decode (zc mm_L_law) 502 = .ok (.aload_n 0, 1) := by decide +kernel
theorem dd_L_law_503 : decode (zc mm_L_law) 503 = .ok (.iload_n 3, 1) := by decide +kernel
theorem dd_L_law_504 : decode (zc mm_L_law) 504 = .ok (.iconst 3, 1) := by decide +kernel
theorem dd_L_law_505 : decode (zc mm_L_law) 505 = .ok (.iadd, 1) := by decide +kernel
theorem dd_L_law_506 : decode (zc mm_L_law) 506 = .ok (.iaload, 1) := by decide +kernel
theorem dd_L_law_507 : decode (zc mm_L_law) 507 = .ok (.invokevirtual 54, 3) := by decide +kernel
theorem dd_L_law_510 : decode (zc mm_L_law) 510 = .ok (.aload_n 2, 1) := by decide +kernel
theorem dd_L_law_511 : decode (zc mm_L_law) 511 = .ok (.aload_n 0, 1) := by decide +kernel
theorem dd_L_law_512 : decode (zc mm_L_law) 512 = .ok (.iload_n 3, 1) := by decide +kernel
theorem dd_L_law_513 : decode (zc mm_L_law) 513 = .ok (.iconst 1, 1) := by decide +kernel
theorem dd_L_law_514 : decode (zc mm_L_law) 514 = .ok (.iadd, 1) := by decide +kernel
theorem dd_L_law_515 : decode (zc mm_L_law) 515 = .ok (.iaload, 1) := by decide +kernel
theorem dd_L_law_516 : decode (zc mm_L_law) 516 = .ok (.aload_n 0, 1) := by decide +kernel
theorem dd_L_law_517 : decode (zc mm_L_law) 517 = .ok (.iload_n 3, 1) := by decide +kernel
theorem dd_L_law_518 : decode (zc mm_L_law) 518 = .ok (.iconst 2, 1) := by decide +kernel
theorem dd_L_law_519 : decode (zc mm_L_law) 519 = .ok (.iadd, 1) := by decide +kernel
theorem dd_L_law_520 : decode (zc mm_L_law) 520 = .ok (.iaload, 1) := by decide +kernel
theorem dd_L_law_521 : decode (zc mm_L_law) 521 = .ok (.aload_n 0, 1) := by decide +kernel
theorem dd_L_law_522 : decode (zc mm_L_law) 522 = .ok (.iload_n 3, 1) := by decide +kernel
theorem dd_L_law_523 : decode (zc mm_L_law) 523 = .ok (.iconst 3, 1) := by decide +kernel
theorem dd_L_law_524 : decode (zc mm_L_law) 524 = .ok (.iadd, 1) := by decide +kernel
theorem dd_L_law_525 : decode (zc mm_L_law) 525 = .ok (.iaload, 1) := by decide +kernel
theorem dd_L_law_526 : decode (zc mm_L_law) 526 = .ok (.invokevirtual 57, 3) := by decide +kernel
theorem dd_L_law_529 : decode (zc mm_L_law) 529 = .ok (.if_icmp .eq 1260, 3) := by decide +kernel
theorem dd_L_law_532 : decode (zc mm_L_law) 532 = .ok (.iconst 0, 1) := by decide +kernel
theorem dd_L_law_533 : decode (zc mm_L_law) 533 = .ok (.ireturn, 1) := by decide +kernel
theorem dd_L_law_534 : decode (zc mm_L_law) 534 = .ok (.aload_n 1, 1) := by decide +kernel
theorem dd_L_law_535 : decode (zc mm_L_law) 535 = .ok (.aload_n 0, 1) := by decide +kernel
theorem dd_L_law_536 : decode (zc mm_L_law) 536 = .ok (.iload_n 3, 1) := by decide +kernel
theorem dd_L_law_537 : decode (zc mm_L_law) 537 = .ok (.iconst 1, 1) := by decide +kernel
theorem dd_L_law_538 : decode (zc mm_L_law) 538 = .ok (.iadd, 1) := by decide +kernel
theorem dd_L_law_539 : decode (zc mm_L_law) 539 = .ok (.iaload, 1) := by decide +kernel
theorem dd_L_law_540 : decode (zc mm_L_law) 540 = .ok (.aload_n 0, 1) := by decide +kernel
theorem dd_L_law_541 : decode (zc mm_L_law) 541 = .ok (.iload_n 3, 1) := by decide +kernel
theorem dd_L_law_542 : decode (zc mm_L_law) 542 = .ok (.iconst 2, 1) := by decide +kernel
theorem dd_L_law_543 : decode (zc mm_L_law) 543 = .ok (.iadd, 1) := by decide +kernel
theorem dd_L_law_544 : decode (zc mm_L_law) 544 = .ok (.iaload, 1) := by decide +kernel
theorem dd_L_law_545 : decode (zc mm_L_law) 545 = .ok (.aload_n 0, 1) := by decide +kernel
theorem dd_L_law_546 : decode (zc mm_L_law) 546 = .ok (.iload_n 3, 1) := by decide +kernel
theorem dd_L_law_547 : decode (zc mm_L_law) 547 = .ok (.iconst 3, 1) := by decide +kernel
theorem dd_L_law_548 : decode (zc mm_L_law) 548 = .ok (.iadd, 1) := by decide +kernel
theorem dd_L_law_549 : decode (zc mm_L_law) 549 = .ok (.iaload, 1) := by decide +kernel
theorem dd_L_law_550 : decode (zc mm_L_law) 550 = .ok (.aload_n 0, 1) := by decide +kernel
theorem dd_L_law_551 : decode (zc mm_L_law) 551 = .ok (.iload_n 3, 1) := by decide +kernel
theorem dd_L_law_552 : decode (zc mm_L_law) 552 = .ok (.iconst 4, 1) := by decide +kernel
theorem dd_L_law_553 : decode (zc mm_L_law) 553 = .ok (.iadd, 1) := by decide +kernel
theorem dd_L_law_554 : decode (zc mm_L_law) 554 = .ok (.iaload, 1) := by decide +kernel
theorem dd_L_law_555 : decode (zc mm_L_law) 555 = .ok (.invokevirtual 58, 3) := by decide +kernel
theorem dd_L_law_558 : decode (zc mm_L_law) 558 = .ok (.aload_n 2, 1) := by decide +kernel
theorem dd_L_law_559 : decode (zc mm_L_law) 559 = .ok (.aload_n 0, 1) := by decide +kernel
theorem dd_L_law_560 : decode (zc mm_L_law) 560 = .ok (.iload_n 3, 1) := by decide +kernel
theorem dd_L_law_561 : decode (zc mm_L_law) 561 = .ok (.iconst 1, 1) := by decide +kernel
theorem dd_L_law_562 : decode (zc mm_L_law) 562 = .ok (.iadd, 1) := by decide +kernel
theorem dd_L_law_563 : decode (zc mm_L_law) 563 = .ok (.iaload, 1) := by decide +kernel
theorem dd_L_law_564 : decode (zc mm_L_law) 564 = .ok (.aload_n 0, 1) := by decide +kernel
theorem dd_L_law_565 : decode (zc mm_L_law) 565 = .ok (.iload_n 3, 1) := by decide +kernel
theorem dd_L_law_566 : decode (zc mm_L_law) 566 = .ok (.iconst 2, 1) := by decide +kernel
theorem dd_L_law_567 : decode (zc mm_L_law) 567 = .ok (.iadd, 1) := by decide +kernel
theorem dd_L_law_568 : decode (zc mm_L_law) 568 = .ok (.iaload, 1) := by decide +kernel
theorem dd_L_law_569 : decode (zc mm_L_law) 569 = .ok (.aload_n 0, 1) := by decide +kernel
theorem dd_L_law_570 : decode (zc mm_L_law) 570 = .ok (.iload_n 3, 1) := by decide +kernel
theorem dd_L_law_571 : decode (zc mm_L_law) 571 = .ok (.iconst 3, 1) := by decide +kernel
theorem dd_L_law_572 : decode (zc mm_L_law) 572 = .ok (.iadd, 1) := by decide +kernel
theorem dd_L_law_573 : decode (zc mm_L_law) 573 = .ok (.iaload, 1) := by decide +kernel
theorem dd_L_law_574 : decode (zc mm_L_law) 574 = .ok (.aload_n 0, 1) := by decide +kernel
theorem dd_L_law_575 : decode (zc mm_L_law) 575 = .ok (.iload_n 3, 1) := by decide +kernel
theorem dd_L_law_576 : decode (zc mm_L_law) 576 = .ok (.iconst 4, 1) := by decide +kernel
theorem dd_L_law_577 : decode (zc mm_L_law) 577 = .ok (.iadd, 1) := by decide +kernel
theorem dd_L_law_578 : decode (zc mm_L_law) 578 = .ok (.iaload, 1) := by decide +kernel
theorem dd_L_law_579 : decode (zc mm_L_law) 579 = .ok (.invokevirtual 61, 3) := by decide +kernel
theorem dd_L_law_582 : decode (zc mm_L_law) 582 = .ok (.if_icmp .eq 1207, 3) := by decide +kernel
theorem dd_L_law_585 : decode (zc mm_L_law) 585 = .ok (.iconst 0, 1) := by decide +kernel
theorem dd_L_law_586 : decode (zc mm_L_law) 586 = .ok (.ireturn, 1) := by decide +kernel
theorem dd_L_law_587 : decode (zc mm_L_law) 587 = .ok (.aload_n 1, 1) := by decide +kernel
theorem dd_L_law_588 : decode (zc mm_L_law) 588 = .ok (.aload_n 0, 1) := by decide +kernel
theorem dd_L_law_589 : decode (zc mm_L_law) 589 = .ok (.iload_n 3, 1) := by decide +kernel
theorem dd_L_law_590 : decode (zc mm_L_law) 590 = .ok (.iconst 1, 1) := by decide +kernel
theorem dd_L_law_591 : decode (zc mm_L_law) 591 = .ok (.iadd, 1) := by decide +kernel
theorem dd_L_law_592 : decode (zc mm_L_law) 592 = .ok (.iaload, 1) := by decide +kernel
theorem dd_L_law_593 : decode (zc mm_L_law) 593 = .ok (.aload_n 0, 1) := by decide +kernel
theorem dd_L_law_594 : decode (zc mm_L_law) 594 = .ok (.iload_n 3, 1) := by decide +kernel
theorem dd_L_law_595 : decode (zc mm_L_law) 595 = .ok (.iconst 2, 1) := by decide +kernel
theorem dd_L_law_596 : decode (zc mm_L_law) 596 = .ok (.iadd, 1) := by decide +kernel
theorem dd_L_law_597 : decode (zc mm_L_law) 597 = .ok (.iaload, 1) := by decide +kernel
theorem dd_L_law_598 : decode (zc mm_L_law) 598 = .ok (.aload_n 0, 1) := by decide +kernel
theorem dd_L_law_599 : decode (zc mm_L_law) 599 = .ok (.iload_n 3, 1) := by decide +kernel
theorem dd_L_law_600 : decode (zc mm_L_law) 600 = .ok (.iconst 3, 1) := by decide +kernel
theorem dd_L_law_601 : decode (zc mm_L_law) 601 = .ok (.iadd, 1) := by decide +kernel
theorem dd_L_law_602 : decode (zc mm_L_law) 602 = .ok (.iaload, 1) := by decide +kernel
theorem dd_L_law_603 : decode (zc mm_L_law) 603 = .ok (.aload_n 0, 1) := by decide +kernel
theorem dd_L_law_604 : decode (zc mm_L_law) 604 = .ok (.iload_n 3, 1) := by decide +kernel
theorem dd_L_law_605 : decode (zc mm_L_law) 605 = .ok (.iconst 4, 1) := by decide +kernel
theorem dd_L_law_606 : decode (zc mm_L_law) 606 = .ok (.iadd, 1) := by decide +kernel
theorem dd_L_law_607 : decode (zc mm_L_law) 607 = .ok (.iaload, 1) := by decide +kernel
theorem dd_L_law_608 : decode (zc mm_L_law) 608 = .ok (.aload_n 0, 1) := by decide +kernel
theorem dd_L_law_609 : decode (zc mm_L_law) 609 = .ok (.iload_n 3, 1) := by decide +kernel
theorem dd_L_law_610 : decode (zc mm_L_law) 610 = .ok (.iconst 5, 1) := by decide +kernel
theorem dd_L_law_611 : decode (zc mm_L_law) 611 = .ok (.iadd, 1) := by decide +kernel
theorem dd_L_law_612 : decode (zc mm_L_law) 612 = .ok (.iaload, 1) := by decide +kernel
theorem dd_L_law_613 : decode (zc mm_L_law) 613 = .ok (.aload_n 0, 1) := by decide +kernel
theorem dd_L_law_614 : decode (zc mm_L_law) 614 = .ok (.iload_n 3, 1) := by decide +kernel
theorem dd_L_law_615 : decode (zc mm_L_law) 615 = .ok (.bipush 6, 2) := by decide +kernel
theorem dd_L_law_617 : decode (zc mm_L_law) 617 = .ok (.iadd, 1) := by decide +kernel
theorem dd_L_law_618 : decode (zc mm_L_law) 618 = .ok (.iaload, 1) := by decide +kernel
theorem dd_L_law_619 : decode (zc mm_L_law) 619 = .ok (.aload_n 0, 1) := by decide +kernel
theorem dd_L_law_620 : decode (zc mm_L_law) 620 = .ok (.iload_n 3, 1) := by decide +kernel
theorem dd_L_law_621 : decode (zc mm_L_law) 621 = .ok (.bipush 7, 2) := by decide +kernel
theorem dd_L_law_623 : decode (zc mm_L_law) 623 = .ok (.iadd, 1) := by decide +kernel
theorem dd_L_law_624 : decode (zc mm_L_law) 624 = .ok (.iaload, 1) := by decide +kernel
theorem dd_L_law_625 : decode (zc mm_L_law) 625 = .ok (.invokevirtual 62, 3) := by decide +kernel
theorem dd_L_law_628 : decode (zc mm_L_law) 628 = .ok (.aload_n 2, 1) := by decide +kernel
theorem dd_L_law_629 : decode (zc mm_L_law) 629 = .ok (.aload_n 0, 1) := by decide +kernel
theorem dd_L_law_630 : decode (zc mm_L_law) 630 = .ok (.iload_n 3, 1) := by decide +kernel
theorem dd_L_law_631 : decode (zc mm_L_law) 631 = .ok (.iconst 1, 1) := by decide +kernel
theorem dd_L_law_632 : decode (zc mm_L_law) 632 = .ok (.iadd, 1) := by decide +kernel
theorem dd_L_law_633 : decode (zc mm_L_law) 633 = .ok (.iaload, 1) := by decide +kernel
theorem dd_L_law_634 : decode (zc mm_L_law) 634 = .ok (.aload_n 0, 1) := by decide +kernel
theorem dd_L_law_635 : decode (zc mm_L_law) 635 = .ok (.iload_n 3, 1) := by decide +kernel
theorem dd_L_law_636 : decode (zc mm_L_law) 636 = .ok (.iconst 2, 1) := by decide +kernel
theorem dd_L_law_637 : decode (zc mm_L_law) 637 = .ok (.iadd, 1) := by decide +kernel
theorem dd_L_law_638 : decode (zc mm_L_law) 638 = .ok (.iaload, 1) := by decide +kernel
theorem dd_L_law_639 : decode (zc mm_L_law) 639 = .ok (.aload_n 0, 1) := by decide +kernel
theorem dd_L_law_640 : decode (zc mm_L_law) 640 = .ok (.iload_n 3, 1) := by decide +kernel
theorem dd_L_law_641 : decode (zc mm_L_law) 641 = .ok (.iconst 3, 1) := by decide +kernel
theorem dd_L_law_642 : decode (zc mm_L_law) 642 = .ok (.iadd, 1) := by decide +kernel
theorem dd_L_law_643 : decode (zc mm_L_law) 643 = .ok (.iaload, 1) := by decide +kernel
theorem dd_L_law_644 : decode (zc mm_L_law) 644 = .ok (.aload_n 0, 1) := by decide +kernel
theorem dd_L_law_645 : decode (zc mm_L_law) 645 = .ok (.iload_n 3, 1) := by decide +kernel
theorem dd_L_law_646 : decode (zc mm_L_law) 646 = .ok (.iconst 4, 1) := by decide +kernel
theorem dd_L_law_647 : decode (zc mm_L_law) 647 = .ok (.iadd, 1) := by decide +kernel
theorem dd_L_law_648 : decode (zc mm_L_law) 648 = .ok (.iaload, 1) := by decide +kernel
theorem dd_L_law_649 : decode (zc mm_L_law) 649 = .ok (.aload_n 0, 1) := by decide +kernel
theorem dd_L_law_650 : decode (zc mm_L_law) 650 = .ok (.iload_n 3, 1) := by decide +kernel
theorem dd_L_law_651 : decode (zc mm_L_law) 651 = .ok (.iconst 5, 1) := by decide +kernel
theorem dd_L_law_652 : decode (zc mm_L_law) 652 = .ok (.iadd, 1) := by decide +kernel
theorem dd_L_law_653 : decode (zc mm_L_law) 653 = .ok (.iaload, 1) := by decide +kernel
theorem dd_L_law_654 : decode (zc mm_L_law) 654 = .ok (.aload_n 0, 1) := by decide +kernel
theorem dd_L_law_655 : decode (zc mm_L_law) 655 = .ok (.iload_n 3, 1) := by decide +kernel
theorem dd_L_law_656 : decode (zc mm_L_law) 656 = .ok (.bipush 6, 2) := by decide +kernel
theorem dd_L_law_658 : decode (zc mm_L_law) 658 = .ok (.iadd, 1) := by decide +kernel
theorem dd_L_law_659 : decode (zc mm_L_law) 659 = .ok (.iaload, 1) := by decide +kernel
theorem dd_L_law_660 : decode (zc mm_L_law) 660 = .ok (.aload_n 0, 1) := by decide +kernel
theorem dd_L_law_661 : decode (zc mm_L_law) 661 = .ok (.iload_n 3, 1) := by decide +kernel
theorem dd_L_law_662 : decode (zc mm_L_law) 662 = .ok (.bipush 7, 2) := by decide +kernel
theorem dd_L_law_664 : decode (zc mm_L_law) 664 = .ok (.iadd, 1) := by decide +kernel
theorem dd_L_law_665 : decode (zc mm_L_law) 665 = .ok (.iaload, 1) := by decide +kernel
theorem dd_L_law_666 : decode (zc mm_L_law) 666 = .ok (.invokevirtual 66, 3) := by decide +kernel
theorem dd_L_law_669 : decode (zc mm_L_law) 669 = .ok (.if_icmp .eq 1120, 3) := by decide +kernel
theorem dd_L_law_672 : decode (zc mm_L_law) 672 = .ok (.iconst 0, 1) := by decide +kernel
theorem dd_L_law_673 : decode (zc mm_L_law) 673 = .ok (.ireturn, 1) := by decide +kernel
theorem dd_L_law_674 : decode (zc mm_L_law) 674 = .ok (.aload_n 1, 1) := by decide +kernel
theorem dd_L_law_675 : decode (zc mm_L_law) 675 = .ok (.aload_n 0, 1) := by decide +kernel
theorem dd_L_law_676 : decode (zc mm_L_law) 676 = .ok (.iload_n 3, 1) := by decide +kernel
theorem dd_L_law_677 : decode (zc mm_L_law) 677 = .ok (.iconst 1, 1) := by decide +kernel
theorem dd_L_law_678 : decode (zc mm_L_law) 678 = .ok (.iadd, 1) := by decide +kernel
theorem dd_L_law_679 : decode (zc mm_L_law) 679 = .ok (.iaload, 1) := by decide +kernel
theorem dd_L_law_680 : decode (zc mm_L_law) 680 = .ok (.aload_n 0, 1) := by decide +kernel
theorem dd_L_law_681 : decode (zc mm_L_law) 681 = .ok (.iload_n 3, 1) := by decide +kernel
theorem dd_L_law_682 : decode (zc mm_L_law) 682 = .ok (.iconst 2, 1) := by decide +kernel
theorem dd_L_law_683 : decode (zc mm_L_law) 683 = .ok (.iadd, 1) := by decide +kernel
theorem dd_L_law_684 : decode (zc mm_L_law) 684 = .ok (.iaload, 1) := by decide +kernel
theorem dd_L_law_685 : decode (zc mm_L_law) 685 = .ok (.aload_n 0, 1) := by decide +kernel
theorem dd_L_law_686 : decode (zc mm_L_law) 686 = .ok (.iload_n 3, 1) := by decide +kernel
theorem dd_L_law_687 : decode (zc mm_L_law) 687 = .ok (.iconst 3, 1) := by decide +kernel
theorem dd_L_law_688 : decode (zc mm_L_law) 688 = .ok (.iadd, 1) := by decide +kernel
theorem dd_L_law_689 : decode (zc mm_L_law) 689 = .ok (.iaload, 1) := by decide +kernel
theorem dd_L_law_690 : decode (zc mm_L_law) 690 = .ok (.aload_n 0, 1) := by decide +kernel
theorem dd_L_law_691 : decode (zc mm_L_law) 691 = .ok (.iload_n 3, 1) := by decide +kernel
theorem dd_L_law_692 : decode (zc mm_L_law) 692 = .ok (.iconst 4, 1) := by decide +kernel
theorem dd_L_law_693 : decode (zc mm_L_law) 693 = .ok (.iadd, 1) := by decide +kernel
theorem dd_L_law_694 : decode (zc mm_L_law) 694 = .ok (.iaload, 1) := by decide +kernel
theorem dd_L_law_695 : decode (zc mm_L_law) 695 = .ok (.aload_n 0, 1) := by decide +kernel
theorem dd_L_law_696 : decode (zc mm_L_law) 696 = .ok (.iload_n 3, 1) := by decide +kernel
theorem dd_L_law_697 : decode (zc mm_L_law) 697 = .ok (.iconst 5, 1) := by decide +kernel
theorem dd_L_law_698 : decode (zc mm_L_law) 698 = .ok (.iadd, 1) := by decide +kernel
theorem dd_L_law_699 : decode (zc mm_L_law) 699 = .ok (.iaload, 1) := by decide +kernel
theorem dd_L_law_700 : decode (zc mm_L_law) 700 = .ok (.invokevirtual 67, 3) := by decide +kernel
theorem dd_L_law_703 : decode (zc mm_L_law) 703 = .ok (.aload_n 2, 1) := by decide +kernel
theorem dd_L_law_704 : decode (zc mm_L_law) 704 = .ok (.aload_n 0, 1) := by decide +kernel
theorem dd_L_law_705 : decode (zc mm_L_law) 705 = .ok (.iload_n 3, 1) := by decide +kernel
theorem dd_L_law_706 : decode (zc mm_L_law) 706 = .ok (.iconst 1, 1) := by decide +kernel
theorem dd_L_law_707 : decode (zc mm_L_law) 707 = .ok (.iadd, 1) := by decide +kernel
theorem dd_L_law_708 : decode (zc mm_L_law) 708 = .ok (.iaload, 1) := by decide +kernel
theorem dd_L_law_709 : decode (zc mm_L_law) 709 = .ok (.aload_n 0, 1) := by decide +kernel
theorem dd_L_law_710 : decode (zc mm_L_law) 710 = .ok (.iload_n 3, 1) := by decide +kernel
theorem dd_L_law_711 : decode (zc mm_L_law) 711 = .ok (.iconst 2, 1) := by decide +kernel
theorem dd_L_law_712 : decode (zc mm_L_law) 712 = .ok (.iadd, 1) := by decide +kernel
theorem dd_L_law_713 : decode (zc mm_L_law) 713 = .ok (.iaload, 1) := by decide +kernel
theorem dd_L_law_714 : decode (zc mm_L_law) 714 = .ok (.aload_n 0, 1) := by decide +kernel
theorem dd_L_law_715 : decode (zc mm_L_law) 715 = .ok (.iload_n 3, 1) := by decide +kernel
theorem dd_L_law_716 : decode (zc mm_L_law) 716 = .ok (.iconst 3, 1) := by decide +kernel
theorem dd_L_law_717 : decode (zc mm_L_law) 717 = .ok (.iadd, 1) := by decide +kernel
theorem dd_L_law_718 : decode (zc mm_L_law) 718 = .ok (.iaload, 1) := by decide +kernel
theorem dd_L_law_719 : decode (zc mm_L_law) 719 = .ok (.aload_n 0, 1) := by decide +kernel
theorem dd_L_law_720 : decode (zc mm_L_law) 720 = .ok (.iload_n 3, 1) := by decide +kernel
theorem dd_L_law_721 : decode (zc mm_L_law) 721 = .ok (.iconst 4, 1) := by decide +kernel
theorem dd_L_law_722 : decode (zc mm_L_law) 722 = .ok (.iadd, 1) := by decide +kernel
theorem dd_L_law_723 : decode (zc mm_L_law) 723 = .ok (.iaload, 1) := by decide +kernel
theorem dd_L_law_724 : decode (zc mm_L_law) 724 = .ok (.aload_n 0, 1) := by decide +kernel
theorem dd_L_law_725 : decode (zc mm_L_law) 725 = .ok (.iload_n 3, 1) := by decide +kernel
theorem dd_L_law_726 : decode (zc mm_L_law) 726 = .ok (.iconst 5, 1) := by decide +kernel
theorem dd_L_law_727 : decode (zc mm_L_law) 727 = .ok (.iadd, 1) := by decide +kernel
theorem dd_L_law_728 : decode (zc mm_L_law) 728 = .ok (.iaload, 1) := by decide +kernel
theorem dd_L_law_729 : decode (zc mm_L_law) 729 = .ok (.invokevirtual 71, 3) := by decide +kernel
theorem dd_L_law_732 : decode (zc mm_L_law) 732 = .ok (.if_icmp .eq 1057, 3) := by decide +kernel
theorem dd_L_law_735 : decode (zc mm_L_law) 735 = .ok (.iconst 0, 1) := by decide +kernel
theorem dd_L_law_736 : decode (zc mm_L_law) 736 = .ok (.ireturn, 1) := by decide +kernel
theorem dd_L_law_737 : decode (zc mm_L_law) 737 = .ok (.aload_n 1, 1) := by decide +kernel
theorem dd_L_law_738 : decode (zc mm_L_law) 738 = .ok (.aload_n 0, 1) := by decide +kernel
theorem dd_L_law_739 : decode (zc mm_L_law) 739 = .ok (.iload_n 3, 1) := by decide +kernel
theorem dd_L_law_740 : decode (zc mm_L_law) 740 = .ok (.iconst 1, 1) := by decide +kernel
theorem dd_L_law_741 : decode (zc mm_L_law) 741 = .ok (.iadd, 1) := by decide +kernel
theorem dd_L_law_742 : decode (zc mm_L_law) 742 = .ok (.iaload, 1) := by decide +kernel
theorem dd_L_law_743 : decode (zc mm_L_law) 743 = .ok (.aload_n 0, 1) := by decide +kernel
theorem dd_L_law_744 : decode (zc mm_L_law) 744 = .ok (.iload_n 3, 1) := by decide +kernel
theorem dd_L_law_745 : decode (zc mm_L_law) 745 = .ok (.iconst 2, 1) := by decide +kernel
theorem dd_L_law_746 : decode (zc mm_L_law) 746 = .ok (.iadd, 1) := by decide +kernel
theorem dd_L_law_747 : decode (zc mm_L_law) 747 = .ok (.iaload, 1) := by decide +kernel
theorem dd_L_law_748 : decode (zc mm_L_law) 748 = .ok (.aload_n 0, 1) := by decide +kernel
theorem dd_L_law_749 : decode (zc mm_L_law) 749 = .ok (.iload_n 3, 1) := by decide +kernel
theorem dd_L_law_750 : decode (zc mm_L_law) 750 = .ok (.iconst 3, 1) := by decide +kernel
theorem dd_L_law_751 : decode (zc mm_L_law) 751 = .ok (.iadd, 1) := by decide +kernel
theorem dd_L_law_752 : decode (zc mm_L_law) 752 = .ok (.iaload, 1) := by decide +kernel
theorem dd_L_law_753 : decode (zc mm_L_law) 753 = .ok (.aload_n 0, 1) := by decide +kernel
theorem dd_L_law_754 : decode (zc mm_L_law) 754 = .ok (.iload_n 3, 1) := by decide +kernel
theorem dd_L_law_755 : decode (zc mm_L_law) 755 = .ok (.iconst 4, 1) := by decide +kernel
theorem dd_L_law_756 : decode (zc mm_L_law) 756 = .ok (.iadd, 1) := by decide +kernel
theorem dd_L_law_757 : decode (zc mm_L_law) 757 = .ok (.iaload, 1) := by decide +kernel
theorem dd_L_law_758 : decode (zc mm_L_law) 758 = .ok (.invokevirtual 72, 3) := by decide +kernel
theorem dd_L_law_761 : decode (zc mm_L_law) 761 = .ok (.aload_n 2, 1) := by decide +kernel
theorem dd_L_law_762 : decode (zc mm_L_law) 762 = .ok (.aload_n 0, 1) := by decide +kernel
theorem dd_L_law_763 : decode (zc mm_L_law) 763 = .ok (.iload_n 3, 1) := by decide +kernel
theorem dd_L_law_764 : decode (zc mm_L_law) 764 = .ok (.iconst 1, 1) := by decide +kernel
theorem dd_L_law_765 : decode (zc mm_L_law) 765 = .ok (.iadd, 1) := by decide +kernel
theorem dd_L_law_766 : decode (zc mm_L_law) 766 = .ok (.iaload, 1) := by decide +kernel
theorem dd_L_law_767 : decode (zc mm_L_law) 767 = .ok (.aload_n 0, 1) := by decide +kernel
theorem dd_L_law_768 : decode (zc mm_L_law) 768 = .ok (.iload_n 3, 1) := by decide +kernel
theorem dd_L_law_769 : decode (zc mm_L_law) 769 = .ok (.iconst 2, 1) := by decide +kernel
theorem dd_L_law_770 : decode (zc mm_L_law) 770 = .ok (.iadd, 1) := by decide +kernel
theorem dd_L_law_771 : decode (zc mm_L_law) 771 = .ok (.iaload, 1) := by decide +kernel
theorem dd_L_law_772 : decode (zc mm_L_law) 772 = .ok (.aload_n 0, 1) := by decide +kernel
theorem dd_L_law_773 : decode (zc mm_L_law) 773 = .ok (.iload_n 3, 1) := by decide +kernel
theorem dd_L_law_774 : decode (zc mm_L_law) 774 = .ok (.iconst 3, 1) := by decide +kernel
theorem dd_L_law_775 : decode (zc mm_L_law) 775 = .ok (.iadd, 1) := by decide +kernel
theorem dd_L_law_776 : decode (zc mm_L_law) 776 = .ok (.iaload, 1) := by decide +kernel
theorem dd_L_law_777 : decode (zc mm_L_law) 777 = .ok (.aload_n 0, 1) := by decide +kernel
theorem dd_L_law_778 : decode (zc mm_L_law) 778 = .ok (.iload_n 3, 1) := by decide +kernel
theorem dd_L_law_779 : decode (zc mm_L_law) 779 = .ok (.iconst 4, 1) := by decide +kernel
theorem dd_L_law_780 : decode (zc mm_L_law) 780 = .ok (.iadd, 1) := by decide +kernel
theorem dd_L_law_781 : decode (zc mm_L_law) 781 = .ok (.iaload, 1) := by decide +kernel
theorem dd_L_law_782 : decode (zc mm_L_law) 782 = .ok (.invokevirtual 75, 3) := by decide +kernel
theorem dd_L_law_785 : decode (zc mm_L_law) 785 = .ok (.if_icmp .eq 1004, 3) := by decide +kernel
theorem dd_L_law_788 : decode (zc mm_L_law) 788 = .ok (.iconst 0, 1) := by decide +kernel
theorem dd_L_law_789 : decode (zc mm_L_law) 789 = .ok (.ireturn, 1) := by decide +kernel
theorem dd_L_law_790 : decode (zc mm_L_law) 790 = .ok (.aload_n 1, 1) := by decide +kernel
theorem dd_L_law_791 : decode (zc mm_L_law) 791 = .ok (.aload_n 0, 1) := by decide +kernel
theorem dd_L_law_792 : decode (zc mm_L_law) 792 = .ok (.iload_n 3, 1) := by decide +kernel
theorem dd_L_law_793 : decode (zc mm_L_law) 793 = .ok (.iconst 1, 1) := by decide +kernel
theorem dd_L_law_794 : decode (zc mm_L_law) 794 = .ok (.iadd, 1) := by decide +kernel
theorem dd_L_law_795 : decode (zc mm_L_law) 795 = .ok (.iaload, 1) := by decide +kernel
theorem dd_L_law_796 : decode (zc mm_L_law) 796 = .ok (.aload_n 0, 1) := by decide +kernel
theorem dd_L_law_797 : decode (zc mm_L_law) 797 = .ok (.iload_n 3, 1) := by decide +kernel
theorem dd_L_law_798 : decode (zc mm_L_law) 798 = .ok (.iconst 2, 1) := by decide +kernel
theorem dd_L_law_799 : decode (zc mm_L_law) 799 = .ok (.iadd, 1) := by decide +kernel
theorem dd_L_law_800 : decode (zc mm_L_law) 800 = .ok (.iaload, 1) := by decide +kernel
theorem dd_L_law_801 : decode (zc mm_L_law) 801 = .ok (.aload_n 0, 1) := by decide +kernel
theorem dd_L_law_802 : decode (zc mm_L_law) 802 = .ok (.iload_n 3, 1) := by decide +kernel
theorem dd_L_law_803 : decode (zc mm_L_law) 803 = .ok (.iconst 3, 1) := by decide +kernel
theorem dd_L_law_804 : decode (zc mm_L_law) 804 = .ok (.iadd, 1) := by decide +kernel
theorem dd_L_law_805 : decode (zc mm_L_law) 805 = .ok (.iaload, 1) := by decide +kernel
theorem dd_L_law_806 : decode (zc mm_L_law) 806 = .ok (.aload_n 0, 1) := by decide +kernel
theorem dd_L_law_807 : decode (zc mm_L_law) 807 = .ok (.iload_n 3, 1) := by decide +kernel
theorem dd_L_law_808 : decode (zc mm_L_law) 808 = .ok (.iconst 4, 1) := by decide +kernel
theorem dd_L_law_809 : decode (zc mm_L_law) 809 = .ok (.iadd, 1) := by decide +kernel
theorem dd_L_law_810 : decode (zc mm_L_law) 810 = .ok (.iaload, 1) := by decide +kernel
theorem dd_L_law_811 : decode (zc mm_L_law) 811 = .ok (.aload_n 0, 1) := by decide +kernel
theorem dd_L_law_812 : decode (zc mm_L_law) 812 = .ok (.iload_n 3, 1) := by decide +kernel
theorem dd_L_law_813 : decode (zc mm_L_law) 813 = .ok (.iconst 5, 1) := by decide +kernel
theorem dd_L_law_814 : decode (zc mm_L_law) 814 = .ok (.iadd, 1) := by decide +kernel
theorem dd_L_law_815 : decode (zc mm_L_law) 815 = .ok (.iaload, 1) := by decide +kernel
theorem dd_L_law_816 : decode (zc mm_L_law) 816 = .ok (.invokevirtual 76, 3) := by decide +kernel
theorem dd_L_law_819 : decode (zc mm_L_law) 819 = .ok (.aload_n 2, 1) := by decide +kernel
theorem dd_L_law_820 : decode (zc mm_L_law) 820 = .ok (.aload_n 0, 1) := by decide +kernel
theorem dd_L_law_821 : decode (zc mm_L_law) 821 = .ok (.iload_n 3, 1) := by decide +kernel
theorem dd_L_law_822 : decode (zc mm_L_law) 822 = .ok (.iconst 1, 1) := by decide +kernel
theorem dd_L_law_823 : decode (zc mm_L_law) 823 = .ok (.iadd, 1) := by decide +kernel
theorem dd_L_law_824 : decode (zc mm_L_law) 824 = .ok (.iaload, 1) := by decide +kernel
theorem dd_L_law_825 : decode (zc mm_L_law) 825 = .ok (.aload_n 0, 1) := by decide +kernel
theorem dd_L_law_826 : decode (zc mm_L_law) 826 = .ok (.iload_n 3, 1) := by decide +kernel
theorem dd_L_law_827 : decode (zc mm_L_law) 827 = .ok (.iconst 2, 1) := by decide +kernel
theorem dd_L_law_828 : decode (zc mm_L_law) 828 = .ok (.iadd, 1) := by decide +kernel
theorem dd_L_law_829 : decode (zc mm_L_law) 829 = .ok (.iaload, 1) := by decide +kernel
theorem dd_L_law_830 : decode (zc mm_L_law) 830 = .ok (.aload_n 0, 1) := by decide +kernel
theorem dd_L_law_831 : decode (zc mm_L_law) 831 = .ok (.iload_n 3, 1) := by decide +kernel
theorem dd_L_law_832 : decode (zc mm_L_law) 832 = .ok (.iconst 3, 1) := by decide +kernel
theorem dd_L_law_833 : decode (zc mm_L_law) 833 = .ok (.iadd, 1) := by decide +kernel
theorem dd_L_law_834 : decode (zc mm_L_law) 834 = .ok (.iaload, 1) := by decide +kernel
theorem dd_L_law_835 : decode (zc mm_L_law) 835 = .ok (.aload_n 0, 1) := by decide +kernel
theorem dd_L_law_836 : decode (zc mm_L_law) 836 = .ok (.iload_n 3, 1) := by decide +kernel
theorem dd_L_law_837 : decode (zc mm_L_law) 837 = .ok (.iconst 4, 1) := by decide +kernel
theorem dd_L_law_838 : decode (zc mm_L_law) 838 = .ok (.iadd, 1) := by decide +kernel
theorem dd_L_law_839 : decode (zc mm_L_law) 839 = .ok (.iaload, 1) := by decide +kernel
theorem dd_L_law_840 : decode (zc mm_L_law) 840 = .ok (.aload_n 0, 1) := by decide +kernel
theorem dd_L_law_841 : decode (zc mm_L_law) 841 = .ok (.iload_n 3, 1) := by decide +kernel
theorem dd_L_law_842 : decode (zc mm_L_law) 842 = .ok (.iconst 5, 1) := by decide +kernel
theorem dd_L_law_843 : decode (zc mm_L_law) 843 = .ok (.iadd, 1) := by decide +kernel
theorem dd_L_law_844 : decode (zc mm_L_law) 844 = .ok (.iaload, 1) := by decide +kernel
theorem dd_L_law_845 : decode (zc mm_L_law) 845 = .ok (.invokevirtual 79, 3) := by decide +kernel
theorem dd_L_law_848 : decode (zc mm_L_law) 848 = .ok (.if_icmp .eq 941, 3) := by decide +kernel
theorem dd_L_law_851 : decode (zc mm_L_law) 851 = .ok (.iconst 0, 1) := by decide +kernel
theorem dd_L_law_852 : decode (zc mm_L_law) 852 = .ok (.ireturn, 1) := by decide +kernel
theorem dd_L_law_853 : decode (zc mm_L_law) 853 = .ok (.aload_n 1, 1) := by decide +kernel
theorem dd_L_law_854 : decode (zc mm_L_law) 854 = .ok (.aload_n 0, 1) := by decide +kernel
theorem dd_L_law_855 : decode (zc mm_L_law) 855 = .ok (.iload_n 3, 1) := by decide +kernel
theorem dd_L_law_856 : decode (zc mm_L_law) 856 = .ok (.iconst 1, 1) := by decide +kernel
theorem dd_L_law_857 : decode (zc mm_L_law) 857 = .ok (.iadd, 1) := by decide +kernel
theorem dd_L_law_858 : decode (zc mm_L_law) 858 = .ok (.iaload, 1) := by decide +kernel
theorem dd_L_law_859 : decode (zc mm_L_law) 859 = .ok (.aload_n 0, 1) := by decide +kernel
theorem dd_L_law_860 : decode (zc mm_L_law) 860 = .ok (.iload_n 3, 1) := by decide +kernel
theorem dd_L_law_861 : decode (zc mm_L_law) 861 = .ok (.iconst 2, 1) := by decide +kernel
theorem dd_L_law_862 : decode (zc mm_L_law) 862 = .ok (.iadd, 1) := by decide +kernel
theorem dd_L_law_863 : decode (zc mm_L_law) 863 = .ok (.iaload, 1) := by decide +kernel
theorem dd_L_law_864 : decode (zc mm_L_law) 864 = .ok (.aload_n 0, 1) := by decide +kernel
theorem dd_L_law_865 : decode (zc mm_L_law) 865 = .ok (.iload_n 3, 1) := by decide +kernel
theorem dd_L_law_866 : decode (zc mm_L_law) 866 = .ok (.iconst 3, 1) := by decide +kernel
theorem dd_L_law_867 : decode (zc mm_L_law) 867 = .ok (.iadd, 1) := by decide +kernel
theorem dd_L_law_868 : decode (zc mm_L_law) 868 = .ok (.iaload, 1) := by decide +kernel
theorem dd_L_law_869 : decode (zc mm_L_law) 869 = .ok (.aload_n 0, 1) := by decide +kernel
theorem dd_L_law_870 : decode (zc mm_L_law) 870 = .ok (.iload_n 3, 1) := by decide +kernel
theorem dd_L_law_871 : decode (zc mm_L_law) 871 = .ok (.iconst 4, 1) := by decide +kernel
theorem dd_L_law_872 : decode (zc mm_L_law) 872 = .ok (.iadd, 1) := by decide +kernel
theorem dd_L_law_873 : decode (zc mm_L_law) 873 = .ok (.iaload, 1) := by decide +kernel
theorem dd_L_law_874 : decode (zc mm_L_law) 874 = .ok (.aload_n 0, 1) := by decide +kernel
theorem dd_L_law_875 : decode (zc mm_L_law) 875 = .ok (.iload_n 3, 1) := by decide +kernel
theorem dd_L_law_876 : decode (zc mm_L_law) 876 = .ok (.iconst 5, 1) := by decide +kernel
theorem dd_L_law_877 : decode (zc mm_L_law) 877 = .ok (.iadd, 1) := by decide +kernel
theorem dd_L_law_878 : decode (zc mm_L_law) 878 = .ok (.iaload, 1) := by decide +kernel
theorem dd_L_law_879 : decode (zc mm_L_law) 879 = .ok (.invokevirtual 80, 3) := by decide +kernel
theorem dd_L_law_882 : decode (zc mm_L_law) 882 = .ok (.aload_n 2, 1) := by decide +kernel
theorem dd_L_law_883 : decode (zc mm_L_law) 883 = .ok (.aload_n 0, 1) := by decide +kernel
theorem dd_L_law_884 : decode (zc mm_L_law) 884 = .ok (.iload_n 3, 1) := by decide +kernel
theorem dd_L_law_885 : decode (zc mm_L_law) 885 = .ok (.iconst 1, 1) := by decide +kernel
theorem dd_L_law_886 : decode (zc mm_L_law) 886 = .ok (.iadd, 1) := by decide +kernel
theorem dd_L_law_887 : decode (zc mm_L_law) 887 = .ok (.iaload, 1) := by decide +kernel
theorem dd_L_law_888 : decode (zc mm_L_law) 888 = .ok (.aload_n 0, 1) := by decide +kernel
theorem dd_L_law_889 : decode (zc mm_L_law) 889 = .ok (.iload_n 3, 1) := by decide +kernel
theorem dd_L_law_890 : decode (zc mm_L_law) 890 = .ok (.iconst 2, 1) := by decide +kernel
theorem dd_L_law_891 : decode (zc mm_L_law) 891 = .ok (.iadd, 1) := by decide +kernel
theorem dd_L_law_892 : decode (zc mm_L_law) 892 = .ok (.iaload, 1) := by decide +kernel
theorem dd_L_law_893 : decode (zc mm_L_law) 893 = .ok (.aload_n 0, 1) := by decide +kernel
theorem dd_L_law_894 : decode (zc mm_L_law) 894 = .ok (.iload_n 3, 1) := by decide +kernel
theorem dd_L_law_895 : decode (zc mm_L_law) 895 = .ok (.iconst 3, 1) := by decide +kernel
theorem dd_L_law_896 : decode (zc mm_L_law) 896 = .ok (.iadd, 1) := by decide +kernel
theorem dd_L_law_897 : decode (zc mm_L_law) 897 = .ok (.iaload, 1) := by decide +kernel
theorem dd_L_law_898 : decode (zc mm_L_law) 898 = .ok (.aload_n 0, 1) := by decide +kernel
theorem dd_L_law_899 : decode (zc mm_L_law) 899 = .ok (.iload_n 3, 1) := by decide +kernel
theorem dd_L_law_900 : decode (zc mm_L_law) 900 = .ok (.iconst 4, 1) := by decide +kernel
theorem dd_L_law_901 : decode (zc mm_L_law) 901 = .ok (.iadd, 1) := by decide +kernel
theorem dd_L_law_902 : decode (zc mm_L_law) 902 = .ok (.iaload, 1) := by decide +kernel
theorem dd_L_law_903 : decode (zc mm_L_law) 903 = .ok (.aload_n 0, 1) := by decide +kernel
theorem dd_L_law_904 : decode (zc mm_L_law) 904 = .ok (.iload_n 3, 1) := by decide +kernel
theorem dd_L_law_905 : decode (zc mm_L_law) 905 = .ok (.iconst 5, 1) := by decide +kernel
theorem dd_L_law_906 : decode (zc mm_L_law) 906 = .ok (.iadd, 1) := by decide +kernel
theorem dd_L_law_907 : decode (zc mm_L_law) 907 = .ok (.iaload, 1) := by decide +kernel
theorem dd_L_law_908 : decode (zc mm_L_law) 908 = .ok (.invokevirtual 83, 3) := by decide +kernel
theorem dd_L_law_911 : decode (zc mm_L_law) 911 = .ok (.if_icmp .eq 878, 3) := by decide +kernel
theorem dd_L_law_914 : decode (zc mm_L_law) 914 = .ok (.iconst 0, 1) := by decide +kernel
theorem dd_L_law_915 : decode (zc mm_L_law) 915 = .ok (.ireturn, 1) := by decide +kernel
theorem dd_L_law_916 : decode (zc mm_L_law) 916 = .ok (.aload_n 1, 1) := by decide +kernel
theorem dd_L_law_917 : decode (zc mm_L_law) 917 = .ok (.aload_n 0, 1) := by decide +kernel
theorem dd_L_law_918 : decode (zc mm_L_law) 918 = .ok (.iload_n 3, 1) := by decide +kernel
theorem dd_L_law_919 : decode (zc mm_L_law) 919 = .ok (.iconst 1, 1) := by decide +kernel
theorem dd_L_law_920 : decode (zc mm_L_law) 920 = .ok (.iadd, 1) := by decide +kernel
theorem dd_L_law_921 : decode (zc mm_L_law) 921 = .ok (.iaload, 1) := by decide +kernel
theorem dd_L_law_922 : decode (zc mm_L_law) 922 = .ok (.aload_n 0, 1) := by decide +kernel
theorem dd_L_law_923 : decode (zc mm_L_law) 923 = .ok (.iload_n 3, 1) := by decide +kernel
theorem dd_L_law_924 : decode (zc mm_L_law) 924 = .ok (.iconst 2, 1) := by decide +kernel
theorem dd_L_law_925 : decode (zc mm_L_law) 925 = .ok (.iadd, 1) := by decide +kernel
theorem dd_L_law_926 : decode (zc mm_L_law) 926 = .ok (.iaload, 1) := by decide +kernel
theorem dd_L_law_927 : decode (zc mm_L_law) 927 = .ok (.aload_n 0, 1) := by decide +kernel
theorem dd_L_law_928 : decode (zc mm_L_law) 928 = .ok (.iload_n 3, 1) := by decide +kernel
theorem dd_L_law_929 : decode (zc mm_L_law) 929 = .ok (.iconst 3, 1) := by decide +kernel
theorem dd_L_law_930 : decode (zc mm_L_law) 930 = .ok (.iadd, 1) := by decide +kernel
theorem dd_L_law_931 : decode (zc mm_L_law) 931 = .ok (.iaload, 1) := by decide +kernel
theorem dd_L_law_932 : decode (zc mm_L_law) 932 = .ok (.aload_n 0, 1) := by decide +kernel
theorem dd_L_law_933 : decode (zc mm_L_law) 933 = .ok (.iload_n 3, 1) := by decide +kernel
theorem dd_L_law_934 : decode (zc mm_L_law) 934 = .ok (.iconst 4, 1) := by decide +kernel
theorem dd_L_law_935 : decode (zc mm_L_law) 935 = .ok (.iadd, 1) := by decide +kernel
theorem dd_L_law_936 : decode (zc mm_L_law) 936 = .ok (.iaload, 1) := by decide +kernel
theorem dd_L_law_937 : decode (zc mm_L_law) 937 = .ok (.invokevirtual 84, 3) := by decide +kernel
theorem dd_L_law_940 : decode (zc mm_L_law) 940 = .ok (.aload_n 2, 1) := by decide +kernel
theorem dd_L_law_941 : decode (zc mm_L_law) 941 = .ok (.aload_n 0, 1) := by decide +kernel
theorem dd_L_law_942 : decode (zc mm_L_law) 942 = .ok (.iload_n 3, 1) := by decide +kernel
theorem dd_L_law_943 : decode (zc mm_L_law) 943 = .ok (.iconst 1, 1) := by decide +kernel
theorem dd_L_law_944 : decode (zc mm_L_law) 944 = .ok (.iadd, 1) := by decide +kernel
theorem dd_L_law_945 : decode (zc mm_L_law) 945 = .ok (.iaload, 1) := by decide +kernel
theorem dd_L_law_946 : decode (zc mm_L_law) 946 = .ok (.aload_n 0, 1) := by decide +kernel
theorem dd_L_law_947 : decode (zc mm_L_law) 947 = .ok (.iload_n 3, 1) := by decide +kernel
theorem dd_L_law_948 : decode (zc mm_L_law) 948 = .ok (.iconst 2, 1) := by decide +kernel
theorem dd_L_law_949 : decode (zc mm_L_law) 949 = .ok (.iadd, 1) := by decide +kernel
theorem dd_L_law_950 : decode (zc mm_L_law) 950 = .ok (.iaload, 1) := by decide +kernel
theorem dd_L_law_951 : decode (zc mm_L_law) 951 = .ok (.aload_n 0, 1) := by decide +kernel
theorem dd_L_law_952 : decode (zc mm_L_law) 952 = .ok (.iload_n 3, 1) := by decide +kernel
theorem dd_L_law_953 : decode (zc mm_L_law) 953 = .ok (.iconst 3, 1) := by decide +kernel
theorem dd_L_law_954 : decode (zc mm_L_law) 954 = .ok (.iadd, 1) := by decide +kernel
theorem dd_L_law_955 : decode (zc mm_L_law) 955 = .ok (.iaload, 1) := by decide +kernel
theorem dd_L_law_956 : decode (zc mm_L_law) 956 = .ok (.aload_n 0, 1) := by decide +kernel
theorem dd_L_law_957 : decode (zc mm_L_law) 957 = .ok (.iload_n 3, 1) := by decide +kernel
theorem dd_L_law_958 : decode (zc mm_L_law) 958 = .ok (.iconst 4, 1) := by decide +kernel
theorem dd_L_law_959 : decode (zc mm_L_law) 959 = .ok (.iadd, 1) := by decide +kernel
theorem dd_L_law_960 : decode (zc mm_L_law) 960 = .ok (.iaload, 1) := by decide +kernel
theorem dd_L_law_961 : decode (zc mm_L_law) 961 = .ok (.invokevirtual 87, 3) := by decide +kernel
theorem dd_L_law_964 : decode (zc mm_L_law) 964 = .ok (.if_icmp .eq 825, 3) := by decide +kernel
theorem dd_L_law_967 : decode (zc mm_L_law) 967 = .ok (.iconst 0, 1) := by decide +kernel
theorem dd_L_law_968 : decode (zc mm_L_law) 968 = .ok (.ireturn, 1) := by decide +kernel
theorem dd_L_law_969 : decode (zc mm_L_law) 969 = .ok (.aload_n 1, 1) := by decide +kernel
theorem dd_L_law_970 : decode (zc mm_L_law) 970 = .ok (.aload_n 0, 1) := by decide +kernel
theorem dd_L_law_971 : decode (zc mm_L_law) 971 = .ok (.iload_n 3, 1) := by decide +kernel
theorem dd_L_law_972 : decode (zc mm_L_law) 972 = .ok (.iconst 1, 1) := by decide +kernel
theorem dd_L_law_973 : decode (zc mm_L_law) 973 = .ok (.iadd, 1) := by decide +kernel
theorem dd_L_law_974 : decode (zc mm_L_law) 974 = .ok (.iaload, 1) := by decide +kernel
theorem dd_L_law_975 : decode (zc mm_L_law) 975 = .ok (.aload_n 0, 1) := by decide +kernel
theorem dd_L_law_976 : decode (zc mm_L_law) 976 = .ok (.iload_n 3, 1) := by decide +kernel
theorem dd_L_law_977 : decode (zc mm_L_law) 977 = .ok (.iconst 2, 1) := by decide +kernel
theorem dd_L_law_978 : decode (zc mm_L_law) 978 = .ok (.iadd, 1) := by decide +kernel
theorem dd_L_law_979 : decode (zc mm_L_law) 979 = .ok (.iaload, 1) := by decide +kernel
theorem dd_L_law_980 : decode (zc mm_L_law) 980 = .ok (.aload_n 0, 1) := by decide +kernel
theorem dd_L_law_981 : decode (zc mm_L_law) 981 = .ok (.iload_n 3, 1) := by decide +kernel
theorem dd_L_law_982 : decode (zc mm_L_law) 982 = .ok (.iconst 3, 1) := by decide +kernel
theorem dd_L_law_983 : decode (zc mm_L_law) 983 = .ok (.iadd, 1) := by decide +kernel
theorem dd_L_law_984 : decode (zc mm_L_law) 984 = .ok (.iaload, 1) := by decide +kernel
theorem dd_L_law_985 : decode (zc mm_L_law) 985 = .ok (.aload_n 0, 1) := by decide +kernel
theorem dd_L_law_986 : decode (zc mm_L_law) 986 = .ok (.iload_n 3, 1) := by decide +kernel
theorem dd_L_law_987 : decode (zc mm_L_law) 987 = .ok (.iconst 4, 1) := by decide +kernel
theorem dd_L_law_988 : decode (zc mm_L_law) 988 = .ok (.iadd, 1) := by decide +kernel
theorem dd_L_law_989 : decode (zc mm_L_law) 989 = .ok (.iaload, 1) := by decide +kernel
theorem dd_L_law_990 : decode (zc mm_L_law) 990 = .ok (.invokevirtual 88, 3) := by decide +kernel
theorem dd_L_law_993 : decode (zc mm_L_law) 993 = .ok (.aload_n 2, 1) := by decide +kernel
theorem dd_L_law_994 : decode (zc mm_L_law) 994 = .ok (.aload_n 0, 1) := by decide +kernel
theorem dd_L_law_995 : decode (zc mm_L_law) 995 = .ok (.iload_n 3, 1) := by decide +kernel
theorem dd_L_law_996 : decode (zc mm_L_law) 996 = .ok (.iconst 1, 1) := by decide +kernel
theorem dd_L_law_997 : decode (zc mm_L_law) 997 = .ok (.iadd, 1) := by decide +kernel
theorem dd_L_law_998 : decode (zc mm_L_law) 998 = .ok (.iaload, 1) := by decide +kernel
theorem dd_L_law_999 : decode (zc mm_L_law) 999 = .ok (.aload_n 0, 1) := by decide +kernel
theorem dd_L_law_1000 : decode (zc mm_L_law) 1000 = .ok (.iload_n 3, 1) := by decide +kernel
theorem dd_L_law_1001 : decode (zc mm_L_law) 1001 = .ok (.iconst 2, 1) := by decide +kernel
theorem dd_L_law_1002 : decode (zc mm_L_law) 1002 = .ok (.iadd, 1) := by decide +kernel
theorem dd_L_law_1003 : decode (zc mm_L_law) 1003 = .ok (.iaload, 1) := by decide +kernel
theorem dd_L_law_1004 : decode (zc mm_L_law) 1004 = .ok (.aload_n 0, 1) := by decide +kernel
theorem dd_L_law_1005 : decode (zc mm_L_law) 1005 = .ok (.iload_n 3, 1) := by decide +kernel
theorem dd_L_law_1006 : decode (zc mm_L_law) 1006 = .ok (.iconst 3, 1) := by decide +kernel
theorem dd_L_law_1007 : decode (zc mm_L_law) 1007 = .ok (.iadd, 1) := by decide +kernel
theorem dd_L_law_1008 : decode (zc mm_L_law) 1008 = .ok (.iaload, 1) := by decide +kernel
theorem dd_L_law_1009 : decode (zc mm_L_law) 1009 = .ok (.aload_n 0, 1) := by decide +kernel
theorem dd_L_law_1010 : decode (zc mm_L_law) 1010 = .ok (.iload_n 3, 1) := by decide +kernel
theorem dd_L_law_1011 : decode (zc mm_L_law) 1011 = .ok (.iconst 4, 1) := by decide +kernel
theorem dd_L_law_1012 : decode (zc mm_L_law) 1012 = .ok (.iadd, 1) := by decide +kernel
theorem dd_L_law_1013 : decode (zc mm_L_law) 1013 = .ok (.iaload, 1) := by decide +kernel
theorem dd_L_law_1014 : decode (zc mm_L_law) 1014 = .ok (.invokevirtual 91, 3) := by decide +kernel
theorem dd_L_law_1017 : decode (zc mm_L_law) 1017 = .ok (.if_icmp .eq 772, 3) := by decide +kernel
theorem dd_L_law_1020 : decode (zc mm_L_law) 1020 = .ok (.iconst 0, 1) := by decide +kernel
theorem dd_L_law_1021 : decode (zc mm_L_law) 1021 = .ok (.ireturn, 1) := by decide +kernel
theorem dd_L_law_1022 : decode (zc mm_L_law) 1022 = .ok (.aload_n 1, 1) := by decide +kernel
theorem dd_L_law_1023 : decode (zc mm_L_law) 1023 = .ok (.aload_n 0, 1) := by decide +kernel
theorem dd_L_law_1024 : decode (zc mm_L_law) 1024 = .ok (.iload_n 3, 1) := by decide +kernel
theorem dd_L_law_1025 : decode (zc mm_L_law) 1025 = .ok (.iconst 1, 1) := by decide +kernel
theorem dd_L_law_1026 : decode (zc mm_L_law) 1026 = .ok (.iadd, 1) := by decide +kernel
theorem dd_L_law_1027 : decode (zc mm_L_law) 1027 = .ok (.iaload, 1) := by decide +kernel
theorem dd_L_law_1028 : decode (zc mm_L_law) 1028 = .ok (.aload_n 0, 1) := by decide +kernel
theorem dd_L_law_1029 : decode (zc mm_L_law) 1029 = .ok (.iload_n 3, 1) := by decide +kernel
theorem dd_L_law_1030 : decode (zc mm_L_law) 1030 = .ok (.iconst 2, 1) := by decide +kernel
theorem dd_L_law_1031 : decode (zc mm_L_law) 1031 = .ok (.iadd, 1) := by decide +kernel
theorem dd_L_law_1032 : decode (zc mm_L_law) 1032 = .ok (.iaload, 1) := by decide +kernel
theorem dd_L_law_1033 : decode (zc mm_L_law) 1033 = .ok (.aload_n 0, 1) := by decide +kernel
theorem dd_L_law_1034 : decode (zc mm_L_law) 1034 = .ok (.iload_n 3, 1) := by decide +kernel
theorem dd_L_law_1035 : decode (zc mm_L_law) 1035 = .ok (.iconst 3, 1) := by decide +kernel
theorem dd_L_law_1036 : decode (zc mm_L_law) 1036 = .ok (.iadd, 1) := by decide +kernel
theorem dd_L_law_1037 : decode (zc mm_L_law) 1037 = .ok (.iaload, 1) := by decide +kernel
theorem dd_L_law_1038 : decode (zc mm_L_law) 1038 = .ok (.invokevirtual 92, 3) := by decide +kernel
theorem dd_L_law_1041 : decode (zc mm_L_law) 1041 = .ok (.aload_n 2, 1) := by decide +kernel
theorem dd_L_law_1042 : decode (zc mm_L_law) 1042 = .ok (.aload_n 0, 1) := by decide +kernel
theorem dd_L_law_1043 : decode (zc mm_L_law) 1043 = .ok (.iload_n 3, 1) := by decide +kernel
theorem dd_L_law_1044 : decode (zc mm_L_law) 1044 = .ok (.iconst 1, 1) := by decide +kernel
theorem dd_L_law_1045 : decode (zc mm_L_law) 1045 = .ok (.iadd, 1) := by decide +kernel
theorem dd_L_law_1046 : decode (zc mm_L_law) 1046 = .ok (.iaload, 1) := by decide +kernel
theorem dd_L_law_1047 : decode (zc mm_L_law) 1047 = .ok (.aload_n 0, 1) := by decide +kernel
theorem dd_L_law_1048 : decode (zc mm_L_law) 1048 = .ok (.iload_n 3, 1) := by decide +kernel
theorem dd_L_law_1049 : decode (zc mm_L_law) 1049 = .ok (.iconst 2, 1) := by decide +kernel
theorem dd_L_law_1050 : decode (zc mm_L_law) 1050 = .ok (.iadd, 1) := by decide +kernel
theorem dd_L_law_1051 : decode (zc mm_L_law) 1051 = .ok (.iaload, 1) := by decide +kernel
theorem dd_L_law_1052 : decode (zc mm_L_law) 1052 = .ok (.aload_n 0, 1) := by decide +kernel
theorem dd_L_law_1053 : decode (zc mm_L_law) 1053 = .ok (.iload_n 3, 1) := by decide +kernel
theorem dd_L_law_1054 : decode (zc mm_L_law) 1054 = .ok (.iconst 3, 1) := by decide +kernel
theorem dd_L_law_1055 : decode (zc mm_L_law) 1055 = .ok (.iadd, 1) := by decide +kernel
theorem dd_L_law_1056 : decode (zc mm_L_law) 1056 = .ok (.iaload, 1) := by decide +kernel
theorem dd_L_law_1057 : decode (zc mm_L_law) 1057 = .ok (.invokevirtual 95, 3) := by decide +kernel
theorem dd_L_law_1060 : decode (zc mm_L_law) 1060 = .ok (.if_icmp .eq 729, 3) := by decide +kernel
theorem dd_L_law_1063 : decode (zc mm_L_law) 1063 = .ok (.iconst 0, 1) := by decide +kernel
theorem dd_L_law_1064 : decode (zc mm_L_law) 1064 = .ok (.ireturn, 1) := by decide +kernel
theorem dd_L_law_1065 : decode (zc mm_L_law) 1065 = .ok (.aload_n 1, 1) := by decide +kernel
theorem dd_L_law_1066 : decode (zc mm_L_law) 1066 = .ok (.aload_n 0, 1) := by decide +kernel
theorem dd_L_law_1067 : decode (zc mm_L_law) 1067 = .ok (.iload_n 3, 1) := by decide +kernel
theorem dd_L_law_1068 : decode (zc mm_L_law) 1068 = .ok (.iconst 1, 1) := by decide +kernel
theorem dd_L_law_1069 : decode (zc mm_L_law) 1069 = .ok (.iadd, 1) := by decide +kernel
theorem dd_L_law_1070 : decode (zc mm_L_law) 1070 = .ok (.iaload, 1) := by decide +kernel
theorem dd_L_law_1071 : decode (zc mm_L_law) 1071 = .ok (.aload_n 0, 1) := by decide +kernel
theorem dd_L_law_1072 : decode (zc mm_L_law) 1072 = .ok (.iload_n 3, 1) := by decide +kernel
theorem dd_L_law_1073 : decode (zc mm_L_law) 1073 = .ok (.iconst 2, 1) := by decide +kernel
theorem dd_L_law_1074 : decode (zc mm_L_law) 1074 = .ok (.iadd, 1) := by decide +kernel
theorem dd_L_law_1075 : decode (zc mm_L_law) 1075 = .ok (.iaload, 1) := by decide +kernel
theorem dd_L_law_1076 : decode (zc mm_L_law) 1076 = .ok (.aload_n 0, 1) := by decide +kernel
theorem dd_L_law_1077 : decode (zc mm_L_law) 1077 = .ok (.iload_n 3, 1) := by decide +kernel
theorem dd_L_law_1078 : decode (zc mm_L_law) 1078 = .ok (.iconst 3, 1) := by decide +kernel
theorem dd_L_law_1079 : decode (zc mm_L_law) 1079 = .ok (.iadd, 1) := by decide +kernel
theorem dd_L_law_1080 : decode (zc mm_L_law) 1080 = .ok (.iaload, 1) := by decide +kernel
theorem dd_L_law_1081 : decode (zc mm_L_law) 1081 = .ok (.invokevirtual 96, 3) := by decide +kernel
theorem dd_L_law_1084 : decode (zc mm_L_law) 1084 = .ok (.aload_n 2, 1) := by decide +kernel
theorem dd_L_law_1085 : decode (zc mm_L_law) 1085 = .ok (.aload_n 0, 1) := by decide +kernel
theorem dd_L_law_1086 : decode (zc mm_L_law) 1086 = .ok (.iload_n 3, 1) := by decide +kernel
theorem dd_L_law_1087 : decode (zc mm_L_law) 1087 = .ok (.iconst 1, 1) := by decide +kernel
theorem dd_L_law_1088 : decode (zc mm_L_law) 1088 = .ok (.iadd, 1) := by decide +kernel
theorem dd_L_law_1089 : decode (zc mm_L_law) 1089 = .ok (.iaload, 1) := by decide +kernel
theorem dd_L_law_1090 : decode (zc mm_L_law) 1090 = .ok (.aload_n 0, 1) := by decide +kernel
theorem dd_L_law_1091 : decode (zc mm_L_law) 1091 = .ok (.iload_n 3, 1) := by decide +kernel
theorem dd_L_law_1092 : decode (zc mm_L_law) 1092 = .ok (.iconst 2, 1) := by decide +kernel
theorem dd_L_law_1093 : decode (zc mm_L_law) 1093 = .ok (.iadd, 1) := by decide +kernel
theorem dd_L_law_1094 : decode (zc mm_L_law) 1094 = .ok (.iaload, 1) := by decide +kernel
theorem dd_L_law_1095 : decode (zc mm_L_law) 1095 = .ok (.aload_n 0, 1) := by decide +kernel
theorem dd_L_law_1096 : decode (zc mm_L_law) 1096 = .ok (.iload_n 3, 1) := by decide +kernel
theorem dd_L_law_1097 : decode (zc mm_L_law) 1097 = .ok (.iconst 3, 1) := by decide +kernel
theorem dd_L_law_1098 : decode (zc mm_L_law) 1098 = .ok (.iadd, 1) := by decide +kernel
theorem dd_L_law_1099 : decode (zc mm_L_law) 1099 = .ok (.iaload, 1) := by decide +kernel
theorem dd_L_law_1100 : decode (zc mm_L_law) 1100 = .ok (.invokevirtual 99, 3) := by decide +kernel
theorem dd_L_law_1103 : decode (zc mm_L_law) 1103 = .ok (.if_icmp .eq 686, 3) := by decide +kernel
theorem dd_L_law_1106 : decode (zc mm_L_law) 1106 = .ok (.iconst 0, 1) := by decide +kernel
theorem dd_L_law_1107 : decode (zc mm_L_law) 1107 = .ok (.ireturn, 1) := by decide +kernel
theorem dd_L_law_1108 : decode (zc mm_L_law) 1108 = .ok (.aload_n 1, 1) := by decide +kernel
theorem dd_L_law_1109 : decode (zc mm_L_law) 1109 = .ok (.aload_n 0, 1) := by decide +kernel
theorem dd_L_law_1110 : decode (zc mm_L_law) 1110 = .ok (.iload_n 3, 1) := by decide +kernel
theorem dd_L_law_1111 : decode (zc mm_L_law) 1111 = .ok (.iconst 1, 1) := by decide +kernel
theorem dd_L_law_1112 : decode (zc mm_L_law) 1112 = .ok (.iadd, 1) := by decide +kernel
theorem dd_L_law_1113 : decode (zc mm_L_law) 1113 = .ok (.iaload, 1) := by decide +kernel
theorem dd_L_law_1114 : decode (zc mm_L_law) 1114 = .ok (.aload_n 0, 1) := by decide +kernel
theorem dd_L_law_1115 : decode (zc mm_L_law) 1115 = .ok (.iload_n 3, 1) := by decide +kernel
theorem dd_L_law_1116 : decode (zc mm_L_law) 1116 = .ok (.iconst 2, 1) := by decide +kernel
theorem dd_L_law_1117 : decode (zc mm_L_law) 1117 = .ok (.iadd, 1) := by decide +kernel
theorem dd_L_law_1118 : decode (zc mm_L_law) 1118 = .ok (.iaload, 1) := by decide +kernel
theorem dd_L_law_1119 : decode (zc mm_L_law) 1119 = .ok (.aload_n 0, 1) := by decide +kernel
theorem dd_L_law_1120 : decode (zc mm_L_law) 1120 = .ok (.iload_n 3, 1) := by decide +kernel
theorem dd_L_law_1121 : decode (zc mm_L_law) 1121 = .ok (.iconst 3, 1) := by decide +kernel
theorem dd_L_law_1122 : decode (zc mm_L_law) 1122 = .ok (.iadd, 1) := by decide +kernel
theorem dd_L_law_1123 : decode (zc mm_L_law) 1123 = .ok (.iaload, 1) := by decide +kernel
theorem dd_L_law_1124 : decode (zc mm_L_law) 1124 = .ok (.invokevirtual 100, 3) := by decide +kernel
theorem dd_L_law_1127 : decode (zc mm_L_law) 1127 = .ok (.aload_n 2, 1) := by decide +kernel
theorem dd_L_law_1128 : decode (zc mm_L_law) 1128 = .ok (.aload_n 0, 1) := by decide +kernel
theorem dd_L_law_1129 : decode (zc mm_L_law) 1129 = .ok (.iload_n 3, 1) := by decide +kernel
theorem dd_L_law_1130 : decode (zc mm_L_law) 1130 = .ok (.iconst 1, 1) := by decide +kernel
theorem dd_L_law_1131 : decode (zc mm_L_law) 1131 = .ok (.iadd, 1) := by decide +kernel
theorem dd_L_law_1132 : decode (zc mm_L_law) 1132 = .ok (.iaload, 1) := by decide +kernel
theorem dd_L_law_1133 : decode (zc mm_L_law) 1133 = .ok (.aload_n 0, 1) := by decide +kernel
theorem dd_L_law_1134 : decode (zc mm_L_law) 1134 = .ok (.iload_n 3, 1) := by decide +kernel
theorem dd_L_law_1135 : decode (zc mm_L_law) 1135 = .ok (.iconst 2, 1) := by decide +kernel
theorem dd_L_law_1136 : decode (zc mm_L_law) 1136 = .ok (.iadd, 1) := by decide +kernel
theorem dd_L_law_1137 : decode (zc mm_L_law) 1137 = .ok (.iaload, 1) := by decide +kernel
theorem dd_L_law_1138 : decode (zc mm_L_law) 1138 = .ok (.aload_n 0, 1) := by decide +kernel
theorem dd_L_law_1139 : decode (zc mm_L_law) 1139 = .ok (.iload_n 3, 1) := by decide +kernel
theorem dd_L_law_1140 : decode (zc mm_L_law) 1140 = .ok (.iconst 3, 1) := by decide +kernel
theorem dd_L_law_1141 : decode (zc mm_L_law) 1141 = .ok (.iadd, 1) := by decide +kernel
theorem dd_L_law_1142 : decode (zc mm_L_law) 1142 = .ok (.iaload, 1) := by decide +kernel
theorem dd_L_law_1143 : decode (zc mm_L_law) 1143 = .ok (.invokevirtual 103, 3) := by decide +kernel
theorem dd_L_law_1146 : decode (zc mm_L_law) 1146 = .ok (.if_icmp .eq 643, 3) := by decide +kernel
theorem dd_L_law_1149 : decode (zc mm_L_law) 1149 = .ok (.iconst 0, 1) := by decide +kernel
theorem dd_L_law_1150 : decode (zc mm_L_law) 1150 = .ok (.ireturn, 1) := by decide +kernel
theorem dd_L_law_1151 : decode (zc mm_L_law) 1151 = .ok (.aload_n 1, 1) := by decide +kernel
theorem dd_L_law_1152 : decode (zc mm_L_law) 1152 = .ok (.aload_n 0, 1) := by decide +kernel
theorem dd_L_law_1153 : decode (zc mm_L_law) 1153 = .ok (.iload_n 3, 1) := by decide +kernel
theorem dd_L_law_1154 : decode (zc mm_L_law) 1154 = .ok (.iconst 1, 1) := by decide +kernel
theorem dd_L_law_1155 : decode (zc mm_L_law) 1155 = .ok (.iadd, 1) := by decide +kernel
theorem dd_L_law_1156 : decode (zc mm_L_law) 1156 = .ok (.iaload, 1) := by decide +kernel
theorem dd_L_law_1157 : decode (zc mm_L_law) 1157 = .ok (.aload_n 0, 1) := by decide +kernel
theorem dd_L_law_1158 : decode (zc mm_L_law) 1158 = .ok (.iload_n 3, 1) := by decide +kernel
theorem dd_L_law_1159 : decode (zc mm_L_law) 1159 = .ok (.iconst 2, 1) := by decide +kernel
theorem dd_L_law_1160 : decode (zc mm_L_law) 1160 = .ok (.iadd, 1) := by decide +kernel
theorem dd_L_law_1161 : decode (zc mm_L_law) 1161 = .ok (.iaload, 1) := by decide +kernel
theorem dd_L_law_1162 : decode (zc mm_L_law) 1162 = .ok (.aload_n 0, 1) := by decide +kernel
theorem dd_L_law_1163 : decode (zc mm_L_law) 1163 = .ok (.iload_n 3, 1) := by decide +kernel
theorem dd_L_law_1164 : decode (zc mm_L_law) 1164 = .ok (.iconst 3, 1) := by decide +kernel
theorem dd_L_law_1165 : decode (zc mm_L_law) 1165 = .ok (.iadd, 1) := by decide +kernel
theorem dd_L_law_1166 : decode (zc mm_L_law) 1166 = .ok (.iaload, 1) := by decide +kernel
theorem dd_L_law_1167 : decode (zc mm_L_law) 1167 = .ok (.invokevirtual 104, 3) := by decide +kernel
theorem dd_L_law_1170 : decode (zc mm_L_law) 1170 = .ok (.aload_n 2, 1) := by decide +kernel
theorem dd_L_law_1171 : decode (zc mm_L_law) 1171 = .ok (.aload_n 0, 1) := by decide +kernel
theorem dd_L_law_1172 : decode (zc mm_L_law) 1172 = .ok (.iload_n 3, 1) := by decide +kernel
theorem dd_L_law_1173 : decode (zc mm_L_law) 1173 = .ok (.iconst 1, 1) := by decide +kernel
theorem dd_L_law_1174 : decode (zc mm_L_law) 1174 = .ok (.iadd, 1) := by decide +kernel
theorem dd_L_law_1175 : decode (zc mm_L_law) 1175 = .ok (.iaload, 1) := by decide +kernel
theorem dd_L_law_1176 : decode (zc mm_L_law) 1176 = .ok (.aload_n 0, 1) := by decide +kernel
theorem dd_L_law_1177 : decode (zc mm_L_law) 1177 = .ok (.iload_n 3, 1) := by decide +kernel
theorem dd_L_law_1178 : decode (zc mm_L_law) 1178 = .ok (.iconst 2, 1) := by decide +kernel
theorem dd_L_law_1179 : decode (zc mm_L_law) 1179 = .ok (.iadd, 1) := by decide +kernel
theorem dd_L_law_1180 : decode (zc mm_L_law) 1180 = .ok (.iaload, 1) := by decide +kernel
theorem dd_L_law_1181 : decode (zc mm_L_law) 1181 = .ok (.aload_n 0, 1) := by decide +kernel
theorem dd_L_law_1182 : decode (zc mm_L_law) 1182 = .ok (.iload_n 3, 1) := by decide +kernel
theorem dd_L_law_1183 : decode (zc mm_L_law) 1183 = .ok (.iconst 3, 1) := by decide +kernel
theorem dd_L_law_1184 : decode (zc mm_L_law) 1184 = .ok (.iadd, 1) := by decide +kernel
theorem dd_L_law_1185 : decode (zc mm_L_law) 1185 = .ok (.iaload, 1) := by decide +kernel
theorem dd_L_law_1186 : decode (zc mm_L_law) 1186 = .ok (.invokevirtual 107, 3) := by decide +kernel
theorem dd_L_law_1189 : decode (zc mm_L_law) 1189 = .ok (.if_icmp .eq 600, 3) := by decide +kernel
theorem dd_L_law_1192 : decode (zc mm_L_law) 1192 = .ok (.iconst 0, 1) := by decide +kernel
theorem dd_L_law_1193 : decode (zc mm_L_law) 1193 = .ok (.ireturn, 1) := by decide +kernel
theorem dd_L_law_1194 : decode (zc mm_L_law) 1194 = .ok (.aload_n 1, 1) := by decide +kernel
theorem dd_L_law_1195 : decode (zc mm_L_law) 1195 = .ok (.aload_n 0, 1) := by decide +kernel
theorem dd_L_law_1196 : decode (zc mm_L_law) 1196 = .ok (.iload_n 3, 1) := by decide +kernel
theorem dd_L_law_1197 : decode (zc mm_L_law) 1197 = .ok (.iconst 1, 1) := by decide +kernel
theorem dd_L_law_1198 : decode (zc mm_L_law) 1198 = .ok (.iadd, 1) := by decide +kernel
theorem dd_L_law_1199 : decode (zc mm_L_law) 1199 = .ok (.iaload, 1) := by decide +kernel
theorem dd_L_law_1200 : decode (zc mm_L_law) 1200 = .ok (.aload_n 0, 1) := by decide +kernel
theorem dd_L_law_1201 : decode (zc mm_L_law) 1201 = .ok (.iload_n 3, 1) := by decide +kernel
theorem dd_L_law_1202 : decode (zc mm_L_law) 1202 = .ok (.iconst 2, 1) := by decide +kernel
theorem dd_L_law_1203 : decode (zc mm_L_law) 1203 = .ok (.iadd, 1) := by decide +kernel
theorem dd_L_law_1204 : decode (zc mm_L_law) 1204 = .ok (.iaload, 1) := by decide +kernel
theorem dd_L_law_1205 : decode (zc mm_L_law) 1205 = .ok (.invokevirtual 108, 3) := by decide +kernel
theorem dd_L_law_1208 : decode (zc mm_L_law) 1208 = .ok (.aload_n 2, 1) := by decide +kernel
theorem dd_L_law_1209 : decode (zc mm_L_law) 1209 = .ok (.aload_n 0, 1) := by decide +kernel
theorem dd_L_law_1210 : decode (zc mm_L_law) 1210 = .ok (.iload_n 3, 1) := by decide +kernel
theorem dd_L_law_1211 : decode (zc mm_L_law) 1211 = .ok (.iconst 1, 1) := by decide +kernel
theorem dd_L_law_1212 : decode (zc mm_L_law) 1212 = .ok (.iadd, 1) := by decide +kernel
theorem dd_L_law_1213 : decode (zc mm_L_law) 1213 = .ok (.iaload, 1) := by decide +kernel
theorem dd_L_law_1214 : decode (zc mm_L_law) 1214 = .ok (.aload_n 0, 1) := by decide +kernel
theorem dd_L_law_1215 : decode (zc mm_L_law) 1215 = .ok (.iload_n 3, 1) := by decide +kernel
theorem dd_L_law_1216 : decode (zc mm_L_law) 1216 = .ok (.iconst 2, 1) := by decide +kernel
theorem dd_L_law_1217 : decode (zc mm_L_law) 1217 = .ok (.iadd, 1) := by decide +kernel
theorem dd_L_law_1218 : decode (zc mm_L_law) 1218 = .ok (.iaload, 1) := by decide +kernel
theorem dd_L_law_1219 : decode (zc mm_L_law) 1219 = .ok (.invokevirtual 111, 3) := by decide +kernel
theorem dd_L_law_1222 : decode (zc mm_L_law) 1222 = .ok (.if_icmp .eq 567, 3) := by decide +kernel
theorem dd_L_law_1225 : decode (zc mm_L_law) 1225 = .ok (.iconst 0, 1) := by decide +kernel
theorem dd_L_law_1226 : decode (zc mm_L_law) 1226 = .ok (.ireturn, 1) := by decide +kernel
theorem dd_L_law_1227 : decode (zc mm_L_law) 1227 = .ok (.aload_n 1, 1) := by decide +kernel
theorem dd_L_law_1228 : decode (zc mm_L_law) 1228 = .ok (.aload_n 0, 1) := by decide +kernel
theorem dd_L_law_1229 : decode (zc mm_L_law) 1229 = .ok (.iload_n 3, 1) := by decide +kernel
theorem dd_L_law_1230 : decode (zc mm_L_law) 1230 = .ok (.iconst 1, 1) := by decide +kernel
theorem dd_L_law_1231 : decode (zc mm_L_law) 1231 = .ok (.iadd, 1) := by decide +kernel
theorem dd_L_law_1232 : decode (zc mm_L_law) 1232 = .ok (.iaload, 1) := by decide +kernel
theorem dd_L_law_1233 : decode (zc mm_L_law) 1233 = .ok (.aload_n 0, 1) := by decide +kernel
theorem dd_L_law_1234 : decode (zc mm_L_law) 1234 = .ok (.iload_n 3, 1) := by decide +kernel
theorem dd_L_law_1235 : decode (zc mm_L_law) 1235 = .ok (.iconst 2, 1) := by decide +kernel
theorem dd_L_law_1236 : decode (zc mm_L_law) 1236 = .ok (.iadd, 1) := by decide +kernel
theorem dd_L_law_1237 : decode (zc mm_L_law) 1237 = .ok (.iaload, 1) := by decide +kernel
theorem dd_L_law_1238 : decode (zc mm_L_law) 1238 = .ok (.invokevirtual 112, 3) := by decide +kernel
theorem dd_L_law_1241 : decode (zc mm_L_law) 1241 = .ok (.aload_n 2, 1) := by decide +kernel
theorem dd_L_law_1242 : decode (zc mm_L_law) 1242 = .ok (.aload_n 0, 1) := by decide +kernel
theorem dd_L_law_1243 : decode (zc mm_L_law) 1243 = .ok (.iload_n 3, 1) := by decide +kernel
theorem dd_L_law_1244 : decode (zc mm_L_law) 1244 = .ok (.iconst 1, 1) := by decide +kernel
theorem dd_L_law_1245 : decode (zc mm_L_law) 1245 = .ok (.iadd, 1) := by decide +kernel
theorem dd_L_law_1246 : decode (zc mm_L_law) 1246 = .ok (.iaload, 1) := by decide +kernel
theorem dd_L_law_1247 : decode (zc mm_L_law) 1247 = .ok (.aload_n 0, 1) := by decide +kernel
theorem dd_L_law_1248 : decode (zc mm_L_law) 1248 = .ok (.iload_n 3, 1) := by decide +kernel
theorem dd_L_law_1249 : decode (zc mm_L_law) 1249 = .ok (.iconst 2, 1) := by decide +kernel
theorem dd_L_law_1250 : decode (zc mm_L_law) 1250 = .ok (.iadd, 1) := by decide +kernel
theorem dd_L_law_1251 : decode (zc mm_L_law) 1251 = .ok (.iaload, 1) := by decide +kernel
theorem dd_L_law_1252 : decode (zc mm_L_law) 1252 = .ok (.invokevirtual 115, 3) := by decide +kernel
theorem dd_L_law_1255 : decode (zc mm_L_law) 1255 = .ok (.if_icmp .eq 534, 3) := by decide +kernel
theorem dd_L_law_1258 : decode (zc mm_L_law) 1258 = .ok (.iconst 0, 1) := by decide +kernel
theorem dd_L_law_1259 : decode (zc mm_L_law) 1259 = .ok (.ireturn, 1) := by decide +kernel
theorem dd_L_law_1260 : decode (zc mm_L_law) 1260 = .ok (.aload_n 1, 1) := by decide +kernel
theorem dd_L_law_1261 : decode (zc mm_L_law) 1261 = .ok (.aload_n 0, 1) := by decide +kernel
theorem dd_L_law_1262 : decode (zc mm_L_law) 1262 = .ok (.iload_n 3, 1) := by decide +kernel
theorem dd_L_law_1263 : decode (zc mm_L_law) 1263 = .ok (.iconst 1, 1) := by decide +kernel
theorem dd_L_law_1264 : decode (zc mm_L_law) 1264 = .ok (.iadd, 1) := by decide +kernel
theorem dd_L_law_1265 : decode (zc mm_L_law) 1265 = .ok (.iaload, 1) := by decide +kernel
theorem dd_L_law_1266 : decode (zc mm_L_law) 1266 = .ok (.invokevirtual 116, 3) := by decide +kernel
theorem dd_L_law_1269 : decode (zc mm_L_law) 1269 = .ok (.aload_n 2, 1) := by decide +kernel
theorem dd_L_law_1270 : decode (zc mm_L_law) 1270 = .ok (.aload_n 0, 1) := by decide +kernel
theorem dd_L_law_1271 : decode (zc mm_L_law) 1271 = .ok (.iload_n 3, 1) := by decide +kernel
theorem dd_L_law_1272 : decode (zc mm_L_law) 1272 = .ok (.iconst 1, 1) := by decide +kernel
theorem dd_L_law_1273 : decode (zc mm_L_law) 1273 = .ok (.iadd, 1) := by decide +kernel
theorem dd_L_law_1274 : decode (zc mm_L_law) 1274 = .ok (.iaload, 1) := by decide +kernel
theorem dd_L_law_1275 : decode (zc mm_L_law) 1275 = .ok (.invokevirtual 119, 3) := by decide +kernel
theorem dd_L_law_1278 : decode (zc mm_L_law) 1278 = .ok (.if_icmp .eq 511, 3) := by decide +kernel
theorem dd_L_law_1281 : decode (zc mm_L_law) 1281 = .ok (.iconst 0, 1) := by decide +kernel
theorem dd_L_law_1282 : decode (zc mm_L_law) 1282 = .ok (.ireturn, 1) := by decide +kernel
theorem dd_L_law_1283 : decode (zc mm_L_law) 1283 = .ok (.aload_n 1, 1) := by decide +kernel
theorem dd_L_law_1284 : decode (zc mm_L_law) 1284 = .ok (.aload_n 0, 1) := by decide +kernel
theorem dd_L_law_1285 : decode (zc mm_L_law) 1285 = .ok (.iload_n 3, 1) := by decide +kernel
theorem dd_L_law_1286 : decode (zc mm_L_law) 1286 = .ok (.iconst 1, 1) := by decide +kernel
theorem dd_L_law_1287 : decode (zc mm_L_law) 1287 = .ok (.iadd, 1) := by decide +kernel
theorem dd_L_law_1288 : decode (zc mm_L_law) 1288 = .ok (.iaload, 1) := by decide +kernel
theorem dd_L_law_1289 : decode (zc mm_L_law) 1289 = .ok (.aload_n 0, 1) := by decide +kernel
theorem dd_L_law_1290 : decode (zc mm_L_law) 1290 = .ok (.iload_n 3, 1) := by decide +kernel
theorem dd_L_law_1291 : decode (zc mm_L_law) 1291 = .ok (.iconst 2, 1) := by decide +kernel
theorem dd_L_law_1292 : decode (zc mm_L_law) 1292 = .ok (.iadd, 1) := by decide +kernel
theorem dd_L_law_1293 : decode (zc mm_L_law) 1293 = .ok (.iaload, 1) := by decide +kernel
theorem dd_L_law_1294 : decode (zc mm_L_law) 1294 = .ok (.aload_n 0, 1) := by decide +kernel
theorem dd_L_law_1295 : decode (zc mm_L_law) 1295 = .ok (.iload_n 3, 1) := by decide +kernel
theorem dd_L_law_1296 : decode (zc mm_L_law) 1296 = .ok (.iconst 3, 1) := by decide +kernel
theorem dd_L_law_1297 : decode (zc mm_L_law) 1297 = .ok (.iadd, 1) := by decide +kernel
theorem dd_L_law_1298 : decode (zc mm_L_law) 1298 = .ok (.iaload, 1) := by decide +kernel
theorem dd_L_law_1299 : decode (zc mm_L_law) 1299 = .ok (.invokevirtual 120, 3) := by decide +kernel
theorem dd_L_law_1302 : decode (zc mm_L_law) 1302 = .ok (.aload_n 2, 1) := by decide +kernel
theorem dd_L_law_1303 : decode (zc mm_L_law) 1303 = .ok (.aload_n 0, 1) := by decide +kernel
theorem dd_L_law_1304 : decode (zc mm_L_law) 1304 = .ok (.iload_n 3, 1) := by decide +kernel
theorem dd_L_law_1305 : decode (zc mm_L_law) 1305 = .ok (.iconst 1, 1) := by decide +kernel
theorem dd_L_law_1306 : decode (zc mm_L_law) 1306 = .ok (.iadd, 1) := by decide +kernel
theorem dd_L_law_1307 : decode (zc mm_L_law) 1307 = .ok (.iaload, 1) := by decide +kernel
theorem dd_L_law_1308 : decode (zc mm_L_law) 1308 = .ok (.aload_n 0, 1) := by decide +kernel
theorem dd_L_law_1309 : decode (zc mm_L_law) 1309 = .ok (.iload_n 3, 1) := by decide +kernel
theorem dd_L_law_1310 : decode (zc mm_L_law) 1310 = .ok (.iconst 2, 1) := by decide +kernel
theorem dd_L_law_1311 : decode (zc mm_L_law) 1311 = .ok (.iadd, 1) := by decide +kernel
theorem dd_L_law_1312 : decode (zc mm_L_law) 1312 = .ok (.iaload, 1) := by decide +kernel
theorem dd_L_law_1313 : decode (zc mm_L_law) 1313 = .ok (.aload_n 0, 1) := by decide +kernel
theorem dd_L_law_1314 : decode (zc mm_L_law) 1314 = .ok (.iload_n 3, 1) := by decide +kernel
theorem dd_L_law_1315 : decode (zc mm_L_law) 1315 = .ok (.iconst 3, 1) := by decide +kernel
theorem dd_L_law_1316 : decode (zc mm_L_law) 1316 = .ok (.iadd, 1) := by decide +kernel
theorem dd_L_law_1317 : decode (zc mm_L_law) 1317 = .ok (.iaload, 1) := by decide +kernel
theorem dd_L_law_1318 : decode (zc mm_L_law) 1318 = .ok (.invokevirtual 123, 3) := by decide +kernel
theorem dd_L_law_1321 : decode (zc mm_L_law) 1321 = .ok (.if_icmp .eq 468, 3) := by decide +kernel
theorem dd_L_law_1324 : decode (zc mm_L_law) 1324 = .ok (.iconst 0, 1) := by decide +kernel
theorem dd_L_law_1325 : decode (zc mm_L_law) 1325 = .ok (.ireturn, 1) := by decide +kernel
theorem dd_L_law_1326 : decode (zc mm_L_law) 1326 = .ok (.aload_n 1, 1) := by decide +kernel
theorem dd_L_law_1327 : decode (zc mm_L_law) 1327 = .ok (.aload_n 0, 1) := by decide +kernel
theorem dd_L_law_1328 : decode (zc mm_L_law) 1328 = .ok (.iload_n 3, 1) := by decide +kernel
theorem dd_L_law_1329 : decode (zc mm_L_law) 1329 = .ok (.iconst 1, 1) := by decide +kernel
theorem dd_L_law_1330 : decode (zc mm_L_law) 1330 = .ok (.iadd, 1) := by decide +kernel
theorem dd_L_law_1331 : decode (zc mm_L_law) 1331 = .ok (.iaload, 1) := by decide +kernel
theorem dd_L_law_1332 : decode (zc mm_L_law) 1332 = .ok (.aload_n 0, 1) := by decide +kernel
theorem dd_L_law_1333 : decode (zc mm_L_law) 1333 = .ok (.iload_n 3, 1) := by decide +kernel
theorem dd_L_law_1334 : decode (zc mm_L_law) 1334 = .ok (.iconst 2, 1) := by decide +kernel
theorem dd_L_law_1335 : decode (zc mm_L_law) 1335 = .ok (.iadd, 1) := by decide +kernel
theorem dd_L_law_1336 : decode (zc mm_L_law) 1336 = .ok (.iaload, 1) := by decide +kernel
theorem dd_L_law_1337 : decode (zc mm_L_law) 1337 = .ok (.invokevirtual 124, 3) := by decide +kernel
theorem dd_L_law_1340 : decode (zc mm_L_law) 1340 = .ok (.aload_n 2, 1) := by decide +kernel
theorem dd_L_law_1341 : decode (zc mm_L_law) 1341 = .ok (.aload_n 0, 1) := by decide +kernel
theorem dd_L_law_1342 : decode (zc mm_L_law) 1342 = .ok (.iload_n 3, 1) := by decide +kernel
theorem dd_L_law_1343 : decode (zc mm_L_law) 1343 = .ok (.iconst 1, 1) := by decide +kernel
theorem dd_L_law_1344 : decode (zc mm_L_law) 1344 = .ok (.iadd, 1) := by decide +kernel
theorem dd_L_law_1345 : decode (zc mm_L_law) 1345 = .ok (.iaload, 1) := by decide +kernel
theorem dd_L_law_1346 : decode (zc mm_L_law) 1346 = .ok (.aload_n 0, 1) := by decide +kernel
theorem dd_L_law_1347 : decode (zc mm_L_law) 1347 = .ok (.iload_n 3, 1) := by decide +kernel
theorem dd_L_law_1348 : decode (zc mm_L_law) 1348 = .ok (.iconst 2, 1) := by decide +kernel
theorem dd_L_law_1349 : decode (zc mm_L_law) 1349 = .ok (.iadd, 1) := by decide +kernel
theorem dd_L_law_1350 : decode (zc mm_L_law) 1350 = .ok (.iaload, 1) := by decide +kernel
theorem dd_L_law_1351 : decode (zc mm_L_law) 1351 = .ok (.invokevirtual 127, 3) := by decide +kernel
theorem dd_L_law_1354 : decode (zc mm_L_law) 1354 = .ok (.if_icmp .eq 435, 3) := by decide +kernel
theorem dd_L_law_1357 : decode (zc mm_L_law) 1357 = .ok (.iconst 0, 1) := by decide +kernel
theorem dd_L_law_1358 : decode (zc mm_L_law) 1358 = .ok (.ireturn, 1) := by decide +kernel
theorem dd_L_law_1359 : decode (zc mm_L_law) 1359 = .ok (.aload_n 1, 1) := by decide +kernel
theorem dd_L_law_1360 : decode (zc mm_L_law) 1360 = .ok (.aload_n 0, 1) := by decide +kernel
theorem dd_L_law_1361 : decode (zc mm_L_law) 1361 = .ok (.iload_n 3, 1) := by decide +kernel
theorem dd_L_law_1362 : decode (zc mm_L_law) 1362 = .ok (.iconst 1, 1) := by decide +kernel
theorem dd_L_law_1363 : decode (zc mm_L_law) 1363 = .ok (.iadd, 1) := by decide +kernel
theorem dd_L_law_1364 : decode (zc mm_L_law) 1364 = .ok (.iaload, 1) := by decide +kernel
theorem dd_L_law_1365 : decode (zc mm_L_law) 1365 = .ok (.aload_n 0, 1) := by decide +kernel
theorem dd_L_law_1366 : decode (zc mm_L_law) 1366 = .ok (.iload_n 3, 1) := by decide +kernel
theorem dd_L_law_1367 : decode (zc mm_L_law) 1367 = .ok (.iconst 2, 1) := by decide +kernel
theorem dd_L_law_1368 : decode (zc mm_L_law) 1368 = .ok (.iadd, 1) := by decide +kernel
theorem dd_L_law_1369 : decode (zc mm_L_law) 1369 = .ok (.iaload, 1) := by decide +kernel
theorem dd_L_law_1370 : decode (zc mm_L_law) 1370 = .ok (.invokevirtual 128, 3) := by decide +kernel
theorem dd_L_law_1373 : decode (zc mm_L_law) 1373 = .ok (.aload_n 2, 1) := by decide +kernel
theorem dd_L_law_1374 : decode (zc mm_L_law) 1374 = .ok (.aload_n 0, 1) := by decide +kernel
theorem dd_L_law_1375 : decode (zc mm_L_law) 1375 = .ok (.iload_n 3, 1) := by decide +kernel
theorem dd_L_law_1376 : decode (zc mm_L_law) 1376 = .ok (.iconst 1, 1) := by decide +kernel
theorem dd_L_law_1377 : decode (zc mm_L_law) 1377 = .ok (.iadd, 1) := by decide +kernel
theorem dd_L_law_1378 : decode (zc mm_L_law) 1378 = .ok (.iaload, 1) := by decide +kernel
theorem dd_L_law_1379 : decode (zc mm_L_law) 1379 = .ok (.aload_n 0, 1) := by decide +kernel
theorem dd_L_law_1380 : decode (zc mm_L_law) 1380 = .ok (.iload_n 3, 1) := by decide +kernel
theorem dd_L_law_1381 : decode (zc mm_L_law) 1381 = .ok (.iconst 2, 1) := by decide +kernel
theorem dd_L_law_1382 : decode (zc mm_L_law) 1382 = .ok (.iadd, 1) := by decide +kernel
theorem dd_L_law_1383 : decode (zc mm_L_law) 1383 = .ok (.iaload, 1) := by decide +kernel
theorem dd_L_law_1384 : decode (zc mm_L_law) 1384 = .ok (.invokevirtual 131, 3) := by decide +kernel
theorem dd_L_law_1387 : decode (zc mm_L_law) 1387 = .ok (.if_icmp .eq 402, 3) := by decide +kernel
theorem dd_L_law_1390 : decode (zc mm_L_law) 1390 = .ok (.iconst 0, 1) := by decide +kernel
theorem dd_L_law_1391 : decode (zc mm_L_law) 1391 = .ok (.ireturn, 1) := by decide +kernel
theorem dd_L_law_1392 : decode (zc mm_L_law) 1392 = .ok (.aload_n 1, 1) := by decide +kernel
theorem dd_L_law_1393 : decode (zc mm_L_law) 1393 = .ok (.aload_n 0, 1) := by decide +kernel
theorem dd_L_law_1394 : decode (zc mm_L_law) 1394 = .ok (.iload_n 3, 1) := by decide +kernel
theorem dd_L_law_1395 : decode (zc mm_L_law) 1395 = .ok (.iconst 1, 1) := by decide +kernel
theorem dd_L_law_1396 : decode (zc mm_L_law) 1396 = .ok (.iadd, 1) := by decide +kernel
theorem dd_L_law_1397 : decode (zc mm_L_law) 1397 = .ok (.iaload, 1) := by decide +kernel
theorem dd_L_law_1398 : decode (zc mm_L_law) 1398 = .ok (.aload_n 0, 1) := by decide +kernel
theorem dd_L_law_1399 : decode (zc mm_L_law) 1399 = .ok (.iload_n 3, 1) := by decide +kernel
theorem dd_L_law_1400 : decode (zc mm_L_law) 1400 = .ok (.iconst 2, 1) := by decide +kernel
theorem dd_L_law_1401 : decode (zc mm_L_law) 1401 = .ok (.iadd, 1) := by decide +kernel
theorem dd_L_law_1402 : decode (zc mm_L_law) 1402 = .ok (.iaload, 1) := by decide +kernel
theorem dd_L_law_1403 : decode (zc mm_L_law) 1403 = .ok (.invokevirtual 132, 3) := by decide +kernel
theorem dd_L_law_1406 : decode (zc mm_L_law) 1406 = .ok (.aload_n 2, 1) := by decide +kernel
theorem dd_L_law_1407 : decode (zc mm_L_law) 1407 = .ok (.aload_n 0, 1) := by decide +kernel
theorem dd_L_law_1408 : decode (zc mm_L_law) 1408 = .ok (.iload_n 3, 1) := by decide +kernel
theorem dd_L_law_1409 : decode (zc mm_L_law) 1409 = .ok (.iconst 1, 1) := by decide +kernel
theorem dd_L_law_1410 : decode (zc mm_L_law) 1410 = .ok (.iadd, 1) := by decide +kernel
theorem dd_L_law_1411 : decode (zc mm_L_law) 1411 = .ok (.iaload, 1) := by decide +kernel
theorem dd_L_law_1412 : decode (zc mm_L_law) 1412 = .ok (.aload_n 0, 1) := by decide +kernel
theorem dd_L_law_1413 : decode (zc mm_L_law) 1413 = .ok (.iload_n 3, 1) := by decide +kernel
theorem dd_L_law_1414 : decode (zc mm_L_law) 1414 = .ok (.iconst 2, 1) := by decide +kernel
theorem dd_L_law_1415 : decode (zc mm_L_law) 1415 = .ok (.iadd, 1) := by decide +kernel
theorem dd_L_law_1416 : decode (zc mm_L_law) 1416 = .ok (.iaload, 1) := by decide +kernel
theorem dd_L_law_1417 : decode (zc mm_L_law) 1417 = .ok (.invokevirtual 136, 3) := by decide +kernel
theorem dd_L_law_1420 : decode (zc mm_L_law) 1420 = .ok (.lcmp, 1) := by decide +kernel
theorem dd_L_law_1421 : decode (zc mm_L_law) 1421 = .ok (.ifCond .eq 368, 3) := by decide +kernel
theorem dd_L_law_1424 : decode (zc mm_L_law) 1424 = .ok (.iconst 0, 1) := by decide +kernel
theorem dd_L_law_1425 : decode (zc mm_L_law) 1425 = .ok (.ireturn, 1) := by decide +kernel
theorem dd_L_law_1426 : decode (zc mm_L_law) 1426 = .ok (.aload_n 1, 1) := by decide +kernel
theorem dd_L_law_1427 : decode (zc mm_L_law) 1427 = .ok (.aload_n 0, 1) := by decide +kernel
theorem dd_L_law_1428 : decode (zc mm_L_law) 1428 = .ok (.iload_n 3, 1) := by decide +kernel
theorem dd_L_law_1429 : decode (zc mm_L_law) 1429 = .ok (.iconst 1, 1) := by decide +kernel
theorem dd_L_law_1430 : decode (zc mm_L_law) 1430 = .ok (.iadd, 1) := by decide +kernel
theorem dd_L_law_1431 : decode (zc mm_L_law) 1431 = .ok (.iaload, 1) := by decide +kernel
theorem dd_L_law_1432 : decode (zc mm_L_law) 1432 = .ok (.aload_n 0, 1) := by decide +kernel
theorem dd_L_law_1433 : decode (zc mm_L_law) 1433 = .ok (.iload_n 3, 1) := by decide +kernel
theorem dd_L_law_1434 : decode (zc mm_L_law) 1434 = .ok (.iconst 2, 1) := by decide +kernel
theorem dd_L_law_1435 : decode (zc mm_L_law) 1435 = .ok (.iadd, 1) := by decide +kernel
theorem dd_L_law_1436 : decode (zc mm_L_law) 1436 = .ok (.iaload, 1) := by decide +kernel
theorem dd_L_law_1437 : decode (zc mm_L_law) 1437 = .ok (.aload_n 0, 1) := by decide +kernel
theorem dd_L_law_1438 : decode (zc mm_L_law) 1438 = .ok (.iload_n 3, 1) := by decide +kernel
theorem dd_L_law_1439 : decode (zc mm_L_law) 1439 = .ok (.iconst 3, 1) := by decide +kernel
theorem dd_L_law_1440 : decode (zc mm_L_law) 1440 = .ok (.iadd, 1) := by decide +kernel
theorem dd_L_law_1441 : decode (zc mm_L_law) 1441 = .ok (.iaload, 1) := by decide +kernel
theorem dd_L_law_1442 : decode (zc mm_L_law) 1442 = .ok (.aload_n 0, 1) := by decide +kernel
theorem dd_L_law_1443 : decode (zc mm_L_law) 1443 = .ok (.iload_n 3, 1) := by decide +kernel
theorem dd_L_law_1444 : decode (zc mm_L_law) 1444 = .ok (.iconst 4, 1) := by decide +kernel
theorem dd_L_law_1445 : decode (zc mm_L_law) 1445 = .ok (.iadd, 1) := by decide +kernel
theorem dd_L_law_1446 : decode (zc mm_L_law) 1446 = .ok (.iaload, 1) := by decide +kernel
theorem dd_L_law_1447 : decode (zc mm_L_law) 1447 = .ok (.invokevirtual 137, 3) := by decide +kernel
theorem dd_L_law_1450 : decode (zc mm_L_law) 1450 = .ok (.aload_n 2, 1) := by decide +kernel
theorem dd_L_law_1451 : decode (zc mm_L_law) 1451 = .ok (.aload_n 0, 1) := by decide +kernel
theorem dd_L_law_1452 : decode (zc mm_L_law) 1452 = .ok (.iload_n 3, 1) := by decide +kernel
theorem dd_L_law_1453 : decode (zc mm_L_law) 1453 = .ok (.iconst 1, 1) := by decide +kernel
theorem dd_L_law_1454 : decode (zc mm_L_law) 1454 = .ok (.iadd, 1) := by decide +kernel
theorem dd_L_law_1455 : decode (zc mm_L_law) 1455 = .ok (.iaload, 1) := by decide +kernel
theorem dd_L_law_1456 : decode (zc mm_L_law) 1456 = .ok (.aload_n 0, 1) := by decide +kernel
theorem dd_L_law_1457 : decode (zc mm_L_law) 1457 = .ok (.iload_n 3, 1) := by decide +kernel
theorem dd_L_law_1458 : decode (zc mm_L_law) 1458 = .ok (.iconst 2, 1) := by decide +kernel
theorem dd_L_law_1459 : decode (zc mm_L_law) 1459 = .ok (.iadd, 1) := by decide +kernel
theorem dd_L_law_1460 : decode (zc mm_L_law) 1460 = .ok (.iaload, 1) := by decide +kernel
theorem dd_L_law_1461 : decode (zc mm_L_law) 1461 = .ok (.aload_n 0, 1) := by decide +kernel
theorem dd_L_law_1462 : decode (zc mm_L_law) 1462 = .ok (.iload_n 3, 1) := by decide +kernel
theorem dd_L_law_1463 : decode (zc mm_L_law) 1463 = .ok (.iconst 3, 1) := by decide +kernel
theorem dd_L_law_1464 : decode (zc mm_L_law) 1464 = .ok (.iadd, 1) := by decide +kernel
theorem dd_L_law_1465 : decode (zc mm_L_law) 1465 = .ok (.iaload, 1) := by decide +kernel
theorem dd_L_law_1466 : decode (zc mm_L_law) 1466 = .ok (.aload_n 0, 1) := by decide +kernel
theorem dd_L_law_1467 : decode (zc mm_L_law) 1467 = .ok (.iload_n 3, 1) := by decide +kernel
theorem dd_L_law_1468 : decode (zc mm_L_law) 1468 = .ok (.iconst 4, 1) := by decide +kernel
theorem dd_L_law_1469 : decode (zc mm_L_law) 1469 = .ok (.iadd, 1) := by decide +kernel
theorem dd_L_law_1470 : decode (zc mm_L_law) 1470 = .ok (.iaload, 1) := by decide +kernel
theorem dd_L_law_1471 : decode (zc mm_L_law) 1471 = .ok (.invokevirtual 140, 3) := by decide +kernel
theorem dd_L_law_1474 : decode (zc mm_L_law) 1474 = .ok (.if_icmp .eq 315, 3) := by decide +kernel
theorem dd_L_law_1477 : decode (zc mm_L_law) 1477 = .ok (.iconst 0, 1) := by decide +kernel
theorem dd_L_law_1478 : decode (zc mm_L_law) 1478 = .ok (.ireturn, 1) := by decide +kernel
theorem dd_L_law_1479 : decode (zc mm_L_law) 1479 = .ok (.aload_n 1, 1) := by decide +kernel
theorem dd_L_law_1480 : decode (zc mm_L_law) 1480 = .ok (.aload_n 0, 1) := by decide +kernel
theorem dd_L_law_1481 : decode (zc mm_L_law) 1481 = .ok (.iload_n 3, 1) := by decide +kernel
theorem dd_L_law_1482 : decode (zc mm_L_law) 1482 = .ok (.iconst 1, 1) := by decide +kernel
theorem dd_L_law_1483 : decode (zc mm_L_law) 1483 = .ok (.iadd, 1) := by decide +kernel
theorem dd_L_law_1484 : decode (zc mm_L_law) 1484 = .ok (.iaload, 1) := by decide +kernel
theorem dd_L_law_1485 : decode (zc mm_L_law) 1485 = .ok (.aload_n 0, 1) := by decide +kernel
theorem dd_L_law_1486 : decode (zc mm_L_law) 1486 = .ok (.iload_n 3, 1) := by decide +kernel
theorem dd_L_law_1487 : decode (zc mm_L_law) 1487 = .ok (.iconst 2, 1) := by decide +kernel
theorem dd_L_law_1488 : decode (zc mm_L_law) 1488 = .ok (.iadd, 1) := by decide +kernel
theorem dd_L_law_1489 : decode (zc mm_L_law) 1489 = .ok (.iaload, 1) := by decide +kernel
theorem dd_L_law_1490 : decode (zc mm_L_law) 1490 = .ok (.invokevirtual 141, 3) := by decide +kernel
theorem dd_L_law_1493 : decode (zc mm_L_law) 1493 = .ok (.aload_n 2, 1) := by decide +kernel
theorem dd_L_law_1494 : decode (zc mm_L_law) 1494 = .ok (.aload_n 0, 1) := by decide +kernel
theorem dd_L_law_1495 : decode (zc mm_L_law) 1495 = .ok (.iload_n 3, 1) := by decide +kernel
theorem dd_L_law_1496 : decode (zc mm_L_law) 1496 = .ok (.iconst 1, 1) := by decide +kernel
theorem dd_L_law_1497 : decode (zc mm_L_law) 1497 = .ok (.iadd, 1) := by decide +kernel
theorem dd_L_law_1498 : decode (zc mm_L_law) 1498 = .ok (.iaload, 1) := by decide +kernel
theorem dd_L_law_1499 : decode (zc mm_L_law) 1499 = .ok (.aload_n 0, 1) := by decide +kernel
theorem dd_L_law_1500 : decode (zc mm_L_law) 1500 = .ok (.iload_n 3, 1) := by decide +kernel
theorem dd_L_law_1501 : decode (zc mm_L_law) 1501 = .ok (.iconst 2, 1) := by decide +kernel
theorem dd_L_law_1502 : decode (zc mm_L_law) 1502 = .ok (.iadd, 1) := by decide +kernel
theorem dd_L_law_1503 : decode (zc mm_L_law) 1503 = .ok (.iaload, 1) := by decide +kernel
theorem dd_L_law_1504 : decode (zc mm_L_law) 1504 = .ok (.invokevirtual 144, 3) := by decide +kernel
theorem dd_L_law_1507 : decode (zc mm_L_law) 1507 = .ok (.if_icmp .eq 282, 3) := by decide +kernel
theorem dd_L_law_1510 : decode (zc mm_L_law) 1510 = .ok (.iconst 0, 1) := by decide +kernel
theorem dd_L_law_1511 : decode (zc mm_L_law) 1511 = .ok (.ireturn, 1) := by decide +kernel
theorem dd_L_law_1512 : decode (zc mm_L_law) 1512 = .ok (.aload_n 1, 1) := by decide +kernel
theorem dd_L_law_1513 : decode (zc mm_L_law) 1513 = .ok (.aload_n 0, 1) := by decide +kernel
theorem dd_L_law_1514 : decode (zc mm_L_law) 1514 = .ok (.iload_n 3, 1) := by decide +kernel
theorem dd_L_law_1515 : decode (zc mm_L_law) 1515 = .ok (.iconst 1, 1) := by decide +kernel
theorem dd_L_law_1516 : decode (zc mm_L_law) 1516 = .ok (.iadd, 1) := by decide +kernel
theorem dd_L_law_1517 : decode (zc mm_L_law) 1517 = .ok (.iaload, 1) := by decide +kernel
theorem dd_L_law_1518 : decode (zc mm_L_law) 1518 = .ok (.aload_n 0, 1) := by decide +kernel
theorem dd_L_law_1519 : decode (zc mm_L_law) 1519 = .ok (.iload_n 3, 1) := by decide +kernel
theorem dd_L_law_1520 : decode (zc mm_L_law) 1520 = .ok (.iconst 2, 1) := by decide +kernel
theorem dd_L_law_1521 : decode (zc mm_L_law) 1521 = .ok (.iadd, 1) := by decide +kernel
theorem dd_L_law_1522 : decode (zc mm_L_law) 1522 = .ok (.iaload, 1) := by decide +kernel
theorem dd_L_law_1523 : decode (zc mm_L_law) 1523 = .ok (.aload_n 0, 1) := by decide +kernel
theorem dd_L_law_1524 : decode (zc mm_L_law) 1524 = .ok (.iload_n 3, 1) := by decide +kernel
theorem dd_L_law_1525 : decode (zc mm_L_law) 1525 = .ok (.iconst 3, 1) := by decide +kernel
theorem dd_L_law_1526 : decode (zc mm_L_law) 1526 = .ok (.iadd, 1) := by decide +kernel
theorem dd_L_law_1527 : decode (zc mm_L_law) 1527 = .ok (.iaload, 1) := by decide +kernel
theorem dd_L_law_1528 : decode (zc mm_L_law) 1528 = .ok (.invokevirtual 145, 3) := by decide +kernel
theorem dd_L_law_1531 : decode (zc mm_L_law) 1531 = .ok (.aload_n 2, 1) := by decide +kernel
theorem dd_L_law_1532 : decode (zc mm_L_law) 1532 = .ok (.aload_n 0, 1) := by decide +kernel
theorem dd_L_law_1533 : decode (zc mm_L_law) 1533 = .ok (.iload_n 3, 1) := by decide +kernel
theorem dd_L_law_1534 : decode (zc mm_L_law) 1534 = .ok (.iconst 1, 1) := by decide +kernel
theorem dd_L_law_1535 : decode (zc mm_L_law) 1535 = .ok (.iadd, 1) := by decide +kernel
theorem dd_L_law_1536 : decode (zc mm_L_law) 1536 = .ok (.iaload, 1) := by decide +kernel
theorem dd_L_law_1537 : decode (zc mm_L_law) 1537 = .ok (.aload_n 0, 1) := by decide +kernel
theorem dd_L_law_1538 : decode (zc mm_L_law) 1538 = .ok (.iload_n 3, 1) := by decide +kernel
theorem dd_L_law_1539 : decode (zc mm_L_law) 1539 = .ok (.iconst 2, 1) := by decide +kernel
theorem dd_L_law_1540 : decode (zc mm_L_law) 1540 = .ok (.iadd, 1) := by decide +kernel
theorem dd_L_law_1541 : decode (zc mm_L_law) 1541 = .ok (.iaload, 1) := by decide +kernel
theorem dd_L_law_1542 : decode (zc mm_L_law) 1542 = .ok (.aload_n 0, 1) := by decide +kernel
theorem dd_L_law_1543 : decode (zc mm_L_law) 1543 = .ok (.iload_n 3, 1) := by decide +kernel
theorem dd_L_law_1544 : decode (zc mm_L_law) 1544 = .ok (.iconst 3, 1) := by decide +kernel
theorem dd_L_law_1545 : decode (zc mm_L_law) 1545 = .ok (.iadd, 1) := by decide +kernel
theorem dd_L_law_1546 : decode (zc mm_L_law) 1546 = .ok (.iaload, 1) := by decide +kernel
theorem dd_L_law_1547 : decode (zc mm_L_law) 1547 = .ok (.invokevirtual 148, 3) := by decide +kernel
theorem dd_L_law_1550 : decode (zc mm_L_law) 1550 = .ok (.if_icmp .eq 239, 3) := by decide +kernel
theorem dd_L_law_1553 : decode (zc mm_L_law) 1553 = .ok (.iconst 0, 1) := by decide +kernel
theorem dd_L_law_1554 : decode (zc mm_L_law) 1554 = .ok (.ireturn, 1) := by decide +kernel
theorem dd_L_law_1555 : decode (zc mm_L_law) 1555 = .ok (.aload_n 1, 1) := by decide +kernel
theorem dd_L_law_1556 : decode (zc mm_L_law) 1556 = .ok (.aload_n 0, 1) := by decide +kernel
theorem dd_L_law_1557 : decode (zc mm_L_law) 1557 = .ok (.iload_n 3, 1) := by decide +kernel
theorem dd_L_law_1558 : decode (zc mm_L_law) 1558 = .ok (.iconst 1, 1) := by decide +kernel
theorem dd_L_law_1559 : decode (zc mm_L_law) 1559 = .ok (.iadd, 1) := by decide +kernel
theorem dd_L_law_1560 : decode (zc mm_L_law) 1560 = .ok (.iaload, 1) := by decide +kernel
theorem dd_L_law_1561 : decode (zc mm_L_law) 1561 = .ok (.aload_n 0, 1) := by decide +kernel
theorem dd_L_law_1562 : decode (zc mm_L_law) 1562 = .ok (.iload_n 3, 1) := by decide +kernel
theorem dd_L_law_1563 : decode (zc mm_L_law) 1563 = .ok (.iconst 2, 1) := by decide +kernel
theorem dd_L_law_1564 : decode (zc mm_L_law) 1564 = .ok (.iadd, 1) := by decide +kernel
theorem dd_L_law_1565 : decode (zc mm_L_law) 1565 = .ok (.iaload, 1) := by decide +kernel
theorem dd_L_law_1566 : decode (zc mm_L_law) 1566 = .ok (.invokevirtual 149, 3) := by decide +kernel
theorem dd_L_law_1569 : decode (zc mm_L_law) 1569 = .ok (.aload_n 2, 1) := by decide +kernel
theorem dd_L_law_1570 : decode (zc mm_L_law) 1570 = .ok (.aload_n 0, 1) := by decide +kernel
theorem dd_L_law_1571 : decode (zc mm_L_law) 1571 = .ok (.iload_n 3, 1) := by decide +kernel
theorem dd_L_law_1572 : decode (zc mm_L_law) 1572 = .ok (.iconst 1, 1) := by decide +kernel
theorem dd_L_law_1573 : decode (zc mm_L_law) 1573 = .ok (.iadd, 1) := by decide +kernel
theorem dd_L_law_1574 : decode (zc mm_L_law) 1574 = .ok (.iaload, 1) := by decide +kernel
theorem dd_L_law_1575 : decode (zc mm_L_law) 1575 = .ok (.aload_n 0, 1) := by decide +kernel
theorem dd_L_law_1576 : decode (zc mm_L_law) 1576 = .ok (.iload_n 3, 1) := by decide +kernel
theorem dd_L_law_1577 : decode (zc mm_L_law) 1577 = .ok (.iconst 2, 1) := by decide +kernel
theorem dd_L_law_1578 : decode (zc mm_L_law) 1578 = .ok (.iadd, 1) := by decide +kernel
theorem dd_L_law_1579 : decode (zc mm_L_law) 1579 = .ok (.iaload, 1) := by decide +kernel
theorem dd_L_law_1580 : decode (zc mm_L_law) 1580 = .ok (.invokevirtual 152, 3) := by decide +kernel
theorem dd_L_law_1583 : decode (zc mm_L_law) 1583 = .ok (.lcmp, 1) := by decide +kernel
theorem dd_L_law_1584 : decode (zc mm_L_law) 1584 = .ok (.ifCond .eq 205, 3) := by decide +kernel
theorem dd_L_law_1587 : decode (zc mm_L_law) 1587 = .ok (.iconst 0, 1) := by decide +kernel
theorem dd_L_law_1588 : decode (zc mm_L_law) 1588 = .ok (.ireturn, 1) := by decide +kernel
theorem dd_L_law_1589 : decode (zc mm_L_law) 1589 = .ok (.aload_n 1, 1) := by decide +kernel
theorem dd_L_law_1590 : decode (zc mm_L_law) 1590 = .ok (.aload_n 0, 1) := by decide +kernel
theorem dd_L_law_1591 : decode (zc mm_L_law) 1591 = .ok (.iload_n 3, 1) := by decide +kernel
theorem dd_L_law_1592 : decode (zc mm_L_law) 1592 = .ok (.iconst 1, 1) := by decide +kernel
theorem dd_L_law_1593 : decode (zc mm_L_law) 1593 = .ok (.iadd, 1) := by decide +kernel
theorem dd_L_law_1594 : decode (zc mm_L_law) 1594 = .ok (.iaload, 1) := by decide +kernel
theorem dd_L_law_1595 : decode (zc mm_L_law) 1595 = .ok (.aload_n 0, 1) := by decide +kernel
theorem dd_L_law_1596 : decode (zc mm_L_law) 1596 = .ok (.iload_n 3, 1) := by decide +kernel
theorem dd_L_law_1597 : decode (zc mm_L_law) 1597 = .ok (.iconst 2, 1) := by decide +kernel
theorem dd_L_law_1598 : decode (zc mm_L_law) 1598 = .ok (.iadd, 1) := by decide +kernel
theorem dd_L_law_1599 : decode (zc mm_L_law) 1599 = .ok (.iaload, 1) := by decide +kernel
theorem dd_L_law_1600 : decode (zc mm_L_law) 1600 = .ok (.aload_n 0, 1) := by decide +kernel
theorem dd_L_law_1601 : decode (zc mm_L_law) 1601 = .ok (.iload_n 3, 1) := by decide +kernel
theorem dd_L_law_1602 : decode (zc mm_L_law) 1602 = .ok (.iconst 3, 1) := by decide +kernel
theorem dd_L_law_1603 : decode (zc mm_L_law) 1603 = .ok (.iadd, 1) := by decide +kernel
theorem dd_L_law_1604 : decode (zc mm_L_law) 1604 = .ok (.iaload, 1) := by decide +kernel
theorem dd_L_law_1605 : decode (zc mm_L_law) 1605 = .ok (.aload_n 0, 1) := by decide +kernel
theorem dd_L_law_1606 : decode (zc mm_L_law) 1606 = .ok (.iload_n 3, 1) := by decide +kernel
theorem dd_L_law_1607 : decode (zc mm_L_law) 1607 = .ok (.iconst 4, 1) := by decide +kernel
theorem dd_L_law_1608 : decode (zc mm_L_law) 1608 = .ok (.iadd, 1) := by decide +kernel
theorem dd_L_law_1609 : decode (zc mm_L_law) 1609 = .ok (.iaload, 1) := by decide +kernel
theorem dd_L_law_1610 : decode (zc mm_L_law) 1610 = .ok (.aload_n 0, 1) := by decide +kernel
theorem dd_L_law_1611 : decode (zc mm_L_law) 1611 = .ok (.iload_n 3, 1) := by decide +kernel
theorem dd_L_law_1612 : decode (zc mm_L_law) 1612 = .ok (.iconst 5, 1) := by decide +kernel
theorem dd_L_law_1613 : decode (zc mm_L_law) 1613 = .ok (.iadd, 1) := by decide +kernel
theorem dd_L_law_1614 : decode (zc mm_L_law) 1614 = .ok (.iaload, 1) := by decide +kernel
theorem dd_L_law_1615 : decode (zc mm_L_law) 1615 = .ok (.aload_n 0, 1) := by decide +kernel
theorem dd_L_law_1616 : decode (zc mm_L_law) 1616 = .ok (.iload_n 3, 1) := by decide +kernel
theorem dd_L_law_1617 : decode (zc mm_L_law) 1617 = .ok (.bipush 6, 2) := by decide +kernel
theorem dd_L_law_1619 : decode (zc mm_L_law) 1619 = .ok (.iadd, 1) := by decide +kernel
theorem dd_L_law_1620 : decode (zc mm_L_law) 1620 = .ok (.iaload, 1) := by decide +kernel
theorem dd_L_law_1621 : decode (zc mm_L_law) 1621 = .ok (.invokevirtual 153, 3) := by decide +kernel
theorem dd_L_law_1624 : decode (zc mm_L_law) 1624 = .ok (.aload_n 2, 1) := by decide +kernel
theorem dd_L_law_1625 : decode (zc mm_L_law) 1625 = .ok (.aload_n 0, 1) := by decide +kernel
theorem dd_L_law_1626 : decode (zc mm_L_law) 1626 = .ok (.iload_n 3, 1) := by decide +kernel
theorem dd_L_law_1627 : decode (zc mm_L_law) 1627 = .ok (.iconst 1, 1) := by decide +kernel
theorem dd_L_law_1628 : decode (zc mm_L_law) 1628 = .ok (.iadd, 1) := by decide +kernel
theorem dd_L_law_1629 : decode (zc mm_L_law) 1629 = .ok (.iaload, 1) := by decide +kernel
theorem dd_L_law_1630 : decode (zc mm_L_law) 1630 = .ok (.aload_n 0, 1) := by decide +kernel
theorem dd_L_law_1631 : decode (zc mm_L_law) 1631 = .ok (.iload_n 3, 1) := by decide +kernel
theorem dd_L_law_1632 : decode (zc mm_L_law) 1632 = .ok (.iconst 2, 1) := by decide +kernel
theorem dd_L_law_1633 : decode (zc mm_L_law) 1633 = .ok (.iadd, 1) := by decide +kernel
theorem dd_L_law_1634 : decode (zc mm_L_law) 1634 = .ok (.iaload, 1) := by decide +kernel
theorem dd_L_law_1635 : decode (zc mm_L_law) 1635 = .ok (.aload_n 0, 1) := by decide +kernel
theorem dd_L_law_1636 : decode (zc mm_L_law) 1636 = .ok (.iload_n 3, 1) := by decide +kernel
theorem dd_L_law_1637 : decode (zc mm_L_law) 1637 = .ok (.iconst 3, 1) := by decide +kernel
theorem dd_L_law_1638 : decode (zc mm_L_law) 1638 = .ok (.iadd, 1) := by decide +kernel
theorem dd_L_law_1639 : decode (zc mm_L_law) 1639 = .ok (.iaload, 1) := by decide +kernel
theorem dd_L_law_1640 : decode (zc mm_L_law) 1640 = .ok (.aload_n 0, 1) := by decide +kernel
theorem dd_L_law_1641 : decode (zc mm_L_law) 1641 = .ok (.iload_n 3, 1) := by decide +kernel
theorem dd_L_law_1642 : decode (zc mm_L_law) 1642 = .ok (.iconst 4, 1) := by decide +kernel
theorem dd_L_law_1643 : decode (zc mm_L_law) 1643 = .ok (.iadd, 1) := by decide +kernel
theorem dd_L_law_1644 : decode (zc mm_L_law) 1644 = .ok (.iaload, 1) := by decide +kernel
theorem dd_L_law_1645 : decode (zc mm_L_law) 1645 = .ok (.aload_n 0, 1) := by decide +kernel
theorem dd_L_law_1646 : decode (zc mm_L_law) 1646 = .ok (.iload_n 3, 1) := by decide +kernel
theorem dd_L_law_1647 : decode (zc mm_L_law) 1647 = .ok (.iconst 5, 1) := by decide +kernel
theorem dd_L_law_1648 : decode (zc mm_L_law) 1648 = .ok (.iadd, 1) := by decide +kernel
theorem dd_L_law_1649 : decode (zc mm_L_law) 1649 = .ok (.iaload, 1) := by decide +kernel
theorem dd_L_law_1650 : decode (zc mm_L_law) 1650 = .ok (.aload_n 0, 1) := by decide +kernel
theorem dd_L_law_1651 : decode (zc mm_L_law) 1651 = .ok (.iload_n 3, 1) := by decide +kernel
theorem dd_L_law_1652 : decode (zc mm_L_law) 1652 = .ok (.bipush 6, 2) := by decide +kernel
theorem dd_L_law_1654 : decode (zc mm_L_law) 1654 = .ok (.iadd, 1) := by decide +kernel
theorem dd_L_law_1655 : decode (zc mm_L_law) 1655 = .ok (.iaload, 1) := by decide +kernel
theorem dd_L_law_1656 : decode (zc mm_L_law) 1656 = .ok (.invokevirtual 157, 3) := by decide +kernel
theorem dd_L_law_1659 : decode (zc mm_L_law) 1659 = .ok (.if_icmp .eq 130, 3) := by decide +kernel
theorem dd_L_law_1662 : decode (zc mm_L_law) 1662 = .ok (.iconst 0, 1) := by decide +kernel
theorem dd_L_law_1663 : decode (zc mm_L_law) 1663 = .ok (.ireturn, 1) := by decide +kernel
theorem dd_L_law_1664 : decode (zc mm_L_law) 1664 = .ok (.aload_n 1, 1) := by decide +kernel
theorem dd_L_law_1665 : decode (zc mm_L_law) 1665 = .ok (.aload_n 0, 1) := by decide +kernel
theorem dd_L_law_1666 : decode (zc mm_L_law) 1666 = .ok (.iload_n 3, 1) := by decide +kernel
theorem dd_L_law_1667 : decode (zc mm_L_law) 1667 = .ok (.iconst 1, 1) := by decide +kernel
theorem dd_L_law_1668 : decode (zc mm_L_law) 1668 = .ok (.iadd, 1) := by decide +kernel
theorem dd_L_law_1669 : decode (zc mm_L_law) 1669 = .ok (.iaload, 1) := by decide +kernel
theorem dd_L_law_1670 : decode (zc mm_L_law) 1670 = .ok (.aload_n 0, 1) := by decide +kernel
theorem dd_L_law_1671 : decode (zc mm_L_law) 1671 = .ok (.iload_n 3, 1) := by decide +kernel
theorem dd_L_law_1672 : decode (zc mm_L_law) 1672 = .ok (.iconst 2, 1) := by decide +kernel
theorem dd_L_law_1673 : decode (zc mm_L_law) 1673 = .ok (.iadd, 1) := by decide +kernel
theorem dd_L_law_1674 : decode (zc mm_L_law) 1674 = .ok (.iaload, 1) := by decide +kernel
theorem dd_L_law_1675 : decode (zc mm_L_law) 1675 = .ok (.aload_n 0, 1) := by decide +kernel
theorem dd_L_law_1676 : decode (zc mm_L_law) 1676 = .ok (.iload_n 3, 1) := by decide +kernel
theorem dd_L_law_1677 : decode (zc mm_L_law) 1677 = .ok (.iconst 3, 1) := by decide +kernel
theorem dd_L_law_1678 : decode (zc mm_L_law) 1678 = .ok (.iadd, 1) := by decide +kernel
theorem dd_L_law_1679 : decode (zc mm_L_law) 1679 = .ok (.iaload, 1) := by decide +kernel
theorem dd_L_law_1680 : decode (zc mm_L_law) 1680 = .ok (.aload_n 0, 1) := by decide +kernel
theorem dd_L_law_1681 : decode (zc mm_L_law) 1681 = .ok (.iload_n 3, 1) := by decide +kernel
theorem dd_L_law_1682 : decode (zc mm_L_law) 1682 = .ok (.iconst 4, 1) := by decide +kernel
theorem dd_L_law_1683 : decode (zc mm_L_law) 1683 = .ok (.iadd, 1) := by decide +kernel
theorem dd_L_law_1684 : decode (zc mm_L_law) 1684 = .ok (.iaload, 1) := by decide +kernel
theorem dd_L_law_1685 : decode (zc mm_L_law) 1685 = .ok (.aload_n 0, 1) := by decide +kernel
theorem dd_L_law_1686 : decode (zc mm_L_law) 1686 = .ok (.iload_n 3, 1) := by decide +kernel
theorem dd_L_law_1687 : decode (zc mm_L_law) 1687 = .ok (.iconst 5, 1) := by decide +kernel
theorem dd_L_law_1688 : decode (zc mm_L_law) 1688 = .ok (.iadd, 1) := by decide +kernel
theorem dd_L_law_1689 : decode (zc mm_L_law) 1689 = .ok (.iaload, 1) := by decide +kernel
theorem dd_L_law_1690 : decode (zc mm_L_law) 1690 = .ok (.invokevirtual 158, 3) := by decide +kernel
theorem dd_L_law_1693 : decode (zc mm_L_law) 1693 = .ok (.aload_n 2, 1) := by decide +kernel
theorem dd_L_law_1694 : decode (zc mm_L_law) 1694 = .ok (.aload_n 0, 1) := by decide +kernel
theorem dd_L_law_1695 : decode (zc mm_L_law) 1695 = .ok (.iload_n 3, 1) := by decide +kernel
theorem dd_L_law_1696 : decode (zc mm_L_law) 1696 = .ok (.iconst 1, 1) := by decide +kernel
theorem dd_L_law_1697 : decode (zc mm_L_law) 1697 = .ok (.iadd, 1) := by decide +kernel
theorem dd_L_law_1698 : decode (zc mm_L_law) 1698 = .ok (.iaload, 1) := by decide +kernel
theorem dd_L_law_1699 : decode (zc mm_L_law) 1699 = .ok (.aload_n 0, 1) := by decide +kernel
theorem dd_L_law_1700 : decode (zc mm_L_law) 1700 = .ok (.iload_n 3, 1) := by decide +kernel
theorem dd_L_law_1701 : decode (zc mm_L_law) 1701 = .ok (.iconst 2, 1) := by decide +kernel
theorem dd_L_law_1702 : decode (zc mm_L_law) 1702 = .ok (.iadd, 1) := by decide +kernel
theorem dd_L_law_1703 : decode (zc mm_L_law) 1703 = .ok (.iaload, 1) := by decide +kernel
theorem dd_L_law_1704 : decode (zc mm_L_law) 1704 = .ok (.aload_n 0, 1) := by decide +kernel
theorem dd_L_law_1705 : decode (zc mm_L_law) 1705 = .ok (.iload_n 3, 1) := by decide +kernel
theorem dd_L_law_1706 : decode (zc mm_L_law) 1706 = .ok (.iconst 3, 1) := by decide +kernel
theorem dd_L_law_1707 : decode (zc mm_L_law) 1707 = .ok (.iadd, 1) := by decide +kernel
theorem dd_L_law_1708 : decode (zc mm_L_law) 1708 = .ok (.iaload, 1) := by decide +kernel
theorem dd_L_law_1709 : decode (zc mm_L_law) 1709 = .ok (.aload_n 0, 1) := by decide +kernel
theorem dd_L_law_1710 : decode (zc mm_L_law) 1710 = .ok (.iload_n 3, 1) := by decide +kernel
theorem dd_L_law_1711 : decode (zc mm_L_law) 1711 = .ok (.iconst 4, 1) := by decide +kernel
theorem dd_L_law_1712 : decode (zc mm_L_law) 1712 = .ok (.iadd, 1) := by decide +kernel
theorem dd_L_law_1713 : decode (zc mm_L_law) 1713 = .ok (.iaload, 1) := by decide +kernel
theorem dd_L_law_1714 : decode (zc mm_L_law) 1714 = .ok (.aload_n 0, 1) := by decide +kernel
theorem dd_L_law_1715 : decode (zc mm_L_law) 1715 = .ok (.iload_n 3, 1) := by decide +kernel
theorem dd_L_law_1716 : decode (zc mm_L_law) 1716 = .ok (.iconst 5, 1) := by decide +kernel
theorem dd_L_law_1717 : decode (zc mm_L_law) 1717 = .ok (.iadd, 1) := by decide +kernel
theorem dd_L_law_1718 : decode (zc mm_L_law) 1718 = .ok (.iaload, 1) := by decide +kernel
theorem dd_L_law_1719 : decode (zc mm_L_law) 1719 = .ok (.invokevirtual 161, 3) := by decide +kernel
theorem dd_L_law_1722 : decode (zc mm_L_law) 1722 = .ok (.if_icmp .eq 67, 3) := by decide +kernel
theorem dd_L_law_1725 : decode (zc mm_L_law) 1725 = .ok (.iconst 0, 1) := by decide +kernel
theorem dd_L_law_1726 : decode (zc mm_L_law) 1726 = .ok (.ireturn, 1) := by decide +kernel
theorem dd_L_law_1727 : decode (zc mm_L_law) 1727 = .ok (.aload_n 1, 1) := by decide +kernel
theorem dd_L_law_1728 : decode (zc mm_L_law) 1728 = .ok (.invokevirtual 162, 3) := by decide +kernel
theorem dd_L_law_1731 : decode (zc mm_L_law) 1731 = .ok (.aload_n 2, 1) := by decide +kernel
theorem dd_L_law_1732 : decode (zc mm_L_law) 1732 = .ok (.invokevirtual 165, 3) := by decide +kernel
theorem dd_L_law_1735 : decode (zc mm_L_law) 1735 = .ok (.if_icmp .eq 54, 3) := by decide +kernel
theorem dd_L_law_1738 : decode (zc mm_L_law) 1738 = .ok (.iconst 0, 1) := by decide +kernel
theorem dd_L_law_1739 : decode (zc mm_L_law) 1739 = .ok (.ireturn, 1) := by decide +kernel
theorem dd_L_law_1740 : decode (zc mm_L_law) 1740 = .ok (.aload_n 1, 1) := by decide +kernel
theorem dd_L_law_1741 : decode (zc mm_L_law) 1741 = .ok (.invokevirtual 166, 3) := by decide +kernel
theorem dd_L_law_1744 : decode (zc mm_L_law) 1744 = .ok (.aload_n 2, 1) := by decide +kernel
theorem dd_L_law_1745 : decode (zc mm_L_law) 1745 = .ok (.invokevirtual 169, 3) := by decide +kernel
theorem dd_L_law_1748 : decode (zc mm_L_law) 1748 = .ok (.if_icmp .eq 41, 3) := by decide +kernel
theorem dd_L_law_1751 : decode (zc mm_L_law) 1751 = .ok (.iconst 0, 1) := by decide +kernel
theorem dd_L_law_1752 : decode (zc mm_L_law) 1752 = .ok (.ireturn, 1) := by decide +kernel
theorem dd_L_law_1753 : decode (zc mm_L_law) 1753 = .ok (.aload_n 1, 1) := by decide +kernel
theorem dd_L_law_1754 : decode (zc mm_L_law) 1754 = .ok (.invokevirtual 170, 3) := by decide +kernel
theorem dd_L_law_1757 : decode (zc mm_L_law) 1757 = .ok (.aload_n 2, 1) := by decide +kernel
theorem dd_L_law_1758 : decode (zc mm_L_law) 1758 = .ok (.invokevirtual 173, 3) := by decide +kernel
theorem dd_L_law_1761 : decode (zc mm_L_law) 1761 = .ok (.if_icmp .eq 28, 3) := by decide +kernel
theorem dd_L_law_1764 : decode (zc mm_L_law) 1764 = .ok (.iconst 0, 1) := by decide +kernel
theorem dd_L_law_1765 : decode (zc mm_L_law) 1765 = .ok (.ireturn, 1) := by decide +kernel
theorem dd_L_law_1766 : decode (zc mm_L_law) 1766 = .ok (.aload_n 1, 1) := by decide +kernel
theorem dd_L_law_1767 : decode (zc mm_L_law) 1767 = .ok (.aload_n 0, 1) := by decide +kernel
theorem dd_L_law_1768 : decode (zc mm_L_law) 1768 = .ok (.iload_n 3, 1) := by decide +kernel
theorem dd_L_law_1769 : decode (zc mm_L_law) 1769 = .ok (.iconst 1, 1) := by decide +kernel
theorem dd_L_law_1770 : decode (zc mm_L_law) 1770 = .ok (.iadd, 1) := by decide +kernel
theorem dd_L_law_1771 : decode (zc mm_L_law) 1771 = .ok (.iaload, 1) := by decide +kernel
theorem dd_L_law_1772 : decode (zc mm_L_law) 1772 = .ok (.invokevirtual 174, 3) := by decide +kernel
theorem dd_L_law_1775 : decode (zc mm_L_law) 1775 = .ok (.aload_n 2, 1) := by decide +kernel
theorem dd_L_law_1776 : decode (zc mm_L_law) 1776 = .ok (.aload_n 0, 1) := by decide +kernel
theorem dd_L_law_1777 : decode (zc mm_L_law) 1777 = .ok (.iload_n 3, 1) := by decide +kernel
theorem dd_L_law_1778 : decode (zc mm_L_law) 1778 = .ok (.iconst 1, 1) := by decide +kernel
theorem dd_L_law_1779 : decode (zc mm_L_law) 1779 = .ok (.iadd, 1) := by decide +kernel
theorem dd_L_law_1780 : decode (zc mm_L_law) 1780 = .ok (.iaload, 1) := by decide +kernel
theorem dd_L_law_1781 : decode (zc mm_L_law) 1781 = .ok (.invokevirtual 177, 3) := by decide +kernel
theorem dd_L_law_1784 : decode (zc mm_L_law) 1784 = .ok (.if_icmp .eq 5, 3) := by decide +kernel
theorem dd_L_law_1787 : decode (zc mm_L_law) 1787 = .ok (.iconst 0, 1) := by decide +kernel
theorem dd_L_law_1788 : decode (zc mm_L_law) 1788 = .ok (.ireturn, 1) := by decide +kernel
theorem dd_L_law_1789 : decode (zc mm_L_law) 1789 = .ok (.iinc 3 8, 3) := by decide +kernel
theorem dd_L_law_1792 : decode (zc mm_L_law) 1792 = .ok (.goto (-1774), 3) := by decide +kernel
theorem dd_L_law_1795 : decode (zc mm_L_law) 1795 = .ok (.iconst 1, 1) := by decide +kernel
theorem dd_L_law_1796 : decode (zc mm_L_law) 1796 = .ok (.ireturn, 1) := by decide +kernel
