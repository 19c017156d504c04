/-! the law by program: words, decode rows, a theorem a case -/
theorem d_L_0 : decode cL_law 0 = .ok (.new 8, 3) := by decide +kernel
theorem d_L_3 : decode cL_law 3 = .ok (.dup, 1) := by decide +kernel
theorem d_L_4 : decode cL_law 4 = .ok (.invokespecial 17, 3) := by decide +kernel
theorem d_L_7 : decode cL_law 7 = .ok (.astore_n 1, 1) := by decide +kernel
theorem d_L_8 : decode cL_law 8 = .ok (.new 18, 3) := by decide +kernel
theorem d_L_11 : decode cL_law 11 = .ok (.dup, 1) := by decide +kernel
theorem d_L_12 : decode cL_law 12 = .ok (.invokespecial 20, 3) := by decide +kernel
theorem d_L_15 : decode cL_law 15 = .ok (.astore_n 2, 1) := by decide +kernel
theorem d_L_16 : decode cL_law 16 = .ok (.iconst 1, 1) := by decide +kernel
theorem d_L_17 : decode cL_law 17 = .ok (.newarray .long, 2) := by decide +kernel
theorem d_L_19 : decode cL_law 19 = .ok (.astore_n 3, 1) := by decide +kernel
theorem d_L_20 : decode cL_law 20 = .ok (.iconst 0, 1) := by decide +kernel
theorem d_L_21 : decode cL_law 21 = .ok (.istore 4, 2) := by decide +kernel
theorem d_L_23 : decode cL_law 23 = .ok (.iload 4, 2) := by decide +kernel
theorem d_L_25 : decode cL_law 25 = .ok (.aload_n 0, 1) := by decide +kernel
theorem d_L_26 : decode cL_law 26 = .ok (.arraylength, 1) := by decide +kernel
theorem d_L_27 : decode cL_law 27 = .ok (.bipush 6, 2) := by decide +kernel
theorem d_L_29 : decode cL_law 29 = .ok (.isub, 1) := by decide +kernel
theorem d_L_30 : decode cL_law 30 = .ok (.if_icmp .gt 1702, 3) := by decide +kernel
theorem d_L_33 : decode cL_law 33 = .ok (.aload_n 0, 1) := by decide +kernel
theorem d_L_34 : decode cL_law 34 = .ok (.iload 4, 2) := by decide +kernel
theorem d_L_36 : decode cL_law 36 = .ok (.iaload, 1) := by decide +kernel
theorem d_L_37 : decode cL_law 37 = .ok (.bipush 63, 2) := by decide +kernel
theorem d_L_39 : decode cL_law 39 = .ok (.iand, 1) := by decide +kernel
theorem d_L_40 : decode cL_law 40 = .ok (.tableswitch 1686 0 39 #[176, 237, 274, 311, 348, 397, 434, 471, 524, 561, 598, 623, 648, 673, 710, 747, 824, 861, 898, 935, 972, 997, 1046, 1083, 1108, 1133, 1158, 1211, 1236, 1261, 1298, 1311, 1324, 1349, 1398, 1447, 1496, 1563, 1636, 1661], 176) := by decide +kernel
theorem d_L_216 : decode cL_law 216 = .ok (.aload_n 1, 1) := by decide +kernel
theorem d_L_217 : decode cL_law 217 = .ok (.aload_n 0, 1) := by decide +kernel
theorem d_L_218 : decode cL_law 218 = .ok (.iload 4, 2) := by decide +kernel
theorem d_L_220 : decode cL_law 220 = .ok (.iconst 1, 1) := by decide +kernel
theorem d_L_221 : decode cL_law 221 = .ok (.iadd, 1) := by decide +kernel
theorem d_L_222 : decode cL_law 222 = .ok (.iaload, 1) := by decide +kernel
theorem d_L_223 : decode cL_law 223 = .ok (.aload_n 0, 1) := by decide +kernel
theorem d_L_224 : decode cL_law 224 = .ok (.iload 4, 2) := by decide +kernel
theorem d_L_226 : decode cL_law 226 = .ok (.iconst 2, 1) := by decide +kernel
theorem d_L_227 : decode cL_law 227 = .ok (.iadd, 1) := by decide +kernel
theorem d_L_228 : decode cL_law 228 = .ok (.iaload, 1) := by decide +kernel
theorem d_L_229 : decode cL_law 229 = .ok (.aload_n 0, 1) := by decide +kernel
theorem d_L_230 : decode cL_law 230 = .ok (.iload 4, 2) := by decide +kernel
theorem d_L_232 : decode cL_law 232 = .ok (.iconst 3, 1) := by decide +kernel
theorem d_L_233 : decode cL_law 233 = .ok (.iadd, 1) := by decide +kernel
theorem d_L_234 : decode cL_law 234 = .ok (.iaload, 1) := by decide +kernel
theorem d_L_235 : decode cL_law 235 = .ok (.aload_n 0, 1) := by decide +kernel
theorem d_L_236 : decode cL_law 236 = .ok (.iload 4, 2) := by decide +kernel
theorem d_L_238 : decode cL_law 238 = .ok (.iconst 4, 1) := by decide +kernel
theorem d_L_239 : decode cL_law 239 = .ok (.iadd, 1) := by decide +kernel
theorem d_L_240 : decode cL_law 240 = .ok (.iaload, 1) := by decide +kernel
theorem d_L_241 : decode cL_law 241 = .ok (.invokevirtual 21, 3) := by decide +kernel
theorem d_L_244 : decode cL_law 244 = .ok (.aload_n 2, 1) := by decide +kernel
theorem d_L_245 : decode cL_law 245 = .ok (.aload_n 0, 1) := by decide +kernel
theorem d_L_246 : decode cL_law 246 = .ok (.iload 4, 2) := by decide +kernel
theorem d_L_248 : decode cL_law 248 = .ok (.iconst 1, 1) := by decide +kernel
theorem d_L_249 : decode cL_law 249 = .ok (.iadd, 1) := by decide +kernel
theorem d_L_250 : decode cL_law 250 = .ok (.iaload, 1) := by decide +kernel
theorem d_L_251 : decode cL_law 251 = .ok (.aload_n 0, 1) := by decide +kernel
theorem d_L_252 : decode cL_law 252 = .ok (.iload 4, 2) := by decide +kernel
theorem d_L_254 : decode cL_law 254 = .ok (.iconst 2, 1) := by decide +kernel
theorem d_L_255 : decode cL_law 255 = .ok (.iadd, 1) := by decide +kernel
theorem d_L_256 : decode cL_law 256 = .ok (.iaload, 1) := by decide +kernel
theorem d_L_257 : decode cL_law 257 = .ok (.aload_n 0, 1) := by decide +kernel
theorem d_L_258 : decode cL_law 258 = .ok (.iload 4, 2) := by decide +kernel
theorem d_L_260 : decode cL_law 260 = .ok (.iconst 3, 1) := by decide +kernel
theorem d_L_261 : decode cL_law 261 = .ok (.iadd, 1) := by decide +kernel
theorem d_L_262 : decode cL_law 262 = .ok (.iaload, 1) := by decide +kernel
theorem d_L_263 : decode cL_law 263 = .ok (.aload_n 0, 1) := by decide +kernel
theorem d_L_264 : decode cL_law 264 = .ok (.iload 4, 2) := by decide +kernel
theorem d_L_266 : decode cL_law 266 = .ok (.iconst 4, 1) := by decide +kernel
theorem d_L_267 : decode cL_law 267 = .ok (.iadd, 1) := by decide +kernel
theorem d_L_268 : decode cL_law 268 = .ok (.iaload, 1) := by decide +kernel
theorem d_L_269 : decode cL_law 269 = .ok (.invokevirtual 25, 3) := by decide +kernel
theorem d_L_272 : decode cL_law 272 = .ok (.if_icmp .eq 1454, 3) := by decide +kernel
theorem d_L_275 : decode cL_law 275 = .ok (.iconst 0, 1) := by decide +kernel
theorem d_L_276 : decode cL_law 276 = .ok (.ireturn, 1) := by decide +kernel
theorem d_L_277 : decode cL_law 277 = .ok (.aload_n 1, 1) := by decide +kernel
theorem d_L_278 : decode cL_law 278 = .ok (.aload_n 0, 1) := by decide +kernel
theorem d_L_279 : decode cL_law 279 = .ok (.iload 4, 2) := by decide +kernel
theorem d_L_281 : decode cL_law 281 = .ok (.iconst 1, 1) := by decide +kernel
theorem d_L_282 : decode cL_law 282 = .ok (.iadd, 1) := by decide +kernel
theorem d_L_283 : decode cL_law 283 = .ok (.iaload, 1) := by decide +kernel
theorem d_L_284 : decode cL_law 284 = .ok (.aload_n 0, 1) := by decide +kernel
theorem d_L_285 : decode cL_law 285 = .ok (.iload 4, 2) := by decide +kernel
theorem d_L_287 : decode cL_law 287 = .ok (.iconst 2, 1) := by decide +kernel
theorem d_L_288 : decode cL_law 288 = .ok (.iadd, 1) := by decide +kernel
theorem d_L_289 : decode cL_law 289 = .ok (.iaload, 1) := by decide +kernel
theorem d_L_290 : decode cL_law 290 = .ok (.invokevirtual 26, 3) := by decide +kernel
theorem d_L_293 : decode cL_law 293 = .ok (.aload_n 2, 1) := by decide +kernel
theorem d_L_294 : decode cL_law 294 = .ok (.aload_n 0, 1) := by decide +kernel
theorem d_L_295 : decode cL_law 295 = .ok (.iload 4, 2) := by decide +kernel
theorem d_L_297 : decode cL_law 297 = .ok (.iconst 1, 1) := by decide +kernel
theorem d_L_298 : decode cL_law 298 = .ok (.iadd, 1) := by decide +kernel
theorem d_L_299 : decode cL_law 299 = .ok (.iaload, 1) := by decide +kernel
theorem d_L_300 : decode cL_law 300 = .ok (.aload_n 0, 1) := by decide +kernel
theorem d_L_301 : decode cL_law 301 = .ok (.iload 4, 2) := by decide +kernel
theorem d_L_303 : decode cL_law 303 = .ok (.iconst 2, 1) := by decide +kernel
theorem d_L_304 : decode cL_law 304 = .ok (.iadd, 1) := by decide +kernel
theorem d_L_305 : decode cL_law 305 = .ok (.iaload, 1) := by decide +kernel
theorem d_L_306 : decode cL_law 306 = .ok (.invokevirtual 30, 3) := by decide +kernel
theorem d_L_309 : decode cL_law 309 = .ok (.if_icmp .eq 1417, 3) := by decide +kernel
theorem d_L_312 : decode cL_law 312 = .ok (.iconst 0, 1) := by decide +kernel
theorem d_L_313 : decode cL_law 313 = .ok (.ireturn, 1) := by decide +kernel
theorem d_L_314 : decode cL_law 314 = .ok (.aload_n 1, 1) := by decide +kernel
theorem d_L_315 : decode cL_law 315 = .ok (.aload_n 0, 1) := by decide +kernel
theorem d_L_316 : decode cL_law 316 = .ok (.iload 4, 2) := by decide +kernel
theorem d_L_318 : decode cL_law 318 = .ok (.iconst 1, 1) := by decide +kernel
theorem d_L_319 : decode cL_law 319 = .ok (.iadd, 1) := by decide +kernel
theorem d_L_320 : decode cL_law 320 = .ok (.iaload, 1) := by decide +kernel
theorem d_L_321 : decode cL_law 321 = .ok (.aload_n 0, 1) := by decide +kernel
theorem d_L_322 : decode cL_law 322 = .ok (.iload 4, 2) := by decide +kernel
theorem d_L_324 : decode cL_law 324 = .ok (.iconst 2, 1) := by decide +kernel
theorem d_L_325 : decode cL_law 325 = .ok (.iadd, 1) := by decide +kernel
theorem d_L_326 : decode cL_law 326 = .ok (.iaload, 1) := by decide +kernel
theorem d_L_327 : decode cL_law 327 = .ok (.invokevirtual 31, 3) := by decide +kernel
theorem d_L_330 : decode cL_law 330 = .ok (.aload_n 2, 1) := by decide +kernel
theorem d_L_331 : decode cL_law 331 = .ok (.aload_n 0, 1) := by decide +kernel
theorem d_L_332 : decode cL_law 332 = .ok (.iload 4, 2) := by decide +kernel
theorem d_L_334 : decode cL_law 334 = .ok (.iconst 1, 1) := by decide +kernel
theorem d_L_335 : decode cL_law 335 = .ok (.iadd, 1) := by decide +kernel
theorem d_L_336 : decode cL_law 336 = .ok (.iaload, 1) := by decide +kernel
theorem d_L_337 : decode cL_law 337 = .ok (.aload_n 0, 1) := by decide +kernel
theorem d_L_338 : decode cL_law 338 = .ok (.iload 4, 2) := by decide +kernel
theorem d_L_340 : decode cL_law 340 = .ok (.iconst 2, 1) := by decide +kernel
theorem d_L_341 : decode cL_law 341 = .ok (.iadd, 1) := by decide +kernel
theorem d_L_342 : decode cL_law 342 = .ok (.iaload, 1) := by decide +kernel
theorem d_L_343 : decode cL_law 343 = .ok (.invokevirtual 34, 3) := by decide +kernel
theorem d_L_346 : decode cL_law 346 = .ok (.if_icmp .eq 1380, 3) := by decide +kernel
theorem d_L_349 : decode cL_law 349 = .ok (.iconst 0, 1) := by decide +kernel
theorem d_L_350 : decode cL_law 350 = .ok (.ireturn, 1) := by decide +kernel
theorem d_L_351 : decode cL_law 351 = .ok (.aload_n 1, 1) := by decide +kernel
theorem d_L_352 : decode cL_law 352 = .ok (.aload_n 0, 1) := by decide +kernel
theorem d_L_353 : decode cL_law 353 = .ok (.iload 4, 2) := by decide +kernel
theorem d_L_355 : decode cL_law 355 = .ok (.iconst 1, 1) := by decide +kernel
theorem d_L_356 : decode cL_law 356 = .ok (.iadd, 1) := by decide +kernel
theorem d_L_357 : decode cL_law 357 = .ok (.iaload, 1) := by decide +kernel
theorem d_L_358 : decode cL_law 358 = .ok (.aload_n 0, 1) := by decide +kernel
theorem d_L_359 : decode cL_law 359 = .ok (.iload 4, 2) := by decide +kernel
theorem d_L_361 : decode cL_law 361 = .ok (.iconst 2, 1) := by decide +kernel
theorem d_L_362 : decode cL_law 362 = .ok (.iadd, 1) := by decide +kernel
theorem d_L_363 : decode cL_law 363 = .ok (.iaload, 1) := by decide +kernel
theorem d_L_364 : decode cL_law 364 = .ok (.invokevirtual 35, 3) := by decide +kernel
theorem d_L_367 : decode cL_law 367 = .ok (.aload_n 2, 1) := by decide +kernel
theorem d_L_368 : decode cL_law 368 = .ok (.aload_n 0, 1) := by decide +kernel
theorem d_L_369 : decode cL_law 369 = .ok (.iload 4, 2) := by decide +kernel
theorem d_L_371 : decode cL_law 371 = .ok (.iconst 1, 1) := by decide +kernel
theorem d_L_372 : decode cL_law 372 = .ok (.iadd, 1) := by decide +kernel
theorem d_L_373 : decode cL_law 373 = .ok (.iaload, 1) := by decide +kernel
theorem d_L_374 : decode cL_law 374 = .ok (.aload_n 0, 1) := by decide +kernel
theorem d_L_375 : decode cL_law 375 = .ok (.iload 4, 2) := by decide +kernel
theorem d_L_377 : decode cL_law 377 = .ok (.iconst 2, 1) := by decide +kernel
theorem d_L_378 : decode cL_law 378 = .ok (.iadd, 1) := by decide +kernel
theorem d_L_379 : decode cL_law 379 = .ok (.iaload, 1) := by decide +kernel
theorem d_L_380 : decode cL_law 380 = .ok (.invokevirtual 38, 3) := by decide +kernel
theorem d_L_383 : decode cL_law 383 = .ok (.if_icmp .eq 1343, 3) := by decide +kernel
theorem d_L_386 : decode cL_law 386 = .ok (.iconst 0, 1) := by decide +kernel
theorem d_L_387 : decode cL_law 387 = .ok (.ireturn, 1) := by decide +kernel
theorem d_L_388 : decode cL_law 388 = .ok (.aload_n 1, 1) := by decide +kernel
theorem d_L_389 : decode cL_law 389 = .ok (.aload_n 0, 1) := by decide +kernel
theorem d_L_390 : decode cL_law 390 = .ok (.iload 4, 2) := by decide +kernel
theorem d_L_392 : decode cL_law 392 = .ok (.iconst 1, 1) := by decide +kernel
theorem d_L_393 : decode cL_law 393 = .ok (.iadd, 1) := by decide +kernel
theorem d_L_394 : decode cL_law 394 = .ok (.iaload, 1) := by decide +kernel
theorem d_L_395 : decode cL_law 395 = .ok (.aload_n 0, 1) := by decide +kernel
theorem d_L_396 : decode cL_law 396 = .ok (.iload 4, 2) := by decide +kernel
theorem d_L_398 : decode cL_law 398 = .ok (.iconst 2, 1) := by decide +kernel
theorem d_L_399 : decode cL_law 399 = .ok (.iadd, 1) := by decide +kernel
theorem d_L_400 : decode cL_law 400 = .ok (.iaload, 1) := by decide +kernel
theorem d_L_401 : decode cL_law 401 = .ok (.aload_n 0, 1) := by decide +kernel
theorem d_L_402 : decode cL_law 402 = .ok (.iload 4, 2) := by decide +kernel
theorem d_L_404 : decode cL_law 404 = .ok (.iconst 3, 1) := by decide +kernel
theorem d_L_405 : decode cL_law 405 = .ok (.iadd, 1) := by decide +kernel
theorem d_L_406 : decode cL_law 406 = .ok (.iaload, 1) := by decide +kernel
theorem d_L_407 : decode cL_law 407 = .ok (.invokevirtual 39, 3) := by decide +kernel
theorem d_L_410 : decode cL_law 410 = .ok (.aload_n 2, 1) := by decide +kernel
theorem d_L_411 : decode cL_law 411 = .ok (.aload_n 0, 1) := by decide +kernel
theorem d_L_412 : decode cL_law 412 = .ok (.iload 4, 2) := by decide +kernel
theorem d_L_414 : decode cL_law 414 = .ok (.iconst 1, 1) := by decide +kernel
theorem d_L_415 : decode cL_law 415 = .ok (.iadd, 1) := by decide +kernel
theorem d_L_416 : decode cL_law 416 = .ok (.iaload, 1) := by decide +kernel
theorem d_L_417 : decode cL_law 417 = .ok (.aload_n 0, 1) := by decide +kernel
theorem d_L_418 : decode cL_law 418 = .ok (.iload 4, 2) := by decide +kernel
theorem d_L_420 : decode cL_law 420 = .ok (.iconst 2, 1) := by decide +kernel
theorem d_L_421 : decode cL_law 421 = .ok (.iadd, 1) := by decide +kernel
theorem d_L_422 : decode cL_law 422 = .ok (.iaload, 1) := by decide +kernel
theorem d_L_423 : decode cL_law 423 = .ok (.aload_n 0, 1) := by decide +kernel
theorem d_L_424 : decode cL_law 424 = .ok (.iload 4, 2) := by decide +kernel
theorem d_L_426 : decode cL_law 426 = .ok (.iconst 3, 1) := by decide +kernel
theorem d_L_427 : decode cL_law 427 = .ok (.iadd, 1) := by decide +kernel
theorem d_L_428 : decode cL_law 428 = .ok (.iaload, 1) := by decide +kernel
theorem d_L_429 : decode cL_law 429 = .ok (.invokevirtual 43, 3) := by decide +kernel
theorem d_L_432 : decode cL_law 432 = .ok (.if_icmp .eq 1294, 3) := by decide +kernel
theorem d_L_435 : decode cL_law 435 = .ok (.iconst 0, 1) := by decide +kernel
theorem d_L_436 : decode cL_law 436 = .ok (.ireturn, 1) := by decide +kernel
theorem d_L_437 : decode cL_law 437 = .ok (.aload_n 1, 1) := by decide +kernel
theorem d_L_438 : decode cL_law 438 = .ok (.aload_n 0, 1) := by decide +kernel
theorem d_L_439 : decode cL_law 439 = .ok (.iload 4, 2) := by decide +kernel
theorem d_L_441 : decode cL_law 441 = .ok (.iconst 1, 1) := by decide +kernel
theorem d_L_442 : decode cL_law 442 = .ok (.iadd, 1) := by decide +kernel
theorem d_L_443 : decode cL_law 443 = .ok (.iaload, 1) := by decide +kernel
theorem d_L_444 : decode cL_law 444 = .ok (.aload_n 0, 1) := by decide +kernel
theorem d_L_445 : decode cL_law 445 = .ok (.iload 4, 2) := by decide +kernel
theorem d_L_447 : decode cL_law 447 = .ok (.iconst 2, 1) := by decide +kernel
theorem d_L_448 : decode cL_law 448 = .ok (.iadd, 1) := by decide +kernel
theorem d_L_449 : decode cL_law 449 = .ok (.iaload, 1) := by decide +kernel
theorem d_L_450 : decode cL_law 450 = .ok (.invokevirtual 44, 3) := by decide +kernel
theorem d_L_453 : decode cL_law 453 = .ok (.aload_n 2, 1) := by decide +kernel
theorem d_L_454 : decode cL_law 454 = .ok (.aload_n 0, 1) := by decide +kernel
theorem d_L_455 : decode cL_law 455 = .ok (.iload 4, 2) := by decide +kernel
theorem d_L_457 : decode cL_law 457 = .ok (.iconst 1, 1) := by decide +kernel
theorem d_L_458 : decode cL_law 458 = .ok (.iadd, 1) := by decide +kernel
theorem d_L_459 : decode cL_law 459 = .ok (.iaload, 1) := by decide +kernel
theorem d_L_460 : decode cL_law 460 = .ok (.aload_n 0, 1) := by decide +kernel
theorem d_L_461 : decode cL_law 461 = .ok (.iload 4, 2) := by decide +kernel
theorem d_L_463 : decode cL_law 463 = .ok (.iconst 2, 1) := by decide +kernel
theorem d_L_464 : decode cL_law 464 = .ok (.iadd, 1) := by decide +kernel
theorem d_L_465 : decode cL_law 465 = .ok (.iaload, 1) := by decide +kernel
theorem d_L_466 : decode cL_law 466 = .ok (.invokevirtual 47, 3) := by decide +kernel
theorem d_L_469 : decode cL_law 469 = .ok (.if_icmp .eq 1257, 3) := by decide +kernel
theorem d_L_472 : decode cL_law 472 = .ok (.iconst 0, 1) := by decide +kernel
theorem d_L_473 : decode cL_law 473 = .ok (.ireturn, 1) := by decide +kernel
theorem d_L_474 : decode cL_law 474 = .ok (.aload_n 1, 1) := by decide +kernel
theorem d_L_475 : decode cL_law 475 = .ok (.aload_n 0, 1) := by decide +kernel
theorem d_L_476 : decode cL_law 476 = .ok (.iload 4, 2) := by decide +kernel
theorem d_L_478 : decode cL_law 478 = .ok (.iconst 1, 1) := by decide +kernel
theorem d_L_479 : decode cL_law 479 = .ok (.iadd, 1) := by decide +kernel
theorem d_L_480 : decode cL_law 480 = .ok (.iaload, 1) := by decide +kernel
theorem d_L_481 : decode cL_law 481 = .ok (.aload_n 0, 1) := by decide +kernel
theorem d_L_482 : decode cL_law 482 = .ok (.iload 4, 2) := by decide +kernel
theorem d_L_484 : decode cL_law 484 = .ok (.iconst 2, 1) := by decide +kernel
theorem d_L_485 : decode cL_law 485 = .ok (.iadd, 1) := by decide +kernel
theorem d_L_486 : decode cL_law 486 = .ok (.iaload, 1) := by decide +kernel
theorem d_L_487 : decode cL_law 487 = .ok (.invokevirtual 48, 3) := by decide +kernel
theorem d_L_490 : decode cL_law 490 = .ok (.aload_n 2, 1) := by decide +kernel
theorem d_L_491 : decode cL_law 491 = .ok (.aload_n 0, 1) := by decide +kernel
theorem d_L_492 : decode cL_law 492 = .ok (.iload 4, 2) := by decide +kernel
theorem d_L_494 : decode cL_law 494 = .ok (.iconst 1, 1) := by decide +kernel
theorem d_L_495 : decode cL_law 495 = .ok (.iadd, 1) := by decide +kernel
theorem d_L_496 : decode cL_law 496 = .ok (.iaload, 1) := by decide +kernel
theorem d_L_497 : decode cL_law 497 = .ok (.aload_n 0, 1) := by decide +kernel
theorem d_L_498 : decode cL_law 498 = .ok (.iload 4, 2) := by decide +kernel
theorem d_L_500 : decode cL_law 500 = .ok (.iconst 2, 1) := by decide +kernel
theorem d_L_501 : decode cL_law 501 = .ok (.iadd, 1) := by decide +kernel
theorem d_L_502 : decode cL_law 502 = .ok (.iaload, 1) := by decide +kernel
theorem d_L_503 : decode cL_law 503 = .ok (.invokevirtual 51, 3) := by decide +kernel
theorem d_L_506 : decode cL_law 506 = .ok (.if_icmp .eq 1220, 3) := by decide +kernel
theorem d_L_509 : decode cL_law 509 = .ok (.iconst 0, 1) := by decide +kernel
theorem d_L_510 : decode cL_law 510 = .ok (.ireturn, 1) := by decide +kernel
theorem d_L_511 : decode cL_law 511 = .ok (.aload_n 1, 1) := by decide +kernel
theorem d_L_512 : decode cL_law 512 = .ok (.aload_n 0, 1) := by decide +kernel
theorem d_L_513 : decode cL_law 513 = .ok (.iload 4, 2) := by decide +kernel
theorem d_L_515 : decode cL_law 515 = .ok (.iconst 1, 1) := by decide +kernel
theorem d_L_516 : decode cL_law 516 = .ok (.iadd, 1) := by decide +kernel
theorem d_L_517 : decode cL_law 517 = .ok (.iaload, 1) := by decide +kernel
theorem d_L_518 : decode cL_law 518 = .ok (.aload_n 0, 1) := by decide +kernel
theorem d_L_519 : decode cL_law 519 = .ok (.iload 4, 2) := by decide +kernel
theorem d_L_521 : decode cL_law 521 = .ok (.iconst 2, 1) := by decide +kernel
theorem d_L_522 : decode cL_law 522 = .ok (.iadd, 1) := by decide +kernel
theorem d_L_523 : decode cL_law 523 = .ok (.iaload, 1) := by decide +kernel
theorem d_L_524 : decode cL_law 524 = .ok (.ifCond .eq 7, 3) := by decide +kernel
theorem d_L_527 : decode cL_law 527 = .ok (.iconst 1, 1) := by decide +kernel
theorem d_L_528 : decode cL_law 528 = .ok (.goto 4, 3) := by decide +kernel
theorem d_L_531 : decode cL_law 531 = .ok (.iconst 0, 1) := by decide +kernel
theorem d_L_532 : decode cL_law 532 = .ok (.invokevirtual 52, 3) := by decide +kernel
theorem d_L_535 : decode cL_law 535 = .ok (.aload_n 2, 1) := by decide +kernel
theorem d_L_536 : decode cL_law 536 = .ok (.aload_n 0, 1) := by decide +kernel
theorem d_L_537 : decode cL_law 537 = .ok (.iload 4, 2) := by decide +kernel
theorem d_L_539 : decode cL_law 539 = .ok (.iconst 1, 1) := by decide +kernel
theorem d_L_540 : decode cL_law 540 = .ok (.iadd, 1) := by decide +kernel
theorem d_L_541 : decode cL_law 541 = .ok (.iaload, 1) := by decide +kernel
theorem d_L_542 : decode cL_law 542 = .ok (.aload_n 0, 1) := by decide +kernel
theorem d_L_543 : decode cL_law 543 = .ok (.iload 4, 2) := by decide +kernel
theorem d_L_545 : decode cL_law 545 = .ok (.iconst 2, 1) := by decide +kernel
theorem d_L_546 : decode cL_law 546 = .ok (.iadd, 1) := by decide +kernel
theorem d_L_547 : decode cL_law 547 = .ok (.iaload, 1) := by decide +kernel
theorem d_L_548 : decode cL_law 548 = .ok (.ifCond .eq 7, 3) := by decide +kernel
theorem d_L_551 : decode cL_law 551 = .ok (.iconst 1, 1) := by decide +kernel
theorem d_L_552 : decode cL_law 552 = .ok (.goto 4, 3) := by decide +kernel
theorem d_L_555 : decode cL_law 555 = .ok (.iconst 0, 1) := by decide +kernel
theorem d_L_556 : decode cL_law 556 = .ok (.invokevirtual 56, 3) := by decide +kernel
theorem d_L_559 : decode cL_law 559 = .ok (.if_icmp .eq 1167, 3) := by decide +kernel
theorem d_L_562 : decode cL_law 562 = .ok (.iconst 0, 1) := by decide +kernel
theorem d_L_563 : decode cL_law 563 = .ok (.ireturn, 1) := by decide +kernel
theorem d_L_564 : decode cL_law 564 = .ok (.aload_n 1, 1) := by decide +kernel
theorem d_L_565 : decode cL_law 565 = .ok (.aload_n 0, 1) := by decide +kernel
theorem d_L_566 : decode cL_law 566 = .ok (.iload 4, 2) := by decide +kernel
theorem d_L_568 : decode cL_law 568 = .ok (.iconst 1, 1) := by decide +kernel
theorem d_L_569 : decode cL_law 569 = .ok (.iadd, 1) := by decide +kernel
theorem d_L_570 : decode cL_law 570 = .ok (.iaload, 1) := by decide +kernel
theorem d_L_571 : decode cL_law 571 = .ok (.aload_n 0, 1) := by decide +kernel
theorem d_L_572 : decode cL_law 572 = .ok (.iload 4, 2) := by decide +kernel
theorem d_L_574 : decode cL_law 574 = .ok (.iconst 2, 1) := by decide +kernel
theorem d_L_575 : decode cL_law 575 = .ok (.iadd, 1) := by decide +kernel
theorem d_L_576 : decode cL_law 576 = .ok (.iaload, 1) := by decide +kernel
theorem d_L_577 : decode cL_law 577 = .ok (.invokevirtual 57, 3) := by decide +kernel
theorem d_L_580 : decode cL_law 580 = .ok (.aload_n 2, 1) := by decide +kernel
theorem d_L_581 : decode cL_law 581 = .ok (.aload_n 0, 1) := by decide +kernel
theorem d_L_582 : decode cL_law 582 = .ok (.iload 4, 2) := by decide +kernel
theorem d_L_584 : decode cL_law 584 = .ok (.iconst 1, 1) := by decide +kernel
theorem d_L_585 : decode cL_law 585 = .ok (.iadd, 1) := by decide +kernel
theorem d_L_586 : decode cL_law 586 = .ok (.iaload, 1) := by decide +kernel
theorem d_L_587 : decode cL_law 587 = .ok (.aload_n 0, 1) := by decide +kernel
theorem d_L_588 : decode cL_law 588 = .ok (.iload 4, 2) := by decide +kernel
theorem d_L_590 : decode cL_law 590 = .ok (.iconst 2, 1) := by decide +kernel
theorem d_L_591 : decode cL_law 591 = .ok (.iadd, 1) := by decide +kernel
theorem d_L_592 : decode cL_law 592 = .ok (.iaload, 1) := by decide +kernel
theorem d_L_593 : decode cL_law 593 = .ok (.invokevirtual 60, 3) := by decide +kernel
theorem d_L_596 : decode cL_law 596 = .ok (.if_icmp .eq 1130, 3) := by decide +kernel
theorem d_L_599 : decode cL_law 599 = .ok (.iconst 0, 1) := by decide +kernel
theorem d_L_600 : decode cL_law 600 = .ok (.ireturn, 1) := by decide +kernel
theorem d_L_601 : decode cL_law 601 = .ok (.aload_n 1, 1) := by decide +kernel
theorem d_L_602 : decode cL_law 602 = .ok (.aload_n 0, 1) := by decide +kernel
theorem d_L_603 : decode cL_law 603 = .ok (.iload 4, 2) := by decide +kernel
theorem d_L_605 : decode cL_law 605 = .ok (.iconst 1, 1) := by decide +kernel
theorem d_L_606 : decode cL_law 606 = .ok (.iadd, 1) := by decide +kernel
theorem d_L_607 : decode cL_law 607 = .ok (.iaload, 1) := by decide +kernel
theorem d_L_608 : decode cL_law 608 = .ok (.aload_n 0, 1) := by decide +kernel
theorem d_L_609 : decode cL_law 609 = .ok (.iload 4, 2) := by decide +kernel
theorem d_L_611 : decode cL_law 611 = .ok (.iconst 2, 1) := by decide +kernel
theorem d_L_612 : decode cL_law 612 = .ok (.iadd, 1) := by decide +kernel
theorem d_L_613 : decode cL_law 613 = .ok (.iaload, 1) := by decide +kernel
theorem d_L_614 : decode cL_law 614 = .ok (.invokevirtual 61, 3) := by decide +kernel
theorem d_L_617 : decode cL_law 617 = .ok (.aload_n 2, 1) := by decide +kernel
theorem d_L_618 : decode cL_law 618 = .ok (.aload_n 0, 1) := by decide +kernel
theorem d_L_619 : decode cL_law 619 = .ok (.iload 4, 2) := by decide +kernel
theorem d_L_621 : decode cL_law 621 = .ok (.iconst 1, 1) := by decide +kernel
theorem d_L_622 : decode cL_law 622 = .ok (.iadd, 1) := by decide +kernel
theorem d_L_623 : decode cL_law 623 = .ok (.iaload, 1) := by decide +kernel
theorem d_L_624 : decode cL_law 624 = .ok (.aload_n 0, 1) := by decide +kernel
theorem d_L_625 : decode cL_law 625 = .ok (.iload 4, 2) := by decide +kernel
theorem d_L_627 : decode cL_law 627 = .ok (.iconst 2, 1) := by decide +kernel
theorem d_L_628 : decode cL_law 628 = .ok (.iadd, 1) := by decide +kernel
theorem d_L_629 : decode cL_law 629 = .ok (.iaload, 1) := by decide +kernel
theorem d_L_630 : decode cL_law 630 = .ok (.invokevirtual 64, 3) := by decide +kernel
theorem d_L_633 : decode cL_law 633 = .ok (.if_icmp .eq 1093, 3) := by decide +kernel
theorem d_L_636 : decode cL_law 636 = .ok (.iconst 0, 1) := by decide +kernel
theorem d_L_637 : decode cL_law 637 = .ok (.ireturn, 1) := by decide +kernel
theorem d_L_638 : decode cL_law 638 = .ok (.aload_n 1, 1) := by decide +kernel
theorem d_L_639 : decode cL_law 639 = .ok (.aload_n 0, 1) := by decide +kernel
theorem d_L_640 : decode cL_law 640 = .ok (.iload 4, 2) := by decide +kernel
theorem d_L_642 : decode cL_law 642 = .ok (.iconst 1, 1) := by decide +kernel
theorem d_L_643 : decode cL_law 643 = .ok (.iadd, 1) := by decide +kernel
theorem d_L_644 : decode cL_law 644 = .ok (.iaload, 1) := by decide +kernel
theorem d_L_645 : decode cL_law 645 = .ok (.invokevirtual 65, 3) := by decide +kernel
theorem d_L_648 : decode cL_law 648 = .ok (.aload_n 2, 1) := by decide +kernel
theorem d_L_649 : decode cL_law 649 = .ok (.aload_n 0, 1) := by decide +kernel
theorem d_L_650 : decode cL_law 650 = .ok (.iload 4, 2) := by decide +kernel
theorem d_L_652 : decode cL_law 652 = .ok (.iconst 1, 1) := by decide +kernel
theorem d_L_653 : decode cL_law 653 = .ok (.iadd, 1) := by decide +kernel
theorem d_L_654 : decode cL_law 654 = .ok (.iaload, 1) := by decide +kernel
theorem d_L_655 : decode cL_law 655 = .ok (.invokevirtual 69, 3) := by decide +kernel
theorem d_L_658 : decode cL_law 658 = .ok (.if_icmp .eq 1068, 3) := by decide +kernel
theorem d_L_661 : decode cL_law 661 = .ok (.iconst 0, 1) := by decide +kernel
theorem d_L_662 : decode cL_law 662 = .ok (.ireturn, 1) := by decide +kernel
theorem d_L_663 : decode cL_law 663 = .ok (.aload_n 1, 1) := by decide +kernel
theorem d_L_664 : decode cL_law 664 = .ok (.aload_n 0, 1) := by decide +kernel
theorem d_L_665 : decode cL_law 665 = .ok (.iload 4, 2) := by decide +kernel
theorem d_L_667 : decode cL_law 667 = .ok (.iconst 1, 1) := by decide +kernel
theorem d_L_668 : decode cL_law 668 = .ok (.iadd, 1) := by decide +kernel
theorem d_L_669 : decode cL_law 669 = .ok (.iaload, 1) := by decide +kernel
theorem d_L_670 : decode cL_law 670 = .ok (.invokevirtual 70, 3) := by decide +kernel
theorem d_L_673 : decode cL_law 673 = .ok (.aload_n 2, 1) := by decide +kernel
theorem d_L_674 : decode cL_law 674 = .ok (.aload_n 0, 1) := by decide +kernel
theorem d_L_675 : decode cL_law 675 = .ok (.iload 4, 2) := by decide +kernel
theorem d_L_677 : decode cL_law 677 = .ok (.iconst 1, 1) := by decide +kernel
theorem d_L_678 : decode cL_law 678 = .ok (.iadd, 1) := by decide +kernel
theorem d_L_679 : decode cL_law 679 = .ok (.iaload, 1) := by decide +kernel
theorem d_L_680 : decode cL_law 680 = .ok (.invokevirtual 73, 3) := by decide +kernel
theorem d_L_683 : decode cL_law 683 = .ok (.if_icmp .eq 1043, 3) := by decide +kernel
theorem d_L_686 : decode cL_law 686 = .ok (.iconst 0, 1) := by decide +kernel
theorem d_L_687 : decode cL_law 687 = .ok (.ireturn, 1) := by decide +kernel
theorem d_L_688 : decode cL_law 688 = .ok (.aload_n 1, 1) := by decide +kernel
theorem d_L_689 : decode cL_law 689 = .ok (.aload_n 0, 1) := by decide +kernel
theorem d_L_690 : decode cL_law 690 = .ok (.iload 4, 2) := by decide +kernel
theorem d_L_692 : decode cL_law 692 = .ok (.iconst 1, 1) := by decide +kernel
theorem d_L_693 : decode cL_law 693 = .ok (.iadd, 1) := by decide +kernel
theorem d_L_694 : decode cL_law 694 = .ok (.iaload, 1) := by decide +kernel
theorem d_L_695 : decode cL_law 695 = .ok (.invokevirtual 74, 3) := by decide +kernel
theorem d_L_698 : decode cL_law 698 = .ok (.aload_n 2, 1) := by decide +kernel
theorem d_L_699 : decode cL_law 699 = .ok (.aload_n 0, 1) := by decide +kernel
theorem d_L_700 : decode cL_law 700 = .ok (.iload 4, 2) := by decide +kernel
theorem d_L_702 : decode cL_law 702 = .ok (.iconst 1, 1) := by decide +kernel
theorem d_L_703 : decode cL_law 703 = .ok (.iadd, 1) := by decide +kernel
theorem d_L_704 : decode cL_law 704 = .ok (.iaload, 1) := by decide +kernel
theorem d_L_705 : decode cL_law 705 = .ok (.invokevirtual 77, 3) := by decide +kernel
theorem d_L_708 : decode cL_law 708 = .ok (.if_icmp .eq 1018, 3) := by decide +kernel
theorem d_L_711 : decode cL_law 711 = .ok (.iconst 0, 1) := by decide +kernel
theorem d_L_712 : decode cL_law 712 = .ok (.ireturn, 1) := by decide +kernel
theorem d_L_713 : decode cL_law 713 = .ok (.aload_n 1, 1) := by decide +kernel
theorem d_L_714 : decode cL_law 714 = .ok (.aload_n 0, 1) := by decide +kernel
theorem d_L_715 : decode cL_law 715 = .ok (.iload 4, 2) := by decide +kernel
theorem d_L_717 : decode cL_law 717 = .ok (.iconst 1, 1) := by decide +kernel
theorem d_L_718 : decode cL_law 718 = .ok (.iadd, 1) := by decide +kernel
theorem d_L_719 : decode cL_law 719 = .ok (.iaload, 1) := by decide +kernel
theorem d_L_720 : decode cL_law 720 = .ok (.aload_n 0, 1) := by decide +kernel
theorem d_L_721 : decode cL_law 721 = .ok (.iload 4, 2) := by decide +kernel
theorem d_L_723 : decode cL_law 723 = .ok (.iconst 2, 1) := by decide +kernel
theorem d_L_724 : decode cL_law 724 = .ok (.iadd, 1) := by decide +kernel
theorem d_L_725 : decode cL_law 725 = .ok (.iaload, 1) := by decide +kernel
theorem d_L_726 : decode cL_law 726 = .ok (.invokevirtual 78, 3) := by decide +kernel
theorem d_L_729 : decode cL_law 729 = .ok (.aload_n 2, 1) := by decide +kernel
theorem d_L_730 : decode cL_law 730 = .ok (.aload_n 0, 1) := by decide +kernel
theorem d_L_731 : decode cL_law 731 = .ok (.iload 4, 2) := by decide +kernel
theorem d_L_733 : decode cL_law 733 = .ok (.iconst 1, 1) := by decide +kernel
theorem d_L_734 : decode cL_law 734 = .ok (.iadd, 1) := by decide +kernel
theorem d_L_735 : decode cL_law 735 = .ok (.iaload, 1) := by decide +kernel
theorem d_L_736 : decode cL_law 736 = .ok (.aload_n 0, 1) := by decide +kernel
theorem d_L_737 : decode cL_law 737 = .ok (.iload 4, 2) := by decide +kernel
theorem d_L_739 : decode cL_law 739 = .ok (.iconst 2, 1) := by decide +kernel
theorem d_L_740 : decode cL_law 740 = .ok (.iadd, 1) := by decide +kernel
theorem d_L_741 : decode cL_law 741 = .ok (.iaload, 1) := by decide +kernel
theorem d_L_742 : decode cL_law 742 = .ok (.invokevirtual 81, 3) := by decide +kernel
theorem d_L_745 : decode cL_law 745 = .ok (.if_icmp .eq 981, 3) := by decide +kernel
theorem d_L_748 : decode cL_law 748 = .ok (.iconst 0, 1) := by decide +kernel
theorem d_L_749 : decode cL_law 749 = .ok (.ireturn, 1) := by decide +kernel
theorem d_L_750 : decode cL_law 750 = .ok (.aload_n 1, 1) := by decide +kernel
theorem d_L_751 : decode cL_law 751 = .ok (.aload_n 0, 1) := by decide +kernel
theorem d_L_752 : decode cL_law 752 = .ok (.iload 4, 2) := by decide +kernel
theorem d_L_754 : decode cL_law 754 = .ok (.iconst 1, 1) := by decide +kernel
theorem d_L_755 : decode cL_law 755 = .ok (.iadd, 1) := by decide +kernel
theorem d_L_756 : decode cL_law 756 = .ok (.iaload, 1) := by decide +kernel
theorem d_L_757 : decode cL_law 757 = .ok (.aload_n 0, 1) := by decide +kernel
theorem d_L_758 : decode cL_law 758 = .ok (.iload 4, 2) := by decide +kernel
theorem d_L_760 : decode cL_law 760 = .ok (.iconst 2, 1) := by decide +kernel
theorem d_L_761 : decode cL_law 761 = .ok (.iadd, 1) := by decide +kernel
theorem d_L_762 : decode cL_law 762 = .ok (.iaload, 1) := by decide +kernel
theorem d_L_763 : decode cL_law 763 = .ok (.invokevirtual 82, 3) := by decide +kernel
theorem d_L_766 : decode cL_law 766 = .ok (.aload_n 2, 1) := by decide +kernel
theorem d_L_767 : decode cL_law 767 = .ok (.aload_n 0, 1) := by decide +kernel
theorem d_L_768 : decode cL_law 768 = .ok (.iload 4, 2) := by decide +kernel
theorem d_L_770 : decode cL_law 770 = .ok (.iconst 1, 1) := by decide +kernel
theorem d_L_771 : decode cL_law 771 = .ok (.iadd, 1) := by decide +kernel
theorem d_L_772 : decode cL_law 772 = .ok (.iaload, 1) := by decide +kernel
theorem d_L_773 : decode cL_law 773 = .ok (.aload_n 0, 1) := by decide +kernel
theorem d_L_774 : decode cL_law 774 = .ok (.iload 4, 2) := by decide +kernel
theorem d_L_776 : decode cL_law 776 = .ok (.iconst 2, 1) := by decide +kernel
theorem d_L_777 : decode cL_law 777 = .ok (.iadd, 1) := by decide +kernel
theorem d_L_778 : decode cL_law 778 = .ok (.iaload, 1) := by decide +kernel
theorem d_L_779 : decode cL_law 779 = .ok (.invokevirtual 85, 3) := by decide +kernel
theorem d_L_782 : decode cL_law 782 = .ok (.if_icmp .eq 944, 3) := by decide +kernel
theorem d_L_785 : decode cL_law 785 = .ok (.iconst 0, 1) := by decide +kernel
theorem d_L_786 : decode cL_law 786 = .ok (.ireturn, 1) := by decide +kernel
theorem d_L_787 : decode cL_law 787 = .ok (.aload_n 1, 1) := by decide +kernel
theorem d_L_788 : decode cL_law 788 = .ok (.aload_n 0, 1) := by decide +kernel
theorem d_L_789 : decode cL_law 789 = .ok (.iload 4, 2) := by decide +kernel
theorem d_L_791 : decode cL_law 791 = .ok (.iconst 1, 1) := by decide +kernel
theorem d_L_792 : decode cL_law 792 = .ok (.iadd, 1) := by decide +kernel
theorem d_L_793 : decode cL_law 793 = .ok (.iaload, 1) := by decide +kernel
theorem d_L_794 : decode cL_law 794 = .ok (.aload_n 0, 1) := by decide +kernel
theorem d_L_795 : decode cL_law 795 = .ok (.iload 4, 2) := by decide +kernel
theorem d_L_797 : decode cL_law 797 = .ok (.iconst 2, 1) := by decide +kernel
theorem d_L_798 : decode cL_law 798 = .ok (.iadd, 1) := by decide +kernel
theorem d_L_799 : decode cL_law 799 = .ok (.iaload, 1) := by decide +kernel
theorem d_L_800 : decode cL_law 800 = .ok (.aload_n 0, 1) := by decide +kernel
theorem d_L_801 : decode cL_law 801 = .ok (.iload 4, 2) := by decide +kernel
theorem d_L_803 : decode cL_law 803 = .ok (.iconst 3, 1) := by decide +kernel
theorem d_L_804 : decode cL_law 804 = .ok (.iadd, 1) := by decide +kernel
theorem d_L_805 : decode cL_law 805 = .ok (.iaload, 1) := by decide +kernel
theorem d_L_806 : decode cL_law 806 = .ok (.aload_n 0, 1) := by decide +kernel
theorem d_L_807 : decode cL_law 807 = .ok (.iload 4, 2) := by decide +kernel
theorem d_L_809 : decode cL_law 809 = .ok (.iconst 4, 1) := by decide +kernel
theorem d_L_810 : decode cL_law 810 = .ok (.iadd, 1) := by decide +kernel
theorem d_L_811 : decode cL_law 811 = .ok (.iaload, 1) := by decide +kernel
theorem d_L_812 : decode cL_law 812 = .ok (.ifCond .eq 7, 3) := by decide +kernel
theorem d_L_815 : decode cL_law 815 = .ok (.iconst 1, 1) := by decide +kernel
theorem d_L_816 : decode cL_law 816 = .ok (.goto 4, 3) := by decide +kernel
theorem d_L_819 : decode cL_law 819 = .ok (.iconst 0, 1) := by decide +kernel
theorem d_L_820 : decode cL_law 820 = .ok (.invokevirtual 86, 3) := by decide +kernel
theorem d_L_823 : decode cL_law 823 = .ok (.aload_n 2, 1) := by decide +kernel
theorem d_L_824 : decode cL_law 824 = .ok (.aload_n 0, 1) := by decide +kernel
theorem d_L_825 : decode cL_law 825 = .ok (.iload 4, 2) := by decide +kernel
theorem d_L_827 : decode cL_law 827 = .ok (.iconst 1, 1) := by decide +kernel
theorem d_L_828 : decode cL_law 828 = .ok (.iadd, 1) := by decide +kernel
theorem d_L_829 : decode cL_law 829 = .ok (.iaload, 1) := by decide +kernel
theorem d_L_830 : decode cL_law 830 = .ok (.aload_n 0, 1) := by decide +kernel
theorem d_L_831 : decode cL_law 831 = .ok (.iload 4, 2) := by decide +kernel
theorem d_L_833 : decode cL_law 833 = .ok (.iconst 2, 1) := by decide +kernel
theorem d_L_834 : decode cL_law 834 = .ok (.iadd, 1) := by decide +kernel
theorem d_L_835 : decode cL_law 835 = .ok (.iaload, 1) := by decide +kernel
theorem d_L_836 : decode cL_law 836 = .ok (.aload_n 0, 1) := by decide +kernel
theorem d_L_837 : decode cL_law 837 = .ok (.iload 4, 2) := by decide +kernel
theorem d_L_839 : decode cL_law 839 = .ok (.iconst 3, 1) := by decide +kernel
theorem d_L_840 : decode cL_law 840 = .ok (.iadd, 1) := by decide +kernel
theorem d_L_841 : decode cL_law 841 = .ok (.iaload, 1) := by decide +kernel
theorem d_L_842 : decode cL_law 842 = .ok (.aload_n 0, 1) := by decide +kernel
theorem d_L_843 : decode cL_law 843 = .ok (.iload 4, 2) := by decide +kernel
theorem d_L_845 : decode cL_law 845 = .ok (.iconst 4, 1) := by decide +kernel
theorem d_L_846 : decode cL_law 846 = .ok (.iadd, 1) := by decide +kernel
theorem d_L_847 : decode cL_law 847 = .ok (.iaload, 1) := by decide +kernel
theorem d_L_848 : decode cL_law 848 = .ok (.ifCond .eq 7, 3) := by decide +kernel
theorem d_L_851 : decode cL_law 851 = .ok (.iconst 1, 1) := by decide +kernel
theorem d_L_852 : decode cL_law 852 = .ok (.goto 4, 3) := by decide +kernel
theorem d_L_855 : decode cL_law 855 = .ok (.iconst 0, 1) := by decide +kernel
theorem d_L_856 : decode cL_law 856 = .ok (.invokevirtual 90, 3) := by decide +kernel
theorem d_L_859 : decode cL_law 859 = .ok (.if_icmp .eq 867, 3) := by decide +kernel
theorem d_L_862 : decode cL_law 862 = .ok (.iconst 0, 1) := by decide +kernel
theorem d_L_863 : decode cL_law 863 = .ok (.ireturn, 1) := by decide +kernel
theorem d_L_864 : decode cL_law 864 = .ok (.aload_n 1, 1) := by decide +kernel
theorem d_L_865 : decode cL_law 865 = .ok (.aload_n 0, 1) := by decide +kernel
theorem d_L_866 : decode cL_law 866 = .ok (.iload 4, 2) := by decide +kernel
theorem d_L_868 : decode cL_law 868 = .ok (.iconst 1, 1) := by decide +kernel
theorem d_L_869 : decode cL_law 869 = .ok (.iadd, 1) := by decide +kernel
theorem d_L_870 : decode cL_law 870 = .ok (.iaload, 1) := by decide +kernel
theorem d_L_871 : decode cL_law 871 = .ok (.aload_n 0, 1) := by decide +kernel
theorem d_L_872 : decode cL_law 872 = .ok (.iload 4, 2) := by decide +kernel
theorem d_L_874 : decode cL_law 874 = .ok (.iconst 2, 1) := by decide +kernel
theorem d_L_875 : decode cL_law 875 = .ok (.iadd, 1) := by decide +kernel
theorem d_L_876 : decode cL_law 876 = .ok (.iaload, 1) := by decide +kernel
theorem d_L_877 : decode cL_law 877 = .ok (.invokevirtual 91, 3) := by decide +kernel
theorem d_L_880 : decode cL_law 880 = .ok (.aload_n 2, 1) := by decide +kernel
theorem d_L_881 : decode cL_law 881 = .ok (.aload_n 0, 1) := by decide +kernel
theorem d_L_882 : decode cL_law 882 = .ok (.iload 4, 2) := by decide +kernel
theorem d_L_884 : decode cL_law 884 = .ok (.iconst 1, 1) := by decide +kernel
theorem d_L_885 : decode cL_law 885 = .ok (.iadd, 1) := by decide +kernel
theorem d_L_886 : decode cL_law 886 = .ok (.iaload, 1) := by decide +kernel
theorem d_L_887 : decode cL_law 887 = .ok (.aload_n 0, 1) := by decide +kernel
theorem d_L_888 : decode cL_law 888 = .ok (.iload 4, 2) := by decide +kernel
theorem d_L_890 : decode cL_law 890 = .ok (.iconst 2, 1) := by decide +kernel
theorem d_L_891 : decode cL_law 891 = .ok (.iadd, 1) := by decide +kernel
theorem d_L_892 : decode cL_law 892 = .ok (.iaload, 1) := by decide +kernel
theorem d_L_893 : decode cL_law 893 = .ok (.invokevirtual 94, 3) := by decide +kernel
theorem d_L_896 : decode cL_law 896 = .ok (.if_icmp .eq 830, 3) := by decide +kernel
theorem d_L_899 : decode cL_law 899 = .ok (.iconst 0, 1) := by decide +kernel
theorem d_L_900 : decode cL_law 900 = .ok (.ireturn, 1) := by decide +kernel
theorem d_L_901 : decode cL_law 901 = .ok (.aload_n 1, 1) := by decide +kernel
theorem d_L_902 : decode cL_law 902 = .ok (.aload_n 0, 1) := by decide +kernel
theorem d_L_903 : decode cL_law 903 = .ok (.iload 4, 2) := by decide +kernel
theorem d_L_905 : decode cL_law 905 = .ok (.iconst 1, 1) := by decide +kernel
theorem d_L_906 : decode cL_law 906 = .ok (.iadd, 1) := by decide +kernel
theorem d_L_907 : decode cL_law 907 = .ok (.iaload, 1) := by decide +kernel
theorem d_L_908 : decode cL_law 908 = .ok (.aload_n 0, 1) := by decide +kernel
theorem d_L_909 : decode cL_law 909 = .ok (.iload 4, 2) := by decide +kernel
theorem d_L_911 : decode cL_law 911 = .ok (.iconst 2, 1) := by decide +kernel
theorem d_L_912 : decode cL_law 912 = .ok (.iadd, 1) := by decide +kernel
theorem d_L_913 : decode cL_law 913 = .ok (.iaload, 1) := by decide +kernel
theorem d_L_914 : decode cL_law 914 = .ok (.invokevirtual 95, 3) := by decide +kernel
theorem d_L_917 : decode cL_law 917 = .ok (.aload_n 2, 1) := by decide +kernel
theorem d_L_918 : decode cL_law 918 = .ok (.aload_n 0, 1) := by decide +kernel
theorem d_L_919 : decode cL_law 919 = .ok (.iload 4, 2) := by decide +kernel
theorem d_L_921 : decode cL_law 921 = .ok (.iconst 1, 1) := by decide +kernel
theorem d_L_922 : decode cL_law 922 = .ok (.iadd, 1) := by decide +kernel
theorem d_L_923 : decode cL_law 923 = .ok (.iaload, 1) := by decide +kernel
theorem d_L_924 : decode cL_law 924 = .ok (.aload_n 0, 1) := by decide +kernel
theorem d_L_925 : decode cL_law 925 = .ok (.iload 4, 2) := by decide +kernel
theorem d_L_927 : decode cL_law 927 = .ok (.iconst 2, 1) := by decide +kernel
theorem d_L_928 : decode cL_law 928 = .ok (.iadd, 1) := by decide +kernel
theorem d_L_929 : decode cL_law 929 = .ok (.iaload, 1) := by decide +kernel
theorem d_L_930 : decode cL_law 930 = .ok (.invokevirtual 98, 3) := by decide +kernel
theorem d_L_933 : decode cL_law 933 = .ok (.if_icmp .eq 793, 3) := by decide +kernel
theorem d_L_936 : decode cL_law 936 = .ok (.iconst 0, 1) := by decide +kernel
theorem d_L_937 : decode cL_law 937 = .ok (.ireturn, 1) := by decide +kernel
theorem d_L_938 : decode cL_law 938 = .ok (.aload_n 1, 1) := by decide +kernel
theorem d_L_939 : decode cL_law 939 = .ok (.aload_n 0, 1) := by decide +kernel
theorem d_L_940 : decode cL_law 940 = .ok (.iload 4, 2) := by decide +kernel
theorem d_L_942 : decode cL_law 942 = .ok (.iconst 1, 1) := by decide +kernel
theorem d_L_943 : decode cL_law 943 = .ok (.iadd, 1) := by decide +kernel
theorem d_L_944 : decode cL_law 944 = .ok (.iaload, 1) := by decide +kernel
theorem d_L_945 : decode cL_law 945 = .ok (.aload_n 0, 1) := by decide +kernel
theorem d_L_946 : decode cL_law 946 = .ok (.iload 4, 2) := by decide +kernel
theorem d_L_948 : decode cL_law 948 = .ok (.iconst 2, 1) := by decide +kernel
theorem d_L_949 : decode cL_law 949 = .ok (.iadd, 1) := by decide +kernel
theorem d_L_950 : decode cL_law 950 = .ok (.iaload, 1) := by decide +kernel
theorem d_L_951 : decode cL_law 951 = .ok (.invokevirtual 99, 3) := by decide +kernel
theorem d_L_954 : decode cL_law 954 = .ok (.aload_n 2, 1) := by decide +kernel
theorem d_L_955 : decode cL_law 955 = .ok (.aload_n 0, 1) := by decide +kernel
theorem d_L_956 : decode cL_law 956 = .ok (.iload 4, 2) := by decide +kernel
theorem d_L_958 : decode cL_law 958 = .ok (.iconst 1, 1) := by decide +kernel
theorem d_L_959 : decode cL_law 959 = .ok (.iadd, 1) := by decide +kernel
theorem d_L_960 : decode cL_law 960 = .ok (.iaload, 1) := by decide +kernel
theorem d_L_961 : decode cL_law 961 = .ok (.aload_n 0, 1) := by decide +kernel
theorem d_L_962 : decode cL_law 962 = .ok (.iload 4, 2) := by decide +kernel
theorem d_L_964 : decode cL_law 964 = .ok (.iconst 2, 1) := by decide +kernel
theorem d_L_965 : decode cL_law 965 = .ok (.iadd, 1) := by decide +kernel
theorem d_L_966 : decode cL_law 966 = .ok (.iaload, 1) := by decide +kernel
theorem d_L_967 : decode cL_law 967 = .ok (.invokevirtual 102, 3) := by decide +kernel
theorem d_L_970 : decode cL_law 970 = .ok (.if_icmp .eq 756, 3) := by decide +kernel
theorem d_L_973 : decode cL_law 973 = .ok (.iconst 0, 1) := by decide +kernel
theorem d_L_974 : decode cL_law 974 = .ok (.ireturn, 1) := by decide +kernel
theorem d_L_975 : decode cL_law 975 = .ok (.aload_n 1, 1) := by decide +kernel
theorem d_L_976 : decode cL_law 976 = .ok (.aload_n 0, 1) := by decide +kernel
theorem d_L_977 : decode cL_law 977 = .ok (.iload 4, 2) := by decide +kernel
theorem d_L_979 : decode cL_law 979 = .ok (.iconst 1, 1) := by decide +kernel
theorem d_L_980 : decode cL_law 980 = .ok (.iadd, 1) := by decide +kernel
theorem d_L_981 : decode cL_law 981 = .ok (.iaload, 1) := by decide +kernel
theorem d_L_982 : decode cL_law 982 = .ok (.aload_n 0, 1) := by decide +kernel
theorem d_L_983 : decode cL_law 983 = .ok (.iload 4, 2) := by decide +kernel
theorem d_L_985 : decode cL_law 985 = .ok (.iconst 2, 1) := by decide +kernel
theorem d_L_986 : decode cL_law 986 = .ok (.iadd, 1) := by decide +kernel
theorem d_L_987 : decode cL_law 987 = .ok (.iaload, 1) := by decide +kernel
theorem d_L_988 : decode cL_law 988 = .ok (.invokevirtual 103, 3) := by decide +kernel
theorem d_L_991 : decode cL_law 991 = .ok (.aload_n 2, 1) := by decide +kernel
theorem d_L_992 : decode cL_law 992 = .ok (.aload_n 0, 1) := by decide +kernel
theorem d_L_993 : decode cL_law 993 = .ok (.iload 4, 2) := by decide +kernel
theorem d_L_995 : decode cL_law 995 = .ok (.iconst 1, 1) := by decide +kernel
theorem d_L_996 : decode cL_law 996 = .ok (.iadd, 1) := by decide +kernel
theorem d_L_997 : decode cL_law 997 = .ok (.iaload, 1) := by decide +kernel
theorem d_L_998 : decode cL_law 998 = .ok (.aload_n 0, 1) := by decide +kernel
theorem d_L_999 : decode cL_law 999 = .ok (.iload 4, 2) := by decide +kernel
theorem d_L_1001 : decode cL_law 1001 = .ok (.iconst 2, 1) := by decide +kernel
theorem d_L_1002 : decode cL_law 1002 = .ok (.iadd, 1) := by decide +kernel
theorem d_L_1003 : decode cL_law 1003 = .ok (.iaload, 1) := by decide +kernel
theorem d_L_1004 : decode cL_law 1004 = .ok (.invokevirtual 106, 3) := by decide +kernel
theorem d_L_1007 : decode cL_law 1007 = .ok (.if_icmp .eq 719, 3) := by decide +kernel
theorem d_L_1010 : decode cL_law 1010 = .ok (.iconst 0, 1) := by decide +kernel
theorem d_L_1011 : decode cL_law 1011 = .ok (.ireturn, 1) := by decide +kernel
theorem d_L_1012 : decode cL_law 1012 = .ok (.aload_n 1, 1) := by decide +kernel
theorem d_L_1013 : decode cL_law 1013 = .ok (.aload_n 0, 1) := by decide +kernel
theorem d_L_1014 : decode cL_law 1014 = .ok (.iload 4, 2) := by decide +kernel
theorem d_L_1016 : decode cL_law 1016 = .ok (.iconst 1, 1) := by decide +kernel
theorem d_L_1017 : decode cL_law 1017 = .ok (.iadd, 1) := by decide +kernel
theorem d_L_1018 : decode cL_law 1018 = .ok (.iaload, 1) := by decide +kernel
theorem d_L_1019 : decode cL_law 1019 = .ok (.invokevirtual 107, 3) := by decide +kernel
theorem d_L_1022 : decode cL_law 1022 = .ok (.aload_n 2, 1) := by decide +kernel
theorem d_L_1023 : decode cL_law 1023 = .ok (.aload_n 0, 1) := by decide +kernel
theorem d_L_1024 : decode cL_law 1024 = .ok (.iload 4, 2) := by decide +kernel
theorem d_L_1026 : decode cL_law 1026 = .ok (.iconst 1, 1) := by decide +kernel
theorem d_L_1027 : decode cL_law 1027 = .ok (.iadd, 1) := by decide +kernel
theorem d_L_1028 : decode cL_law 1028 = .ok (.iaload, 1) := by decide +kernel
theorem d_L_1029 : decode cL_law 1029 = .ok (.invokevirtual 110, 3) := by decide +kernel
theorem d_L_1032 : decode cL_law 1032 = .ok (.if_icmp .eq 694, 3) := by decide +kernel
theorem d_L_1035 : decode cL_law 1035 = .ok (.iconst 0, 1) := by decide +kernel
theorem d_L_1036 : decode cL_law 1036 = .ok (.ireturn, 1) := by decide +kernel
theorem d_L_1037 : decode cL_law 1037 = .ok (.aload_n 1, 1) := by decide +kernel
theorem d_L_1038 : decode cL_law 1038 = .ok (.aload_n 0, 1) := by decide +kernel
theorem d_L_1039 : decode cL_law 1039 = .ok (.iload 4, 2) := by decide +kernel
theorem d_L_1041 : decode cL_law 1041 = .ok (.iconst 1, 1) := by decide +kernel
theorem d_L_1042 : decode cL_law 1042 = .ok (.iadd, 1) := by decide +kernel
theorem d_L_1043 : decode cL_law 1043 = .ok (.iaload, 1) := by decide +kernel
theorem d_L_1044 : decode cL_law 1044 = .ok (.aload_n 0, 1) := by decide +kernel
theorem d_L_1045 : decode cL_law 1045 = .ok (.iload 4, 2) := by decide +kernel
theorem d_L_1047 : decode cL_law 1047 = .ok (.iconst 2, 1) := by decide +kernel
theorem d_L_1048 : decode cL_law 1048 = .ok (.iadd, 1) := by decide +kernel
theorem d_L_1049 : decode cL_law 1049 = .ok (.iaload, 1) := by decide +kernel
theorem d_L_1050 : decode cL_law 1050 = .ok (.aload_n 0, 1) := by decide +kernel
theorem d_L_1051 : decode cL_law 1051 = .ok (.iload 4, 2) := by decide +kernel
theorem d_L_1053 : decode cL_law 1053 = .ok (.iconst 3, 1) := by decide +kernel
theorem d_L_1054 : decode cL_law 1054 = .ok (.iadd, 1) := by decide +kernel
theorem d_L_1055 : decode cL_law 1055 = .ok (.iaload, 1) := by decide +kernel
theorem d_L_1056 : decode cL_law 1056 = .ok (.invokevirtual 111, 3) := by decide +kernel
theorem d_L_1059 : decode cL_law 1059 = .ok (.aload_n 2, 1) := by decide +kernel
theorem d_L_1060 : decode cL_law 1060 = .ok (.aload_n 0, 1) := by decide +kernel
theorem d_L_1061 : decode cL_law 1061 = .ok (.iload 4, 2) := by decide +kernel
theorem d_L_1063 : decode cL_law 1063 = .ok (.iconst 1, 1) := by decide +kernel
theorem d_L_1064 : decode cL_law 1064 = .ok (.iadd, 1) := by decide +kernel
theorem d_L_1065 : decode cL_law 1065 = .ok (.iaload, 1) := by decide +kernel
theorem d_L_1066 : decode cL_law 1066 = .ok (.aload_n 0, 1) := by decide +kernel
theorem d_L_1067 : decode cL_law 1067 = .ok (.iload 4, 2) := by decide +kernel
theorem d_L_1069 : decode cL_law 1069 = .ok (.iconst 2, 1) := by decide +kernel
theorem d_L_1070 : decode cL_law 1070 = .ok (.iadd, 1) := by decide +kernel
theorem d_L_1071 : decode cL_law 1071 = .ok (.iaload, 1) := by decide +kernel
theorem d_L_1072 : decode cL_law 1072 = .ok (.aload_n 0, 1) := by decide +kernel
theorem d_L_1073 : decode cL_law 1073 = .ok (.iload 4, 2) := by decide +kernel
theorem d_L_1075 : decode cL_law 1075 = .ok (.iconst 3, 1) := by decide +kernel
theorem d_L_1076 : decode cL_law 1076 = .ok (.iadd, 1) := by decide +kernel
theorem d_L_1077 : decode cL_law 1077 = .ok (.iaload, 1) := by decide +kernel
theorem d_L_1078 : decode cL_law 1078 = .ok (.invokevirtual 114, 3) := by decide +kernel
theorem d_L_1081 : decode cL_law 1081 = .ok (.if_icmp .eq 645, 3) := by decide +kernel
theorem d_L_1084 : decode cL_law 1084 = .ok (.iconst 0, 1) := by decide +kernel
theorem d_L_1085 : decode cL_law 1085 = .ok (.ireturn, 1) := by decide +kernel
theorem d_L_1086 : decode cL_law 1086 = .ok (.aload_n 1, 1) := by decide +kernel
theorem d_L_1087 : decode cL_law 1087 = .ok (.aload_n 0, 1) := by decide +kernel
theorem d_L_1088 : decode cL_law 1088 = .ok (.iload 4, 2) := by decide +kernel
theorem d_L_1090 : decode cL_law 1090 = .ok (.iconst 1, 1) := by decide +kernel
theorem d_L_1091 : decode cL_law 1091 = .ok (.iadd, 1) := by decide +kernel
theorem d_L_1092 : decode cL_law 1092 = .ok (.iaload, 1) := by decide +kernel
theorem d_L_1093 : decode cL_law 1093 = .ok (.aload_n 0, 1) := by decide +kernel
theorem d_L_1094 : decode cL_law 1094 = .ok (.iload 4, 2) := by decide +kernel
theorem d_L_1096 : decode cL_law 1096 = .ok (.iconst 2, 1) := by decide +kernel
theorem d_L_1097 : decode cL_law 1097 = .ok (.iadd, 1) := by decide +kernel
theorem d_L_1098 : decode cL_law 1098 = .ok (.iaload, 1) := by decide +kernel
theorem d_L_1099 : decode cL_law 1099 = .ok (.invokevirtual 115, 3) := by decide +kernel
theorem d_L_1102 : decode cL_law 1102 = .ok (.aload_n 2, 1) := by decide +kernel
theorem d_L_1103 : decode cL_law 1103 = .ok (.aload_n 0, 1) := by decide +kernel
theorem d_L_1104 : decode cL_law 1104 = .ok (.iload 4, 2) := by decide +kernel
theorem d_L_1106 : decode cL_law 1106 = .ok (.iconst 1, 1) := by decide +kernel
theorem d_L_1107 : decode cL_law 1107 = .ok (.iadd, 1) := by decide +kernel
theorem d_L_1108 : decode cL_law 1108 = .ok (.iaload, 1) := by decide +kernel
theorem d_L_1109 : decode cL_law 1109 = .ok (.aload_n 0, 1) := by decide +kernel
theorem d_L_1110 : decode cL_law 1110 = .ok (.iload 4, 2) := by decide +kernel
theorem d_L_1112 : decode cL_law 1112 = .ok (.iconst 2, 1) := by decide +kernel
theorem d_L_1113 : decode cL_law 1113 = .ok (.iadd, 1) := by decide +kernel
theorem d_L_1114 : decode cL_law 1114 = .ok (.iaload, 1) := by decide +kernel
theorem d_L_1115 : decode cL_law 1115 = .ok (.invokevirtual 118, 3) := by decide +kernel
theorem d_L_1118 : decode cL_law 1118 = .ok (.if_icmp .eq 608, 3) := by decide +kernel
theorem d_L_1121 : decode cL_law 1121 = .ok (.iconst 0, 1) := by decide +kernel
theorem d_L_1122 : decode cL_law 1122 = .ok (.ireturn, 1) := by decide +kernel
theorem d_L_1123 : decode cL_law 1123 = .ok (.aload_n 1, 1) := by decide +kernel
theorem d_L_1124 : decode cL_law 1124 = .ok (.aload_n 0, 1) := by decide +kernel
theorem d_L_1125 : decode cL_law 1125 = .ok (.iload 4, 2) := by decide +kernel
theorem d_L_1127 : decode cL_law 1127 = .ok (.iconst 1, 1) := by decide +kernel
theorem d_L_1128 : decode cL_law 1128 = .ok (.iadd, 1) := by decide +kernel
theorem d_L_1129 : decode cL_law 1129 = .ok (.iaload, 1) := by decide +kernel
theorem d_L_1130 : decode cL_law 1130 = .ok (.invokevirtual 119, 3) := by decide +kernel
theorem d_L_1133 : decode cL_law 1133 = .ok (.aload_n 2, 1) := by decide +kernel
theorem d_L_1134 : decode cL_law 1134 = .ok (.aload_n 0, 1) := by decide +kernel
theorem d_L_1135 : decode cL_law 1135 = .ok (.iload 4, 2) := by decide +kernel
theorem d_L_1137 : decode cL_law 1137 = .ok (.iconst 1, 1) := by decide +kernel
theorem d_L_1138 : decode cL_law 1138 = .ok (.iadd, 1) := by decide +kernel
theorem d_L_1139 : decode cL_law 1139 = .ok (.iaload, 1) := by decide +kernel
theorem d_L_1140 : decode cL_law 1140 = .ok (.invokevirtual 122, 3) := by decide +kernel
theorem d_L_1143 : decode cL_law 1143 = .ok (.if_icmp .eq 583, 3) := by decide +kernel
theorem d_L_1146 : decode cL_law 1146 = .ok (.iconst 0, 1) := by decide +kernel
theorem d_L_1147 : decode cL_law 1147 = .ok (.ireturn, 1) := by decide +kernel
theorem d_L_1148 : decode cL_law 1148 = .ok (.aload_n 1, 1) := by decide +kernel
theorem d_L_1149 : decode cL_law 1149 = .ok (.aload_n 0, 1) := by decide +kernel
theorem d_L_1150 : decode cL_law 1150 = .ok (.iload 4, 2) := by decide +kernel
theorem d_L_1152 : decode cL_law 1152 = .ok (.iconst 1, 1) := by decide +kernel
theorem d_L_1153 : decode cL_law 1153 = .ok (.iadd, 1) := by decide +kernel
theorem d_L_1154 : decode cL_law 1154 = .ok (.iaload, 1) := by decide +kernel
theorem d_L_1155 : decode cL_law 1155 = .ok (.invokevirtual 123, 3) := by decide +kernel
theorem d_L_1158 : decode cL_law 1158 = .ok (.aload_n 2, 1) := by decide +kernel
theorem d_L_1159 : decode cL_law 1159 = .ok (.aload_n 0, 1) := by decide +kernel
theorem d_L_1160 : decode cL_law 1160 = .ok (.iload 4, 2) := by decide +kernel
theorem d_L_1162 : decode cL_law 1162 = .ok (.iconst 1, 1) := by decide +kernel
theorem d_L_1163 : decode cL_law 1163 = .ok (.iadd, 1) := by decide +kernel
theorem d_L_1164 : decode cL_law 1164 = .ok (.iaload, 1) := by decide +kernel
theorem d_L_1165 : decode cL_law 1165 = .ok (.invokevirtual 126, 3) := by decide +kernel
theorem d_L_1168 : decode cL_law 1168 = .ok (.if_icmp .eq 558, 3) := by decide +kernel
theorem d_L_1171 : decode cL_law 1171 = .ok (.iconst 0, 1) := by decide +kernel
theorem d_L_1172 : decode cL_law 1172 = .ok (.ireturn, 1) := by decide +kernel
theorem d_L_1173 : decode cL_law 1173 = .ok (.aload_n 1, 1) := by decide +kernel
theorem d_L_1174 : decode cL_law 1174 = .ok (.aload_n 0, 1) := by decide +kernel
theorem d_L_1175 : decode cL_law 1175 = .ok (.iload 4, 2) := by decide +kernel
theorem d_L_1177 : decode cL_law 1177 = .ok (.iconst 1, 1) := by decide +kernel
theorem d_L_1178 : decode cL_law 1178 = .ok (.iadd, 1) := by decide +kernel
theorem d_L_1179 : decode cL_law 1179 = .ok (.iaload, 1) := by decide +kernel
theorem d_L_1180 : decode cL_law 1180 = .ok (.invokevirtual 127, 3) := by decide +kernel
theorem d_L_1183 : decode cL_law 1183 = .ok (.aload_n 2, 1) := by decide +kernel
theorem d_L_1184 : decode cL_law 1184 = .ok (.aload_n 0, 1) := by decide +kernel
theorem d_L_1185 : decode cL_law 1185 = .ok (.iload 4, 2) := by decide +kernel
theorem d_L_1187 : decode cL_law 1187 = .ok (.iconst 1, 1) := by decide +kernel
theorem d_L_1188 : decode cL_law 1188 = .ok (.iadd, 1) := by decide +kernel
theorem d_L_1189 : decode cL_law 1189 = .ok (.iaload, 1) := by decide +kernel
theorem d_L_1190 : decode cL_law 1190 = .ok (.invokevirtual 130, 3) := by decide +kernel
theorem d_L_1193 : decode cL_law 1193 = .ok (.if_icmp .eq 533, 3) := by decide +kernel
theorem d_L_1196 : decode cL_law 1196 = .ok (.iconst 0, 1) := by decide +kernel
theorem d_L_1197 : decode cL_law 1197 = .ok (.ireturn, 1) := by decide +kernel
theorem d_L_1198 : decode cL_law 1198 = .ok (.aload_n 1, 1) := by decide +kernel
theorem d_L_1199 : decode cL_law 1199 = .ok (.aload_n 0, 1) := by decide +kernel
theorem d_L_1200 : decode cL_law 1200 = .ok (.iload 4, 2) := by decide +kernel
theorem d_L_1202 : decode cL_law 1202 = .ok (.iconst 1, 1) := by decide +kernel
theorem d_L_1203 : decode cL_law 1203 = .ok (.iadd, 1) := by decide +kernel
theorem d_L_1204 : decode cL_law 1204 = .ok (.iaload, 1) := by decide +kernel
theorem d_L_1205 : decode cL_law 1205 = .ok (.aload_n 0, 1) := by decide +kernel
theorem d_L_1206 : decode cL_law 1206 = .ok (.iload 4, 2) := by decide +kernel
theorem d_L_1208 : decode cL_law 1208 = .ok (.iconst 2, 1) := by decide +kernel
theorem d_L_1209 : decode cL_law 1209 = .ok (.iadd, 1) := by decide +kernel
theorem d_L_1210 : decode cL_law 1210 = .ok (.iaload, 1) := by decide +kernel
theorem d_L_1211 : decode cL_law 1211 = .ok (.ifCond .eq 7, 3) := by decide +kernel
theorem d_L_1214 : decode cL_law 1214 = .ok (.iconst 1, 1) := by decide +kernel
theorem d_L_1215 : decode cL_law 1215 = .ok (.goto 4, 3) := by decide +kernel
theorem d_L_1218 : decode cL_law 1218 = .ok (.iconst 0, 1) := by decide +kernel
theorem d_L_1219 : decode cL_law 1219 = .ok (.invokevirtual 131, 3) := by decide +kernel
theorem d_L_1222 : decode cL_law 1222 = .ok (.aload_n 2, 1) := by decide +kernel
theorem d_L_1223 : decode cL_law 1223 = .ok (.aload_n 0, 1) := by decide +kernel
theorem d_L_1224 : decode cL_law 1224 = .ok (.iload 4, 2) := by decide +kernel
theorem d_L_1226 : decode cL_law 1226 = .ok (.iconst 1, 1) := by decide +kernel
theorem d_L_1227 : decode cL_law 1227 = .ok (.iadd, 1) := by decide +kernel
theorem d_L_1228 : decode cL_law 1228 = .ok (.iaload, 1) := by decide +kernel
theorem d_L_1229 : decode cL_law 1229 = .ok (.aload_n 0, 1) := by decide +kernel
theorem d_L_1230 : decode cL_law 1230 = .ok (.iload 4, 2) := by decide +kernel
theorem d_L_1232 : decode cL_law 1232 = .ok (.iconst 2, 1) := by decide +kernel
theorem d_L_1233 : decode cL_law 1233 = .ok (.iadd, 1) := by decide +kernel
theorem d_L_1234 : decode cL_law 1234 = .ok (.iaload, 1) := by decide +kernel
theorem d_L_1235 : decode cL_law 1235 = .ok (.ifCond .eq 7, 3) := by decide +kernel
theorem d_L_1238 : decode cL_law 1238 = .ok (.iconst 1, 1) := by decide +kernel
theorem d_L_1239 : decode cL_law 1239 = .ok (.goto 4, 3) := by decide +kernel
theorem d_L_1242 : decode cL_law 1242 = .ok (.iconst 0, 1) := by decide +kernel
theorem d_L_1243 : decode cL_law 1243 = .ok (.invokevirtual 134, 3) := by decide +kernel
theorem d_L_1246 : decode cL_law 1246 = .ok (.if_icmp .eq 480, 3) := by decide +kernel
theorem d_L_1249 : decode cL_law 1249 = .ok (.iconst 0, 1) := by decide +kernel
theorem d_L_1250 : decode cL_law 1250 = .ok (.ireturn, 1) := by decide +kernel
theorem d_L_1251 : decode cL_law 1251 = .ok (.aload_n 1, 1) := by decide +kernel
theorem d_L_1252 : decode cL_law 1252 = .ok (.aload_n 0, 1) := by decide +kernel
theorem d_L_1253 : decode cL_law 1253 = .ok (.iload 4, 2) := by decide +kernel
theorem d_L_1255 : decode cL_law 1255 = .ok (.iconst 1, 1) := by decide +kernel
theorem d_L_1256 : decode cL_law 1256 = .ok (.iadd, 1) := by decide +kernel
theorem d_L_1257 : decode cL_law 1257 = .ok (.iaload, 1) := by decide +kernel
theorem d_L_1258 : decode cL_law 1258 = .ok (.invokevirtual 135, 3) := by decide +kernel
theorem d_L_1261 : decode cL_law 1261 = .ok (.aload_n 2, 1) := by decide +kernel
theorem d_L_1262 : decode cL_law 1262 = .ok (.aload_n 0, 1) := by decide +kernel
theorem d_L_1263 : decode cL_law 1263 = .ok (.iload 4, 2) := by decide +kernel
theorem d_L_1265 : decode cL_law 1265 = .ok (.iconst 1, 1) := by decide +kernel
theorem d_L_1266 : decode cL_law 1266 = .ok (.iadd, 1) := by decide +kernel
theorem d_L_1267 : decode cL_law 1267 = .ok (.iaload, 1) := by decide +kernel
theorem d_L_1268 : decode cL_law 1268 = .ok (.invokevirtual 138, 3) := by decide +kernel
theorem d_L_1271 : decode cL_law 1271 = .ok (.if_icmp .eq 455, 3) := by decide +kernel
theorem d_L_1274 : decode cL_law 1274 = .ok (.iconst 0, 1) := by decide +kernel
theorem d_L_1275 : decode cL_law 1275 = .ok (.ireturn, 1) := by decide +kernel
theorem d_L_1276 : decode cL_law 1276 = .ok (.aload_n 1, 1) := by decide +kernel
theorem d_L_1277 : decode cL_law 1277 = .ok (.aload_n 0, 1) := by decide +kernel
theorem d_L_1278 : decode cL_law 1278 = .ok (.iload 4, 2) := by decide +kernel
theorem d_L_1280 : decode cL_law 1280 = .ok (.iconst 1, 1) := by decide +kernel
theorem d_L_1281 : decode cL_law 1281 = .ok (.iadd, 1) := by decide +kernel
theorem d_L_1282 : decode cL_law 1282 = .ok (.iaload, 1) := by decide +kernel
theorem d_L_1283 : decode cL_law 1283 = .ok (.invokevirtual 139, 3) := by decide +kernel
theorem d_L_1286 : decode cL_law 1286 = .ok (.aload_n 2, 1) := by decide +kernel
theorem d_L_1287 : decode cL_law 1287 = .ok (.aload_n 0, 1) := by decide +kernel
theorem d_L_1288 : decode cL_law 1288 = .ok (.iload 4, 2) := by decide +kernel
theorem d_L_1290 : decode cL_law 1290 = .ok (.iconst 1, 1) := by decide +kernel
theorem d_L_1291 : decode cL_law 1291 = .ok (.iadd, 1) := by decide +kernel
theorem d_L_1292 : decode cL_law 1292 = .ok (.iaload, 1) := by decide +kernel
theorem d_L_1293 : decode cL_law 1293 = .ok (.invokevirtual 142, 3) := by decide +kernel
theorem d_L_1296 : decode cL_law 1296 = .ok (.if_icmp .eq 430, 3) := by decide +kernel
theorem d_L_1299 : decode cL_law 1299 = .ok (.iconst 0, 1) := by decide +kernel
theorem d_L_1300 : decode cL_law 1300 = .ok (.ireturn, 1) := by decide +kernel
theorem d_L_1301 : decode cL_law 1301 = .ok (.aload_n 1, 1) := by decide +kernel
theorem d_L_1302 : decode cL_law 1302 = .ok (.aload_n 0, 1) := by decide +kernel
theorem d_L_1303 : decode cL_law 1303 = .ok (.iload 4, 2) := by decide +kernel
theorem d_L_1305 : decode cL_law 1305 = .ok (.iconst 1, 1) := by decide +kernel
theorem d_L_1306 : decode cL_law 1306 = .ok (.iadd, 1) := by decide +kernel
theorem d_L_1307 : decode cL_law 1307 = .ok (.iaload, 1) := by decide +kernel
theorem d_L_1308 : decode cL_law 1308 = .ok (.aload_n 0, 1) := by decide +kernel
theorem d_L_1309 : decode cL_law 1309 = .ok (.iload 4, 2) := by decide +kernel
theorem d_L_1311 : decode cL_law 1311 = .ok (.iconst 2, 1) := by decide +kernel
theorem d_L_1312 : decode cL_law 1312 = .ok (.iadd, 1) := by decide +kernel
theorem d_L_1313 : decode cL_law 1313 = .ok (.iaload, 1) := by decide +kernel
theorem d_L_1314 : decode cL_law 1314 = .ok (.invokevirtual 143, 3) := by decide +kernel
theorem d_L_1317 : decode cL_law 1317 = .ok (.aload_n 2, 1) := by decide +kernel
theorem d_L_1318 : decode cL_law 1318 = .ok (.aload_n 0, 1) := by decide +kernel
theorem d_L_1319 : decode cL_law 1319 = .ok (.iload 4, 2) := by decide +kernel
theorem d_L_1321 : decode cL_law 1321 = .ok (.iconst 1, 1) := by decide +kernel
theorem d_L_1322 : decode cL_law 1322 = .ok (.iadd, 1) := by decide +kernel
theorem d_L_1323 : decode cL_law 1323 = .ok (.iaload, 1) := by decide +kernel
theorem d_L_1324 : decode cL_law 1324 = .ok (.aload_n 0, 1) := by decide +kernel
theorem d_L_1325 : decode cL_law 1325 = .ok (.iload 4, 2) := by decide +kernel
theorem d_L_1327 : decode cL_law 1327 = .ok (.iconst 2, 1) := by decide +kernel
theorem d_L_1328 : decode cL_law 1328 = .ok (.iadd, 1) := by decide +kernel
theorem d_L_1329 : decode cL_law 1329 = .ok (.iaload, 1) := by decide +kernel
theorem d_L_1330 : decode cL_law 1330 = .ok (.invokevirtual 146, 3) := by decide +kernel
theorem d_L_1333 : decode cL_law 1333 = .ok (.if_icmp .eq 393, 3) := by decide +kernel
theorem d_L_1336 : decode cL_law 1336 = .ok (.iconst 0, 1) := by decide +kernel
theorem d_L_1337 : decode cL_law 1337 = .ok (.ireturn, 1) := by decide +kernel
theorem d_L_1338 : decode cL_law 1338 = .ok (.aload_n 1, 1) := by decide +kernel
theorem d_L_1339 : decode cL_law 1339 = .ok (.invokevirtual 147, 3) := by decide +kernel
theorem d_L_1342 : decode cL_law 1342 = .ok (.aload_n 2, 1) := by decide +kernel
theorem d_L_1343 : decode cL_law 1343 = .ok (.invokevirtual 151, 3) := by decide +kernel
theorem d_L_1346 : decode cL_law 1346 = .ok (.if_icmp .eq 380, 3) := by decide +kernel
theorem d_L_1349 : decode cL_law 1349 = .ok (.iconst 0, 1) := by decide +kernel
theorem d_L_1350 : decode cL_law 1350 = .ok (.ireturn, 1) := by decide +kernel
theorem d_L_1351 : decode cL_law 1351 = .ok (.aload_n 1, 1) := by decide +kernel
theorem d_L_1352 : decode cL_law 1352 = .ok (.invokevirtual 152, 3) := by decide +kernel
theorem d_L_1355 : decode cL_law 1355 = .ok (.aload_n 2, 1) := by decide +kernel
theorem d_L_1356 : decode cL_law 1356 = .ok (.invokevirtual 155, 3) := by decide +kernel
theorem d_L_1359 : decode cL_law 1359 = .ok (.if_icmp .eq 367, 3) := by decide +kernel
theorem d_L_1362 : decode cL_law 1362 = .ok (.iconst 0, 1) := by decide +kernel
theorem d_L_1363 : decode cL_law 1363 = .ok (.ireturn, 1) := by decide +kernel
theorem d_L_1364 : decode cL_law 1364 = .ok (.aload_n 1, 1) := by decide +kernel
theorem d_L_1365 : decode cL_law 1365 = .ok (.aload_n 0, 1) := by decide +kernel
theorem d_L_1366 : decode cL_law 1366 = .ok (.iload 4, 2) := by decide +kernel
theorem d_L_1368 : decode cL_law 1368 = .ok (.iconst 1, 1) := by decide +kernel
theorem d_L_1369 : decode cL_law 1369 = .ok (.iadd, 1) := by decide +kernel
theorem d_L_1370 : decode cL_law 1370 = .ok (.iaload, 1) := by decide +kernel
theorem d_L_1371 : decode cL_law 1371 = .ok (.invokevirtual 156, 3) := by decide +kernel
theorem d_L_1374 : decode cL_law 1374 = .ok (.aload_n 2, 1) := by decide +kernel
theorem d_L_1375 : decode cL_law 1375 = .ok (.aload_n 0, 1) := by decide +kernel
theorem d_L_1376 : decode cL_law 1376 = .ok (.iload 4, 2) := by decide +kernel
theorem d_L_1378 : decode cL_law 1378 = .ok (.iconst 1, 1) := by decide +kernel
theorem d_L_1379 : decode cL_law 1379 = .ok (.iadd, 1) := by decide +kernel
theorem d_L_1380 : decode cL_law 1380 = .ok (.iaload, 1) := by decide +kernel
theorem d_L_1381 : decode cL_law 1381 = .ok (.invokevirtual 159, 3) := by decide +kernel
theorem d_L_1384 : decode cL_law 1384 = .ok (.if_icmp .eq 342, 3) := by decide +kernel
theorem d_L_1387 : decode cL_law 1387 = .ok (.iconst 0, 1) := by decide +kernel
theorem d_L_1388 : decode cL_law 1388 = .ok (.ireturn, 1) := by decide +kernel
theorem d_L_1389 : decode cL_law 1389 = .ok (.aload_n 1, 1) := by decide +kernel
theorem d_L_1390 : decode cL_law 1390 = .ok (.aload_n 0, 1) := by decide +kernel
theorem d_L_1391 : decode cL_law 1391 = .ok (.iload 4, 2) := by decide +kernel
theorem d_L_1393 : decode cL_law 1393 = .ok (.iconst 1, 1) := by decide +kernel
theorem d_L_1394 : decode cL_law 1394 = .ok (.iadd, 1) := by decide +kernel
theorem d_L_1395 : decode cL_law 1395 = .ok (.iaload, 1) := by decide +kernel
theorem d_L_1396 : decode cL_law 1396 = .ok (.aload_n 0, 1) := by decide +kernel
theorem d_L_1397 : decode cL_law 1397 = .ok (.iload 4, 2) := by decide +kernel
theorem d_L_1399 : decode cL_law 1399 = .ok (.iconst 2, 1) := by decide +kernel
theorem d_L_1400 : decode cL_law 1400 = .ok (.iadd, 1) := by decide +kernel
theorem d_L_1401 : decode cL_law 1401 = .ok (.iaload, 1) := by decide +kernel
theorem d_L_1402 : decode cL_law 1402 = .ok (.aload_n 0, 1) := by decide +kernel
theorem d_L_1403 : decode cL_law 1403 = .ok (.iload 4, 2) := by decide +kernel
theorem d_L_1405 : decode cL_law 1405 = .ok (.iconst 3, 1) := by decide +kernel
theorem d_L_1406 : decode cL_law 1406 = .ok (.iadd, 1) := by decide +kernel
theorem d_L_1407 : decode cL_law 1407 = .ok (.iaload, 1) := by decide +kernel
theorem d_L_1408 : decode cL_law 1408 = .ok (.invokevirtual 160, 3) := by decide +kernel
theorem d_L_1411 : decode cL_law 1411 = .ok (.aload_n 2, 1) := by decide +kernel
theorem d_L_1412 : decode cL_law 1412 = .ok (.aload_n 0, 1) := by decide +kernel
theorem d_L_1413 : decode cL_law 1413 = .ok (.iload 4, 2) := by decide +kernel
theorem d_L_1415 : decode cL_law 1415 = .ok (.iconst 1, 1) := by decide +kernel
theorem d_L_1416 : decode cL_law 1416 = .ok (.iadd, 1) := by decide +kernel
theorem d_L_1417 : decode cL_law 1417 = .ok (.iaload, 1) := by decide +kernel
theorem d_L_1418 : decode cL_law 1418 = .ok (.aload_n 0, 1) := by decide +kernel
theorem d_L_1419 : decode cL_law 1419 = .ok (.iload 4, 2) := by decide +kernel
theorem d_L_1421 : decode cL_law 1421 = .ok (.iconst 2, 1) := by decide +kernel
theorem d_L_1422 : decode cL_law 1422 = .ok (.iadd, 1) := by decide +kernel
theorem d_L_1423 : decode cL_law 1423 = .ok (.iaload, 1) := by decide +kernel
theorem d_L_1424 : decode cL_law 1424 = .ok (.aload_n 0, 1) := by decide +kernel
theorem d_L_1425 : decode cL_law 1425 = .ok (.iload 4, 2) := by decide +kernel
theorem d_L_1427 : decode cL_law 1427 = .ok (.iconst 3, 1) := by decide +kernel
theorem d_L_1428 : decode cL_law 1428 = .ok (.iadd, 1) := by decide +kernel
theorem d_L_1429 : decode cL_law 1429 = .ok (.iaload, 1) := by decide +kernel
theorem d_L_1430 : decode cL_law 1430 = .ok (.invokevirtual 163, 3) := by decide +kernel
theorem d_L_1433 : decode cL_law 1433 = .ok (.if_icmp .eq 293, 3) := by decide +kernel
theorem d_L_1436 : decode cL_law 1436 = .ok (.iconst 0, 1) := by decide +kernel
theorem d_L_1437 : decode cL_law 1437 = .ok (.ireturn, 1) := by decide +kernel
theorem d_L_1438 : decode cL_law 1438 = .ok (.aload_n 1, 1) := by decide +kernel
theorem d_L_1439 : decode cL_law 1439 = .ok (.aload_n 0, 1) := by decide +kernel
theorem d_L_1440 : decode cL_law 1440 = .ok (.iload 4, 2) := by decide +kernel
theorem d_L_1442 : decode cL_law 1442 = .ok (.iconst 1, 1) := by decide +kernel
theorem d_L_1443 : decode cL_law 1443 = .ok (.iadd, 1) := by decide +kernel
theorem d_L_1444 : decode cL_law 1444 = .ok (.iaload, 1) := by decide +kernel
theorem d_L_1445 : decode cL_law 1445 = .ok (.aload_n 0, 1) := by decide +kernel
theorem d_L_1446 : decode cL_law 1446 = .ok (.iload 4, 2) := by decide +kernel
theorem d_L_1448 : decode cL_law 1448 = .ok (.iconst 2, 1) := by decide +kernel
theorem d_L_1449 : decode cL_law 1449 = .ok (.iadd, 1) := by decide +kernel
theorem d_L_1450 : decode cL_law 1450 = .ok (.iaload, 1) := by decide +kernel
theorem d_L_1451 : decode cL_law 1451 = .ok (.aload_n 0, 1) := by decide +kernel
theorem d_L_1452 : decode cL_law 1452 = .ok (.iload 4, 2) := by decide +kernel
theorem d_L_1454 : decode cL_law 1454 = .ok (.iconst 3, 1) := by decide +kernel
theorem d_L_1455 : decode cL_law 1455 = .ok (.iadd, 1) := by decide +kernel
theorem d_L_1456 : decode cL_law 1456 = .ok (.iaload, 1) := by decide +kernel
theorem d_L_1457 : decode cL_law 1457 = .ok (.invokevirtual 164, 3) := by decide +kernel
theorem d_L_1460 : decode cL_law 1460 = .ok (.aload_n 2, 1) := by decide +kernel
theorem d_L_1461 : decode cL_law 1461 = .ok (.aload_n 0, 1) := by decide +kernel
theorem d_L_1462 : decode cL_law 1462 = .ok (.iload 4, 2) := by decide +kernel
theorem d_L_1464 : decode cL_law 1464 = .ok (.iconst 1, 1) := by decide +kernel
theorem d_L_1465 : decode cL_law 1465 = .ok (.iadd, 1) := by decide +kernel
theorem d_L_1466 : decode cL_law 1466 = .ok (.iaload, 1) := by decide +kernel
theorem d_L_1467 : decode cL_law 1467 = .ok (.aload_n 0, 1) := by decide +kernel
theorem d_L_1468 : decode cL_law 1468 = .ok (.iload 4, 2) := by decide +kernel
theorem d_L_1470 : decode cL_law 1470 = .ok (.iconst 2, 1) := by decide +kernel
theorem d_L_1471 : decode cL_law 1471 = .ok (.iadd, 1) := by decide +kernel
theorem d_L_1472 : decode cL_law 1472 = .ok (.iaload, 1) := by decide +kernel
theorem d_L_1473 : decode cL_law 1473 = .ok (.aload_n 0, 1) := by decide +kernel
theorem d_L_1474 : decode cL_law 1474 = .ok (.iload 4, 2) := by decide +kernel
theorem d_L_1476 : decode cL_law 1476 = .ok (.iconst 3, 1) := by decide +kernel
theorem d_L_1477 : decode cL_law 1477 = .ok (.iadd, 1) := by decide +kernel
theorem d_L_1478 : decode cL_law 1478 = .ok (.iaload, 1) := by decide +kernel
theorem d_L_1479 : decode cL_law 1479 = .ok (.invokevirtual 167, 3) := by decide +kernel
theorem d_L_1482 : decode cL_law 1482 = .ok (.if_icmp .eq 244, 3) := by decide +kernel
theorem d_L_1485 : decode cL_law 1485 = .ok (.iconst 0, 1) := by decide +kernel
theorem d_L_1486 : decode cL_law 1486 = .ok (.ireturn, 1) := by decide +kernel
theorem d_L_1487 : decode cL_law 1487 = .ok (.aload_n 1, 1) := by decide +kernel
theorem d_L_1488 : decode cL_law 1488 = .ok (.aload_n 0, 1) := by decide +kernel
theorem d_L_1489 : decode cL_law 1489 = .ok (.iload 4, 2) := by decide +kernel
theorem d_L_1491 : decode cL_law 1491 = .ok (.iconst 1, 1) := by decide +kernel
theorem d_L_1492 : decode cL_law 1492 = .ok (.iadd, 1) := by decide +kernel
theorem d_L_1493 : decode cL_law 1493 = .ok (.iaload, 1) := by decide +kernel
theorem d_L_1494 : decode cL_law 1494 = .ok (.aload_n 0, 1) := by decide +kernel
theorem d_L_1495 : decode cL_law 1495 = .ok (.iload 4, 2) := by decide +kernel
theorem d_L_1497 : decode cL_law 1497 = .ok (.iconst 2, 1) := by decide +kernel
theorem d_L_1498 : decode cL_law 1498 = .ok (.iadd, 1) := by decide +kernel
theorem d_L_1499 : decode cL_law 1499 = .ok (.iaload, 1) := by decide +kernel
theorem d_L_1500 : decode cL_law 1500 = .ok (.aload_n 0, 1) := by decide +kernel
theorem d_L_1501 : decode cL_law 1501 = .ok (.iload 4, 2) := by decide +kernel
theorem d_L_1503 : decode cL_law 1503 = .ok (.iconst 3, 1) := by decide +kernel
theorem d_L_1504 : decode cL_law 1504 = .ok (.iadd, 1) := by decide +kernel
theorem d_L_1505 : decode cL_law 1505 = .ok (.iaload, 1) := by decide +kernel
theorem d_L_1506 : decode cL_law 1506 = .ok (.invokevirtual 168, 3) := by decide +kernel
theorem d_L_1509 : decode cL_law 1509 = .ok (.aload_n 2, 1) := by decide +kernel
theorem d_L_1510 : decode cL_law 1510 = .ok (.aload_n 0, 1) := by decide +kernel
theorem d_L_1511 : decode cL_law 1511 = .ok (.iload 4, 2) := by decide +kernel
theorem d_L_1513 : decode cL_law 1513 = .ok (.iconst 1, 1) := by decide +kernel
theorem d_L_1514 : decode cL_law 1514 = .ok (.iadd, 1) := by decide +kernel
theorem d_L_1515 : decode cL_law 1515 = .ok (.iaload, 1) := by decide +kernel
theorem d_L_1516 : decode cL_law 1516 = .ok (.aload_n 0, 1) := by decide +kernel
theorem d_L_1517 : decode cL_law 1517 = .ok (.iload 4, 2) := by decide +kernel
theorem d_L_1519 : decode cL_law 1519 = .ok (.iconst 2, 1) := by decide +kernel
theorem d_L_1520 : decode cL_law 1520 = .ok (.iadd, 1) := by decide +kernel
theorem d_L_1521 : decode cL_law 1521 = .ok (.iaload, 1) := by decide +kernel
theorem d_L_1522 : decode cL_law 1522 = .ok (.aload_n 0, 1) := by decide +kernel
theorem d_L_1523 : decode cL_law 1523 = .ok (.iload 4, 2) := by decide +kernel
theorem d_L_1525 : decode cL_law 1525 = .ok (.iconst 3, 1) := by decide +kernel
theorem d_L_1526 : decode cL_law 1526 = .ok (.iadd, 1) := by decide +kernel
theorem d_L_1527 : decode cL_law 1527 = .ok (.iaload, 1) := by decide +kernel
theorem d_L_1528 : decode cL_law 1528 = .ok (.invokevirtual 171, 3) := by decide +kernel
theorem d_L_1531 : decode cL_law 1531 = .ok (.if_icmp .eq 195, 3) := by decide +kernel
theorem d_L_1534 : decode cL_law 1534 = .ok (.iconst 0, 1) := by decide +kernel
theorem d_L_1535 : decode cL_law 1535 = .ok (.ireturn, 1) := by decide +kernel
theorem d_L_1536 : decode cL_law 1536 = .ok (.aload_n 1, 1) := by decide +kernel
theorem d_L_1537 : decode cL_law 1537 = .ok (.aload_n 0, 1) := by decide +kernel
theorem d_L_1538 : decode cL_law 1538 = .ok (.iload 4, 2) := by decide +kernel
theorem d_L_1540 : decode cL_law 1540 = .ok (.iconst 1, 1) := by decide +kernel
theorem d_L_1541 : decode cL_law 1541 = .ok (.iadd, 1) := by decide +kernel
theorem d_L_1542 : decode cL_law 1542 = .ok (.iaload, 1) := by decide +kernel
theorem d_L_1543 : decode cL_law 1543 = .ok (.aload_n 0, 1) := by decide +kernel
theorem d_L_1544 : decode cL_law 1544 = .ok (.iload 4, 2) := by decide +kernel
theorem d_L_1546 : decode cL_law 1546 = .ok (.iconst 2, 1) := by decide +kernel
theorem d_L_1547 : decode cL_law 1547 = .ok (.iadd, 1) := by decide +kernel
theorem d_L_1548 : decode cL_law 1548 = .ok (.iaload, 1) := by decide +kernel
theorem d_L_1549 : decode cL_law 1549 = .ok (.aload_n 3, 1) := by decide +kernel
theorem d_L_1550 : decode cL_law 1550 = .ok (.invokestatic 172, 3) := by decide +kernel
theorem d_L_1553 : decode cL_law 1553 = .ok (.istore 5, 2) := by decide +kernel
theorem d_L_1555 : decode cL_law 1555 = .ok (.aload_n 2, 1) := by decide +kernel
theorem d_L_1556 : decode cL_law 1556 = .ok (.aload_n 0, 1) := by decide +kernel
theorem d_L_1557 : decode cL_law 1557 = .ok (.iload 4, 2) := by decide +kernel
theorem d_L_1559 : decode cL_law 1559 = .ok (.iconst 1, 1) := by decide +kernel
theorem d_L_1560 : decode cL_law 1560 = .ok (.iadd, 1) := by decide +kernel
theorem d_L_1561 : decode cL_law 1561 = .ok (.iaload, 1) := by decide +kernel
theorem d_L_1562 : decode cL_law 1562 = .ok (.aload_n 0, 1) := by decide +kernel
theorem d_L_1563 : decode cL_law 1563 = .ok (.iload 4, 2) := by decide +kernel
theorem d_L_1565 : decode cL_law 1565 = .ok (.iconst 2, 1) := by decide +kernel
theorem d_L_1566 : decode cL_law 1566 = .ok (.iadd, 1) := by decide +kernel
theorem d_L_1567 : decode cL_law 1567 = .ok (.iaload, 1) := by decide +kernel
theorem d_L_1568 : decode cL_law 1568 = .ok (.invokevirtual 177, 3) := by decide +kernel
theorem d_L_1571 : decode cL_law 1571 = .ok (.lstore 6, 2) := by decide +kernel
theorem d_L_1573 : decode cL_law 1573 = .ok (.aload_n 2, 1) := by decide +kernel
theorem d_L_1574 : decode cL_law 1574 = .ok (.invokevirtual 178, 3) := by decide +kernel
theorem d_L_1577 : decode cL_law 1577 = .ok (.iload 5, 2) := by decide +kernel
theorem d_L_1579 : decode cL_law 1579 = .ok (.if_icmp .eq 5, 3) := by decide +kernel
theorem d_L_1582 : decode cL_law 1582 = .ok (.iconst 0, 1) := by decide +kernel
theorem d_L_1583 : decode cL_law 1583 = .ok (.ireturn, 1) := by decide +kernel
theorem d_L_1584 : decode cL_law 1584 = .ok (.iload 5, 2) := by decide +kernel
theorem d_L_1586 : decode cL_law 1586 = .ok (.ifCond .ne 14, 3) := by decide +kernel
theorem d_L_1589 : decode cL_law 1589 = .ok (.aload_n 3, 1) := by decide +kernel
theorem d_L_1590 : decode cL_law 1590 = .ok (.iconst 0, 1) := by decide +kernel
theorem d_L_1591 : decode cL_law 1591 = .ok (.laload, 1) := by decide +kernel
theorem d_L_1592 : decode cL_law 1592 = .ok (.lload 6, 2) := by decide +kernel
theorem d_L_1594 : decode cL_law 1594 = .ok (.lcmp, 1) := by decide +kernel
theorem d_L_1595 : decode cL_law 1595 = .ok (.ifCond .eq 5, 3) := by decide +kernel
theorem d_L_1598 : decode cL_law 1598 = .ok (.iconst 0, 1) := by decide +kernel
theorem d_L_1599 : decode cL_law 1599 = .ok (.ireturn, 1) := by decide +kernel
theorem d_L_1600 : decode cL_law 1600 = .ok (.goto 126, 3) := by decide +kernel
theorem d_L_1603 : decode cL_law 1603 = .ok (.aload_n 1, 1) := by decide +kernel
theorem d_L_1604 : decode cL_law 1604 = .ok (.aload_n 0, 1) := by decide +kernel
theorem d_L_1605 : decode cL_law 1605 = .ok (.iload 4, 2) := by decide +kernel
theorem d_L_1607 : decode cL_law 1607 = .ok (.iconst 1, 1) := by decide +kernel
theorem d_L_1608 : decode cL_law 1608 = .ok (.iadd, 1) := by decide +kernel
theorem d_L_1609 : decode cL_law 1609 = .ok (.iaload, 1) := by decide +kernel
theorem d_L_1610 : decode cL_law 1610 = .ok (.aload_n 0, 1) := by decide +kernel
theorem d_L_1611 : decode cL_law 1611 = .ok (.iload 4, 2) := by decide +kernel
theorem d_L_1613 : decode cL_law 1613 = .ok (.iconst 2, 1) := by decide +kernel
theorem d_L_1614 : decode cL_law 1614 = .ok (.iadd, 1) := by decide +kernel
theorem d_L_1615 : decode cL_law 1615 = .ok (.iaload, 1) := by decide +kernel
theorem d_L_1616 : decode cL_law 1616 = .ok (.aload_n 0, 1) := by decide +kernel
theorem d_L_1617 : decode cL_law 1617 = .ok (.iload 4, 2) := by decide +kernel
theorem d_L_1619 : decode cL_law 1619 = .ok (.iconst 3, 1) := by decide +kernel
theorem d_L_1620 : decode cL_law 1620 = .ok (.iadd, 1) := by decide +kernel
theorem d_L_1621 : decode cL_law 1621 = .ok (.iaload, 1) := by decide +kernel
theorem d_L_1622 : decode cL_law 1622 = .ok (.aload_n 0, 1) := by decide +kernel
theorem d_L_1623 : decode cL_law 1623 = .ok (.iload 4, 2) := by decide +kernel
theorem d_L_1625 : decode cL_law 1625 = .ok (.iconst 4, 1) := by decide +kernel
theorem d_L_1626 : decode cL_law 1626 = .ok (.iadd, 1) := by decide +kernel
theorem d_L_1627 : decode cL_law 1627 = .ok (.iaload, 1) := by decide +kernel
theorem d_L_1628 : decode cL_law 1628 = .ok (.aload_n 0, 1) := by decide +kernel
theorem d_L_1629 : decode cL_law 1629 = .ok (.iload 4, 2) := by decide +kernel
theorem d_L_1631 : decode cL_law 1631 = .ok (.iconst 5, 1) := by decide +kernel
theorem d_L_1632 : decode cL_law 1632 = .ok (.iadd, 1) := by decide +kernel
theorem d_L_1633 : decode cL_law 1633 = .ok (.iaload, 1) := by decide +kernel
theorem d_L_1634 : decode cL_law 1634 = .ok (.invokevirtual 181, 3) := by decide +kernel
theorem d_L_1637 : decode cL_law 1637 = .ok (.aload_n 2, 1) := by decide +kernel
theorem d_L_1638 : decode cL_law 1638 = .ok (.aload_n 0, 1) := by decide +kernel
theorem d_L_1639 : decode cL_law 1639 = .ok (.iload 4, 2) := by decide +kernel
theorem d_L_1641 : decode cL_law 1641 = .ok (.iconst 1, 1) := by decide +kernel
theorem d_L_1642 : decode cL_law 1642 = .ok (.iadd, 1) := by decide +kernel
theorem d_L_1643 : decode cL_law 1643 = .ok (.iaload, 1) := by decide +kernel
theorem d_L_1644 : decode cL_law 1644 = .ok (.aload_n 0, 1) := by decide +kernel
theorem d_L_1645 : decode cL_law 1645 = .ok (.iload 4, 2) := by decide +kernel
theorem d_L_1647 : decode cL_law 1647 = .ok (.iconst 2, 1) := by decide +kernel
theorem d_L_1648 : decode cL_law 1648 = .ok (.iadd, 1) := by decide +kernel
theorem d_L_1649 : decode cL_law 1649 = .ok (.iaload, 1) := by decide +kernel
theorem d_L_1650 : decode cL_law 1650 = .ok (.aload_n 0, 1) := by decide +kernel
theorem d_L_1651 : decode cL_law 1651 = .ok (.iload 4, 2) := by decide +kernel
theorem d_L_1653 : decode cL_law 1653 = .ok (.iconst 3, 1) := by decide +kernel
theorem d_L_1654 : decode cL_law 1654 = .ok (.iadd, 1) := by decide +kernel
theorem d_L_1655 : decode cL_law 1655 = .ok (.iaload, 1) := by decide +kernel
theorem d_L_1656 : decode cL_law 1656 = .ok (.aload_n 0, 1) := by decide +kernel
theorem d_L_1657 : decode cL_law 1657 = .ok (.iload 4, 2) := by decide +kernel
theorem d_L_1659 : decode cL_law 1659 = .ok (.iconst 4, 1) := by decide +kernel
theorem d_L_1660 : decode cL_law 1660 = .ok (.iadd, 1) := by decide +kernel
theorem d_L_1661 : decode cL_law 1661 = .ok (.iaload, 1) := by decide +kernel
theorem d_L_1662 : decode cL_law 1662 = .ok (.aload_n 0, 1) := by decide +kernel
theorem d_L_1663 : decode cL_law 1663 = .ok (.iload 4, 2) := by decide +kernel
theorem d_L_1665 : decode cL_law 1665 = .ok (.iconst 5, 1) := by decide +kernel
theorem d_L_1666 : decode cL_law 1666 = .ok (.iadd, 1) := by decide +kernel
theorem d_L_1667 : decode cL_law 1667 = .ok (.iaload, 1) := by decide +kernel
theorem d_L_1668 : decode cL_law 1668 = .ok (.invokevirtual 185, 3) := by decide +kernel
theorem d_L_1671 : decode cL_law 1671 = .ok (.if_icmp .eq 55, 3) := by decide +kernel
theorem d_L_1674 : decode cL_law 1674 = .ok (.iconst 0, 1) := by decide +kernel
theorem d_L_1675 : decode cL_law 1675 = .ok (.ireturn, 1) := by decide +kernel
theorem d_L_1676 : decode cL_law 1676 = .ok (.aload_n 1, 1) := by decide +kernel
theorem d_L_1677 : decode cL_law 1677 = .ok (.aload_n 0, 1) := by decide +kernel
theorem d_L_1678 : decode cL_law 1678 = .ok (.iload 4, 2) := by decide +kernel
theorem d_L_1680 : decode cL_law 1680 = .ok (.iconst 1, 1) := by decide +kernel
theorem d_L_1681 : decode cL_law 1681 = .ok (.iadd, 1) := by decide +kernel
theorem d_L_1682 : decode cL_law 1682 = .ok (.iaload, 1) := by decide +kernel
theorem d_L_1683 : decode cL_law 1683 = .ok (.invokevirtual 186, 3) := by decide +kernel
theorem d_L_1686 : decode cL_law 1686 = .ok (.aload_n 2, 1) := by decide +kernel
theorem d_L_1687 : decode cL_law 1687 = .ok (.aload_n 0, 1) := by decide +kernel
theorem d_L_1688 : decode cL_law 1688 = .ok (.iload 4, 2) := by decide +kernel
theorem d_L_1690 : decode cL_law 1690 = .ok (.iconst 1, 1) := by decide +kernel
theorem d_L_1691 : decode cL_law 1691 = .ok (.iadd, 1) := by decide +kernel
theorem d_L_1692 : decode cL_law 1692 = .ok (.iaload, 1) := by decide +kernel
theorem d_L_1693 : decode cL_law 1693 = .ok (.invokevirtual 189, 3) := by decide +kernel
theorem d_L_1696 : decode cL_law 1696 = .ok (.if_icmp .eq 30, 3) := by decide +kernel
theorem d_L_1699 : decode cL_law 1699 = .ok (.iconst 0, 1) := by decide +kernel
theorem d_L_1700 : decode cL_law 1700 = .ok (.ireturn, 1) := by decide +kernel
theorem d_L_1701 : decode cL_law 1701 = .ok (.aload_n 1, 1) := by decide +kernel
theorem d_L_1702 : decode cL_law 1702 = .ok (.aload_n 0, 1) := by decide +kernel
theorem d_L_1703 : decode cL_law 1703 = .ok (.iload 4, 2) := by decide +kernel
theorem d_L_1705 : decode cL_law 1705 = .ok (.iconst 1, 1) := by decide +kernel
theorem d_L_1706 : decode cL_law 1706 = .ok (.iadd, 1) := by decide +kernel
theorem d_L_1707 : decode cL_law 1707 = .ok (.iaload, 1) := by decide +kernel
theorem d_L_1708 : decode cL_law 1708 = .ok (.invokevirtual 190, 3) := by decide +kernel
theorem d_L_1711 : decode cL_law 1711 = .ok (.aload_n 2, 1) := by decide +kernel
theorem d_L_1712 : decode cL_law 1712 = .ok (.aload_n 0, 1) := by decide +kernel
theorem d_L_1713 : decode cL_law 1713 = .ok (.iload 4, 2) := by decide +kernel
theorem d_L_1715 : decode cL_law 1715 = .ok (.iconst 1, 1) := by decide +kernel
theorem d_L_1716 : decode cL_law 1716 = .ok (.iadd, 1) := by decide +kernel
theorem d_L_1717 : decode cL_law 1717 = .ok (.iaload, 1) := by decide +kernel
theorem d_L_1718 : decode cL_law 1718 = .ok (.invokevirtual 193, 3) := by decide +kernel
theorem d_L_1721 : decode cL_law 1721 = .ok (.if_icmp .eq 5, 3) := by decide +kernel
theorem d_L_1724 : decode cL_law 1724 = .ok (.iconst 0, 1) := by decide +kernel
theorem d_L_1725 : decode cL_law 1725 = .ok (.ireturn, 1) := by decide +kernel
theorem d_L_1726 : decode cL_law 1726 = .ok (.iinc 4 6, 3) := by decide +kernel
theorem d_L_1729 : decode cL_law 1729 = .ok (.goto (-1706), 3) := by decide +kernel
theorem d_L_1732 : decode cL_law 1732 = .ok (.iconst 1, 1) := by decide +kernel
theorem d_L_1733 : decode cL_law 1733 = .ok (.ireturn, 1) := by decide +kernel
theorem l1_L_21 : L1_ RL 21 yX11_card := tb_in (qt_2 (List.mem_of_getElem? (i := 210) (by decide +kernel))) rfl
theorem l1_L_25 : L1_ RL 25 yX12_card := tb_in (qt_5 (List.mem_of_getElem? (i := 221) (by decide +kernel))) rfl
theorem l1_L_26 : L1_ RL 26 yX11_about := tb_in (qt_3 (List.mem_of_getElem? (i := 3) (by decide +kernel))) rfl
theorem l1_L_30 : L1_ RL 30 yX12_about := tb_in (qt_6 (List.mem_of_getElem? (i := 3) (by decide +kernel))) rfl
theorem l1_L_31 : L1_ RL 31 yX11_sound := tb_in (qt_3 (List.mem_of_getElem? (i := 7) (by decide +kernel))) rfl
theorem l1_L_34 : L1_ RL 34 yX12_sound := tb_in (qt_6 (List.mem_of_getElem? (i := 16) (by decide +kernel))) rfl
theorem l1_L_35 : L1_ RL 35 yX11_classOf := tb_in (qt_3 (List.mem_of_getElem? (i := 11) (by decide +kernel))) rfl
theorem l1_L_38 : L1_ RL 38 yX12_classOf := tb_in (qt_6 (List.mem_of_getElem? (i := 20) (by decide +kernel))) rfl
theorem l1_L_39 : L1_ RL 39 yX11_speaker := tb_in (qt_3 (List.mem_of_getElem? (i := 15) (by decide +kernel))) rfl
theorem l1_L_43 : L1_ RL 43 yX12_speaker := tb_in (qt_6 (List.mem_of_getElem? (i := 29) (by decide +kernel))) rfl
theorem l1_L_44 : L1_ RL 44 yX11_oneOrTwo := tb_in (qt_3 (List.mem_of_getElem? (i := 19) (by decide +kernel))) rfl
theorem l1_L_47 : L1_ RL 47 yX12_oneOrTwo := tb_in (qt_6 (List.mem_of_getElem? (i := 34) (by decide +kernel))) rfl
theorem l1_L_48 : L1_ RL 48 yX11_note := tb_in (qt_3 (List.mem_of_getElem? (i := 54) (by decide +kernel))) rfl
theorem l1_L_51 : L1_ RL 51 yX12_note := tb_in (qt_6 (List.mem_of_getElem? (i := 58) (by decide +kernel))) rfl
theorem l1_L_52 : L1_ RL 52 yX11_use := tb_in (qt_3 (List.mem_of_getElem? (i := 71) (by decide +kernel))) rfl
theorem l1_L_56 : L1_ RL 56 yX12_use := tb_in (qt_6 (List.mem_of_getElem? (i := 63) (by decide +kernel))) rfl
theorem l1_L_57 : L1_ RL 57 yX11_told := tb_in (qt_3 (List.mem_of_getElem? (i := 75) (by decide +kernel))) rfl
theorem l1_L_60 : L1_ RL 60 yX12_told := tb_in (qt_6 (List.mem_of_getElem? (i := 99) (by decide +kernel))) rfl
theorem l1_L_61 : L1_ RL 61 yX11_cut := tb_in (qt_3 (List.mem_of_getElem? (i := 125) (by decide +kernel))) rfl
theorem l1_L_64 : L1_ RL 64 yX12_cut := tb_in (qt_6 (List.mem_of_getElem? (i := 71) (by decide +kernel))) rfl
theorem l1_L_65 : L1_ RL 65 yX11_leastList := tb_in (qt_3 (List.mem_of_getElem? (i := 129) (by decide +kernel))) rfl
theorem l1_L_69 : L1_ RL 69 yX12_leastList := tb_in (qt_6 (List.mem_of_getElem? (i := 111) (by decide +kernel))) rfl
theorem l1_L_70 : L1_ RL 70 yX11_fault := tb_in (qt_3 (List.mem_of_getElem? (i := 147) (by decide +kernel))) rfl
theorem l1_L_73 : L1_ RL 73 yX12_fault := tb_in (qt_6 (List.mem_of_getElem? (i := 120) (by decide +kernel))) rfl
theorem l1_L_74 : L1_ RL 74 yX11_rule := tb_in (qt_3 (List.mem_of_getElem? (i := 173) (by decide +kernel))) rfl
theorem l1_L_77 : L1_ RL 77 yX12_rule := tb_in (qt_6 (List.mem_of_getElem? (i := 149) (by decide +kernel))) rfl
theorem l1_L_78 : L1_ RL 78 yX11_heard := tb_in (qt_3 (List.mem_of_getElem? (i := 181) (by decide +kernel))) rfl
theorem l1_L_81 : L1_ RL 81 yX12_heard := tb_in (qt_6 (List.mem_of_getElem? (i := 153) (by decide +kernel))) rfl
theorem l1_L_82 : L1_ RL 82 yX11_deep := tb_in (qt_3 (List.mem_of_getElem? (i := 210) (by decide +kernel))) rfl
theorem l1_L_85 : L1_ RL 85 yX12_deep := tb_in (qt_6 (List.mem_of_getElem? (i := 165) (by decide +kernel))) rfl
theorem l1_L_86 : L1_ RL 86 yX11_said := tb_in (qt_3 (List.mem_of_getElem? (i := 239) (by decide +kernel))) rfl
theorem l1_L_90 : L1_ RL 90 yX12_said := tb_in (qt_6 (List.mem_of_getElem? (i := 181) (by decide +kernel))) rfl
theorem l1_L_91 : L1_ RL 91 yX11_orders := tb_in (qt_4 (List.mem_of_getElem? (i := 13) (by decide +kernel))) rfl
theorem l1_L_94 : L1_ RL 94 yX12_orders := tb_in (qt_6 (List.mem_of_getElem? (i := 193) (by decide +kernel))) rfl
theorem l1_L_95 : L1_ RL 95 yX11_fits := tb_in (qt_4 (List.mem_of_getElem? (i := 35) (by decide +kernel))) rfl
theorem l1_L_98 : L1_ RL 98 yX12_fits := tb_in (qt_6 (List.mem_of_getElem? (i := 219) (by decide +kernel))) rfl
theorem l1_L_99 : L1_ RL 99 yX11_ask := tb_in (qt_4 (List.mem_of_getElem? (i := 39) (by decide +kernel))) rfl
theorem l1_L_102 : L1_ RL 102 yX12_ask := tb_in (qt_6 (List.mem_of_getElem? (i := 224) (by decide +kernel))) rfl
theorem l1_L_103 : L1_ RL 103 yX11_who := tb_in (qt_4 (List.mem_of_getElem? (i := 54) (by decide +kernel))) rfl
theorem l1_L_106 : L1_ RL 106 yX12_who := tb_in (qt_6 (List.mem_of_getElem? (i := 236) (by decide +kernel))) rfl
theorem l1_L_107 : L1_ RL 107 yX11_none := tb_in (qt_4 (List.mem_of_getElem? (i := 66) (by decide +kernel))) rfl
theorem l1_L_110 : L1_ RL 110 yX12_none := tb_in (qt_7 (List.mem_of_getElem? (i := 0) (by decide +kernel))) rfl
theorem l1_L_111 : L1_ RL 111 yX11_reader := tb_in (qt_4 (List.mem_of_getElem? (i := 78) (by decide +kernel))) rfl
theorem l1_L_114 : L1_ RL 114 yX12_reader := tb_in (qt_7 (List.mem_of_getElem? (i := 8) (by decide +kernel))) rfl
theorem l1_L_115 : L1_ RL 115 yX11_neighbour := tb_in (qt_4 (List.mem_of_getElem? (i := 83) (by decide +kernel))) rfl
theorem l1_L_118 : L1_ RL 118 yX12_neighbour := tb_in (qt_7 (List.mem_of_getElem? (i := 17) (by decide +kernel))) rfl
theorem l1_L_119 : L1_ RL 119 yX11_law := tb_in (qt_4 (List.mem_of_getElem? (i := 87) (by decide +kernel))) rfl
theorem l1_L_122 : L1_ RL 122 yX12_law := tb_in (qt_7 (List.mem_of_getElem? (i := 21) (by decide +kernel))) rfl
theorem l1_L_123 : L1_ RL 123 yX11_led := tb_in (qt_4 (List.mem_of_getElem? (i := 104) (by decide +kernel))) rfl
theorem l1_L_126 : L1_ RL 126 yX12_led := tb_in (qt_7 (List.mem_of_getElem? (i := 37) (by decide +kernel))) rfl
theorem l1_L_127 : L1_ RL 127 yX11_odds := tb_in (qt_4 (List.mem_of_getElem? (i := 116) (by decide +kernel))) rfl
theorem l1_L_130 : L1_ RL 130 yX12_odds := tb_in (qt_7 (List.mem_of_getElem? (i := 41) (by decide +kernel))) rfl
theorem l1_L_131 : L1_ RL 131 yX11_bar := tb_in (qt_4 (List.mem_of_getElem? (i := 136) (by decide +kernel))) rfl
theorem l1_L_134 : L1_ RL 134 yX12_bar := tb_in (qt_7 (List.mem_of_getElem? (i := 49) (by decide +kernel))) rfl
theorem l1_L_135 : L1_ RL 135 yX11_takeBack := tb_in (qt_4 (List.mem_of_getElem? (i := 140) (by decide +kernel))) rfl
theorem l1_L_138 : L1_ RL 138 yX12_takeBack := tb_in (qt_7 (List.mem_of_getElem? (i := 53) (by decide +kernel))) rfl
theorem l1_L_139 : L1_ RL 139 yX11_leaned := tb_in (qt_4 (List.mem_of_getElem? (i := 144) (by decide +kernel))) rfl
theorem l1_L_142 : L1_ RL 142 yX12_leaned := tb_in (qt_7 (List.mem_of_getElem? (i := 57) (by decide +kernel))) rfl
theorem l1_L_143 : L1_ RL 143 yX11_weight := tb_in (qt_4 (List.mem_of_getElem? (i := 148) (by decide +kernel))) rfl
theorem l1_L_146 : L1_ RL 146 yX12_weight := tb_in (qt_7 (List.mem_of_getElem? (i := 62) (by decide +kernel))) rfl
theorem l1_L_147 : L1_ RL 147 yX11_image := tb_in (qt_4 (List.mem_of_getElem? (i := 165) (by decide +kernel))) rfl
theorem l1_L_151 : L1_ RL 151 yX12_image := tb_in (qt_7 (List.mem_of_getElem? (i := 70) (by decide +kernel))) rfl
theorem l1_L_152 : L1_ RL 152 yX11_restore := tb_in (qt_4 (List.mem_of_getElem? (i := 189) (by decide +kernel))) rfl
theorem l1_L_155 : L1_ RL 155 yX12_restore := tb_in (qt_7 (List.mem_of_getElem? (i := 74) (by decide +kernel))) rfl
theorem l1_L_156 : L1_ RL 156 yX11_count := tb_in (qt_4 (List.mem_of_getElem? (i := 193) (by decide +kernel))) rfl
theorem l1_L_159 : L1_ RL 159 yX12_count := tb_in (qt_7 (List.mem_of_getElem? (i := 78) (by decide +kernel))) rfl
theorem l1_L_160 : L1_ RL 160 yX11_keep := tb_in (qt_4 (List.mem_of_getElem? (i := 205) (by decide +kernel))) rfl
theorem l1_L_163 : L1_ RL 163 yX12_keep := tb_in (qt_7 (List.mem_of_getElem? (i := 82) (by decide +kernel))) rfl
theorem l1_L_164 : L1_ RL 164 yX11_row := tb_in (qt_4 (List.mem_of_getElem? (i := 218) (by decide +kernel))) rfl
theorem l1_L_167 : L1_ RL 167 yX12_row := tb_in (qt_7 (List.mem_of_getElem? (i := 86) (by decide +kernel))) rfl
theorem l1_L_168 : L1_ RL 168 yX11_put := tb_in (qt_4 (List.mem_of_getElem? (i := 223) (by decide +kernel))) rfl
theorem l1_L_171 : L1_ RL 171 yX12_put := tb_in (qt_7 (List.mem_of_getElem? (i := 91) (by decide +kernel))) rfl
theorem l1_L_181 : L1_ RL 181 yX11_copy := tb_in (qt_4 (List.mem_of_getElem? (i := 232) (by decide +kernel))) rfl
theorem l1_L_185 : L1_ RL 185 yX12_copy := tb_in (qt_7 (List.mem_of_getElem? (i := 99) (by decide +kernel))) rfl
theorem l1_L_186 : L1_ RL 186 yX11_length := tb_in (qt_5 (List.mem_of_getElem? (i := 1) (by decide +kernel))) rfl
theorem l1_L_189 : L1_ RL 189 yX12_length := tb_in (qt_7 (List.mem_of_getElem? (i := 103) (by decide +kernel))) rfl
theorem l1_L_190 : L1_ RL 190 yX11_toss := tb_in (qt_5 (List.mem_of_getElem? (i := 9) (by decide +kernel))) rfl
theorem l1_L_193 : L1_ RL 193 yX12_toss := tb_in (qt_7 (List.mem_of_getElem? (i := 111) (by decide +kernel))) rfl
def sim_0 (R : Mem_m → Prop) : Prop := ∀ (M : Mem_m) (a1 : Int) (a2 : Int) (a3 : Int) (a4 : Int) (_ : ok_i a1) (_ : ok_i a2) (_ : ok_i a3) (_ : ok_i a4) (_ : ok_m M) (_ : R M), ∃ (r : Int) (M1 M2 : Mem_m), f_X11_card SH0_ M 0 a1 a2 a3 a4 = some (M1, r) ∧ f_X12_card SH0_ M1 592 a1 a2 a3 a4 = some (M2, r) ∧ R M2
def sim_1 (R : Mem_m → Prop) : Prop := ∀ (M : Mem_m) (a1 : Int) (a2 : Int) (_ : ok_i a1) (_ : ok_i a2) (_ : ok_m M) (_ : R M), ∃ r : Int, f_X11_about SH0_ M 0 a1 a2 = some r ∧ f_X12_about SH0_ M 592 a1 a2 = some r
def sim_2 (R : Mem_m → Prop) : Prop := ∀ (M : Mem_m) (a1 : Int) (a2 : Int) (_ : ok_i a1) (_ : ok_i a2) (_ : ok_m M) (_ : R M), ∃ r : Int, f_X11_sound SH0_ M 0 a1 a2 = some r ∧ f_X12_sound SH0_ M 592 a1 a2 = some r
def sim_3 (R : Mem_m → Prop) : Prop := ∀ (M : Mem_m) (a1 : Int) (a2 : Int) (_ : ok_i a1) (_ : ok_i a2) (_ : ok_m M) (_ : R M), ∃ (r : Int) (M1 M2 : Mem_m), f_X11_classOf SH0_ M 0 a1 a2 = some (M1, r) ∧ f_X12_classOf SH0_ M1 592 a1 a2 = some (M2, r) ∧ R M2
def sim_4 (R : Mem_m → Prop) : Prop := ∀ (M : Mem_m) (a1 : Int) (a2 : Int) (a3 : Int) (_ : ok_i a1) (_ : ok_i a2) (_ : ok_i a3) (_ : ok_m M) (_ : R M), ∃ (r : Int) (M1 M2 : Mem_m), f_X11_speaker SH0_ M 0 a1 a2 a3 = some (M1, r) ∧ f_X12_speaker SH0_ M1 592 a1 a2 a3 = some (M2, r) ∧ R M2
def sim_5 (R : Mem_m → Prop) : Prop := ∀ (M : Mem_m) (a1 : Int) (a2 : Int) (_ : ok_i a1) (_ : ok_i a2) (_ : ok_m M) (_ : R M), ∃ (r : Int) (M2 : Mem_m), f_X11_oneOrTwo SH0_ M 0 a1 a2 = some r ∧ f_X12_oneOrTwo SH0_ M 592 a1 a2 = some (M2, r) ∧ R M2
def sim_6 (R : Mem_m → Prop) : Prop := ∀ (M : Mem_m) (a1 : Int) (a2 : Int) (_ : ok_i a1) (_ : ok_i a2) (_ : ok_m M) (_ : R M), ∃ (r : Int) (M1 M2 : Mem_m), f_X11_note SH0_ M 0 a1 a2 = some (M1, r) ∧ f_X12_note SH0_ M1 592 a1 a2 = some (M2, r) ∧ R M2
def sim_7 (R : Mem_m → Prop) : Prop := ∀ (M : Mem_m) (a1 : Int) (a2 : Int) (_ : ok_i a1) (_ : a2 = 0 ∨ a2 = 1) (_ : ok_m M) (_ : R M), ∃ (r : Int) (M1 M2 : Mem_m), f_X11_use SH0_ M 0 a1 a2 = some (M1, r) ∧ f_X12_use SH0_ M1 592 a1 a2 = some (M2, r) ∧ R M2
def sim_8 (R : Mem_m → Prop) : Prop := ∀ (M : Mem_m) (a1 : Int) (a2 : Int) (_ : ok_i a1) (_ : ok_i a2) (_ : ok_m M) (_ : R M), ∃ (r : Int) (M1 M2 : Mem_m), f_X11_told SH0_ M 0 a1 a2 = some (M1, r) ∧ f_X12_told SH0_ M1 592 a1 a2 = some (M2, r) ∧ R M2
def sim_9 (R : Mem_m → Prop) : Prop := ∀ (M : Mem_m) (a1 : Int) (a2 : Int) (_ : ok_i a1) (_ : ok_i a2) (_ : ok_m M) (_ : R M), ∃ (r : Int) (M1 M2 : Mem_m), f_X11_cut SH0_ M 0 a1 a2 = some (M1, r) ∧ f_X12_cut SH0_ M1 592 a1 a2 = some (M2, r) ∧ R M2
def sim_10 (R : Mem_m → Prop) : Prop := ∀ (M : Mem_m) (a1 : Int) (_ : ok_i a1) (_ : ok_m M) (_ : R M), ∃ (r : Int) (M1 M2 : Mem_m), f_X11_leastList SH0_ M 0 a1 = some (M1, r) ∧ f_X12_leastList SH0_ M1 592 a1 = some (M2, r) ∧ R M2
def sim_11 (R : Mem_m → Prop) : Prop := ∀ (M : Mem_m) (a1 : Int) (_ : ok_i a1) (_ : ok_m M) (_ : R M), ∃ (r : Int) (M1 M2 : Mem_m), f_X11_fault SH0_ M 0 a1 = some (M1, r) ∧ f_X12_fault SH0_ M1 592 a1 = some (M2, r) ∧ R M2
def sim_12 (R : Mem_m → Prop) : Prop := ∀ (M : Mem_m) (a1 : Int) (_ : ok_i a1) (_ : ok_m M) (_ : R M), ∃ (r : Int) (M1 M2 : Mem_m), f_X11_rule SH0_ M 0 a1 = some (M1, r) ∧ f_X12_rule SH0_ M1 592 a1 = some (M2, r) ∧ R M2
def sim_13 (R : Mem_m → Prop) : Prop := ∀ (M : Mem_m) (a1 : Int) (a2 : Int) (_ : ok_i a1) (_ : ok_i a2) (_ : ok_m M) (_ : R M), ∃ (r : Int) (M1 M2 : Mem_m), f_X11_heard SH0_ M 0 a1 a2 = some (M1, r) ∧ f_X12_heard SH0_ M1 592 a1 a2 = some (M2, r) ∧ R M2
def sim_14 (R : Mem_m → Prop) : Prop := ∀ (M : Mem_m) (a1 : Int) (a2 : Int) (_ : ok_i a1) (_ : ok_i a2) (_ : ok_m M) (_ : R M), ∃ (r : Int) (M1 M2 : Mem_m), f_X11_deep SH0_ M 0 a1 a2 = some (M1, r) ∧ f_X12_deep SH0_ M1 592 a1 a2 = some (M2, r) ∧ R M2
def sim_15 (R : Mem_m → Prop) : Prop := ∀ (M : Mem_m) (a1 : Int) (a2 : Int) (a3 : Int) (a4 : Int) (_ : ok_i a1) (_ : ok_i a2) (_ : ok_i a3) (_ : a4 = 0 ∨ a4 = 1) (_ : ok_m M) (_ : R M), ∃ (r : Int) (M1 M2 : Mem_m), f_X11_said SH0_ M 0 a1 a2 a3 a4 = some (M1, r) ∧ f_X12_said SH0_ M1 592 a1 a2 a3 a4 = some (M2, r) ∧ R M2
def sim_16 (R : Mem_m → Prop) : Prop := ∀ (M : Mem_m) (a1 : Int) (a2 : Int) (_ : ok_i a1) (_ : ok_i a2) (_ : ok_m M) (_ : R M), ∃ (r : Int) (M2 : Mem_m), f_X11_orders SH0_ M 0 a1 a2 = some r ∧ f_X12_orders SH0_ M 592 a1 a2 = some (M2, r) ∧ R M2
def sim_17 (R : Mem_m → Prop) : Prop := ∀ (M : Mem_m) (a1 : Int) (a2 : Int) (_ : ok_i a1) (_ : ok_i a2) (_ : ok_m M) (_ : R M), ∃ r : Int, f_X11_fits SH0_ M 0 a1 a2 = some r ∧ f_X12_fits SH0_ M 592 a1 a2 = some r
def sim_18 (R : Mem_m → Prop) : Prop := ∀ (M : Mem_m) (a1 : Int) (a2 : Int) (_ : ok_i a1) (_ : ok_i a2) (_ : ok_m M) (_ : R M), ∃ (r : Int) (M1 M2 : Mem_m), f_X11_ask SH0_ M 0 a1 a2 = some (M1, r) ∧ f_X12_ask SH0_ M1 592 a1 a2 = some (M2, r) ∧ R M2
def sim_19 (R : Mem_m → Prop) : Prop := ∀ (M : Mem_m) (a1 : Int) (a2 : Int) (_ : ok_i a1) (_ : ok_i a2) (_ : ok_m M) (_ : R M), ∃ r : Int, f_X11_who SH0_ M 0 a1 a2 = some r ∧ f_X12_who SH0_ M 592 a1 a2 = some r
def sim_20 (R : Mem_m → Prop) : Prop := ∀ (M : Mem_m) (a1 : Int) (_ : ok_i a1) (_ : ok_m M) (_ : R M), ∃ r : Int, f_X11_none SH0_ M 0 a1 = some r ∧ f_X12_none SH0_ M 592 a1 = some r
def sim_21 (R : Mem_m → Prop) : Prop := ∀ (M : Mem_m) (a1 : Int) (a2 : Int) (a3 : Int) (_ : ok_i a1) (_ : ok_i a2) (_ : ok_i a3) (_ : ok_m M) (_ : R M), ∃ (r : Int) (M1 M2 : Mem_m), f_X11_reader SH0_ M 0 a1 a2 a3 = some (M1, r) ∧ f_X12_reader SH0_ M1 592 a1 a2 a3 = some (M2, r) ∧ R M2
def sim_22 (R : Mem_m → Prop) : Prop := ∀ (M : Mem_m) (a1 : Int) (a2 : Int) (_ : ok_i a1) (_ : ok_i a2) (_ : ok_m M) (_ : R M), ∃ (r : Int) (M1 M2 : Mem_m), f_X11_neighbour SH0_ M 0 a1 a2 = some (M1, r) ∧ f_X12_neighbour SH0_ M1 592 a1 a2 = some (M2, r) ∧ R M2
def sim_23 (R : Mem_m → Prop) : Prop := ∀ (M : Mem_m) (a1 : Int) (_ : ok_i a1) (_ : ok_m M) (_ : R M), ∃ (r : Int) (M1 M2 : Mem_m), f_X11_law SH0_ M 0 a1 = some (M1, r) ∧ f_X12_law SH0_ M1 592 a1 = some (M2, r) ∧ R M2
def sim_24 (R : Mem_m → Prop) : Prop := ∀ (M : Mem_m) (a1 : Int) (_ : ok_i a1) (_ : ok_m M) (_ : R M), ∃ (r : Int) (M1 M2 : Mem_m), f_X11_led SH0_ M 0 a1 = some (M1, r) ∧ f_X12_led SH0_ M1 592 a1 = some (M2, r) ∧ R M2
def sim_25 (R : Mem_m → Prop) : Prop := ∀ (M : Mem_m) (a1 : Int) (_ : ok_i a1) (_ : ok_m M) (_ : R M), ∃ (r : Int) (M1 M2 : Mem_m), f_X11_odds SH0_ M 0 a1 = some (M1, r) ∧ f_X12_odds SH0_ M1 592 a1 = some (M2, r) ∧ R M2
def sim_26 (R : Mem_m → Prop) : Prop := ∀ (M : Mem_m) (a1 : Int) (a2 : Int) (_ : ok_i a1) (_ : a2 = 0 ∨ a2 = 1) (_ : ok_m M) (_ : R M), ∃ (r : Int) (M1 M2 : Mem_m), f_X11_bar SH0_ M 0 a1 a2 = some (M1, r) ∧ f_X12_bar SH0_ M1 592 a1 a2 = some (M2, r) ∧ R M2
def sim_27 (R : Mem_m → Prop) : Prop := ∀ (M : Mem_m) (a1 : Int) (_ : ok_i a1) (_ : ok_m M) (_ : R M), ∃ (r : Int) (M1 M2 : Mem_m), f_X11_takeBack SH0_ M 0 a1 = some (M1, r) ∧ f_X12_takeBack SH0_ M1 592 a1 = some (M2, r) ∧ R M2
def sim_28 (R : Mem_m → Prop) : Prop := ∀ (M : Mem_m) (a1 : Int) (_ : ok_i a1) (_ : ok_m M) (_ : R M), ∃ (r : Int) (M1 M2 : Mem_m), f_X11_leaned SH0_ M 0 a1 = some (M1, r) ∧ f_X12_leaned SH0_ M1 592 a1 = some (M2, r) ∧ R M2
def sim_29 (R : Mem_m → Prop) : Prop := ∀ (M : Mem_m) (a1 : Int) (a2 : Int) (_ : ok_i a1) (_ : ok_i a2) (_ : ok_m M) (_ : R M), ∃ (r : Int) (M2 : Mem_m), f_X11_weight SH0_ M 0 a1 a2 = some r ∧ f_X12_weight SH0_ M 592 a1 a2 = some (M2, r) ∧ R M2
def sim_30 (R : Mem_m → Prop) : Prop := ∀ (M : Mem_m) (_ : ok_m M) (_ : R M), ∃ (r : Int) (M1 M2 : Mem_m), f_X11_image SH0_ M 0 = some (M1, r) ∧ f_X12_image SH0_ M1 592 = some (M2, r) ∧ R M2
def sim_31 (R : Mem_m → Prop) : Prop := ∀ (M : Mem_m) (_ : ok_m M) (_ : R M), ∃ (r : Int) (M1 M2 : Mem_m), f_X11_restore SH0_ M 0 = some (M1, r) ∧ f_X12_restore SH0_ M1 592 = some (M2, r) ∧ R M2
def sim_32 (R : Mem_m → Prop) : Prop := ∀ (M : Mem_m) (a1 : Int) (_ : ok_i a1) (_ : ok_m M) (_ : R M), ∃ (r : Int) (M1 M2 : Mem_m), f_X11_count SH0_ M 0 a1 = some (M1, r) ∧ f_X12_count SH0_ M1 592 a1 = some (M2, r) ∧ R M2
def sim_33 (R : Mem_m → Prop) : Prop := ∀ (M : Mem_m) (a1 : Int) (a2 : Int) (a3 : Int) (_ : ok_i a1) (_ : ok_i a2) (_ : ok_i a3) (_ : ok_m M) (_ : R M), ∃ (r : Int) (M1 M2 : Mem_m), f_X11_keep SH0_ M 0 a1 a2 a3 = some (M1, r) ∧ f_X12_keep SH0_ M1 592 a1 a2 a3 = some (M2, r) ∧ R M2
def sim_34 (R : Mem_m → Prop) : Prop := ∀ (M : Mem_m) (a1 : Int) (a2 : Int) (a3 : Int) (_ : ok_i a1) (_ : ok_i a2) (_ : ok_i a3) (_ : ok_m M) (_ : R M), ∃ (r : Int) (M1 M2 : Mem_m), f_X11_row SH0_ M 0 a1 a2 a3 = some (M1, r) ∧ f_X12_row SH0_ M1 592 a1 a2 a3 = some (M2, r) ∧ R M2
def sim_35 (R : Mem_m → Prop) : Prop := ∀ (M : Mem_m) (a1 : Int) (a2 : Int) (a3 : Int) (_ : ok_i a1) (_ : ok_i a2) (_ : ok_i a3) (_ : ok_m M) (_ : R M), ∃ (r : Int) (M1 M2 : Mem_m), f_X11_put SH0_ M 0 a1 a2 a3 = some (M1, r) ∧ f_X12_put SH0_ M1 592 a1 a2 a3 = some (M2, r) ∧ R M2
def sim_37 (R : Mem_m → Prop) : Prop := ∀ (M : Mem_m) (a1 : Int) (a2 : Int) (a3 : Int) (a4 : Int) (a5 : Int) (_ : ok_i a1) (_ : ok_i a2) (_ : ok_i a3) (_ : ok_i a4) (_ : ok_i a5) (_ : ok_m M) (_ : R M), ∃ (r : Int) (M1 M2 : Mem_m), f_X11_copy SH0_ M 0 a1 a2 a3 a4 a5 = some (M1, r) ∧ f_X12_copy SH0_ M1 592 a1 a2 a3 a4 a5 = some (M2, r) ∧ R M2
def sim_38 (R : Mem_m → Prop) : Prop := ∀ (M : Mem_m) (a1 : Int) (_ : ok_i a1) (_ : ok_m M) (_ : R M), ∃ r : Int, f_X11_length SH0_ M 0 a1 = some r ∧ f_X12_length SH0_ M 592 a1 = some r
def sim_39 (R : Mem_m → Prop) : Prop := ∀ (M : Mem_m) (a1 : Int) (_ : ok_i a1) (_ : ok_m M) (_ : R M), ∃ r : Int, f_X11_toss SH0_ M 0 a1 = some r ∧ f_X12_toss SH0_ M 592 a1 = some r
set_option maxHeartbeats 4000000 in
set_option maxRecDepth 100000 in
theorem law_0 {X : XT_x} {B : Nat} {D : va_G} {ca : Nat → ClassId} {Q : State → Prop} {M : Mem_m} {R : Mem_m → Prop} {b L j : Nat} {xs : Nat → Int32} (C : Cx_ K_L X (G0_ B D ca)) (hX : Lx_ X b L xs) (hj : 6 * j + 6 ≤ L) (hs : sim_0 R) (hR : R M) (kk : ∀ M2, R M2 → V_ K_L X (G0_ B D ca) Q M2 1726 (LV_ B b j) []) : V_ K_L X (G0_ B D ca) Q M 216 (LV_ B b j) [] := by
  refine V_m (fun hok => ?_)
  obtain ⟨r, M1, M2, h1, h2, h3⟩ := hs M (sx_ xs j 1) (sx_ xs j 2) (sx_ xs j 3) (sx_ xs j 4) (ok_I _) (ok_I _) (ok_I _) (ok_I _) hok hR
  refine V_aload_n (j := 3) C d_L_216 rfl rfl ?_
  refine V_arg (k := 1) C hX (by omega) rfl (by decide) d_L_217 d_L_218 d_L_220 d_L_221 d_L_222 ?_
  refine V_arg (k := 2) C hX (by omega) rfl (by decide) d_L_223 d_L_224 d_L_226 d_L_227 d_L_228 ?_
  refine V_arg (k := 3) C hX (by omega) rfl (by decide) d_L_229 d_L_230 d_L_232 d_L_233 d_L_234 ?_
  refine V_arg (k := 4) C hX (by omega) rfl (by decide) d_L_235 d_L_236 d_L_238 d_L_239 d_L_240 ?_
  refine V_callVwi (K' := K_X11_card) (a := 0) (ci := 11) (av := [iv_i (sx_ xs j 1), iv_i (sx_ xs j 2), iv_i (sx_ xs j 3), iv_i (sx_ xs j 4)]) (rest := []) (F := some) yi_X11_card (by decide) rfl C yk_X11_card l1_L_21 (by decide) d_L_241 (fun v hv => ct_X11_card 0 (sx_ xs j 1) (sx_ xs j 2) (sx_ xs j 3) (sx_ xs j 4) (ok_I _) (ok_I _) (ok_I _) (ok_I _) hv) rfl rfl (Nat.le_of_ble_eq_true rfl) (vb_x h1) (fun v ok_r hv => ?_)
  cases hv
  refine V_aload_n (j := 2) C d_L_244 rfl rfl ?_
  refine V_arg (k := 1) C hX (by omega) rfl (by decide) d_L_245 d_L_246 d_L_248 d_L_249 d_L_250 ?_
  refine V_arg (k := 2) C hX (by omega) rfl (by decide) d_L_251 d_L_252 d_L_254 d_L_255 d_L_256 ?_
  refine V_arg (k := 3) C hX (by omega) rfl (by decide) d_L_257 d_L_258 d_L_260 d_L_261 d_L_262 ?_
  refine V_arg (k := 4) C hX (by omega) rfl (by decide) d_L_263 d_L_264 d_L_266 d_L_267 d_L_268 ?_
  refine V_callVwi (K' := K_X12_card) (a := 592) (ci := 12) (av := [iv_i (sx_ xs j 1), iv_i (sx_ xs j 2), iv_i (sx_ xs j 3), iv_i (sx_ xs j 4)]) (rest := [iv_i r]) (F := some) yi_X12_card (by decide) rfl C yk_X12_card l1_L_25 (by decide) d_L_269 (fun v hv => ct_X12_card 592 (sx_ xs j 1) (sx_ xs j 2) (sx_ xs j 3) (sx_ xs j 4) (ok_I _) (ok_I _) (ok_I _) (ok_I _) hv) rfl rfl (Nat.le_of_ble_eq_true rfl) (vb_m h2) (fun v ok_r hv => ?_)
  cases hv
  exact V_same C ok_r d_L_272 (by decide) (kk M2 h3)
set_option maxHeartbeats 4000000 in
set_option maxRecDepth 100000 in
theorem law_1 {X : XT_x} {B : Nat} {D : va_G} {ca : Nat → ClassId} {Q : State → Prop} {M : Mem_m} {R : Mem_m → Prop} {b L j : Nat} {xs : Nat → Int32} (C : Cx_ K_L X (G0_ B D ca)) (hX : Lx_ X b L xs) (hj : 6 * j + 6 ≤ L) (hs : sim_1 R) (hR : R M) (kk : ∀ M2, R M2 → V_ K_L X (G0_ B D ca) Q M2 1726 (LV_ B b j) []) : V_ K_L X (G0_ B D ca) Q M 277 (LV_ B b j) [] := by
  refine V_m (fun hok => ?_)
  obtain ⟨r, h1, h2⟩ := hs M (sx_ xs j 1) (sx_ xs j 2) (ok_I _) (ok_I _) hok hR
  refine V_aload_n (j := 3) C d_L_277 rfl rfl ?_
  refine V_arg (k := 1) C hX (by omega) rfl (by decide) d_L_278 d_L_279 d_L_281 d_L_282 d_L_283 ?_
  refine V_arg (k := 2) C hX (by omega) rfl (by decide) d_L_284 d_L_285 d_L_287 d_L_288 d_L_289 ?_
  refine V_callVri (K' := K_X11_about) (a := 0) (ci := 11) (av := [iv_i (sx_ xs j 1), iv_i (sx_ xs j 2)]) (rest := []) (F := some) yi_X11_about (by decide) rfl C yk_X11_about l1_L_26 (by decide) d_L_290 (fun v hv => ct_X11_about 0 (sx_ xs j 1) (sx_ xs j 2) (ok_I _) (ok_I _) hv) rfl rfl (Nat.le_of_ble_eq_true rfl) (vb_x h1) (fun v ok_r hv => ?_)
  cases hv
  refine V_aload_n (j := 2) C d_L_293 rfl rfl ?_
  refine V_arg (k := 1) C hX (by omega) rfl (by decide) d_L_294 d_L_295 d_L_297 d_L_298 d_L_299 ?_
  refine V_arg (k := 2) C hX (by omega) rfl (by decide) d_L_300 d_L_301 d_L_303 d_L_304 d_L_305 ?_
  refine V_callVri (K' := K_X12_about) (a := 592) (ci := 12) (av := [iv_i (sx_ xs j 1), iv_i (sx_ xs j 2)]) (rest := [iv_i r]) (F := some) yi_X12_about (by decide) rfl C yk_X12_about l1_L_30 (by decide) d_L_306 (fun v hv => ct_X12_about 592 (sx_ xs j 1) (sx_ xs j 2) (ok_I _) (ok_I _) hv) rfl rfl (Nat.le_of_ble_eq_true rfl) (vb_m h2) (fun v ok_r hv => ?_)
  cases hv
  exact V_same C ok_r d_L_309 (by decide) (kk M hR)
set_option maxHeartbeats 4000000 in
set_option maxRecDepth 100000 in
theorem law_2 {X : XT_x} {B : Nat} {D : va_G} {ca : Nat → ClassId} {Q : State → Prop} {M : Mem_m} {R : Mem_m → Prop} {b L j : Nat} {xs : Nat → Int32} (C : Cx_ K_L X (G0_ B D ca)) (hX : Lx_ X b L xs) (hj : 6 * j + 6 ≤ L) (hs : sim_2 R) (hR : R M) (kk : ∀ M2, R M2 → V_ K_L X (G0_ B D ca) Q M2 1726 (LV_ B b j) []) : V_ K_L X (G0_ B D ca) Q M 314 (LV_ B b j) [] := by
  refine V_m (fun hok => ?_)
  obtain ⟨r, h1, h2⟩ := hs M (sx_ xs j 1) (sx_ xs j 2) (ok_I _) (ok_I _) hok hR
  refine V_aload_n (j := 3) C d_L_314 rfl rfl ?_
  refine V_arg (k := 1) C hX (by omega) rfl (by decide) d_L_315 d_L_316 d_L_318 d_L_319 d_L_320 ?_
  refine V_arg (k := 2) C hX (by omega) rfl (by decide) d_L_321 d_L_322 d_L_324 d_L_325 d_L_326 ?_
  refine V_callVri (K' := K_X11_sound) (a := 0) (ci := 11) (av := [iv_i (sx_ xs j 1), iv_i (sx_ xs j 2)]) (rest := []) (F := some) yi_X11_sound (by decide) rfl C yk_X11_sound l1_L_31 (by decide) d_L_327 (fun v hv => ct_X11_sound 0 (sx_ xs j 1) (sx_ xs j 2) (ok_I _) (ok_I _) hv) rfl rfl (Nat.le_of_ble_eq_true rfl) (vb_x h1) (fun v ok_r hv => ?_)
  cases hv
  refine V_aload_n (j := 2) C d_L_330 rfl rfl ?_
  refine V_arg (k := 1) C hX (by omega) rfl (by decide) d_L_331 d_L_332 d_L_334 d_L_335 d_L_336 ?_
  refine V_arg (k := 2) C hX (by omega) rfl (by decide) d_L_337 d_L_338 d_L_340 d_L_341 d_L_342 ?_
  refine V_callVri (K' := K_X12_sound) (a := 592) (ci := 12) (av := [iv_i (sx_ xs j 1), iv_i (sx_ xs j 2)]) (rest := [iv_i r]) (F := some) yi_X12_sound (by decide) rfl C yk_X12_sound l1_L_34 (by decide) d_L_343 (fun v hv => ct_X12_sound 592 (sx_ xs j 1) (sx_ xs j 2) (ok_I _) (ok_I _) hv) rfl rfl (Nat.le_of_ble_eq_true rfl) (vb_m h2) (fun v ok_r hv => ?_)
  cases hv
  exact V_same C ok_r d_L_346 (by decide) (kk M hR)
set_option maxHeartbeats 4000000 in
set_option maxRecDepth 100000 in
theorem law_3 {X : XT_x} {B : Nat} {D : va_G} {ca : Nat → ClassId} {Q : State → Prop} {M : Mem_m} {R : Mem_m → Prop} {b L j : Nat} {xs : Nat → Int32} (C : Cx_ K_L X (G0_ B D ca)) (hX : Lx_ X b L xs) (hj : 6 * j + 6 ≤ L) (hs : sim_3 R) (hR : R M) (kk : ∀ M2, R M2 → V_ K_L X (G0_ B D ca) Q M2 1726 (LV_ B b j) []) : V_ K_L X (G0_ B D ca) Q M 351 (LV_ B b j) [] := by
  refine V_m (fun hok => ?_)
  obtain ⟨r, M1, M2, h1, h2, h3⟩ := hs M (sx_ xs j 1) (sx_ xs j 2) (ok_I _) (ok_I _) hok hR
  refine V_aload_n (j := 3) C d_L_351 rfl rfl ?_
  refine V_arg (k := 1) C hX (by omega) rfl (by decide) d_L_352 d_L_353 d_L_355 d_L_356 d_L_357 ?_
  refine V_arg (k := 2) C hX (by omega) rfl (by decide) d_L_358 d_L_359 d_L_361 d_L_362 d_L_363 ?_
  refine V_callVwi (K' := K_X11_classOf) (a := 0) (ci := 11) (av := [iv_i (sx_ xs j 1), iv_i (sx_ xs j 2)]) (rest := []) (F := some) yi_X11_classOf (by decide) rfl C yk_X11_classOf l1_L_35 (by decide) d_L_364 (fun v hv => ct_X11_classOf 0 (sx_ xs j 1) (sx_ xs j 2) (ok_I _) (ok_I _) hv) rfl rfl (Nat.le_of_ble_eq_true rfl) (vb_x h1) (fun v ok_r hv => ?_)
  cases hv
  refine V_aload_n (j := 2) C d_L_367 rfl rfl ?_
  refine V_arg (k := 1) C hX (by omega) rfl (by decide) d_L_368 d_L_369 d_L_371 d_L_372 d_L_373 ?_
  refine V_arg (k := 2) C hX (by omega) rfl (by decide) d_L_374 d_L_375 d_L_377 d_L_378 d_L_379 ?_
  refine V_callVwi (K' := K_X12_classOf) (a := 592) (ci := 12) (av := [iv_i (sx_ xs j 1), iv_i (sx_ xs j 2)]) (rest := [iv_i r]) (F := some) yi_X12_classOf (by decide) rfl C yk_X12_classOf l1_L_38 (by decide) d_L_380 (fun v hv => ct_X12_classOf 592 (sx_ xs j 1) (sx_ xs j 2) (ok_I _) (ok_I _) hv) rfl rfl (Nat.le_of_ble_eq_true rfl) (vb_m h2) (fun v ok_r hv => ?_)
  cases hv
  exact V_same C ok_r d_L_383 (by decide) (kk M2 h3)
set_option maxHeartbeats 4000000 in
set_option maxRecDepth 100000 in
theorem law_4 {X : XT_x} {B : Nat} {D : va_G} {ca : Nat → ClassId} {Q : State → Prop} {M : Mem_m} {R : Mem_m → Prop} {b L j : Nat} {xs : Nat → Int32} (C : Cx_ K_L X (G0_ B D ca)) (hX : Lx_ X b L xs) (hj : 6 * j + 6 ≤ L) (hs : sim_4 R) (hR : R M) (kk : ∀ M2, R M2 → V_ K_L X (G0_ B D ca) Q M2 1726 (LV_ B b j) []) : V_ K_L X (G0_ B D ca) Q M 388 (LV_ B b j) [] := by
  refine V_m (fun hok => ?_)
  obtain ⟨r, M1, M2, h1, h2, h3⟩ := hs M (sx_ xs j 1) (sx_ xs j 2) (sx_ xs j 3) (ok_I _) (ok_I _) (ok_I _) hok hR
  refine V_aload_n (j := 3) C d_L_388 rfl rfl ?_
  refine V_arg (k := 1) C hX (by omega) rfl (by decide) d_L_389 d_L_390 d_L_392 d_L_393 d_L_394 ?_
  refine V_arg (k := 2) C hX (by omega) rfl (by decide) d_L_395 d_L_396 d_L_398 d_L_399 d_L_400 ?_
  refine V_arg (k := 3) C hX (by omega) rfl (by decide) d_L_401 d_L_402 d_L_404 d_L_405 d_L_406 ?_
  refine V_callVwi (K' := K_X11_speaker) (a := 0) (ci := 11) (av := [iv_i (sx_ xs j 1), iv_i (sx_ xs j 2), iv_i (sx_ xs j 3)]) (rest := []) (F := some) yi_X11_speaker (by decide) rfl C yk_X11_speaker l1_L_39 (by decide) d_L_407 (fun v hv => ct_X11_speaker 0 (sx_ xs j 1) (sx_ xs j 2) (sx_ xs j 3) (ok_I _) (ok_I _) (ok_I _) hv) rfl rfl (Nat.le_of_ble_eq_true rfl) (vb_x h1) (fun v ok_r hv => ?_)
  cases hv
  refine V_aload_n (j := 2) C d_L_410 rfl rfl ?_
  refine V_arg (k := 1) C hX (by omega) rfl (by decide) d_L_411 d_L_412 d_L_414 d_L_415 d_L_416 ?_
  refine V_arg (k := 2) C hX (by omega) rfl (by decide) d_L_417 d_L_418 d_L_420 d_L_421 d_L_422 ?_
  refine V_arg (k := 3) C hX (by omega) rfl (by decide) d_L_423 d_L_424 d_L_426 d_L_427 d_L_428 ?_
  refine V_callVwi (K' := K_X12_speaker) (a := 592) (ci := 12) (av := [iv_i (sx_ xs j 1), iv_i (sx_ xs j 2), iv_i (sx_ xs j 3)]) (rest := [iv_i r]) (F := some) yi_X12_speaker (by decide) rfl C yk_X12_speaker l1_L_43 (by decide) d_L_429 (fun v hv => ct_X12_speaker 592 (sx_ xs j 1) (sx_ xs j 2) (sx_ xs j 3) (ok_I _) (ok_I _) (ok_I _) hv) rfl rfl (Nat.le_of_ble_eq_true rfl) (vb_m h2) (fun v ok_r hv => ?_)
  cases hv
  exact V_same C ok_r d_L_432 (by decide) (kk M2 h3)
set_option maxHeartbeats 4000000 in
set_option maxRecDepth 100000 in
theorem law_5 {X : XT_x} {B : Nat} {D : va_G} {ca : Nat → ClassId} {Q : State → Prop} {M : Mem_m} {R : Mem_m → Prop} {b L j : Nat} {xs : Nat → Int32} (C : Cx_ K_L X (G0_ B D ca)) (hX : Lx_ X b L xs) (hj : 6 * j + 6 ≤ L) (hs : sim_5 R) (hR : R M) (kk : ∀ M2, R M2 → V_ K_L X (G0_ B D ca) Q M2 1726 (LV_ B b j) []) : V_ K_L X (G0_ B D ca) Q M 437 (LV_ B b j) [] := by
  refine V_m (fun hok => ?_)
  obtain ⟨r, M2, h1, h2, h3⟩ := hs M (sx_ xs j 1) (sx_ xs j 2) (ok_I _) (ok_I _) hok hR
  refine V_aload_n (j := 3) C d_L_437 rfl rfl ?_
  refine V_arg (k := 1) C hX (by omega) rfl (by decide) d_L_438 d_L_439 d_L_441 d_L_442 d_L_443 ?_
  refine V_arg (k := 2) C hX (by omega) rfl (by decide) d_L_444 d_L_445 d_L_447 d_L_448 d_L_449 ?_
  refine V_callVri (K' := K_X11_oneOrTwo) (a := 0) (ci := 11) (av := [iv_i (sx_ xs j 1), iv_i (sx_ xs j 2)]) (rest := []) (F := some) yi_X11_oneOrTwo (by decide) rfl C yk_X11_oneOrTwo l1_L_44 (by decide) d_L_450 (fun v hv => ct_X11_oneOrTwo 0 (sx_ xs j 1) (sx_ xs j 2) (ok_I _) (ok_I _) hv) rfl rfl (Nat.le_of_ble_eq_true rfl) (vb_x h1) (fun v ok_r hv => ?_)
  cases hv
  refine V_aload_n (j := 2) C d_L_453 rfl rfl ?_
  refine V_arg (k := 1) C hX (by omega) rfl (by decide) d_L_454 d_L_455 d_L_457 d_L_458 d_L_459 ?_
  refine V_arg (k := 2) C hX (by omega) rfl (by decide) d_L_460 d_L_461 d_L_463 d_L_464 d_L_465 ?_
  refine V_callVwi (K' := K_X12_oneOrTwo) (a := 592) (ci := 12) (av := [iv_i (sx_ xs j 1), iv_i (sx_ xs j 2)]) (rest := [iv_i r]) (F := some) yi_X12_oneOrTwo (by decide) rfl C yk_X12_oneOrTwo l1_L_47 (by decide) d_L_466 (fun v hv => ct_X12_oneOrTwo 592 (sx_ xs j 1) (sx_ xs j 2) (ok_I _) (ok_I _) hv) rfl rfl (Nat.le_of_ble_eq_true rfl) (vb_m h2) (fun v ok_r hv => ?_)
  cases hv
  exact V_same C ok_r d_L_469 (by decide) (kk M2 h3)
set_option maxHeartbeats 4000000 in
set_option maxRecDepth 100000 in
theorem law_6 {X : XT_x} {B : Nat} {D : va_G} {ca : Nat → ClassId} {Q : State → Prop} {M : Mem_m} {R : Mem_m → Prop} {b L j : Nat} {xs : Nat → Int32} (C : Cx_ K_L X (G0_ B D ca)) (hX : Lx_ X b L xs) (hj : 6 * j + 6 ≤ L) (hs : sim_6 R) (hR : R M) (kk : ∀ M2, R M2 → V_ K_L X (G0_ B D ca) Q M2 1726 (LV_ B b j) []) : V_ K_L X (G0_ B D ca) Q M 474 (LV_ B b j) [] := by
  refine V_m (fun hok => ?_)
  obtain ⟨r, M1, M2, h1, h2, h3⟩ := hs M (sx_ xs j 1) (sx_ xs j 2) (ok_I _) (ok_I _) hok hR
  refine V_aload_n (j := 3) C d_L_474 rfl rfl ?_
  refine V_arg (k := 1) C hX (by omega) rfl (by decide) d_L_475 d_L_476 d_L_478 d_L_479 d_L_480 ?_
  refine V_arg (k := 2) C hX (by omega) rfl (by decide) d_L_481 d_L_482 d_L_484 d_L_485 d_L_486 ?_
  refine V_callVwi (K' := K_X11_note) (a := 0) (ci := 11) (av := [iv_i (sx_ xs j 1), iv_i (sx_ xs j 2)]) (rest := []) (F := some) yi_X11_note (by decide) rfl C yk_X11_note l1_L_48 (by decide) d_L_487 (fun v hv => ct_X11_note 0 (sx_ xs j 1) (sx_ xs j 2) (ok_I _) (ok_I _) hv) rfl rfl (Nat.le_of_ble_eq_true rfl) (vb_x h1) (fun v ok_r hv => ?_)
  cases hv
  refine V_aload_n (j := 2) C d_L_490 rfl rfl ?_
  refine V_arg (k := 1) C hX (by omega) rfl (by decide) d_L_491 d_L_492 d_L_494 d_L_495 d_L_496 ?_
  refine V_arg (k := 2) C hX (by omega) rfl (by decide) d_L_497 d_L_498 d_L_500 d_L_501 d_L_502 ?_
  refine V_callVwi (K' := K_X12_note) (a := 592) (ci := 12) (av := [iv_i (sx_ xs j 1), iv_i (sx_ xs j 2)]) (rest := [iv_i r]) (F := some) yi_X12_note (by decide) rfl C yk_X12_note l1_L_51 (by decide) d_L_503 (fun v hv => ct_X12_note 592 (sx_ xs j 1) (sx_ xs j 2) (ok_I _) (ok_I _) hv) rfl rfl (Nat.le_of_ble_eq_true rfl) (vb_m h2) (fun v ok_r hv => ?_)
  cases hv
  exact V_same C ok_r d_L_506 (by decide) (kk M2 h3)
set_option maxHeartbeats 4000000 in
set_option maxRecDepth 100000 in
theorem law_7 {X : XT_x} {B : Nat} {D : va_G} {ca : Nat → ClassId} {Q : State → Prop} {M : Mem_m} {R : Mem_m → Prop} {b L j : Nat} {xs : Nat → Int32} (C : Cx_ K_L X (G0_ B D ca)) (hX : Lx_ X b L xs) (hj : 6 * j + 6 ≤ L) (hs : sim_7 R) (hR : R M) (kk : ∀ M2, R M2 → V_ K_L X (G0_ B D ca) Q M2 1726 (LV_ B b j) []) : V_ K_L X (G0_ B D ca) Q M 511 (LV_ B b j) [] := by
  refine V_m (fun hok => ?_)
  obtain ⟨r, M1, M2, h1, h2, h3⟩ := hs M (sx_ xs j 1) (bz_ (sx_ xs j 2)) (ok_I _) (bz_01 _) hok hR
  refine V_aload_n (j := 3) C d_L_511 rfl rfl ?_
  refine V_arg (k := 1) C hX (by omega) rfl (by decide) d_L_512 d_L_513 d_L_515 d_L_516 d_L_517 ?_
  refine V_arg (k := 2) C hX (by omega) rfl (by decide) d_L_518 d_L_519 d_L_521 d_L_522 d_L_523 ?_
  refine V_bool C (ok_I _) d_L_524 d_L_527 d_L_528 d_L_531 ?_
  refine V_callVwi (K' := K_X11_use) (a := 0) (ci := 11) (av := [iv_i (sx_ xs j 1), iv_i (bz_ (sx_ xs j 2))]) (rest := []) (F := some) yi_X11_use (by decide) rfl C yk_X11_use l1_L_52 (by decide) d_L_532 (fun v hv => ct_X11_use 0 (sx_ xs j 1) (bz_ (sx_ xs j 2)) (ok_I _) (ok_bz _) hv) rfl rfl (Nat.le_of_ble_eq_true rfl) (vb_x h1) (fun v ok_r hv => ?_)
  cases hv
  refine V_aload_n (j := 2) C d_L_535 rfl rfl ?_
  refine V_arg (k := 1) C hX (by omega) rfl (by decide) d_L_536 d_L_537 d_L_539 d_L_540 d_L_541 ?_
  refine V_arg (k := 2) C hX (by omega) rfl (by decide) d_L_542 d_L_543 d_L_545 d_L_546 d_L_547 ?_
  refine V_bool C (ok_I _) d_L_548 d_L_551 d_L_552 d_L_555 ?_
  refine V_callVwi (K' := K_X12_use) (a := 592) (ci := 12) (av := [iv_i (sx_ xs j 1), iv_i (bz_ (sx_ xs j 2))]) (rest := [iv_i r]) (F := some) yi_X12_use (by decide) rfl C yk_X12_use l1_L_56 (by decide) d_L_556 (fun v hv => ct_X12_use 592 (sx_ xs j 1) (bz_ (sx_ xs j 2)) (ok_I _) (ok_bz _) hv) rfl rfl (Nat.le_of_ble_eq_true rfl) (vb_m h2) (fun v ok_r hv => ?_)
  cases hv
  exact V_same C ok_r d_L_559 (by decide) (kk M2 h3)
set_option maxHeartbeats 4000000 in
set_option maxRecDepth 100000 in
theorem law_8 {X : XT_x} {B : Nat} {D : va_G} {ca : Nat → ClassId} {Q : State → Prop} {M : Mem_m} {R : Mem_m → Prop} {b L j : Nat} {xs : Nat → Int32} (C : Cx_ K_L X (G0_ B D ca)) (hX : Lx_ X b L xs) (hj : 6 * j + 6 ≤ L) (hs : sim_8 R) (hR : R M) (kk : ∀ M2, R M2 → V_ K_L X (G0_ B D ca) Q M2 1726 (LV_ B b j) []) : V_ K_L X (G0_ B D ca) Q M 564 (LV_ B b j) [] := by
  refine V_m (fun hok => ?_)
  obtain ⟨r, M1, M2, h1, h2, h3⟩ := hs M (sx_ xs j 1) (sx_ xs j 2) (ok_I _) (ok_I _) hok hR
  refine V_aload_n (j := 3) C d_L_564 rfl rfl ?_
  refine V_arg (k := 1) C hX (by omega) rfl (by decide) d_L_565 d_L_566 d_L_568 d_L_569 d_L_570 ?_
  refine V_arg (k := 2) C hX (by omega) rfl (by decide) d_L_571 d_L_572 d_L_574 d_L_575 d_L_576 ?_
  refine V_callVwi (K' := K_X11_told) (a := 0) (ci := 11) (av := [iv_i (sx_ xs j 1), iv_i (sx_ xs j 2)]) (rest := []) (F := some) yi_X11_told (by decide) rfl C yk_X11_told l1_L_57 (by decide) d_L_577 (fun v hv => ct_X11_told 0 (sx_ xs j 1) (sx_ xs j 2) (ok_I _) (ok_I _) hv) rfl rfl (Nat.le_of_ble_eq_true rfl) (vb_x h1) (fun v ok_r hv => ?_)
  cases hv
  refine V_aload_n (j := 2) C d_L_580 rfl rfl ?_
  refine V_arg (k := 1) C hX (by omega) rfl (by decide) d_L_581 d_L_582 d_L_584 d_L_585 d_L_586 ?_
  refine V_arg (k := 2) C hX (by omega) rfl (by decide) d_L_587 d_L_588 d_L_590 d_L_591 d_L_592 ?_
  refine V_callVwi (K' := K_X12_told) (a := 592) (ci := 12) (av := [iv_i (sx_ xs j 1), iv_i (sx_ xs j 2)]) (rest := [iv_i r]) (F := some) yi_X12_told (by decide) rfl C yk_X12_told l1_L_60 (by decide) d_L_593 (fun v hv => ct_X12_told 592 (sx_ xs j 1) (sx_ xs j 2) (ok_I _) (ok_I _) hv) rfl rfl (Nat.le_of_ble_eq_true rfl) (vb_m h2) (fun v ok_r hv => ?_)
  cases hv
  exact V_same C ok_r d_L_596 (by decide) (kk M2 h3)
set_option maxHeartbeats 4000000 in
set_option maxRecDepth 100000 in
theorem law_9 {X : XT_x} {B : Nat} {D : va_G} {ca : Nat → ClassId} {Q : State → Prop} {M : Mem_m} {R : Mem_m → Prop} {b L j : Nat} {xs : Nat → Int32} (C : Cx_ K_L X (G0_ B D ca)) (hX : Lx_ X b L xs) (hj : 6 * j + 6 ≤ L) (hs : sim_9 R) (hR : R M) (kk : ∀ M2, R M2 → V_ K_L X (G0_ B D ca) Q M2 1726 (LV_ B b j) []) : V_ K_L X (G0_ B D ca) Q M 601 (LV_ B b j) [] := by
  refine V_m (fun hok => ?_)
  obtain ⟨r, M1, M2, h1, h2, h3⟩ := hs M (sx_ xs j 1) (sx_ xs j 2) (ok_I _) (ok_I _) hok hR
  refine V_aload_n (j := 3) C d_L_601 rfl rfl ?_
  refine V_arg (k := 1) C hX (by omega) rfl (by decide) d_L_602 d_L_603 d_L_605 d_L_606 d_L_607 ?_
  refine V_arg (k := 2) C hX (by omega) rfl (by decide) d_L_608 d_L_609 d_L_611 d_L_612 d_L_613 ?_
  refine V_callVwi (K' := K_X11_cut) (a := 0) (ci := 11) (av := [iv_i (sx_ xs j 1), iv_i (sx_ xs j 2)]) (rest := []) (F := some) yi_X11_cut (by decide) rfl C yk_X11_cut l1_L_61 (by decide) d_L_614 (fun v hv => ct_X11_cut 0 (sx_ xs j 1) (sx_ xs j 2) (ok_I _) (ok_I _) hv) rfl rfl (Nat.le_of_ble_eq_true rfl) (vb_x h1) (fun v ok_r hv => ?_)
  cases hv
  refine V_aload_n (j := 2) C d_L_617 rfl rfl ?_
  refine V_arg (k := 1) C hX (by omega) rfl (by decide) d_L_618 d_L_619 d_L_621 d_L_622 d_L_623 ?_
  refine V_arg (k := 2) C hX (by omega) rfl (by decide) d_L_624 d_L_625 d_L_627 d_L_628 d_L_629 ?_
  refine V_callVwi (K' := K_X12_cut) (a := 592) (ci := 12) (av := [iv_i (sx_ xs j 1), iv_i (sx_ xs j 2)]) (rest := [iv_i r]) (F := some) yi_X12_cut (by decide) rfl C yk_X12_cut l1_L_64 (by decide) d_L_630 (fun v hv => ct_X12_cut 592 (sx_ xs j 1) (sx_ xs j 2) (ok_I _) (ok_I _) hv) rfl rfl (Nat.le_of_ble_eq_true rfl) (vb_m h2) (fun v ok_r hv => ?_)
  cases hv
  exact V_same C ok_r d_L_633 (by decide) (kk M2 h3)
set_option maxHeartbeats 4000000 in
set_option maxRecDepth 100000 in
theorem law_10 {X : XT_x} {B : Nat} {D : va_G} {ca : Nat → ClassId} {Q : State → Prop} {M : Mem_m} {R : Mem_m → Prop} {b L j : Nat} {xs : Nat → Int32} (C : Cx_ K_L X (G0_ B D ca)) (hX : Lx_ X b L xs) (hj : 6 * j + 6 ≤ L) (hs : sim_10 R) (hR : R M) (kk : ∀ M2, R M2 → V_ K_L X (G0_ B D ca) Q M2 1726 (LV_ B b j) []) : V_ K_L X (G0_ B D ca) Q M 638 (LV_ B b j) [] := by
  refine V_m (fun hok => ?_)
  obtain ⟨r, M1, M2, h1, h2, h3⟩ := hs M (sx_ xs j 1) (ok_I _) hok hR
  refine V_aload_n (j := 3) C d_L_638 rfl rfl ?_
  refine V_arg (k := 1) C hX (by omega) rfl (by decide) d_L_639 d_L_640 d_L_642 d_L_643 d_L_644 ?_
  refine V_callVwi (K' := K_X11_leastList) (a := 0) (ci := 11) (av := [iv_i (sx_ xs j 1)]) (rest := []) (F := some) yi_X11_leastList (by decide) rfl C yk_X11_leastList l1_L_65 (by decide) d_L_645 (fun v hv => ct_X11_leastList 0 (sx_ xs j 1) (ok_I _) hv) rfl rfl (Nat.le_of_ble_eq_true rfl) (vb_x h1) (fun v ok_r hv => ?_)
  cases hv
  refine V_aload_n (j := 2) C d_L_648 rfl rfl ?_
  refine V_arg (k := 1) C hX (by omega) rfl (by decide) d_L_649 d_L_650 d_L_652 d_L_653 d_L_654 ?_
  refine V_callVwi (K' := K_X12_leastList) (a := 592) (ci := 12) (av := [iv_i (sx_ xs j 1)]) (rest := [iv_i r]) (F := some) yi_X12_leastList (by decide) rfl C yk_X12_leastList l1_L_69 (by decide) d_L_655 (fun v hv => ct_X12_leastList 592 (sx_ xs j 1) (ok_I _) hv) rfl rfl (Nat.le_of_ble_eq_true rfl) (vb_m h2) (fun v ok_r hv => ?_)
  cases hv
  exact V_same C ok_r d_L_658 (by decide) (kk M2 h3)
set_option maxHeartbeats 4000000 in
set_option maxRecDepth 100000 in
theorem law_11 {X : XT_x} {B : Nat} {D : va_G} {ca : Nat → ClassId} {Q : State → Prop} {M : Mem_m} {R : Mem_m → Prop} {b L j : Nat} {xs : Nat → Int32} (C : Cx_ K_L X (G0_ B D ca)) (hX : Lx_ X b L xs) (hj : 6 * j + 6 ≤ L) (hs : sim_11 R) (hR : R M) (kk : ∀ M2, R M2 → V_ K_L X (G0_ B D ca) Q M2 1726 (LV_ B b j) []) : V_ K_L X (G0_ B D ca) Q M 663 (LV_ B b j) [] := by
  refine V_m (fun hok => ?_)
  obtain ⟨r, M1, M2, h1, h2, h3⟩ := hs M (sx_ xs j 1) (ok_I _) hok hR
  refine V_aload_n (j := 3) C d_L_663 rfl rfl ?_
  refine V_arg (k := 1) C hX (by omega) rfl (by decide) d_L_664 d_L_665 d_L_667 d_L_668 d_L_669 ?_
  refine V_callVwi (K' := K_X11_fault) (a := 0) (ci := 11) (av := [iv_i (sx_ xs j 1)]) (rest := []) (F := some) yi_X11_fault (by decide) rfl C yk_X11_fault l1_L_70 (by decide) d_L_670 (fun v hv => ct_X11_fault 0 (sx_ xs j 1) (ok_I _) hv) rfl rfl (Nat.le_of_ble_eq_true rfl) (vb_x h1) (fun v ok_r hv => ?_)
  cases hv
  refine V_aload_n (j := 2) C d_L_673 rfl rfl ?_
  refine V_arg (k := 1) C hX (by omega) rfl (by decide) d_L_674 d_L_675 d_L_677 d_L_678 d_L_679 ?_
  refine V_callVwi (K' := K_X12_fault) (a := 592) (ci := 12) (av := [iv_i (sx_ xs j 1)]) (rest := [iv_i r]) (F := some) yi_X12_fault (by decide) rfl C yk_X12_fault l1_L_73 (by decide) d_L_680 (fun v hv => ct_X12_fault 592 (sx_ xs j 1) (ok_I _) hv) rfl rfl (Nat.le_of_ble_eq_true rfl) (vb_m h2) (fun v ok_r hv => ?_)
  cases hv
  exact V_same C ok_r d_L_683 (by decide) (kk M2 h3)
set_option maxHeartbeats 4000000 in
set_option maxRecDepth 100000 in
theorem law_12 {X : XT_x} {B : Nat} {D : va_G} {ca : Nat → ClassId} {Q : State → Prop} {M : Mem_m} {R : Mem_m → Prop} {b L j : Nat} {xs : Nat → Int32} (C : Cx_ K_L X (G0_ B D ca)) (hX : Lx_ X b L xs) (hj : 6 * j + 6 ≤ L) (hs : sim_12 R) (hR : R M) (kk : ∀ M2, R M2 → V_ K_L X (G0_ B D ca) Q M2 1726 (LV_ B b j) []) : V_ K_L X (G0_ B D ca) Q M 688 (LV_ B b j) [] := by
  refine V_m (fun hok => ?_)
  obtain ⟨r, M1, M2, h1, h2, h3⟩ := hs M (sx_ xs j 1) (ok_I _) hok hR
  refine V_aload_n (j := 3) C d_L_688 rfl rfl ?_
  refine V_arg (k := 1) C hX (by omega) rfl (by decide) d_L_689 d_L_690 d_L_692 d_L_693 d_L_694 ?_
  refine V_callVwi (K' := K_X11_rule) (a := 0) (ci := 11) (av := [iv_i (sx_ xs j 1)]) (rest := []) (F := some) yi_X11_rule (by decide) rfl C yk_X11_rule l1_L_74 (by decide) d_L_695 (fun v hv => ct_X11_rule 0 (sx_ xs j 1) (ok_I _) hv) rfl rfl (Nat.le_of_ble_eq_true rfl) (vb_x h1) (fun v ok_r hv => ?_)
  cases hv
  refine V_aload_n (j := 2) C d_L_698 rfl rfl ?_
  refine V_arg (k := 1) C hX (by omega) rfl (by decide) d_L_699 d_L_700 d_L_702 d_L_703 d_L_704 ?_
  refine V_callVwi (K' := K_X12_rule) (a := 592) (ci := 12) (av := [iv_i (sx_ xs j 1)]) (rest := [iv_i r]) (F := some) yi_X12_rule (by decide) rfl C yk_X12_rule l1_L_77 (by decide) d_L_705 (fun v hv => ct_X12_rule 592 (sx_ xs j 1) (ok_I _) hv) rfl rfl (Nat.le_of_ble_eq_true rfl) (vb_m h2) (fun v ok_r hv => ?_)
  cases hv
  exact V_same C ok_r d_L_708 (by decide) (kk M2 h3)
set_option maxHeartbeats 4000000 in
set_option maxRecDepth 100000 in
theorem law_13 {X : XT_x} {B : Nat} {D : va_G} {ca : Nat → ClassId} {Q : State → Prop} {M : Mem_m} {R : Mem_m → Prop} {b L j : Nat} {xs : Nat → Int32} (C : Cx_ K_L X (G0_ B D ca)) (hX : Lx_ X b L xs) (hj : 6 * j + 6 ≤ L) (hs : sim_13 R) (hR : R M) (kk : ∀ M2, R M2 → V_ K_L X (G0_ B D ca) Q M2 1726 (LV_ B b j) []) : V_ K_L X (G0_ B D ca) Q M 713 (LV_ B b j) [] := by
  refine V_m (fun hok => ?_)
  obtain ⟨r, M1, M2, h1, h2, h3⟩ := hs M (sx_ xs j 1) (sx_ xs j 2) (ok_I _) (ok_I _) hok hR
  refine V_aload_n (j := 3) C d_L_713 rfl rfl ?_
  refine V_arg (k := 1) C hX (by omega) rfl (by decide) d_L_714 d_L_715 d_L_717 d_L_718 d_L_719 ?_
  refine V_arg (k := 2) C hX (by omega) rfl (by decide) d_L_720 d_L_721 d_L_723 d_L_724 d_L_725 ?_
  refine V_callVwi (K' := K_X11_heard) (a := 0) (ci := 11) (av := [iv_i (sx_ xs j 1), iv_i (sx_ xs j 2)]) (rest := []) (F := some) yi_X11_heard (by decide) rfl C yk_X11_heard l1_L_78 (by decide) d_L_726 (fun v hv => ct_X11_heard 0 (sx_ xs j 1) (sx_ xs j 2) (ok_I _) (ok_I _) hv) rfl rfl (Nat.le_of_ble_eq_true rfl) (vb_x h1) (fun v ok_r hv => ?_)
  cases hv
  refine V_aload_n (j := 2) C d_L_729 rfl rfl ?_
  refine V_arg (k := 1) C hX (by omega) rfl (by decide) d_L_730 d_L_731 d_L_733 d_L_734 d_L_735 ?_
  refine V_arg (k := 2) C hX (by omega) rfl (by decide) d_L_736 d_L_737 d_L_739 d_L_740 d_L_741 ?_
  refine V_callVwi (K' := K_X12_heard) (a := 592) (ci := 12) (av := [iv_i (sx_ xs j 1), iv_i (sx_ xs j 2)]) (rest := [iv_i r]) (F := some) yi_X12_heard (by decide) rfl C yk_X12_heard l1_L_81 (by decide) d_L_742 (fun v hv => ct_X12_heard 592 (sx_ xs j 1) (sx_ xs j 2) (ok_I _) (ok_I _) hv) rfl rfl (Nat.le_of_ble_eq_true rfl) (vb_m h2) (fun v ok_r hv => ?_)
  cases hv
  exact V_same C ok_r d_L_745 (by decide) (kk M2 h3)
set_option maxHeartbeats 4000000 in
set_option maxRecDepth 100000 in
theorem law_14 {X : XT_x} {B : Nat} {D : va_G} {ca : Nat → ClassId} {Q : State → Prop} {M : Mem_m} {R : Mem_m → Prop} {b L j : Nat} {xs : Nat → Int32} (C : Cx_ K_L X (G0_ B D ca)) (hX : Lx_ X b L xs) (hj : 6 * j + 6 ≤ L) (hs : sim_14 R) (hR : R M) (kk : ∀ M2, R M2 → V_ K_L X (G0_ B D ca) Q M2 1726 (LV_ B b j) []) : V_ K_L X (G0_ B D ca) Q M 750 (LV_ B b j) [] := by
  refine V_m (fun hok => ?_)
  obtain ⟨r, M1, M2, h1, h2, h3⟩ := hs M (sx_ xs j 1) (sx_ xs j 2) (ok_I _) (ok_I _) hok hR
  refine V_aload_n (j := 3) C d_L_750 rfl rfl ?_
  refine V_arg (k := 1) C hX (by omega) rfl (by decide) d_L_751 d_L_752 d_L_754 d_L_755 d_L_756 ?_
  refine V_arg (k := 2) C hX (by omega) rfl (by decide) d_L_757 d_L_758 d_L_760 d_L_761 d_L_762 ?_
  refine V_callVwi (K' := K_X11_deep) (a := 0) (ci := 11) (av := [iv_i (sx_ xs j 1), iv_i (sx_ xs j 2)]) (rest := []) (F := some) yi_X11_deep (by decide) rfl C yk_X11_deep l1_L_82 (by decide) d_L_763 (fun v hv => ct_X11_deep 0 (sx_ xs j 1) (sx_ xs j 2) (ok_I _) (ok_I _) hv) rfl rfl (Nat.le_of_ble_eq_true rfl) (vb_x h1) (fun v ok_r hv => ?_)
  cases hv
  refine V_aload_n (j := 2) C d_L_766 rfl rfl ?_
  refine V_arg (k := 1) C hX (by omega) rfl (by decide) d_L_767 d_L_768 d_L_770 d_L_771 d_L_772 ?_
  refine V_arg (k := 2) C hX (by omega) rfl (by decide) d_L_773 d_L_774 d_L_776 d_L_777 d_L_778 ?_
  refine V_callVwi (K' := K_X12_deep) (a := 592) (ci := 12) (av := [iv_i (sx_ xs j 1), iv_i (sx_ xs j 2)]) (rest := [iv_i r]) (F := some) yi_X12_deep (by decide) rfl C yk_X12_deep l1_L_85 (by decide) d_L_779 (fun v hv => ct_X12_deep 592 (sx_ xs j 1) (sx_ xs j 2) (ok_I _) (ok_I _) hv) rfl rfl (Nat.le_of_ble_eq_true rfl) (vb_m h2) (fun v ok_r hv => ?_)
  cases hv
  exact V_same C ok_r d_L_782 (by decide) (kk M2 h3)
set_option maxHeartbeats 4000000 in
set_option maxRecDepth 100000 in
theorem law_15 {X : XT_x} {B : Nat} {D : va_G} {ca : Nat → ClassId} {Q : State → Prop} {M : Mem_m} {R : Mem_m → Prop} {b L j : Nat} {xs : Nat → Int32} (C : Cx_ K_L X (G0_ B D ca)) (hX : Lx_ X b L xs) (hj : 6 * j + 6 ≤ L) (hs : sim_15 R) (hR : R M) (kk : ∀ M2, R M2 → V_ K_L X (G0_ B D ca) Q M2 1726 (LV_ B b j) []) : V_ K_L X (G0_ B D ca) Q M 787 (LV_ B b j) [] := by
  refine V_m (fun hok => ?_)
  obtain ⟨r, M1, M2, h1, h2, h3⟩ := hs M (sx_ xs j 1) (sx_ xs j 2) (sx_ xs j 3) (bz_ (sx_ xs j 4)) (ok_I _) (ok_I _) (ok_I _) (bz_01 _) hok hR
  refine V_aload_n (j := 3) C d_L_787 rfl rfl ?_
  refine V_arg (k := 1) C hX (by omega) rfl (by decide) d_L_788 d_L_789 d_L_791 d_L_792 d_L_793 ?_
  refine V_arg (k := 2) C hX (by omega) rfl (by decide) d_L_794 d_L_795 d_L_797 d_L_798 d_L_799 ?_
  refine V_arg (k := 3) C hX (by omega) rfl (by decide) d_L_800 d_L_801 d_L_803 d_L_804 d_L_805 ?_
  refine V_arg (k := 4) C hX (by omega) rfl (by decide) d_L_806 d_L_807 d_L_809 d_L_810 d_L_811 ?_
  refine V_bool C (ok_I _) d_L_812 d_L_815 d_L_816 d_L_819 ?_
  refine V_callVwi (K' := K_X11_said) (a := 0) (ci := 11) (av := [iv_i (sx_ xs j 1), iv_i (sx_ xs j 2), iv_i (sx_ xs j 3), iv_i (bz_ (sx_ xs j 4))]) (rest := []) (F := some) yi_X11_said (by decide) rfl C yk_X11_said l1_L_86 (by decide) d_L_820 (fun v hv => ct_X11_said 0 (sx_ xs j 1) (sx_ xs j 2) (sx_ xs j 3) (bz_ (sx_ xs j 4)) (ok_I _) (ok_I _) (ok_I _) (ok_bz _) hv) rfl rfl (Nat.le_of_ble_eq_true rfl) (vb_x h1) (fun v ok_r hv => ?_)
  cases hv
  refine V_aload_n (j := 2) C d_L_823 rfl rfl ?_
  refine V_arg (k := 1) C hX (by omega) rfl (by decide) d_L_824 d_L_825 d_L_827 d_L_828 d_L_829 ?_
  refine V_arg (k := 2) C hX (by omega) rfl (by decide) d_L_830 d_L_831 d_L_833 d_L_834 d_L_835 ?_
  refine V_arg (k := 3) C hX (by omega) rfl (by decide) d_L_836 d_L_837 d_L_839 d_L_840 d_L_841 ?_
  refine V_arg (k := 4) C hX (by omega) rfl (by decide) d_L_842 d_L_843 d_L_845 d_L_846 d_L_847 ?_
  refine V_bool C (ok_I _) d_L_848 d_L_851 d_L_852 d_L_855 ?_
  refine V_callVwi (K' := K_X12_said) (a := 592) (ci := 12) (av := [iv_i (sx_ xs j 1), iv_i (sx_ xs j 2), iv_i (sx_ xs j 3), iv_i (bz_ (sx_ xs j 4))]) (rest := [iv_i r]) (F := some) yi_X12_said (by decide) rfl C yk_X12_said l1_L_90 (by decide) d_L_856 (fun v hv => ct_X12_said 592 (sx_ xs j 1) (sx_ xs j 2) (sx_ xs j 3) (bz_ (sx_ xs j 4)) (ok_I _) (ok_I _) (ok_I _) (ok_bz _) hv) rfl rfl (Nat.le_of_ble_eq_true rfl) (vb_m h2) (fun v ok_r hv => ?_)
  cases hv
  exact V_same C ok_r d_L_859 (by decide) (kk M2 h3)
set_option maxHeartbeats 4000000 in
set_option maxRecDepth 100000 in
theorem law_16 {X : XT_x} {B : Nat} {D : va_G} {ca : Nat → ClassId} {Q : State → Prop} {M : Mem_m} {R : Mem_m → Prop} {b L j : Nat} {xs : Nat → Int32} (C : Cx_ K_L X (G0_ B D ca)) (hX : Lx_ X b L xs) (hj : 6 * j + 6 ≤ L) (hs : sim_16 R) (hR : R M) (kk : ∀ M2, R M2 → V_ K_L X (G0_ B D ca) Q M2 1726 (LV_ B b j) []) : V_ K_L X (G0_ B D ca) Q M 864 (LV_ B b j) [] := by
  refine V_m (fun hok => ?_)
  obtain ⟨r, M2, h1, h2, h3⟩ := hs M (sx_ xs j 1) (sx_ xs j 2) (ok_I _) (ok_I _) hok hR
  refine V_aload_n (j := 3) C d_L_864 rfl rfl ?_
  refine V_arg (k := 1) C hX (by omega) rfl (by decide) d_L_865 d_L_866 d_L_868 d_L_869 d_L_870 ?_
  refine V_arg (k := 2) C hX (by omega) rfl (by decide) d_L_871 d_L_872 d_L_874 d_L_875 d_L_876 ?_
  refine V_callVri (K' := K_X11_orders) (a := 0) (ci := 11) (av := [iv_i (sx_ xs j 1), iv_i (sx_ xs j 2)]) (rest := []) (F := some) yi_X11_orders (by decide) rfl C yk_X11_orders l1_L_91 (by decide) d_L_877 (fun v hv => ct_X11_orders 0 (sx_ xs j 1) (sx_ xs j 2) (ok_I _) (ok_I _) hv) rfl rfl (Nat.le_of_ble_eq_true rfl) (vb_x h1) (fun v ok_r hv => ?_)
  cases hv
  refine V_aload_n (j := 2) C d_L_880 rfl rfl ?_
  refine V_arg (k := 1) C hX (by omega) rfl (by decide) d_L_881 d_L_882 d_L_884 d_L_885 d_L_886 ?_
  refine V_arg (k := 2) C hX (by omega) rfl (by decide) d_L_887 d_L_888 d_L_890 d_L_891 d_L_892 ?_
  refine V_callVwi (K' := K_X12_orders) (a := 592) (ci := 12) (av := [iv_i (sx_ xs j 1), iv_i (sx_ xs j 2)]) (rest := [iv_i r]) (F := some) yi_X12_orders (by decide) rfl C yk_X12_orders l1_L_94 (by decide) d_L_893 (fun v hv => ct_X12_orders 592 (sx_ xs j 1) (sx_ xs j 2) (ok_I _) (ok_I _) hv) rfl rfl (Nat.le_of_ble_eq_true rfl) (vb_m h2) (fun v ok_r hv => ?_)
  cases hv
  exact V_same C ok_r d_L_896 (by decide) (kk M2 h3)
set_option maxHeartbeats 4000000 in
set_option maxRecDepth 100000 in
theorem law_17 {X : XT_x} {B : Nat} {D : va_G} {ca : Nat → ClassId} {Q : State → Prop} {M : Mem_m} {R : Mem_m → Prop} {b L j : Nat} {xs : Nat → Int32} (C : Cx_ K_L X (G0_ B D ca)) (hX : Lx_ X b L xs) (hj : 6 * j + 6 ≤ L) (hs : sim_17 R) (hR : R M) (kk : ∀ M2, R M2 → V_ K_L X (G0_ B D ca) Q M2 1726 (LV_ B b j) []) : V_ K_L X (G0_ B D ca) Q M 901 (LV_ B b j) [] := by
  refine V_m (fun hok => ?_)
  obtain ⟨r, h1, h2⟩ := hs M (sx_ xs j 1) (sx_ xs j 2) (ok_I _) (ok_I _) hok hR
  refine V_aload_n (j := 3) C d_L_901 rfl rfl ?_
  refine V_arg (k := 1) C hX (by omega) rfl (by decide) d_L_902 d_L_903 d_L_905 d_L_906 d_L_907 ?_
  refine V_arg (k := 2) C hX (by omega) rfl (by decide) d_L_908 d_L_909 d_L_911 d_L_912 d_L_913 ?_
  refine V_callVri (K' := K_X11_fits) (a := 0) (ci := 11) (av := [iv_i (sx_ xs j 1), iv_i (sx_ xs j 2)]) (rest := []) (F := some) yi_X11_fits (by decide) rfl C yk_X11_fits l1_L_95 (by decide) d_L_914 (fun v hv => ct_X11_fits 0 (sx_ xs j 1) (sx_ xs j 2) (ok_I _) (ok_I _) hv) rfl rfl (Nat.le_of_ble_eq_true rfl) (vb_x h1) (fun v ok_r hv => ?_)
  cases hv
  refine V_aload_n (j := 2) C d_L_917 rfl rfl ?_
  refine V_arg (k := 1) C hX (by omega) rfl (by decide) d_L_918 d_L_919 d_L_921 d_L_922 d_L_923 ?_
  refine V_arg (k := 2) C hX (by omega) rfl (by decide) d_L_924 d_L_925 d_L_927 d_L_928 d_L_929 ?_
  refine V_callVri (K' := K_X12_fits) (a := 592) (ci := 12) (av := [iv_i (sx_ xs j 1), iv_i (sx_ xs j 2)]) (rest := [iv_i r]) (F := some) yi_X12_fits (by decide) rfl C yk_X12_fits l1_L_98 (by decide) d_L_930 (fun v hv => ct_X12_fits 592 (sx_ xs j 1) (sx_ xs j 2) (ok_I _) (ok_I _) hv) rfl rfl (Nat.le_of_ble_eq_true rfl) (vb_m h2) (fun v ok_r hv => ?_)
  cases hv
  exact V_same C ok_r d_L_933 (by decide) (kk M hR)
set_option maxHeartbeats 4000000 in
set_option maxRecDepth 100000 in
theorem law_18 {X : XT_x} {B : Nat} {D : va_G} {ca : Nat → ClassId} {Q : State → Prop} {M : Mem_m} {R : Mem_m → Prop} {b L j : Nat} {xs : Nat → Int32} (C : Cx_ K_L X (G0_ B D ca)) (hX : Lx_ X b L xs) (hj : 6 * j + 6 ≤ L) (hs : sim_18 R) (hR : R M) (kk : ∀ M2, R M2 → V_ K_L X (G0_ B D ca) Q M2 1726 (LV_ B b j) []) : V_ K_L X (G0_ B D ca) Q M 938 (LV_ B b j) [] := by
  refine V_m (fun hok => ?_)
  obtain ⟨r, M1, M2, h1, h2, h3⟩ := hs M (sx_ xs j 1) (sx_ xs j 2) (ok_I _) (ok_I _) hok hR
  refine V_aload_n (j := 3) C d_L_938 rfl rfl ?_
  refine V_arg (k := 1) C hX (by omega) rfl (by decide) d_L_939 d_L_940 d_L_942 d_L_943 d_L_944 ?_
  refine V_arg (k := 2) C hX (by omega) rfl (by decide) d_L_945 d_L_946 d_L_948 d_L_949 d_L_950 ?_
  refine V_callVwi (K' := K_X11_ask) (a := 0) (ci := 11) (av := [iv_i (sx_ xs j 1), iv_i (sx_ xs j 2)]) (rest := []) (F := some) yi_X11_ask (by decide) rfl C yk_X11_ask l1_L_99 (by decide) d_L_951 (fun v hv => ct_X11_ask 0 (sx_ xs j 1) (sx_ xs j 2) (ok_I _) (ok_I _) hv) rfl rfl (Nat.le_of_ble_eq_true rfl) (vb_x h1) (fun v ok_r hv => ?_)
  cases hv
  refine V_aload_n (j := 2) C d_L_954 rfl rfl ?_
  refine V_arg (k := 1) C hX (by omega) rfl (by decide) d_L_955 d_L_956 d_L_958 d_L_959 d_L_960 ?_
  refine V_arg (k := 2) C hX (by omega) rfl (by decide) d_L_961 d_L_962 d_L_964 d_L_965 d_L_966 ?_
  refine V_callVwi (K' := K_X12_ask) (a := 592) (ci := 12) (av := [iv_i (sx_ xs j 1), iv_i (sx_ xs j 2)]) (rest := [iv_i r]) (F := some) yi_X12_ask (by decide) rfl C yk_X12_ask l1_L_102 (by decide) d_L_967 (fun v hv => ct_X12_ask 592 (sx_ xs j 1) (sx_ xs j 2) (ok_I _) (ok_I _) hv) rfl rfl (Nat.le_of_ble_eq_true rfl) (vb_m h2) (fun v ok_r hv => ?_)
  cases hv
  exact V_same C ok_r d_L_970 (by decide) (kk M2 h3)
set_option maxHeartbeats 4000000 in
set_option maxRecDepth 100000 in
theorem law_19 {X : XT_x} {B : Nat} {D : va_G} {ca : Nat → ClassId} {Q : State → Prop} {M : Mem_m} {R : Mem_m → Prop} {b L j : Nat} {xs : Nat → Int32} (C : Cx_ K_L X (G0_ B D ca)) (hX : Lx_ X b L xs) (hj : 6 * j + 6 ≤ L) (hs : sim_19 R) (hR : R M) (kk : ∀ M2, R M2 → V_ K_L X (G0_ B D ca) Q M2 1726 (LV_ B b j) []) : V_ K_L X (G0_ B D ca) Q M 975 (LV_ B b j) [] := by
  refine V_m (fun hok => ?_)
  obtain ⟨r, h1, h2⟩ := hs M (sx_ xs j 1) (sx_ xs j 2) (ok_I _) (ok_I _) hok hR
  refine V_aload_n (j := 3) C d_L_975 rfl rfl ?_
  refine V_arg (k := 1) C hX (by omega) rfl (by decide) d_L_976 d_L_977 d_L_979 d_L_980 d_L_981 ?_
  refine V_arg (k := 2) C hX (by omega) rfl (by decide) d_L_982 d_L_983 d_L_985 d_L_986 d_L_987 ?_
  refine V_callVri (K' := K_X11_who) (a := 0) (ci := 11) (av := [iv_i (sx_ xs j 1), iv_i (sx_ xs j 2)]) (rest := []) (F := some) yi_X11_who (by decide) rfl C yk_X11_who l1_L_103 (by decide) d_L_988 (fun v hv => ct_X11_who 0 (sx_ xs j 1) (sx_ xs j 2) (ok_I _) (ok_I _) hv) rfl rfl (Nat.le_of_ble_eq_true rfl) (vb_x h1) (fun v ok_r hv => ?_)
  cases hv
  refine V_aload_n (j := 2) C d_L_991 rfl rfl ?_
  refine V_arg (k := 1) C hX (by omega) rfl (by decide) d_L_992 d_L_993 d_L_995 d_L_996 d_L_997 ?_
  refine V_arg (k := 2) C hX (by omega) rfl (by decide) d_L_998 d_L_999 d_L_1001 d_L_1002 d_L_1003 ?_
  refine V_callVri (K' := K_X12_who) (a := 592) (ci := 12) (av := [iv_i (sx_ xs j 1), iv_i (sx_ xs j 2)]) (rest := [iv_i r]) (F := some) yi_X12_who (by decide) rfl C yk_X12_who l1_L_106 (by decide) d_L_1004 (fun v hv => ct_X12_who 592 (sx_ xs j 1) (sx_ xs j 2) (ok_I _) (ok_I _) hv) rfl rfl (Nat.le_of_ble_eq_true rfl) (vb_m h2) (fun v ok_r hv => ?_)
  cases hv
  exact V_same C ok_r d_L_1007 (by decide) (kk M hR)
set_option maxHeartbeats 4000000 in
set_option maxRecDepth 100000 in
theorem law_20 {X : XT_x} {B : Nat} {D : va_G} {ca : Nat → ClassId} {Q : State → Prop} {M : Mem_m} {R : Mem_m → Prop} {b L j : Nat} {xs : Nat → Int32} (C : Cx_ K_L X (G0_ B D ca)) (hX : Lx_ X b L xs) (hj : 6 * j + 6 ≤ L) (hs : sim_20 R) (hR : R M) (kk : ∀ M2, R M2 → V_ K_L X (G0_ B D ca) Q M2 1726 (LV_ B b j) []) : V_ K_L X (G0_ B D ca) Q M 1012 (LV_ B b j) [] := by
  refine V_m (fun hok => ?_)
  obtain ⟨r, h1, h2⟩ := hs M (sx_ xs j 1) (ok_I _) hok hR
  refine V_aload_n (j := 3) C d_L_1012 rfl rfl ?_
  refine V_arg (k := 1) C hX (by omega) rfl (by decide) d_L_1013 d_L_1014 d_L_1016 d_L_1017 d_L_1018 ?_
  refine V_callVri (K' := K_X11_none) (a := 0) (ci := 11) (av := [iv_i (sx_ xs j 1)]) (rest := []) (F := some) yi_X11_none (by decide) rfl C yk_X11_none l1_L_107 (by decide) d_L_1019 (fun v hv => ct_X11_none 0 (sx_ xs j 1) (ok_I _) hv) rfl rfl (Nat.le_of_ble_eq_true rfl) (vb_x h1) (fun v ok_r hv => ?_)
  cases hv
  refine V_aload_n (j := 2) C d_L_1022 rfl rfl ?_
  refine V_arg (k := 1) C hX (by omega) rfl (by decide) d_L_1023 d_L_1024 d_L_1026 d_L_1027 d_L_1028 ?_
  refine V_callVri (K' := K_X12_none) (a := 592) (ci := 12) (av := [iv_i (sx_ xs j 1)]) (rest := [iv_i r]) (F := some) yi_X12_none (by decide) rfl C yk_X12_none l1_L_110 (by decide) d_L_1029 (fun v hv => ct_X12_none 592 (sx_ xs j 1) (ok_I _) hv) rfl rfl (Nat.le_of_ble_eq_true rfl) (vb_m h2) (fun v ok_r hv => ?_)
  cases hv
  exact V_same C ok_r d_L_1032 (by decide) (kk M hR)
set_option maxHeartbeats 4000000 in
set_option maxRecDepth 100000 in
theorem law_21 {X : XT_x} {B : Nat} {D : va_G} {ca : Nat → ClassId} {Q : State → Prop} {M : Mem_m} {R : Mem_m → Prop} {b L j : Nat} {xs : Nat → Int32} (C : Cx_ K_L X (G0_ B D ca)) (hX : Lx_ X b L xs) (hj : 6 * j + 6 ≤ L) (hs : sim_21 R) (hR : R M) (kk : ∀ M2, R M2 → V_ K_L X (G0_ B D ca) Q M2 1726 (LV_ B b j) []) : V_ K_L X (G0_ B D ca) Q M 1037 (LV_ B b j) [] := by
  refine V_m (fun hok => ?_)
  obtain ⟨r, M1, M2, h1, h2, h3⟩ := hs M (sx_ xs j 1) (sx_ xs j 2) (sx_ xs j 3) (ok_I _) (ok_I _) (ok_I _) hok hR
  refine V_aload_n (j := 3) C d_L_1037 rfl rfl ?_
  refine V_arg (k := 1) C hX (by omega) rfl (by decide) d_L_1038 d_L_1039 d_L_1041 d_L_1042 d_L_1043 ?_
  refine V_arg (k := 2) C hX (by omega) rfl (by decide) d_L_1044 d_L_1045 d_L_1047 d_L_1048 d_L_1049 ?_
  refine V_arg (k := 3) C hX (by omega) rfl (by decide) d_L_1050 d_L_1051 d_L_1053 d_L_1054 d_L_1055 ?_
  refine V_callVwi (K' := K_X11_reader) (a := 0) (ci := 11) (av := [iv_i (sx_ xs j 1), iv_i (sx_ xs j 2), iv_i (sx_ xs j 3)]) (rest := []) (F := some) yi_X11_reader (by decide) rfl C yk_X11_reader l1_L_111 (by decide) d_L_1056 (fun v hv => ct_X11_reader 0 (sx_ xs j 1) (sx_ xs j 2) (sx_ xs j 3) (ok_I _) (ok_I _) (ok_I _) hv) rfl rfl (Nat.le_of_ble_eq_true rfl) (vb_x h1) (fun v ok_r hv => ?_)
  cases hv
  refine V_aload_n (j := 2) C d_L_1059 rfl rfl ?_
  refine V_arg (k := 1) C hX (by omega) rfl (by decide) d_L_1060 d_L_1061 d_L_1063 d_L_1064 d_L_1065 ?_
  refine V_arg (k := 2) C hX (by omega) rfl (by decide) d_L_1066 d_L_1067 d_L_1069 d_L_1070 d_L_1071 ?_
  refine V_arg (k := 3) C hX (by omega) rfl (by decide) d_L_1072 d_L_1073 d_L_1075 d_L_1076 d_L_1077 ?_
  refine V_callVwi (K' := K_X12_reader) (a := 592) (ci := 12) (av := [iv_i (sx_ xs j 1), iv_i (sx_ xs j 2), iv_i (sx_ xs j 3)]) (rest := [iv_i r]) (F := some) yi_X12_reader (by decide) rfl C yk_X12_reader l1_L_114 (by decide) d_L_1078 (fun v hv => ct_X12_reader 592 (sx_ xs j 1) (sx_ xs j 2) (sx_ xs j 3) (ok_I _) (ok_I _) (ok_I _) hv) rfl rfl (Nat.le_of_ble_eq_true rfl) (vb_m h2) (fun v ok_r hv => ?_)
  cases hv
  exact V_same C ok_r d_L_1081 (by decide) (kk M2 h3)
set_option maxHeartbeats 4000000 in
set_option maxRecDepth 100000 in
theorem law_22 {X : XT_x} {B : Nat} {D : va_G} {ca : Nat → ClassId} {Q : State → Prop} {M : Mem_m} {R : Mem_m → Prop} {b L j : Nat} {xs : Nat → Int32} (C : Cx_ K_L X (G0_ B D ca)) (hX : Lx_ X b L xs) (hj : 6 * j + 6 ≤ L) (hs : sim_22 R) (hR : R M) (kk : ∀ M2, R M2 → V_ K_L X (G0_ B D ca) Q M2 1726 (LV_ B b j) []) : V_ K_L X (G0_ B D ca) Q M 1086 (LV_ B b j) [] := by
  refine V_m (fun hok => ?_)
  obtain ⟨r, M1, M2, h1, h2, h3⟩ := hs M (sx_ xs j 1) (sx_ xs j 2) (ok_I _) (ok_I _) hok hR
  refine V_aload_n (j := 3) C d_L_1086 rfl rfl ?_
  refine V_arg (k := 1) C hX (by omega) rfl (by decide) d_L_1087 d_L_1088 d_L_1090 d_L_1091 d_L_1092 ?_
  refine V_arg (k := 2) C hX (by omega) rfl (by decide) d_L_1093 d_L_1094 d_L_1096 d_L_1097 d_L_1098 ?_
  refine V_callVwi (K' := K_X11_neighbour) (a := 0) (ci := 11) (av := [iv_i (sx_ xs j 1), iv_i (sx_ xs j 2)]) (rest := []) (F := some) yi_X11_neighbour (by decide) rfl C yk_X11_neighbour l1_L_115 (by decide) d_L_1099 (fun v hv => ct_X11_neighbour 0 (sx_ xs j 1) (sx_ xs j 2) (ok_I _) (ok_I _) hv) rfl rfl (Nat.le_of_ble_eq_true rfl) (vb_x h1) (fun v ok_r hv => ?_)
  cases hv
  refine V_aload_n (j := 2) C d_L_1102 rfl rfl ?_
  refine V_arg (k := 1) C hX (by omega) rfl (by decide) d_L_1103 d_L_1104 d_L_1106 d_L_1107 d_L_1108 ?_
  refine V_arg (k := 2) C hX (by omega) rfl (by decide) d_L_1109 d_L_1110 d_L_1112 d_L_1113 d_L_1114 ?_
  refine V_callVwi (K' := K_X12_neighbour) (a := 592) (ci := 12) (av := [iv_i (sx_ xs j 1), iv_i (sx_ xs j 2)]) (rest := [iv_i r]) (F := some) yi_X12_neighbour (by decide) rfl C yk_X12_neighbour l1_L_118 (by decide) d_L_1115 (fun v hv => ct_X12_neighbour 592 (sx_ xs j 1) (sx_ xs j 2) (ok_I _) (ok_I _) hv) rfl rfl (Nat.le_of_ble_eq_true rfl) (vb_m h2) (fun v ok_r hv => ?_)
  cases hv
  exact V_same C ok_r d_L_1118 (by decide) (kk M2 h3)
set_option maxHeartbeats 4000000 in
set_option maxRecDepth 100000 in
theorem law_23 {X : XT_x} {B : Nat} {D : va_G} {ca : Nat → ClassId} {Q : State → Prop} {M : Mem_m} {R : Mem_m → Prop} {b L j : Nat} {xs : Nat → Int32} (C : Cx_ K_L X (G0_ B D ca)) (hX : Lx_ X b L xs) (hj : 6 * j + 6 ≤ L) (hs : sim_23 R) (hR : R M) (kk : ∀ M2, R M2 → V_ K_L X (G0_ B D ca) Q M2 1726 (LV_ B b j) []) : V_ K_L X (G0_ B D ca) Q M 1123 (LV_ B b j) [] := by
  refine V_m (fun hok => ?_)
  obtain ⟨r, M1, M2, h1, h2, h3⟩ := hs M (sx_ xs j 1) (ok_I _) hok hR
  refine V_aload_n (j := 3) C d_L_1123 rfl rfl ?_
  refine V_arg (k := 1) C hX (by omega) rfl (by decide) d_L_1124 d_L_1125 d_L_1127 d_L_1128 d_L_1129 ?_
  refine V_callVwi (K' := K_X11_law) (a := 0) (ci := 11) (av := [iv_i (sx_ xs j 1)]) (rest := []) (F := some) yi_X11_law (by decide) rfl C yk_X11_law l1_L_119 (by decide) d_L_1130 (fun v hv => ct_X11_law 0 (sx_ xs j 1) (ok_I _) hv) rfl rfl (Nat.le_of_ble_eq_true rfl) (vb_x h1) (fun v ok_r hv => ?_)
  cases hv
  refine V_aload_n (j := 2) C d_L_1133 rfl rfl ?_
  refine V_arg (k := 1) C hX (by omega) rfl (by decide) d_L_1134 d_L_1135 d_L_1137 d_L_1138 d_L_1139 ?_
  refine V_callVwi (K' := K_X12_law) (a := 592) (ci := 12) (av := [iv_i (sx_ xs j 1)]) (rest := [iv_i r]) (F := some) yi_X12_law (by decide) rfl C yk_X12_law l1_L_122 (by decide) d_L_1140 (fun v hv => ct_X12_law 592 (sx_ xs j 1) (ok_I _) hv) rfl rfl (Nat.le_of_ble_eq_true rfl) (vb_m h2) (fun v ok_r hv => ?_)
  cases hv
  exact V_same C ok_r d_L_1143 (by decide) (kk M2 h3)
set_option maxHeartbeats 4000000 in
set_option maxRecDepth 100000 in
theorem law_24 {X : XT_x} {B : Nat} {D : va_G} {ca : Nat → ClassId} {Q : State → Prop} {M : Mem_m} {R : Mem_m → Prop} {b L j : Nat} {xs : Nat → Int32} (C : Cx_ K_L X (G0_ B D ca)) (hX : Lx_ X b L xs) (hj : 6 * j + 6 ≤ L) (hs : sim_24 R) (hR : R M) (kk : ∀ M2, R M2 → V_ K_L X (G0_ B D ca) Q M2 1726 (LV_ B b j) []) : V_ K_L X (G0_ B D ca) Q M 1148 (LV_ B b j) [] := by
  refine V_m (fun hok => ?_)
  obtain ⟨r, M1, M2, h1, h2, h3⟩ := hs M (sx_ xs j 1) (ok_I _) hok hR
  refine V_aload_n (j := 3) C d_L_1148 rfl rfl ?_
  refine V_arg (k := 1) C hX (by omega) rfl (by decide) d_L_1149 d_L_1150 d_L_1152 d_L_1153 d_L_1154 ?_
  refine V_callVwi (K' := K_X11_led) (a := 0) (ci := 11) (av := [iv_i (sx_ xs j 1)]) (rest := []) (F := some) yi_X11_led (by decide) rfl C yk_X11_led l1_L_123 (by decide) d_L_1155 (fun v hv => ct_X11_led 0 (sx_ xs j 1) (ok_I _) hv) rfl rfl (Nat.le_of_ble_eq_true rfl) (vb_x h1) (fun v ok_r hv => ?_)
  cases hv
  refine V_aload_n (j := 2) C d_L_1158 rfl rfl ?_
  refine V_arg (k := 1) C hX (by omega) rfl (by decide) d_L_1159 d_L_1160 d_L_1162 d_L_1163 d_L_1164 ?_
  refine V_callVwi (K' := K_X12_led) (a := 592) (ci := 12) (av := [iv_i (sx_ xs j 1)]) (rest := [iv_i r]) (F := some) yi_X12_led (by decide) rfl C yk_X12_led l1_L_126 (by decide) d_L_1165 (fun v hv => ct_X12_led 592 (sx_ xs j 1) (ok_I _) hv) rfl rfl (Nat.le_of_ble_eq_true rfl) (vb_m h2) (fun v ok_r hv => ?_)
  cases hv
  exact V_same C ok_r d_L_1168 (by decide) (kk M2 h3)
set_option maxHeartbeats 4000000 in
set_option maxRecDepth 100000 in
theorem law_25 {X : XT_x} {B : Nat} {D : va_G} {ca : Nat → ClassId} {Q : State → Prop} {M : Mem_m} {R : Mem_m → Prop} {b L j : Nat} {xs : Nat → Int32} (C : Cx_ K_L X (G0_ B D ca)) (hX : Lx_ X b L xs) (hj : 6 * j + 6 ≤ L) (hs : sim_25 R) (hR : R M) (kk : ∀ M2, R M2 → V_ K_L X (G0_ B D ca) Q M2 1726 (LV_ B b j) []) : V_ K_L X (G0_ B D ca) Q M 1173 (LV_ B b j) [] := by
  refine V_m (fun hok => ?_)
  obtain ⟨r, M1, M2, h1, h2, h3⟩ := hs M (sx_ xs j 1) (ok_I _) hok hR
  refine V_aload_n (j := 3) C d_L_1173 rfl rfl ?_
  refine V_arg (k := 1) C hX (by omega) rfl (by decide) d_L_1174 d_L_1175 d_L_1177 d_L_1178 d_L_1179 ?_
  refine V_callVwi (K' := K_X11_odds) (a := 0) (ci := 11) (av := [iv_i (sx_ xs j 1)]) (rest := []) (F := some) yi_X11_odds (by decide) rfl C yk_X11_odds l1_L_127 (by decide) d_L_1180 (fun v hv => ct_X11_odds 0 (sx_ xs j 1) (ok_I _) hv) rfl rfl (Nat.le_of_ble_eq_true rfl) (vb_x h1) (fun v ok_r hv => ?_)
  cases hv
  refine V_aload_n (j := 2) C d_L_1183 rfl rfl ?_
  refine V_arg (k := 1) C hX (by omega) rfl (by decide) d_L_1184 d_L_1185 d_L_1187 d_L_1188 d_L_1189 ?_
  refine V_callVwi (K' := K_X12_odds) (a := 592) (ci := 12) (av := [iv_i (sx_ xs j 1)]) (rest := [iv_i r]) (F := some) yi_X12_odds (by decide) rfl C yk_X12_odds l1_L_130 (by decide) d_L_1190 (fun v hv => ct_X12_odds 592 (sx_ xs j 1) (ok_I _) hv) rfl rfl (Nat.le_of_ble_eq_true rfl) (vb_m h2) (fun v ok_r hv => ?_)
  cases hv
  exact V_same C ok_r d_L_1193 (by decide) (kk M2 h3)
set_option maxHeartbeats 4000000 in
set_option maxRecDepth 100000 in
theorem law_26 {X : XT_x} {B : Nat} {D : va_G} {ca : Nat → ClassId} {Q : State → Prop} {M : Mem_m} {R : Mem_m → Prop} {b L j : Nat} {xs : Nat → Int32} (C : Cx_ K_L X (G0_ B D ca)) (hX : Lx_ X b L xs) (hj : 6 * j + 6 ≤ L) (hs : sim_26 R) (hR : R M) (kk : ∀ M2, R M2 → V_ K_L X (G0_ B D ca) Q M2 1726 (LV_ B b j) []) : V_ K_L X (G0_ B D ca) Q M 1198 (LV_ B b j) [] := by
  refine V_m (fun hok => ?_)
  obtain ⟨r, M1, M2, h1, h2, h3⟩ := hs M (sx_ xs j 1) (bz_ (sx_ xs j 2)) (ok_I _) (bz_01 _) hok hR
  refine V_aload_n (j := 3) C d_L_1198 rfl rfl ?_
  refine V_arg (k := 1) C hX (by omega) rfl (by decide) d_L_1199 d_L_1200 d_L_1202 d_L_1203 d_L_1204 ?_
  refine V_arg (k := 2) C hX (by omega) rfl (by decide) d_L_1205 d_L_1206 d_L_1208 d_L_1209 d_L_1210 ?_
  refine V_bool C (ok_I _) d_L_1211 d_L_1214 d_L_1215 d_L_1218 ?_
  refine V_callVwi (K' := K_X11_bar) (a := 0) (ci := 11) (av := [iv_i (sx_ xs j 1), iv_i (bz_ (sx_ xs j 2))]) (rest := []) (F := some) yi_X11_bar (by decide) rfl C yk_X11_bar l1_L_131 (by decide) d_L_1219 (fun v hv => ct_X11_bar 0 (sx_ xs j 1) (bz_ (sx_ xs j 2)) (ok_I _) (ok_bz _) hv) rfl rfl (Nat.le_of_ble_eq_true rfl) (vb_x h1) (fun v ok_r hv => ?_)
  cases hv
  refine V_aload_n (j := 2) C d_L_1222 rfl rfl ?_
  refine V_arg (k := 1) C hX (by omega) rfl (by decide) d_L_1223 d_L_1224 d_L_1226 d_L_1227 d_L_1228 ?_
  refine V_arg (k := 2) C hX (by omega) rfl (by decide) d_L_1229 d_L_1230 d_L_1232 d_L_1233 d_L_1234 ?_
  refine V_bool C (ok_I _) d_L_1235 d_L_1238 d_L_1239 d_L_1242 ?_
  refine V_callVwi (K' := K_X12_bar) (a := 592) (ci := 12) (av := [iv_i (sx_ xs j 1), iv_i (bz_ (sx_ xs j 2))]) (rest := [iv_i r]) (F := some) yi_X12_bar (by decide) rfl C yk_X12_bar l1_L_134 (by decide) d_L_1243 (fun v hv => ct_X12_bar 592 (sx_ xs j 1) (bz_ (sx_ xs j 2)) (ok_I _) (ok_bz _) hv) rfl rfl (Nat.le_of_ble_eq_true rfl) (vb_m h2) (fun v ok_r hv => ?_)
  cases hv
  exact V_same C ok_r d_L_1246 (by decide) (kk M2 h3)
set_option maxHeartbeats 4000000 in
set_option maxRecDepth 100000 in
theorem law_27 {X : XT_x} {B : Nat} {D : va_G} {ca : Nat → ClassId} {Q : State → Prop} {M : Mem_m} {R : Mem_m → Prop} {b L j : Nat} {xs : Nat → Int32} (C : Cx_ K_L X (G0_ B D ca)) (hX : Lx_ X b L xs) (hj : 6 * j + 6 ≤ L) (hs : sim_27 R) (hR : R M) (kk : ∀ M2, R M2 → V_ K_L X (G0_ B D ca) Q M2 1726 (LV_ B b j) []) : V_ K_L X (G0_ B D ca) Q M 1251 (LV_ B b j) [] := by
  refine V_m (fun hok => ?_)
  obtain ⟨r, M1, M2, h1, h2, h3⟩ := hs M (sx_ xs j 1) (ok_I _) hok hR
  refine V_aload_n (j := 3) C d_L_1251 rfl rfl ?_
  refine V_arg (k := 1) C hX (by omega) rfl (by decide) d_L_1252 d_L_1253 d_L_1255 d_L_1256 d_L_1257 ?_
  refine V_callVwi (K' := K_X11_takeBack) (a := 0) (ci := 11) (av := [iv_i (sx_ xs j 1)]) (rest := []) (F := some) yi_X11_takeBack (by decide) rfl C yk_X11_takeBack l1_L_135 (by decide) d_L_1258 (fun v hv => ct_X11_takeBack 0 (sx_ xs j 1) (ok_I _) hv) rfl rfl (Nat.le_of_ble_eq_true rfl) (vb_x h1) (fun v ok_r hv => ?_)
  cases hv
  refine V_aload_n (j := 2) C d_L_1261 rfl rfl ?_
  refine V_arg (k := 1) C hX (by omega) rfl (by decide) d_L_1262 d_L_1263 d_L_1265 d_L_1266 d_L_1267 ?_
  refine V_callVwi (K' := K_X12_takeBack) (a := 592) (ci := 12) (av := [iv_i (sx_ xs j 1)]) (rest := [iv_i r]) (F := some) yi_X12_takeBack (by decide) rfl C yk_X12_takeBack l1_L_138 (by decide) d_L_1268 (fun v hv => ct_X12_takeBack 592 (sx_ xs j 1) (ok_I _) hv) rfl rfl (Nat.le_of_ble_eq_true rfl) (vb_m h2) (fun v ok_r hv => ?_)
  cases hv
  exact V_same C ok_r d_L_1271 (by decide) (kk M2 h3)
set_option maxHeartbeats 4000000 in
set_option maxRecDepth 100000 in
theorem law_28 {X : XT_x} {B : Nat} {D : va_G} {ca : Nat → ClassId} {Q : State → Prop} {M : Mem_m} {R : Mem_m → Prop} {b L j : Nat} {xs : Nat → Int32} (C : Cx_ K_L X (G0_ B D ca)) (hX : Lx_ X b L xs) (hj : 6 * j + 6 ≤ L) (hs : sim_28 R) (hR : R M) (kk : ∀ M2, R M2 → V_ K_L X (G0_ B D ca) Q M2 1726 (LV_ B b j) []) : V_ K_L X (G0_ B D ca) Q M 1276 (LV_ B b j) [] := by
  refine V_m (fun hok => ?_)
  obtain ⟨r, M1, M2, h1, h2, h3⟩ := hs M (sx_ xs j 1) (ok_I _) hok hR
  refine V_aload_n (j := 3) C d_L_1276 rfl rfl ?_
  refine V_arg (k := 1) C hX (by omega) rfl (by decide) d_L_1277 d_L_1278 d_L_1280 d_L_1281 d_L_1282 ?_
  refine V_callVwi (K' := K_X11_leaned) (a := 0) (ci := 11) (av := [iv_i (sx_ xs j 1)]) (rest := []) (F := some) yi_X11_leaned (by decide) rfl C yk_X11_leaned l1_L_139 (by decide) d_L_1283 (fun v hv => ct_X11_leaned 0 (sx_ xs j 1) (ok_I _) hv) rfl rfl (Nat.le_of_ble_eq_true rfl) (vb_x h1) (fun v ok_r hv => ?_)
  cases hv
  refine V_aload_n (j := 2) C d_L_1286 rfl rfl ?_
  refine V_arg (k := 1) C hX (by omega) rfl (by decide) d_L_1287 d_L_1288 d_L_1290 d_L_1291 d_L_1292 ?_
  refine V_callVwi (K' := K_X12_leaned) (a := 592) (ci := 12) (av := [iv_i (sx_ xs j 1)]) (rest := [iv_i r]) (F := some) yi_X12_leaned (by decide) rfl C yk_X12_leaned l1_L_142 (by decide) d_L_1293 (fun v hv => ct_X12_leaned 592 (sx_ xs j 1) (ok_I _) hv) rfl rfl (Nat.le_of_ble_eq_true rfl) (vb_m h2) (fun v ok_r hv => ?_)
  cases hv
  exact V_same C ok_r d_L_1296 (by decide) (kk M2 h3)
set_option maxHeartbeats 4000000 in
set_option maxRecDepth 100000 in
theorem law_29 {X : XT_x} {B : Nat} {D : va_G} {ca : Nat → ClassId} {Q : State → Prop} {M : Mem_m} {R : Mem_m → Prop} {b L j : Nat} {xs : Nat → Int32} (C : Cx_ K_L X (G0_ B D ca)) (hX : Lx_ X b L xs) (hj : 6 * j + 6 ≤ L) (hs : sim_29 R) (hR : R M) (kk : ∀ M2, R M2 → V_ K_L X (G0_ B D ca) Q M2 1726 (LV_ B b j) []) : V_ K_L X (G0_ B D ca) Q M 1301 (LV_ B b j) [] := by
  refine V_m (fun hok => ?_)
  obtain ⟨r, M2, h1, h2, h3⟩ := hs M (sx_ xs j 1) (sx_ xs j 2) (ok_I _) (ok_I _) hok hR
  refine V_aload_n (j := 3) C d_L_1301 rfl rfl ?_
  refine V_arg (k := 1) C hX (by omega) rfl (by decide) d_L_1302 d_L_1303 d_L_1305 d_L_1306 d_L_1307 ?_
  refine V_arg (k := 2) C hX (by omega) rfl (by decide) d_L_1308 d_L_1309 d_L_1311 d_L_1312 d_L_1313 ?_
  refine V_callVri (K' := K_X11_weight) (a := 0) (ci := 11) (av := [iv_i (sx_ xs j 1), iv_i (sx_ xs j 2)]) (rest := []) (F := some) yi_X11_weight (by decide) rfl C yk_X11_weight l1_L_143 (by decide) d_L_1314 (fun v hv => ct_X11_weight 0 (sx_ xs j 1) (sx_ xs j 2) (ok_I _) (ok_I _) hv) rfl rfl (Nat.le_of_ble_eq_true rfl) (vb_x h1) (fun v ok_r hv => ?_)
  cases hv
  refine V_aload_n (j := 2) C d_L_1317 rfl rfl ?_
  refine V_arg (k := 1) C hX (by omega) rfl (by decide) d_L_1318 d_L_1319 d_L_1321 d_L_1322 d_L_1323 ?_
  refine V_arg (k := 2) C hX (by omega) rfl (by decide) d_L_1324 d_L_1325 d_L_1327 d_L_1328 d_L_1329 ?_
  refine V_callVwi (K' := K_X12_weight) (a := 592) (ci := 12) (av := [iv_i (sx_ xs j 1), iv_i (sx_ xs j 2)]) (rest := [iv_i r]) (F := some) yi_X12_weight (by decide) rfl C yk_X12_weight l1_L_146 (by decide) d_L_1330 (fun v hv => ct_X12_weight 592 (sx_ xs j 1) (sx_ xs j 2) (ok_I _) (ok_I _) hv) rfl rfl (Nat.le_of_ble_eq_true rfl) (vb_m h2) (fun v ok_r hv => ?_)
  cases hv
  exact V_same C ok_r d_L_1333 (by decide) (kk M2 h3)
set_option maxHeartbeats 4000000 in
set_option maxRecDepth 100000 in
theorem law_30 {X : XT_x} {B : Nat} {D : va_G} {ca : Nat → ClassId} {Q : State → Prop} {M : Mem_m} {R : Mem_m → Prop} {b L j : Nat} {xs : Nat → Int32} (C : Cx_ K_L X (G0_ B D ca)) (hX : Lx_ X b L xs) (hj : 6 * j + 6 ≤ L) (hs : sim_30 R) (hR : R M) (kk : ∀ M2, R M2 → V_ K_L X (G0_ B D ca) Q M2 1726 (LV_ B b j) []) : V_ K_L X (G0_ B D ca) Q M 1338 (LV_ B b j) [] := by
  refine V_m (fun hok => ?_)
  obtain ⟨r, M1, M2, h1, h2, h3⟩ := hs M hok hR
  refine V_aload_n (j := 3) C d_L_1338 rfl rfl ?_
  refine V_callVwi (K' := K_X11_image) (a := 0) (ci := 11) (av := []) (rest := []) (F := some) yi_X11_image (by decide) rfl C yk_X11_image l1_L_147 (by decide) d_L_1339 (fun v hv => ct_X11_image 0  hv) rfl rfl (Nat.le_of_ble_eq_true rfl) (vb_x h1) (fun v ok_r hv => ?_)
  cases hv
  refine V_aload_n (j := 2) C d_L_1342 rfl rfl ?_
  refine V_callVwi (K' := K_X12_image) (a := 592) (ci := 12) (av := []) (rest := [iv_i r]) (F := some) yi_X12_image (by decide) rfl C yk_X12_image l1_L_151 (by decide) d_L_1343 (fun v hv => ct_X12_image 592  hv) rfl rfl (Nat.le_of_ble_eq_true rfl) (vb_m h2) (fun v ok_r hv => ?_)
  cases hv
  exact V_same C ok_r d_L_1346 (by decide) (kk M2 h3)
set_option maxHeartbeats 4000000 in
set_option maxRecDepth 100000 in
theorem law_31 {X : XT_x} {B : Nat} {D : va_G} {ca : Nat → ClassId} {Q : State → Prop} {M : Mem_m} {R : Mem_m → Prop} {b L j : Nat} {xs : Nat → Int32} (C : Cx_ K_L X (G0_ B D ca)) (hX : Lx_ X b L xs) (hj : 6 * j + 6 ≤ L) (hs : sim_31 R) (hR : R M) (kk : ∀ M2, R M2 → V_ K_L X (G0_ B D ca) Q M2 1726 (LV_ B b j) []) : V_ K_L X (G0_ B D ca) Q M 1351 (LV_ B b j) [] := by
  refine V_m (fun hok => ?_)
  obtain ⟨r, M1, M2, h1, h2, h3⟩ := hs M hok hR
  refine V_aload_n (j := 3) C d_L_1351 rfl rfl ?_
  refine V_callVwi (K' := K_X11_restore) (a := 0) (ci := 11) (av := []) (rest := []) (F := some) yi_X11_restore (by decide) rfl C yk_X11_restore l1_L_152 (by decide) d_L_1352 (fun v hv => ct_X11_restore 0  hv) rfl rfl (Nat.le_of_ble_eq_true rfl) (vb_x h1) (fun v ok_r hv => ?_)
  cases hv
  refine V_aload_n (j := 2) C d_L_1355 rfl rfl ?_
  refine V_callVwi (K' := K_X12_restore) (a := 592) (ci := 12) (av := []) (rest := [iv_i r]) (F := some) yi_X12_restore (by decide) rfl C yk_X12_restore l1_L_155 (by decide) d_L_1356 (fun v hv => ct_X12_restore 592  hv) rfl rfl (Nat.le_of_ble_eq_true rfl) (vb_m h2) (fun v ok_r hv => ?_)
  cases hv
  exact V_same C ok_r d_L_1359 (by decide) (kk M2 h3)
set_option maxHeartbeats 4000000 in
set_option maxRecDepth 100000 in
theorem law_32 {X : XT_x} {B : Nat} {D : va_G} {ca : Nat → ClassId} {Q : State → Prop} {M : Mem_m} {R : Mem_m → Prop} {b L j : Nat} {xs : Nat → Int32} (C : Cx_ K_L X (G0_ B D ca)) (hX : Lx_ X b L xs) (hj : 6 * j + 6 ≤ L) (hs : sim_32 R) (hR : R M) (kk : ∀ M2, R M2 → V_ K_L X (G0_ B D ca) Q M2 1726 (LV_ B b j) []) : V_ K_L X (G0_ B D ca) Q M 1364 (LV_ B b j) [] := by
  refine V_m (fun hok => ?_)
  obtain ⟨r, M1, M2, h1, h2, h3⟩ := hs M (sx_ xs j 1) (ok_I _) hok hR
  refine V_aload_n (j := 3) C d_L_1364 rfl rfl ?_
  refine V_arg (k := 1) C hX (by omega) rfl (by decide) d_L_1365 d_L_1366 d_L_1368 d_L_1369 d_L_1370 ?_
  refine V_callVwi (K' := K_X11_count) (a := 0) (ci := 11) (av := [iv_i (sx_ xs j 1)]) (rest := []) (F := some) yi_X11_count (by decide) rfl C yk_X11_count l1_L_156 (by decide) d_L_1371 (fun v hv => ct_X11_count 0 (sx_ xs j 1) (ok_I _) hv) rfl rfl (Nat.le_of_ble_eq_true rfl) (vb_x h1) (fun v ok_r hv => ?_)
  cases hv
  refine V_aload_n (j := 2) C d_L_1374 rfl rfl ?_
  refine V_arg (k := 1) C hX (by omega) rfl (by decide) d_L_1375 d_L_1376 d_L_1378 d_L_1379 d_L_1380 ?_
  refine V_callVwi (K' := K_X12_count) (a := 592) (ci := 12) (av := [iv_i (sx_ xs j 1)]) (rest := [iv_i r]) (F := some) yi_X12_count (by decide) rfl C yk_X12_count l1_L_159 (by decide) d_L_1381 (fun v hv => ct_X12_count 592 (sx_ xs j 1) (ok_I _) hv) rfl rfl (Nat.le_of_ble_eq_true rfl) (vb_m h2) (fun v ok_r hv => ?_)
  cases hv
  exact V_same C ok_r d_L_1384 (by decide) (kk M2 h3)
set_option maxHeartbeats 4000000 in
set_option maxRecDepth 100000 in
theorem law_33 {X : XT_x} {B : Nat} {D : va_G} {ca : Nat → ClassId} {Q : State → Prop} {M : Mem_m} {R : Mem_m → Prop} {b L j : Nat} {xs : Nat → Int32} (C : Cx_ K_L X (G0_ B D ca)) (hX : Lx_ X b L xs) (hj : 6 * j + 6 ≤ L) (hs : sim_33 R) (hR : R M) (kk : ∀ M2, R M2 → V_ K_L X (G0_ B D ca) Q M2 1726 (LV_ B b j) []) : V_ K_L X (G0_ B D ca) Q M 1389 (LV_ B b j) [] := by
  refine V_m (fun hok => ?_)
  obtain ⟨r, M1, M2, h1, h2, h3⟩ := hs M (sx_ xs j 1) (sx_ xs j 2) (sx_ xs j 3) (ok_I _) (ok_I _) (ok_I _) hok hR
  refine V_aload_n (j := 3) C d_L_1389 rfl rfl ?_
  refine V_arg (k := 1) C hX (by omega) rfl (by decide) d_L_1390 d_L_1391 d_L_1393 d_L_1394 d_L_1395 ?_
  refine V_arg (k := 2) C hX (by omega) rfl (by decide) d_L_1396 d_L_1397 d_L_1399 d_L_1400 d_L_1401 ?_
  refine V_arg (k := 3) C hX (by omega) rfl (by decide) d_L_1402 d_L_1403 d_L_1405 d_L_1406 d_L_1407 ?_
  refine V_callVwi (K' := K_X11_keep) (a := 0) (ci := 11) (av := [iv_i (sx_ xs j 1), iv_i (sx_ xs j 2), iv_i (sx_ xs j 3)]) (rest := []) (F := some) yi_X11_keep (by decide) rfl C yk_X11_keep l1_L_160 (by decide) d_L_1408 (fun v hv => ct_X11_keep 0 (sx_ xs j 1) (sx_ xs j 2) (sx_ xs j 3) (ok_I _) (ok_I _) (ok_I _) hv) rfl rfl (Nat.le_of_ble_eq_true rfl) (vb_x h1) (fun v ok_r hv => ?_)
  cases hv
  refine V_aload_n (j := 2) C d_L_1411 rfl rfl ?_
  refine V_arg (k := 1) C hX (by omega) rfl (by decide) d_L_1412 d_L_1413 d_L_1415 d_L_1416 d_L_1417 ?_
  refine V_arg (k := 2) C hX (by omega) rfl (by decide) d_L_1418 d_L_1419 d_L_1421 d_L_1422 d_L_1423 ?_
  refine V_arg (k := 3) C hX (by omega) rfl (by decide) d_L_1424 d_L_1425 d_L_1427 d_L_1428 d_L_1429 ?_
  refine V_callVwi (K' := K_X12_keep) (a := 592) (ci := 12) (av := [iv_i (sx_ xs j 1), iv_i (sx_ xs j 2), iv_i (sx_ xs j 3)]) (rest := [iv_i r]) (F := some) yi_X12_keep (by decide) rfl C yk_X12_keep l1_L_163 (by decide) d_L_1430 (fun v hv => ct_X12_keep 592 (sx_ xs j 1) (sx_ xs j 2) (sx_ xs j 3) (ok_I _) (ok_I _) (ok_I _) hv) rfl rfl (Nat.le_of_ble_eq_true rfl) (vb_m h2) (fun v ok_r hv => ?_)
  cases hv
  exact V_same C ok_r d_L_1433 (by decide) (kk M2 h3)
set_option maxHeartbeats 4000000 in
set_option maxRecDepth 100000 in
theorem law_34 {X : XT_x} {B : Nat} {D : va_G} {ca : Nat → ClassId} {Q : State → Prop} {M : Mem_m} {R : Mem_m → Prop} {b L j : Nat} {xs : Nat → Int32} (C : Cx_ K_L X (G0_ B D ca)) (hX : Lx_ X b L xs) (hj : 6 * j + 6 ≤ L) (hs : sim_34 R) (hR : R M) (kk : ∀ M2, R M2 → V_ K_L X (G0_ B D ca) Q M2 1726 (LV_ B b j) []) : V_ K_L X (G0_ B D ca) Q M 1438 (LV_ B b j) [] := by
  refine V_m (fun hok => ?_)
  obtain ⟨r, M1, M2, h1, h2, h3⟩ := hs M (sx_ xs j 1) (sx_ xs j 2) (sx_ xs j 3) (ok_I _) (ok_I _) (ok_I _) hok hR
  refine V_aload_n (j := 3) C d_L_1438 rfl rfl ?_
  refine V_arg (k := 1) C hX (by omega) rfl (by decide) d_L_1439 d_L_1440 d_L_1442 d_L_1443 d_L_1444 ?_
  refine V_arg (k := 2) C hX (by omega) rfl (by decide) d_L_1445 d_L_1446 d_L_1448 d_L_1449 d_L_1450 ?_
  refine V_arg (k := 3) C hX (by omega) rfl (by decide) d_L_1451 d_L_1452 d_L_1454 d_L_1455 d_L_1456 ?_
  refine V_callVwi (K' := K_X11_row) (a := 0) (ci := 11) (av := [iv_i (sx_ xs j 1), iv_i (sx_ xs j 2), iv_i (sx_ xs j 3)]) (rest := []) (F := some) yi_X11_row (by decide) rfl C yk_X11_row l1_L_164 (by decide) d_L_1457 (fun v hv => ct_X11_row 0 (sx_ xs j 1) (sx_ xs j 2) (sx_ xs j 3) (ok_I _) (ok_I _) (ok_I _) hv) rfl rfl (Nat.le_of_ble_eq_true rfl) (vb_x h1) (fun v ok_r hv => ?_)
  cases hv
  refine V_aload_n (j := 2) C d_L_1460 rfl rfl ?_
  refine V_arg (k := 1) C hX (by omega) rfl (by decide) d_L_1461 d_L_1462 d_L_1464 d_L_1465 d_L_1466 ?_
  refine V_arg (k := 2) C hX (by omega) rfl (by decide) d_L_1467 d_L_1468 d_L_1470 d_L_1471 d_L_1472 ?_
  refine V_arg (k := 3) C hX (by omega) rfl (by decide) d_L_1473 d_L_1474 d_L_1476 d_L_1477 d_L_1478 ?_
  refine V_callVwi (K' := K_X12_row) (a := 592) (ci := 12) (av := [iv_i (sx_ xs j 1), iv_i (sx_ xs j 2), iv_i (sx_ xs j 3)]) (rest := [iv_i r]) (F := some) yi_X12_row (by decide) rfl C yk_X12_row l1_L_167 (by decide) d_L_1479 (fun v hv => ct_X12_row 592 (sx_ xs j 1) (sx_ xs j 2) (sx_ xs j 3) (ok_I _) (ok_I _) (ok_I _) hv) rfl rfl (Nat.le_of_ble_eq_true rfl) (vb_m h2) (fun v ok_r hv => ?_)
  cases hv
  exact V_same C ok_r d_L_1482 (by decide) (kk M2 h3)
set_option maxHeartbeats 4000000 in
set_option maxRecDepth 100000 in
theorem law_35 {X : XT_x} {B : Nat} {D : va_G} {ca : Nat → ClassId} {Q : State → Prop} {M : Mem_m} {R : Mem_m → Prop} {b L j : Nat} {xs : Nat → Int32} (C : Cx_ K_L X (G0_ B D ca)) (hX : Lx_ X b L xs) (hj : 6 * j + 6 ≤ L) (hs : sim_35 R) (hR : R M) (kk : ∀ M2, R M2 → V_ K_L X (G0_ B D ca) Q M2 1726 (LV_ B b j) []) : V_ K_L X (G0_ B D ca) Q M 1487 (LV_ B b j) [] := by
  refine V_m (fun hok => ?_)
  obtain ⟨r, M1, M2, h1, h2, h3⟩ := hs M (sx_ xs j 1) (sx_ xs j 2) (sx_ xs j 3) (ok_I _) (ok_I _) (ok_I _) hok hR
  refine V_aload_n (j := 3) C d_L_1487 rfl rfl ?_
  refine V_arg (k := 1) C hX (by omega) rfl (by decide) d_L_1488 d_L_1489 d_L_1491 d_L_1492 d_L_1493 ?_
  refine V_arg (k := 2) C hX (by omega) rfl (by decide) d_L_1494 d_L_1495 d_L_1497 d_L_1498 d_L_1499 ?_
  refine V_arg (k := 3) C hX (by omega) rfl (by decide) d_L_1500 d_L_1501 d_L_1503 d_L_1504 d_L_1505 ?_
  refine V_callVwi (K' := K_X11_put) (a := 0) (ci := 11) (av := [iv_i (sx_ xs j 1), iv_i (sx_ xs j 2), iv_i (sx_ xs j 3)]) (rest := []) (F := some) yi_X11_put (by decide) rfl C yk_X11_put l1_L_168 (by decide) d_L_1506 (fun v hv => ct_X11_put 0 (sx_ xs j 1) (sx_ xs j 2) (sx_ xs j 3) (ok_I _) (ok_I _) (ok_I _) hv) rfl rfl (Nat.le_of_ble_eq_true rfl) (vb_x h1) (fun v ok_r hv => ?_)
  cases hv
  refine V_aload_n (j := 2) C d_L_1509 rfl rfl ?_
  refine V_arg (k := 1) C hX (by omega) rfl (by decide) d_L_1510 d_L_1511 d_L_1513 d_L_1514 d_L_1515 ?_
  refine V_arg (k := 2) C hX (by omega) rfl (by decide) d_L_1516 d_L_1517 d_L_1519 d_L_1520 d_L_1521 ?_
  refine V_arg (k := 3) C hX (by omega) rfl (by decide) d_L_1522 d_L_1523 d_L_1525 d_L_1526 d_L_1527 ?_
  refine V_callVwi (K' := K_X12_put) (a := 592) (ci := 12) (av := [iv_i (sx_ xs j 1), iv_i (sx_ xs j 2), iv_i (sx_ xs j 3)]) (rest := [iv_i r]) (F := some) yi_X12_put (by decide) rfl C yk_X12_put l1_L_171 (by decide) d_L_1528 (fun v hv => ct_X12_put 592 (sx_ xs j 1) (sx_ xs j 2) (sx_ xs j 3) (ok_I _) (ok_I _) (ok_I _) hv) rfl rfl (Nat.le_of_ble_eq_true rfl) (vb_m h2) (fun v ok_r hv => ?_)
  cases hv
  exact V_same C ok_r d_L_1531 (by decide) (kk M2 h3)
set_option maxHeartbeats 4000000 in
set_option maxRecDepth 100000 in
theorem law_37 {X : XT_x} {B : Nat} {D : va_G} {ca : Nat → ClassId} {Q : State → Prop} {M : Mem_m} {R : Mem_m → Prop} {b L j : Nat} {xs : Nat → Int32} (C : Cx_ K_L X (G0_ B D ca)) (hX : Lx_ X b L xs) (hj : 6 * j + 6 ≤ L) (hs : sim_37 R) (hR : R M) (kk : ∀ M2, R M2 → V_ K_L X (G0_ B D ca) Q M2 1726 (LV_ B b j) []) : V_ K_L X (G0_ B D ca) Q M 1603 (LV_ B b j) [] := by
  refine V_m (fun hok => ?_)
  obtain ⟨r, M1, M2, h1, h2, h3⟩ := hs M (sx_ xs j 1) (sx_ xs j 2) (sx_ xs j 3) (sx_ xs j 4) (sx_ xs j 5) (ok_I _) (ok_I _) (ok_I _) (ok_I _) (ok_I _) hok hR
  refine V_aload_n (j := 3) C d_L_1603 rfl rfl ?_
  refine V_arg (k := 1) C hX (by omega) rfl (by decide) d_L_1604 d_L_1605 d_L_1607 d_L_1608 d_L_1609 ?_
  refine V_arg (k := 2) C hX (by omega) rfl (by decide) d_L_1610 d_L_1611 d_L_1613 d_L_1614 d_L_1615 ?_
  refine V_arg (k := 3) C hX (by omega) rfl (by decide) d_L_1616 d_L_1617 d_L_1619 d_L_1620 d_L_1621 ?_
  refine V_arg (k := 4) C hX (by omega) rfl (by decide) d_L_1622 d_L_1623 d_L_1625 d_L_1626 d_L_1627 ?_
  refine V_arg (k := 5) C hX (by omega) rfl (by decide) d_L_1628 d_L_1629 d_L_1631 d_L_1632 d_L_1633 ?_
  refine V_callVwi (K' := K_X11_copy) (a := 0) (ci := 11) (av := [iv_i (sx_ xs j 1), iv_i (sx_ xs j 2), iv_i (sx_ xs j 3), iv_i (sx_ xs j 4), iv_i (sx_ xs j 5)]) (rest := []) (F := some) yi_X11_copy (by decide) rfl C yk_X11_copy l1_L_181 (by decide) d_L_1634 (fun v hv => ct_X11_copy 0 (sx_ xs j 1) (sx_ xs j 2) (sx_ xs j 3) (sx_ xs j 4) (sx_ xs j 5) (ok_I _) (ok_I _) (ok_I _) (ok_I _) (ok_I _) hv) rfl rfl (Nat.le_of_ble_eq_true rfl) (vb_x h1) (fun v ok_r hv => ?_)
  cases hv
  refine V_aload_n (j := 2) C d_L_1637 rfl rfl ?_
  refine V_arg (k := 1) C hX (by omega) rfl (by decide) d_L_1638 d_L_1639 d_L_1641 d_L_1642 d_L_1643 ?_
  refine V_arg (k := 2) C hX (by omega) rfl (by decide) d_L_1644 d_L_1645 d_L_1647 d_L_1648 d_L_1649 ?_
  refine V_arg (k := 3) C hX (by omega) rfl (by decide) d_L_1650 d_L_1651 d_L_1653 d_L_1654 d_L_1655 ?_
  refine V_arg (k := 4) C hX (by omega) rfl (by decide) d_L_1656 d_L_1657 d_L_1659 d_L_1660 d_L_1661 ?_
  refine V_arg (k := 5) C hX (by omega) rfl (by decide) d_L_1662 d_L_1663 d_L_1665 d_L_1666 d_L_1667 ?_
  refine V_callVwi (K' := K_X12_copy) (a := 592) (ci := 12) (av := [iv_i (sx_ xs j 1), iv_i (sx_ xs j 2), iv_i (sx_ xs j 3), iv_i (sx_ xs j 4), iv_i (sx_ xs j 5)]) (rest := [iv_i r]) (F := some) yi_X12_copy (by decide) rfl C yk_X12_copy l1_L_185 (by decide) d_L_1668 (fun v hv => ct_X12_copy 592 (sx_ xs j 1) (sx_ xs j 2) (sx_ xs j 3) (sx_ xs j 4) (sx_ xs j 5) (ok_I _) (ok_I _) (ok_I _) (ok_I _) (ok_I _) hv) rfl rfl (Nat.le_of_ble_eq_true rfl) (vb_m h2) (fun v ok_r hv => ?_)
  cases hv
  exact V_same C ok_r d_L_1671 (by decide) (kk M2 h3)
set_option maxHeartbeats 4000000 in
set_option maxRecDepth 100000 in
theorem law_38 {X : XT_x} {B : Nat} {D : va_G} {ca : Nat → ClassId} {Q : State → Prop} {M : Mem_m} {R : Mem_m → Prop} {b L j : Nat} {xs : Nat → Int32} (C : Cx_ K_L X (G0_ B D ca)) (hX : Lx_ X b L xs) (hj : 6 * j + 6 ≤ L) (hs : sim_38 R) (hR : R M) (kk : ∀ M2, R M2 → V_ K_L X (G0_ B D ca) Q M2 1726 (LV_ B b j) []) : V_ K_L X (G0_ B D ca) Q M 1676 (LV_ B b j) [] := by
  refine V_m (fun hok => ?_)
  obtain ⟨r, h1, h2⟩ := hs M (sx_ xs j 1) (ok_I _) hok hR
  refine V_aload_n (j := 3) C d_L_1676 rfl rfl ?_
  refine V_arg (k := 1) C hX (by omega) rfl (by decide) d_L_1677 d_L_1678 d_L_1680 d_L_1681 d_L_1682 ?_
  refine V_callVri (K' := K_X11_length) (a := 0) (ci := 11) (av := [iv_i (sx_ xs j 1)]) (rest := []) (F := some) yi_X11_length (by decide) rfl C yk_X11_length l1_L_186 (by decide) d_L_1683 (fun v hv => ct_X11_length 0 (sx_ xs j 1) (ok_I _) hv) rfl rfl (Nat.le_of_ble_eq_true rfl) (vb_x h1) (fun v ok_r hv => ?_)
  cases hv
  refine V_aload_n (j := 2) C d_L_1686 rfl rfl ?_
  refine V_arg (k := 1) C hX (by omega) rfl (by decide) d_L_1687 d_L_1688 d_L_1690 d_L_1691 d_L_1692 ?_
  refine V_callVri (K' := K_X12_length) (a := 592) (ci := 12) (av := [iv_i (sx_ xs j 1)]) (rest := [iv_i r]) (F := some) yi_X12_length (by decide) rfl C yk_X12_length l1_L_189 (by decide) d_L_1693 (fun v hv => ct_X12_length 592 (sx_ xs j 1) (ok_I _) hv) rfl rfl (Nat.le_of_ble_eq_true rfl) (vb_m h2) (fun v ok_r hv => ?_)
  cases hv
  exact V_same C ok_r d_L_1696 (by decide) (kk M hR)
set_option maxHeartbeats 4000000 in
set_option maxRecDepth 100000 in
theorem law_39 {X : XT_x} {B : Nat} {D : va_G} {ca : Nat → ClassId} {Q : State → Prop} {M : Mem_m} {R : Mem_m → Prop} {b L j : Nat} {xs : Nat → Int32} (C : Cx_ K_L X (G0_ B D ca)) (hX : Lx_ X b L xs) (hj : 6 * j + 6 ≤ L) (hs : sim_39 R) (hR : R M) (kk : ∀ M2, R M2 → V_ K_L X (G0_ B D ca) Q M2 1726 (LV_ B b j) []) : V_ K_L X (G0_ B D ca) Q M 1701 (LV_ B b j) [] := by
  refine V_m (fun hok => ?_)
  obtain ⟨r, h1, h2⟩ := hs M (sx_ xs j 1) (ok_I _) hok hR
  refine V_aload_n (j := 3) C d_L_1701 rfl rfl ?_
  refine V_arg (k := 1) C hX (by omega) rfl (by decide) d_L_1702 d_L_1703 d_L_1705 d_L_1706 d_L_1707 ?_
  refine V_callVri (K' := K_X11_toss) (a := 0) (ci := 11) (av := [iv_i (sx_ xs j 1)]) (rest := []) (F := some) yi_X11_toss (by decide) rfl C yk_X11_toss l1_L_190 (by decide) d_L_1708 (fun v hv => ct_X11_toss 0 (sx_ xs j 1) (ok_I _) hv) rfl rfl (Nat.le_of_ble_eq_true rfl) (vb_x h1) (fun v ok_r hv => ?_)
  cases hv
  refine V_aload_n (j := 2) C d_L_1711 rfl rfl ?_
  refine V_arg (k := 1) C hX (by omega) rfl (by decide) d_L_1712 d_L_1713 d_L_1715 d_L_1716 d_L_1717 ?_
  refine V_callVri (K' := K_X12_toss) (a := 592) (ci := 12) (av := [iv_i (sx_ xs j 1)]) (rest := [iv_i r]) (F := some) yi_X12_toss (by decide) rfl C yk_X12_toss l1_L_193 (by decide) d_L_1718 (fun v hv => ct_X12_toss 592 (sx_ xs j 1) (ok_I _) hv) rfl rfl (Nat.le_of_ble_eq_true rfl) (vb_m h2) (fun v ok_r hv => ?_)
  cases hv
  exact V_same C ok_r d_L_1721 (by decide) (kk M hR)
