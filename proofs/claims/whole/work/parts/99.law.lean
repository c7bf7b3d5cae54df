theorem dL_law_0 : decode cL_law 0 = .ok (.new 7, 3) := by decide +kernel
theorem dL_law_3 : decode cL_law 3 = .ok (.dup, 1) := by decide +kernel
theorem dL_law_4 : decode cL_law 4 = .ok (.invokespecial 9, 3) := by decide +kernel
theorem dL_law_7 : decode cL_law 7 = .ok (.astore_n 1, 1) := by decide +kernel
theorem dL_law_8 : decode cL_law 8 = .ok (.new 10, 3) := by decide +kernel
theorem dL_law_11 : decode cL_law 11 = .ok (.dup, 1) := by decide +kernel
theorem dL_law_12 : decode cL_law 12 = .ok (.invokespecial 12, 3) := by decide +kernel
theorem dL_law_15 : decode cL_law 15 = .ok (.astore_n 2, 1) := by decide +kernel
theorem dL_law_16 : decode cL_law 16 = .ok (.iconst 0, 1) := by decide +kernel
theorem dL_law_17 : decode cL_law 17 = .ok (.istore_n 3, 1) := by decide +kernel
theorem dL_law_18 : decode cL_law 18 = .ok (.iload_n 3, 1) := by decide +kernel
theorem dL_law_19 : decode cL_law 19 = .ok (.aload_n 0, 1) := by decide +kernel
theorem dL_law_20 : decode cL_law 20 = .ok (.arraylength, 1) := by decide +kernel
theorem dL_law_21 : decode cL_law 21 = .ok (.bipush 6, 2) := by decide +kernel
theorem dL_law_23 : decode cL_law 23 = .ok (.isub, 1) := by decide +kernel
theorem dL_law_24 : decode cL_law 24 = .ok (.if_icmp .gt 1575, 3) := by decide +kernel
theorem dL_law_27 : decode cL_law 27 = .ok (.aload_n 0, 1) := by decide +kernel
theorem dL_law_28 : decode cL_law 28 = .ok (.iload_n 3, 1) := by decide +kernel
theorem dL_law_29 : decode cL_law 29 = .ok (.iaload, 1) := by decide +kernel
theorem dL_law_30 : decode cL_law 30 = .ok (.bipush 63, 2) := by decide +kernel
theorem dL_law_32 : decode cL_law 32 = .ok (.iand, 1) := by decide +kernel
theorem dL_law_33 : decode cL_law 33 = .ok (.tableswitch 1560 0 44 #[195, 258, 291, 324, 357, 400, 423, 456, 499, 522, 555, 578, 601, 624, 647, 670, 703, 736, 759, 792, 825, 858, 901, 924, 957, 970, 993, 1036, 1059, 1072, 1105, 1128, 1171, 1214, 1237, 1260, 1323, 1366, 1399, 1432, 1465, 1488, 1511, 1524, 1537], 195) := by decide +kernel
theorem dL_law_228 : decode cL_law 228 = .ok (.aload_n 1, 1) := by decide +kernel
theorem dL_law_229 : decode cL_law 229 = .ok (.aload_n 0, 1) := by decide +kernel
theorem dL_law_230 : decode cL_law 230 = .ok (.iload_n 3, 1) := by decide +kernel
theorem dL_law_231 : decode cL_law 231 = .ok (.iconst 1, 1) := by decide +kernel
theorem dL_law_232 : decode cL_law 232 = .ok (.iadd, 1) := by decide +kernel
theorem dL_law_233 : decode cL_law 233 = .ok (.iaload, 1) := by decide +kernel
theorem dL_law_234 : decode cL_law 234 = .ok (.aload_n 0, 1) := by decide +kernel
theorem dL_law_235 : decode cL_law 235 = .ok (.iload_n 3, 1) := by decide +kernel
theorem dL_law_236 : decode cL_law 236 = .ok (.iconst 2, 1) := by decide +kernel
theorem dL_law_237 : decode cL_law 237 = .ok (.iadd, 1) := by decide +kernel
theorem dL_law_238 : decode cL_law 238 = .ok (.iaload, 1) := by decide +kernel
theorem dL_law_239 : decode cL_law 239 = .ok (.aload_n 0, 1) := by decide +kernel
theorem dL_law_240 : decode cL_law 240 = .ok (.iload_n 3, 1) := by decide +kernel
theorem dL_law_241 : decode cL_law 241 = .ok (.iconst 3, 1) := by decide +kernel
theorem dL_law_242 : decode cL_law 242 = .ok (.iadd, 1) := by decide +kernel
theorem dL_law_243 : decode cL_law 243 = .ok (.iaload, 1) := by decide +kernel
theorem dL_law_244 : decode cL_law 244 = .ok (.aload_n 0, 1) := by decide +kernel
theorem dL_law_245 : decode cL_law 245 = .ok (.iload_n 3, 1) := by decide +kernel
theorem dL_law_246 : decode cL_law 246 = .ok (.iconst 4, 1) := by decide +kernel
theorem dL_law_247 : decode cL_law 247 = .ok (.iadd, 1) := by decide +kernel
theorem dL_law_248 : decode cL_law 248 = .ok (.iaload, 1) := by decide +kernel
theorem dL_law_249 : decode cL_law 249 = .ok (.aload_n 0, 1) := by decide +kernel
theorem dL_law_250 : decode cL_law 250 = .ok (.iload_n 3, 1) := by decide +kernel
theorem dL_law_251 : decode cL_law 251 = .ok (.iconst 5, 1) := by decide +kernel
theorem dL_law_252 : decode cL_law 252 = .ok (.iadd, 1) := by decide +kernel
theorem dL_law_253 : decode cL_law 253 = .ok (.iaload, 1) := by decide +kernel
theorem dL_law_254 : decode cL_law 254 = .ok (.invokevirtual 13, 3) := by decide +kernel
theorem dL_law_257 : decode cL_law 257 = .ok (.aload_n 2, 1) := by decide +kernel
theorem dL_law_258 : decode cL_law 258 = .ok (.aload_n 0, 1) := by decide +kernel
theorem dL_law_259 : decode cL_law 259 = .ok (.iload_n 3, 1) := by decide +kernel
theorem dL_law_260 : decode cL_law 260 = .ok (.iconst 1, 1) := by decide +kernel
theorem dL_law_261 : decode cL_law 261 = .ok (.iadd, 1) := by decide +kernel
theorem dL_law_262 : decode cL_law 262 = .ok (.iaload, 1) := by decide +kernel
theorem dL_law_263 : decode cL_law 263 = .ok (.aload_n 0, 1) := by decide +kernel
theorem dL_law_264 : decode cL_law 264 = .ok (.iload_n 3, 1) := by decide +kernel
theorem dL_law_265 : decode cL_law 265 = .ok (.iconst 2, 1) := by decide +kernel
theorem dL_law_266 : decode cL_law 266 = .ok (.iadd, 1) := by decide +kernel
theorem dL_law_267 : decode cL_law 267 = .ok (.iaload, 1) := by decide +kernel
theorem dL_law_268 : decode cL_law 268 = .ok (.aload_n 0, 1) := by decide +kernel
theorem dL_law_269 : decode cL_law 269 = .ok (.iload_n 3, 1) := by decide +kernel
theorem dL_law_270 : decode cL_law 270 = .ok (.iconst 3, 1) := by decide +kernel
theorem dL_law_271 : decode cL_law 271 = .ok (.iadd, 1) := by decide +kernel
theorem dL_law_272 : decode cL_law 272 = .ok (.iaload, 1) := by decide +kernel
theorem dL_law_273 : decode cL_law 273 = .ok (.aload_n 0, 1) := by decide +kernel
theorem dL_law_274 : decode cL_law 274 = .ok (.iload_n 3, 1) := by decide +kernel
theorem dL_law_275 : decode cL_law 275 = .ok (.iconst 4, 1) := by decide +kernel
theorem dL_law_276 : decode cL_law 276 = .ok (.iadd, 1) := by decide +kernel
theorem dL_law_277 : decode cL_law 277 = .ok (.iaload, 1) := by decide +kernel
theorem dL_law_278 : decode cL_law 278 = .ok (.aload_n 0, 1) := by decide +kernel
theorem dL_law_279 : decode cL_law 279 = .ok (.iload_n 3, 1) := by decide +kernel
theorem dL_law_280 : decode cL_law 280 = .ok (.iconst 5, 1) := by decide +kernel
theorem dL_law_281 : decode cL_law 281 = .ok (.iadd, 1) := by decide +kernel
theorem dL_law_282 : decode cL_law 282 = .ok (.iaload, 1) := by decide +kernel
theorem dL_law_283 : decode cL_law 283 = .ok (.invokevirtual 17, 3) := by decide +kernel
theorem dL_law_286 : decode cL_law 286 = .ok (.if_icmp .eq 1307, 3) := by decide +kernel
theorem dL_law_289 : decode cL_law 289 = .ok (.iconst 0, 1) := by decide +kernel
theorem dL_law_290 : decode cL_law 290 = .ok (.ireturn, 1) := by decide +kernel
theorem dL_law_291 : decode cL_law 291 = .ok (.aload_n 1, 1) := by decide +kernel
theorem dL_law_292 : decode cL_law 292 = .ok (.aload_n 0, 1) := by decide +kernel
theorem dL_law_293 : decode cL_law 293 = .ok (.iload_n 3, 1) := by decide +kernel
theorem dL_law_294 : decode cL_law 294 = .ok (.iconst 1, 1) := by decide +kernel
theorem dL_law_295 : decode cL_law 295 = .ok (.iadd, 1) := by decide +kernel
theorem dL_law_296 : decode cL_law 296 = .ok (.iaload, 1) := by decide +kernel
theorem dL_law_297 : decode cL_law 297 = .ok (.aload_n 0, 1) := by decide +kernel
theorem dL_law_298 : decode cL_law 298 = .ok (.iload_n 3, 1) := by decide +kernel
theorem dL_law_299 : decode cL_law 299 = .ok (.iconst 2, 1) := by decide +kernel
theorem dL_law_300 : decode cL_law 300 = .ok (.iadd, 1) := by decide +kernel
theorem dL_law_301 : decode cL_law 301 = .ok (.iaload, 1) := by decide +kernel
theorem dL_law_302 : decode cL_law 302 = .ok (.invokevirtual 18, 3) := by decide +kernel
theorem dL_law_305 : decode cL_law 305 = .ok (.aload_n 2, 1) := by decide +kernel
theorem dL_law_306 : decode cL_law 306 = .ok (.aload_n 0, 1) := by decide +kernel
theorem dL_law_307 : decode cL_law 307 = .ok (.iload_n 3, 1) := by decide +kernel
theorem dL_law_308 : decode cL_law 308 = .ok (.iconst 1, 1) := by decide +kernel
theorem dL_law_309 : decode cL_law 309 = .ok (.iadd, 1) := by decide +kernel
theorem dL_law_310 : decode cL_law 310 = .ok (.iaload, 1) := by decide +kernel
theorem dL_law_311 : decode cL_law 311 = .ok (.aload_n 0, 1) := by decide +kernel
theorem dL_law_312 : decode cL_law 312 = .ok (.iload_n 3, 1) := by decide +kernel
theorem dL_law_313 : decode cL_law 313 = .ok (.iconst 2, 1) := by decide +kernel
theorem dL_law_314 : decode cL_law 314 = .ok (.iadd, 1) := by decide +kernel
theorem dL_law_315 : decode cL_law 315 = .ok (.iaload, 1) := by decide +kernel
theorem dL_law_316 : decode cL_law 316 = .ok (.invokevirtual 22, 3) := by decide +kernel
theorem dL_law_319 : decode cL_law 319 = .ok (.if_icmp .eq 1274, 3) := by decide +kernel
theorem dL_law_322 : decode cL_law 322 = .ok (.iconst 0, 1) := by decide +kernel
theorem dL_law_323 : decode cL_law 323 = .ok (.ireturn, 1) := by decide +kernel
theorem dL_law_324 : decode cL_law 324 = .ok (.aload_n 1, 1) := by decide +kernel
theorem dL_law_325 : decode cL_law 325 = .ok (.aload_n 0, 1) := by decide +kernel
theorem dL_law_326 : decode cL_law 326 = .ok (.iload_n 3, 1) := by decide +kernel
theorem dL_law_327 : decode cL_law 327 = .ok (.iconst 1, 1) := by decide +kernel
theorem dL_law_328 : decode cL_law 328 = .ok (.iadd, 1) := by decide +kernel
theorem dL_law_329 : decode cL_law 329 = .ok (.iaload, 1) := by decide +kernel
theorem dL_law_330 : decode cL_law 330 = .ok (.aload_n 0, 1) := by decide +kernel
theorem dL_law_331 : decode cL_law 331 = .ok (.iload_n 3, 1) := by decide +kernel
theorem dL_law_332 : decode cL_law 332 = .ok (.iconst 2, 1) := by decide +kernel
theorem dL_law_333 : decode cL_law 333 = .ok (.iadd, 1) := by decide +kernel
theorem dL_law_334 : decode cL_law 334 = .ok (.iaload, 1) := by decide +kernel
theorem dL_law_335 : decode cL_law 335 = .ok (.invokevirtual 23, 3) := by decide +kernel
theorem dL_law_338 : decode cL_law 338 = .ok (.aload_n 2, 1) := by decide +kernel
theorem dL_law_339 : decode cL_law 339 = .ok (.aload_n 0, 1) := by decide +kernel
theorem dL_law_340 : decode cL_law 340 = .ok (.iload_n 3, 1) := by decide +kernel
theorem dL_law_341 : decode cL_law 341 = .ok (.iconst 1, 1) := by decide +kernel
theorem dL_law_342 : decode cL_law 342 = .ok (.iadd, 1) := by decide +kernel
theorem dL_law_343 : decode cL_law 343 = .ok (.iaload, 1) := by decide +kernel
theorem dL_law_344 : decode cL_law 344 = .ok (.aload_n 0, 1) := by decide +kernel
theorem dL_law_345 : decode cL_law 345 = .ok (.iload_n 3, 1) := by decide +kernel
theorem dL_law_346 : decode cL_law 346 = .ok (.iconst 2, 1) := by decide +kernel
theorem dL_law_347 : decode cL_law 347 = .ok (.iadd, 1) := by decide +kernel
theorem dL_law_348 : decode cL_law 348 = .ok (.iaload, 1) := by decide +kernel
theorem dL_law_349 : decode cL_law 349 = .ok (.invokevirtual 26, 3) := by decide +kernel
theorem dL_law_352 : decode cL_law 352 = .ok (.if_icmp .eq 1241, 3) := by decide +kernel
theorem dL_law_355 : decode cL_law 355 = .ok (.iconst 0, 1) := by decide +kernel
theorem dL_law_356 : decode cL_law 356 = .ok (.ireturn, 1) := by decide +kernel
theorem dL_law_357 : decode cL_law 357 = .ok (.aload_n 1, 1) := by decide +kernel
theorem dL_law_358 : decode cL_law 358 = .ok (.aload_n 0, 1) := by decide +kernel
theorem dL_law_359 : decode cL_law 359 = .ok (.iload_n 3, 1) := by decide +kernel
theorem dL_law_360 : decode cL_law 360 = .ok (.iconst 1, 1) := by decide +kernel
theorem dL_law_361 : decode cL_law 361 = .ok (.iadd, 1) := by decide +kernel
theorem dL_law_362 : decode cL_law 362 = .ok (.iaload, 1) := by decide +kernel
theorem dL_law_363 : decode cL_law 363 = .ok (.aload_n 0, 1) := by decide +kernel
theorem dL_law_364 : decode cL_law 364 = .ok (.iload_n 3, 1) := by decide +kernel
theorem dL_law_365 : decode cL_law 365 = .ok (.iconst 2, 1) := by decide +kernel
theorem dL_law_366 : decode cL_law 366 = .ok (.iadd, 1) := by decide +kernel
theorem dL_law_367 : decode cL_law 367 = .ok (.iaload, 1) := by decide +kernel
theorem dL_law_368 : decode cL_law 368 = .ok (.invokevirtual 27, 3) := by decide +kernel
theorem dL_law_371 : decode cL_law 371 = .ok (.aload_n 2, 1) := by decide +kernel
theorem dL_law_372 : decode cL_law 372 = .ok (.aload_n 0, 1) := by decide +kernel
theorem dL_law_373 : decode cL_law 373 = .ok (.iload_n 3, 1) := by decide +kernel
theorem dL_law_374 : decode cL_law 374 = .ok (.iconst 1, 1) := by decide +kernel
theorem dL_law_375 : decode cL_law 375 = .ok (.iadd, 1) := by decide +kernel
theorem dL_law_376 : decode cL_law 376 = .ok (.iaload, 1) := by decide +kernel
theorem dL_law_377 : decode cL_law 377 = .ok (.aload_n 0, 1) := by decide +kernel
theorem dL_law_378 : decode cL_law 378 = .ok (.iload_n 3, 1) := by decide +kernel
theorem dL_law_379 : decode cL_law 379 = .ok (.iconst 2, 1) := by decide +kernel
theorem dL_law_380 : decode cL_law 380 = .ok (.iadd, 1) := by decide +kernel
theorem dL_law_381 : decode cL_law 381 = .ok (.iaload, 1) := by decide +kernel
theorem dL_law_382 : decode cL_law 382 = .ok (.invokevirtual 30, 3) := by decide +kernel
theorem dL_law_385 : decode cL_law 385 = .ok (.if_icmp .eq 1208, 3) := by decide +kernel
theorem dL_law_388 : decode cL_law 388 = .ok (.iconst 0, 1) := by decide +kernel
theorem dL_law_389 : decode cL_law 389 = .ok (.ireturn, 1) := by decide +kernel
theorem dL_law_390 : decode cL_law 390 = .ok (.aload_n 1, 1) := by decide +kernel
theorem dL_law_391 : decode cL_law 391 = .ok (.aload_n 0, 1) := by decide +kernel
theorem dL_law_392 : decode cL_law 392 = .ok (.iload_n 3, 1) := by decide +kernel
theorem dL_law_393 : decode cL_law 393 = .ok (.iconst 1, 1) := by decide +kernel
theorem dL_law_394 : decode cL_law 394 = .ok (.iadd, 1) := by decide +kernel
theorem dL_law_395 : decode cL_law 395 = .ok (.iaload, 1) := by decide +kernel
theorem dL_law_396 : decode cL_law 396 = .ok (.aload_n 0, 1) := by decide +kernel
theorem dL_law_397 : decode cL_law 397 = .ok (.iload_n 3, 1) := by decide +kernel
theorem dL_law_398 : decode cL_law 398 = .ok (.iconst 2, 1) := by decide +kernel
theorem dL_law_399 : decode cL_law 399 = .ok (.iadd, 1) := by decide +kernel
theorem dL_law_400 : decode cL_law 400 = .ok (.iaload, 1) := by decide +kernel
theorem dL_law_401 : decode cL_law 401 = .ok (.aload_n 0, 1) := by decide +kernel
theorem dL_law_402 : decode cL_law 402 = .ok (.iload_n 3, 1) := by decide +kernel
theorem dL_law_403 : decode cL_law 403 = .ok (.iconst 3, 1) := by decide +kernel
theorem dL_law_404 : decode cL_law 404 = .ok (.iadd, 1) := by decide +kernel
theorem dL_law_405 : decode cL_law 405 = .ok (.iaload, 1) := by decide +kernel
theorem dL_law_406 : decode cL_law 406 = .ok (.invokevirtual 31, 3) := by decide +kernel
theorem dL_law_409 : decode cL_law 409 = .ok (.aload_n 2, 1) := by decide +kernel
theorem dL_law_410 : decode cL_law 410 = .ok (.aload_n 0, 1) := by decide +kernel
theorem dL_law_411 : decode cL_law 411 = .ok (.iload_n 3, 1) := by decide +kernel
theorem dL_law_412 : decode cL_law 412 = .ok (.iconst 1, 1) := by decide +kernel
theorem dL_law_413 : decode cL_law 413 = .ok (.iadd, 1) := by decide +kernel
theorem dL_law_414 : decode cL_law 414 = .ok (.iaload, 1) := by decide +kernel
theorem dL_law_415 : decode cL_law 415 = .ok (.aload_n 0, 1) := by decide +kernel
theorem dL_law_416 : decode cL_law 416 = .ok (.iload_n 3, 1) := by decide +kernel
theorem dL_law_417 : decode cL_law 417 = .ok (.iconst 2, 1) := by decide +kernel
theorem dL_law_418 : decode cL_law 418 = .ok (.iadd, 1) := by decide +kernel
theorem dL_law_419 : decode cL_law 419 = .ok (.iaload, 1) := by decide +kernel
theorem dL_law_420 : decode cL_law 420 = .ok (.aload_n 0, 1) := by decide +kernel
theorem dL_law_421 : decode cL_law 421 = .ok (.iload_n 3, 1) := by decide +kernel
theorem dL_law_422 : decode cL_law 422 = .ok (.iconst 3, 1) := by decide +kernel
theorem dL_law_423 : decode cL_law 423 = .ok (.iadd, 1) := by decide +kernel
theorem dL_law_424 : decode cL_law 424 = .ok (.iaload, 1) := by decide +kernel
theorem dL_law_425 : decode cL_law 425 = .ok (.invokevirtual 35, 3) := by decide +kernel
theorem dL_law_428 : decode cL_law 428 = .ok (.if_icmp .eq 1165, 3) := by decide +kernel
theorem dL_law_431 : decode cL_law 431 = .ok (.iconst 0, 1) := by decide +kernel
theorem dL_law_432 : decode cL_law 432 = .ok (.ireturn, 1) := by decide +kernel
theorem dL_law_433 : decode cL_law 433 = .ok (.aload_n 1, 1) := by decide +kernel
theorem dL_law_434 : decode cL_law 434 = .ok (.aload_n 0, 1) := by decide +kernel
theorem dL_law_435 : decode cL_law 435 = .ok (.iload_n 3, 1) := by decide +kernel
theorem dL_law_436 : decode cL_law 436 = .ok (.iconst 1, 1) := by decide +kernel
theorem dL_law_437 : decode cL_law 437 = .ok (.iadd, 1) := by decide +kernel
theorem dL_law_438 : decode cL_law 438 = .ok (.iaload, 1) := by decide +kernel
theorem dL_law_439 : decode cL_law 439 = .ok (.invokevirtual 36, 3) := by decide +kernel
theorem dL_law_442 : decode cL_law 442 = .ok (.aload_n 2, 1) := by decide +kernel
theorem dL_law_443 : decode cL_law 443 = .ok (.aload_n 0, 1) := by decide +kernel
theorem dL_law_444 : decode cL_law 444 = .ok (.iload_n 3, 1) := by decide +kernel
theorem dL_law_445 : decode cL_law 445 = .ok (.iconst 1, 1) := by decide +kernel
theorem dL_law_446 : decode cL_law 446 = .ok (.iadd, 1) := by decide +kernel
theorem dL_law_447 : decode cL_law 447 = .ok (.iaload, 1) := by decide +kernel
theorem dL_law_448 : decode cL_law 448 = .ok (.invokevirtual 40, 3) := by decide +kernel
theorem dL_law_451 : decode cL_law 451 = .ok (.if_icmp .eq 1142, 3) := by decide +kernel
theorem dL_law_454 : decode cL_law 454 = .ok (.iconst 0, 1) := by decide +kernel
theorem dL_law_455 : decode cL_law 455 = .ok (.ireturn, 1) := by decide +kernel
theorem dL_law_456 : decode cL_law 456 = .ok (.aload_n 1, 1) := by decide +kernel
theorem dL_law_457 : decode cL_law 457 = .ok (.aload_n 0, 1) := by decide +kernel
theorem dL_law_458 : decode cL_law 458 = .ok (.iload_n 3, 1) := by decide +kernel
theorem dL_law_459 : decode cL_law 459 = .ok (.iconst 1, 1) := by decide +kernel
theorem dL_law_460 : decode cL_law 460 = .ok (.iadd, 1) := by decide +kernel
theorem dL_law_461 : decode cL_law 461 = .ok (.iaload, 1) := by decide +kernel
theorem dL_law_462 : decode cL_law 462 = .ok (.aload_n 0, 1) := by decide +kernel
theorem dL_law_463 : decode cL_law 463 = .ok (.iload_n 3, 1) := by decide +kernel
theorem dL_law_464 : decode cL_law 464 = .ok (.iconst 2, 1) := by decide +kernel
theorem dL_law_465 : decode cL_law 465 = .ok (.iadd, 1) := by decide +kernel
theorem dL_law_466 : decode cL_law 466 = .ok (.iaload, 1) := by decide +kernel
theorem dL_law_467 : decode cL_law 467 = .ok (.invokevirtual 41, 3) := by decide +kernel
theorem dL_law_470 : decode cL_law 470 = .ok (.aload_n 2, 1) := by decide +kernel
theorem dL_law_471 : decode cL_law 471 = .ok (.aload_n 0, 1) := by decide +kernel
theorem dL_law_472 : decode cL_law 472 = .ok (.iload_n 3, 1) := by decide +kernel
theorem dL_law_473 : decode cL_law 473 = .ok (.iconst 1, 1) := by decide +kernel
theorem dL_law_474 : decode cL_law 474 = .ok (.iadd, 1) := by decide +kernel
theorem dL_law_475 : decode cL_law 475 = .ok (.iaload, 1) := by decide +kernel
theorem dL_law_476 : decode cL_law 476 = .ok (.aload_n 0, 1) := by decide +kernel
theorem dL_law_477 : decode cL_law 477 = .ok (.iload_n 3, 1) := by decide +kernel
theorem dL_law_478 : decode cL_law 478 = .ok (.iconst 2, 1) := by decide +kernel
theorem dL_law_479 : decode cL_law 479 = .ok (.iadd, 1) := by decide +kernel
theorem dL_law_480 : decode cL_law 480 = .ok (.iaload, 1) := by decide +kernel
theorem dL_law_481 : decode cL_law 481 = .ok (.invokevirtual 44, 3) := by decide +kernel
theorem dL_law_484 : decode cL_law 484 = .ok (.if_icmp .eq 1109, 3) := by decide +kernel
theorem dL_law_487 : decode cL_law 487 = .ok (.iconst 0, 1) := by decide +kernel
theorem dL_law_488 : decode cL_law 488 = .ok (.ireturn, 1) := by decide +kernel
theorem dL_law_489 : decode cL_law 489 = .ok (.aload_n 1, 1) := by decide +kernel
theorem dL_law_490 : decode cL_law 490 = .ok (.aload_n 0, 1) := by decide +kernel
theorem dL_law_491 : decode cL_law 491 = .ok (.iload_n 3, 1) := by decide +kernel
theorem dL_law_492 : decode cL_law 492 = .ok (.iconst 1, 1) := by decide +kernel
theorem dL_law_493 : decode cL_law 493 = .ok (.iadd, 1) := by decide +kernel
theorem dL_law_494 : decode cL_law 494 = .ok (.iaload, 1) := by decide +kernel
theorem dL_law_495 : decode cL_law 495 = .ok (.aload_n 0, 1) := by decide +kernel
theorem dL_law_496 : decode cL_law 496 = .ok (.iload_n 3, 1) := by decide +kernel
theorem dL_law_497 : decode cL_law 497 = .ok (.iconst 2, 1) := by decide +kernel
theorem dL_law_498 : decode cL_law 498 = .ok (.iadd, 1) := by decide +kernel
theorem dL_law_499 : decode cL_law 499 = .ok (.iaload, 1) := by decide +kernel
theorem dL_law_500 : decode cL_law 500 = .ok (.aload_n 0, 1) := by decide +kernel
theorem dL_law_501 : decode cL_law 501 = .ok (.iload_n 3, 1) := by decide +kernel
theorem dL_law_502 : decode cL_law 502 = .ok (.iconst 3, 1) := by decide +kernel
theorem dL_law_503 : decode cL_law 503 = .ok (.iadd, 1) := by decide +kernel
theorem dL_law_504 : decode cL_law 504 = .ok (.iaload, 1) := by decide +kernel
theorem dL_law_505 : decode cL_law 505 = .ok (.invokevirtual 45, 3) := by decide +kernel
theorem dL_law_508 : decode cL_law 508 = .ok (.aload_n 2, 1) := by decide +kernel
theorem dL_law_509 : decode cL_law 509 = .ok (.aload_n 0, 1) := by decide +kernel
theorem dL_law_510 : decode cL_law 510 = .ok (.iload_n 3, 1) := by decide +kernel
theorem dL_law_511 : decode cL_law 511 = .ok (.iconst 1, 1) := by decide +kernel
theorem dL_law_512 : decode cL_law 512 = .ok (.iadd, 1) := by decide +kernel
theorem dL_law_513 : decode cL_law 513 = .ok (.iaload, 1) := by decide +kernel
theorem dL_law_514 : decode cL_law 514 = .ok (.aload_n 0, 1) := by decide +kernel
theorem dL_law_515 : decode cL_law 515 = .ok (.iload_n 3, 1) := by decide +kernel
theorem dL_law_516 : decode cL_law 516 = .ok (.iconst 2, 1) := by decide +kernel
theorem dL_law_517 : decode cL_law 517 = .ok (.iadd, 1) := by decide +kernel
theorem dL_law_518 : decode cL_law 518 = .ok (.iaload, 1) := by decide +kernel
theorem dL_law_519 : decode cL_law 519 = .ok (.aload_n 0, 1) := by decide +kernel
theorem dL_law_520 : decode cL_law 520 = .ok (.iload_n 3, 1) := by decide +kernel
theorem dL_law_521 : decode cL_law 521 = .ok (.iconst 3, 1) := by decide +kernel
theorem dL_law_522 : decode cL_law 522 = .ok (.iadd, 1) := by decide +kernel
theorem dL_law_523 : decode cL_law 523 = .ok (.iaload, 1) := by decide +kernel
theorem dL_law_524 : decode cL_law 524 = .ok (.invokevirtual 48, 3) := by decide +kernel
theorem dL_law_527 : decode cL_law 527 = .ok (.if_icmp .eq 1066, 3) := by decide +kernel
theorem dL_law_530 : decode cL_law 530 = .ok (.iconst 0, 1) := by decide +kernel
theorem dL_law_531 : decode cL_law 531 = .ok (.ireturn, 1) := by decide +kernel
theorem dL_law_532 : decode cL_law 532 = .ok (.aload_n 1, 1) := by decide +kernel
theorem dL_law_533 : decode cL_law 533 = .ok (.aload_n 0, 1) := by decide +kernel
theorem dL_law_534 : decode cL_law 534 = .ok (.iload_n 3, 1) := by decide +kernel
theorem dL_law_535 : decode cL_law 535 = .ok (.iconst 1, 1) := by decide +kernel
theorem dL_law_536 : decode cL_law 536 = .ok (.iadd, 1) := by decide +kernel
theorem dL_law_537 : decode cL_law 537 = .ok (.iaload, 1) := by decide +kernel
theorem dL_law_538 : decode cL_law 538 = .ok (.invokevirtual 49, 3) := by decide +kernel
theorem dL_law_541 : decode cL_law 541 = .ok (.aload_n 2, 1) := by decide +kernel
theorem dL_law_542 : decode cL_law 542 = .ok (.aload_n 0, 1) := by decide +kernel
theorem dL_law_543 : decode cL_law 543 = .ok (.iload_n 3, 1) := by decide +kernel
theorem dL_law_544 : decode cL_law 544 = .ok (.iconst 1, 1) := by decide +kernel
theorem dL_law_545 : decode cL_law 545 = .ok (.iadd, 1) := by decide +kernel
theorem dL_law_546 : decode cL_law 546 = .ok (.iaload, 1) := by decide +kernel
theorem dL_law_547 : decode cL_law 547 = .ok (.invokevirtual 52, 3) := by decide +kernel
theorem dL_law_550 : decode cL_law 550 = .ok (.if_icmp .eq 1043, 3) := by decide +kernel
theorem dL_law_553 : decode cL_law 553 = .ok (.iconst 0, 1) := by decide +kernel
theorem dL_law_554 : decode cL_law 554 = .ok (.ireturn, 1) := by decide +kernel
theorem dL_law_555 : decode cL_law 555 = .ok (.aload_n 1, 1) := by decide +kernel
theorem dL_law_556 : decode cL_law 556 = .ok (.aload_n 0, 1) := by decide +kernel
theorem dL_law_557 : decode cL_law 557 = .ok (.iload_n 3, 1) := by decide +kernel
theorem dL_law_558 : decode cL_law 558 = .ok (.iconst 1, 1) := by decide +kernel
theorem dL_law_559 : decode cL_law 559 = .ok (.iadd, 1) := by decide +kernel
theorem dL_law_560 : decode cL_law 560 = .ok (.iaload, 1) := by decide +kernel
theorem dL_law_561 : decode cL_law 561 = .ok (.aload_n 0, 1) := by decide +kernel
theorem dL_law_562 : decode cL_law 562 = .ok (.iload_n 3, 1) := by decide +kernel
theorem dL_law_563 : decode cL_law 563 = .ok (.iconst 2, 1) := by decide +kernel
theorem dL_law_564 : decode cL_law 564 = .ok (.iadd, 1) := by decide +kernel
theorem dL_law_565 : decode cL_law 565 = .ok (.iaload, 1) := by decide +kernel
theorem dL_law_566 : decode cL_law 566 = .ok (.invokevirtual 53, 3) := by decide +kernel
theorem dL_law_569 : decode cL_law 569 = .ok (.aload_n 2, 1) := by decide +kernel
theorem dL_law_570 : decode cL_law 570 = .ok (.aload_n 0, 1) := by decide +kernel
theorem dL_law_571 : decode cL_law 571 = .ok (.iload_n 3, 1) := by decide +kernel
theorem dL_law_572 : decode cL_law 572 = .ok (.iconst 1, 1) := by decide +kernel
theorem dL_law_573 : decode cL_law 573 = .ok (.iadd, 1) := by decide +kernel
theorem dL_law_574 : decode cL_law 574 = .ok (.iaload, 1) := by decide +kernel
theorem dL_law_575 : decode cL_law 575 = .ok (.aload_n 0, 1) := by decide +kernel
theorem dL_law_576 : decode cL_law 576 = .ok (.iload_n 3, 1) := by decide +kernel
theorem dL_law_577 : decode cL_law 577 = .ok (.iconst 2, 1) := by decide +kernel
theorem dL_law_578 : decode cL_law 578 = .ok (.iadd, 1) := by decide +kernel
theorem dL_law_579 : decode cL_law 579 = .ok (.iaload, 1) := by decide +kernel
theorem dL_law_580 : decode cL_law 580 = .ok (.invokevirtual 56, 3) := by decide +kernel
theorem dL_law_583 : decode cL_law 583 = .ok (.if_icmp .eq 1010, 3) := by decide +kernel
theorem dL_law_586 : decode cL_law 586 = .ok (.iconst 0, 1) := by decide +kernel
theorem dL_law_587 : decode cL_law 587 = .ok (.ireturn, 1) := by decide +kernel
theorem dL_law_588 : decode cL_law 588 = .ok (.aload_n 1, 1) := by decide +kernel
theorem dL_law_589 : decode cL_law 589 = .ok (.aload_n 0, 1) := by decide +kernel
theorem dL_law_590 : decode cL_law 590 = .ok (.iload_n 3, 1) := by decide +kernel
theorem dL_law_591 : decode cL_law 591 = .ok (.iconst 1, 1) := by decide +kernel
theorem dL_law_592 : decode cL_law 592 = .ok (.iadd, 1) := by decide +kernel
theorem dL_law_593 : decode cL_law 593 = .ok (.iaload, 1) := by decide +kernel
theorem dL_law_594 : decode cL_law 594 = .ok (.invokevirtual 57, 3) := by decide +kernel
theorem dL_law_597 : decode cL_law 597 = .ok (.aload_n 2, 1) := by decide +kernel
theorem dL_law_598 : decode cL_law 598 = .ok (.aload_n 0, 1) := by decide +kernel
theorem dL_law_599 : decode cL_law 599 = .ok (.iload_n 3, 1) := by decide +kernel
theorem dL_law_600 : decode cL_law 600 = .ok (.iconst 1, 1) := by decide +kernel
theorem dL_law_601 : decode cL_law 601 = .ok (.iadd, 1) := by decide +kernel
theorem dL_law_602 : decode cL_law 602 = .ok (.iaload, 1) := by decide +kernel
theorem dL_law_603 : decode cL_law 603 = .ok (.invokevirtual 60, 3) := by decide +kernel
theorem dL_law_606 : decode cL_law 606 = .ok (.if_icmp .eq 987, 3) := by decide +kernel
theorem dL_law_609 : decode cL_law 609 = .ok (.iconst 0, 1) := by decide +kernel
theorem dL_law_610 : decode cL_law 610 = .ok (.ireturn, 1) := by decide +kernel
theorem dL_law_611 : decode cL_law 611 = .ok (.aload_n 1, 1) := by decide +kernel
theorem dL_law_612 : decode cL_law 612 = .ok (.aload_n 0, 1) := by decide +kernel
theorem dL_law_613 : decode cL_law 613 = .ok (.iload_n 3, 1) := by decide +kernel
theorem dL_law_614 : decode cL_law 614 = .ok (.iconst 1, 1) := by decide +kernel
theorem dL_law_615 : decode cL_law 615 = .ok (.iadd, 1) := by decide +kernel
theorem dL_law_616 : decode cL_law 616 = .ok (.iaload, 1) := by decide +kernel
theorem dL_law_617 : decode cL_law 617 = .ok (.invokevirtual 61, 3) := by decide +kernel
theorem dL_law_620 : decode cL_law 620 = .ok (.aload_n 2, 1) := by decide +kernel
theorem dL_law_621 : decode cL_law 621 = .ok (.aload_n 0, 1) := by decide +kernel
theorem dL_law_622 : decode cL_law 622 = .ok (.iload_n 3, 1) := by decide +kernel
theorem dL_law_623 : decode cL_law 623 = .ok (.iconst 1, 1) := by decide +kernel
theorem dL_law_624 : decode cL_law 624 = .ok (.iadd, 1) := by decide +kernel
theorem dL_law_625 : decode cL_law 625 = .ok (.iaload, 1) := by decide +kernel
theorem dL_law_626 : decode cL_law 626 = .ok (.invokevirtual 64, 3) := by decide +kernel
theorem dL_law_629 : decode cL_law 629 = .ok (.if_icmp .eq 964, 3) := by decide +kernel
theorem dL_law_632 : decode cL_law 632 = .ok (.iconst 0, 1) := by decide +kernel
theorem dL_law_633 : decode cL_law 633 = .ok (.ireturn, 1) := by decide +kernel
theorem dL_law_634 : decode cL_law 634 = .ok (.aload_n 1, 1) := by decide +kernel
theorem dL_law_635 : decode cL_law 635 = .ok (.aload_n 0, 1) := by decide +kernel
theorem dL_law_636 : decode cL_law 636 = .ok (.iload_n 3, 1) := by decide +kernel
theorem dL_law_637 : decode cL_law 637 = .ok (.iconst 1, 1) := by decide +kernel
theorem dL_law_638 : decode cL_law 638 = .ok (.iadd, 1) := by decide +kernel
theorem dL_law_639 : decode cL_law 639 = .ok (.iaload, 1) := by decide +kernel
theorem dL_law_640 : decode cL_law 640 = .ok (.invokevirtual 65, 3) := by decide +kernel
theorem dL_law_643 : decode cL_law 643 = .ok (.aload_n 2, 1) := by decide +kernel
theorem dL_law_644 : decode cL_law 644 = .ok (.aload_n 0, 1) := by decide +kernel
theorem dL_law_645 : decode cL_law 645 = .ok (.iload_n 3, 1) := by decide +kernel
theorem dL_law_646 : decode cL_law 646 = .ok (.iconst 1, 1) := by decide +kernel
theorem dL_law_647 : decode cL_law 647 = .ok (.iadd, 1) := by decide +kernel
theorem dL_law_648 : decode cL_law 648 = .ok (.iaload, 1) := by decide +kernel
theorem dL_law_649 : decode cL_law 649 = .ok (.invokevirtual 68, 3) := by decide +kernel
theorem dL_law_652 : decode cL_law 652 = .ok (.if_icmp .eq 941, 3) := by decide +kernel
theorem dL_law_655 : decode cL_law 655 = .ok (.iconst 0, 1) := by decide +kernel
theorem dL_law_656 : decode cL_law 656 = .ok (.ireturn, 1) := by decide +kernel
theorem dL_law_657 : decode cL_law 657 = .ok (.aload_n 1, 1) := by decide +kernel
theorem dL_law_658 : decode cL_law 658 = .ok (.aload_n 0, 1) := by decide +kernel
theorem dL_law_659 : decode cL_law 659 = .ok (.iload_n 3, 1) := by decide +kernel
theorem dL_law_660 : decode cL_law 660 = .ok (.iconst 1, 1) := by decide +kernel
theorem dL_law_661 : decode cL_law 661 = .ok (.iadd, 1) := by decide +kernel
theorem dL_law_662 : decode cL_law 662 = .ok (.iaload, 1) := by decide +kernel
theorem dL_law_663 : decode cL_law 663 = .ok (.invokevirtual 69, 3) := by decide +kernel
theorem dL_law_666 : decode cL_law 666 = .ok (.aload_n 2, 1) := by decide +kernel
theorem dL_law_667 : decode cL_law 667 = .ok (.aload_n 0, 1) := by decide +kernel
theorem dL_law_668 : decode cL_law 668 = .ok (.iload_n 3, 1) := by decide +kernel
theorem dL_law_669 : decode cL_law 669 = .ok (.iconst 1, 1) := by decide +kernel
theorem dL_law_670 : decode cL_law 670 = .ok (.iadd, 1) := by decide +kernel
theorem dL_law_671 : decode cL_law 671 = .ok (.iaload, 1) := by decide +kernel
theorem dL_law_672 : decode cL_law 672 = .ok (.invokevirtual 72, 3) := by decide +kernel
theorem dL_law_675 : decode cL_law 675 = .ok (.if_icmp .eq 918, 3) := by decide +kernel
theorem dL_law_678 : decode cL_law 678 = .ok (.iconst 0, 1) := by decide +kernel
theorem dL_law_679 : decode cL_law 679 = .ok (.ireturn, 1) := by decide +kernel
theorem dL_law_680 : decode cL_law 680 = .ok (.aload_n 1, 1) := by decide +kernel
theorem dL_law_681 : decode cL_law 681 = .ok (.aload_n 0, 1) := by decide +kernel
theorem dL_law_682 : decode cL_law 682 = .ok (.iload_n 3, 1) := by decide +kernel
theorem dL_law_683 : decode cL_law 683 = .ok (.iconst 1, 1) := by decide +kernel
theorem dL_law_684 : decode cL_law 684 = .ok (.iadd, 1) := by decide +kernel
theorem dL_law_685 : decode cL_law 685 = .ok (.iaload, 1) := by decide +kernel
theorem dL_law_686 : decode cL_law 686 = .ok (.invokevirtual 73, 3) := by decide +kernel
theorem dL_law_689 : decode cL_law 689 = .ok (.aload_n 2, 1) := by decide +kernel
theorem dL_law_690 : decode cL_law 690 = .ok (.aload_n 0, 1) := by decide +kernel
theorem dL_law_691 : decode cL_law 691 = .ok (.iload_n 3, 1) := by decide +kernel
theorem dL_law_692 : decode cL_law 692 = .ok (.iconst 1, 1) := by decide +kernel
theorem dL_law_693 : decode cL_law 693 = .ok (.iadd, 1) := by decide +kernel
theorem dL_law_694 : decode cL_law 694 = .ok (.iaload, 1) := by decide +kernel
theorem dL_law_695 : decode cL_law 695 = .ok (.invokevirtual 76, 3) := by decide +kernel
theorem dL_law_698 : decode cL_law 698 = .ok (.if_icmp .eq 895, 3) := by decide +kernel
theorem dL_law_701 : decode cL_law 701 = .ok (.iconst 0, 1) := by decide +kernel
theorem dL_law_702 : decode cL_law 702 = .ok (.ireturn, 1) := by decide +kernel
theorem dL_law_703 : decode cL_law 703 = .ok (.aload_n 1, 1) := by decide +kernel
theorem dL_law_704 : decode cL_law 704 = .ok (.aload_n 0, 1) := by decide +kernel
theorem dL_law_705 : decode cL_law 705 = .ok (.iload_n 3, 1) := by decide +kernel
theorem dL_law_706 : decode cL_law 706 = .ok (.iconst 1, 1) := by decide +kernel
theorem dL_law_707 : decode cL_law 707 = .ok (.iadd, 1) := by decide +kernel
theorem dL_law_708 : decode cL_law 708 = .ok (.iaload, 1) := by decide +kernel
theorem dL_law_709 : decode cL_law 709 = .ok (.aload_n 0, 1) := by decide +kernel
theorem dL_law_710 : decode cL_law 710 = .ok (.iload_n 3, 1) := by decide +kernel
theorem dL_law_711 : decode cL_law 711 = .ok (.iconst 2, 1) := by decide +kernel
theorem dL_law_712 : decode cL_law 712 = .ok (.iadd, 1) := by decide +kernel
theorem dL_law_713 : decode cL_law 713 = .ok (.iaload, 1) := by decide +kernel
theorem dL_law_714 : decode cL_law 714 = .ok (.invokevirtual 77, 3) := by decide +kernel
theorem dL_law_717 : decode cL_law 717 = .ok (.aload_n 2, 1) := by decide +kernel
theorem dL_law_718 : decode cL_law 718 = .ok (.aload_n 0, 1) := by decide +kernel
theorem dL_law_719 : decode cL_law 719 = .ok (.iload_n 3, 1) := by decide +kernel
theorem dL_law_720 : decode cL_law 720 = .ok (.iconst 1, 1) := by decide +kernel
theorem dL_law_721 : decode cL_law 721 = .ok (.iadd, 1) := by decide +kernel
theorem dL_law_722 : decode cL_law 722 = .ok (.iaload, 1) := by decide +kernel
theorem dL_law_723 : decode cL_law 723 = .ok (.aload_n 0, 1) := by decide +kernel
theorem dL_law_724 : decode cL_law 724 = .ok (.iload_n 3, 1) := by decide +kernel
theorem dL_law_725 : decode cL_law 725 = .ok (.iconst 2, 1) := by decide +kernel
theorem dL_law_726 : decode cL_law 726 = .ok (.iadd, 1) := by decide +kernel
theorem dL_law_727 : decode cL_law 727 = .ok (.iaload, 1) := by decide +kernel
theorem dL_law_728 : decode cL_law 728 = .ok (.invokevirtual 80, 3) := by decide +kernel
theorem dL_law_731 : decode cL_law 731 = .ok (.if_icmp .eq 862, 3) := by decide +kernel
theorem dL_law_734 : decode cL_law 734 = .ok (.iconst 0, 1) := by decide +kernel
theorem dL_law_735 : decode cL_law 735 = .ok (.ireturn, 1) := by decide +kernel
theorem dL_law_736 : decode cL_law 736 = .ok (.aload_n 1, 1) := by decide +kernel
theorem dL_law_737 : decode cL_law 737 = .ok (.aload_n 0, 1) := by decide +kernel
theorem dL_law_738 : decode cL_law 738 = .ok (.iload_n 3, 1) := by decide +kernel
theorem dL_law_739 : decode cL_law 739 = .ok (.iconst 1, 1) := by decide +kernel
theorem dL_law_740 : decode cL_law 740 = .ok (.iadd, 1) := by decide +kernel
theorem dL_law_741 : decode cL_law 741 = .ok (.iaload, 1) := by decide +kernel
theorem dL_law_742 : decode cL_law 742 = .ok (.aload_n 0, 1) := by decide +kernel
theorem dL_law_743 : decode cL_law 743 = .ok (.iload_n 3, 1) := by decide +kernel
theorem dL_law_744 : decode cL_law 744 = .ok (.iconst 2, 1) := by decide +kernel
theorem dL_law_745 : decode cL_law 745 = .ok (.iadd, 1) := by decide +kernel
theorem dL_law_746 : decode cL_law 746 = .ok (.iaload, 1) := by decide +kernel
theorem dL_law_747 : decode cL_law 747 = .ok (.invokevirtual 81, 3) := by decide +kernel
theorem dL_law_750 : decode cL_law 750 = .ok (.aload_n 2, 1) := by decide +kernel
theorem dL_law_751 : decode cL_law 751 = .ok (.aload_n 0, 1) := by decide +kernel
theorem dL_law_752 : decode cL_law 752 = .ok (.iload_n 3, 1) := by decide +kernel
theorem dL_law_753 : decode cL_law 753 = .ok (.iconst 1, 1) := by decide +kernel
theorem dL_law_754 : decode cL_law 754 = .ok (.iadd, 1) := by decide +kernel
theorem dL_law_755 : decode cL_law 755 = .ok (.iaload, 1) := by decide +kernel
theorem dL_law_756 : decode cL_law 756 = .ok (.aload_n 0, 1) := by decide +kernel
theorem dL_law_757 : decode cL_law 757 = .ok (.iload_n 3, 1) := by decide +kernel
theorem dL_law_758 : decode cL_law 758 = .ok (.iconst 2, 1) := by decide +kernel
theorem dL_law_759 : decode cL_law 759 = .ok (.iadd, 1) := by decide +kernel
theorem dL_law_760 : decode cL_law 760 = .ok (.iaload, 1) := by decide +kernel
theorem dL_law_761 : decode cL_law 761 = .ok (.invokevirtual 84, 3) := by decide +kernel
theorem dL_law_764 : decode cL_law 764 = .ok (.if_icmp .eq 829, 3) := by decide +kernel
theorem dL_law_767 : decode cL_law 767 = .ok (.iconst 0, 1) := by decide +kernel
theorem dL_law_768 : decode cL_law 768 = .ok (.ireturn, 1) := by decide +kernel
theorem dL_law_769 : decode cL_law 769 = .ok (.aload_n 1, 1) := by decide +kernel
theorem dL_law_770 : decode cL_law 770 = .ok (.aload_n 0, 1) := by decide +kernel
theorem dL_law_771 : decode cL_law 771 = .ok (.iload_n 3, 1) := by decide +kernel
theorem dL_law_772 : decode cL_law 772 = .ok (.iconst 1, 1) := by decide +kernel
theorem dL_law_773 : decode cL_law 773 = .ok (.iadd, 1) := by decide +kernel
theorem dL_law_774 : decode cL_law 774 = .ok (.iaload, 1) := by decide +kernel
theorem dL_law_775 : decode cL_law 775 = .ok (.invokevirtual 85, 3) := by decide +kernel
theorem dL_law_778 : decode cL_law 778 = .ok (.aload_n 2, 1) := by decide +kernel
theorem dL_law_779 : decode cL_law 779 = .ok (.aload_n 0, 1) := by decide +kernel
theorem dL_law_780 : decode cL_law 780 = .ok (.iload_n 3, 1) := by decide +kernel
theorem dL_law_781 : decode cL_law 781 = .ok (.iconst 1, 1) := by decide +kernel
theorem dL_law_782 : decode cL_law 782 = .ok (.iadd, 1) := by decide +kernel
theorem dL_law_783 : decode cL_law 783 = .ok (.iaload, 1) := by decide +kernel
theorem dL_law_784 : decode cL_law 784 = .ok (.invokevirtual 88, 3) := by decide +kernel
theorem dL_law_787 : decode cL_law 787 = .ok (.if_icmp .eq 806, 3) := by decide +kernel
theorem dL_law_790 : decode cL_law 790 = .ok (.iconst 0, 1) := by decide +kernel
theorem dL_law_791 : decode cL_law 791 = .ok (.ireturn, 1) := by decide +kernel
theorem dL_law_792 : decode cL_law 792 = .ok (.aload_n 1, 1) := by decide +kernel
theorem dL_law_793 : decode cL_law 793 = .ok (.aload_n 0, 1) := by decide +kernel
theorem dL_law_794 : decode cL_law 794 = .ok (.iload_n 3, 1) := by decide +kernel
theorem dL_law_795 : decode cL_law 795 = .ok (.iconst 1, 1) := by decide +kernel
theorem dL_law_796 : decode cL_law 796 = .ok (.iadd, 1) := by decide +kernel
theorem dL_law_797 : decode cL_law 797 = .ok (.iaload, 1) := by decide +kernel
theorem dL_law_798 : decode cL_law 798 = .ok (.aload_n 0, 1) := by decide +kernel
theorem dL_law_799 : decode cL_law 799 = .ok (.iload_n 3, 1) := by decide +kernel
theorem dL_law_800 : decode cL_law 800 = .ok (.iconst 2, 1) := by decide +kernel
theorem dL_law_801 : decode cL_law 801 = .ok (.iadd, 1) := by decide +kernel
theorem dL_law_802 : decode cL_law 802 = .ok (.iaload, 1) := by decide +kernel
theorem dL_law_803 : decode cL_law 803 = .ok (.invokevirtual 89, 3) := by decide +kernel
theorem dL_law_806 : decode cL_law 806 = .ok (.aload_n 2, 1) := by decide +kernel
theorem dL_law_807 : decode cL_law 807 = .ok (.aload_n 0, 1) := by decide +kernel
theorem dL_law_808 : decode cL_law 808 = .ok (.iload_n 3, 1) := by decide +kernel
theorem dL_law_809 : decode cL_law 809 = .ok (.iconst 1, 1) := by decide +kernel
theorem dL_law_810 : decode cL_law 810 = .ok (.iadd, 1) := by decide +kernel
theorem dL_law_811 : decode cL_law 811 = .ok (.iaload, 1) := by decide +kernel
theorem dL_law_812 : decode cL_law 812 = .ok (.aload_n 0, 1) := by decide +kernel
theorem dL_law_813 : decode cL_law 813 = .ok (.iload_n 3, 1) := by decide +kernel
theorem dL_law_814 : decode cL_law 814 = .ok (.iconst 2, 1) := by decide +kernel
theorem dL_law_815 : decode cL_law 815 = .ok (.iadd, 1) := by decide +kernel
theorem dL_law_816 : decode cL_law 816 = .ok (.iaload, 1) := by decide +kernel
theorem dL_law_817 : decode cL_law 817 = .ok (.invokevirtual 92, 3) := by decide +kernel
theorem dL_law_820 : decode cL_law 820 = .ok (.if_icmp .eq 773, 3) := by decide +kernel
theorem dL_law_823 : decode cL_law 823 = .ok (.iconst 0, 1) := by decide +kernel
theorem dL_law_824 : decode cL_law 824 = .ok (.ireturn, 1) := by decide +kernel
theorem dL_law_825 : decode cL_law 825 = .ok (.aload_n 1, 1) := by decide +kernel
theorem dL_law_826 : decode cL_law 826 = .ok (.aload_n 0, 1) := by decide +kernel
theorem dL_law_827 : decode cL_law 827 = .ok (.iload_n 3, 1) := by decide +kernel
theorem dL_law_828 : decode cL_law 828 = .ok (.iconst 1, 1) := by decide +kernel
theorem dL_law_829 : decode cL_law 829 = .ok (.iadd, 1) := by decide +kernel
theorem dL_law_830 : decode cL_law 830 = .ok (.iaload, 1) := by decide +kernel
theorem dL_law_831 : decode cL_law 831 = .ok (.aload_n 0, 1) := by decide +kernel
theorem dL_law_832 : decode cL_law 832 = .ok (.iload_n 3, 1) := by decide +kernel
theorem dL_law_833 : decode cL_law 833 = .ok (.iconst 2, 1) := by decide +kernel
theorem dL_law_834 : decode cL_law 834 = .ok (.iadd, 1) := by decide +kernel
theorem dL_law_835 : decode cL_law 835 = .ok (.iaload, 1) := by decide +kernel
theorem dL_law_836 : decode cL_law 836 = .ok (.invokevirtual 93, 3) := by decide +kernel
theorem dL_law_839 : decode cL_law 839 = .ok (.aload_n 2, 1) := by decide +kernel
theorem dL_law_840 : decode cL_law 840 = .ok (.aload_n 0, 1) := by decide +kernel
theorem dL_law_841 : decode cL_law 841 = .ok (.iload_n 3, 1) := by decide +kernel
theorem dL_law_842 : decode cL_law 842 = .ok (.iconst 1, 1) := by decide +kernel
theorem dL_law_843 : decode cL_law 843 = .ok (.iadd, 1) := by decide +kernel
theorem dL_law_844 : decode cL_law 844 = .ok (.iaload, 1) := by decide +kernel
theorem dL_law_845 : decode cL_law 845 = .ok (.aload_n 0, 1) := by decide +kernel
theorem dL_law_846 : decode cL_law 846 = .ok (.iload_n 3, 1) := by decide +kernel
theorem dL_law_847 : decode cL_law 847 = .ok (.iconst 2, 1) := by decide +kernel
theorem dL_law_848 : decode cL_law 848 = .ok (.iadd, 1) := by decide +kernel
theorem dL_law_849 : decode cL_law 849 = .ok (.iaload, 1) := by decide +kernel
theorem dL_law_850 : decode cL_law 850 = .ok (.invokevirtual 96, 3) := by decide +kernel
theorem dL_law_853 : decode cL_law 853 = .ok (.if_icmp .eq 740, 3) := by decide +kernel
theorem dL_law_856 : decode cL_law 856 = .ok (.iconst 0, 1) := by decide +kernel
theorem dL_law_857 : decode cL_law 857 = .ok (.ireturn, 1) := by decide +kernel
theorem dL_law_858 : decode cL_law 858 = .ok (.aload_n 1, 1) := by decide +kernel
theorem dL_law_859 : decode cL_law 859 = .ok (.aload_n 0, 1) := by decide +kernel
theorem dL_law_860 : decode cL_law 860 = .ok (.iload_n 3, 1) := by decide +kernel
theorem dL_law_861 : decode cL_law 861 = .ok (.iconst 1, 1) := by decide +kernel
theorem dL_law_862 : decode cL_law 862 = .ok (.iadd, 1) := by decide +kernel
theorem dL_law_863 : decode cL_law 863 = .ok (.iaload, 1) := by decide +kernel
theorem dL_law_864 : decode cL_law 864 = .ok (.aload_n 0, 1) := by decide +kernel
theorem dL_law_865 : decode cL_law 865 = .ok (.iload_n 3, 1) := by decide +kernel
theorem dL_law_866 : decode cL_law 866 = .ok (.iconst 2, 1) := by decide +kernel
theorem dL_law_867 : decode cL_law 867 = .ok (.iadd, 1) := by decide +kernel
theorem dL_law_868 : decode cL_law 868 = .ok (.iaload, 1) := by decide +kernel
theorem dL_law_869 : decode cL_law 869 = .ok (.invokevirtual 97, 3) := by decide +kernel
theorem dL_law_872 : decode cL_law 872 = .ok (.aload_n 2, 1) := by decide +kernel
theorem dL_law_873 : decode cL_law 873 = .ok (.aload_n 0, 1) := by decide +kernel
theorem dL_law_874 : decode cL_law 874 = .ok (.iload_n 3, 1) := by decide +kernel
theorem dL_law_875 : decode cL_law 875 = .ok (.iconst 1, 1) := by decide +kernel
theorem dL_law_876 : decode cL_law 876 = .ok (.iadd, 1) := by decide +kernel
theorem dL_law_877 : decode cL_law 877 = .ok (.iaload, 1) := by decide +kernel
theorem dL_law_878 : decode cL_law 878 = .ok (.aload_n 0, 1) := by decide +kernel
theorem dL_law_879 : decode cL_law 879 = .ok (.iload_n 3, 1) := by decide +kernel
theorem dL_law_880 : decode cL_law 880 = .ok (.iconst 2, 1) := by decide +kernel
theorem dL_law_881 : decode cL_law 881 = .ok (.iadd, 1) := by decide +kernel
theorem dL_law_882 : decode cL_law 882 = .ok (.iaload, 1) := by decide +kernel
theorem dL_law_883 : decode cL_law 883 = .ok (.invokevirtual 100, 3) := by decide +kernel
theorem dL_law_886 : decode cL_law 886 = .ok (.if_icmp .eq 707, 3) := by decide +kernel
theorem dL_law_889 : decode cL_law 889 = .ok (.iconst 0, 1) := by decide +kernel
theorem dL_law_890 : decode cL_law 890 = .ok (.ireturn, 1) := by decide +kernel
theorem dL_law_891 : decode cL_law 891 = .ok (.aload_n 1, 1) := by decide +kernel
theorem dL_law_892 : decode cL_law 892 = .ok (.aload_n 0, 1) := by decide +kernel
theorem dL_law_893 : decode cL_law 893 = .ok (.iload_n 3, 1) := by decide +kernel
theorem dL_law_894 : decode cL_law 894 = .ok (.iconst 1, 1) := by decide +kernel
theorem dL_law_895 : decode cL_law 895 = .ok (.iadd, 1) := by decide +kernel
theorem dL_law_896 : decode cL_law 896 = .ok (.iaload, 1) := by decide +kernel
theorem dL_law_897 : decode cL_law 897 = .ok (.aload_n 0, 1) := by decide +kernel
theorem dL_law_898 : decode cL_law 898 = .ok (.iload_n 3, 1) := by decide +kernel
theorem dL_law_899 : decode cL_law 899 = .ok (.iconst 2, 1) := by decide +kernel
theorem dL_law_900 : decode cL_law 900 = .ok (.iadd, 1) := by decide +kernel
theorem dL_law_901 : decode cL_law 901 = .ok (.iaload, 1) := by decide +kernel
theorem dL_law_902 : decode cL_law 902 = .ok (.aload_n 0, 1) := by decide +kernel
theorem dL_law_903 : decode cL_law 903 = .ok (.iload_n 3, 1) := by decide +kernel
theorem dL_law_904 : decode cL_law 904 = .ok (.iconst 3, 1) := by decide +kernel
theorem dL_law_905 : decode cL_law 905 = .ok (.iadd, 1) := by decide +kernel
theorem dL_law_906 : decode cL_law 906 = .ok (.iaload, 1) := by decide +kernel
theorem dL_law_907 : decode cL_law 907 = .ok (.invokevirtual 101, 3) := by decide +kernel
theorem dL_law_910 : decode cL_law 910 = .ok (.aload_n 2, 1) := by decide +kernel
theorem dL_law_911 : decode cL_law 911 = .ok (.aload_n 0, 1) := by decide +kernel
theorem dL_law_912 : decode cL_law 912 = .ok (.iload_n 3, 1) := by decide +kernel
theorem dL_law_913 : decode cL_law 913 = .ok (.iconst 1, 1) := by decide +kernel
theorem dL_law_914 : decode cL_law 914 = .ok (.iadd, 1) := by decide +kernel
theorem dL_law_915 : decode cL_law 915 = .ok (.iaload, 1) := by decide +kernel
theorem dL_law_916 : decode cL_law 916 = .ok (.aload_n 0, 1) := by decide +kernel
theorem dL_law_917 : decode cL_law 917 = .ok (.iload_n 3, 1) := by decide +kernel
theorem dL_law_918 : decode cL_law 918 = .ok (.iconst 2, 1) := by decide +kernel
theorem dL_law_919 : decode cL_law 919 = .ok (.iadd, 1) := by decide +kernel
theorem dL_law_920 : decode cL_law 920 = .ok (.iaload, 1) := by decide +kernel
theorem dL_law_921 : decode cL_law 921 = .ok (.aload_n 0, 1) := by decide +kernel
theorem dL_law_922 : decode cL_law 922 = .ok (.iload_n 3, 1) := by decide +kernel
theorem dL_law_923 : decode cL_law 923 = .ok (.iconst 3, 1) := by decide +kernel
theorem dL_law_924 : decode cL_law 924 = .ok (.iadd, 1) := by decide +kernel
theorem dL_law_925 : decode cL_law 925 = .ok (.iaload, 1) := by decide +kernel
theorem dL_law_926 : decode cL_law 926 = .ok (.invokevirtual 104, 3) := by decide +kernel
theorem dL_law_929 : decode cL_law 929 = .ok (.if_icmp .eq 664, 3) := by decide +kernel
theorem dL_law_932 : decode cL_law 932 = .ok (.iconst 0, 1) := by decide +kernel
theorem dL_law_933 : decode cL_law 933 = .ok (.ireturn, 1) := by decide +kernel
theorem dL_law_934 : decode cL_law 934 = .ok (.aload_n 1, 1) := by decide +kernel
theorem dL_law_935 : decode cL_law 935 = .ok (.aload_n 0, 1) := by decide +kernel
theorem dL_law_936 : decode cL_law 936 = .ok (.iload_n 3, 1) := by decide +kernel
theorem dL_law_937 : decode cL_law 937 = .ok (.iconst 1, 1) := by decide +kernel
theorem dL_law_938 : decode cL_law 938 = .ok (.iadd, 1) := by decide +kernel
theorem dL_law_939 : decode cL_law 939 = .ok (.iaload, 1) := by decide +kernel
theorem dL_law_940 : decode cL_law 940 = .ok (.invokevirtual 105, 3) := by decide +kernel
theorem dL_law_943 : decode cL_law 943 = .ok (.aload_n 2, 1) := by decide +kernel
theorem dL_law_944 : decode cL_law 944 = .ok (.aload_n 0, 1) := by decide +kernel
theorem dL_law_945 : decode cL_law 945 = .ok (.iload_n 3, 1) := by decide +kernel
theorem dL_law_946 : decode cL_law 946 = .ok (.iconst 1, 1) := by decide +kernel
theorem dL_law_947 : decode cL_law 947 = .ok (.iadd, 1) := by decide +kernel
theorem dL_law_948 : decode cL_law 948 = .ok (.iaload, 1) := by decide +kernel
theorem dL_law_949 : decode cL_law 949 = .ok (.invokevirtual 108, 3) := by decide +kernel
theorem dL_law_952 : decode cL_law 952 = .ok (.if_icmp .eq 641, 3) := by decide +kernel
theorem dL_law_955 : decode cL_law 955 = .ok (.iconst 0, 1) := by decide +kernel
theorem dL_law_956 : decode cL_law 956 = .ok (.ireturn, 1) := by decide +kernel
theorem dL_law_957 : decode cL_law 957 = .ok (.aload_n 1, 1) := by decide +kernel
theorem dL_law_958 : decode cL_law 958 = .ok (.aload_n 0, 1) := by decide +kernel
theorem dL_law_959 : decode cL_law 959 = .ok (.iload_n 3, 1) := by decide +kernel
theorem dL_law_960 : decode cL_law 960 = .ok (.iconst 1, 1) := by decide +kernel
theorem dL_law_961 : decode cL_law 961 = .ok (.iadd, 1) := by decide +kernel
theorem dL_law_962 : decode cL_law 962 = .ok (.iaload, 1) := by decide +kernel
theorem dL_law_963 : decode cL_law 963 = .ok (.aload_n 0, 1) := by decide +kernel
theorem dL_law_964 : decode cL_law 964 = .ok (.iload_n 3, 1) := by decide +kernel
theorem dL_law_965 : decode cL_law 965 = .ok (.iconst 2, 1) := by decide +kernel
theorem dL_law_966 : decode cL_law 966 = .ok (.iadd, 1) := by decide +kernel
theorem dL_law_967 : decode cL_law 967 = .ok (.iaload, 1) := by decide +kernel
theorem dL_law_968 : decode cL_law 968 = .ok (.invokevirtual 109, 3) := by decide +kernel
theorem dL_law_971 : decode cL_law 971 = .ok (.aload_n 2, 1) := by decide +kernel
theorem dL_law_972 : decode cL_law 972 = .ok (.aload_n 0, 1) := by decide +kernel
theorem dL_law_973 : decode cL_law 973 = .ok (.iload_n 3, 1) := by decide +kernel
theorem dL_law_974 : decode cL_law 974 = .ok (.iconst 1, 1) := by decide +kernel
theorem dL_law_975 : decode cL_law 975 = .ok (.iadd, 1) := by decide +kernel
theorem dL_law_976 : decode cL_law 976 = .ok (.iaload, 1) := by decide +kernel
theorem dL_law_977 : decode cL_law 977 = .ok (.aload_n 0, 1) := by decide +kernel
theorem dL_law_978 : decode cL_law 978 = .ok (.iload_n 3, 1) := by decide +kernel
theorem dL_law_979 : decode cL_law 979 = .ok (.iconst 2, 1) := by decide +kernel
theorem dL_law_980 : decode cL_law 980 = .ok (.iadd, 1) := by decide +kernel
theorem dL_law_981 : decode cL_law 981 = .ok (.iaload, 1) := by decide +kernel
theorem dL_law_982 : decode cL_law 982 = .ok (.invokevirtual 112, 3) := by decide +kernel
theorem dL_law_985 : decode cL_law 985 = .ok (.if_icmp .eq 608, 3) := by decide +kernel
theorem dL_law_988 : decode cL_law 988 = .ok (.iconst 0, 1) := by decide +kernel
theorem dL_law_989 : decode cL_law 989 = .ok (.ireturn, 1) := by decide +kernel
theorem dL_law_990 : decode cL_law 990 = .ok (.aload_n 1, 1) := by decide +kernel
theorem dL_law_991 : decode cL_law 991 = .ok (.invokevirtual 113, 3) := by decide +kernel
theorem dL_law_994 : decode cL_law 994 = .ok (.aload_n 2, 1) := by decide +kernel
theorem dL_law_995 : decode cL_law 995 = .ok (.invokevirtual 117, 3) := by decide +kernel
theorem dL_law_998 : decode cL_law 998 = .ok (.if_icmp .eq 595, 3) := by decide +kernel
theorem dL_law_1001 : decode cL_law 1001 = .ok (.iconst 0, 1) := by decide +kernel
theorem dL_law_1002 : decode cL_law 1002 = .ok (.ireturn, 1) := by decide +kernel
theorem dL_law_1003 : decode cL_law 1003 = .ok (.aload_n 1, 1) := by decide +kernel
theorem dL_law_1004 : decode cL_law 1004 = .ok (.aload_n 0, 1) := by decide +kernel
theorem dL_law_1005 : decode cL_law 1005 = .ok (.iload_n 3, 1) := by decide +kernel
theorem dL_law_1006 : decode cL_law 1006 = .ok (.iconst 1, 1) := by decide +kernel
theorem dL_law_1007 : decode cL_law 1007 = .ok (.iadd, 1) := by decide +kernel
theorem dL_law_1008 : decode cL_law 1008 = .ok (.iaload, 1) := by decide +kernel
theorem dL_law_1009 : decode cL_law 1009 = .ok (.invokevirtual 118, 3) := by decide +kernel
theorem dL_law_1012 : decode cL_law 1012 = .ok (.aload_n 2, 1) := by decide +kernel
theorem dL_law_1013 : decode cL_law 1013 = .ok (.aload_n 0, 1) := by decide +kernel
theorem dL_law_1014 : decode cL_law 1014 = .ok (.iload_n 3, 1) := by decide +kernel
theorem dL_law_1015 : decode cL_law 1015 = .ok (.iconst 1, 1) := by decide +kernel
theorem dL_law_1016 : decode cL_law 1016 = .ok (.iadd, 1) := by decide +kernel
theorem dL_law_1017 : decode cL_law 1017 = .ok (.iaload, 1) := by decide +kernel
theorem dL_law_1018 : decode cL_law 1018 = .ok (.invokevirtual 121, 3) := by decide +kernel
theorem dL_law_1021 : decode cL_law 1021 = .ok (.if_icmp .eq 572, 3) := by decide +kernel
theorem dL_law_1024 : decode cL_law 1024 = .ok (.iconst 0, 1) := by decide +kernel
theorem dL_law_1025 : decode cL_law 1025 = .ok (.ireturn, 1) := by decide +kernel
theorem dL_law_1026 : decode cL_law 1026 = .ok (.aload_n 1, 1) := by decide +kernel
theorem dL_law_1027 : decode cL_law 1027 = .ok (.aload_n 0, 1) := by decide +kernel
theorem dL_law_1028 : decode cL_law 1028 = .ok (.iload_n 3, 1) := by decide +kernel
theorem dL_law_1029 : decode cL_law 1029 = .ok (.iconst 1, 1) := by decide +kernel
theorem dL_law_1030 : decode cL_law 1030 = .ok (.iadd, 1) := by decide +kernel
theorem dL_law_1031 : decode cL_law 1031 = .ok (.iaload, 1) := by decide +kernel
theorem dL_law_1032 : decode cL_law 1032 = .ok (.aload_n 0, 1) := by decide +kernel
theorem dL_law_1033 : decode cL_law 1033 = .ok (.iload_n 3, 1) := by decide +kernel
theorem dL_law_1034 : decode cL_law 1034 = .ok (.iconst 2, 1) := by decide +kernel
theorem dL_law_1035 : decode cL_law 1035 = .ok (.iadd, 1) := by decide +kernel
theorem dL_law_1036 : decode cL_law 1036 = .ok (.iaload, 1) := by decide +kernel
theorem dL_law_1037 : decode cL_law 1037 = .ok (.aload_n 0, 1) := by decide +kernel
theorem dL_law_1038 : decode cL_law 1038 = .ok (.iload_n 3, 1) := by decide +kernel
theorem dL_law_1039 : decode cL_law 1039 = .ok (.iconst 3, 1) := by decide +kernel
theorem dL_law_1040 : decode cL_law 1040 = .ok (.iadd, 1) := by decide +kernel
theorem dL_law_1041 : decode cL_law 1041 = .ok (.iaload, 1) := by decide +kernel
theorem dL_law_1042 : decode cL_law 1042 = .ok (.invokevirtual 122, 3) := by decide +kernel
theorem dL_law_1045 : decode cL_law 1045 = .ok (.aload_n 2, 1) := by decide +kernel
theorem dL_law_1046 : decode cL_law 1046 = .ok (.aload_n 0, 1) := by decide +kernel
theorem dL_law_1047 : decode cL_law 1047 = .ok (.iload_n 3, 1) := by decide +kernel
theorem dL_law_1048 : decode cL_law 1048 = .ok (.iconst 1, 1) := by decide +kernel
theorem dL_law_1049 : decode cL_law 1049 = .ok (.iadd, 1) := by decide +kernel
theorem dL_law_1050 : decode cL_law 1050 = .ok (.iaload, 1) := by decide +kernel
theorem dL_law_1051 : decode cL_law 1051 = .ok (.aload_n 0, 1) := by decide +kernel
theorem dL_law_1052 : decode cL_law 1052 = .ok (.iload_n 3, 1) := by decide +kernel
theorem dL_law_1053 : decode cL_law 1053 = .ok (.iconst 2, 1) := by decide +kernel
theorem dL_law_1054 : decode cL_law 1054 = .ok (.iadd, 1) := by decide +kernel
theorem dL_law_1055 : decode cL_law 1055 = .ok (.iaload, 1) := by decide +kernel
theorem dL_law_1056 : decode cL_law 1056 = .ok (.aload_n 0, 1) := by decide +kernel
theorem dL_law_1057 : decode cL_law 1057 = .ok (.iload_n 3, 1) := by decide +kernel
theorem dL_law_1058 : decode cL_law 1058 = .ok (.iconst 3, 1) := by decide +kernel
theorem dL_law_1059 : decode cL_law 1059 = .ok (.iadd, 1) := by decide +kernel
theorem dL_law_1060 : decode cL_law 1060 = .ok (.iaload, 1) := by decide +kernel
theorem dL_law_1061 : decode cL_law 1061 = .ok (.invokevirtual 125, 3) := by decide +kernel
theorem dL_law_1064 : decode cL_law 1064 = .ok (.if_icmp .eq 529, 3) := by decide +kernel
theorem dL_law_1067 : decode cL_law 1067 = .ok (.iconst 0, 1) := by decide +kernel
theorem dL_law_1068 : decode cL_law 1068 = .ok (.ireturn, 1) := by decide +kernel
theorem dL_law_1069 : decode cL_law 1069 = .ok (.aload_n 1, 1) := by decide +kernel
theorem dL_law_1070 : decode cL_law 1070 = .ok (.aload_n 0, 1) := by decide +kernel
theorem dL_law_1071 : decode cL_law 1071 = .ok (.iload_n 3, 1) := by decide +kernel
theorem dL_law_1072 : decode cL_law 1072 = .ok (.iconst 1, 1) := by decide +kernel
theorem dL_law_1073 : decode cL_law 1073 = .ok (.iadd, 1) := by decide +kernel
theorem dL_law_1074 : decode cL_law 1074 = .ok (.iaload, 1) := by decide +kernel
theorem dL_law_1075 : decode cL_law 1075 = .ok (.invokevirtual 126, 3) := by decide +kernel
theorem dL_law_1078 : decode cL_law 1078 = .ok (.aload_n 2, 1) := by decide +kernel
theorem dL_law_1079 : decode cL_law 1079 = .ok (.aload_n 0, 1) := by decide +kernel
theorem dL_law_1080 : decode cL_law 1080 = .ok (.iload_n 3, 1) := by decide +kernel
theorem dL_law_1081 : decode cL_law 1081 = .ok (.iconst 1, 1) := by decide +kernel
theorem dL_law_1082 : decode cL_law 1082 = .ok (.iadd, 1) := by decide +kernel
theorem dL_law_1083 : decode cL_law 1083 = .ok (.iaload, 1) := by decide +kernel
theorem dL_law_1084 : decode cL_law 1084 = .ok (.invokevirtual 129, 3) := by decide +kernel
theorem dL_law_1087 : decode cL_law 1087 = .ok (.if_icmp .eq 506, 3) := by decide +kernel
theorem dL_law_1090 : decode cL_law 1090 = .ok (.iconst 0, 1) := by decide +kernel
theorem dL_law_1091 : decode cL_law 1091 = .ok (.ireturn, 1) := by decide +kernel
theorem dL_law_1092 : decode cL_law 1092 = .ok (.aload_n 1, 1) := by decide +kernel
theorem dL_law_1093 : decode cL_law 1093 = .ok (.invokevirtual 130, 3) := by decide +kernel
theorem dL_law_1096 : decode cL_law 1096 = .ok (.aload_n 2, 1) := by decide +kernel
theorem dL_law_1097 : decode cL_law 1097 = .ok (.invokevirtual 133, 3) := by decide +kernel
theorem dL_law_1100 : decode cL_law 1100 = .ok (.if_icmp .eq 493, 3) := by decide +kernel
theorem dL_law_1103 : decode cL_law 1103 = .ok (.iconst 0, 1) := by decide +kernel
theorem dL_law_1104 : decode cL_law 1104 = .ok (.ireturn, 1) := by decide +kernel
theorem dL_law_1105 : decode cL_law 1105 = .ok (.aload_n 1, 1) := by decide +kernel
theorem dL_law_1106 : decode cL_law 1106 = .ok (.aload_n 0, 1) := by decide +kernel
theorem dL_law_1107 : decode cL_law 1107 = .ok (.iload_n 3, 1) := by decide +kernel
theorem dL_law_1108 : decode cL_law 1108 = .ok (.iconst 1, 1) := by decide +kernel
theorem dL_law_1109 : decode cL_law 1109 = .ok (.iadd, 1) := by decide +kernel
theorem dL_law_1110 : decode cL_law 1110 = .ok (.iaload, 1) := by decide +kernel
theorem dL_law_1111 : decode cL_law 1111 = .ok (.aload_n 0, 1) := by decide +kernel
theorem dL_law_1112 : decode cL_law 1112 = .ok (.iload_n 3, 1) := by decide +kernel
theorem dL_law_1113 : decode cL_law 1113 = .ok (.iconst 2, 1) := by decide +kernel
theorem dL_law_1114 : decode cL_law 1114 = .ok (.iadd, 1) := by decide +kernel
theorem dL_law_1115 : decode cL_law 1115 = .ok (.iaload, 1) := by decide +kernel
theorem dL_law_1116 : decode cL_law 1116 = .ok (.invokevirtual 134, 3) := by decide +kernel
theorem dL_law_1119 : decode cL_law 1119 = .ok (.aload_n 2, 1) := by decide +kernel
theorem dL_law_1120 : decode cL_law 1120 = .ok (.aload_n 0, 1) := by decide +kernel
theorem dL_law_1121 : decode cL_law 1121 = .ok (.iload_n 3, 1) := by decide +kernel
theorem dL_law_1122 : decode cL_law 1122 = .ok (.iconst 1, 1) := by decide +kernel
theorem dL_law_1123 : decode cL_law 1123 = .ok (.iadd, 1) := by decide +kernel
theorem dL_law_1124 : decode cL_law 1124 = .ok (.iaload, 1) := by decide +kernel
theorem dL_law_1125 : decode cL_law 1125 = .ok (.aload_n 0, 1) := by decide +kernel
theorem dL_law_1126 : decode cL_law 1126 = .ok (.iload_n 3, 1) := by decide +kernel
theorem dL_law_1127 : decode cL_law 1127 = .ok (.iconst 2, 1) := by decide +kernel
theorem dL_law_1128 : decode cL_law 1128 = .ok (.iadd, 1) := by decide +kernel
theorem dL_law_1129 : decode cL_law 1129 = .ok (.iaload, 1) := by decide +kernel
theorem dL_law_1130 : decode cL_law 1130 = .ok (.invokevirtual 137, 3) := by decide +kernel
theorem dL_law_1133 : decode cL_law 1133 = .ok (.if_icmp .eq 460, 3) := by decide +kernel
theorem dL_law_1136 : decode cL_law 1136 = .ok (.iconst 0, 1) := by decide +kernel
theorem dL_law_1137 : decode cL_law 1137 = .ok (.ireturn, 1) := by decide +kernel
theorem dL_law_1138 : decode cL_law 1138 = .ok (.aload_n 1, 1) := by decide +kernel
theorem dL_law_1139 : decode cL_law 1139 = .ok (.aload_n 0, 1) := by decide +kernel
theorem dL_law_1140 : decode cL_law 1140 = .ok (.iload_n 3, 1) := by decide +kernel
theorem dL_law_1141 : decode cL_law 1141 = .ok (.iconst 1, 1) := by decide +kernel
theorem dL_law_1142 : decode cL_law 1142 = .ok (.iadd, 1) := by decide +kernel
theorem dL_law_1143 : decode cL_law 1143 = .ok (.iaload, 1) := by decide +kernel
theorem dL_law_1144 : decode cL_law 1144 = .ok (.invokevirtual 138, 3) := by decide +kernel
theorem dL_law_1147 : decode cL_law 1147 = .ok (.aload_n 2, 1) := by decide +kernel
theorem dL_law_1148 : decode cL_law 1148 = .ok (.aload_n 0, 1) := by decide +kernel
theorem dL_law_1149 : decode cL_law 1149 = .ok (.iload_n 3, 1) := by decide +kernel
theorem dL_law_1150 : decode cL_law 1150 = .ok (.iconst 1, 1) := by decide +kernel
theorem dL_law_1151 : decode cL_law 1151 = .ok (.iadd, 1) := by decide +kernel
theorem dL_law_1152 : decode cL_law 1152 = .ok (.iaload, 1) := by decide +kernel
theorem dL_law_1153 : decode cL_law 1153 = .ok (.invokevirtual 141, 3) := by decide +kernel
theorem dL_law_1156 : decode cL_law 1156 = .ok (.if_icmp .eq 437, 3) := by decide +kernel
theorem dL_law_1159 : decode cL_law 1159 = .ok (.iconst 0, 1) := by decide +kernel
theorem dL_law_1160 : decode cL_law 1160 = .ok (.ireturn, 1) := by decide +kernel
theorem dL_law_1161 : decode cL_law 1161 = .ok (.aload_n 1, 1) := by decide +kernel
theorem dL_law_1162 : decode cL_law 1162 = .ok (.aload_n 0, 1) := by decide +kernel
theorem dL_law_1163 : decode cL_law 1163 = .ok (.iload_n 3, 1) := by decide +kernel
theorem dL_law_1164 : decode cL_law 1164 = .ok (.iconst 1, 1) := by decide +kernel
theorem dL_law_1165 : decode cL_law 1165 = .ok (.iadd, 1) := by decide +kernel
theorem dL_law_1166 : decode cL_law 1166 = .ok (.iaload, 1) := by decide +kernel
theorem dL_law_1167 : decode cL_law 1167 = .ok (.aload_n 0, 1) := by decide +kernel
theorem dL_law_1168 : decode cL_law 1168 = .ok (.iload_n 3, 1) := by decide +kernel
theorem dL_law_1169 : decode cL_law 1169 = .ok (.iconst 2, 1) := by decide +kernel
theorem dL_law_1170 : decode cL_law 1170 = .ok (.iadd, 1) := by decide +kernel
theorem dL_law_1171 : decode cL_law 1171 = .ok (.iaload, 1) := by decide +kernel
theorem dL_law_1172 : decode cL_law 1172 = .ok (.aload_n 0, 1) := by decide +kernel
theorem dL_law_1173 : decode cL_law 1173 = .ok (.iload_n 3, 1) := by decide +kernel
theorem dL_law_1174 : decode cL_law 1174 = .ok (.iconst 3, 1) := by decide +kernel
theorem dL_law_1175 : decode cL_law 1175 = .ok (.iadd, 1) := by decide +kernel
theorem dL_law_1176 : decode cL_law 1176 = .ok (.iaload, 1) := by decide +kernel
theorem dL_law_1177 : decode cL_law 1177 = .ok (.invokevirtual 142, 3) := by decide +kernel
theorem dL_law_1180 : decode cL_law 1180 = .ok (.aload_n 2, 1) := by decide +kernel
theorem dL_law_1181 : decode cL_law 1181 = .ok (.aload_n 0, 1) := by decide +kernel
theorem dL_law_1182 : decode cL_law 1182 = .ok (.iload_n 3, 1) := by decide +kernel
theorem dL_law_1183 : decode cL_law 1183 = .ok (.iconst 1, 1) := by decide +kernel
theorem dL_law_1184 : decode cL_law 1184 = .ok (.iadd, 1) := by decide +kernel
theorem dL_law_1185 : decode cL_law 1185 = .ok (.iaload, 1) := by decide +kernel
theorem dL_law_1186 : decode cL_law 1186 = .ok (.aload_n 0, 1) := by decide +kernel
theorem dL_law_1187 : decode cL_law 1187 = .ok (.iload_n 3, 1) := by decide +kernel
theorem dL_law_1188 : decode cL_law 1188 = .ok (.iconst 2, 1) := by decide +kernel
theorem dL_law_1189 : decode cL_law 1189 = .ok (.iadd, 1) := by decide +kernel
theorem dL_law_1190 : decode cL_law 1190 = .ok (.iaload, 1) := by decide +kernel
theorem dL_law_1191 : decode cL_law 1191 = .ok (.aload_n 0, 1) := by decide +kernel
theorem dL_law_1192 : decode cL_law 1192 = .ok (.iload_n 3, 1) := by decide +kernel
theorem dL_law_1193 : decode cL_law 1193 = .ok (.iconst 3, 1) := by decide +kernel
theorem dL_law_1194 : decode cL_law 1194 = .ok (.iadd, 1) := by decide +kernel
theorem dL_law_1195 : decode cL_law 1195 = .ok (.iaload, 1) := by decide +kernel
theorem dL_law_1196 : decode cL_law 1196 = .ok (.invokevirtual 145, 3) := by decide +kernel
theorem dL_law_1199 : decode cL_law 1199 = .ok (.if_icmp .eq 394, 3) := by decide +kernel
theorem dL_law_1202 : decode cL_law 1202 = .ok (.iconst 0, 1) := by decide +kernel
theorem dL_law_1203 : decode cL_law 1203 = .ok (.ireturn, 1) := by decide +kernel
theorem dL_law_1204 : decode cL_law 1204 = .ok (.aload_n 1, 1) := by decide +kernel
theorem dL_law_1205 : decode cL_law 1205 = .ok (.aload_n 0, 1) := by decide +kernel
theorem dL_law_1206 : decode cL_law 1206 = .ok (.iload_n 3, 1) := by decide +kernel
theorem dL_law_1207 : decode cL_law 1207 = .ok (.iconst 1, 1) := by decide +kernel
theorem dL_law_1208 : decode cL_law 1208 = .ok (.iadd, 1) := by decide +kernel
theorem dL_law_1209 : decode cL_law 1209 = .ok (.iaload, 1) := by decide +kernel
theorem dL_law_1210 : decode cL_law 1210 = .ok (.aload_n 0, 1) := by decide +kernel
theorem dL_law_1211 : decode cL_law 1211 = .ok (.iload_n 3, 1) := by decide +kernel
theorem dL_law_1212 : decode cL_law 1212 = .ok (.iconst 2, 1) := by decide +kernel
theorem dL_law_1213 : decode cL_law 1213 = .ok (.iadd, 1) := by decide +kernel
theorem dL_law_1214 : decode cL_law 1214 = .ok (.iaload, 1) := by decide +kernel
theorem dL_law_1215 : decode cL_law 1215 = .ok (.aload_n 0, 1) := by decide +kernel
theorem dL_law_1216 : decode cL_law 1216 = .ok (.iload_n 3, 1) := by decide +kernel
theorem dL_law_1217 : decode cL_law 1217 = .ok (.iconst 3, 1) := by decide +kernel
theorem dL_law_1218 : decode cL_law 1218 = .ok (.iadd, 1) := by decide +kernel
theorem dL_law_1219 : decode cL_law 1219 = .ok (.iaload, 1) := by decide +kernel
theorem dL_law_1220 : decode cL_law 1220 = .ok (.invokevirtual 146, 3) := by decide +kernel
theorem dL_law_1223 : decode cL_law 1223 = .ok (.aload_n 2, 1) := by decide +kernel
theorem dL_law_1224 : decode cL_law 1224 = .ok (.aload_n 0, 1) := by decide +kernel
theorem dL_law_1225 : decode cL_law 1225 = .ok (.iload_n 3, 1) := by decide +kernel
theorem dL_law_1226 : decode cL_law 1226 = .ok (.iconst 1, 1) := by decide +kernel
theorem dL_law_1227 : decode cL_law 1227 = .ok (.iadd, 1) := by decide +kernel
theorem dL_law_1228 : decode cL_law 1228 = .ok (.iaload, 1) := by decide +kernel
theorem dL_law_1229 : decode cL_law 1229 = .ok (.aload_n 0, 1) := by decide +kernel
theorem dL_law_1230 : decode cL_law 1230 = .ok (.iload_n 3, 1) := by decide +kernel
theorem dL_law_1231 : decode cL_law 1231 = .ok (.iconst 2, 1) := by decide +kernel
theorem dL_law_1232 : decode cL_law 1232 = .ok (.iadd, 1) := by decide +kernel
theorem dL_law_1233 : decode cL_law 1233 = .ok (.iaload, 1) := by decide +kernel
theorem dL_law_1234 : decode cL_law 1234 = .ok (.aload_n 0, 1) := by decide +kernel
theorem dL_law_1235 : decode cL_law 1235 = .ok (.iload_n 3, 1) := by decide +kernel
theorem dL_law_1236 : decode cL_law 1236 = .ok (.iconst 3, 1) := by decide +kernel
theorem dL_law_1237 : decode cL_law 1237 = .ok (.iadd, 1) := by decide +kernel
theorem dL_law_1238 : decode cL_law 1238 = .ok (.iaload, 1) := by decide +kernel
theorem dL_law_1239 : decode cL_law 1239 = .ok (.invokevirtual 149, 3) := by decide +kernel
theorem dL_law_1242 : decode cL_law 1242 = .ok (.if_icmp .eq 351, 3) := by decide +kernel
theorem dL_law_1245 : decode cL_law 1245 = .ok (.iconst 0, 1) := by decide +kernel
theorem dL_law_1246 : decode cL_law 1246 = .ok (.ireturn, 1) := by decide +kernel
theorem dL_law_1247 : decode cL_law 1247 = .ok (.aload_n 1, 1) := by decide +kernel
theorem dL_law_1248 : decode cL_law 1248 = .ok (.aload_n 0, 1) := by decide +kernel
theorem dL_law_1249 : decode cL_law 1249 = .ok (.iload_n 3, 1) := by decide +kernel
theorem dL_law_1250 : decode cL_law 1250 = .ok (.iconst 1, 1) := by decide +kernel
theorem dL_law_1251 : decode cL_law 1251 = .ok (.iadd, 1) := by decide +kernel
theorem dL_law_1252 : decode cL_law 1252 = .ok (.iaload, 1) := by decide +kernel
theorem dL_law_1253 : decode cL_law 1253 = .ok (.invokevirtual 150, 3) := by decide +kernel
theorem dL_law_1256 : decode cL_law 1256 = .ok (.aload_n 2, 1) := by decide +kernel
theorem dL_law_1257 : decode cL_law 1257 = .ok (.aload_n 0, 1) := by decide +kernel
theorem dL_law_1258 : decode cL_law 1258 = .ok (.iload_n 3, 1) := by decide +kernel
theorem dL_law_1259 : decode cL_law 1259 = .ok (.iconst 1, 1) := by decide +kernel
theorem dL_law_1260 : decode cL_law 1260 = .ok (.iadd, 1) := by decide +kernel
theorem dL_law_1261 : decode cL_law 1261 = .ok (.iaload, 1) := by decide +kernel
theorem dL_law_1262 : decode cL_law 1262 = .ok (.invokevirtual 153, 3) := by decide +kernel
theorem dL_law_1265 : decode cL_law 1265 = .ok (.if_icmp .eq 328, 3) := by decide +kernel
theorem dL_law_1268 : decode cL_law 1268 = .ok (.iconst 0, 1) := by decide +kernel
theorem dL_law_1269 : decode cL_law 1269 = .ok (.ireturn, 1) := by decide +kernel
theorem dL_law_1270 : decode cL_law 1270 = .ok (.aload_n 1, 1) := by decide +kernel
theorem dL_law_1271 : decode cL_law 1271 = .ok (.aload_n 0, 1) := by decide +kernel
theorem dL_law_1272 : decode cL_law 1272 = .ok (.iload_n 3, 1) := by decide +kernel
theorem dL_law_1273 : decode cL_law 1273 = .ok (.iconst 1, 1) := by decide +kernel
theorem dL_law_1274 : decode cL_law 1274 = .ok (.iadd, 1) := by decide +kernel
theorem dL_law_1275 : decode cL_law 1275 = .ok (.iaload, 1) := by decide +kernel
theorem dL_law_1276 : decode cL_law 1276 = .ok (.invokevirtual 154, 3) := by decide +kernel
theorem dL_law_1279 : decode cL_law 1279 = .ok (.aload_n 2, 1) := by decide +kernel
theorem dL_law_1280 : decode cL_law 1280 = .ok (.aload_n 0, 1) := by decide +kernel
theorem dL_law_1281 : decode cL_law 1281 = .ok (.iload_n 3, 1) := by decide +kernel
theorem dL_law_1282 : decode cL_law 1282 = .ok (.iconst 1, 1) := by decide +kernel
theorem dL_law_1283 : decode cL_law 1283 = .ok (.iadd, 1) := by decide +kernel
theorem dL_law_1284 : decode cL_law 1284 = .ok (.iaload, 1) := by decide +kernel
theorem dL_law_1285 : decode cL_law 1285 = .ok (.invokevirtual 157, 3) := by decide +kernel
theorem dL_law_1288 : decode cL_law 1288 = .ok (.if_icmp .eq 305, 3) := by decide +kernel
theorem dL_law_1291 : decode cL_law 1291 = .ok (.iconst 0, 1) := by decide +kernel
theorem dL_law_1292 : decode cL_law 1292 = .ok (.ireturn, 1) := by decide +kernel
theorem dL_law_1293 : decode cL_law 1293 = .ok (.aload_n 1, 1) := by decide +kernel
theorem dL_law_1294 : decode cL_law 1294 = .ok (.aload_n 0, 1) := by decide +kernel
theorem dL_law_1295 : decode cL_law 1295 = .ok (.iload_n 3, 1) := by decide +kernel
theorem dL_law_1296 : decode cL_law 1296 = .ok (.iconst 1, 1) := by decide +kernel
theorem dL_law_1297 : decode cL_law 1297 = .ok (.iadd, 1) := by decide +kernel
theorem dL_law_1298 : decode cL_law 1298 = .ok (.iaload, 1) := by decide +kernel
theorem dL_law_1299 : decode cL_law 1299 = .ok (.aload_n 0, 1) := by decide +kernel
theorem dL_law_1300 : decode cL_law 1300 = .ok (.iload_n 3, 1) := by decide +kernel
theorem dL_law_1301 : decode cL_law 1301 = .ok (.iconst 2, 1) := by decide +kernel
theorem dL_law_1302 : decode cL_law 1302 = .ok (.iadd, 1) := by decide +kernel
theorem dL_law_1303 : decode cL_law 1303 = .ok (.iaload, 1) := by decide +kernel
theorem dL_law_1304 : decode cL_law 1304 = .ok (.aload_n 0, 1) := by decide +kernel
theorem dL_law_1305 : decode cL_law 1305 = .ok (.iload_n 3, 1) := by decide +kernel
theorem dL_law_1306 : decode cL_law 1306 = .ok (.iconst 3, 1) := by decide +kernel
theorem dL_law_1307 : decode cL_law 1307 = .ok (.iadd, 1) := by decide +kernel
theorem dL_law_1308 : decode cL_law 1308 = .ok (.iaload, 1) := by decide +kernel
theorem dL_law_1309 : decode cL_law 1309 = .ok (.aload_n 0, 1) := by decide +kernel
theorem dL_law_1310 : decode cL_law 1310 = .ok (.iload_n 3, 1) := by decide +kernel
theorem dL_law_1311 : decode cL_law 1311 = .ok (.iconst 4, 1) := by decide +kernel
theorem dL_law_1312 : decode cL_law 1312 = .ok (.iadd, 1) := by decide +kernel
theorem dL_law_1313 : decode cL_law 1313 = .ok (.iaload, 1) := by decide +kernel
theorem dL_law_1314 : decode cL_law 1314 = .ok (.aload_n 0, 1) := by decide +kernel
theorem dL_law_1315 : decode cL_law 1315 = .ok (.iload_n 3, 1) := by decide +kernel
theorem dL_law_1316 : decode cL_law 1316 = .ok (.iconst 5, 1) := by decide +kernel
theorem dL_law_1317 : decode cL_law 1317 = .ok (.iadd, 1) := by decide +kernel
theorem dL_law_1318 : decode cL_law 1318 = .ok (.iaload, 1) := by decide +kernel
theorem dL_law_1319 : decode cL_law 1319 = .ok (.invokevirtual 158, 3) := by decide +kernel
theorem dL_law_1322 : decode cL_law 1322 = .ok (.aload_n 2, 1) := by decide +kernel
theorem dL_law_1323 : decode cL_law 1323 = .ok (.aload_n 0, 1) := by decide +kernel
theorem dL_law_1324 : decode cL_law 1324 = .ok (.iload_n 3, 1) := by decide +kernel
theorem dL_law_1325 : decode cL_law 1325 = .ok (.iconst 1, 1) := by decide +kernel
theorem dL_law_1326 : decode cL_law 1326 = .ok (.iadd, 1) := by decide +kernel
theorem dL_law_1327 : decode cL_law 1327 = .ok (.iaload, 1) := by decide +kernel
theorem dL_law_1328 : decode cL_law 1328 = .ok (.aload_n 0, 1) := by decide +kernel
theorem dL_law_1329 : decode cL_law 1329 = .ok (.iload_n 3, 1) := by decide +kernel
theorem dL_law_1330 : decode cL_law 1330 = .ok (.iconst 2, 1) := by decide +kernel
theorem dL_law_1331 : decode cL_law 1331 = .ok (.iadd, 1) := by decide +kernel
theorem dL_law_1332 : decode cL_law 1332 = .ok (.iaload, 1) := by decide +kernel
theorem dL_law_1333 : decode cL_law 1333 = .ok (.aload_n 0, 1) := by decide +kernel
theorem dL_law_1334 : decode cL_law 1334 = .ok (.iload_n 3, 1) := by decide +kernel
theorem dL_law_1335 : decode cL_law 1335 = .ok (.iconst 3, 1) := by decide +kernel
theorem dL_law_1336 : decode cL_law 1336 = .ok (.iadd, 1) := by decide +kernel
theorem dL_law_1337 : decode cL_law 1337 = .ok (.iaload, 1) := by decide +kernel
theorem dL_law_1338 : decode cL_law 1338 = .ok (.aload_n 0, 1) := by decide +kernel
theorem dL_law_1339 : decode cL_law 1339 = .ok (.iload_n 3, 1) := by decide +kernel
theorem dL_law_1340 : decode cL_law 1340 = .ok (.iconst 4, 1) := by decide +kernel
theorem dL_law_1341 : decode cL_law 1341 = .ok (.iadd, 1) := by decide +kernel
theorem dL_law_1342 : decode cL_law 1342 = .ok (.iaload, 1) := by decide +kernel
theorem dL_law_1343 : decode cL_law 1343 = .ok (.aload_n 0, 1) := by decide +kernel
theorem dL_law_1344 : decode cL_law 1344 = .ok (.iload_n 3, 1) := by decide +kernel
theorem dL_law_1345 : decode cL_law 1345 = .ok (.iconst 5, 1) := by decide +kernel
theorem dL_law_1346 : decode cL_law 1346 = .ok (.iadd, 1) := by decide +kernel
theorem dL_law_1347 : decode cL_law 1347 = .ok (.iaload, 1) := by decide +kernel
theorem dL_law_1348 : decode cL_law 1348 = .ok (.invokevirtual 161, 3) := by decide +kernel
theorem dL_law_1351 : decode cL_law 1351 = .ok (.if_icmp .eq 242, 3) := by decide +kernel
theorem dL_law_1354 : decode cL_law 1354 = .ok (.iconst 0, 1) := by decide +kernel
theorem dL_law_1355 : decode cL_law 1355 = .ok (.ireturn, 1) := by decide +kernel
theorem dL_law_1356 : decode cL_law 1356 = .ok (.aload_n 1, 1) := by decide +kernel
theorem dL_law_1357 : decode cL_law 1357 = .ok (.aload_n 0, 1) := by decide +kernel
theorem dL_law_1358 : decode cL_law 1358 = .ok (.iload_n 3, 1) := by decide +kernel
theorem dL_law_1359 : decode cL_law 1359 = .ok (.iconst 1, 1) := by decide +kernel
theorem dL_law_1360 : decode cL_law 1360 = .ok (.iadd, 1) := by decide +kernel
theorem dL_law_1361 : decode cL_law 1361 = .ok (.iaload, 1) := by decide +kernel
theorem dL_law_1362 : decode cL_law 1362 = .ok (.aload_n 0, 1) := by decide +kernel
theorem dL_law_1363 : decode cL_law 1363 = .ok (.iload_n 3, 1) := by decide +kernel
theorem dL_law_1364 : decode cL_law 1364 = .ok (.iconst 2, 1) := by decide +kernel
theorem dL_law_1365 : decode cL_law 1365 = .ok (.iadd, 1) := by decide +kernel
theorem dL_law_1366 : decode cL_law 1366 = .ok (.iaload, 1) := by decide +kernel
theorem dL_law_1367 : decode cL_law 1367 = .ok (.aload_n 0, 1) := by decide +kernel
theorem dL_law_1368 : decode cL_law 1368 = .ok (.iload_n 3, 1) := by decide +kernel
theorem dL_law_1369 : decode cL_law 1369 = .ok (.iconst 3, 1) := by decide +kernel
theorem dL_law_1370 : decode cL_law 1370 = .ok (.iadd, 1) := by decide +kernel
theorem dL_law_1371 : decode cL_law 1371 = .ok (.iaload, 1) := by decide +kernel
theorem dL_law_1372 : decode cL_law 1372 = .ok (.invokevirtual 162, 3) := by decide +kernel
theorem dL_law_1375 : decode cL_law 1375 = .ok (.aload_n 2, 1) := by decide +kernel
theorem dL_law_1376 : decode cL_law 1376 = .ok (.aload_n 0, 1) := by decide +kernel
theorem dL_law_1377 : decode cL_law 1377 = .ok (.iload_n 3, 1) := by decide +kernel
theorem dL_law_1378 : decode cL_law 1378 = .ok (.iconst 1, 1) := by decide +kernel
theorem dL_law_1379 : decode cL_law 1379 = .ok (.iadd, 1) := by decide +kernel
theorem dL_law_1380 : decode cL_law 1380 = .ok (.iaload, 1) := by decide +kernel
theorem dL_law_1381 : decode cL_law 1381 = .ok (.aload_n 0, 1) := by decide +kernel
theorem dL_law_1382 : decode cL_law 1382 = .ok (.iload_n 3, 1) := by decide +kernel
theorem dL_law_1383 : decode cL_law 1383 = .ok (.iconst 2, 1) := by decide +kernel
theorem dL_law_1384 : decode cL_law 1384 = .ok (.iadd, 1) := by decide +kernel
theorem dL_law_1385 : decode cL_law 1385 = .ok (.iaload, 1) := by decide +kernel
theorem dL_law_1386 : decode cL_law 1386 = .ok (.aload_n 0, 1) := by decide +kernel
theorem dL_law_1387 : decode cL_law 1387 = .ok (.iload_n 3, 1) := by decide +kernel
theorem dL_law_1388 : decode cL_law 1388 = .ok (.iconst 3, 1) := by decide +kernel
theorem dL_law_1389 : decode cL_law 1389 = .ok (.iadd, 1) := by decide +kernel
theorem dL_law_1390 : decode cL_law 1390 = .ok (.iaload, 1) := by decide +kernel
theorem dL_law_1391 : decode cL_law 1391 = .ok (.invokevirtual 165, 3) := by decide +kernel
theorem dL_law_1394 : decode cL_law 1394 = .ok (.if_icmp .eq 199, 3) := by decide +kernel
theorem dL_law_1397 : decode cL_law 1397 = .ok (.iconst 0, 1) := by decide +kernel
theorem dL_law_1398 : decode cL_law 1398 = .ok (.ireturn, 1) := by decide +kernel
theorem dL_law_1399 : decode cL_law 1399 = .ok (.aload_n 1, 1) := by decide +kernel
theorem dL_law_1400 : decode cL_law 1400 = .ok (.aload_n 0, 1) := by decide +kernel
theorem dL_law_1401 : decode cL_law 1401 = .ok (.iload_n 3, 1) := by decide +kernel
theorem dL_law_1402 : decode cL_law 1402 = .ok (.iconst 1, 1) := by decide +kernel
theorem dL_law_1403 : decode cL_law 1403 = .ok (.iadd, 1) := by decide +kernel
theorem dL_law_1404 : decode cL_law 1404 = .ok (.iaload, 1) := by decide +kernel
theorem dL_law_1405 : decode cL_law 1405 = .ok (.aload_n 0, 1) := by decide +kernel
theorem dL_law_1406 : decode cL_law 1406 = .ok (.iload_n 3, 1) := by decide +kernel
theorem dL_law_1407 : decode cL_law 1407 = .ok (.iconst 2, 1) := by decide +kernel
theorem dL_law_1408 : decode cL_law 1408 = .ok (.iadd, 1) := by decide +kernel
theorem dL_law_1409 : decode cL_law 1409 = .ok (.iaload, 1) := by decide +kernel
theorem dL_law_1410 : decode cL_law 1410 = .ok (.invokevirtual 166, 3) := by decide +kernel
theorem dL_law_1413 : decode cL_law 1413 = .ok (.aload_n 2, 1) := by decide +kernel
theorem dL_law_1414 : decode cL_law 1414 = .ok (.aload_n 0, 1) := by decide +kernel
theorem dL_law_1415 : decode cL_law 1415 = .ok (.iload_n 3, 1) := by decide +kernel
theorem dL_law_1416 : decode cL_law 1416 = .ok (.iconst 1, 1) := by decide +kernel
theorem dL_law_1417 : decode cL_law 1417 = .ok (.iadd, 1) := by decide +kernel
theorem dL_law_1418 : decode cL_law 1418 = .ok (.iaload, 1) := by decide +kernel
theorem dL_law_1419 : decode cL_law 1419 = .ok (.aload_n 0, 1) := by decide +kernel
theorem dL_law_1420 : decode cL_law 1420 = .ok (.iload_n 3, 1) := by decide +kernel
theorem dL_law_1421 : decode cL_law 1421 = .ok (.iconst 2, 1) := by decide +kernel
theorem dL_law_1422 : decode cL_law 1422 = .ok (.iadd, 1) := by decide +kernel
theorem dL_law_1423 : decode cL_law 1423 = .ok (.iaload, 1) := by decide +kernel
theorem dL_law_1424 : decode cL_law 1424 = .ok (.invokevirtual 169, 3) := by decide +kernel
theorem dL_law_1427 : decode cL_law 1427 = .ok (.if_icmp .eq 166, 3) := by decide +kernel
theorem dL_law_1430 : decode cL_law 1430 = .ok (.iconst 0, 1) := by decide +kernel
theorem dL_law_1431 : decode cL_law 1431 = .ok (.ireturn, 1) := by decide +kernel
theorem dL_law_1432 : decode cL_law 1432 = .ok (.aload_n 1, 1) := by decide +kernel
theorem dL_law_1433 : decode cL_law 1433 = .ok (.aload_n 0, 1) := by decide +kernel
theorem dL_law_1434 : decode cL_law 1434 = .ok (.iload_n 3, 1) := by decide +kernel
theorem dL_law_1435 : decode cL_law 1435 = .ok (.iconst 1, 1) := by decide +kernel
theorem dL_law_1436 : decode cL_law 1436 = .ok (.iadd, 1) := by decide +kernel
theorem dL_law_1437 : decode cL_law 1437 = .ok (.iaload, 1) := by decide +kernel
theorem dL_law_1438 : decode cL_law 1438 = .ok (.aload_n 0, 1) := by decide +kernel
theorem dL_law_1439 : decode cL_law 1439 = .ok (.iload_n 3, 1) := by decide +kernel
theorem dL_law_1440 : decode cL_law 1440 = .ok (.iconst 2, 1) := by decide +kernel
theorem dL_law_1441 : decode cL_law 1441 = .ok (.iadd, 1) := by decide +kernel
theorem dL_law_1442 : decode cL_law 1442 = .ok (.iaload, 1) := by decide +kernel
theorem dL_law_1443 : decode cL_law 1443 = .ok (.invokevirtual 170, 3) := by decide +kernel
theorem dL_law_1446 : decode cL_law 1446 = .ok (.aload_n 2, 1) := by decide +kernel
theorem dL_law_1447 : decode cL_law 1447 = .ok (.aload_n 0, 1) := by decide +kernel
theorem dL_law_1448 : decode cL_law 1448 = .ok (.iload_n 3, 1) := by decide +kernel
theorem dL_law_1449 : decode cL_law 1449 = .ok (.iconst 1, 1) := by decide +kernel
theorem dL_law_1450 : decode cL_law 1450 = .ok (.iadd, 1) := by decide +kernel
theorem dL_law_1451 : decode cL_law 1451 = .ok (.iaload, 1) := by decide +kernel
theorem dL_law_1452 : decode cL_law 1452 = .ok (.aload_n 0, 1) := by decide +kernel
theorem dL_law_1453 : decode cL_law 1453 = .ok (.iload_n 3, 1) := by decide +kernel
theorem dL_law_1454 : decode cL_law 1454 = .ok (.iconst 2, 1) := by decide +kernel
theorem dL_law_1455 : decode cL_law 1455 = .ok (.iadd, 1) := by decide +kernel
theorem dL_law_1456 : decode cL_law 1456 = .ok (.iaload, 1) := by decide +kernel
theorem dL_law_1457 : decode cL_law 1457 = .ok (.invokevirtual 173, 3) := by decide +kernel
theorem dL_law_1460 : decode cL_law 1460 = .ok (.if_icmp .eq 133, 3) := by decide +kernel
theorem dL_law_1463 : decode cL_law 1463 = .ok (.iconst 0, 1) := by decide +kernel
theorem dL_law_1464 : decode cL_law 1464 = .ok (.ireturn, 1) := by decide +kernel
theorem dL_law_1465 : decode cL_law 1465 = .ok (.aload_n 1, 1) := by decide +kernel
theorem dL_law_1466 : decode cL_law 1466 = .ok (.aload_n 0, 1) := by decide +kernel
theorem dL_law_1467 : decode cL_law 1467 = .ok (.iload_n 3, 1) := by decide +kernel
theorem dL_law_1468 : decode cL_law 1468 = .ok (.iconst 1, 1) := by decide +kernel
theorem dL_law_1469 : decode cL_law 1469 = .ok (.iadd, 1) := by decide +kernel
theorem dL_law_1470 : decode cL_law 1470 = .ok (.iaload, 1) := by decide +kernel
theorem dL_law_1471 : decode cL_law 1471 = .ok (.aload_n 0, 1) := by decide +kernel
theorem dL_law_1472 : decode cL_law 1472 = .ok (.iload_n 3, 1) := by decide +kernel
theorem dL_law_1473 : decode cL_law 1473 = .ok (.iconst 2, 1) := by decide +kernel
theorem dL_law_1474 : decode cL_law 1474 = .ok (.iadd, 1) := by decide +kernel
theorem dL_law_1475 : decode cL_law 1475 = .ok (.iaload, 1) := by decide +kernel
theorem dL_law_1476 : decode cL_law 1476 = .ok (.invokevirtual 174, 3) := by decide +kernel
theorem dL_law_1479 : decode cL_law 1479 = .ok (.aload_n 2, 1) := by decide +kernel
theorem dL_law_1480 : decode cL_law 1480 = .ok (.aload_n 0, 1) := by decide +kernel
theorem dL_law_1481 : decode cL_law 1481 = .ok (.iload_n 3, 1) := by decide +kernel
theorem dL_law_1482 : decode cL_law 1482 = .ok (.iconst 1, 1) := by decide +kernel
theorem dL_law_1483 : decode cL_law 1483 = .ok (.iadd, 1) := by decide +kernel
theorem dL_law_1484 : decode cL_law 1484 = .ok (.iaload, 1) := by decide +kernel
theorem dL_law_1485 : decode cL_law 1485 = .ok (.aload_n 0, 1) := by decide +kernel
theorem dL_law_1486 : decode cL_law 1486 = .ok (.iload_n 3, 1) := by decide +kernel
theorem dL_law_1487 : decode cL_law 1487 = .ok (.iconst 2, 1) := by decide +kernel
theorem dL_law_1488 : decode cL_law 1488 = .ok (.iadd, 1) := by decide +kernel
theorem dL_law_1489 : decode cL_law 1489 = .ok (.iaload, 1) := by decide +kernel
theorem dL_law_1490 : decode cL_law 1490 = .ok (.invokevirtual 177, 3) := by decide +kernel
theorem dL_law_1493 : decode cL_law 1493 = .ok (.if_icmp .eq 100, 3) := by decide +kernel
theorem dL_law_1496 : decode cL_law 1496 = .ok (.iconst 0, 1) := by decide +kernel
theorem dL_law_1497 : decode cL_law 1497 = .ok (.ireturn, 1) := by decide +kernel
theorem dL_law_1498 : decode cL_law 1498 = .ok (.aload_n 1, 1) := by decide +kernel
theorem dL_law_1499 : decode cL_law 1499 = .ok (.aload_n 0, 1) := by decide +kernel
theorem dL_law_1500 : decode cL_law 1500 = .ok (.iload_n 3, 1) := by decide +kernel
theorem dL_law_1501 : decode cL_law 1501 = .ok (.iconst 1, 1) := by decide +kernel
theorem dL_law_1502 : decode cL_law 1502 = .ok (.iadd, 1) := by decide +kernel
theorem dL_law_1503 : decode cL_law 1503 = .ok (.iaload, 1) := by decide +kernel
theorem dL_law_1504 : decode cL_law 1504 = .ok (.invokevirtual 178, 3) := by decide +kernel
theorem dL_law_1507 : decode cL_law 1507 = .ok (.aload_n 2, 1) := by decide +kernel
theorem dL_law_1508 : decode cL_law 1508 = .ok (.aload_n 0, 1) := by decide +kernel
theorem dL_law_1509 : decode cL_law 1509 = .ok (.iload_n 3, 1) := by decide +kernel
theorem dL_law_1510 : decode cL_law 1510 = .ok (.iconst 1, 1) := by decide +kernel
theorem dL_law_1511 : decode cL_law 1511 = .ok (.iadd, 1) := by decide +kernel
theorem dL_law_1512 : decode cL_law 1512 = .ok (.iaload, 1) := by decide +kernel
theorem dL_law_1513 : decode cL_law 1513 = .ok (.invokevirtual 181, 3) := by decide +kernel
theorem dL_law_1516 : decode cL_law 1516 = .ok (.if_icmp .eq 77, 3) := by decide +kernel
theorem dL_law_1519 : decode cL_law 1519 = .ok (.iconst 0, 1) := by decide +kernel
theorem dL_law_1520 : decode cL_law 1520 = .ok (.ireturn, 1) := by decide +kernel
theorem dL_law_1521 : decode cL_law 1521 = .ok (.aload_n 1, 1) := by decide +kernel
theorem dL_law_1522 : decode cL_law 1522 = .ok (.aload_n 0, 1) := by decide +kernel
theorem dL_law_1523 : decode cL_law 1523 = .ok (.iload_n 3, 1) := by decide +kernel
theorem dL_law_1524 : decode cL_law 1524 = .ok (.iconst 1, 1) := by decide +kernel
theorem dL_law_1525 : decode cL_law 1525 = .ok (.iadd, 1) := by decide +kernel
theorem dL_law_1526 : decode cL_law 1526 = .ok (.iaload, 1) := by decide +kernel
theorem dL_law_1527 : decode cL_law 1527 = .ok (.invokevirtual 182, 3) := by decide +kernel
theorem dL_law_1530 : decode cL_law 1530 = .ok (.aload_n 2, 1) := by decide +kernel
theorem dL_law_1531 : decode cL_law 1531 = .ok (.aload_n 0, 1) := by decide +kernel
theorem dL_law_1532 : decode cL_law 1532 = .ok (.iload_n 3, 1) := by decide +kernel
theorem dL_law_1533 : decode cL_law 1533 = .ok (.iconst 1, 1) := by decide +kernel
theorem dL_law_1534 : decode cL_law 1534 = .ok (.iadd, 1) := by decide +kernel
theorem dL_law_1535 : decode cL_law 1535 = .ok (.iaload, 1) := by decide +kernel
theorem dL_law_1536 : decode cL_law 1536 = .ok (.invokevirtual 185, 3) := by decide +kernel
theorem dL_law_1539 : decode cL_law 1539 = .ok (.if_icmp .eq 54, 3) := by decide +kernel
theorem dL_law_1542 : decode cL_law 1542 = .ok (.iconst 0, 1) := by decide +kernel
theorem dL_law_1543 : decode cL_law 1543 = .ok (.ireturn, 1) := by decide +kernel
theorem dL_law_1544 : decode cL_law 1544 = .ok (.aload_n 1, 1) := by decide +kernel
theorem dL_law_1545 : decode cL_law 1545 = .ok (.invokevirtual 186, 3) := by decide +kernel
theorem dL_law_1548 : decode cL_law 1548 = .ok (.aload_n 2, 1) := by decide +kernel
theorem dL_law_1549 : decode cL_law 1549 = .ok (.invokevirtual 189, 3) := by decide +kernel
theorem dL_law_1552 : decode cL_law 1552 = .ok (.if_icmp .eq 41, 3) := by decide +kernel
theorem dL_law_1555 : decode cL_law 1555 = .ok (.iconst 0, 1) := by decide +kernel
theorem dL_law_1556 : decode cL_law 1556 = .ok (.ireturn, 1) := by decide +kernel
theorem dL_law_1557 : decode cL_law 1557 = .ok (.aload_n 1, 1) := by decide +kernel
theorem dL_law_1558 : decode cL_law 1558 = .ok (.invokevirtual 190, 3) := by decide +kernel
theorem dL_law_1561 : decode cL_law 1561 = .ok (.aload_n 2, 1) := by decide +kernel
theorem dL_law_1562 : decode cL_law 1562 = .ok (.invokevirtual 193, 3) := by decide +kernel
theorem dL_law_1565 : decode cL_law 1565 = .ok (.if_icmp .eq 28, 3) := by decide +kernel
theorem dL_law_1568 : decode cL_law 1568 = .ok (.iconst 0, 1) := by decide +kernel
theorem dL_law_1569 : decode cL_law 1569 = .ok (.ireturn, 1) := by decide +kernel
theorem dL_law_1570 : decode cL_law 1570 = .ok (.aload_n 1, 1) := by decide +kernel
theorem dL_law_1571 : decode cL_law 1571 = .ok (.aload_n 0, 1) := by decide +kernel
theorem dL_law_1572 : decode cL_law 1572 = .ok (.iload_n 3, 1) := by decide +kernel
theorem dL_law_1573 : decode cL_law 1573 = .ok (.iconst 1, 1) := by decide +kernel
theorem dL_law_1574 : decode cL_law 1574 = .ok (.iadd, 1) := by decide +kernel
theorem dL_law_1575 : decode cL_law 1575 = .ok (.iaload, 1) := by decide +kernel
theorem dL_law_1576 : decode cL_law 1576 = .ok (.invokevirtual 194, 3) := by decide +kernel
theorem dL_law_1579 : decode cL_law 1579 = .ok (.aload_n 2, 1) := by decide +kernel
theorem dL_law_1580 : decode cL_law 1580 = .ok (.aload_n 0, 1) := by decide +kernel
theorem dL_law_1581 : decode cL_law 1581 = .ok (.iload_n 3, 1) := by decide +kernel
theorem dL_law_1582 : decode cL_law 1582 = .ok (.iconst 1, 1) := by decide +kernel
theorem dL_law_1583 : decode cL_law 1583 = .ok (.iadd, 1) := by decide +kernel
theorem dL_law_1584 : decode cL_law 1584 = .ok (.iaload, 1) := by decide +kernel
theorem dL_law_1585 : decode cL_law 1585 = .ok (.invokevirtual 197, 3) := by decide +kernel
theorem dL_law_1588 : decode cL_law 1588 = .ok (.if_icmp .eq 5, 3) := by decide +kernel
theorem dL_law_1591 : decode cL_law 1591 = .ok (.iconst 0, 1) := by decide +kernel
theorem dL_law_1592 : decode cL_law 1592 = .ok (.ireturn, 1) := by decide +kernel
theorem dL_law_1593 : decode cL_law 1593 = .ok (.iinc 3 6, 3) := by decide +kernel
theorem dL_law_1596 : decode cL_law 1596 = .ok (.goto (-1578), 3) := by decide +kernel
theorem dL_law_1599 : decode cL_law 1599 = .ok (.iconst 1, 1) := by decide +kernel
theorem dL_law_1600 : decode cL_law 1600 = .ok (.ireturn, 1) := by decide +kernel
abbrev x_L_law (E : mh_E) (d mc ms : Nat) (Post : Option Value → mh_H → Prop) : mh_X := (E, yL_law, cL_law, 4, (some .boolean), d, mc, ms, Post)
def q_L_law_1593 (X : mh_X) : mh_PR := s_inc 3 (6) (mh_G X 18)
theorem b_L_law_1593 {E : mh_E} {d mc ms : Nat} {Post : Option Value → mh_H → Prop} : mh_S (x_L_law E d mc ms Post) 1593 (q_L_law_1593 (x_L_law E d mc ms Post)) := sn_iinc dL_law_1593 (by decide) (Nat.le_of_ble_eq_true rfl) (sn_goto (tgt := 18) dL_law_1596 (by decide) (mh_S.G))
def q_L_law_1570 (X : mh_X) : mh_PR := s_al 1 (s_al 0 (s_il 3 (s_push (.int (1)) (s_bin (fun x y => x + y) (s_tald (s_cv X yX9_count 9 1 (s_al 2 (s_al 0 (s_il 3 (s_push (.int (1)) (s_bin (fun x y => x + y) (s_tald (s_cv X yX10_count 10 1 (s_if2 (fun x y => x = y) (q_L_law_1593 X) (s_push (.int (0)) (s_zret X))))))))))))))))
theorem b_L_law_1570 {E : mh_E} {d mc ms : Nat} {Post : Option Value → mh_H → Prop} : mh_S (x_L_law E d mc ms Post) 1570 (q_L_law_1570 (x_L_law E d mc ms Post)) := sn_aload_n dL_law_1570 rfl (sn_aload_n dL_law_1571 rfl (sn_iload_n dL_law_1572 rfl (sn_iconst dL_law_1573 (by decide) (sn_iadd dL_law_1574 (sn_taload dL_law_1575 (sn_cv w_1090 w_1091 w_1092 w_56 rfl nm_X9_count dL_law_1576 (sn_aload_n dL_law_1579 rfl (sn_aload_n dL_law_1580 rfl (sn_iload_n dL_law_1581 rfl (sn_iconst dL_law_1582 (by decide) (sn_iadd dL_law_1583 (sn_taload dL_law_1584 (sn_cv w_1562 w_1563 w_1564 w_66 rfl nm_X10_count dL_law_1585 (sn_icmp_eq (tgt := 1593) dL_law_1588 (by decide) (b_L_law_1593) (sn_iconst dL_law_1591 (by decide) (sn_zret rfl dL_law_1592))))))))))))))))
def q_L_law_1557 (X : mh_X) : mh_PR := s_al 1 (s_cv X yX9_back 9 0 (s_al 2 (s_cv X yX10_back 10 0 (s_if2 (fun x y => x = y) (q_L_law_1593 X) (s_push (.int (0)) (s_zret X))))))
theorem b_L_law_1557 {E : mh_E} {d mc ms : Nat} {Post : Option Value → mh_H → Prop} : mh_S (x_L_law E d mc ms Post) 1557 (q_L_law_1557 (x_L_law E d mc ms Post)) := sn_aload_n dL_law_1557 rfl (sn_cv w_1086 w_1087 w_1088 w_56 rfl nm_X9_back dL_law_1558 (sn_aload_n dL_law_1561 rfl (sn_cv w_1558 w_1559 w_1560 w_66 rfl nm_X10_back dL_law_1562 (sn_icmp_eq (tgt := 1593) dL_law_1565 (by decide) (b_L_law_1593) (sn_iconst dL_law_1568 (by decide) (sn_zret rfl dL_law_1569))))))
def q_L_law_1544 (X : mh_X) : mh_PR := s_al 1 (s_cv X yX9_keep 9 0 (s_al 2 (s_cv X yX10_keep 10 0 (s_if2 (fun x y => x = y) (q_L_law_1593 X) (s_push (.int (0)) (s_zret X))))))
theorem b_L_law_1544 {E : mh_E} {d mc ms : Nat} {Post : Option Value → mh_H → Prop} : mh_S (x_L_law E d mc ms Post) 1544 (q_L_law_1544 (x_L_law E d mc ms Post)) := sn_aload_n dL_law_1544 rfl (sn_cv w_1082 w_1083 w_1084 w_56 rfl nm_X9_keep dL_law_1545 (sn_aload_n dL_law_1548 rfl (sn_cv w_1554 w_1555 w_1556 w_66 rfl nm_X10_keep dL_law_1549 (sn_icmp_eq (tgt := 1593) dL_law_1552 (by decide) (b_L_law_1593) (sn_iconst dL_law_1555 (by decide) (sn_zret rfl dL_law_1556))))))
def q_L_law_1521 (X : mh_X) : mh_PR := s_al 1 (s_al 0 (s_il 3 (s_push (.int (1)) (s_bin (fun x y => x + y) (s_tald (s_cv X yX9_check 9 1 (s_al 2 (s_al 0 (s_il 3 (s_push (.int (1)) (s_bin (fun x y => x + y) (s_tald (s_cv X yX10_check 10 1 (s_if2 (fun x y => x = y) (q_L_law_1593 X) (s_push (.int (0)) (s_zret X))))))))))))))))
theorem b_L_law_1521 {E : mh_E} {d mc ms : Nat} {Post : Option Value → mh_H → Prop} : mh_S (x_L_law E d mc ms Post) 1521 (q_L_law_1521 (x_L_law E d mc ms Post)) := sn_aload_n dL_law_1521 rfl (sn_aload_n dL_law_1522 rfl (sn_iload_n dL_law_1523 rfl (sn_iconst dL_law_1524 (by decide) (sn_iadd dL_law_1525 (sn_taload dL_law_1526 (sn_cv w_1078 w_1079 w_1080 w_56 rfl nm_X9_check dL_law_1527 (sn_aload_n dL_law_1530 rfl (sn_aload_n dL_law_1531 rfl (sn_iload_n dL_law_1532 rfl (sn_iconst dL_law_1533 (by decide) (sn_iadd dL_law_1534 (sn_taload dL_law_1535 (sn_cv w_1547 w_1548 w_1549 w_66 rfl nm_X10_check dL_law_1536 (sn_icmp_eq (tgt := 1593) dL_law_1539 (by decide) (b_L_law_1593) (sn_iconst dL_law_1542 (by decide) (sn_zret rfl dL_law_1543))))))))))))))))
def q_L_law_1498 (X : mh_X) : mh_PR := s_al 1 (s_al 0 (s_il 3 (s_push (.int (1)) (s_bin (fun x y => x + y) (s_tald (s_cv X yX9_tell 9 1 (s_al 2 (s_al 0 (s_il 3 (s_push (.int (1)) (s_bin (fun x y => x + y) (s_tald (s_cv X yX10_tell 10 1 (s_if2 (fun x y => x = y) (q_L_law_1593 X) (s_push (.int (0)) (s_zret X))))))))))))))))
theorem b_L_law_1498 {E : mh_E} {d mc ms : Nat} {Post : Option Value → mh_H → Prop} : mh_S (x_L_law E d mc ms Post) 1498 (q_L_law_1498 (x_L_law E d mc ms Post)) := sn_aload_n dL_law_1498 rfl (sn_aload_n dL_law_1499 rfl (sn_iload_n dL_law_1500 rfl (sn_iconst dL_law_1501 (by decide) (sn_iadd dL_law_1502 (sn_taload dL_law_1503 (sn_cv w_1074 w_1075 w_1076 w_56 rfl nm_X9_tell dL_law_1504 (sn_aload_n dL_law_1507 rfl (sn_aload_n dL_law_1508 rfl (sn_iload_n dL_law_1509 rfl (sn_iconst dL_law_1510 (by decide) (sn_iadd dL_law_1511 (sn_taload dL_law_1512 (sn_cv w_1543 w_1544 w_1545 w_66 rfl nm_X10_tell dL_law_1513 (sn_icmp_eq (tgt := 1593) dL_law_1516 (by decide) (b_L_law_1593) (sn_iconst dL_law_1519 (by decide) (sn_zret rfl dL_law_1520))))))))))))))))
def q_L_law_1465 (X : mh_X) : mh_PR := s_al 1 (s_al 0 (s_il 3 (s_push (.int (1)) (s_bin (fun x y => x + y) (s_tald (s_al 0 (s_il 3 (s_push (.int (2)) (s_bin (fun x y => x + y) (s_tald (s_cv X yX9_rest 9 2 (s_al 2 (s_al 0 (s_il 3 (s_push (.int (1)) (s_bin (fun x y => x + y) (s_tald (s_al 0 (s_il 3 (s_push (.int (2)) (s_bin (fun x y => x + y) (s_tald (s_cv X yX10_rest 10 2 (s_if2 (fun x y => x = y) (q_L_law_1593 X) (s_push (.int (0)) (s_zret X))))))))))))))))))))))))))
theorem b_L_law_1465 {E : mh_E} {d mc ms : Nat} {Post : Option Value → mh_H → Prop} : mh_S (x_L_law E d mc ms Post) 1465 (q_L_law_1465 (x_L_law E d mc ms Post)) := sn_aload_n dL_law_1465 rfl (sn_aload_n dL_law_1466 rfl (sn_iload_n dL_law_1467 rfl (sn_iconst dL_law_1468 (by decide) (sn_iadd dL_law_1469 (sn_taload dL_law_1470 (sn_aload_n dL_law_1471 rfl (sn_iload_n dL_law_1472 rfl (sn_iconst dL_law_1473 (by decide) (sn_iadd dL_law_1474 (sn_taload dL_law_1475 (sn_cv w_1070 w_1071 w_1072 w_56 rfl nm_X9_rest dL_law_1476 (sn_aload_n dL_law_1479 rfl (sn_aload_n dL_law_1480 rfl (sn_iload_n dL_law_1481 rfl (sn_iconst dL_law_1482 (by decide) (sn_iadd dL_law_1483 (sn_taload dL_law_1484 (sn_aload_n dL_law_1485 rfl (sn_iload_n dL_law_1486 rfl (sn_iconst dL_law_1487 (by decide) (sn_iadd dL_law_1488 (sn_taload dL_law_1489 (sn_cv w_1539 w_1540 w_1541 w_66 rfl nm_X10_rest dL_law_1490 (sn_icmp_eq (tgt := 1593) dL_law_1493 (by decide) (b_L_law_1593) (sn_iconst dL_law_1496 (by decide) (sn_zret rfl dL_law_1497))))))))))))))))))))))))))
def q_L_law_1432 (X : mh_X) : mh_PR := s_al 1 (s_al 0 (s_il 3 (s_push (.int (1)) (s_bin (fun x y => x + y) (s_tald (s_al 0 (s_il 3 (s_push (.int (2)) (s_bin (fun x y => x + y) (s_tald (s_cv X yX9_item 9 2 (s_al 2 (s_al 0 (s_il 3 (s_push (.int (1)) (s_bin (fun x y => x + y) (s_tald (s_al 0 (s_il 3 (s_push (.int (2)) (s_bin (fun x y => x + y) (s_tald (s_cv X yX10_item 10 2 (s_if2 (fun x y => x = y) (q_L_law_1593 X) (s_push (.int (0)) (s_zret X))))))))))))))))))))))))))
theorem b_L_law_1432 {E : mh_E} {d mc ms : Nat} {Post : Option Value → mh_H → Prop} : mh_S (x_L_law E d mc ms Post) 1432 (q_L_law_1432 (x_L_law E d mc ms Post)) := sn_aload_n dL_law_1432 rfl (sn_aload_n dL_law_1433 rfl (sn_iload_n dL_law_1434 rfl (sn_iconst dL_law_1435 (by decide) (sn_iadd dL_law_1436 (sn_taload dL_law_1437 (sn_aload_n dL_law_1438 rfl (sn_iload_n dL_law_1439 rfl (sn_iconst dL_law_1440 (by decide) (sn_iadd dL_law_1441 (sn_taload dL_law_1442 (sn_cv w_1066 w_1067 w_1068 w_56 rfl nm_X9_item dL_law_1443 (sn_aload_n dL_law_1446 rfl (sn_aload_n dL_law_1447 rfl (sn_iload_n dL_law_1448 rfl (sn_iconst dL_law_1449 (by decide) (sn_iadd dL_law_1450 (sn_taload dL_law_1451 (sn_aload_n dL_law_1452 rfl (sn_iload_n dL_law_1453 rfl (sn_iconst dL_law_1454 (by decide) (sn_iadd dL_law_1455 (sn_taload dL_law_1456 (sn_cv w_1535 w_1536 w_1537 w_66 rfl nm_X10_item dL_law_1457 (sn_icmp_eq (tgt := 1593) dL_law_1460 (by decide) (b_L_law_1593) (sn_iconst dL_law_1463 (by decide) (sn_zret rfl dL_law_1464))))))))))))))))))))))))))
def q_L_law_1399 (X : mh_X) : mh_PR := s_al 1 (s_al 0 (s_il 3 (s_push (.int (1)) (s_bin (fun x y => x + y) (s_tald (s_al 0 (s_il 3 (s_push (.int (2)) (s_bin (fun x y => x + y) (s_tald (s_cv X yX9_ask 9 2 (s_al 2 (s_al 0 (s_il 3 (s_push (.int (1)) (s_bin (fun x y => x + y) (s_tald (s_al 0 (s_il 3 (s_push (.int (2)) (s_bin (fun x y => x + y) (s_tald (s_cv X yX10_ask 10 2 (s_if2 (fun x y => x = y) (q_L_law_1593 X) (s_push (.int (0)) (s_zret X))))))))))))))))))))))))))
theorem b_L_law_1399 {E : mh_E} {d mc ms : Nat} {Post : Option Value → mh_H → Prop} : mh_S (x_L_law E d mc ms Post) 1399 (q_L_law_1399 (x_L_law E d mc ms Post)) := sn_aload_n dL_law_1399 rfl (sn_aload_n dL_law_1400 rfl (sn_iload_n dL_law_1401 rfl (sn_iconst dL_law_1402 (by decide) (sn_iadd dL_law_1403 (sn_taload dL_law_1404 (sn_aload_n dL_law_1405 rfl (sn_iload_n dL_law_1406 rfl (sn_iconst dL_law_1407 (by decide) (sn_iadd dL_law_1408 (sn_taload dL_law_1409 (sn_cv w_1062 w_1063 w_1064 w_56 rfl nm_X9_ask dL_law_1410 (sn_aload_n dL_law_1413 rfl (sn_aload_n dL_law_1414 rfl (sn_iload_n dL_law_1415 rfl (sn_iconst dL_law_1416 (by decide) (sn_iadd dL_law_1417 (sn_taload dL_law_1418 (sn_aload_n dL_law_1419 rfl (sn_iload_n dL_law_1420 rfl (sn_iconst dL_law_1421 (by decide) (sn_iadd dL_law_1422 (sn_taload dL_law_1423 (sn_cv w_1531 w_1532 w_1533 w_66 rfl nm_X10_ask dL_law_1424 (sn_icmp_eq (tgt := 1593) dL_law_1427 (by decide) (b_L_law_1593) (sn_iconst dL_law_1430 (by decide) (sn_zret rfl dL_law_1431))))))))))))))))))))))))))
def q_L_law_1356 (X : mh_X) : mh_PR := s_al 1 (s_al 0 (s_il 3 (s_push (.int (1)) (s_bin (fun x y => x + y) (s_tald (s_al 0 (s_il 3 (s_push (.int (2)) (s_bin (fun x y => x + y) (s_tald (s_al 0 (s_il 3 (s_push (.int (3)) (s_bin (fun x y => x + y) (s_tald (s_cv X yX9_lay 9 3 (s_al 2 (s_al 0 (s_il 3 (s_push (.int (1)) (s_bin (fun x y => x + y) (s_tald (s_al 0 (s_il 3 (s_push (.int (2)) (s_bin (fun x y => x + y) (s_tald (s_al 0 (s_il 3 (s_push (.int (3)) (s_bin (fun x y => x + y) (s_tald (s_cv X yX10_lay 10 3 (s_if2 (fun x y => x = y) (q_L_law_1593 X) (s_push (.int (0)) (s_zret X))))))))))))))))))))))))))))))))))))
theorem b_L_law_1356 {E : mh_E} {d mc ms : Nat} {Post : Option Value → mh_H → Prop} : mh_S (x_L_law E d mc ms Post) 1356 (q_L_law_1356 (x_L_law E d mc ms Post)) := sn_aload_n dL_law_1356 rfl (sn_aload_n dL_law_1357 rfl (sn_iload_n dL_law_1358 rfl (sn_iconst dL_law_1359 (by decide) (sn_iadd dL_law_1360 (sn_taload dL_law_1361 (sn_aload_n dL_law_1362 rfl (sn_iload_n dL_law_1363 rfl (sn_iconst dL_law_1364 (by decide) (sn_iadd dL_law_1365 (sn_taload dL_law_1366 (sn_aload_n dL_law_1367 rfl (sn_iload_n dL_law_1368 rfl (sn_iconst dL_law_1369 (by decide) (sn_iadd dL_law_1370 (sn_taload dL_law_1371 (sn_cv w_1049 w_1050 w_1051 w_56 rfl nm_X9_lay dL_law_1372 (sn_aload_n dL_law_1375 rfl (sn_aload_n dL_law_1376 rfl (sn_iload_n dL_law_1377 rfl (sn_iconst dL_law_1378 (by decide) (sn_iadd dL_law_1379 (sn_taload dL_law_1380 (sn_aload_n dL_law_1381 rfl (sn_iload_n dL_law_1382 rfl (sn_iconst dL_law_1383 (by decide) (sn_iadd dL_law_1384 (sn_taload dL_law_1385 (sn_aload_n dL_law_1386 rfl (sn_iload_n dL_law_1387 rfl (sn_iconst dL_law_1388 (by decide) (sn_iadd dL_law_1389 (sn_taload dL_law_1390 (sn_cv w_1524 w_1525 w_1526 w_66 rfl nm_X10_lay dL_law_1391 (sn_icmp_eq (tgt := 1593) dL_law_1394 (by decide) (b_L_law_1593) (sn_iconst dL_law_1397 (by decide) (sn_zret rfl dL_law_1398))))))))))))))))))))))))))))))))))))
def q_L_law_1293 (X : mh_X) : mh_PR := s_al 1 (s_al 0 (s_il 3 (s_push (.int (1)) (s_bin (fun x y => x + y) (s_tald (s_al 0 (s_il 3 (s_push (.int (2)) (s_bin (fun x y => x + y) (s_tald (s_al 0 (s_il 3 (s_push (.int (3)) (s_bin (fun x y => x + y) (s_tald (s_al 0 (s_il 3 (s_push (.int (4)) (s_bin (fun x y => x + y) (s_tald (s_al 0 (s_il 3 (s_push (.int (5)) (s_bin (fun x y => x + y) (s_tald (s_cv X yX9_copy 9 5 (s_al 2 (s_al 0 (s_il 3 (s_push (.int (1)) (s_bin (fun x y => x + y) (s_tald (s_al 0 (s_il 3 (s_push (.int (2)) (s_bin (fun x y => x + y) (s_tald (s_al 0 (s_il 3 (s_push (.int (3)) (s_bin (fun x y => x + y) (s_tald (s_al 0 (s_il 3 (s_push (.int (4)) (s_bin (fun x y => x + y) (s_tald (s_al 0 (s_il 3 (s_push (.int (5)) (s_bin (fun x y => x + y) (s_tald (s_cv X yX10_copy 10 5 (s_if2 (fun x y => x = y) (q_L_law_1593 X) (s_push (.int (0)) (s_zret X))))))))))))))))))))))))))))))))))))))))))))))))))))))))
theorem b_L_law_1293 {E : mh_E} {d mc ms : Nat} {Post : Option Value → mh_H → Prop} : mh_S (x_L_law E d mc ms Post) 1293 (q_L_law_1293 (x_L_law E d mc ms Post)) := sn_aload_n dL_law_1293 rfl (sn_aload_n dL_law_1294 rfl (sn_iload_n dL_law_1295 rfl (sn_iconst dL_law_1296 (by decide) (sn_iadd dL_law_1297 (sn_taload dL_law_1298 (sn_aload_n dL_law_1299 rfl (sn_iload_n dL_law_1300 rfl (sn_iconst dL_law_1301 (by decide) (sn_iadd dL_law_1302 (sn_taload dL_law_1303 (sn_aload_n dL_law_1304 rfl (sn_iload_n dL_law_1305 rfl (sn_iconst dL_law_1306 (by decide) (sn_iadd dL_law_1307 (sn_taload dL_law_1308 (sn_aload_n dL_law_1309 rfl (sn_iload_n dL_law_1310 rfl (sn_iconst dL_law_1311 (by decide) (sn_iadd dL_law_1312 (sn_taload dL_law_1313 (sn_aload_n dL_law_1314 rfl (sn_iload_n dL_law_1315 rfl (sn_iconst dL_law_1316 (by decide) (sn_iadd dL_law_1317 (sn_taload dL_law_1318 (sn_cv w_1040 w_1041 w_1042 w_56 rfl nm_X9_copy dL_law_1319 (sn_aload_n dL_law_1322 rfl (sn_aload_n dL_law_1323 rfl (sn_iload_n dL_law_1324 rfl (sn_iconst dL_law_1325 (by decide) (sn_iadd dL_law_1326 (sn_taload dL_law_1327 (sn_aload_n dL_law_1328 rfl (sn_iload_n dL_law_1329 rfl (sn_iconst dL_law_1330 (by decide) (sn_iadd dL_law_1331 (sn_taload dL_law_1332 (sn_aload_n dL_law_1333 rfl (sn_iload_n dL_law_1334 rfl (sn_iconst dL_law_1335 (by decide) (sn_iadd dL_law_1336 (sn_taload dL_law_1337 (sn_aload_n dL_law_1338 rfl (sn_iload_n dL_law_1339 rfl (sn_iconst dL_law_1340 (by decide) (sn_iadd dL_law_1341 (sn_taload dL_law_1342 (sn_aload_n dL_law_1343 rfl (sn_iload_n dL_law_1344 rfl (sn_iconst dL_law_1345 (by decide) (sn_iadd dL_law_1346 (sn_taload dL_law_1347 (sn_cv w_1520 w_1521 w_1522 w_66 rfl nm_X10_copy dL_law_1348 (sn_icmp_eq (tgt := 1593) dL_law_1351 (by decide) (b_L_law_1593) (sn_iconst dL_law_1354 (by decide) (sn_zret rfl dL_law_1355))))))))))))))))))))))))))))))))))))))))))))))))))))))))
def q_L_law_1270 (X : mh_X) : mh_PR := s_al 1 (s_al 0 (s_il 3 (s_push (.int (1)) (s_bin (fun x y => x + y) (s_tald (s_cv X yX9_reads 9 1 (s_al 2 (s_al 0 (s_il 3 (s_push (.int (1)) (s_bin (fun x y => x + y) (s_tald (s_cv X yX10_reads 10 1 (s_if2 (fun x y => x = y) (q_L_law_1593 X) (s_push (.int (0)) (s_zret X))))))))))))))))
theorem b_L_law_1270 {E : mh_E} {d mc ms : Nat} {Post : Option Value → mh_H → Prop} : mh_S (x_L_law E d mc ms Post) 1270 (q_L_law_1270 (x_L_law E d mc ms Post)) := sn_aload_n dL_law_1270 rfl (sn_aload_n dL_law_1271 rfl (sn_iload_n dL_law_1272 rfl (sn_iconst dL_law_1273 (by decide) (sn_iadd dL_law_1274 (sn_taload dL_law_1275 (sn_cv w_1036 w_1037 w_1038 w_56 rfl nm_X9_reads dL_law_1276 (sn_aload_n dL_law_1279 rfl (sn_aload_n dL_law_1280 rfl (sn_iload_n dL_law_1281 rfl (sn_iconst dL_law_1282 (by decide) (sn_iadd dL_law_1283 (sn_taload dL_law_1284 (sn_cv w_1516 w_1517 w_1518 w_66 rfl nm_X10_reads dL_law_1285 (sn_icmp_eq (tgt := 1593) dL_law_1288 (by decide) (b_L_law_1593) (sn_iconst dL_law_1291 (by decide) (sn_zret rfl dL_law_1292))))))))))))))))
def q_L_law_1247 (X : mh_X) : mh_PR := s_al 1 (s_al 0 (s_il 3 (s_push (.int (1)) (s_bin (fun x y => x + y) (s_tald (s_cv X yX9_pour 9 1 (s_al 2 (s_al 0 (s_il 3 (s_push (.int (1)) (s_bin (fun x y => x + y) (s_tald (s_cv X yX10_pour 10 1 (s_if2 (fun x y => x = y) (q_L_law_1593 X) (s_push (.int (0)) (s_zret X))))))))))))))))
theorem b_L_law_1247 {E : mh_E} {d mc ms : Nat} {Post : Option Value → mh_H → Prop} : mh_S (x_L_law E d mc ms Post) 1247 (q_L_law_1247 (x_L_law E d mc ms Post)) := sn_aload_n dL_law_1247 rfl (sn_aload_n dL_law_1248 rfl (sn_iload_n dL_law_1249 rfl (sn_iconst dL_law_1250 (by decide) (sn_iadd dL_law_1251 (sn_taload dL_law_1252 (sn_cv w_1031 w_1032 w_1033 w_56 rfl nm_X9_pour dL_law_1253 (sn_aload_n dL_law_1256 rfl (sn_aload_n dL_law_1257 rfl (sn_iload_n dL_law_1258 rfl (sn_iconst dL_law_1259 (by decide) (sn_iadd dL_law_1260 (sn_taload dL_law_1261 (sn_cv w_1512 w_1513 w_1514 w_66 rfl nm_X10_pour dL_law_1262 (sn_icmp_eq (tgt := 1593) dL_law_1265 (by decide) (b_L_law_1593) (sn_iconst dL_law_1268 (by decide) (sn_zret rfl dL_law_1269))))))))))))))))
def q_L_law_1204 (X : mh_X) : mh_PR := s_al 1 (s_al 0 (s_il 3 (s_push (.int (1)) (s_bin (fun x y => x + y) (s_tald (s_al 0 (s_il 3 (s_push (.int (2)) (s_bin (fun x y => x + y) (s_tald (s_al 0 (s_il 3 (s_push (.int (3)) (s_bin (fun x y => x + y) (s_tald (s_cv X yX9_mark 9 3 (s_al 2 (s_al 0 (s_il 3 (s_push (.int (1)) (s_bin (fun x y => x + y) (s_tald (s_al 0 (s_il 3 (s_push (.int (2)) (s_bin (fun x y => x + y) (s_tald (s_al 0 (s_il 3 (s_push (.int (3)) (s_bin (fun x y => x + y) (s_tald (s_cv X yX10_mark 10 3 (s_if2 (fun x y => x = y) (q_L_law_1593 X) (s_push (.int (0)) (s_zret X))))))))))))))))))))))))))))))))))))
theorem b_L_law_1204 {E : mh_E} {d mc ms : Nat} {Post : Option Value → mh_H → Prop} : mh_S (x_L_law E d mc ms Post) 1204 (q_L_law_1204 (x_L_law E d mc ms Post)) := sn_aload_n dL_law_1204 rfl (sn_aload_n dL_law_1205 rfl (sn_iload_n dL_law_1206 rfl (sn_iconst dL_law_1207 (by decide) (sn_iadd dL_law_1208 (sn_taload dL_law_1209 (sn_aload_n dL_law_1210 rfl (sn_iload_n dL_law_1211 rfl (sn_iconst dL_law_1212 (by decide) (sn_iadd dL_law_1213 (sn_taload dL_law_1214 (sn_aload_n dL_law_1215 rfl (sn_iload_n dL_law_1216 rfl (sn_iconst dL_law_1217 (by decide) (sn_iadd dL_law_1218 (sn_taload dL_law_1219 (sn_cv w_1023 w_1024 w_1025 w_56 rfl nm_X9_mark dL_law_1220 (sn_aload_n dL_law_1223 rfl (sn_aload_n dL_law_1224 rfl (sn_iload_n dL_law_1225 rfl (sn_iconst dL_law_1226 (by decide) (sn_iadd dL_law_1227 (sn_taload dL_law_1228 (sn_aload_n dL_law_1229 rfl (sn_iload_n dL_law_1230 rfl (sn_iconst dL_law_1231 (by decide) (sn_iadd dL_law_1232 (sn_taload dL_law_1233 (sn_aload_n dL_law_1234 rfl (sn_iload_n dL_law_1235 rfl (sn_iconst dL_law_1236 (by decide) (sn_iadd dL_law_1237 (sn_taload dL_law_1238 (sn_cv w_1506 w_1507 w_1508 w_66 rfl nm_X10_mark dL_law_1239 (sn_icmp_eq (tgt := 1593) dL_law_1242 (by decide) (b_L_law_1593) (sn_iconst dL_law_1245 (by decide) (sn_zret rfl dL_law_1246))))))))))))))))))))))))))))))))))))
def q_L_law_1161 (X : mh_X) : mh_PR := s_al 1 (s_al 0 (s_il 3 (s_push (.int (1)) (s_bin (fun x y => x + y) (s_tald (s_al 0 (s_il 3 (s_push (.int (2)) (s_bin (fun x y => x + y) (s_tald (s_al 0 (s_il 3 (s_push (.int (3)) (s_bin (fun x y => x + y) (s_tald (s_cv X yX9_sheet 9 3 (s_al 2 (s_al 0 (s_il 3 (s_push (.int (1)) (s_bin (fun x y => x + y) (s_tald (s_al 0 (s_il 3 (s_push (.int (2)) (s_bin (fun x y => x + y) (s_tald (s_al 0 (s_il 3 (s_push (.int (3)) (s_bin (fun x y => x + y) (s_tald (s_cv X yX10_sheet 10 3 (s_if2 (fun x y => x = y) (q_L_law_1593 X) (s_push (.int (0)) (s_zret X))))))))))))))))))))))))))))))))))))
theorem b_L_law_1161 {E : mh_E} {d mc ms : Nat} {Post : Option Value → mh_H → Prop} : mh_S (x_L_law E d mc ms Post) 1161 (q_L_law_1161 (x_L_law E d mc ms Post)) := sn_aload_n dL_law_1161 rfl (sn_aload_n dL_law_1162 rfl (sn_iload_n dL_law_1163 rfl (sn_iconst dL_law_1164 (by decide) (sn_iadd dL_law_1165 (sn_taload dL_law_1166 (sn_aload_n dL_law_1167 rfl (sn_iload_n dL_law_1168 rfl (sn_iconst dL_law_1169 (by decide) (sn_iadd dL_law_1170 (sn_taload dL_law_1171 (sn_aload_n dL_law_1172 rfl (sn_iload_n dL_law_1173 rfl (sn_iconst dL_law_1174 (by decide) (sn_iadd dL_law_1175 (sn_taload dL_law_1176 (sn_cv w_1013 w_1014 w_1015 w_56 rfl nm_X9_sheet dL_law_1177 (sn_aload_n dL_law_1180 rfl (sn_aload_n dL_law_1181 rfl (sn_iload_n dL_law_1182 rfl (sn_iconst dL_law_1183 (by decide) (sn_iadd dL_law_1184 (sn_taload dL_law_1185 (sn_aload_n dL_law_1186 rfl (sn_iload_n dL_law_1187 rfl (sn_iconst dL_law_1188 (by decide) (sn_iadd dL_law_1189 (sn_taload dL_law_1190 (sn_aload_n dL_law_1191 rfl (sn_iload_n dL_law_1192 rfl (sn_iconst dL_law_1193 (by decide) (sn_iadd dL_law_1194 (sn_taload dL_law_1195 (sn_cv w_1501 w_1502 w_1503 w_66 rfl nm_X10_sheet dL_law_1196 (sn_icmp_eq (tgt := 1593) dL_law_1199 (by decide) (b_L_law_1593) (sn_iconst dL_law_1202 (by decide) (sn_zret rfl dL_law_1203))))))))))))))))))))))))))))))))))))
def q_L_law_1138 (X : mh_X) : mh_PR := s_al 1 (s_al 0 (s_il 3 (s_push (.int (1)) (s_bin (fun x y => x + y) (s_tald (s_cv X yX9_why 9 1 (s_al 2 (s_al 0 (s_il 3 (s_push (.int (1)) (s_bin (fun x y => x + y) (s_tald (s_cv X yX10_why 10 1 (s_if2 (fun x y => x = y) (q_L_law_1593 X) (s_push (.int (0)) (s_zret X))))))))))))))))
theorem b_L_law_1138 {E : mh_E} {d mc ms : Nat} {Post : Option Value → mh_H → Prop} : mh_S (x_L_law E d mc ms Post) 1138 (q_L_law_1138 (x_L_law E d mc ms Post)) := sn_aload_n dL_law_1138 rfl (sn_aload_n dL_law_1139 rfl (sn_iload_n dL_law_1140 rfl (sn_iconst dL_law_1141 (by decide) (sn_iadd dL_law_1142 (sn_taload dL_law_1143 (sn_cv w_1008 w_1009 w_1010 w_56 rfl nm_X9_why dL_law_1144 (sn_aload_n dL_law_1147 rfl (sn_aload_n dL_law_1148 rfl (sn_iload_n dL_law_1149 rfl (sn_iconst dL_law_1150 (by decide) (sn_iadd dL_law_1151 (sn_taload dL_law_1152 (sn_cv w_1497 w_1498 w_1499 w_66 rfl nm_X10_why dL_law_1153 (sn_icmp_eq (tgt := 1593) dL_law_1156 (by decide) (b_L_law_1593) (sn_iconst dL_law_1159 (by decide) (sn_zret rfl dL_law_1160))))))))))))))))
def q_L_law_1105 (X : mh_X) : mh_PR := s_al 1 (s_al 0 (s_il 3 (s_push (.int (1)) (s_bin (fun x y => x + y) (s_tald (s_al 0 (s_il 3 (s_push (.int (2)) (s_bin (fun x y => x + y) (s_tald (s_cv X yX9_textTold 9 2 (s_al 2 (s_al 0 (s_il 3 (s_push (.int (1)) (s_bin (fun x y => x + y) (s_tald (s_al 0 (s_il 3 (s_push (.int (2)) (s_bin (fun x y => x + y) (s_tald (s_cv X yX10_textTold 10 2 (s_if2 (fun x y => x = y) (q_L_law_1593 X) (s_push (.int (0)) (s_zret X))))))))))))))))))))))))))
theorem b_L_law_1105 {E : mh_E} {d mc ms : Nat} {Post : Option Value → mh_H → Prop} : mh_S (x_L_law E d mc ms Post) 1105 (q_L_law_1105 (x_L_law E d mc ms Post)) := sn_aload_n dL_law_1105 rfl (sn_aload_n dL_law_1106 rfl (sn_iload_n dL_law_1107 rfl (sn_iconst dL_law_1108 (by decide) (sn_iadd dL_law_1109 (sn_taload dL_law_1110 (sn_aload_n dL_law_1111 rfl (sn_iload_n dL_law_1112 rfl (sn_iconst dL_law_1113 (by decide) (sn_iadd dL_law_1114 (sn_taload dL_law_1115 (sn_cv w_1003 w_1004 w_1005 w_56 rfl nm_X9_textTold dL_law_1116 (sn_aload_n dL_law_1119 rfl (sn_aload_n dL_law_1120 rfl (sn_iload_n dL_law_1121 rfl (sn_iconst dL_law_1122 (by decide) (sn_iadd dL_law_1123 (sn_taload dL_law_1124 (sn_aload_n dL_law_1125 rfl (sn_iload_n dL_law_1126 rfl (sn_iconst dL_law_1127 (by decide) (sn_iadd dL_law_1128 (sn_taload dL_law_1129 (sn_cv w_1493 w_1494 w_1495 w_66 rfl nm_X10_textTold dL_law_1130 (sn_icmp_eq (tgt := 1593) dL_law_1133 (by decide) (b_L_law_1593) (sn_iconst dL_law_1136 (by decide) (sn_zret rfl dL_law_1137))))))))))))))))))))))))))
def q_L_law_1092 (X : mh_X) : mh_PR := s_al 1 (s_cv X yX9_text 9 0 (s_al 2 (s_cv X yX10_text 10 0 (s_if2 (fun x y => x = y) (q_L_law_1593 X) (s_push (.int (0)) (s_zret X))))))
theorem b_L_law_1092 {E : mh_E} {d mc ms : Nat} {Post : Option Value → mh_H → Prop} : mh_S (x_L_law E d mc ms Post) 1092 (q_L_law_1092 (x_L_law E d mc ms Post)) := sn_aload_n dL_law_1092 rfl (sn_cv w_772 w_773 w_774 w_56 rfl nm_X9_text dL_law_1093 (sn_aload_n dL_law_1096 rfl (sn_cv w_1446 w_1447 w_1448 w_66 rfl nm_X10_text dL_law_1097 (sn_icmp_eq (tgt := 1593) dL_law_1100 (by decide) (b_L_law_1593) (sn_iconst dL_law_1103 (by decide) (sn_zret rfl dL_law_1104))))))
def q_L_law_1069 (X : mh_X) : mh_PR := s_al 1 (s_al 0 (s_il 3 (s_push (.int (1)) (s_bin (fun x y => x + y) (s_tald (s_cv X yX9_trim 9 1 (s_al 2 (s_al 0 (s_il 3 (s_push (.int (1)) (s_bin (fun x y => x + y) (s_tald (s_cv X yX10_trim 10 1 (s_if2 (fun x y => x = y) (q_L_law_1593 X) (s_push (.int (0)) (s_zret X))))))))))))))))
theorem b_L_law_1069 {E : mh_E} {d mc ms : Nat} {Post : Option Value → mh_H → Prop} : mh_S (x_L_law E d mc ms Post) 1069 (q_L_law_1069 (x_L_law E d mc ms Post)) := sn_aload_n dL_law_1069 rfl (sn_aload_n dL_law_1070 rfl (sn_iload_n dL_law_1071 rfl (sn_iconst dL_law_1072 (by decide) (sn_iadd dL_law_1073 (sn_taload dL_law_1074 (sn_cv w_768 w_769 w_770 w_56 rfl nm_X9_trim dL_law_1075 (sn_aload_n dL_law_1078 rfl (sn_aload_n dL_law_1079 rfl (sn_iload_n dL_law_1080 rfl (sn_iconst dL_law_1081 (by decide) (sn_iadd dL_law_1082 (sn_taload dL_law_1083 (sn_cv w_1442 w_1443 w_1444 w_66 rfl nm_X10_trim dL_law_1084 (sn_icmp_eq (tgt := 1593) dL_law_1087 (by decide) (b_L_law_1593) (sn_iconst dL_law_1090 (by decide) (sn_zret rfl dL_law_1091))))))))))))))))
def q_L_law_1026 (X : mh_X) : mh_PR := s_al 1 (s_al 0 (s_il 3 (s_push (.int (1)) (s_bin (fun x y => x + y) (s_tald (s_al 0 (s_il 3 (s_push (.int (2)) (s_bin (fun x y => x + y) (s_tald (s_al 0 (s_il 3 (s_push (.int (3)) (s_bin (fun x y => x + y) (s_tald (s_cv X yX9_feed 9 3 (s_al 2 (s_al 0 (s_il 3 (s_push (.int (1)) (s_bin (fun x y => x + y) (s_tald (s_al 0 (s_il 3 (s_push (.int (2)) (s_bin (fun x y => x + y) (s_tald (s_al 0 (s_il 3 (s_push (.int (3)) (s_bin (fun x y => x + y) (s_tald (s_cv X yX10_feed 10 3 (s_if2 (fun x y => x = y) (q_L_law_1593 X) (s_push (.int (0)) (s_zret X))))))))))))))))))))))))))))))))))))
theorem b_L_law_1026 {E : mh_E} {d mc ms : Nat} {Post : Option Value → mh_H → Prop} : mh_S (x_L_law E d mc ms Post) 1026 (q_L_law_1026 (x_L_law E d mc ms Post)) := sn_aload_n dL_law_1026 rfl (sn_aload_n dL_law_1027 rfl (sn_iload_n dL_law_1028 rfl (sn_iconst dL_law_1029 (by decide) (sn_iadd dL_law_1030 (sn_taload dL_law_1031 (sn_aload_n dL_law_1032 rfl (sn_iload_n dL_law_1033 rfl (sn_iconst dL_law_1034 (by decide) (sn_iadd dL_law_1035 (sn_taload dL_law_1036 (sn_aload_n dL_law_1037 rfl (sn_iload_n dL_law_1038 rfl (sn_iconst dL_law_1039 (by decide) (sn_iadd dL_law_1040 (sn_taload dL_law_1041 (sn_cv w_759 w_760 w_761 w_56 rfl nm_X9_feed dL_law_1042 (sn_aload_n dL_law_1045 rfl (sn_aload_n dL_law_1046 rfl (sn_iload_n dL_law_1047 rfl (sn_iconst dL_law_1048 (by decide) (sn_iadd dL_law_1049 (sn_taload dL_law_1050 (sn_aload_n dL_law_1051 rfl (sn_iload_n dL_law_1052 rfl (sn_iconst dL_law_1053 (by decide) (sn_iadd dL_law_1054 (sn_taload dL_law_1055 (sn_aload_n dL_law_1056 rfl (sn_iload_n dL_law_1057 rfl (sn_iconst dL_law_1058 (by decide) (sn_iadd dL_law_1059 (sn_taload dL_law_1060 (sn_cv w_1438 w_1439 w_1440 w_66 rfl nm_X10_feed dL_law_1061 (sn_icmp_eq (tgt := 1593) dL_law_1064 (by decide) (b_L_law_1593) (sn_iconst dL_law_1067 (by decide) (sn_zret rfl dL_law_1068))))))))))))))))))))))))))))))))))))
def q_L_law_1003 (X : mh_X) : mh_PR := s_al 1 (s_al 0 (s_il 3 (s_push (.int (1)) (s_bin (fun x y => x + y) (s_tald (s_cv X yX9_fine 9 1 (s_al 2 (s_al 0 (s_il 3 (s_push (.int (1)) (s_bin (fun x y => x + y) (s_tald (s_cv X yX10_fine 10 1 (s_if2 (fun x y => x = y) (q_L_law_1593 X) (s_push (.int (0)) (s_zret X))))))))))))))))
theorem b_L_law_1003 {E : mh_E} {d mc ms : Nat} {Post : Option Value → mh_H → Prop} : mh_S (x_L_law E d mc ms Post) 1003 (q_L_law_1003 (x_L_law E d mc ms Post)) := sn_aload_n dL_law_1003 rfl (sn_aload_n dL_law_1004 rfl (sn_iload_n dL_law_1005 rfl (sn_iconst dL_law_1006 (by decide) (sn_iadd dL_law_1007 (sn_taload dL_law_1008 (sn_cv w_755 w_756 w_757 w_56 rfl nm_X9_fine dL_law_1009 (sn_aload_n dL_law_1012 rfl (sn_aload_n dL_law_1013 rfl (sn_iload_n dL_law_1014 rfl (sn_iconst dL_law_1015 (by decide) (sn_iadd dL_law_1016 (sn_taload dL_law_1017 (sn_cv w_1434 w_1435 w_1436 w_66 rfl nm_X10_fine dL_law_1018 (sn_icmp_eq (tgt := 1593) dL_law_1021 (by decide) (b_L_law_1593) (sn_iconst dL_law_1024 (by decide) (sn_zret rfl dL_law_1025))))))))))))))))
def q_L_law_990 (X : mh_X) : mh_PR := s_al 1 (s_cv X yX9_fee 9 0 (s_al 2 (s_cv X yX10_fee 10 0 (s_if2 (fun x y => x = y) (q_L_law_1593 X) (s_push (.int (0)) (s_zret X))))))
theorem b_L_law_990 {E : mh_E} {d mc ms : Nat} {Post : Option Value → mh_H → Prop} : mh_S (x_L_law E d mc ms Post) 990 (q_L_law_990 (x_L_law E d mc ms Post)) := sn_aload_n dL_law_990 rfl (sn_cv w_750 w_751 w_752 w_56 rfl nm_X9_fee dL_law_991 (sn_aload_n dL_law_994 rfl (sn_cv w_1430 w_1431 w_1432 w_66 rfl nm_X10_fee dL_law_995 (sn_icmp_eq (tgt := 1593) dL_law_998 (by decide) (b_L_law_1593) (sn_iconst dL_law_1001 (by decide) (sn_zret rfl dL_law_1002))))))
def q_L_law_957 (X : mh_X) : mh_PR := s_al 1 (s_al 0 (s_il 3 (s_push (.int (1)) (s_bin (fun x y => x + y) (s_tald (s_al 0 (s_il 3 (s_push (.int (2)) (s_bin (fun x y => x + y) (s_tald (s_cv X yX9_whose 9 2 (s_al 2 (s_al 0 (s_il 3 (s_push (.int (1)) (s_bin (fun x y => x + y) (s_tald (s_al 0 (s_il 3 (s_push (.int (2)) (s_bin (fun x y => x + y) (s_tald (s_cv X yX10_whose 10 2 (s_if2 (fun x y => x = y) (q_L_law_1593 X) (s_push (.int (0)) (s_zret X))))))))))))))))))))))))))
theorem b_L_law_957 {E : mh_E} {d mc ms : Nat} {Post : Option Value → mh_H → Prop} : mh_S (x_L_law E d mc ms Post) 957 (q_L_law_957 (x_L_law E d mc ms Post)) := sn_aload_n dL_law_957 rfl (sn_aload_n dL_law_958 rfl (sn_iload_n dL_law_959 rfl (sn_iconst dL_law_960 (by decide) (sn_iadd dL_law_961 (sn_taload dL_law_962 (sn_aload_n dL_law_963 rfl (sn_iload_n dL_law_964 rfl (sn_iconst dL_law_965 (by decide) (sn_iadd dL_law_966 (sn_taload dL_law_967 (sn_cv w_722 w_723 w_724 w_56 rfl nm_X9_whose dL_law_968 (sn_aload_n dL_law_971 rfl (sn_aload_n dL_law_972 rfl (sn_iload_n dL_law_973 rfl (sn_iconst dL_law_974 (by decide) (sn_iadd dL_law_975 (sn_taload dL_law_976 (sn_aload_n dL_law_977 rfl (sn_iload_n dL_law_978 rfl (sn_iconst dL_law_979 (by decide) (sn_iadd dL_law_980 (sn_taload dL_law_981 (sn_cv w_1422 w_1423 w_1424 w_66 rfl nm_X10_whose dL_law_982 (sn_icmp_eq (tgt := 1593) dL_law_985 (by decide) (b_L_law_1593) (sn_iconst dL_law_988 (by decide) (sn_zret rfl dL_law_989))))))))))))))))))))))))))
def q_L_law_934 (X : mh_X) : mh_PR := s_al 1 (s_al 0 (s_il 3 (s_push (.int (1)) (s_bin (fun x y => x + y) (s_tald (s_cv X yX9_latest 9 1 (s_al 2 (s_al 0 (s_il 3 (s_push (.int (1)) (s_bin (fun x y => x + y) (s_tald (s_cv X yX10_latest 10 1 (s_if2 (fun x y => x = y) (q_L_law_1593 X) (s_push (.int (0)) (s_zret X))))))))))))))))
theorem b_L_law_934 {E : mh_E} {d mc ms : Nat} {Post : Option Value → mh_H → Prop} : mh_S (x_L_law E d mc ms Post) 934 (q_L_law_934 (x_L_law E d mc ms Post)) := sn_aload_n dL_law_934 rfl (sn_aload_n dL_law_935 rfl (sn_iload_n dL_law_936 rfl (sn_iconst dL_law_937 (by decide) (sn_iadd dL_law_938 (sn_taload dL_law_939 (sn_cv w_718 w_719 w_720 w_56 rfl nm_X9_latest dL_law_940 (sn_aload_n dL_law_943 rfl (sn_aload_n dL_law_944 rfl (sn_iload_n dL_law_945 rfl (sn_iconst dL_law_946 (by decide) (sn_iadd dL_law_947 (sn_taload dL_law_948 (sn_cv w_1418 w_1419 w_1420 w_66 rfl nm_X10_latest dL_law_949 (sn_icmp_eq (tgt := 1593) dL_law_952 (by decide) (b_L_law_1593) (sn_iconst dL_law_955 (by decide) (sn_zret rfl dL_law_956))))))))))))))))
def q_L_law_891 (X : mh_X) : mh_PR := s_al 1 (s_al 0 (s_il 3 (s_push (.int (1)) (s_bin (fun x y => x + y) (s_tald (s_al 0 (s_il 3 (s_push (.int (2)) (s_bin (fun x y => x + y) (s_tald (s_al 0 (s_il 3 (s_push (.int (3)) (s_bin (fun x y => x + y) (s_tald (s_cv X yX9_becomes 9 3 (s_al 2 (s_al 0 (s_il 3 (s_push (.int (1)) (s_bin (fun x y => x + y) (s_tald (s_al 0 (s_il 3 (s_push (.int (2)) (s_bin (fun x y => x + y) (s_tald (s_al 0 (s_il 3 (s_push (.int (3)) (s_bin (fun x y => x + y) (s_tald (s_cv X yX10_becomes 10 3 (s_if2 (fun x y => x = y) (q_L_law_1593 X) (s_push (.int (0)) (s_zret X))))))))))))))))))))))))))))))))))))
theorem b_L_law_891 {E : mh_E} {d mc ms : Nat} {Post : Option Value → mh_H → Prop} : mh_S (x_L_law E d mc ms Post) 891 (q_L_law_891 (x_L_law E d mc ms Post)) := sn_aload_n dL_law_891 rfl (sn_aload_n dL_law_892 rfl (sn_iload_n dL_law_893 rfl (sn_iconst dL_law_894 (by decide) (sn_iadd dL_law_895 (sn_taload dL_law_896 (sn_aload_n dL_law_897 rfl (sn_iload_n dL_law_898 rfl (sn_iconst dL_law_899 (by decide) (sn_iadd dL_law_900 (sn_taload dL_law_901 (sn_aload_n dL_law_902 rfl (sn_iload_n dL_law_903 rfl (sn_iconst dL_law_904 (by decide) (sn_iadd dL_law_905 (sn_taload dL_law_906 (sn_cv w_714 w_715 w_716 w_56 rfl nm_X9_becomes dL_law_907 (sn_aload_n dL_law_910 rfl (sn_aload_n dL_law_911 rfl (sn_iload_n dL_law_912 rfl (sn_iconst dL_law_913 (by decide) (sn_iadd dL_law_914 (sn_taload dL_law_915 (sn_aload_n dL_law_916 rfl (sn_iload_n dL_law_917 rfl (sn_iconst dL_law_918 (by decide) (sn_iadd dL_law_919 (sn_taload dL_law_920 (sn_aload_n dL_law_921 rfl (sn_iload_n dL_law_922 rfl (sn_iconst dL_law_923 (by decide) (sn_iadd dL_law_924 (sn_taload dL_law_925 (sn_cv w_1414 w_1415 w_1416 w_66 rfl nm_X10_becomes dL_law_926 (sn_icmp_eq (tgt := 1593) dL_law_929 (by decide) (b_L_law_1593) (sn_iconst dL_law_932 (by decide) (sn_zret rfl dL_law_933))))))))))))))))))))))))))))))))))))
def q_L_law_858 (X : mh_X) : mh_PR := s_al 1 (s_al 0 (s_il 3 (s_push (.int (1)) (s_bin (fun x y => x + y) (s_tald (s_al 0 (s_il 3 (s_push (.int (2)) (s_bin (fun x y => x + y) (s_tald (s_cv X yX9_scrap 9 2 (s_al 2 (s_al 0 (s_il 3 (s_push (.int (1)) (s_bin (fun x y => x + y) (s_tald (s_al 0 (s_il 3 (s_push (.int (2)) (s_bin (fun x y => x + y) (s_tald (s_cv X yX10_scrap 10 2 (s_if2 (fun x y => x = y) (q_L_law_1593 X) (s_push (.int (0)) (s_zret X))))))))))))))))))))))))))
theorem b_L_law_858 {E : mh_E} {d mc ms : Nat} {Post : Option Value → mh_H → Prop} : mh_S (x_L_law E d mc ms Post) 858 (q_L_law_858 (x_L_law E d mc ms Post)) := sn_aload_n dL_law_858 rfl (sn_aload_n dL_law_859 rfl (sn_iload_n dL_law_860 rfl (sn_iconst dL_law_861 (by decide) (sn_iadd dL_law_862 (sn_taload dL_law_863 (sn_aload_n dL_law_864 rfl (sn_iload_n dL_law_865 rfl (sn_iconst dL_law_866 (by decide) (sn_iadd dL_law_867 (sn_taload dL_law_868 (sn_cv w_704 w_705 w_706 w_56 rfl nm_X9_scrap dL_law_869 (sn_aload_n dL_law_872 rfl (sn_aload_n dL_law_873 rfl (sn_iload_n dL_law_874 rfl (sn_iconst dL_law_875 (by decide) (sn_iadd dL_law_876 (sn_taload dL_law_877 (sn_aload_n dL_law_878 rfl (sn_iload_n dL_law_879 rfl (sn_iconst dL_law_880 (by decide) (sn_iadd dL_law_881 (sn_taload dL_law_882 (sn_cv w_1410 w_1411 w_1412 w_66 rfl nm_X10_scrap dL_law_883 (sn_icmp_eq (tgt := 1593) dL_law_886 (by decide) (b_L_law_1593) (sn_iconst dL_law_889 (by decide) (sn_zret rfl dL_law_890))))))))))))))))))))))))))
def q_L_law_825 (X : mh_X) : mh_PR := s_al 1 (s_al 0 (s_il 3 (s_push (.int (1)) (s_bin (fun x y => x + y) (s_tald (s_al 0 (s_il 3 (s_push (.int (2)) (s_bin (fun x y => x + y) (s_tald (s_cv X yX9_raised 9 2 (s_al 2 (s_al 0 (s_il 3 (s_push (.int (1)) (s_bin (fun x y => x + y) (s_tald (s_al 0 (s_il 3 (s_push (.int (2)) (s_bin (fun x y => x + y) (s_tald (s_cv X yX10_raised 10 2 (s_if2 (fun x y => x = y) (q_L_law_1593 X) (s_push (.int (0)) (s_zret X))))))))))))))))))))))))))
theorem b_L_law_825 {E : mh_E} {d mc ms : Nat} {Post : Option Value → mh_H → Prop} : mh_S (x_L_law E d mc ms Post) 825 (q_L_law_825 (x_L_law E d mc ms Post)) := sn_aload_n dL_law_825 rfl (sn_aload_n dL_law_826 rfl (sn_iload_n dL_law_827 rfl (sn_iconst dL_law_828 (by decide) (sn_iadd dL_law_829 (sn_taload dL_law_830 (sn_aload_n dL_law_831 rfl (sn_iload_n dL_law_832 rfl (sn_iconst dL_law_833 (by decide) (sn_iadd dL_law_834 (sn_taload dL_law_835 (sn_cv w_700 w_701 w_702 w_56 rfl nm_X9_raised dL_law_836 (sn_aload_n dL_law_839 rfl (sn_aload_n dL_law_840 rfl (sn_iload_n dL_law_841 rfl (sn_iconst dL_law_842 (by decide) (sn_iadd dL_law_843 (sn_taload dL_law_844 (sn_aload_n dL_law_845 rfl (sn_iload_n dL_law_846 rfl (sn_iconst dL_law_847 (by decide) (sn_iadd dL_law_848 (sn_taload dL_law_849 (sn_cv w_1406 w_1407 w_1408 w_66 rfl nm_X10_raised dL_law_850 (sn_icmp_eq (tgt := 1593) dL_law_853 (by decide) (b_L_law_1593) (sn_iconst dL_law_856 (by decide) (sn_zret rfl dL_law_857))))))))))))))))))))))))))
def q_L_law_792 (X : mh_X) : mh_PR := s_al 1 (s_al 0 (s_il 3 (s_push (.int (1)) (s_bin (fun x y => x + y) (s_tald (s_al 0 (s_il 3 (s_push (.int (2)) (s_bin (fun x y => x + y) (s_tald (s_cv X yX9_sent 9 2 (s_al 2 (s_al 0 (s_il 3 (s_push (.int (1)) (s_bin (fun x y => x + y) (s_tald (s_al 0 (s_il 3 (s_push (.int (2)) (s_bin (fun x y => x + y) (s_tald (s_cv X yX10_sent 10 2 (s_if2 (fun x y => x = y) (q_L_law_1593 X) (s_push (.int (0)) (s_zret X))))))))))))))))))))))))))
theorem b_L_law_792 {E : mh_E} {d mc ms : Nat} {Post : Option Value → mh_H → Prop} : mh_S (x_L_law E d mc ms Post) 792 (q_L_law_792 (x_L_law E d mc ms Post)) := sn_aload_n dL_law_792 rfl (sn_aload_n dL_law_793 rfl (sn_iload_n dL_law_794 rfl (sn_iconst dL_law_795 (by decide) (sn_iadd dL_law_796 (sn_taload dL_law_797 (sn_aload_n dL_law_798 rfl (sn_iload_n dL_law_799 rfl (sn_iconst dL_law_800 (by decide) (sn_iadd dL_law_801 (sn_taload dL_law_802 (sn_cv w_696 w_697 w_698 w_56 rfl nm_X9_sent dL_law_803 (sn_aload_n dL_law_806 rfl (sn_aload_n dL_law_807 rfl (sn_iload_n dL_law_808 rfl (sn_iconst dL_law_809 (by decide) (sn_iadd dL_law_810 (sn_taload dL_law_811 (sn_aload_n dL_law_812 rfl (sn_iload_n dL_law_813 rfl (sn_iconst dL_law_814 (by decide) (sn_iadd dL_law_815 (sn_taload dL_law_816 (sn_cv w_1398 w_1399 w_1400 w_66 rfl nm_X10_sent dL_law_817 (sn_icmp_eq (tgt := 1593) dL_law_820 (by decide) (b_L_law_1593) (sn_iconst dL_law_823 (by decide) (sn_zret rfl dL_law_824))))))))))))))))))))))))))
def q_L_law_769 (X : mh_X) : mh_PR := s_al 1 (s_al 0 (s_il 3 (s_push (.int (1)) (s_bin (fun x y => x + y) (s_tald (s_cv X yX9_fulfils 9 1 (s_al 2 (s_al 0 (s_il 3 (s_push (.int (1)) (s_bin (fun x y => x + y) (s_tald (s_cv X yX10_fulfils 10 1 (s_if2 (fun x y => x = y) (q_L_law_1593 X) (s_push (.int (0)) (s_zret X))))))))))))))))
theorem b_L_law_769 {E : mh_E} {d mc ms : Nat} {Post : Option Value → mh_H → Prop} : mh_S (x_L_law E d mc ms Post) 769 (q_L_law_769 (x_L_law E d mc ms Post)) := sn_aload_n dL_law_769 rfl (sn_aload_n dL_law_770 rfl (sn_iload_n dL_law_771 rfl (sn_iconst dL_law_772 (by decide) (sn_iadd dL_law_773 (sn_taload dL_law_774 (sn_cv w_687 w_688 w_689 w_56 rfl nm_X9_fulfils dL_law_775 (sn_aload_n dL_law_778 rfl (sn_aload_n dL_law_779 rfl (sn_iload_n dL_law_780 rfl (sn_iconst dL_law_781 (by decide) (sn_iadd dL_law_782 (sn_taload dL_law_783 (sn_cv w_1394 w_1395 w_1396 w_66 rfl nm_X10_fulfils dL_law_784 (sn_icmp_eq (tgt := 1593) dL_law_787 (by decide) (b_L_law_1593) (sn_iconst dL_law_790 (by decide) (sn_zret rfl dL_law_791))))))))))))))))
def q_L_law_736 (X : mh_X) : mh_PR := s_al 1 (s_al 0 (s_il 3 (s_push (.int (1)) (s_bin (fun x y => x + y) (s_tald (s_al 0 (s_il 3 (s_push (.int (2)) (s_bin (fun x y => x + y) (s_tald (s_cv X yX9_behind 9 2 (s_al 2 (s_al 0 (s_il 3 (s_push (.int (1)) (s_bin (fun x y => x + y) (s_tald (s_al 0 (s_il 3 (s_push (.int (2)) (s_bin (fun x y => x + y) (s_tald (s_cv X yX10_behind 10 2 (s_if2 (fun x y => x = y) (q_L_law_1593 X) (s_push (.int (0)) (s_zret X))))))))))))))))))))))))))
theorem b_L_law_736 {E : mh_E} {d mc ms : Nat} {Post : Option Value → mh_H → Prop} : mh_S (x_L_law E d mc ms Post) 736 (q_L_law_736 (x_L_law E d mc ms Post)) := sn_aload_n dL_law_736 rfl (sn_aload_n dL_law_737 rfl (sn_iload_n dL_law_738 rfl (sn_iconst dL_law_739 (by decide) (sn_iadd dL_law_740 (sn_taload dL_law_741 (sn_aload_n dL_law_742 rfl (sn_iload_n dL_law_743 rfl (sn_iconst dL_law_744 (by decide) (sn_iadd dL_law_745 (sn_taload dL_law_746 (sn_cv w_654 w_655 w_656 w_56 rfl nm_X9_behind dL_law_747 (sn_aload_n dL_law_750 rfl (sn_aload_n dL_law_751 rfl (sn_iload_n dL_law_752 rfl (sn_iconst dL_law_753 (by decide) (sn_iadd dL_law_754 (sn_taload dL_law_755 (sn_aload_n dL_law_756 rfl (sn_iload_n dL_law_757 rfl (sn_iconst dL_law_758 (by decide) (sn_iadd dL_law_759 (sn_taload dL_law_760 (sn_cv w_1390 w_1391 w_1392 w_66 rfl nm_X10_behind dL_law_761 (sn_icmp_eq (tgt := 1593) dL_law_764 (by decide) (b_L_law_1593) (sn_iconst dL_law_767 (by decide) (sn_zret rfl dL_law_768))))))))))))))))))))))))))
def q_L_law_703 (X : mh_X) : mh_PR := s_al 1 (s_al 0 (s_il 3 (s_push (.int (1)) (s_bin (fun x y => x + y) (s_tald (s_al 0 (s_il 3 (s_push (.int (2)) (s_bin (fun x y => x + y) (s_tald (s_cv X yX9_clash 9 2 (s_al 2 (s_al 0 (s_il 3 (s_push (.int (1)) (s_bin (fun x y => x + y) (s_tald (s_al 0 (s_il 3 (s_push (.int (2)) (s_bin (fun x y => x + y) (s_tald (s_cv X yX10_clash 10 2 (s_if2 (fun x y => x = y) (q_L_law_1593 X) (s_push (.int (0)) (s_zret X))))))))))))))))))))))))))
theorem b_L_law_703 {E : mh_E} {d mc ms : Nat} {Post : Option Value → mh_H → Prop} : mh_S (x_L_law E d mc ms Post) 703 (q_L_law_703 (x_L_law E d mc ms Post)) := sn_aload_n dL_law_703 rfl (sn_aload_n dL_law_704 rfl (sn_iload_n dL_law_705 rfl (sn_iconst dL_law_706 (by decide) (sn_iadd dL_law_707 (sn_taload dL_law_708 (sn_aload_n dL_law_709 rfl (sn_iload_n dL_law_710 rfl (sn_iconst dL_law_711 (by decide) (sn_iadd dL_law_712 (sn_taload dL_law_713 (sn_cv w_650 w_651 w_652 w_56 rfl nm_X9_clash dL_law_714 (sn_aload_n dL_law_717 rfl (sn_aload_n dL_law_718 rfl (sn_iload_n dL_law_719 rfl (sn_iconst dL_law_720 (by decide) (sn_iadd dL_law_721 (sn_taload dL_law_722 (sn_aload_n dL_law_723 rfl (sn_iload_n dL_law_724 rfl (sn_iconst dL_law_725 (by decide) (sn_iadd dL_law_726 (sn_taload dL_law_727 (sn_cv w_1386 w_1387 w_1388 w_66 rfl nm_X10_clash dL_law_728 (sn_icmp_eq (tgt := 1593) dL_law_731 (by decide) (b_L_law_1593) (sn_iconst dL_law_734 (by decide) (sn_zret rfl dL_law_735))))))))))))))))))))))))))
def q_L_law_680 (X : mh_X) : mh_PR := s_al 1 (s_al 0 (s_il 3 (s_push (.int (1)) (s_bin (fun x y => x + y) (s_tald (s_cv X yX9_together 9 1 (s_al 2 (s_al 0 (s_il 3 (s_push (.int (1)) (s_bin (fun x y => x + y) (s_tald (s_cv X yX10_together 10 1 (s_if2 (fun x y => x = y) (q_L_law_1593 X) (s_push (.int (0)) (s_zret X))))))))))))))))
theorem b_L_law_680 {E : mh_E} {d mc ms : Nat} {Post : Option Value → mh_H → Prop} : mh_S (x_L_law E d mc ms Post) 680 (q_L_law_680 (x_L_law E d mc ms Post)) := sn_aload_n dL_law_680 rfl (sn_aload_n dL_law_681 rfl (sn_iload_n dL_law_682 rfl (sn_iconst dL_law_683 (by decide) (sn_iadd dL_law_684 (sn_taload dL_law_685 (sn_cv w_612 w_613 w_614 w_56 rfl nm_X9_together dL_law_686 (sn_aload_n dL_law_689 rfl (sn_aload_n dL_law_690 rfl (sn_iload_n dL_law_691 rfl (sn_iconst dL_law_692 (by decide) (sn_iadd dL_law_693 (sn_taload dL_law_694 (sn_cv w_1370 w_1371 w_1372 w_66 rfl nm_X10_together dL_law_695 (sn_icmp_eq (tgt := 1593) dL_law_698 (by decide) (b_L_law_1593) (sn_iconst dL_law_701 (by decide) (sn_zret rfl dL_law_702))))))))))))))))
def q_L_law_657 (X : mh_X) : mh_PR := s_al 1 (s_al 0 (s_il 3 (s_push (.int (1)) (s_bin (fun x y => x + y) (s_tald (s_cv X yX9_city 9 1 (s_al 2 (s_al 0 (s_il 3 (s_push (.int (1)) (s_bin (fun x y => x + y) (s_tald (s_cv X yX10_city 10 1 (s_if2 (fun x y => x = y) (q_L_law_1593 X) (s_push (.int (0)) (s_zret X))))))))))))))))
theorem b_L_law_657 {E : mh_E} {d mc ms : Nat} {Post : Option Value → mh_H → Prop} : mh_S (x_L_law E d mc ms Post) 657 (q_L_law_657 (x_L_law E d mc ms Post)) := sn_aload_n dL_law_657 rfl (sn_aload_n dL_law_658 rfl (sn_iload_n dL_law_659 rfl (sn_iconst dL_law_660 (by decide) (sn_iadd dL_law_661 (sn_taload dL_law_662 (sn_cv w_592 w_593 w_594 w_56 rfl nm_X9_city dL_law_663 (sn_aload_n dL_law_666 rfl (sn_aload_n dL_law_667 rfl (sn_iload_n dL_law_668 rfl (sn_iconst dL_law_669 (by decide) (sn_iadd dL_law_670 (sn_taload dL_law_671 (sn_cv w_1358 w_1359 w_1360 w_66 rfl nm_X10_city dL_law_672 (sn_icmp_eq (tgt := 1593) dL_law_675 (by decide) (b_L_law_1593) (sn_iconst dL_law_678 (by decide) (sn_zret rfl dL_law_679))))))))))))))))
def q_L_law_634 (X : mh_X) : mh_PR := s_al 1 (s_al 0 (s_il 3 (s_push (.int (1)) (s_bin (fun x y => x + y) (s_tald (s_cv X yX9_years 9 1 (s_al 2 (s_al 0 (s_il 3 (s_push (.int (1)) (s_bin (fun x y => x + y) (s_tald (s_cv X yX10_years 10 1 (s_if2 (fun x y => x = y) (q_L_law_1593 X) (s_push (.int (0)) (s_zret X))))))))))))))))
theorem b_L_law_634 {E : mh_E} {d mc ms : Nat} {Post : Option Value → mh_H → Prop} : mh_S (x_L_law E d mc ms Post) 634 (q_L_law_634 (x_L_law E d mc ms Post)) := sn_aload_n dL_law_634 rfl (sn_aload_n dL_law_635 rfl (sn_iload_n dL_law_636 rfl (sn_iconst dL_law_637 (by decide) (sn_iadd dL_law_638 (sn_taload dL_law_639 (sn_cv w_565 w_566 w_567 w_56 rfl nm_X9_years dL_law_640 (sn_aload_n dL_law_643 rfl (sn_aload_n dL_law_644 rfl (sn_iload_n dL_law_645 rfl (sn_iconst dL_law_646 (by decide) (sn_iadd dL_law_647 (sn_taload dL_law_648 (sn_cv w_1335 w_1336 w_1337 w_66 rfl nm_X10_years dL_law_649 (sn_icmp_eq (tgt := 1593) dL_law_652 (by decide) (b_L_law_1593) (sn_iconst dL_law_655 (by decide) (sn_zret rfl dL_law_656))))))))))))))))
def q_L_law_611 (X : mh_X) : mh_PR := s_al 1 (s_al 0 (s_il 3 (s_push (.int (1)) (s_bin (fun x y => x + y) (s_tald (s_cv X yX9_seed 9 1 (s_al 2 (s_al 0 (s_il 3 (s_push (.int (1)) (s_bin (fun x y => x + y) (s_tald (s_cv X yX10_seed 10 1 (s_if2 (fun x y => x = y) (q_L_law_1593 X) (s_push (.int (0)) (s_zret X))))))))))))))))
theorem b_L_law_611 {E : mh_E} {d mc ms : Nat} {Post : Option Value → mh_H → Prop} : mh_S (x_L_law E d mc ms Post) 611 (q_L_law_611 (x_L_law E d mc ms Post)) := sn_aload_n dL_law_611 rfl (sn_aload_n dL_law_612 rfl (sn_iload_n dL_law_613 rfl (sn_iconst dL_law_614 (by decide) (sn_iadd dL_law_615 (sn_taload dL_law_616 (sn_cv w_561 w_562 w_563 w_56 rfl nm_X9_seed dL_law_617 (sn_aload_n dL_law_620 rfl (sn_aload_n dL_law_621 rfl (sn_iload_n dL_law_622 rfl (sn_iconst dL_law_623 (by decide) (sn_iadd dL_law_624 (sn_taload dL_law_625 (sn_cv w_1331 w_1332 w_1333 w_66 rfl nm_X10_seed dL_law_626 (sn_icmp_eq (tgt := 1593) dL_law_629 (by decide) (b_L_law_1593) (sn_iconst dL_law_632 (by decide) (sn_zret rfl dL_law_633))))))))))))))))
def q_L_law_588 (X : mh_X) : mh_PR := s_al 1 (s_al 0 (s_il 3 (s_push (.int (1)) (s_bin (fun x y => x + y) (s_tald (s_cv X yX9_deal 9 1 (s_al 2 (s_al 0 (s_il 3 (s_push (.int (1)) (s_bin (fun x y => x + y) (s_tald (s_cv X yX10_deal 10 1 (s_if2 (fun x y => x = y) (q_L_law_1593 X) (s_push (.int (0)) (s_zret X))))))))))))))))
theorem b_L_law_588 {E : mh_E} {d mc ms : Nat} {Post : Option Value → mh_H → Prop} : mh_S (x_L_law E d mc ms Post) 588 (q_L_law_588 (x_L_law E d mc ms Post)) := sn_aload_n dL_law_588 rfl (sn_aload_n dL_law_589 rfl (sn_iload_n dL_law_590 rfl (sn_iconst dL_law_591 (by decide) (sn_iadd dL_law_592 (sn_taload dL_law_593 (sn_cv w_547 w_548 w_549 w_56 rfl nm_X9_deal dL_law_594 (sn_aload_n dL_law_597 rfl (sn_aload_n dL_law_598 rfl (sn_iload_n dL_law_599 rfl (sn_iconst dL_law_600 (by decide) (sn_iadd dL_law_601 (sn_taload dL_law_602 (sn_cv w_1322 w_1323 w_1324 w_66 rfl nm_X10_deal dL_law_603 (sn_icmp_eq (tgt := 1593) dL_law_606 (by decide) (b_L_law_1593) (sn_iconst dL_law_609 (by decide) (sn_zret rfl dL_law_610))))))))))))))))
def q_L_law_555 (X : mh_X) : mh_PR := s_al 1 (s_al 0 (s_il 3 (s_push (.int (1)) (s_bin (fun x y => x + y) (s_tald (s_al 0 (s_il 3 (s_push (.int (2)) (s_bin (fun x y => x + y) (s_tald (s_cv X yX9_rule 9 2 (s_al 2 (s_al 0 (s_il 3 (s_push (.int (1)) (s_bin (fun x y => x + y) (s_tald (s_al 0 (s_il 3 (s_push (.int (2)) (s_bin (fun x y => x + y) (s_tald (s_cv X yX10_rule 10 2 (s_if2 (fun x y => x = y) (q_L_law_1593 X) (s_push (.int (0)) (s_zret X))))))))))))))))))))))))))
theorem b_L_law_555 {E : mh_E} {d mc ms : Nat} {Post : Option Value → mh_H → Prop} : mh_S (x_L_law E d mc ms Post) 555 (q_L_law_555 (x_L_law E d mc ms Post)) := sn_aload_n dL_law_555 rfl (sn_aload_n dL_law_556 rfl (sn_iload_n dL_law_557 rfl (sn_iconst dL_law_558 (by decide) (sn_iadd dL_law_559 (sn_taload dL_law_560 (sn_aload_n dL_law_561 rfl (sn_iload_n dL_law_562 rfl (sn_iconst dL_law_563 (by decide) (sn_iadd dL_law_564 (sn_taload dL_law_565 (sn_cv w_543 w_544 w_545 w_56 rfl nm_X9_rule dL_law_566 (sn_aload_n dL_law_569 rfl (sn_aload_n dL_law_570 rfl (sn_iload_n dL_law_571 rfl (sn_iconst dL_law_572 (by decide) (sn_iadd dL_law_573 (sn_taload dL_law_574 (sn_aload_n dL_law_575 rfl (sn_iload_n dL_law_576 rfl (sn_iconst dL_law_577 (by decide) (sn_iadd dL_law_578 (sn_taload dL_law_579 (sn_cv w_1318 w_1319 w_1320 w_66 rfl nm_X10_rule dL_law_580 (sn_icmp_eq (tgt := 1593) dL_law_583 (by decide) (b_L_law_1593) (sn_iconst dL_law_586 (by decide) (sn_zret rfl dL_law_587))))))))))))))))))))))))))
def q_L_law_532 (X : mh_X) : mh_PR := s_al 1 (s_al 0 (s_il 3 (s_push (.int (1)) (s_bin (fun x y => x + y) (s_tald (s_cv X yX9_at 9 1 (s_al 2 (s_al 0 (s_il 3 (s_push (.int (1)) (s_bin (fun x y => x + y) (s_tald (s_cv X yX10_at 10 1 (s_if2 (fun x y => x = y) (q_L_law_1593 X) (s_push (.int (0)) (s_zret X))))))))))))))))
theorem b_L_law_532 {E : mh_E} {d mc ms : Nat} {Post : Option Value → mh_H → Prop} : mh_S (x_L_law E d mc ms Post) 532 (q_L_law_532 (x_L_law E d mc ms Post)) := sn_aload_n dL_law_532 rfl (sn_aload_n dL_law_533 rfl (sn_iload_n dL_law_534 rfl (sn_iconst dL_law_535 (by decide) (sn_iadd dL_law_536 (sn_taload dL_law_537 (sn_cv w_538 w_539 w_540 w_56 rfl nm_X9_at dL_law_538 (sn_aload_n dL_law_541 rfl (sn_aload_n dL_law_542 rfl (sn_iload_n dL_law_543 rfl (sn_iconst dL_law_544 (by decide) (sn_iadd dL_law_545 (sn_taload dL_law_546 (sn_cv w_1314 w_1315 w_1316 w_66 rfl nm_X10_at dL_law_547 (sn_icmp_eq (tgt := 1593) dL_law_550 (by decide) (b_L_law_1593) (sn_iconst dL_law_553 (by decide) (sn_zret rfl dL_law_554))))))))))))))))
def q_L_law_489 (X : mh_X) : mh_PR := s_al 1 (s_al 0 (s_il 3 (s_push (.int (1)) (s_bin (fun x y => x + y) (s_tald (s_al 0 (s_il 3 (s_push (.int (2)) (s_bin (fun x y => x + y) (s_tald (s_al 0 (s_il 3 (s_push (.int (3)) (s_bin (fun x y => x + y) (s_tald (s_cv X yX9_sends 9 3 (s_al 2 (s_al 0 (s_il 3 (s_push (.int (1)) (s_bin (fun x y => x + y) (s_tald (s_al 0 (s_il 3 (s_push (.int (2)) (s_bin (fun x y => x + y) (s_tald (s_al 0 (s_il 3 (s_push (.int (3)) (s_bin (fun x y => x + y) (s_tald (s_cv X yX10_sends 10 3 (s_if2 (fun x y => x = y) (q_L_law_1593 X) (s_push (.int (0)) (s_zret X))))))))))))))))))))))))))))))))))))
theorem b_L_law_489 {E : mh_E} {d mc ms : Nat} {Post : Option Value → mh_H → Prop} : mh_S (x_L_law E d mc ms Post) 489 (q_L_law_489 (x_L_law E d mc ms Post)) := sn_aload_n dL_law_489 rfl (sn_aload_n dL_law_490 rfl (sn_iload_n dL_law_491 rfl (sn_iconst dL_law_492 (by decide) (sn_iadd dL_law_493 (sn_taload dL_law_494 (sn_aload_n dL_law_495 rfl (sn_iload_n dL_law_496 rfl (sn_iconst dL_law_497 (by decide) (sn_iadd dL_law_498 (sn_taload dL_law_499 (sn_aload_n dL_law_500 rfl (sn_iload_n dL_law_501 rfl (sn_iconst dL_law_502 (by decide) (sn_iadd dL_law_503 (sn_taload dL_law_504 (sn_cv w_525 w_526 w_527 w_56 rfl nm_X9_sends dL_law_505 (sn_aload_n dL_law_508 rfl (sn_aload_n dL_law_509 rfl (sn_iload_n dL_law_510 rfl (sn_iconst dL_law_511 (by decide) (sn_iadd dL_law_512 (sn_taload dL_law_513 (sn_aload_n dL_law_514 rfl (sn_iload_n dL_law_515 rfl (sn_iconst dL_law_516 (by decide) (sn_iadd dL_law_517 (sn_taload dL_law_518 (sn_aload_n dL_law_519 rfl (sn_iload_n dL_law_520 rfl (sn_iconst dL_law_521 (by decide) (sn_iadd dL_law_522 (sn_taload dL_law_523 (sn_cv w_1310 w_1311 w_1312 w_66 rfl nm_X10_sends dL_law_524 (sn_icmp_eq (tgt := 1593) dL_law_527 (by decide) (b_L_law_1593) (sn_iconst dL_law_530 (by decide) (sn_zret rfl dL_law_531))))))))))))))))))))))))))))))))))))
def q_L_law_456 (X : mh_X) : mh_PR := s_al 1 (s_al 0 (s_il 3 (s_push (.int (1)) (s_bin (fun x y => x + y) (s_tald (s_al 0 (s_il 3 (s_push (.int (2)) (s_bin (fun x y => x + y) (s_tald (s_cv X yX9_person 9 2 (s_al 2 (s_al 0 (s_il 3 (s_push (.int (1)) (s_bin (fun x y => x + y) (s_tald (s_al 0 (s_il 3 (s_push (.int (2)) (s_bin (fun x y => x + y) (s_tald (s_cv X yX10_person 10 2 (s_if2 (fun x y => x = y) (q_L_law_1593 X) (s_push (.int (0)) (s_zret X))))))))))))))))))))))))))
theorem b_L_law_456 {E : mh_E} {d mc ms : Nat} {Post : Option Value → mh_H → Prop} : mh_S (x_L_law E d mc ms Post) 456 (q_L_law_456 (x_L_law E d mc ms Post)) := sn_aload_n dL_law_456 rfl (sn_aload_n dL_law_457 rfl (sn_iload_n dL_law_458 rfl (sn_iconst dL_law_459 (by decide) (sn_iadd dL_law_460 (sn_taload dL_law_461 (sn_aload_n dL_law_462 rfl (sn_iload_n dL_law_463 rfl (sn_iconst dL_law_464 (by decide) (sn_iadd dL_law_465 (sn_taload dL_law_466 (sn_cv w_512 w_513 w_514 w_56 rfl nm_X9_person dL_law_467 (sn_aload_n dL_law_470 rfl (sn_aload_n dL_law_471 rfl (sn_iload_n dL_law_472 rfl (sn_iconst dL_law_473 (by decide) (sn_iadd dL_law_474 (sn_taload dL_law_475 (sn_aload_n dL_law_476 rfl (sn_iload_n dL_law_477 rfl (sn_iconst dL_law_478 (by decide) (sn_iadd dL_law_479 (sn_taload dL_law_480 (sn_cv w_1303 w_1304 w_1305 w_66 rfl nm_X10_person dL_law_481 (sn_icmp_eq (tgt := 1593) dL_law_484 (by decide) (b_L_law_1593) (sn_iconst dL_law_487 (by decide) (sn_zret rfl dL_law_488))))))))))))))))))))))))))
def q_L_law_433 (X : mh_X) : mh_PR := s_al 1 (s_al 0 (s_il 3 (s_push (.int (1)) (s_bin (fun x y => x + y) (s_tald (s_cv X yX9_undone 9 1 (s_al 2 (s_al 0 (s_il 3 (s_push (.int (1)) (s_bin (fun x y => x + y) (s_tald (s_cv X yX10_undone 10 1 (s_if2 (fun x y => x = y) (q_L_law_1593 X) (s_push (.int (0)) (s_zret X))))))))))))))))
theorem b_L_law_433 {E : mh_E} {d mc ms : Nat} {Post : Option Value → mh_H → Prop} : mh_S (x_L_law E d mc ms Post) 433 (q_L_law_433 (x_L_law E d mc ms Post)) := sn_aload_n dL_law_433 rfl (sn_aload_n dL_law_434 rfl (sn_iload_n dL_law_435 rfl (sn_iconst dL_law_436 (by decide) (sn_iadd dL_law_437 (sn_taload dL_law_438 (sn_cv w_502 w_503 w_504 w_56 rfl nm_X9_undone dL_law_439 (sn_aload_n dL_law_442 rfl (sn_aload_n dL_law_443 rfl (sn_iload_n dL_law_444 rfl (sn_iconst dL_law_445 (by decide) (sn_iadd dL_law_446 (sn_taload dL_law_447 (sn_cv w_1298 w_1299 w_1300 w_66 rfl nm_X10_undone dL_law_448 (sn_icmp_eq (tgt := 1593) dL_law_451 (by decide) (b_L_law_1593) (sn_iconst dL_law_454 (by decide) (sn_zret rfl dL_law_455))))))))))))))))
def q_L_law_390 (X : mh_X) : mh_PR := s_al 1 (s_al 0 (s_il 3 (s_push (.int (1)) (s_bin (fun x y => x + y) (s_tald (s_al 0 (s_il 3 (s_push (.int (2)) (s_bin (fun x y => x + y) (s_tald (s_al 0 (s_il 3 (s_push (.int (3)) (s_bin (fun x y => x + y) (s_tald (s_cv X yX9_set 9 3 (s_al 2 (s_al 0 (s_il 3 (s_push (.int (1)) (s_bin (fun x y => x + y) (s_tald (s_al 0 (s_il 3 (s_push (.int (2)) (s_bin (fun x y => x + y) (s_tald (s_al 0 (s_il 3 (s_push (.int (3)) (s_bin (fun x y => x + y) (s_tald (s_cv X yX10_set 10 3 (s_if2 (fun x y => x = y) (q_L_law_1593 X) (s_push (.int (0)) (s_zret X))))))))))))))))))))))))))))))))))))
theorem b_L_law_390 {E : mh_E} {d mc ms : Nat} {Post : Option Value → mh_H → Prop} : mh_S (x_L_law E d mc ms Post) 390 (q_L_law_390 (x_L_law E d mc ms Post)) := sn_aload_n dL_law_390 rfl (sn_aload_n dL_law_391 rfl (sn_iload_n dL_law_392 rfl (sn_iconst dL_law_393 (by decide) (sn_iadd dL_law_394 (sn_taload dL_law_395 (sn_aload_n dL_law_396 rfl (sn_iload_n dL_law_397 rfl (sn_iconst dL_law_398 (by decide) (sn_iadd dL_law_399 (sn_taload dL_law_400 (sn_aload_n dL_law_401 rfl (sn_iload_n dL_law_402 rfl (sn_iconst dL_law_403 (by decide) (sn_iadd dL_law_404 (sn_taload dL_law_405 (sn_cv w_482 w_483 w_484 w_56 rfl nm_X9_set dL_law_406 (sn_aload_n dL_law_409 rfl (sn_aload_n dL_law_410 rfl (sn_iload_n dL_law_411 rfl (sn_iconst dL_law_412 (by decide) (sn_iadd dL_law_413 (sn_taload dL_law_414 (sn_aload_n dL_law_415 rfl (sn_iload_n dL_law_416 rfl (sn_iconst dL_law_417 (by decide) (sn_iadd dL_law_418 (sn_taload dL_law_419 (sn_aload_n dL_law_420 rfl (sn_iload_n dL_law_421 rfl (sn_iconst dL_law_422 (by decide) (sn_iadd dL_law_423 (sn_taload dL_law_424 (sn_cv w_1294 w_1295 w_1296 w_66 rfl nm_X10_set dL_law_425 (sn_icmp_eq (tgt := 1593) dL_law_428 (by decide) (b_L_law_1593) (sn_iconst dL_law_431 (by decide) (sn_zret rfl dL_law_432))))))))))))))))))))))))))))))))))))
def q_L_law_357 (X : mh_X) : mh_PR := s_al 1 (s_al 0 (s_il 3 (s_push (.int (1)) (s_bin (fun x y => x + y) (s_tald (s_al 0 (s_il 3 (s_push (.int (2)) (s_bin (fun x y => x + y) (s_tald (s_cv X yX9_turns 9 2 (s_al 2 (s_al 0 (s_il 3 (s_push (.int (1)) (s_bin (fun x y => x + y) (s_tald (s_al 0 (s_il 3 (s_push (.int (2)) (s_bin (fun x y => x + y) (s_tald (s_cv X yX10_turns 10 2 (s_if2 (fun x y => x = y) (q_L_law_1593 X) (s_push (.int (0)) (s_zret X))))))))))))))))))))))))))
theorem b_L_law_357 {E : mh_E} {d mc ms : Nat} {Post : Option Value → mh_H → Prop} : mh_S (x_L_law E d mc ms Post) 357 (q_L_law_357 (x_L_law E d mc ms Post)) := sn_aload_n dL_law_357 rfl (sn_aload_n dL_law_358 rfl (sn_iload_n dL_law_359 rfl (sn_iconst dL_law_360 (by decide) (sn_iadd dL_law_361 (sn_taload dL_law_362 (sn_aload_n dL_law_363 rfl (sn_iload_n dL_law_364 rfl (sn_iconst dL_law_365 (by decide) (sn_iadd dL_law_366 (sn_taload dL_law_367 (sn_cv w_478 w_479 w_480 w_56 rfl nm_X9_turns dL_law_368 (sn_aload_n dL_law_371 rfl (sn_aload_n dL_law_372 rfl (sn_iload_n dL_law_373 rfl (sn_iconst dL_law_374 (by decide) (sn_iadd dL_law_375 (sn_taload dL_law_376 (sn_aload_n dL_law_377 rfl (sn_iload_n dL_law_378 rfl (sn_iconst dL_law_379 (by decide) (sn_iadd dL_law_380 (sn_taload dL_law_381 (sn_cv w_1286 w_1287 w_1288 w_66 rfl nm_X10_turns dL_law_382 (sn_icmp_eq (tgt := 1593) dL_law_385 (by decide) (b_L_law_1593) (sn_iconst dL_law_388 (by decide) (sn_zret rfl dL_law_389))))))))))))))))))))))))))
def q_L_law_324 (X : mh_X) : mh_PR := s_al 1 (s_al 0 (s_il 3 (s_push (.int (1)) (s_bin (fun x y => x + y) (s_tald (s_al 0 (s_il 3 (s_push (.int (2)) (s_bin (fun x y => x + y) (s_tald (s_cv X yX9_as 9 2 (s_al 2 (s_al 0 (s_il 3 (s_push (.int (1)) (s_bin (fun x y => x + y) (s_tald (s_al 0 (s_il 3 (s_push (.int (2)) (s_bin (fun x y => x + y) (s_tald (s_cv X yX10_as 10 2 (s_if2 (fun x y => x = y) (q_L_law_1593 X) (s_push (.int (0)) (s_zret X))))))))))))))))))))))))))
theorem b_L_law_324 {E : mh_E} {d mc ms : Nat} {Post : Option Value → mh_H → Prop} : mh_S (x_L_law E d mc ms Post) 324 (q_L_law_324 (x_L_law E d mc ms Post)) := sn_aload_n dL_law_324 rfl (sn_aload_n dL_law_325 rfl (sn_iload_n dL_law_326 rfl (sn_iconst dL_law_327 (by decide) (sn_iadd dL_law_328 (sn_taload dL_law_329 (sn_aload_n dL_law_330 rfl (sn_iload_n dL_law_331 rfl (sn_iconst dL_law_332 (by decide) (sn_iadd dL_law_333 (sn_taload dL_law_334 (sn_cv w_466 w_467 w_468 w_56 rfl nm_X9_as dL_law_335 (sn_aload_n dL_law_338 rfl (sn_aload_n dL_law_339 rfl (sn_iload_n dL_law_340 rfl (sn_iconst dL_law_341 (by decide) (sn_iadd dL_law_342 (sn_taload dL_law_343 (sn_aload_n dL_law_344 rfl (sn_iload_n dL_law_345 rfl (sn_iconst dL_law_346 (by decide) (sn_iadd dL_law_347 (sn_taload dL_law_348 (sn_cv w_1278 w_1279 w_1280 w_66 rfl nm_X10_as dL_law_349 (sn_icmp_eq (tgt := 1593) dL_law_352 (by decide) (b_L_law_1593) (sn_iconst dL_law_355 (by decide) (sn_zret rfl dL_law_356))))))))))))))))))))))))))
def q_L_law_291 (X : mh_X) : mh_PR := s_al 1 (s_al 0 (s_il 3 (s_push (.int (1)) (s_bin (fun x y => x + y) (s_tald (s_al 0 (s_il 3 (s_push (.int (2)) (s_bin (fun x y => x + y) (s_tald (s_cv X yX9_told 9 2 (s_al 2 (s_al 0 (s_il 3 (s_push (.int (1)) (s_bin (fun x y => x + y) (s_tald (s_al 0 (s_il 3 (s_push (.int (2)) (s_bin (fun x y => x + y) (s_tald (s_cv X yX10_told 10 2 (s_if2 (fun x y => x = y) (q_L_law_1593 X) (s_push (.int (0)) (s_zret X))))))))))))))))))))))))))
theorem b_L_law_291 {E : mh_E} {d mc ms : Nat} {Post : Option Value → mh_H → Prop} : mh_S (x_L_law E d mc ms Post) 291 (q_L_law_291 (x_L_law E d mc ms Post)) := sn_aload_n dL_law_291 rfl (sn_aload_n dL_law_292 rfl (sn_iload_n dL_law_293 rfl (sn_iconst dL_law_294 (by decide) (sn_iadd dL_law_295 (sn_taload dL_law_296 (sn_aload_n dL_law_297 rfl (sn_iload_n dL_law_298 rfl (sn_iconst dL_law_299 (by decide) (sn_iadd dL_law_300 (sn_taload dL_law_301 (sn_cv w_394 w_395 w_396 w_56 rfl nm_X9_told dL_law_302 (sn_aload_n dL_law_305 rfl (sn_aload_n dL_law_306 rfl (sn_iload_n dL_law_307 rfl (sn_iconst dL_law_308 (by decide) (sn_iadd dL_law_309 (sn_taload dL_law_310 (sn_aload_n dL_law_311 rfl (sn_iload_n dL_law_312 rfl (sn_iconst dL_law_313 (by decide) (sn_iadd dL_law_314 (sn_taload dL_law_315 (sn_cv w_1226 w_1227 w_1228 w_66 rfl nm_X10_told dL_law_316 (sn_icmp_eq (tgt := 1593) dL_law_319 (by decide) (b_L_law_1593) (sn_iconst dL_law_322 (by decide) (sn_zret rfl dL_law_323))))))))))))))))))))))))))
def q_L_law_228 (X : mh_X) : mh_PR := s_al 1 (s_al 0 (s_il 3 (s_push (.int (1)) (s_bin (fun x y => x + y) (s_tald (s_al 0 (s_il 3 (s_push (.int (2)) (s_bin (fun x y => x + y) (s_tald (s_al 0 (s_il 3 (s_push (.int (3)) (s_bin (fun x y => x + y) (s_tald (s_al 0 (s_il 3 (s_push (.int (4)) (s_bin (fun x y => x + y) (s_tald (s_al 0 (s_il 3 (s_push (.int (5)) (s_bin (fun x y => x + y) (s_tald (s_cv X yX9_stone 9 5 (s_al 2 (s_al 0 (s_il 3 (s_push (.int (1)) (s_bin (fun x y => x + y) (s_tald (s_al 0 (s_il 3 (s_push (.int (2)) (s_bin (fun x y => x + y) (s_tald (s_al 0 (s_il 3 (s_push (.int (3)) (s_bin (fun x y => x + y) (s_tald (s_al 0 (s_il 3 (s_push (.int (4)) (s_bin (fun x y => x + y) (s_tald (s_al 0 (s_il 3 (s_push (.int (5)) (s_bin (fun x y => x + y) (s_tald (s_cv X yX10_stone 10 5 (s_if2 (fun x y => x = y) (q_L_law_1593 X) (s_push (.int (0)) (s_zret X))))))))))))))))))))))))))))))))))))))))))))))))))))))))
theorem b_L_law_228 {E : mh_E} {d mc ms : Nat} {Post : Option Value → mh_H → Prop} : mh_S (x_L_law E d mc ms Post) 228 (q_L_law_228 (x_L_law E d mc ms Post)) := sn_aload_n dL_law_228 rfl (sn_aload_n dL_law_229 rfl (sn_iload_n dL_law_230 rfl (sn_iconst dL_law_231 (by decide) (sn_iadd dL_law_232 (sn_taload dL_law_233 (sn_aload_n dL_law_234 rfl (sn_iload_n dL_law_235 rfl (sn_iconst dL_law_236 (by decide) (sn_iadd dL_law_237 (sn_taload dL_law_238 (sn_aload_n dL_law_239 rfl (sn_iload_n dL_law_240 rfl (sn_iconst dL_law_241 (by decide) (sn_iadd dL_law_242 (sn_taload dL_law_243 (sn_aload_n dL_law_244 rfl (sn_iload_n dL_law_245 rfl (sn_iconst dL_law_246 (by decide) (sn_iadd dL_law_247 (sn_taload dL_law_248 (sn_aload_n dL_law_249 rfl (sn_iload_n dL_law_250 rfl (sn_iconst dL_law_251 (by decide) (sn_iadd dL_law_252 (sn_taload dL_law_253 (sn_cv w_368 w_369 w_370 w_56 rfl nm_X9_stone dL_law_254 (sn_aload_n dL_law_257 rfl (sn_aload_n dL_law_258 rfl (sn_iload_n dL_law_259 rfl (sn_iconst dL_law_260 (by decide) (sn_iadd dL_law_261 (sn_taload dL_law_262 (sn_aload_n dL_law_263 rfl (sn_iload_n dL_law_264 rfl (sn_iconst dL_law_265 (by decide) (sn_iadd dL_law_266 (sn_taload dL_law_267 (sn_aload_n dL_law_268 rfl (sn_iload_n dL_law_269 rfl (sn_iconst dL_law_270 (by decide) (sn_iadd dL_law_271 (sn_taload dL_law_272 (sn_aload_n dL_law_273 rfl (sn_iload_n dL_law_274 rfl (sn_iconst dL_law_275 (by decide) (sn_iadd dL_law_276 (sn_taload dL_law_277 (sn_aload_n dL_law_278 rfl (sn_iload_n dL_law_279 rfl (sn_iconst dL_law_280 (by decide) (sn_iadd dL_law_281 (sn_taload dL_law_282 (sn_cv w_1206 w_1207 w_1208 w_66 rfl nm_X10_stone dL_law_283 (sn_icmp_eq (tgt := 1593) dL_law_286 (by decide) (b_L_law_1593) (sn_iconst dL_law_289 (by decide) (sn_zret rfl dL_law_290))))))))))))))))))))))))))))))))))))))))))))))))))))))))
def q_L_law_18 (X : mh_X) : mh_PR := s_il 3 (s_al 0 (s_tlen (s_push (.int (6)) (s_bin (fun x y => x - y) (s_if2 (fun x y => y < x) (s_push (.int (1)) (s_zret X)) (s_al 0 (s_il 3 (s_tald (s_push (.int (63)) (s_bin (fun x y => x &&& y) (s_sw [((0 : Int32), q_L_law_228 X), ((1 : Int32), q_L_law_291 X), ((2 : Int32), q_L_law_324 X), ((3 : Int32), q_L_law_357 X), ((4 : Int32), q_L_law_390 X), ((5 : Int32), q_L_law_433 X), ((6 : Int32), q_L_law_456 X), ((7 : Int32), q_L_law_489 X), ((8 : Int32), q_L_law_532 X), ((9 : Int32), q_L_law_555 X), ((10 : Int32), q_L_law_588 X), ((11 : Int32), q_L_law_611 X), ((12 : Int32), q_L_law_634 X), ((13 : Int32), q_L_law_657 X), ((14 : Int32), q_L_law_680 X), ((15 : Int32), q_L_law_703 X), ((16 : Int32), q_L_law_736 X), ((17 : Int32), q_L_law_769 X), ((18 : Int32), q_L_law_792 X), ((19 : Int32), q_L_law_825 X), ((20 : Int32), q_L_law_858 X), ((21 : Int32), q_L_law_891 X), ((22 : Int32), q_L_law_934 X), ((23 : Int32), q_L_law_957 X), ((24 : Int32), q_L_law_990 X), ((25 : Int32), q_L_law_1003 X), ((26 : Int32), q_L_law_1026 X), ((27 : Int32), q_L_law_1069 X), ((28 : Int32), q_L_law_1092 X), ((29 : Int32), q_L_law_1105 X), ((30 : Int32), q_L_law_1138 X), ((31 : Int32), q_L_law_1161 X), ((32 : Int32), q_L_law_1204 X), ((33 : Int32), q_L_law_1247 X), ((34 : Int32), q_L_law_1270 X), ((35 : Int32), q_L_law_1293 X), ((36 : Int32), q_L_law_1356 X), ((37 : Int32), q_L_law_1399 X), ((38 : Int32), q_L_law_1432 X), ((39 : Int32), q_L_law_1465 X), ((40 : Int32), q_L_law_1498 X), ((41 : Int32), q_L_law_1521 X), ((42 : Int32), q_L_law_1544 X), ((43 : Int32), q_L_law_1557 X), ((44 : Int32), q_L_law_1570 X)] (q_L_law_1593 X))))))))))))
theorem b_L_law_18 {E : mh_E} {d mc ms : Nat} {Post : Option Value → mh_H → Prop} : mh_S (x_L_law E d mc ms Post) 18 (q_L_law_18 (x_L_law E d mc ms Post)) := sn_iload_n dL_law_18 rfl (sn_aload_n dL_law_19 rfl (sn_tlen dL_law_20 (sn_bipush dL_law_21 (by decide) (sn_isub dL_law_23 (sn_icmp_gt (tgt := 1599) dL_law_24 (by decide) (sn_iconst dL_law_1599 (by decide) (sn_zret rfl dL_law_1600)) (sn_aload_n dL_law_27 rfl (sn_iload_n dL_law_28 rfl (sn_taload dL_law_29 (sn_bipush dL_law_30 (by decide) (sn_iand dL_law_32 (sn_table (tgt := 1593) (ts := [(0, 195, 228), (1, 258, 291), (2, 291, 324), (3, 324, 357), (4, 357, 390), (5, 400, 433), (6, 423, 456), (7, 456, 489), (8, 499, 532), (9, 522, 555), (10, 555, 588), (11, 578, 611), (12, 601, 634), (13, 624, 657), (14, 647, 680), (15, 670, 703), (16, 703, 736), (17, 736, 769), (18, 759, 792), (19, 792, 825), (20, 825, 858), (21, 858, 891), (22, 901, 934), (23, 924, 957), (24, 957, 990), (25, 970, 1003), (26, 993, 1026), (27, 1036, 1069), (28, 1059, 1092), (29, 1072, 1105), (30, 1105, 1138), (31, 1128, 1161), (32, 1171, 1204), (33, 1214, 1247), (34, 1237, 1270), (35, 1260, 1293), (36, 1323, 1356), (37, 1366, 1399), (38, 1399, 1432), (39, 1432, 1465), (40, 1465, 1498), (41, 1488, 1521), (42, 1511, 1544), (43, 1524, 1557), (44, 1537, 1570)]) dL_law_33 (by decide +kernel) (by decide +kernel) (sw_cons (b_L_law_228) (sw_cons (b_L_law_291) (sw_cons (b_L_law_324) (sw_cons (b_L_law_357) (sw_cons (b_L_law_390) (sw_cons (b_L_law_433) (sw_cons (b_L_law_456) (sw_cons (b_L_law_489) (sw_cons (b_L_law_532) (sw_cons (b_L_law_555) (sw_cons (b_L_law_588) (sw_cons (b_L_law_611) (sw_cons (b_L_law_634) (sw_cons (b_L_law_657) (sw_cons (b_L_law_680) (sw_cons (b_L_law_703) (sw_cons (b_L_law_736) (sw_cons (b_L_law_769) (sw_cons (b_L_law_792) (sw_cons (b_L_law_825) (sw_cons (b_L_law_858) (sw_cons (b_L_law_891) (sw_cons (b_L_law_934) (sw_cons (b_L_law_957) (sw_cons (b_L_law_990) (sw_cons (b_L_law_1003) (sw_cons (b_L_law_1026) (sw_cons (b_L_law_1069) (sw_cons (b_L_law_1092) (sw_cons (b_L_law_1105) (sw_cons (b_L_law_1138) (sw_cons (b_L_law_1161) (sw_cons (b_L_law_1204) (sw_cons (b_L_law_1247) (sw_cons (b_L_law_1270) (sw_cons (b_L_law_1293) (sw_cons (b_L_law_1356) (sw_cons (b_L_law_1399) (sw_cons (b_L_law_1432) (sw_cons (b_L_law_1465) (sw_cons (b_L_law_1498) (sw_cons (b_L_law_1521) (sw_cons (b_L_law_1544) (sw_cons (b_L_law_1557) (sw_cons (b_L_law_1570) sw_nil))))))))))))))))))))))))))))))))))))))))))))) (by decide) (b_L_law_1593))))))))))))
def q_L_law_0 (X : mh_X) : mh_PR := s_new X 9 11 [.null, .null, .null, .null, .null, .null, .null, .null, .null, .int 0, .int 0] (s_dup (s_ci X yX9_init 0 (s_as 1 (s_new X 10 34 [.null, .null, .null, .int 0, .null, .null, .null, .int 0, .int 0, .int 0, .int 0, .int 0, .int 0, .int 0, .null, .null, .null, .int 0, .int 0, .null, .int 0, .null, .null, .null, .null, .null, .null, .null, .null, .null, .null, .null, .null, .int 0] (s_dup (s_ci X yX10_init 0 (s_as 2 (s_push (.int (0)) (s_is 3 (mh_G X 18))))))))))
theorem b_L_law_0 {E : mh_E} {d mc ms : Nat} {Post : Option Value → mh_H → Prop} : mh_S (x_L_law E d mc ms Post) 0 (q_L_law_0 (x_L_law E d mc ms Post)) := sn_new clX9 w_76 w_77 w_56 dfX9 dL_law_0 (sn_dup dL_law_3 (sn_ci w_78 w_79 w_56 rfl nm_X9_init dL_law_4 (sn_astore_n dL_law_7 rfl (Nat.le_of_ble_eq_true rfl) (sn_new clX10 w_1094 w_1095 w_66 dfX10 dL_law_8 (sn_dup dL_law_11 (sn_ci w_1096 w_1097 w_66 rfl nm_X10_init dL_law_12 (sn_astore_n dL_law_15 rfl (Nat.le_of_ble_eq_true rfl) (sn_iconst dL_law_16 (by decide) (sn_istore_n dL_law_17 rfl (Nat.le_of_ble_eq_true rfl) mh_S.G)))))))))
