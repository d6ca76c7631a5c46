theorem dL_law_1504 : decode cL_law 1504 = .ok (.iinc 3 6, 3) := by decide +kernel
theorem dL_law_1507 : decode cL_law 1507 = .ok (.goto (-1489), 3) := by decide +kernel
theorem dL_law_18 : decode cL_law 18 = .ok (.iload_n 3, 1) := by decide +kernel
theorem dL_law_19 : decode cL_law 19 = .ok (.aload_n 0, 1) := by decide +kernel
theorem dL_law_20 : decode cL_law 20 = .ok (.arraylength, 1) := by decide +kernel
theorem dL_law_21 : decode cL_law 21 = .ok (.bipush 6, 2) := by decide +kernel
theorem dL_law_23 : decode cL_law 23 = .ok (.isub, 1) := by decide +kernel
theorem dL_law_24 : decode cL_law 24 = .ok (.if_icmp .gt 1486, 3) := by decide +kernel
theorem dL_law_1510 : decode cL_law 1510 = .ok (.iconst 1, 1) := by decide +kernel
theorem dL_law_1511 : decode cL_law 1511 = .ok (.ireturn, 1) := by decide +kernel
theorem dL_law_216 : decode cL_law 216 = .ok (.aload_n 1, 1) := by decide +kernel
theorem dL_law_217 : decode cL_law 217 = .ok (.aload_n 0, 1) := by decide +kernel
theorem dL_law_218 : decode cL_law 218 = .ok (.iload_n 3, 1) := by decide +kernel
theorem dL_law_219 : decode cL_law 219 = .ok (.iconst 1, 1) := by decide +kernel
theorem dL_law_220 : decode cL_law 220 = .ok (.iadd, 1) := by decide +kernel
theorem dL_law_221 : decode cL_law 221 = .ok (.iaload, 1) := by decide +kernel
theorem dL_law_222 : decode cL_law 222 = .ok (.invokevirtual 13, 3) := by decide +kernel
theorem dL_law_225 : decode cL_law 225 = .ok (.aload_n 2, 1) := by decide +kernel
theorem dL_law_226 : decode cL_law 226 = .ok (.aload_n 0, 1) := by decide +kernel
theorem dL_law_227 : decode cL_law 227 = .ok (.iload_n 3, 1) := by decide +kernel
theorem dL_law_228 : decode cL_law 228 = .ok (.iconst 1, 1) := by decide +kernel
theorem dL_law_229 : decode cL_law 229 = .ok (.iadd, 1) := by decide +kernel
theorem dL_law_230 : decode cL_law 230 = .ok (.iaload, 1) := by decide +kernel
theorem dL_law_231 : decode cL_law 231 = .ok (.invokevirtual 17, 3) := by decide +kernel
theorem dL_law_234 : decode cL_law 234 = .ok (.if_icmp .eq 1270, 3) := by decide +kernel
theorem dL_law_239 : decode cL_law 239 = .ok (.aload_n 1, 1) := by decide +kernel
theorem dL_law_240 : decode cL_law 240 = .ok (.aload_n 0, 1) := by decide +kernel
theorem dL_law_241 : decode cL_law 241 = .ok (.iload_n 3, 1) := by decide +kernel
theorem dL_law_242 : decode cL_law 242 = .ok (.iconst 1, 1) := by decide +kernel
theorem dL_law_243 : decode cL_law 243 = .ok (.iadd, 1) := by decide +kernel
theorem dL_law_244 : decode cL_law 244 = .ok (.iaload, 1) := by decide +kernel
theorem dL_law_245 : decode cL_law 245 = .ok (.aload_n 0, 1) := by decide +kernel
theorem dL_law_246 : decode cL_law 246 = .ok (.iload_n 3, 1) := by decide +kernel
theorem dL_law_247 : decode cL_law 247 = .ok (.iconst 2, 1) := by decide +kernel
theorem dL_law_248 : decode cL_law 248 = .ok (.iadd, 1) := by decide +kernel
theorem dL_law_249 : decode cL_law 249 = .ok (.iaload, 1) := by decide +kernel
theorem dL_law_250 : decode cL_law 250 = .ok (.aload_n 0, 1) := by decide +kernel
theorem dL_law_251 : decode cL_law 251 = .ok (.iload_n 3, 1) := by decide +kernel
theorem dL_law_252 : decode cL_law 252 = .ok (.iconst 3, 1) := by decide +kernel
theorem dL_law_253 : decode cL_law 253 = .ok (.iadd, 1) := by decide +kernel
theorem dL_law_254 : decode cL_law 254 = .ok (.iaload, 1) := by decide +kernel
theorem dL_law_255 : decode cL_law 255 = .ok (.invokevirtual 18, 3) := by decide +kernel
theorem dL_law_258 : decode cL_law 258 = .ok (.aload_n 2, 1) := by decide +kernel
theorem dL_law_259 : decode cL_law 259 = .ok (.aload_n 0, 1) := by decide +kernel
theorem dL_law_260 : decode cL_law 260 = .ok (.iload_n 3, 1) := by decide +kernel
theorem dL_law_261 : decode cL_law 261 = .ok (.iconst 1, 1) := by decide +kernel
theorem dL_law_262 : decode cL_law 262 = .ok (.iadd, 1) := by decide +kernel
theorem dL_law_263 : decode cL_law 263 = .ok (.iaload, 1) := by decide +kernel
theorem dL_law_264 : decode cL_law 264 = .ok (.aload_n 0, 1) := by decide +kernel
theorem dL_law_265 : decode cL_law 265 = .ok (.iload_n 3, 1) := by decide +kernel
theorem dL_law_266 : decode cL_law 266 = .ok (.iconst 2, 1) := by decide +kernel
theorem dL_law_267 : decode cL_law 267 = .ok (.iadd, 1) := by decide +kernel
theorem dL_law_268 : decode cL_law 268 = .ok (.iaload, 1) := by decide +kernel
theorem dL_law_269 : decode cL_law 269 = .ok (.aload_n 0, 1) := by decide +kernel
theorem dL_law_270 : decode cL_law 270 = .ok (.iload_n 3, 1) := by decide +kernel
theorem dL_law_271 : decode cL_law 271 = .ok (.iconst 3, 1) := by decide +kernel
theorem dL_law_272 : decode cL_law 272 = .ok (.iadd, 1) := by decide +kernel
theorem dL_law_273 : decode cL_law 273 = .ok (.iaload, 1) := by decide +kernel
theorem dL_law_274 : decode cL_law 274 = .ok (.invokevirtual 22, 3) := by decide +kernel
theorem dL_law_277 : decode cL_law 277 = .ok (.if_icmp .eq 1227, 3) := by decide +kernel
theorem dL_law_282 : decode cL_law 282 = .ok (.aload_n 1, 1) := by decide +kernel
theorem dL_law_283 : decode cL_law 283 = .ok (.aload_n 0, 1) := by decide +kernel
theorem dL_law_284 : decode cL_law 284 = .ok (.iload_n 3, 1) := by decide +kernel
theorem dL_law_285 : decode cL_law 285 = .ok (.iconst 1, 1) := by decide +kernel
theorem dL_law_286 : decode cL_law 286 = .ok (.iadd, 1) := by decide +kernel
theorem dL_law_287 : decode cL_law 287 = .ok (.iaload, 1) := by decide +kernel
theorem dL_law_288 : decode cL_law 288 = .ok (.aload_n 0, 1) := by decide +kernel
theorem dL_law_289 : decode cL_law 289 = .ok (.iload_n 3, 1) := by decide +kernel
theorem dL_law_290 : decode cL_law 290 = .ok (.iconst 2, 1) := by decide +kernel
theorem dL_law_291 : decode cL_law 291 = .ok (.iadd, 1) := by decide +kernel
theorem dL_law_292 : decode cL_law 292 = .ok (.iaload, 1) := by decide +kernel
theorem dL_law_293 : decode cL_law 293 = .ok (.aload_n 0, 1) := by decide +kernel
theorem dL_law_294 : decode cL_law 294 = .ok (.iload_n 3, 1) := by decide +kernel
theorem dL_law_295 : decode cL_law 295 = .ok (.iconst 3, 1) := by decide +kernel
theorem dL_law_296 : decode cL_law 296 = .ok (.iadd, 1) := by decide +kernel
theorem dL_law_297 : decode cL_law 297 = .ok (.iaload, 1) := by decide +kernel
theorem dL_law_298 : decode cL_law 298 = .ok (.invokevirtual 23, 3) := by decide +kernel
theorem dL_law_301 : decode cL_law 301 = .ok (.aload_n 2, 1) := by decide +kernel
theorem dL_law_302 : decode cL_law 302 = .ok (.aload_n 0, 1) := by decide +kernel
theorem dL_law_303 : decode cL_law 303 = .ok (.iload_n 3, 1) := by decide +kernel
theorem dL_law_304 : decode cL_law 304 = .ok (.iconst 1, 1) := by decide +kernel
theorem dL_law_305 : decode cL_law 305 = .ok (.iadd, 1) := by decide +kernel
theorem dL_law_306 : decode cL_law 306 = .ok (.iaload, 1) := by decide +kernel
theorem dL_law_307 : decode cL_law 307 = .ok (.aload_n 0, 1) := by decide +kernel
theorem dL_law_308 : decode cL_law 308 = .ok (.iload_n 3, 1) := by decide +kernel
theorem dL_law_309 : decode cL_law 309 = .ok (.iconst 2, 1) := by decide +kernel
theorem dL_law_310 : decode cL_law 310 = .ok (.iadd, 1) := by decide +kernel
theorem dL_law_311 : decode cL_law 311 = .ok (.iaload, 1) := by decide +kernel
theorem dL_law_312 : decode cL_law 312 = .ok (.aload_n 0, 1) := by decide +kernel
theorem dL_law_313 : decode cL_law 313 = .ok (.iload_n 3, 1) := by decide +kernel
theorem dL_law_314 : decode cL_law 314 = .ok (.iconst 3, 1) := by decide +kernel
theorem dL_law_315 : decode cL_law 315 = .ok (.iadd, 1) := by decide +kernel
theorem dL_law_316 : decode cL_law 316 = .ok (.iaload, 1) := by decide +kernel
theorem dL_law_317 : decode cL_law 317 = .ok (.invokevirtual 26, 3) := by decide +kernel
theorem dL_law_320 : decode cL_law 320 = .ok (.if_icmp .eq 1184, 3) := by decide +kernel
theorem dL_law_325 : decode cL_law 325 = .ok (.aload_n 1, 1) := by decide +kernel
theorem dL_law_326 : decode cL_law 326 = .ok (.aload_n 0, 1) := by decide +kernel
theorem dL_law_327 : decode cL_law 327 = .ok (.iload_n 3, 1) := by decide +kernel
theorem dL_law_328 : decode cL_law 328 = .ok (.iconst 1, 1) := by decide +kernel
theorem dL_law_329 : decode cL_law 329 = .ok (.iadd, 1) := by decide +kernel
theorem dL_law_330 : decode cL_law 330 = .ok (.iaload, 1) := by decide +kernel
theorem dL_law_331 : decode cL_law 331 = .ok (.aload_n 0, 1) := by decide +kernel
theorem dL_law_332 : decode cL_law 332 = .ok (.iload_n 3, 1) := by decide +kernel
theorem dL_law_333 : decode cL_law 333 = .ok (.iconst 2, 1) := by decide +kernel
theorem dL_law_334 : decode cL_law 334 = .ok (.iadd, 1) := by decide +kernel
theorem dL_law_335 : decode cL_law 335 = .ok (.iaload, 1) := by decide +kernel
theorem dL_law_336 : decode cL_law 336 = .ok (.invokevirtual 27, 3) := by decide +kernel
theorem dL_law_339 : decode cL_law 339 = .ok (.aload_n 2, 1) := by decide +kernel
theorem dL_law_340 : decode cL_law 340 = .ok (.aload_n 0, 1) := by decide +kernel
theorem dL_law_341 : decode cL_law 341 = .ok (.iload_n 3, 1) := by decide +kernel
theorem dL_law_342 : decode cL_law 342 = .ok (.iconst 1, 1) := by decide +kernel
theorem dL_law_343 : decode cL_law 343 = .ok (.iadd, 1) := by decide +kernel
theorem dL_law_344 : decode cL_law 344 = .ok (.iaload, 1) := by decide +kernel
theorem dL_law_345 : decode cL_law 345 = .ok (.aload_n 0, 1) := by decide +kernel
theorem dL_law_346 : decode cL_law 346 = .ok (.iload_n 3, 1) := by decide +kernel
theorem dL_law_347 : decode cL_law 347 = .ok (.iconst 2, 1) := by decide +kernel
theorem dL_law_348 : decode cL_law 348 = .ok (.iadd, 1) := by decide +kernel
theorem dL_law_349 : decode cL_law 349 = .ok (.iaload, 1) := by decide +kernel
theorem dL_law_350 : decode cL_law 350 = .ok (.invokevirtual 31, 3) := by decide +kernel
theorem dL_law_353 : decode cL_law 353 = .ok (.if_icmp .eq 1151, 3) := by decide +kernel
theorem dL_law_358 : decode cL_law 358 = .ok (.aload_n 1, 1) := by decide +kernel
theorem dL_law_359 : decode cL_law 359 = .ok (.aload_n 0, 1) := by decide +kernel
theorem dL_law_360 : decode cL_law 360 = .ok (.iload_n 3, 1) := by decide +kernel
theorem dL_law_361 : decode cL_law 361 = .ok (.iconst 1, 1) := by decide +kernel
theorem dL_law_362 : decode cL_law 362 = .ok (.iadd, 1) := by decide +kernel
theorem dL_law_363 : decode cL_law 363 = .ok (.iaload, 1) := by decide +kernel
theorem dL_law_364 : decode cL_law 364 = .ok (.invokevirtual 32, 3) := by decide +kernel
theorem dL_law_367 : decode cL_law 367 = .ok (.aload_n 2, 1) := by decide +kernel
theorem dL_law_368 : decode cL_law 368 = .ok (.aload_n 0, 1) := by decide +kernel
theorem dL_law_369 : decode cL_law 369 = .ok (.iload_n 3, 1) := by decide +kernel
theorem dL_law_370 : decode cL_law 370 = .ok (.iconst 1, 1) := by decide +kernel
theorem dL_law_371 : decode cL_law 371 = .ok (.iadd, 1) := by decide +kernel
theorem dL_law_372 : decode cL_law 372 = .ok (.iaload, 1) := by decide +kernel
theorem dL_law_373 : decode cL_law 373 = .ok (.invokevirtual 35, 3) := by decide +kernel
theorem dL_law_376 : decode cL_law 376 = .ok (.if_icmp .eq 1128, 3) := by decide +kernel
theorem dL_law_381 : decode cL_law 381 = .ok (.aload_n 1, 1) := by decide +kernel
theorem dL_law_382 : decode cL_law 382 = .ok (.invokevirtual 36, 3) := by decide +kernel
theorem dL_law_385 : decode cL_law 385 = .ok (.aload_n 2, 1) := by decide +kernel
theorem dL_law_386 : decode cL_law 386 = .ok (.invokevirtual 40, 3) := by decide +kernel
theorem dL_law_389 : decode cL_law 389 = .ok (.if_icmp .eq 1115, 3) := by decide +kernel
theorem dL_law_394 : decode cL_law 394 = .ok (.aload_n 1, 1) := by decide +kernel
theorem dL_law_395 : decode cL_law 395 = .ok (.aload_n 0, 1) := by decide +kernel
theorem dL_law_396 : decode cL_law 396 = .ok (.iload_n 3, 1) := by decide +kernel
theorem dL_law_397 : decode cL_law 397 = .ok (.iconst 1, 1) := by decide +kernel
theorem dL_law_398 : decode cL_law 398 = .ok (.iadd, 1) := by decide +kernel
theorem dL_law_399 : decode cL_law 399 = .ok (.iaload, 1) := by decide +kernel
theorem dL_law_400 : decode cL_law 400 = .ok (.invokevirtual 41, 3) := by decide +kernel
theorem dL_law_403 : decode cL_law 403 = .ok (.aload_n 2, 1) := by decide +kernel
theorem dL_law_404 : decode cL_law 404 = .ok (.aload_n 0, 1) := by decide +kernel
theorem dL_law_405 : decode cL_law 405 = .ok (.iload_n 3, 1) := by decide +kernel
theorem dL_law_406 : decode cL_law 406 = .ok (.iconst 1, 1) := by decide +kernel
theorem dL_law_407 : decode cL_law 407 = .ok (.iadd, 1) := by decide +kernel
theorem dL_law_408 : decode cL_law 408 = .ok (.iaload, 1) := by decide +kernel
theorem dL_law_409 : decode cL_law 409 = .ok (.invokevirtual 44, 3) := by decide +kernel
theorem dL_law_412 : decode cL_law 412 = .ok (.if_icmp .eq 1092, 3) := by decide +kernel
theorem dL_law_417 : decode cL_law 417 = .ok (.aload_n 1, 1) := by decide +kernel
theorem dL_law_418 : decode cL_law 418 = .ok (.aload_n 0, 1) := by decide +kernel
theorem dL_law_419 : decode cL_law 419 = .ok (.iload_n 3, 1) := by decide +kernel
theorem dL_law_420 : decode cL_law 420 = .ok (.iconst 1, 1) := by decide +kernel
theorem dL_law_421 : decode cL_law 421 = .ok (.iadd, 1) := by decide +kernel
theorem dL_law_422 : decode cL_law 422 = .ok (.iaload, 1) := by decide +kernel
theorem dL_law_423 : decode cL_law 423 = .ok (.invokevirtual 45, 3) := by decide +kernel
theorem dL_law_426 : decode cL_law 426 = .ok (.aload_n 2, 1) := by decide +kernel
theorem dL_law_427 : decode cL_law 427 = .ok (.aload_n 0, 1) := by decide +kernel
theorem dL_law_428 : decode cL_law 428 = .ok (.iload_n 3, 1) := by decide +kernel
theorem dL_law_429 : decode cL_law 429 = .ok (.iconst 1, 1) := by decide +kernel
theorem dL_law_430 : decode cL_law 430 = .ok (.iadd, 1) := by decide +kernel
theorem dL_law_431 : decode cL_law 431 = .ok (.iaload, 1) := by decide +kernel
theorem dL_law_432 : decode cL_law 432 = .ok (.invokevirtual 48, 3) := by decide +kernel
theorem dL_law_435 : decode cL_law 435 = .ok (.if_icmp .eq 1069, 3) := by decide +kernel
theorem dL_law_440 : decode cL_law 440 = .ok (.aload_n 1, 1) := by decide +kernel
theorem dL_law_441 : decode cL_law 441 = .ok (.aload_n 0, 1) := by decide +kernel
theorem dL_law_442 : decode cL_law 442 = .ok (.iload_n 3, 1) := by decide +kernel
theorem dL_law_443 : decode cL_law 443 = .ok (.iconst 1, 1) := by decide +kernel
theorem dL_law_444 : decode cL_law 444 = .ok (.iadd, 1) := by decide +kernel
theorem dL_law_445 : decode cL_law 445 = .ok (.iaload, 1) := by decide +kernel
theorem dL_law_446 : decode cL_law 446 = .ok (.invokevirtual 49, 3) := by decide +kernel
theorem dL_law_449 : decode cL_law 449 = .ok (.aload_n 2, 1) := by decide +kernel
theorem dL_law_450 : decode cL_law 450 = .ok (.aload_n 0, 1) := by decide +kernel
theorem dL_law_451 : decode cL_law 451 = .ok (.iload_n 3, 1) := by decide +kernel
theorem dL_law_452 : decode cL_law 452 = .ok (.iconst 1, 1) := by decide +kernel
theorem dL_law_453 : decode cL_law 453 = .ok (.iadd, 1) := by decide +kernel
theorem dL_law_454 : decode cL_law 454 = .ok (.iaload, 1) := by decide +kernel
theorem dL_law_455 : decode cL_law 455 = .ok (.invokevirtual 52, 3) := by decide +kernel
theorem dL_law_458 : decode cL_law 458 = .ok (.if_icmp .eq 1046, 3) := by decide +kernel
theorem dL_law_463 : decode cL_law 463 = .ok (.aload_n 1, 1) := by decide +kernel
theorem dL_law_464 : decode cL_law 464 = .ok (.aload_n 0, 1) := by decide +kernel
theorem dL_law_465 : decode cL_law 465 = .ok (.iload_n 3, 1) := by decide +kernel
theorem dL_law_466 : decode cL_law 466 = .ok (.iconst 1, 1) := by decide +kernel
theorem dL_law_467 : decode cL_law 467 = .ok (.iadd, 1) := by decide +kernel
theorem dL_law_468 : decode cL_law 468 = .ok (.iaload, 1) := by decide +kernel
theorem dL_law_469 : decode cL_law 469 = .ok (.aload_n 0, 1) := by decide +kernel
theorem dL_law_470 : decode cL_law 470 = .ok (.iload_n 3, 1) := by decide +kernel
theorem dL_law_471 : decode cL_law 471 = .ok (.iconst 2, 1) := by decide +kernel
theorem dL_law_472 : decode cL_law 472 = .ok (.iadd, 1) := by decide +kernel
theorem dL_law_473 : decode cL_law 473 = .ok (.iaload, 1) := by decide +kernel
theorem dL_law_474 : decode cL_law 474 = .ok (.aload_n 0, 1) := by decide +kernel
theorem dL_law_475 : decode cL_law 475 = .ok (.iload_n 3, 1) := by decide +kernel
theorem dL_law_476 : decode cL_law 476 = .ok (.iconst 3, 1) := by decide +kernel
theorem dL_law_477 : decode cL_law 477 = .ok (.iadd, 1) := by decide +kernel
theorem dL_law_478 : decode cL_law 478 = .ok (.iaload, 1) := by decide +kernel
theorem dL_law_479 : decode cL_law 479 = .ok (.invokevirtual 53, 3) := by decide +kernel
theorem dL_law_482 : decode cL_law 482 = .ok (.aload_n 2, 1) := by decide +kernel
theorem dL_law_483 : decode cL_law 483 = .ok (.aload_n 0, 1) := by decide +kernel
theorem dL_law_484 : decode cL_law 484 = .ok (.iload_n 3, 1) := by decide +kernel
theorem dL_law_485 : decode cL_law 485 = .ok (.iconst 1, 1) := by decide +kernel
theorem dL_law_486 : decode cL_law 486 = .ok (.iadd, 1) := by decide +kernel
theorem dL_law_487 : decode cL_law 487 = .ok (.iaload, 1) := by decide +kernel
theorem dL_law_488 : decode cL_law 488 = .ok (.aload_n 0, 1) := by decide +kernel
theorem dL_law_489 : decode cL_law 489 = .ok (.iload_n 3, 1) := by decide +kernel
theorem dL_law_490 : decode cL_law 490 = .ok (.iconst 2, 1) := by decide +kernel
theorem dL_law_491 : decode cL_law 491 = .ok (.iadd, 1) := by decide +kernel
theorem dL_law_492 : decode cL_law 492 = .ok (.iaload, 1) := by decide +kernel
theorem dL_law_493 : decode cL_law 493 = .ok (.aload_n 0, 1) := by decide +kernel
theorem dL_law_494 : decode cL_law 494 = .ok (.iload_n 3, 1) := by decide +kernel
theorem dL_law_495 : decode cL_law 495 = .ok (.iconst 3, 1) := by decide +kernel
theorem dL_law_496 : decode cL_law 496 = .ok (.iadd, 1) := by decide +kernel
theorem dL_law_497 : decode cL_law 497 = .ok (.iaload, 1) := by decide +kernel
theorem dL_law_498 : decode cL_law 498 = .ok (.invokevirtual 56, 3) := by decide +kernel
theorem dL_law_501 : decode cL_law 501 = .ok (.if_icmp .eq 1003, 3) := by decide +kernel
theorem dL_law_506 : decode cL_law 506 = .ok (.aload_n 1, 1) := by decide +kernel
theorem dL_law_507 : decode cL_law 507 = .ok (.aload_n 0, 1) := by decide +kernel
theorem dL_law_508 : decode cL_law 508 = .ok (.iload_n 3, 1) := by decide +kernel
theorem dL_law_509 : decode cL_law 509 = .ok (.iconst 1, 1) := by decide +kernel
theorem dL_law_510 : decode cL_law 510 = .ok (.iadd, 1) := by decide +kernel
theorem dL_law_511 : decode cL_law 511 = .ok (.iaload, 1) := by decide +kernel
theorem dL_law_512 : decode cL_law 512 = .ok (.invokevirtual 57, 3) := by decide +kernel
theorem dL_law_515 : decode cL_law 515 = .ok (.aload_n 2, 1) := by decide +kernel
theorem dL_law_516 : decode cL_law 516 = .ok (.aload_n 0, 1) := by decide +kernel
theorem dL_law_517 : decode cL_law 517 = .ok (.iload_n 3, 1) := by decide +kernel
theorem dL_law_518 : decode cL_law 518 = .ok (.iconst 1, 1) := by decide +kernel
theorem dL_law_519 : decode cL_law 519 = .ok (.iadd, 1) := by decide +kernel
theorem dL_law_520 : decode cL_law 520 = .ok (.iaload, 1) := by decide +kernel
theorem dL_law_521 : decode cL_law 521 = .ok (.invokevirtual 60, 3) := by decide +kernel
theorem dL_law_524 : decode cL_law 524 = .ok (.if_icmp .eq 980, 3) := by decide +kernel
theorem dL_law_529 : decode cL_law 529 = .ok (.aload_n 1, 1) := by decide +kernel
theorem dL_law_530 : decode cL_law 530 = .ok (.invokevirtual 61, 3) := by decide +kernel
theorem dL_law_533 : decode cL_law 533 = .ok (.aload_n 2, 1) := by decide +kernel
theorem dL_law_534 : decode cL_law 534 = .ok (.invokevirtual 64, 3) := by decide +kernel
theorem dL_law_537 : decode cL_law 537 = .ok (.if_icmp .eq 967, 3) := by decide +kernel
theorem dL_law_542 : decode cL_law 542 = .ok (.aload_n 1, 1) := by decide +kernel
theorem dL_law_543 : decode cL_law 543 = .ok (.aload_n 0, 1) := by decide +kernel
theorem dL_law_544 : decode cL_law 544 = .ok (.iload_n 3, 1) := by decide +kernel
theorem dL_law_545 : decode cL_law 545 = .ok (.iconst 1, 1) := by decide +kernel
theorem dL_law_546 : decode cL_law 546 = .ok (.iadd, 1) := by decide +kernel
theorem dL_law_547 : decode cL_law 547 = .ok (.iaload, 1) := by decide +kernel
theorem dL_law_548 : decode cL_law 548 = .ok (.invokevirtual 65, 3) := by decide +kernel
theorem dL_law_551 : decode cL_law 551 = .ok (.aload_n 2, 1) := by decide +kernel
theorem dL_law_552 : decode cL_law 552 = .ok (.aload_n 0, 1) := by decide +kernel
theorem dL_law_553 : decode cL_law 553 = .ok (.iload_n 3, 1) := by decide +kernel
theorem dL_law_554 : decode cL_law 554 = .ok (.iconst 1, 1) := by decide +kernel
theorem dL_law_555 : decode cL_law 555 = .ok (.iadd, 1) := by decide +kernel
theorem dL_law_556 : decode cL_law 556 = .ok (.iaload, 1) := by decide +kernel
theorem dL_law_557 : decode cL_law 557 = .ok (.invokevirtual 68, 3) := by decide +kernel
theorem dL_law_560 : decode cL_law 560 = .ok (.if_icmp .eq 944, 3) := by decide +kernel
theorem dL_law_565 : decode cL_law 565 = .ok (.aload_n 1, 1) := by decide +kernel
theorem dL_law_566 : decode cL_law 566 = .ok (.aload_n 0, 1) := by decide +kernel
theorem dL_law_567 : decode cL_law 567 = .ok (.iload_n 3, 1) := by decide +kernel
theorem dL_law_568 : decode cL_law 568 = .ok (.iconst 1, 1) := by decide +kernel
theorem dL_law_569 : decode cL_law 569 = .ok (.iadd, 1) := by decide +kernel
theorem dL_law_570 : decode cL_law 570 = .ok (.iaload, 1) := by decide +kernel
theorem dL_law_571 : decode cL_law 571 = .ok (.invokevirtual 69, 3) := by decide +kernel
theorem dL_law_574 : decode cL_law 574 = .ok (.aload_n 2, 1) := by decide +kernel
theorem dL_law_575 : decode cL_law 575 = .ok (.aload_n 0, 1) := by decide +kernel
theorem dL_law_576 : decode cL_law 576 = .ok (.iload_n 3, 1) := by decide +kernel
theorem dL_law_577 : decode cL_law 577 = .ok (.iconst 1, 1) := by decide +kernel
theorem dL_law_578 : decode cL_law 578 = .ok (.iadd, 1) := by decide +kernel
theorem dL_law_579 : decode cL_law 579 = .ok (.iaload, 1) := by decide +kernel
theorem dL_law_580 : decode cL_law 580 = .ok (.invokevirtual 72, 3) := by decide +kernel
theorem dL_law_583 : decode cL_law 583 = .ok (.if_icmp .eq 921, 3) := by decide +kernel
theorem dL_law_588 : decode cL_law 588 = .ok (.aload_n 1, 1) := by decide +kernel
theorem dL_law_589 : decode cL_law 589 = .ok (.aload_n 0, 1) := by decide +kernel
theorem dL_law_590 : decode cL_law 590 = .ok (.iload_n 3, 1) := by decide +kernel
theorem dL_law_591 : decode cL_law 591 = .ok (.iconst 1, 1) := by decide +kernel
theorem dL_law_592 : decode cL_law 592 = .ok (.iadd, 1) := by decide +kernel
theorem dL_law_593 : decode cL_law 593 = .ok (.iaload, 1) := by decide +kernel
theorem dL_law_594 : decode cL_law 594 = .ok (.aload_n 0, 1) := by decide +kernel
theorem dL_law_595 : decode cL_law 595 = .ok (.iload_n 3, 1) := by decide +kernel
theorem dL_law_596 : decode cL_law 596 = .ok (.iconst 2, 1) := by decide +kernel
theorem dL_law_597 : decode cL_law 597 = .ok (.iadd, 1) := by decide +kernel
theorem dL_law_598 : decode cL_law 598 = .ok (.iaload, 1) := by decide +kernel
theorem dL_law_599 : decode cL_law 599 = .ok (.invokevirtual 73, 3) := by decide +kernel
theorem dL_law_602 : decode cL_law 602 = .ok (.aload_n 2, 1) := by decide +kernel
theorem dL_law_603 : decode cL_law 603 = .ok (.aload_n 0, 1) := by decide +kernel
theorem dL_law_604 : decode cL_law 604 = .ok (.iload_n 3, 1) := by decide +kernel
theorem dL_law_605 : decode cL_law 605 = .ok (.iconst 1, 1) := by decide +kernel
theorem dL_law_606 : decode cL_law 606 = .ok (.iadd, 1) := by decide +kernel
theorem dL_law_607 : decode cL_law 607 = .ok (.iaload, 1) := by decide +kernel
theorem dL_law_608 : decode cL_law 608 = .ok (.aload_n 0, 1) := by decide +kernel
theorem dL_law_609 : decode cL_law 609 = .ok (.iload_n 3, 1) := by decide +kernel
theorem dL_law_610 : decode cL_law 610 = .ok (.iconst 2, 1) := by decide +kernel
theorem dL_law_611 : decode cL_law 611 = .ok (.iadd, 1) := by decide +kernel
theorem dL_law_612 : decode cL_law 612 = .ok (.iaload, 1) := by decide +kernel
theorem dL_law_613 : decode cL_law 613 = .ok (.invokevirtual 76, 3) := by decide +kernel
theorem dL_law_616 : decode cL_law 616 = .ok (.if_icmp .eq 888, 3) := by decide +kernel
theorem dL_law_621 : decode cL_law 621 = .ok (.aload_n 1, 1) := by decide +kernel
theorem dL_law_622 : decode cL_law 622 = .ok (.aload_n 0, 1) := by decide +kernel
theorem dL_law_623 : decode cL_law 623 = .ok (.iload_n 3, 1) := by decide +kernel
theorem dL_law_624 : decode cL_law 624 = .ok (.iconst 1, 1) := by decide +kernel
theorem dL_law_625 : decode cL_law 625 = .ok (.iadd, 1) := by decide +kernel
theorem dL_law_626 : decode cL_law 626 = .ok (.iaload, 1) := by decide +kernel
theorem dL_law_627 : decode cL_law 627 = .ok (.invokevirtual 77, 3) := by decide +kernel
theorem dL_law_630 : decode cL_law 630 = .ok (.aload_n 2, 1) := by decide +kernel
theorem dL_law_631 : decode cL_law 631 = .ok (.aload_n 0, 1) := by decide +kernel
theorem dL_law_632 : decode cL_law 632 = .ok (.iload_n 3, 1) := by decide +kernel
theorem dL_law_633 : decode cL_law 633 = .ok (.iconst 1, 1) := by decide +kernel
theorem dL_law_634 : decode cL_law 634 = .ok (.iadd, 1) := by decide +kernel
theorem dL_law_635 : decode cL_law 635 = .ok (.iaload, 1) := by decide +kernel
theorem dL_law_636 : decode cL_law 636 = .ok (.invokevirtual 80, 3) := by decide +kernel
theorem dL_law_639 : decode cL_law 639 = .ok (.if_icmp .eq 865, 3) := by decide +kernel
theorem dL_law_644 : decode cL_law 644 = .ok (.aload_n 1, 1) := by decide +kernel
theorem dL_law_645 : decode cL_law 645 = .ok (.aload_n 0, 1) := by decide +kernel
theorem dL_law_646 : decode cL_law 646 = .ok (.iload_n 3, 1) := by decide +kernel
theorem dL_law_647 : decode cL_law 647 = .ok (.iconst 1, 1) := by decide +kernel
theorem dL_law_648 : decode cL_law 648 = .ok (.iadd, 1) := by decide +kernel
theorem dL_law_649 : decode cL_law 649 = .ok (.iaload, 1) := by decide +kernel
theorem dL_law_650 : decode cL_law 650 = .ok (.aload_n 0, 1) := by decide +kernel
theorem dL_law_651 : decode cL_law 651 = .ok (.iload_n 3, 1) := by decide +kernel
theorem dL_law_652 : decode cL_law 652 = .ok (.iconst 2, 1) := by decide +kernel
theorem dL_law_653 : decode cL_law 653 = .ok (.iadd, 1) := by decide +kernel
theorem dL_law_654 : decode cL_law 654 = .ok (.iaload, 1) := by decide +kernel
theorem dL_law_655 : decode cL_law 655 = .ok (.invokevirtual 81, 3) := by decide +kernel
theorem dL_law_658 : decode cL_law 658 = .ok (.aload_n 2, 1) := by decide +kernel
theorem dL_law_659 : decode cL_law 659 = .ok (.aload_n 0, 1) := by decide +kernel
theorem dL_law_660 : decode cL_law 660 = .ok (.iload_n 3, 1) := by decide +kernel
theorem dL_law_661 : decode cL_law 661 = .ok (.iconst 1, 1) := by decide +kernel
theorem dL_law_662 : decode cL_law 662 = .ok (.iadd, 1) := by decide +kernel
theorem dL_law_663 : decode cL_law 663 = .ok (.iaload, 1) := by decide +kernel
theorem dL_law_664 : decode cL_law 664 = .ok (.aload_n 0, 1) := by decide +kernel
theorem dL_law_665 : decode cL_law 665 = .ok (.iload_n 3, 1) := by decide +kernel
theorem dL_law_666 : decode cL_law 666 = .ok (.iconst 2, 1) := by decide +kernel
theorem dL_law_667 : decode cL_law 667 = .ok (.iadd, 1) := by decide +kernel
theorem dL_law_668 : decode cL_law 668 = .ok (.iaload, 1) := by decide +kernel
theorem dL_law_669 : decode cL_law 669 = .ok (.invokevirtual 84, 3) := by decide +kernel
theorem dL_law_672 : decode cL_law 672 = .ok (.if_icmp .eq 832, 3) := by decide +kernel
theorem dL_law_677 : decode cL_law 677 = .ok (.aload_n 1, 1) := by decide +kernel
theorem dL_law_678 : decode cL_law 678 = .ok (.aload_n 0, 1) := by decide +kernel
theorem dL_law_679 : decode cL_law 679 = .ok (.iload_n 3, 1) := by decide +kernel
theorem dL_law_680 : decode cL_law 680 = .ok (.iconst 1, 1) := by decide +kernel
theorem dL_law_681 : decode cL_law 681 = .ok (.iadd, 1) := by decide +kernel
theorem dL_law_682 : decode cL_law 682 = .ok (.iaload, 1) := by decide +kernel
theorem dL_law_683 : decode cL_law 683 = .ok (.invokevirtual 85, 3) := by decide +kernel
theorem dL_law_686 : decode cL_law 686 = .ok (.aload_n 2, 1) := by decide +kernel
theorem dL_law_687 : decode cL_law 687 = .ok (.aload_n 0, 1) := by decide +kernel
theorem dL_law_688 : decode cL_law 688 = .ok (.iload_n 3, 1) := by decide +kernel
theorem dL_law_689 : decode cL_law 689 = .ok (.iconst 1, 1) := by decide +kernel
theorem dL_law_690 : decode cL_law 690 = .ok (.iadd, 1) := by decide +kernel
theorem dL_law_691 : decode cL_law 691 = .ok (.iaload, 1) := by decide +kernel
theorem dL_law_692 : decode cL_law 692 = .ok (.invokevirtual 88, 3) := by decide +kernel
theorem dL_law_695 : decode cL_law 695 = .ok (.if_icmp .eq 809, 3) := by decide +kernel
theorem dL_law_700 : decode cL_law 700 = .ok (.aload_n 1, 1) := by decide +kernel
theorem dL_law_701 : decode cL_law 701 = .ok (.aload_n 0, 1) := by decide +kernel
theorem dL_law_702 : decode cL_law 702 = .ok (.iload_n 3, 1) := by decide +kernel
theorem dL_law_703 : decode cL_law 703 = .ok (.iconst 1, 1) := by decide +kernel
theorem dL_law_704 : decode cL_law 704 = .ok (.iadd, 1) := by decide +kernel
theorem dL_law_705 : decode cL_law 705 = .ok (.iaload, 1) := by decide +kernel
theorem dL_law_706 : decode cL_law 706 = .ok (.invokevirtual 89, 3) := by decide +kernel
theorem dL_law_709 : decode cL_law 709 = .ok (.aload_n 2, 1) := by decide +kernel
theorem dL_law_710 : decode cL_law 710 = .ok (.aload_n 0, 1) := by decide +kernel
theorem dL_law_711 : decode cL_law 711 = .ok (.iload_n 3, 1) := by decide +kernel
theorem dL_law_712 : decode cL_law 712 = .ok (.iconst 1, 1) := by decide +kernel
theorem dL_law_713 : decode cL_law 713 = .ok (.iadd, 1) := by decide +kernel
theorem dL_law_714 : decode cL_law 714 = .ok (.iaload, 1) := by decide +kernel
theorem dL_law_715 : decode cL_law 715 = .ok (.invokevirtual 92, 3) := by decide +kernel
theorem dL_law_718 : decode cL_law 718 = .ok (.if_icmp .eq 786, 3) := by decide +kernel
theorem dL_law_723 : decode cL_law 723 = .ok (.aload_n 1, 1) := by decide +kernel
theorem dL_law_724 : decode cL_law 724 = .ok (.aload_n 0, 1) := by decide +kernel
theorem dL_law_725 : decode cL_law 725 = .ok (.iload_n 3, 1) := by decide +kernel
theorem dL_law_726 : decode cL_law 726 = .ok (.iconst 1, 1) := by decide +kernel
theorem dL_law_727 : decode cL_law 727 = .ok (.iadd, 1) := by decide +kernel
theorem dL_law_728 : decode cL_law 728 = .ok (.iaload, 1) := by decide +kernel
theorem dL_law_729 : decode cL_law 729 = .ok (.aload_n 0, 1) := by decide +kernel
theorem dL_law_730 : decode cL_law 730 = .ok (.iload_n 3, 1) := by decide +kernel
theorem dL_law_731 : decode cL_law 731 = .ok (.iconst 2, 1) := by decide +kernel
theorem dL_law_732 : decode cL_law 732 = .ok (.iadd, 1) := by decide +kernel
theorem dL_law_733 : decode cL_law 733 = .ok (.iaload, 1) := by decide +kernel
theorem dL_law_734 : decode cL_law 734 = .ok (.invokevirtual 93, 3) := by decide +kernel
theorem dL_law_737 : decode cL_law 737 = .ok (.aload_n 2, 1) := by decide +kernel
theorem dL_law_738 : decode cL_law 738 = .ok (.aload_n 0, 1) := by decide +kernel
theorem dL_law_739 : decode cL_law 739 = .ok (.iload_n 3, 1) := by decide +kernel
theorem dL_law_740 : decode cL_law 740 = .ok (.iconst 1, 1) := by decide +kernel
theorem dL_law_741 : decode cL_law 741 = .ok (.iadd, 1) := by decide +kernel
theorem dL_law_742 : decode cL_law 742 = .ok (.iaload, 1) := by decide +kernel
theorem dL_law_743 : decode cL_law 743 = .ok (.aload_n 0, 1) := by decide +kernel
theorem dL_law_744 : decode cL_law 744 = .ok (.iload_n 3, 1) := by decide +kernel
theorem dL_law_745 : decode cL_law 745 = .ok (.iconst 2, 1) := by decide +kernel
theorem dL_law_746 : decode cL_law 746 = .ok (.iadd, 1) := by decide +kernel
theorem dL_law_747 : decode cL_law 747 = .ok (.iaload, 1) := by decide +kernel
theorem dL_law_748 : decode cL_law 748 = .ok (.invokevirtual 96, 3) := by decide +kernel
theorem dL_law_751 : decode cL_law 751 = .ok (.if_icmp .eq 753, 3) := by decide +kernel
theorem dL_law_756 : decode cL_law 756 = .ok (.aload_n 1, 1) := by decide +kernel
theorem dL_law_757 : decode cL_law 757 = .ok (.aload_n 0, 1) := by decide +kernel
theorem dL_law_758 : decode cL_law 758 = .ok (.iload_n 3, 1) := by decide +kernel
theorem dL_law_759 : decode cL_law 759 = .ok (.iconst 1, 1) := by decide +kernel
theorem dL_law_760 : decode cL_law 760 = .ok (.iadd, 1) := by decide +kernel
theorem dL_law_761 : decode cL_law 761 = .ok (.iaload, 1) := by decide +kernel
theorem dL_law_762 : decode cL_law 762 = .ok (.aload_n 0, 1) := by decide +kernel
theorem dL_law_763 : decode cL_law 763 = .ok (.iload_n 3, 1) := by decide +kernel
theorem dL_law_764 : decode cL_law 764 = .ok (.iconst 2, 1) := by decide +kernel
theorem dL_law_765 : decode cL_law 765 = .ok (.iadd, 1) := by decide +kernel
theorem dL_law_766 : decode cL_law 766 = .ok (.iaload, 1) := by decide +kernel
theorem dL_law_767 : decode cL_law 767 = .ok (.aload_n 0, 1) := by decide +kernel
theorem dL_law_768 : decode cL_law 768 = .ok (.iload_n 3, 1) := by decide +kernel
theorem dL_law_769 : decode cL_law 769 = .ok (.iconst 3, 1) := by decide +kernel
theorem dL_law_770 : decode cL_law 770 = .ok (.iadd, 1) := by decide +kernel
theorem dL_law_771 : decode cL_law 771 = .ok (.iaload, 1) := by decide +kernel
theorem dL_law_772 : decode cL_law 772 = .ok (.invokevirtual 97, 3) := by decide +kernel
theorem dL_law_775 : decode cL_law 775 = .ok (.aload_n 2, 1) := by decide +kernel
theorem dL_law_776 : decode cL_law 776 = .ok (.aload_n 0, 1) := by decide +kernel
theorem dL_law_777 : decode cL_law 777 = .ok (.iload_n 3, 1) := by decide +kernel
theorem dL_law_778 : decode cL_law 778 = .ok (.iconst 1, 1) := by decide +kernel
theorem dL_law_779 : decode cL_law 779 = .ok (.iadd, 1) := by decide +kernel
theorem dL_law_780 : decode cL_law 780 = .ok (.iaload, 1) := by decide +kernel
theorem dL_law_781 : decode cL_law 781 = .ok (.aload_n 0, 1) := by decide +kernel
theorem dL_law_782 : decode cL_law 782 = .ok (.iload_n 3, 1) := by decide +kernel
theorem dL_law_783 : decode cL_law 783 = .ok (.iconst 2, 1) := by decide +kernel
theorem dL_law_784 : decode cL_law 784 = .ok (.iadd, 1) := by decide +kernel
theorem dL_law_785 : decode cL_law 785 = .ok (.iaload, 1) := by decide +kernel
theorem dL_law_786 : decode cL_law 786 = .ok (.aload_n 0, 1) := by decide +kernel
theorem dL_law_787 : decode cL_law 787 = .ok (.iload_n 3, 1) := by decide +kernel
theorem dL_law_788 : decode cL_law 788 = .ok (.iconst 3, 1) := by decide +kernel
theorem dL_law_789 : decode cL_law 789 = .ok (.iadd, 1) := by decide +kernel
theorem dL_law_790 : decode cL_law 790 = .ok (.iaload, 1) := by decide +kernel
theorem dL_law_791 : decode cL_law 791 = .ok (.invokevirtual 100, 3) := by decide +kernel
theorem dL_law_794 : decode cL_law 794 = .ok (.if_icmp .eq 710, 3) := by decide +kernel
theorem dL_law_799 : decode cL_law 799 = .ok (.aload_n 1, 1) := by decide +kernel
theorem dL_law_800 : decode cL_law 800 = .ok (.aload_n 0, 1) := by decide +kernel
theorem dL_law_801 : decode cL_law 801 = .ok (.iload_n 3, 1) := by decide +kernel
theorem dL_law_802 : decode cL_law 802 = .ok (.iconst 1, 1) := by decide +kernel
theorem dL_law_803 : decode cL_law 803 = .ok (.iadd, 1) := by decide +kernel
theorem dL_law_804 : decode cL_law 804 = .ok (.iaload, 1) := by decide +kernel
theorem dL_law_805 : decode cL_law 805 = .ok (.aload_n 0, 1) := by decide +kernel
theorem dL_law_806 : decode cL_law 806 = .ok (.iload_n 3, 1) := by decide +kernel
theorem dL_law_807 : decode cL_law 807 = .ok (.iconst 2, 1) := by decide +kernel
theorem dL_law_808 : decode cL_law 808 = .ok (.iadd, 1) := by decide +kernel
theorem dL_law_809 : decode cL_law 809 = .ok (.iaload, 1) := by decide +kernel
theorem dL_law_810 : decode cL_law 810 = .ok (.invokevirtual 101, 3) := by decide +kernel
theorem dL_law_813 : decode cL_law 813 = .ok (.aload_n 2, 1) := by decide +kernel
theorem dL_law_814 : decode cL_law 814 = .ok (.aload_n 0, 1) := by decide +kernel
theorem dL_law_815 : decode cL_law 815 = .ok (.iload_n 3, 1) := by decide +kernel
theorem dL_law_816 : decode cL_law 816 = .ok (.iconst 1, 1) := by decide +kernel
theorem dL_law_817 : decode cL_law 817 = .ok (.iadd, 1) := by decide +kernel
theorem dL_law_818 : decode cL_law 818 = .ok (.iaload, 1) := by decide +kernel
theorem dL_law_819 : decode cL_law 819 = .ok (.aload_n 0, 1) := by decide +kernel
theorem dL_law_820 : decode cL_law 820 = .ok (.iload_n 3, 1) := by decide +kernel
theorem dL_law_821 : decode cL_law 821 = .ok (.iconst 2, 1) := by decide +kernel
theorem dL_law_822 : decode cL_law 822 = .ok (.iadd, 1) := by decide +kernel
theorem dL_law_823 : decode cL_law 823 = .ok (.iaload, 1) := by decide +kernel
theorem dL_law_824 : decode cL_law 824 = .ok (.invokevirtual 104, 3) := by decide +kernel
theorem dL_law_827 : decode cL_law 827 = .ok (.if_icmp .eq 677, 3) := by decide +kernel
theorem dL_law_832 : decode cL_law 832 = .ok (.aload_n 1, 1) := by decide +kernel
theorem dL_law_833 : decode cL_law 833 = .ok (.aload_n 0, 1) := by decide +kernel
theorem dL_law_834 : decode cL_law 834 = .ok (.iload_n 3, 1) := by decide +kernel
theorem dL_law_835 : decode cL_law 835 = .ok (.iconst 1, 1) := by decide +kernel
theorem dL_law_836 : decode cL_law 836 = .ok (.iadd, 1) := by decide +kernel
theorem dL_law_837 : decode cL_law 837 = .ok (.iaload, 1) := by decide +kernel
theorem dL_law_838 : decode cL_law 838 = .ok (.aload_n 0, 1) := by decide +kernel
theorem dL_law_839 : decode cL_law 839 = .ok (.iload_n 3, 1) := by decide +kernel
theorem dL_law_840 : decode cL_law 840 = .ok (.iconst 2, 1) := by decide +kernel
theorem dL_law_841 : decode cL_law 841 = .ok (.iadd, 1) := by decide +kernel
theorem dL_law_842 : decode cL_law 842 = .ok (.iaload, 1) := by decide +kernel
theorem dL_law_843 : decode cL_law 843 = .ok (.aload_n 0, 1) := by decide +kernel
theorem dL_law_844 : decode cL_law 844 = .ok (.iload_n 3, 1) := by decide +kernel
theorem dL_law_845 : decode cL_law 845 = .ok (.iconst 3, 1) := by decide +kernel
theorem dL_law_846 : decode cL_law 846 = .ok (.iadd, 1) := by decide +kernel
theorem dL_law_847 : decode cL_law 847 = .ok (.iaload, 1) := by decide +kernel
theorem dL_law_848 : decode cL_law 848 = .ok (.invokevirtual 105, 3) := by decide +kernel
theorem dL_law_851 : decode cL_law 851 = .ok (.aload_n 2, 1) := by decide +kernel
theorem dL_law_852 : decode cL_law 852 = .ok (.aload_n 0, 1) := by decide +kernel
theorem dL_law_853 : decode cL_law 853 = .ok (.iload_n 3, 1) := by decide +kernel
theorem dL_law_854 : decode cL_law 854 = .ok (.iconst 1, 1) := by decide +kernel
theorem dL_law_855 : decode cL_law 855 = .ok (.iadd, 1) := by decide +kernel
theorem dL_law_856 : decode cL_law 856 = .ok (.iaload, 1) := by decide +kernel
theorem dL_law_857 : decode cL_law 857 = .ok (.aload_n 0, 1) := by decide +kernel
theorem dL_law_858 : decode cL_law 858 = .ok (.iload_n 3, 1) := by decide +kernel
theorem dL_law_859 : decode cL_law 859 = .ok (.iconst 2, 1) := by decide +kernel
theorem dL_law_860 : decode cL_law 860 = .ok (.iadd, 1) := by decide +kernel
theorem dL_law_861 : decode cL_law 861 = .ok (.iaload, 1) := by decide +kernel
theorem dL_law_862 : decode cL_law 862 = .ok (.aload_n 0, 1) := by decide +kernel
theorem dL_law_863 : decode cL_law 863 = .ok (.iload_n 3, 1) := by decide +kernel
theorem dL_law_864 : decode cL_law 864 = .ok (.iconst 3, 1) := by decide +kernel
theorem dL_law_865 : decode cL_law 865 = .ok (.iadd, 1) := by decide +kernel
theorem dL_law_866 : decode cL_law 866 = .ok (.iaload, 1) := by decide +kernel
theorem dL_law_867 : decode cL_law 867 = .ok (.invokevirtual 108, 3) := by decide +kernel
theorem dL_law_870 : decode cL_law 870 = .ok (.if_icmp .eq 634, 3) := by decide +kernel
theorem dL_law_875 : decode cL_law 875 = .ok (.aload_n 1, 1) := by decide +kernel
theorem dL_law_876 : decode cL_law 876 = .ok (.aload_n 0, 1) := by decide +kernel
theorem dL_law_877 : decode cL_law 877 = .ok (.iload_n 3, 1) := by decide +kernel
theorem dL_law_878 : decode cL_law 878 = .ok (.iconst 1, 1) := by decide +kernel
theorem dL_law_879 : decode cL_law 879 = .ok (.iadd, 1) := by decide +kernel
theorem dL_law_880 : decode cL_law 880 = .ok (.iaload, 1) := by decide +kernel
theorem dL_law_881 : decode cL_law 881 = .ok (.aload_n 0, 1) := by decide +kernel
theorem dL_law_882 : decode cL_law 882 = .ok (.iload_n 3, 1) := by decide +kernel
theorem dL_law_883 : decode cL_law 883 = .ok (.iconst 2, 1) := by decide +kernel
theorem dL_law_884 : decode cL_law 884 = .ok (.iadd, 1) := by decide +kernel
theorem dL_law_885 : decode cL_law 885 = .ok (.iaload, 1) := by decide +kernel
theorem dL_law_886 : decode cL_law 886 = .ok (.aload_n 0, 1) := by decide +kernel
theorem dL_law_887 : decode cL_law 887 = .ok (.iload_n 3, 1) := by decide +kernel
theorem dL_law_888 : decode cL_law 888 = .ok (.iconst 3, 1) := by decide +kernel
theorem dL_law_889 : decode cL_law 889 = .ok (.iadd, 1) := by decide +kernel
theorem dL_law_890 : decode cL_law 890 = .ok (.iaload, 1) := by decide +kernel
theorem dL_law_891 : decode cL_law 891 = .ok (.invokevirtual 109, 3) := by decide +kernel
theorem dL_law_894 : decode cL_law 894 = .ok (.aload_n 2, 1) := by decide +kernel
theorem dL_law_895 : decode cL_law 895 = .ok (.aload_n 0, 1) := by decide +kernel
theorem dL_law_896 : decode cL_law 896 = .ok (.iload_n 3, 1) := by decide +kernel
theorem dL_law_897 : decode cL_law 897 = .ok (.iconst 1, 1) := by decide +kernel
theorem dL_law_898 : decode cL_law 898 = .ok (.iadd, 1) := by decide +kernel
theorem dL_law_899 : decode cL_law 899 = .ok (.iaload, 1) := by decide +kernel
theorem dL_law_900 : decode cL_law 900 = .ok (.aload_n 0, 1) := by decide +kernel
theorem dL_law_901 : decode cL_law 901 = .ok (.iload_n 3, 1) := by decide +kernel
theorem dL_law_902 : decode cL_law 902 = .ok (.iconst 2, 1) := by decide +kernel
theorem dL_law_903 : decode cL_law 903 = .ok (.iadd, 1) := by decide +kernel
theorem dL_law_904 : decode cL_law 904 = .ok (.iaload, 1) := by decide +kernel
theorem dL_law_905 : decode cL_law 905 = .ok (.aload_n 0, 1) := by decide +kernel
theorem dL_law_906 : decode cL_law 906 = .ok (.iload_n 3, 1) := by decide +kernel
theorem dL_law_907 : decode cL_law 907 = .ok (.iconst 3, 1) := by decide +kernel
theorem dL_law_908 : decode cL_law 908 = .ok (.iadd, 1) := by decide +kernel
theorem dL_law_909 : decode cL_law 909 = .ok (.iaload, 1) := by decide +kernel
theorem dL_law_910 : decode cL_law 910 = .ok (.invokevirtual 112, 3) := by decide +kernel
theorem dL_law_913 : decode cL_law 913 = .ok (.if_icmp .eq 591, 3) := by decide +kernel
theorem dL_law_918 : decode cL_law 918 = .ok (.aload_n 1, 1) := by decide +kernel
theorem dL_law_919 : decode cL_law 919 = .ok (.aload_n 0, 1) := by decide +kernel
theorem dL_law_920 : decode cL_law 920 = .ok (.iload_n 3, 1) := by decide +kernel
theorem dL_law_921 : decode cL_law 921 = .ok (.iconst 1, 1) := by decide +kernel
theorem dL_law_922 : decode cL_law 922 = .ok (.iadd, 1) := by decide +kernel
theorem dL_law_923 : decode cL_law 923 = .ok (.iaload, 1) := by decide +kernel
theorem dL_law_924 : decode cL_law 924 = .ok (.aload_n 0, 1) := by decide +kernel
theorem dL_law_925 : decode cL_law 925 = .ok (.iload_n 3, 1) := by decide +kernel
theorem dL_law_926 : decode cL_law 926 = .ok (.iconst 2, 1) := by decide +kernel
theorem dL_law_927 : decode cL_law 927 = .ok (.iadd, 1) := by decide +kernel
theorem dL_law_928 : decode cL_law 928 = .ok (.iaload, 1) := by decide +kernel
theorem dL_law_929 : decode cL_law 929 = .ok (.invokevirtual 113, 3) := by decide +kernel
theorem dL_law_932 : decode cL_law 932 = .ok (.aload_n 2, 1) := by decide +kernel
theorem dL_law_933 : decode cL_law 933 = .ok (.aload_n 0, 1) := by decide +kernel
theorem dL_law_934 : decode cL_law 934 = .ok (.iload_n 3, 1) := by decide +kernel
theorem dL_law_935 : decode cL_law 935 = .ok (.iconst 1, 1) := by decide +kernel
theorem dL_law_936 : decode cL_law 936 = .ok (.iadd, 1) := by decide +kernel
theorem dL_law_937 : decode cL_law 937 = .ok (.iaload, 1) := by decide +kernel
theorem dL_law_938 : decode cL_law 938 = .ok (.aload_n 0, 1) := by decide +kernel
theorem dL_law_939 : decode cL_law 939 = .ok (.iload_n 3, 1) := by decide +kernel
theorem dL_law_940 : decode cL_law 940 = .ok (.iconst 2, 1) := by decide +kernel
theorem dL_law_941 : decode cL_law 941 = .ok (.iadd, 1) := by decide +kernel
theorem dL_law_942 : decode cL_law 942 = .ok (.iaload, 1) := by decide +kernel
theorem dL_law_943 : decode cL_law 943 = .ok (.invokevirtual 116, 3) := by decide +kernel
theorem dL_law_946 : decode cL_law 946 = .ok (.if_icmp .eq 558, 3) := by decide +kernel
theorem dL_law_951 : decode cL_law 951 = .ok (.aload_n 1, 1) := by decide +kernel
theorem dL_law_952 : decode cL_law 952 = .ok (.aload_n 0, 1) := by decide +kernel
theorem dL_law_953 : decode cL_law 953 = .ok (.iload_n 3, 1) := by decide +kernel
theorem dL_law_954 : decode cL_law 954 = .ok (.iconst 1, 1) := by decide +kernel
theorem dL_law_955 : decode cL_law 955 = .ok (.iadd, 1) := by decide +kernel
theorem dL_law_956 : decode cL_law 956 = .ok (.iaload, 1) := by decide +kernel
theorem dL_law_957 : decode cL_law 957 = .ok (.aload_n 0, 1) := by decide +kernel
theorem dL_law_958 : decode cL_law 958 = .ok (.iload_n 3, 1) := by decide +kernel
theorem dL_law_959 : decode cL_law 959 = .ok (.iconst 2, 1) := by decide +kernel
theorem dL_law_960 : decode cL_law 960 = .ok (.iadd, 1) := by decide +kernel
theorem dL_law_961 : decode cL_law 961 = .ok (.iaload, 1) := by decide +kernel
theorem dL_law_962 : decode cL_law 962 = .ok (.aload_n 0, 1) := by decide +kernel
theorem dL_law_963 : decode cL_law 963 = .ok (.iload_n 3, 1) := by decide +kernel
theorem dL_law_964 : decode cL_law 964 = .ok (.iconst 3, 1) := by decide +kernel
theorem dL_law_965 : decode cL_law 965 = .ok (.iadd, 1) := by decide +kernel
theorem dL_law_966 : decode cL_law 966 = .ok (.iaload, 1) := by decide +kernel
theorem dL_law_967 : decode cL_law 967 = .ok (.invokevirtual 117, 3) := by decide +kernel
theorem dL_law_970 : decode cL_law 970 = .ok (.aload_n 2, 1) := by decide +kernel
theorem dL_law_971 : decode cL_law 971 = .ok (.aload_n 0, 1) := by decide +kernel
theorem dL_law_972 : decode cL_law 972 = .ok (.iload_n 3, 1) := by decide +kernel
theorem dL_law_973 : decode cL_law 973 = .ok (.iconst 1, 1) := by decide +kernel
theorem dL_law_974 : decode cL_law 974 = .ok (.iadd, 1) := by decide +kernel
theorem dL_law_975 : decode cL_law 975 = .ok (.iaload, 1) := by decide +kernel
theorem dL_law_976 : decode cL_law 976 = .ok (.aload_n 0, 1) := by decide +kernel
theorem dL_law_977 : decode cL_law 977 = .ok (.iload_n 3, 1) := by decide +kernel
theorem dL_law_978 : decode cL_law 978 = .ok (.iconst 2, 1) := by decide +kernel
theorem dL_law_979 : decode cL_law 979 = .ok (.iadd, 1) := by decide +kernel
theorem dL_law_980 : decode cL_law 980 = .ok (.iaload, 1) := by decide +kernel
theorem dL_law_981 : decode cL_law 981 = .ok (.aload_n 0, 1) := by decide +kernel
theorem dL_law_982 : decode cL_law 982 = .ok (.iload_n 3, 1) := by decide +kernel
theorem dL_law_983 : decode cL_law 983 = .ok (.iconst 3, 1) := by decide +kernel
theorem dL_law_984 : decode cL_law 984 = .ok (.iadd, 1) := by decide +kernel
theorem dL_law_985 : decode cL_law 985 = .ok (.iaload, 1) := by decide +kernel
theorem dL_law_986 : decode cL_law 986 = .ok (.invokevirtual 121, 3) := by decide +kernel
theorem dL_law_989 : decode cL_law 989 = .ok (.lcmp, 1) := by decide +kernel
theorem dL_law_990 : decode cL_law 990 = .ok (.ifCond .eq 514, 3) := by decide +kernel
theorem dL_law_995 : decode cL_law 995 = .ok (.aload_n 1, 1) := by decide +kernel
theorem dL_law_996 : decode cL_law 996 = .ok (.aload_n 0, 1) := by decide +kernel
theorem dL_law_997 : decode cL_law 997 = .ok (.iload_n 3, 1) := by decide +kernel
theorem dL_law_998 : decode cL_law 998 = .ok (.iconst 1, 1) := by decide +kernel
theorem dL_law_999 : decode cL_law 999 = .ok (.iadd, 1) := by decide +kernel
theorem dL_law_1000 : decode cL_law 1000 = .ok (.iaload, 1) := by decide +kernel
theorem dL_law_1001 : decode cL_law 1001 = .ok (.aload_n 0, 1) := by decide +kernel
theorem dL_law_1002 : decode cL_law 1002 = .ok (.iload_n 3, 1) := by decide +kernel
theorem dL_law_1003 : decode cL_law 1003 = .ok (.iconst 2, 1) := by decide +kernel
theorem dL_law_1004 : decode cL_law 1004 = .ok (.iadd, 1) := by decide +kernel
theorem dL_law_1005 : decode cL_law 1005 = .ok (.iaload, 1) := by decide +kernel
theorem dL_law_1006 : decode cL_law 1006 = .ok (.invokevirtual 122, 3) := by decide +kernel
theorem dL_law_1009 : decode cL_law 1009 = .ok (.aload_n 2, 1) := by decide +kernel
theorem dL_law_1010 : decode cL_law 1010 = .ok (.aload_n 0, 1) := by decide +kernel
theorem dL_law_1011 : decode cL_law 1011 = .ok (.iload_n 3, 1) := by decide +kernel
theorem dL_law_1012 : decode cL_law 1012 = .ok (.iconst 1, 1) := by decide +kernel
theorem dL_law_1013 : decode cL_law 1013 = .ok (.iadd, 1) := by decide +kernel
theorem dL_law_1014 : decode cL_law 1014 = .ok (.iaload, 1) := by decide +kernel
theorem dL_law_1015 : decode cL_law 1015 = .ok (.aload_n 0, 1) := by decide +kernel
theorem dL_law_1016 : decode cL_law 1016 = .ok (.iload_n 3, 1) := by decide +kernel
theorem dL_law_1017 : decode cL_law 1017 = .ok (.iconst 2, 1) := by decide +kernel
theorem dL_law_1018 : decode cL_law 1018 = .ok (.iadd, 1) := by decide +kernel
theorem dL_law_1019 : decode cL_law 1019 = .ok (.iaload, 1) := by decide +kernel
theorem dL_law_1020 : decode cL_law 1020 = .ok (.invokevirtual 125, 3) := by decide +kernel
theorem dL_law_1023 : decode cL_law 1023 = .ok (.if_icmp .eq 481, 3) := by decide +kernel
theorem dL_law_1028 : decode cL_law 1028 = .ok (.aload_n 1, 1) := by decide +kernel
theorem dL_law_1029 : decode cL_law 1029 = .ok (.aload_n 0, 1) := by decide +kernel
theorem dL_law_1030 : decode cL_law 1030 = .ok (.iload_n 3, 1) := by decide +kernel
theorem dL_law_1031 : decode cL_law 1031 = .ok (.iconst 1, 1) := by decide +kernel
theorem dL_law_1032 : decode cL_law 1032 = .ok (.iadd, 1) := by decide +kernel
theorem dL_law_1033 : decode cL_law 1033 = .ok (.iaload, 1) := by decide +kernel
theorem dL_law_1034 : decode cL_law 1034 = .ok (.aload_n 0, 1) := by decide +kernel
theorem dL_law_1035 : decode cL_law 1035 = .ok (.iload_n 3, 1) := by decide +kernel
theorem dL_law_1036 : decode cL_law 1036 = .ok (.iconst 2, 1) := by decide +kernel
theorem dL_law_1037 : decode cL_law 1037 = .ok (.iadd, 1) := by decide +kernel
theorem dL_law_1038 : decode cL_law 1038 = .ok (.iaload, 1) := by decide +kernel
theorem dL_law_1039 : decode cL_law 1039 = .ok (.invokevirtual 126, 3) := by decide +kernel
theorem dL_law_1042 : decode cL_law 1042 = .ok (.aload_n 2, 1) := by decide +kernel
theorem dL_law_1043 : decode cL_law 1043 = .ok (.aload_n 0, 1) := by decide +kernel
theorem dL_law_1044 : decode cL_law 1044 = .ok (.iload_n 3, 1) := by decide +kernel
theorem dL_law_1045 : decode cL_law 1045 = .ok (.iconst 1, 1) := by decide +kernel
theorem dL_law_1046 : decode cL_law 1046 = .ok (.iadd, 1) := by decide +kernel
theorem dL_law_1047 : decode cL_law 1047 = .ok (.iaload, 1) := by decide +kernel
theorem dL_law_1048 : decode cL_law 1048 = .ok (.aload_n 0, 1) := by decide +kernel
theorem dL_law_1049 : decode cL_law 1049 = .ok (.iload_n 3, 1) := by decide +kernel
theorem dL_law_1050 : decode cL_law 1050 = .ok (.iconst 2, 1) := by decide +kernel
theorem dL_law_1051 : decode cL_law 1051 = .ok (.iadd, 1) := by decide +kernel
theorem dL_law_1052 : decode cL_law 1052 = .ok (.iaload, 1) := by decide +kernel
theorem dL_law_1053 : decode cL_law 1053 = .ok (.invokevirtual 129, 3) := by decide +kernel
theorem dL_law_1056 : decode cL_law 1056 = .ok (.if_icmp .eq 448, 3) := by decide +kernel
theorem dL_law_1061 : decode cL_law 1061 = .ok (.aload_n 1, 1) := by decide +kernel
theorem dL_law_1062 : decode cL_law 1062 = .ok (.invokevirtual 130, 3) := by decide +kernel
theorem dL_law_1065 : decode cL_law 1065 = .ok (.aload_n 2, 1) := by decide +kernel
theorem dL_law_1066 : decode cL_law 1066 = .ok (.invokevirtual 133, 3) := by decide +kernel
theorem dL_law_1069 : decode cL_law 1069 = .ok (.if_icmp .eq 435, 3) := by decide +kernel
theorem dL_law_1074 : decode cL_law 1074 = .ok (.aload_n 1, 1) := by decide +kernel
theorem dL_law_1075 : decode cL_law 1075 = .ok (.invokevirtual 134, 3) := by decide +kernel
theorem dL_law_1078 : decode cL_law 1078 = .ok (.aload_n 2, 1) := by decide +kernel
theorem dL_law_1079 : decode cL_law 1079 = .ok (.invokevirtual 137, 3) := by decide +kernel
theorem dL_law_1082 : decode cL_law 1082 = .ok (.if_icmp .eq 422, 3) := by decide +kernel
theorem dL_law_1087 : decode cL_law 1087 = .ok (.aload_n 1, 1) := by decide +kernel
theorem dL_law_1088 : decode cL_law 1088 = .ok (.invokevirtual 138, 3) := by decide +kernel
theorem dL_law_1091 : decode cL_law 1091 = .ok (.aload_n 2, 1) := by decide +kernel
theorem dL_law_1092 : decode cL_law 1092 = .ok (.invokevirtual 141, 3) := by decide +kernel
theorem dL_law_1095 : decode cL_law 1095 = .ok (.if_icmp .eq 409, 3) := by decide +kernel
theorem dL_law_1100 : decode cL_law 1100 = .ok (.aload_n 1, 1) := by decide +kernel
theorem dL_law_1101 : decode cL_law 1101 = .ok (.invokevirtual 142, 3) := by decide +kernel
theorem dL_law_1104 : decode cL_law 1104 = .ok (.aload_n 2, 1) := by decide +kernel
theorem dL_law_1105 : decode cL_law 1105 = .ok (.invokevirtual 145, 3) := by decide +kernel
theorem dL_law_1108 : decode cL_law 1108 = .ok (.if_icmp .eq 396, 3) := by decide +kernel
theorem dL_law_1113 : decode cL_law 1113 = .ok (.aload_n 1, 1) := by decide +kernel
theorem dL_law_1114 : decode cL_law 1114 = .ok (.aload_n 0, 1) := by decide +kernel
theorem dL_law_1115 : decode cL_law 1115 = .ok (.iload_n 3, 1) := by decide +kernel
theorem dL_law_1116 : decode cL_law 1116 = .ok (.iconst 1, 1) := by decide +kernel
theorem dL_law_1117 : decode cL_law 1117 = .ok (.iadd, 1) := by decide +kernel
theorem dL_law_1118 : decode cL_law 1118 = .ok (.iaload, 1) := by decide +kernel
theorem dL_law_1119 : decode cL_law 1119 = .ok (.invokevirtual 146, 3) := by decide +kernel
theorem dL_law_1122 : decode cL_law 1122 = .ok (.aload_n 2, 1) := by decide +kernel
theorem dL_law_1123 : decode cL_law 1123 = .ok (.aload_n 0, 1) := by decide +kernel
theorem dL_law_1124 : decode cL_law 1124 = .ok (.iload_n 3, 1) := by decide +kernel
theorem dL_law_1125 : decode cL_law 1125 = .ok (.iconst 1, 1) := by decide +kernel
theorem dL_law_1126 : decode cL_law 1126 = .ok (.iadd, 1) := by decide +kernel
theorem dL_law_1127 : decode cL_law 1127 = .ok (.iaload, 1) := by decide +kernel
theorem dL_law_1128 : decode cL_law 1128 = .ok (.invokevirtual 149, 3) := by decide +kernel
theorem dL_law_1131 : decode cL_law 1131 = .ok (.if_icmp .eq 373, 3) := by decide +kernel
theorem dL_law_1136 : decode cL_law 1136 = .ok (.aload_n 1, 1) := by decide +kernel
theorem dL_law_1137 : decode cL_law 1137 = .ok (.aload_n 0, 1) := by decide +kernel
theorem dL_law_1138 : decode cL_law 1138 = .ok (.iload_n 3, 1) := by decide +kernel
theorem dL_law_1139 : decode cL_law 1139 = .ok (.iconst 1, 1) := by decide +kernel
theorem dL_law_1140 : decode cL_law 1140 = .ok (.iadd, 1) := by decide +kernel
theorem dL_law_1141 : decode cL_law 1141 = .ok (.iaload, 1) := by decide +kernel
theorem dL_law_1142 : decode cL_law 1142 = .ok (.aload_n 0, 1) := by decide +kernel
theorem dL_law_1143 : decode cL_law 1143 = .ok (.iload_n 3, 1) := by decide +kernel
theorem dL_law_1144 : decode cL_law 1144 = .ok (.iconst 2, 1) := by decide +kernel
theorem dL_law_1145 : decode cL_law 1145 = .ok (.iadd, 1) := by decide +kernel
theorem dL_law_1146 : decode cL_law 1146 = .ok (.iaload, 1) := by decide +kernel
theorem dL_law_1147 : decode cL_law 1147 = .ok (.aload_n 0, 1) := by decide +kernel
theorem dL_law_1148 : decode cL_law 1148 = .ok (.iload_n 3, 1) := by decide +kernel
theorem dL_law_1149 : decode cL_law 1149 = .ok (.iconst 3, 1) := by decide +kernel
theorem dL_law_1150 : decode cL_law 1150 = .ok (.iadd, 1) := by decide +kernel
theorem dL_law_1151 : decode cL_law 1151 = .ok (.iaload, 1) := by decide +kernel
theorem dL_law_1152 : decode cL_law 1152 = .ok (.invokevirtual 150, 3) := by decide +kernel
theorem dL_law_1155 : decode cL_law 1155 = .ok (.aload_n 2, 1) := by decide +kernel
theorem dL_law_1156 : decode cL_law 1156 = .ok (.aload_n 0, 1) := by decide +kernel
theorem dL_law_1157 : decode cL_law 1157 = .ok (.iload_n 3, 1) := by decide +kernel
theorem dL_law_1158 : decode cL_law 1158 = .ok (.iconst 1, 1) := by decide +kernel
theorem dL_law_1159 : decode cL_law 1159 = .ok (.iadd, 1) := by decide +kernel
theorem dL_law_1160 : decode cL_law 1160 = .ok (.iaload, 1) := by decide +kernel
theorem dL_law_1161 : decode cL_law 1161 = .ok (.aload_n 0, 1) := by decide +kernel
theorem dL_law_1162 : decode cL_law 1162 = .ok (.iload_n 3, 1) := by decide +kernel
theorem dL_law_1163 : decode cL_law 1163 = .ok (.iconst 2, 1) := by decide +kernel
theorem dL_law_1164 : decode cL_law 1164 = .ok (.iadd, 1) := by decide +kernel
theorem dL_law_1165 : decode cL_law 1165 = .ok (.iaload, 1) := by decide +kernel
theorem dL_law_1166 : decode cL_law 1166 = .ok (.aload_n 0, 1) := by decide +kernel
theorem dL_law_1167 : decode cL_law 1167 = .ok (.iload_n 3, 1) := by decide +kernel
theorem dL_law_1168 : decode cL_law 1168 = .ok (.iconst 3, 1) := by decide +kernel
theorem dL_law_1169 : decode cL_law 1169 = .ok (.iadd, 1) := by decide +kernel
theorem dL_law_1170 : decode cL_law 1170 = .ok (.iaload, 1) := by decide +kernel
theorem dL_law_1171 : decode cL_law 1171 = .ok (.invokevirtual 153, 3) := by decide +kernel
theorem dL_law_1174 : decode cL_law 1174 = .ok (.if_icmp .eq 330, 3) := by decide +kernel
theorem dL_law_1179 : decode cL_law 1179 = .ok (.aload_n 1, 1) := by decide +kernel
theorem dL_law_1180 : decode cL_law 1180 = .ok (.aload_n 0, 1) := by decide +kernel
theorem dL_law_1181 : decode cL_law 1181 = .ok (.iload_n 3, 1) := by decide +kernel
theorem dL_law_1182 : decode cL_law 1182 = .ok (.iconst 1, 1) := by decide +kernel
theorem dL_law_1183 : decode cL_law 1183 = .ok (.iadd, 1) := by decide +kernel
theorem dL_law_1184 : decode cL_law 1184 = .ok (.iaload, 1) := by decide +kernel
theorem dL_law_1185 : decode cL_law 1185 = .ok (.invokevirtual 154, 3) := by decide +kernel
theorem dL_law_1188 : decode cL_law 1188 = .ok (.aload_n 2, 1) := by decide +kernel
theorem dL_law_1189 : decode cL_law 1189 = .ok (.aload_n 0, 1) := by decide +kernel
theorem dL_law_1190 : decode cL_law 1190 = .ok (.iload_n 3, 1) := by decide +kernel
theorem dL_law_1191 : decode cL_law 1191 = .ok (.iconst 1, 1) := by decide +kernel
theorem dL_law_1192 : decode cL_law 1192 = .ok (.iadd, 1) := by decide +kernel
theorem dL_law_1193 : decode cL_law 1193 = .ok (.iaload, 1) := by decide +kernel
theorem dL_law_1194 : decode cL_law 1194 = .ok (.invokevirtual 157, 3) := by decide +kernel
theorem dL_law_1197 : decode cL_law 1197 = .ok (.if_icmp .eq 307, 3) := by decide +kernel
theorem dL_law_1202 : decode cL_law 1202 = .ok (.aload_n 1, 1) := by decide +kernel
theorem dL_law_1203 : decode cL_law 1203 = .ok (.aload_n 0, 1) := by decide +kernel
theorem dL_law_1204 : decode cL_law 1204 = .ok (.iload_n 3, 1) := by decide +kernel
theorem dL_law_1205 : decode cL_law 1205 = .ok (.iconst 1, 1) := by decide +kernel
theorem dL_law_1206 : decode cL_law 1206 = .ok (.iadd, 1) := by decide +kernel
theorem dL_law_1207 : decode cL_law 1207 = .ok (.iaload, 1) := by decide +kernel
theorem dL_law_1208 : decode cL_law 1208 = .ok (.aload_n 0, 1) := by decide +kernel
theorem dL_law_1209 : decode cL_law 1209 = .ok (.iload_n 3, 1) := by decide +kernel
theorem dL_law_1210 : decode cL_law 1210 = .ok (.iconst 2, 1) := by decide +kernel
theorem dL_law_1211 : decode cL_law 1211 = .ok (.iadd, 1) := by decide +kernel
theorem dL_law_1212 : decode cL_law 1212 = .ok (.iaload, 1) := by decide +kernel
theorem dL_law_1213 : decode cL_law 1213 = .ok (.invokevirtual 158, 3) := by decide +kernel
theorem dL_law_1216 : decode cL_law 1216 = .ok (.aload_n 2, 1) := by decide +kernel
theorem dL_law_1217 : decode cL_law 1217 = .ok (.aload_n 0, 1) := by decide +kernel
theorem dL_law_1218 : decode cL_law 1218 = .ok (.iload_n 3, 1) := by decide +kernel
theorem dL_law_1219 : decode cL_law 1219 = .ok (.iconst 1, 1) := by decide +kernel
theorem dL_law_1220 : decode cL_law 1220 = .ok (.iadd, 1) := by decide +kernel
theorem dL_law_1221 : decode cL_law 1221 = .ok (.iaload, 1) := by decide +kernel
theorem dL_law_1222 : decode cL_law 1222 = .ok (.aload_n 0, 1) := by decide +kernel
theorem dL_law_1223 : decode cL_law 1223 = .ok (.iload_n 3, 1) := by decide +kernel
theorem dL_law_1224 : decode cL_law 1224 = .ok (.iconst 2, 1) := by decide +kernel
theorem dL_law_1225 : decode cL_law 1225 = .ok (.iadd, 1) := by decide +kernel
theorem dL_law_1226 : decode cL_law 1226 = .ok (.iaload, 1) := by decide +kernel
theorem dL_law_1227 : decode cL_law 1227 = .ok (.invokevirtual 161, 3) := by decide +kernel
theorem dL_law_1230 : decode cL_law 1230 = .ok (.if_icmp .eq 274, 3) := by decide +kernel
theorem dL_law_1235 : decode cL_law 1235 = .ok (.aload_n 1, 1) := by decide +kernel
theorem dL_law_1236 : decode cL_law 1236 = .ok (.aload_n 0, 1) := by decide +kernel
theorem dL_law_1237 : decode cL_law 1237 = .ok (.iload_n 3, 1) := by decide +kernel
theorem dL_law_1238 : decode cL_law 1238 = .ok (.iconst 1, 1) := by decide +kernel
theorem dL_law_1239 : decode cL_law 1239 = .ok (.iadd, 1) := by decide +kernel
theorem dL_law_1240 : decode cL_law 1240 = .ok (.iaload, 1) := by decide +kernel
theorem dL_law_1241 : decode cL_law 1241 = .ok (.aload_n 0, 1) := by decide +kernel
theorem dL_law_1242 : decode cL_law 1242 = .ok (.iload_n 3, 1) := by decide +kernel
theorem dL_law_1243 : decode cL_law 1243 = .ok (.iconst 2, 1) := by decide +kernel
theorem dL_law_1244 : decode cL_law 1244 = .ok (.iadd, 1) := by decide +kernel
theorem dL_law_1245 : decode cL_law 1245 = .ok (.iaload, 1) := by decide +kernel
theorem dL_law_1246 : decode cL_law 1246 = .ok (.aload_n 0, 1) := by decide +kernel
theorem dL_law_1247 : decode cL_law 1247 = .ok (.iload_n 3, 1) := by decide +kernel
theorem dL_law_1248 : decode cL_law 1248 = .ok (.iconst 3, 1) := by decide +kernel
theorem dL_law_1249 : decode cL_law 1249 = .ok (.iadd, 1) := by decide +kernel
theorem dL_law_1250 : decode cL_law 1250 = .ok (.iaload, 1) := by decide +kernel
theorem dL_law_1251 : decode cL_law 1251 = .ok (.invokevirtual 162, 3) := by decide +kernel
theorem dL_law_1254 : decode cL_law 1254 = .ok (.aload_n 2, 1) := by decide +kernel
theorem dL_law_1255 : decode cL_law 1255 = .ok (.aload_n 0, 1) := by decide +kernel
theorem dL_law_1256 : decode cL_law 1256 = .ok (.iload_n 3, 1) := by decide +kernel
theorem dL_law_1257 : decode cL_law 1257 = .ok (.iconst 1, 1) := by decide +kernel
theorem dL_law_1258 : decode cL_law 1258 = .ok (.iadd, 1) := by decide +kernel
theorem dL_law_1259 : decode cL_law 1259 = .ok (.iaload, 1) := by decide +kernel
theorem dL_law_1260 : decode cL_law 1260 = .ok (.aload_n 0, 1) := by decide +kernel
theorem dL_law_1261 : decode cL_law 1261 = .ok (.iload_n 3, 1) := by decide +kernel
theorem dL_law_1262 : decode cL_law 1262 = .ok (.iconst 2, 1) := by decide +kernel
theorem dL_law_1263 : decode cL_law 1263 = .ok (.iadd, 1) := by decide +kernel
theorem dL_law_1264 : decode cL_law 1264 = .ok (.iaload, 1) := by decide +kernel
theorem dL_law_1265 : decode cL_law 1265 = .ok (.aload_n 0, 1) := by decide +kernel
theorem dL_law_1266 : decode cL_law 1266 = .ok (.iload_n 3, 1) := by decide +kernel
theorem dL_law_1267 : decode cL_law 1267 = .ok (.iconst 3, 1) := by decide +kernel
theorem dL_law_1268 : decode cL_law 1268 = .ok (.iadd, 1) := by decide +kernel
theorem dL_law_1269 : decode cL_law 1269 = .ok (.iaload, 1) := by decide +kernel
theorem dL_law_1270 : decode cL_law 1270 = .ok (.invokevirtual 165, 3) := by decide +kernel
theorem dL_law_1273 : decode cL_law 1273 = .ok (.if_icmp .eq 231, 3) := by decide +kernel
theorem dL_law_1278 : decode cL_law 1278 = .ok (.aload_n 1, 1) := by decide +kernel
theorem dL_law_1279 : decode cL_law 1279 = .ok (.aload_n 0, 1) := by decide +kernel
theorem dL_law_1280 : decode cL_law 1280 = .ok (.iload_n 3, 1) := by decide +kernel
theorem dL_law_1281 : decode cL_law 1281 = .ok (.iconst 1, 1) := by decide +kernel
theorem dL_law_1282 : decode cL_law 1282 = .ok (.iadd, 1) := by decide +kernel
theorem dL_law_1283 : decode cL_law 1283 = .ok (.iaload, 1) := by decide +kernel
theorem dL_law_1284 : decode cL_law 1284 = .ok (.aload_n 0, 1) := by decide +kernel
theorem dL_law_1285 : decode cL_law 1285 = .ok (.iload_n 3, 1) := by decide +kernel
theorem dL_law_1286 : decode cL_law 1286 = .ok (.iconst 2, 1) := by decide +kernel
theorem dL_law_1287 : decode cL_law 1287 = .ok (.iadd, 1) := by decide +kernel
theorem dL_law_1288 : decode cL_law 1288 = .ok (.iaload, 1) := by decide +kernel
theorem dL_law_1289 : decode cL_law 1289 = .ok (.aload_n 0, 1) := by decide +kernel
theorem dL_law_1290 : decode cL_law 1290 = .ok (.iload_n 3, 1) := by decide +kernel
theorem dL_law_1291 : decode cL_law 1291 = .ok (.iconst 3, 1) := by decide +kernel
theorem dL_law_1292 : decode cL_law 1292 = .ok (.iadd, 1) := by decide +kernel
theorem dL_law_1293 : decode cL_law 1293 = .ok (.iaload, 1) := by decide +kernel
theorem dL_law_1294 : decode cL_law 1294 = .ok (.i2l, 1) := by decide +kernel
theorem dL_law_1295 : decode cL_law 1295 = .ok (.bipush 32, 2) := by decide +kernel
theorem dL_law_1297 : decode cL_law 1297 = .ok (.lshl, 1) := by decide +kernel
theorem dL_law_1298 : decode cL_law 1298 = .ok (.aload_n 0, 1) := by decide +kernel
theorem dL_law_1299 : decode cL_law 1299 = .ok (.iload_n 3, 1) := by decide +kernel
theorem dL_law_1300 : decode cL_law 1300 = .ok (.iconst 4, 1) := by decide +kernel
theorem dL_law_1301 : decode cL_law 1301 = .ok (.iadd, 1) := by decide +kernel
theorem dL_law_1302 : decode cL_law 1302 = .ok (.iaload, 1) := by decide +kernel
theorem dL_law_1303 : decode cL_law 1303 = .ok (.i2l, 1) := by decide +kernel
theorem dL_law_1304 : decode cL_law 1304 = .ok (.ldc2_w 166, 3) := by decide +kernel
theorem dL_law_1307 : decode cL_law 1307 = .ok (.land, 1) := by decide +kernel
theorem dL_law_1308 : decode cL_law 1308 = .ok (.lor, 1) := by decide +kernel
theorem dL_law_1309 : decode cL_law 1309 = .ok (.invokevirtual 168, 3) := by decide +kernel
theorem dL_law_1312 : decode cL_law 1312 = .ok (.aload_n 2, 1) := by decide +kernel
theorem dL_law_1313 : decode cL_law 1313 = .ok (.aload_n 0, 1) := by decide +kernel
theorem dL_law_1314 : decode cL_law 1314 = .ok (.iload_n 3, 1) := by decide +kernel
theorem dL_law_1315 : decode cL_law 1315 = .ok (.iconst 1, 1) := by decide +kernel
theorem dL_law_1316 : decode cL_law 1316 = .ok (.iadd, 1) := by decide +kernel
theorem dL_law_1317 : decode cL_law 1317 = .ok (.iaload, 1) := by decide +kernel
theorem dL_law_1318 : decode cL_law 1318 = .ok (.aload_n 0, 1) := by decide +kernel
theorem dL_law_1319 : decode cL_law 1319 = .ok (.iload_n 3, 1) := by decide +kernel
theorem dL_law_1320 : decode cL_law 1320 = .ok (.iconst 2, 1) := by decide +kernel
theorem dL_law_1321 : decode cL_law 1321 = .ok (.iadd, 1) := by decide +kernel
theorem dL_law_1322 : decode cL_law 1322 = .ok (.iaload, 1) := by decide +kernel
theorem dL_law_1323 : decode cL_law 1323 = .ok (.aload_n 0, 1) := by decide +kernel
theorem dL_law_1324 : decode cL_law 1324 = .ok (.iload_n 3, 1) := by decide +kernel
theorem dL_law_1325 : decode cL_law 1325 = .ok (.iconst 3, 1) := by decide +kernel
theorem dL_law_1326 : decode cL_law 1326 = .ok (.iadd, 1) := by decide +kernel
theorem dL_law_1327 : decode cL_law 1327 = .ok (.iaload, 1) := by decide +kernel
theorem dL_law_1328 : decode cL_law 1328 = .ok (.i2l, 1) := by decide +kernel
theorem dL_law_1329 : decode cL_law 1329 = .ok (.bipush 32, 2) := by decide +kernel
theorem dL_law_1331 : decode cL_law 1331 = .ok (.lshl, 1) := by decide +kernel
theorem dL_law_1332 : decode cL_law 1332 = .ok (.aload_n 0, 1) := by decide +kernel
theorem dL_law_1333 : decode cL_law 1333 = .ok (.iload_n 3, 1) := by decide +kernel
theorem dL_law_1334 : decode cL_law 1334 = .ok (.iconst 4, 1) := by decide +kernel
theorem dL_law_1335 : decode cL_law 1335 = .ok (.iadd, 1) := by decide +kernel
theorem dL_law_1336 : decode cL_law 1336 = .ok (.iaload, 1) := by decide +kernel
theorem dL_law_1337 : decode cL_law 1337 = .ok (.i2l, 1) := by decide +kernel
theorem dL_law_1338 : decode cL_law 1338 = .ok (.ldc2_w 166, 3) := by decide +kernel
theorem dL_law_1341 : decode cL_law 1341 = .ok (.land, 1) := by decide +kernel
theorem dL_law_1342 : decode cL_law 1342 = .ok (.lor, 1) := by decide +kernel
theorem dL_law_1343 : decode cL_law 1343 = .ok (.invokevirtual 172, 3) := by decide +kernel
theorem dL_law_1346 : decode cL_law 1346 = .ok (.if_icmp .eq 158, 3) := by decide +kernel
theorem dL_law_1351 : decode cL_law 1351 = .ok (.aload_n 1, 1) := by decide +kernel
theorem dL_law_1352 : decode cL_law 1352 = .ok (.aload_n 0, 1) := by decide +kernel
theorem dL_law_1353 : decode cL_law 1353 = .ok (.iload_n 3, 1) := by decide +kernel
theorem dL_law_1354 : decode cL_law 1354 = .ok (.iconst 1, 1) := by decide +kernel
theorem dL_law_1355 : decode cL_law 1355 = .ok (.iadd, 1) := by decide +kernel
theorem dL_law_1356 : decode cL_law 1356 = .ok (.iaload, 1) := by decide +kernel
theorem dL_law_1357 : decode cL_law 1357 = .ok (.aload_n 0, 1) := by decide +kernel
theorem dL_law_1358 : decode cL_law 1358 = .ok (.iload_n 3, 1) := by decide +kernel
theorem dL_law_1359 : decode cL_law 1359 = .ok (.iconst 2, 1) := by decide +kernel
theorem dL_law_1360 : decode cL_law 1360 = .ok (.iadd, 1) := by decide +kernel
theorem dL_law_1361 : decode cL_law 1361 = .ok (.iaload, 1) := by decide +kernel
theorem dL_law_1362 : decode cL_law 1362 = .ok (.invokevirtual 173, 3) := by decide +kernel
theorem dL_law_1365 : decode cL_law 1365 = .ok (.aload_n 2, 1) := by decide +kernel
theorem dL_law_1366 : decode cL_law 1366 = .ok (.aload_n 0, 1) := by decide +kernel
theorem dL_law_1367 : decode cL_law 1367 = .ok (.iload_n 3, 1) := by decide +kernel
theorem dL_law_1368 : decode cL_law 1368 = .ok (.iconst 1, 1) := by decide +kernel
theorem dL_law_1369 : decode cL_law 1369 = .ok (.iadd, 1) := by decide +kernel
theorem dL_law_1370 : decode cL_law 1370 = .ok (.iaload, 1) := by decide +kernel
theorem dL_law_1371 : decode cL_law 1371 = .ok (.aload_n 0, 1) := by decide +kernel
theorem dL_law_1372 : decode cL_law 1372 = .ok (.iload_n 3, 1) := by decide +kernel
theorem dL_law_1373 : decode cL_law 1373 = .ok (.iconst 2, 1) := by decide +kernel
theorem dL_law_1374 : decode cL_law 1374 = .ok (.iadd, 1) := by decide +kernel
theorem dL_law_1375 : decode cL_law 1375 = .ok (.iaload, 1) := by decide +kernel
theorem dL_law_1376 : decode cL_law 1376 = .ok (.invokevirtual 177, 3) := by decide +kernel
theorem dL_law_1379 : decode cL_law 1379 = .ok (.lcmp, 1) := by decide +kernel
theorem dL_law_1380 : decode cL_law 1380 = .ok (.ifCond .eq 124, 3) := by decide +kernel
theorem dL_law_1385 : decode cL_law 1385 = .ok (.aload_n 1, 1) := by decide +kernel
theorem dL_law_1386 : decode cL_law 1386 = .ok (.aload_n 0, 1) := by decide +kernel
theorem dL_law_1387 : decode cL_law 1387 = .ok (.iload_n 3, 1) := by decide +kernel
theorem dL_law_1388 : decode cL_law 1388 = .ok (.iconst 1, 1) := by decide +kernel
theorem dL_law_1389 : decode cL_law 1389 = .ok (.iadd, 1) := by decide +kernel
theorem dL_law_1390 : decode cL_law 1390 = .ok (.iaload, 1) := by decide +kernel
theorem dL_law_1391 : decode cL_law 1391 = .ok (.aload_n 0, 1) := by decide +kernel
theorem dL_law_1392 : decode cL_law 1392 = .ok (.iload_n 3, 1) := by decide +kernel
theorem dL_law_1393 : decode cL_law 1393 = .ok (.iconst 2, 1) := by decide +kernel
theorem dL_law_1394 : decode cL_law 1394 = .ok (.iadd, 1) := by decide +kernel
theorem dL_law_1395 : decode cL_law 1395 = .ok (.iaload, 1) := by decide +kernel
theorem dL_law_1396 : decode cL_law 1396 = .ok (.aload_n 0, 1) := by decide +kernel
theorem dL_law_1397 : decode cL_law 1397 = .ok (.iload_n 3, 1) := by decide +kernel
theorem dL_law_1398 : decode cL_law 1398 = .ok (.iconst 3, 1) := by decide +kernel
theorem dL_law_1399 : decode cL_law 1399 = .ok (.iadd, 1) := by decide +kernel
theorem dL_law_1400 : decode cL_law 1400 = .ok (.iaload, 1) := by decide +kernel
theorem dL_law_1401 : decode cL_law 1401 = .ok (.aload_n 0, 1) := by decide +kernel
theorem dL_law_1402 : decode cL_law 1402 = .ok (.iload_n 3, 1) := by decide +kernel
theorem dL_law_1403 : decode cL_law 1403 = .ok (.iconst 4, 1) := by decide +kernel
theorem dL_law_1404 : decode cL_law 1404 = .ok (.iadd, 1) := by decide +kernel
theorem dL_law_1405 : decode cL_law 1405 = .ok (.iaload, 1) := by decide +kernel
theorem dL_law_1406 : decode cL_law 1406 = .ok (.aload_n 0, 1) := by decide +kernel
theorem dL_law_1407 : decode cL_law 1407 = .ok (.iload_n 3, 1) := by decide +kernel
theorem dL_law_1408 : decode cL_law 1408 = .ok (.iconst 5, 1) := by decide +kernel
theorem dL_law_1409 : decode cL_law 1409 = .ok (.iadd, 1) := by decide +kernel
theorem dL_law_1410 : decode cL_law 1410 = .ok (.iaload, 1) := by decide +kernel
theorem dL_law_1411 : decode cL_law 1411 = .ok (.invokevirtual 178, 3) := by decide +kernel
theorem dL_law_1414 : decode cL_law 1414 = .ok (.aload_n 2, 1) := by decide +kernel
theorem dL_law_1415 : decode cL_law 1415 = .ok (.aload_n 0, 1) := by decide +kernel
theorem dL_law_1416 : decode cL_law 1416 = .ok (.iload_n 3, 1) := by decide +kernel
theorem dL_law_1417 : decode cL_law 1417 = .ok (.iconst 1, 1) := by decide +kernel
theorem dL_law_1418 : decode cL_law 1418 = .ok (.iadd, 1) := by decide +kernel
theorem dL_law_1419 : decode cL_law 1419 = .ok (.iaload, 1) := by decide +kernel
theorem dL_law_1420 : decode cL_law 1420 = .ok (.aload_n 0, 1) := by decide +kernel
theorem dL_law_1421 : decode cL_law 1421 = .ok (.iload_n 3, 1) := by decide +kernel
theorem dL_law_1422 : decode cL_law 1422 = .ok (.iconst 2, 1) := by decide +kernel
theorem dL_law_1423 : decode cL_law 1423 = .ok (.iadd, 1) := by decide +kernel
theorem dL_law_1424 : decode cL_law 1424 = .ok (.iaload, 1) := by decide +kernel
theorem dL_law_1425 : decode cL_law 1425 = .ok (.aload_n 0, 1) := by decide +kernel
theorem dL_law_1426 : decode cL_law 1426 = .ok (.iload_n 3, 1) := by decide +kernel
theorem dL_law_1427 : decode cL_law 1427 = .ok (.iconst 3, 1) := by decide +kernel
theorem dL_law_1428 : decode cL_law 1428 = .ok (.iadd, 1) := by decide +kernel
theorem dL_law_1429 : decode cL_law 1429 = .ok (.iaload, 1) := by decide +kernel
theorem dL_law_1430 : decode cL_law 1430 = .ok (.aload_n 0, 1) := by decide +kernel
theorem dL_law_1431 : decode cL_law 1431 = .ok (.iload_n 3, 1) := by decide +kernel
theorem dL_law_1432 : decode cL_law 1432 = .ok (.iconst 4, 1) := by decide +kernel
theorem dL_law_1433 : decode cL_law 1433 = .ok (.iadd, 1) := by decide +kernel
theorem dL_law_1434 : decode cL_law 1434 = .ok (.iaload, 1) := by decide +kernel
theorem dL_law_1435 : decode cL_law 1435 = .ok (.aload_n 0, 1) := by decide +kernel
theorem dL_law_1436 : decode cL_law 1436 = .ok (.iload_n 3, 1) := by decide +kernel
theorem dL_law_1437 : decode cL_law 1437 = .ok (.iconst 5, 1) := by decide +kernel
theorem dL_law_1438 : decode cL_law 1438 = .ok (.iadd, 1) := by decide +kernel
theorem dL_law_1439 : decode cL_law 1439 = .ok (.iaload, 1) := by decide +kernel
theorem dL_law_1440 : decode cL_law 1440 = .ok (.invokevirtual 182, 3) := by decide +kernel
theorem dL_law_1443 : decode cL_law 1443 = .ok (.if_icmp .eq 61, 3) := by decide +kernel
theorem dL_law_1448 : decode cL_law 1448 = .ok (.aload_n 1, 1) := by decide +kernel
theorem dL_law_1449 : decode cL_law 1449 = .ok (.aload_n 0, 1) := by decide +kernel
theorem dL_law_1450 : decode cL_law 1450 = .ok (.iload_n 3, 1) := by decide +kernel
theorem dL_law_1451 : decode cL_law 1451 = .ok (.iconst 1, 1) := by decide +kernel
theorem dL_law_1452 : decode cL_law 1452 = .ok (.iadd, 1) := by decide +kernel
theorem dL_law_1453 : decode cL_law 1453 = .ok (.iaload, 1) := by decide +kernel
theorem dL_law_1454 : decode cL_law 1454 = .ok (.aload_n 0, 1) := by decide +kernel
theorem dL_law_1455 : decode cL_law 1455 = .ok (.iload_n 3, 1) := by decide +kernel
theorem dL_law_1456 : decode cL_law 1456 = .ok (.iconst 2, 1) := by decide +kernel
theorem dL_law_1457 : decode cL_law 1457 = .ok (.iadd, 1) := by decide +kernel
theorem dL_law_1458 : decode cL_law 1458 = .ok (.iaload, 1) := by decide +kernel
theorem dL_law_1459 : decode cL_law 1459 = .ok (.invokevirtual 183, 3) := by decide +kernel
theorem dL_law_1462 : decode cL_law 1462 = .ok (.aload_n 2, 1) := by decide +kernel
theorem dL_law_1463 : decode cL_law 1463 = .ok (.aload_n 0, 1) := by decide +kernel
theorem dL_law_1464 : decode cL_law 1464 = .ok (.iload_n 3, 1) := by decide +kernel
theorem dL_law_1465 : decode cL_law 1465 = .ok (.iconst 1, 1) := by decide +kernel
theorem dL_law_1466 : decode cL_law 1466 = .ok (.iadd, 1) := by decide +kernel
theorem dL_law_1467 : decode cL_law 1467 = .ok (.iaload, 1) := by decide +kernel
theorem dL_law_1468 : decode cL_law 1468 = .ok (.aload_n 0, 1) := by decide +kernel
theorem dL_law_1469 : decode cL_law 1469 = .ok (.iload_n 3, 1) := by decide +kernel
theorem dL_law_1470 : decode cL_law 1470 = .ok (.iconst 2, 1) := by decide +kernel
theorem dL_law_1471 : decode cL_law 1471 = .ok (.iadd, 1) := by decide +kernel
theorem dL_law_1472 : decode cL_law 1472 = .ok (.iaload, 1) := by decide +kernel
theorem dL_law_1473 : decode cL_law 1473 = .ok (.invokevirtual 186, 3) := by decide +kernel
theorem dL_law_1476 : decode cL_law 1476 = .ok (.if_icmp .eq 28, 3) := by decide +kernel
theorem dL_law_1481 : decode cL_law 1481 = .ok (.aload_n 1, 1) := by decide +kernel
theorem dL_law_1482 : decode cL_law 1482 = .ok (.aload_n 0, 1) := by decide +kernel
theorem dL_law_1483 : decode cL_law 1483 = .ok (.iload_n 3, 1) := by decide +kernel
theorem dL_law_1484 : decode cL_law 1484 = .ok (.iconst 1, 1) := by decide +kernel
theorem dL_law_1485 : decode cL_law 1485 = .ok (.iadd, 1) := by decide +kernel
theorem dL_law_1486 : decode cL_law 1486 = .ok (.iaload, 1) := by decide +kernel
theorem dL_law_1487 : decode cL_law 1487 = .ok (.invokevirtual 187, 3) := by decide +kernel
theorem dL_law_1490 : decode cL_law 1490 = .ok (.aload_n 2, 1) := by decide +kernel
theorem dL_law_1491 : decode cL_law 1491 = .ok (.aload_n 0, 1) := by decide +kernel
theorem dL_law_1492 : decode cL_law 1492 = .ok (.iload_n 3, 1) := by decide +kernel
theorem dL_law_1493 : decode cL_law 1493 = .ok (.iconst 1, 1) := by decide +kernel
theorem dL_law_1494 : decode cL_law 1494 = .ok (.iadd, 1) := by decide +kernel
theorem dL_law_1495 : decode cL_law 1495 = .ok (.iaload, 1) := by decide +kernel
theorem dL_law_1496 : decode cL_law 1496 = .ok (.invokevirtual 190, 3) := by decide +kernel
theorem dL_law_1499 : decode cL_law 1499 = .ok (.if_icmp .eq 5, 3) := by decide +kernel
theorem sx_in {n : Nat} (hn : n = 6) (i : Int32) (h : ¬ (i < 0 ∨ 6 ≤ i.toNatClampNeg)) : vp_in i n := by
  subst hn; exact h
set_option maxRecDepth 100000 in
set_option maxHeartbeats 4000000 in
theorem lwx_end {l : Launch} {G : xG} {sh : List xS} {M : xM} {J : xJ} {kc ks : Nat} (hn : G.2.2.2.2.1 = 6) : x_X l G fL_law 20 600000 7302250 (qR (some (.int 1))) 1504 [(3, .int (0)), (2, .ref (62)), (1, .ref (0)), (0, .ref (1002))] [] sh M J kc ks := by
  refine xr_iinc (v := 6) (ls2 := [(3, .int (6)), (2, .ref (62)), (1, .ref (0)), (0, .ref (1002))]) dL_law_1504 0 rfl rfl (by decide) rfl ?_
  refine xr_goto (tgt := 18) dL_law_1507 rfl ?_
  refine xr_iload_n dL_law_18 0 rfl ?_
  refine xr_aload_n dL_law_19 3 rfl ?_
  refine xr_slen rfl dL_law_20 ?_
  refine xb_top (y := 6) (by rw [hn]; rfl) ?_
  refine xr_bipush (v := 6) dL_law_21 rfl ?_
  refine xr_isub dL_law_23 ?_
  refine xb_top (y := 0) (by decide) ?_
  refine xr_icmp_gt (tgt := 1510) dL_law_24 rfl (fun _ => ?_) (fun c => absurd (by decide) c)
  refine xr_iconst (v := 1) dL_law_1510 rfl ?_
  exact xr_iret dL_law_1511 rfl rfl (rfl)
set_option maxRecDepth 100000 in
set_option maxHeartbeats 4000000 in
theorem lwx_0 {l : Launch} {G : xG} (hn : G.2.2.2.2.1 = 6) : x_X l G fL_law 20 600000 7302250 (qR (some (.int 1))) 216 [(3, .int (0)), (2, .ref (62)), (1, .ref (0)), (0, .ref (1002))] [] x_SH z_M x_J0 87 2934 := by
  refine xr_aload_n dL_law_216 2 rfl ?_
  refine xr_aload_n dL_law_217 3 rfl ?_
  refine xr_iload_n dL_law_218 0 rfl ?_
  refine xr_iconst (v := 1) dL_law_219 rfl ?_
  refine xr_iadd dL_law_220 ?_
  refine xb_top (y := 1) (by decide) ?_
  refine xr_sld rfl (sx_in hn 1 (by decide)) dL_law_221 ?_
  refine xb_top (y := G.2.2.2.2.2 1) rfl ?_
  refine xr_callV (As := [.int ((G.2.2.2.2.2 1))]) (rest := []) mlL_13 (p_X9_hoop (G.2.2.2.2.2 1)) dL_law_222 s_0 rfl rfl (Nat.le_of_ble_eq_true rfl) (by decide) ⟨by decide, by decide⟩ (fun v s2 M2 J2 hq => ?_)
  obtain ⟨rfl, rfl, hF⟩ := hq
  try dsimp only [Option.toList, List.cons_append, List.nil_append]
  refine xr_aload_n dL_law_225 1 rfl ?_
  refine xr_aload_n dL_law_226 3 rfl ?_
  refine xr_iload_n dL_law_227 0 rfl ?_
  refine xr_iconst (v := 1) dL_law_228 rfl ?_
  refine xr_iadd dL_law_229 ?_
  refine xb_top (y := 1) (by decide) ?_
  refine xr_sld rfl (sx_in hn 1 (by decide)) dL_law_230 ?_
  refine xb_top (y := G.2.2.2.2.2 1) rfl ?_
  refine xr_callV (As := [.int ((G.2.2.2.2.2 1))]) (rest := [.int _]) mlL_17 (p_X10_hoop (G.2.2.2.2.2 1) hF) dL_law_231 s_62 rfl rfl (Nat.le_of_ble_eq_true rfl) (by decide) ⟨by decide, by decide⟩ (fun v s3 M3 J3 hq => ?_)
  change v = _ at hq
  subst hq
  try dsimp only [Option.toList, List.cons_append, List.nil_append]
  refine xr_icmp_eq (tgt := 1504) dL_law_234 rfl (fun _ => ?_) (fun c => absurd rfl c)
  exact lwx_end hn
set_option maxRecDepth 100000 in
set_option maxHeartbeats 4000000 in
theorem lwx_1 {l : Launch} {G : xG} (hn : G.2.2.2.2.1 = 6) : x_X l G fL_law 20 600000 7302250 (qR (some (.int 1))) 239 [(3, .int (0)), (2, .ref (62)), (1, .ref (0)), (0, .ref (1002))] [] x_SH z_M x_J0 87 2934 := by
  refine xr_aload_n dL_law_239 2 rfl ?_
  refine xr_aload_n dL_law_240 3 rfl ?_
  refine xr_iload_n dL_law_241 0 rfl ?_
  refine xr_iconst (v := 1) dL_law_242 rfl ?_
  refine xr_iadd dL_law_243 ?_
  refine xb_top (y := 1) (by decide) ?_
  refine xr_sld rfl (sx_in hn 1 (by decide)) dL_law_244 ?_
  refine xb_top (y := G.2.2.2.2.2 1) rfl ?_
  refine xr_aload_n dL_law_245 3 rfl ?_
  refine xr_iload_n dL_law_246 0 rfl ?_
  refine xr_iconst (v := 2) dL_law_247 rfl ?_
  refine xr_iadd dL_law_248 ?_
  refine xb_top (y := 2) (by decide) ?_
  refine xr_sld rfl (sx_in hn 2 (by decide)) dL_law_249 ?_
  refine xb_top (y := G.2.2.2.2.2 2) rfl ?_
  refine xr_aload_n dL_law_250 3 rfl ?_
  refine xr_iload_n dL_law_251 0 rfl ?_
  refine xr_iconst (v := 3) dL_law_252 rfl ?_
  refine xr_iadd dL_law_253 ?_
  refine xb_top (y := 3) (by decide) ?_
  refine xr_sld rfl (sx_in hn 3 (by decide)) dL_law_254 ?_
  refine xb_top (y := G.2.2.2.2.2 3) rfl ?_
  refine xr_callV (As := [.int ((G.2.2.2.2.2 1)), .int ((G.2.2.2.2.2 2)), .int ((G.2.2.2.2.2 3))]) (rest := []) mlL_18 (p_X9_hoops (G.2.2.2.2.2 1) (G.2.2.2.2.2 2) (G.2.2.2.2.2 3)) dL_law_255 s_0 rfl rfl (Nat.le_of_ble_eq_true rfl) (by decide) ⟨by decide, by decide⟩ (fun v s2 M2 J2 hq => ?_)
  obtain ⟨rfl, rfl, hF⟩ := hq
  try dsimp only [Option.toList, List.cons_append, List.nil_append]
  refine xr_aload_n dL_law_258 1 rfl ?_
  refine xr_aload_n dL_law_259 3 rfl ?_
  refine xr_iload_n dL_law_260 0 rfl ?_
  refine xr_iconst (v := 1) dL_law_261 rfl ?_
  refine xr_iadd dL_law_262 ?_
  refine xb_top (y := 1) (by decide) ?_
  refine xr_sld rfl (sx_in hn 1 (by decide)) dL_law_263 ?_
  refine xb_top (y := G.2.2.2.2.2 1) rfl ?_
  refine xr_aload_n dL_law_264 3 rfl ?_
  refine xr_iload_n dL_law_265 0 rfl ?_
  refine xr_iconst (v := 2) dL_law_266 rfl ?_
  refine xr_iadd dL_law_267 ?_
  refine xb_top (y := 2) (by decide) ?_
  refine xr_sld rfl (sx_in hn 2 (by decide)) dL_law_268 ?_
  refine xb_top (y := G.2.2.2.2.2 2) rfl ?_
  refine xr_aload_n dL_law_269 3 rfl ?_
  refine xr_iload_n dL_law_270 0 rfl ?_
  refine xr_iconst (v := 3) dL_law_271 rfl ?_
  refine xr_iadd dL_law_272 ?_
  refine xb_top (y := 3) (by decide) ?_
  refine xr_sld rfl (sx_in hn 3 (by decide)) dL_law_273 ?_
  refine xb_top (y := G.2.2.2.2.2 3) rfl ?_
  refine xr_callV (As := [.int ((G.2.2.2.2.2 1)), .int ((G.2.2.2.2.2 2)), .int ((G.2.2.2.2.2 3))]) (rest := [.int _]) mlL_22 (p_X10_hoops (G.2.2.2.2.2 1) (G.2.2.2.2.2 2) (G.2.2.2.2.2 3) hF) dL_law_274 s_62 rfl rfl (Nat.le_of_ble_eq_true rfl) (by decide) ⟨by decide, by decide⟩ (fun v s3 M3 J3 hq => ?_)
  change v = _ at hq
  subst hq
  try dsimp only [Option.toList, List.cons_append, List.nil_append]
  refine xr_icmp_eq (tgt := 1504) dL_law_277 rfl (fun _ => ?_) (fun c => absurd rfl c)
  exact lwx_end hn
set_option maxRecDepth 100000 in
set_option maxHeartbeats 4000000 in
theorem lwx_2 {l : Launch} {G : xG} (hn : G.2.2.2.2.1 = 6) : x_X l G fL_law 20 600000 7302250 (qR (some (.int 1))) 282 [(3, .int (0)), (2, .ref (62)), (1, .ref (0)), (0, .ref (1002))] [] x_SH z_M x_J0 87 2934 := by
  refine xr_aload_n dL_law_282 2 rfl ?_
  refine xr_aload_n dL_law_283 3 rfl ?_
  refine xr_iload_n dL_law_284 0 rfl ?_
  refine xr_iconst (v := 1) dL_law_285 rfl ?_
  refine xr_iadd dL_law_286 ?_
  refine xb_top (y := 1) (by decide) ?_
  refine xr_sld rfl (sx_in hn 1 (by decide)) dL_law_287 ?_
  refine xb_top (y := G.2.2.2.2.2 1) rfl ?_
  refine xr_aload_n dL_law_288 3 rfl ?_
  refine xr_iload_n dL_law_289 0 rfl ?_
  refine xr_iconst (v := 2) dL_law_290 rfl ?_
  refine xr_iadd dL_law_291 ?_
  refine xb_top (y := 2) (by decide) ?_
  refine xr_sld rfl (sx_in hn 2 (by decide)) dL_law_292 ?_
  refine xb_top (y := G.2.2.2.2.2 2) rfl ?_
  refine xr_aload_n dL_law_293 3 rfl ?_
  refine xr_iload_n dL_law_294 0 rfl ?_
  refine xr_iconst (v := 3) dL_law_295 rfl ?_
  refine xr_iadd dL_law_296 ?_
  refine xb_top (y := 3) (by decide) ?_
  refine xr_sld rfl (sx_in hn 3 (by decide)) dL_law_297 ?_
  refine xb_top (y := G.2.2.2.2.2 3) rfl ?_
  refine xr_callV (As := [.int ((G.2.2.2.2.2 1)), .int ((G.2.2.2.2.2 2)), .int ((G.2.2.2.2.2 3))]) (rest := []) mlL_23 (p_X9_mend (G.2.2.2.2.2 1) (G.2.2.2.2.2 2) (G.2.2.2.2.2 3)) dL_law_298 s_0 rfl rfl (Nat.le_of_ble_eq_true rfl) (by decide) ⟨by decide, by decide⟩ (fun v s2 M2 J2 hq => ?_)
  obtain ⟨rfl, rfl, hF⟩ := hq
  try dsimp only [Option.toList, List.cons_append, List.nil_append]
  refine xr_aload_n dL_law_301 1 rfl ?_
  refine xr_aload_n dL_law_302 3 rfl ?_
  refine xr_iload_n dL_law_303 0 rfl ?_
  refine xr_iconst (v := 1) dL_law_304 rfl ?_
  refine xr_iadd dL_law_305 ?_
  refine xb_top (y := 1) (by decide) ?_
  refine xr_sld rfl (sx_in hn 1 (by decide)) dL_law_306 ?_
  refine xb_top (y := G.2.2.2.2.2 1) rfl ?_
  refine xr_aload_n dL_law_307 3 rfl ?_
  refine xr_iload_n dL_law_308 0 rfl ?_
  refine xr_iconst (v := 2) dL_law_309 rfl ?_
  refine xr_iadd dL_law_310 ?_
  refine xb_top (y := 2) (by decide) ?_
  refine xr_sld rfl (sx_in hn 2 (by decide)) dL_law_311 ?_
  refine xb_top (y := G.2.2.2.2.2 2) rfl ?_
  refine xr_aload_n dL_law_312 3 rfl ?_
  refine xr_iload_n dL_law_313 0 rfl ?_
  refine xr_iconst (v := 3) dL_law_314 rfl ?_
  refine xr_iadd dL_law_315 ?_
  refine xb_top (y := 3) (by decide) ?_
  refine xr_sld rfl (sx_in hn 3 (by decide)) dL_law_316 ?_
  refine xb_top (y := G.2.2.2.2.2 3) rfl ?_
  refine xr_callV (As := [.int ((G.2.2.2.2.2 1)), .int ((G.2.2.2.2.2 2)), .int ((G.2.2.2.2.2 3))]) (rest := [.int _]) mlL_26 (p_X10_mend (G.2.2.2.2.2 1) (G.2.2.2.2.2 2) (G.2.2.2.2.2 3) hF) dL_law_317 s_62 rfl rfl (Nat.le_of_ble_eq_true rfl) (by decide) ⟨by decide, by decide⟩ (fun v s3 M3 J3 hq => ?_)
  change v = _ at hq
  subst hq
  try dsimp only [Option.toList, List.cons_append, List.nil_append]
  refine xr_icmp_eq (tgt := 1504) dL_law_320 rfl (fun _ => ?_) (fun c => absurd rfl c)
  exact lwx_end hn
set_option maxRecDepth 100000 in
set_option maxHeartbeats 4000000 in
theorem lwx_3 {l : Launch} {G : xG} (hn : G.2.2.2.2.1 = 6) : x_X l G fL_law 20 600000 7302250 (qR (some (.int 1))) 325 [(3, .int (0)), (2, .ref (62)), (1, .ref (0)), (0, .ref (1002))] [] x_SH z_M x_J0 87 2934 := by
  refine xr_aload_n dL_law_325 2 rfl ?_
  refine xr_aload_n dL_law_326 3 rfl ?_
  refine xr_iload_n dL_law_327 0 rfl ?_
  refine xr_iconst (v := 1) dL_law_328 rfl ?_
  refine xr_iadd dL_law_329 ?_
  refine xb_top (y := 1) (by decide) ?_
  refine xr_sld rfl (sx_in hn 1 (by decide)) dL_law_330 ?_
  refine xb_top (y := G.2.2.2.2.2 1) rfl ?_
  refine xr_aload_n dL_law_331 3 rfl ?_
  refine xr_iload_n dL_law_332 0 rfl ?_
  refine xr_iconst (v := 2) dL_law_333 rfl ?_
  refine xr_iadd dL_law_334 ?_
  refine xb_top (y := 2) (by decide) ?_
  refine xr_sld rfl (sx_in hn 2 (by decide)) dL_law_335 ?_
  refine xb_top (y := G.2.2.2.2.2 2) rfl ?_
  refine xr_callV (As := [.int ((G.2.2.2.2.2 1)), .int ((G.2.2.2.2.2 2))]) (rest := []) mlL_27 (p_X9_of (G.2.2.2.2.2 1) (G.2.2.2.2.2 2)) dL_law_336 s_0 rfl rfl (Nat.le_of_ble_eq_true rfl) (by decide) ⟨by decide, by decide⟩ (fun v s2 M2 J2 hq => ?_)
  obtain ⟨rfl, rfl, hF⟩ := hq
  try dsimp only [Option.toList, List.cons_append, List.nil_append]
  refine xr_aload_n dL_law_339 1 rfl ?_
  refine xr_aload_n dL_law_340 3 rfl ?_
  refine xr_iload_n dL_law_341 0 rfl ?_
  refine xr_iconst (v := 1) dL_law_342 rfl ?_
  refine xr_iadd dL_law_343 ?_
  refine xb_top (y := 1) (by decide) ?_
  refine xr_sld rfl (sx_in hn 1 (by decide)) dL_law_344 ?_
  refine xb_top (y := G.2.2.2.2.2 1) rfl ?_
  refine xr_aload_n dL_law_345 3 rfl ?_
  refine xr_iload_n dL_law_346 0 rfl ?_
  refine xr_iconst (v := 2) dL_law_347 rfl ?_
  refine xr_iadd dL_law_348 ?_
  refine xb_top (y := 2) (by decide) ?_
  refine xr_sld rfl (sx_in hn 2 (by decide)) dL_law_349 ?_
  refine xb_top (y := G.2.2.2.2.2 2) rfl ?_
  refine xr_callV (As := [.int ((G.2.2.2.2.2 1)), .int ((G.2.2.2.2.2 2))]) (rest := [.int _]) mlL_31 (p_X10_of (G.2.2.2.2.2 1) (G.2.2.2.2.2 2) hF) dL_law_350 s_62 rfl rfl (Nat.le_of_ble_eq_true rfl) (by decide) ⟨by decide, by decide⟩ (fun v s3 M3 J3 hq => ?_)
  change v = _ at hq
  subst hq
  try dsimp only [Option.toList, List.cons_append, List.nil_append]
  refine xr_icmp_eq (tgt := 1504) dL_law_353 rfl (fun _ => ?_) (fun c => absurd rfl c)
  exact lwx_end hn
set_option maxRecDepth 100000 in
set_option maxHeartbeats 4000000 in
theorem lwx_4 {l : Launch} {G : xG} (hn : G.2.2.2.2.1 = 6) : x_X l G fL_law 20 600000 7302250 (qR (some (.int 1))) 358 [(3, .int (0)), (2, .ref (62)), (1, .ref (0)), (0, .ref (1002))] [] x_SH z_M x_J0 87 2934 := by
  refine xr_aload_n dL_law_358 2 rfl ?_
  refine xr_aload_n dL_law_359 3 rfl ?_
  refine xr_iload_n dL_law_360 0 rfl ?_
  refine xr_iconst (v := 1) dL_law_361 rfl ?_
  refine xr_iadd dL_law_362 ?_
  refine xb_top (y := 1) (by decide) ?_
  refine xr_sld rfl (sx_in hn 1 (by decide)) dL_law_363 ?_
  refine xb_top (y := G.2.2.2.2.2 1) rfl ?_
  refine xr_callV (As := [.int ((G.2.2.2.2.2 1))]) (rest := []) mlL_32 (p_X9_feed (G.2.2.2.2.2 1)) dL_law_364 s_0 rfl rfl (Nat.le_of_ble_eq_true rfl) (by decide) ⟨by decide, by decide⟩ (fun v s2 M2 J2 hq => ?_)
  obtain ⟨rfl, rfl, hF⟩ := hq
  try dsimp only [Option.toList, List.cons_append, List.nil_append]
  refine xr_aload_n dL_law_367 1 rfl ?_
  refine xr_aload_n dL_law_368 3 rfl ?_
  refine xr_iload_n dL_law_369 0 rfl ?_
  refine xr_iconst (v := 1) dL_law_370 rfl ?_
  refine xr_iadd dL_law_371 ?_
  refine xb_top (y := 1) (by decide) ?_
  refine xr_sld rfl (sx_in hn 1 (by decide)) dL_law_372 ?_
  refine xb_top (y := G.2.2.2.2.2 1) rfl ?_
  refine xr_callV (As := [.int ((G.2.2.2.2.2 1))]) (rest := [.int _]) mlL_35 (p_X10_feed (G.2.2.2.2.2 1) hF) dL_law_373 s_62 rfl rfl (Nat.le_of_ble_eq_true rfl) (by decide) ⟨by decide, by decide⟩ (fun v s3 M3 J3 hq => ?_)
  change v = _ at hq
  subst hq
  try dsimp only [Option.toList, List.cons_append, List.nil_append]
  refine xr_icmp_eq (tgt := 1504) dL_law_376 rfl (fun _ => ?_) (fun c => absurd rfl c)
  exact lwx_end hn
set_option maxRecDepth 100000 in
set_option maxHeartbeats 4000000 in
theorem lwx_5 {l : Launch} {G : xG} (hn : G.2.2.2.2.1 = 6) : x_X l G fL_law 20 600000 7302250 (qR (some (.int 1))) 381 [(3, .int (0)), (2, .ref (62)), (1, .ref (0)), (0, .ref (1002))] [] x_SH z_M x_J0 87 2934 := by
  refine xr_aload_n dL_law_381 2 rfl ?_
  refine xr_callV (As := []) (rest := []) mlL_36 (p_X9_law) dL_law_382 s_0 rfl rfl (Nat.le_of_ble_eq_true rfl) (by decide) ⟨by decide, by decide⟩ (fun v s2 M2 J2 hq => ?_)
  obtain ⟨rfl, rfl, rfl, rfl⟩ := hq
  have hF := Fr_wl
  try dsimp only [Option.toList, List.cons_append, List.nil_append]
  refine xr_aload_n dL_law_385 1 rfl ?_
  refine xr_callV (As := []) (rest := [.int _]) mlL_40 (p_X10_law  hF) dL_law_386 s_62 rfl rfl (Nat.le_of_ble_eq_true rfl) (by decide) ⟨by decide, by decide⟩ (fun v s3 M3 J3 hq => ?_)
  obtain ⟨rfl, -⟩ := hq
  try dsimp only [Option.toList, List.cons_append, List.nil_append]
  refine xr_icmp_eq (tgt := 1504) dL_law_389 rfl (fun _ => ?_) (fun c => absurd rfl c)
  exact lwx_end hn
set_option maxRecDepth 100000 in
set_option maxHeartbeats 4000000 in
theorem lwx_6 {l : Launch} {G : xG} (hn : G.2.2.2.2.1 = 6) : x_X l G fL_law 20 600000 7302250 (qR (some (.int 1))) 394 [(3, .int (0)), (2, .ref (62)), (1, .ref (0)), (0, .ref (1002))] [] x_SH z_M x_J0 87 2934 := by
  refine xr_aload_n dL_law_394 2 rfl ?_
  refine xr_aload_n dL_law_395 3 rfl ?_
  refine xr_iload_n dL_law_396 0 rfl ?_
  refine xr_iconst (v := 1) dL_law_397 rfl ?_
  refine xr_iadd dL_law_398 ?_
  refine xb_top (y := 1) (by decide) ?_
  refine xr_sld rfl (sx_in hn 1 (by decide)) dL_law_399 ?_
  refine xb_top (y := G.2.2.2.2.2 1) rfl ?_
  refine xr_callV (As := [.int ((G.2.2.2.2.2 1))]) (rest := []) mlL_41 (p_X9_go (G.2.2.2.2.2 1)) dL_law_400 s_0 rfl rfl (Nat.le_of_ble_eq_true rfl) (by decide) ⟨by decide, by decide⟩ (fun v s2 M2 J2 hq => ?_)
  obtain ⟨rfl, rfl, hF⟩ := hq
  try dsimp only [Option.toList, List.cons_append, List.nil_append]
  refine xr_aload_n dL_law_403 1 rfl ?_
  refine xr_aload_n dL_law_404 3 rfl ?_
  refine xr_iload_n dL_law_405 0 rfl ?_
  refine xr_iconst (v := 1) dL_law_406 rfl ?_
  refine xr_iadd dL_law_407 ?_
  refine xb_top (y := 1) (by decide) ?_
  refine xr_sld rfl (sx_in hn 1 (by decide)) dL_law_408 ?_
  refine xb_top (y := G.2.2.2.2.2 1) rfl ?_
  refine xr_callV (As := [.int ((G.2.2.2.2.2 1))]) (rest := [.int _]) mlL_44 (p_X10_go (G.2.2.2.2.2 1) hF) dL_law_409 s_62 rfl rfl (Nat.le_of_ble_eq_true rfl) (by decide) ⟨by decide, by decide⟩ (fun v s3 M3 J3 hq => ?_)
  change v = _ at hq
  subst hq
  try dsimp only [Option.toList, List.cons_append, List.nil_append]
  refine xr_icmp_eq (tgt := 1504) dL_law_412 rfl (fun _ => ?_) (fun c => absurd rfl c)
  exact lwx_end hn
set_option maxRecDepth 100000 in
set_option maxHeartbeats 4000000 in
theorem lwx_7 {l : Launch} {G : xG} (hn : G.2.2.2.2.1 = 6) : x_X l G fL_law 20 600000 7302250 (qR (some (.int 1))) 417 [(3, .int (0)), (2, .ref (62)), (1, .ref (0)), (0, .ref (1002))] [] x_SH z_M x_J0 87 2934 := by
  refine xr_aload_n dL_law_417 2 rfl ?_
  refine xr_aload_n dL_law_418 3 rfl ?_
  refine xr_iload_n dL_law_419 0 rfl ?_
  refine xr_iconst (v := 1) dL_law_420 rfl ?_
  refine xr_iadd dL_law_421 ?_
  refine xb_top (y := 1) (by decide) ?_
  refine xr_sld rfl (sx_in hn 1 (by decide)) dL_law_422 ?_
  refine xb_top (y := G.2.2.2.2.2 1) rfl ?_
  refine xr_callV (As := [.int ((G.2.2.2.2.2 1))]) (rest := []) mlL_45 (p_X9_lift (G.2.2.2.2.2 1)) dL_law_423 s_0 rfl rfl (Nat.le_of_ble_eq_true rfl) (by decide) ⟨by decide, by decide⟩ (fun v s2 M2 J2 hq => ?_)
  obtain ⟨rfl, rfl, hF⟩ := hq
  try dsimp only [Option.toList, List.cons_append, List.nil_append]
  refine xr_aload_n dL_law_426 1 rfl ?_
  refine xr_aload_n dL_law_427 3 rfl ?_
  refine xr_iload_n dL_law_428 0 rfl ?_
  refine xr_iconst (v := 1) dL_law_429 rfl ?_
  refine xr_iadd dL_law_430 ?_
  refine xb_top (y := 1) (by decide) ?_
  refine xr_sld rfl (sx_in hn 1 (by decide)) dL_law_431 ?_
  refine xb_top (y := G.2.2.2.2.2 1) rfl ?_
  refine xr_callV (As := [.int ((G.2.2.2.2.2 1))]) (rest := [.int _]) mlL_48 (p_X10_lift (G.2.2.2.2.2 1) hF) dL_law_432 s_62 rfl rfl (Nat.le_of_ble_eq_true rfl) (by decide) ⟨by decide, by decide⟩ (fun v s3 M3 J3 hq => ?_)
  change v = _ at hq
  subst hq
  try dsimp only [Option.toList, List.cons_append, List.nil_append]
  refine xr_icmp_eq (tgt := 1504) dL_law_435 rfl (fun _ => ?_) (fun c => absurd rfl c)
  exact lwx_end hn
set_option maxRecDepth 100000 in
set_option maxHeartbeats 4000000 in
theorem lwx_8 {l : Launch} {G : xG} (hn : G.2.2.2.2.1 = 6) : x_X l G fL_law 20 600000 7302250 (qR (some (.int 1))) 440 [(3, .int (0)), (2, .ref (62)), (1, .ref (0)), (0, .ref (1002))] [] x_SH z_M x_J0 87 2934 := by
  refine xr_aload_n dL_law_440 2 rfl ?_
  refine xr_aload_n dL_law_441 3 rfl ?_
  refine xr_iload_n dL_law_442 0 rfl ?_
  refine xr_iconst (v := 1) dL_law_443 rfl ?_
  refine xr_iadd dL_law_444 ?_
  refine xb_top (y := 1) (by decide) ?_
  refine xr_sld rfl (sx_in hn 1 (by decide)) dL_law_445 ?_
  refine xb_top (y := G.2.2.2.2.2 1) rfl ?_
  refine xr_callV (As := [.int ((G.2.2.2.2.2 1))]) (rest := []) mlL_49 (p_X9_led (G.2.2.2.2.2 1)) dL_law_446 s_0 rfl rfl (Nat.le_of_ble_eq_true rfl) (by decide) ⟨by decide, by decide⟩ (fun v s2 M2 J2 hq => ?_)
  obtain ⟨rfl, rfl, hF⟩ := hq
  try dsimp only [Option.toList, List.cons_append, List.nil_append]
  refine xr_aload_n dL_law_449 1 rfl ?_
  refine xr_aload_n dL_law_450 3 rfl ?_
  refine xr_iload_n dL_law_451 0 rfl ?_
  refine xr_iconst (v := 1) dL_law_452 rfl ?_
  refine xr_iadd dL_law_453 ?_
  refine xb_top (y := 1) (by decide) ?_
  refine xr_sld rfl (sx_in hn 1 (by decide)) dL_law_454 ?_
  refine xb_top (y := G.2.2.2.2.2 1) rfl ?_
  refine xr_callV (As := [.int ((G.2.2.2.2.2 1))]) (rest := [.int _]) mlL_52 (p_X10_led (G.2.2.2.2.2 1) hF) dL_law_455 s_62 rfl rfl (Nat.le_of_ble_eq_true rfl) (by decide) ⟨by decide, by decide⟩ (fun v s3 M3 J3 hq => ?_)
  change v = _ at hq
  subst hq
  try dsimp only [Option.toList, List.cons_append, List.nil_append]
  refine xr_icmp_eq (tgt := 1504) dL_law_458 rfl (fun _ => ?_) (fun c => absurd rfl c)
  exact lwx_end hn
set_option maxRecDepth 100000 in
set_option maxHeartbeats 4000000 in
theorem lwx_9 {l : Launch} {G : xG} (hn : G.2.2.2.2.1 = 6) : x_X l G fL_law 20 600000 7302250 (qR (some (.int 1))) 463 [(3, .int (0)), (2, .ref (62)), (1, .ref (0)), (0, .ref (1002))] [] x_SH z_M x_J0 87 2934 := by
  refine xr_aload_n dL_law_463 2 rfl ?_
  refine xr_aload_n dL_law_464 3 rfl ?_
  refine xr_iload_n dL_law_465 0 rfl ?_
  refine xr_iconst (v := 1) dL_law_466 rfl ?_
  refine xr_iadd dL_law_467 ?_
  refine xb_top (y := 1) (by decide) ?_
  refine xr_sld rfl (sx_in hn 1 (by decide)) dL_law_468 ?_
  refine xb_top (y := G.2.2.2.2.2 1) rfl ?_
  refine xr_aload_n dL_law_469 3 rfl ?_
  refine xr_iload_n dL_law_470 0 rfl ?_
  refine xr_iconst (v := 2) dL_law_471 rfl ?_
  refine xr_iadd dL_law_472 ?_
  refine xb_top (y := 2) (by decide) ?_
  refine xr_sld rfl (sx_in hn 2 (by decide)) dL_law_473 ?_
  refine xb_top (y := G.2.2.2.2.2 2) rfl ?_
  refine xr_aload_n dL_law_474 3 rfl ?_
  refine xr_iload_n dL_law_475 0 rfl ?_
  refine xr_iconst (v := 3) dL_law_476 rfl ?_
  refine xr_iadd dL_law_477 ?_
  refine xb_top (y := 3) (by decide) ?_
  refine xr_sld rfl (sx_in hn 3 (by decide)) dL_law_478 ?_
  refine xb_top (y := G.2.2.2.2.2 3) rfl ?_
  refine xr_callV (As := [.int ((G.2.2.2.2.2 1)), .int ((G.2.2.2.2.2 2)), .int ((G.2.2.2.2.2 3))]) (rest := []) mlL_53 (p_X9_then (G.2.2.2.2.2 1) (G.2.2.2.2.2 2) (G.2.2.2.2.2 3)) dL_law_479 s_0 rfl rfl (Nat.le_of_ble_eq_true rfl) (by decide) ⟨by decide, by decide⟩ (fun v s2 M2 J2 hq => ?_)
  obtain ⟨rfl, rfl, hF⟩ := hq
  try dsimp only [Option.toList, List.cons_append, List.nil_append]
  refine xr_aload_n dL_law_482 1 rfl ?_
  refine xr_aload_n dL_law_483 3 rfl ?_
  refine xr_iload_n dL_law_484 0 rfl ?_
  refine xr_iconst (v := 1) dL_law_485 rfl ?_
  refine xr_iadd dL_law_486 ?_
  refine xb_top (y := 1) (by decide) ?_
  refine xr_sld rfl (sx_in hn 1 (by decide)) dL_law_487 ?_
  refine xb_top (y := G.2.2.2.2.2 1) rfl ?_
  refine xr_aload_n dL_law_488 3 rfl ?_
  refine xr_iload_n dL_law_489 0 rfl ?_
  refine xr_iconst (v := 2) dL_law_490 rfl ?_
  refine xr_iadd dL_law_491 ?_
  refine xb_top (y := 2) (by decide) ?_
  refine xr_sld rfl (sx_in hn 2 (by decide)) dL_law_492 ?_
  refine xb_top (y := G.2.2.2.2.2 2) rfl ?_
  refine xr_aload_n dL_law_493 3 rfl ?_
  refine xr_iload_n dL_law_494 0 rfl ?_
  refine xr_iconst (v := 3) dL_law_495 rfl ?_
  refine xr_iadd dL_law_496 ?_
  refine xb_top (y := 3) (by decide) ?_
  refine xr_sld rfl (sx_in hn 3 (by decide)) dL_law_497 ?_
  refine xb_top (y := G.2.2.2.2.2 3) rfl ?_
  refine xr_callV (As := [.int ((G.2.2.2.2.2 1)), .int ((G.2.2.2.2.2 2)), .int ((G.2.2.2.2.2 3))]) (rest := [.int _]) mlL_56 (p_X10_then (G.2.2.2.2.2 1) (G.2.2.2.2.2 2) (G.2.2.2.2.2 3) hF) dL_law_498 s_62 rfl rfl (Nat.le_of_ble_eq_true rfl) (by decide) ⟨by decide, by decide⟩ (fun v s3 M3 J3 hq => ?_)
  change v = _ at hq
  subst hq
  try dsimp only [Option.toList, List.cons_append, List.nil_append]
  refine xr_icmp_eq (tgt := 1504) dL_law_501 rfl (fun _ => ?_) (fun c => absurd rfl c)
  exact lwx_end hn
set_option maxRecDepth 100000 in
set_option maxHeartbeats 4000000 in
theorem lwx_10 {l : Launch} {G : xG} (hn : G.2.2.2.2.1 = 6) : x_X l G fL_law 20 600000 7302250 (qR (some (.int 1))) 506 [(3, .int (0)), (2, .ref (62)), (1, .ref (0)), (0, .ref (1002))] [] x_SH z_M x_J0 87 2934 := by
  refine xr_aload_n dL_law_506 2 rfl ?_
  refine xr_aload_n dL_law_507 3 rfl ?_
  refine xr_iload_n dL_law_508 0 rfl ?_
  refine xr_iconst (v := 1) dL_law_509 rfl ?_
  refine xr_iadd dL_law_510 ?_
  refine xb_top (y := 1) (by decide) ?_
  refine xr_sld rfl (sx_in hn 1 (by decide)) dL_law_511 ?_
  refine xb_top (y := G.2.2.2.2.2 1) rfl ?_
  refine xr_callV (As := [.int ((G.2.2.2.2.2 1))]) (rest := []) mlL_57 (p_X9_falls (G.2.2.2.2.2 1)) dL_law_512 s_0 rfl rfl (Nat.le_of_ble_eq_true rfl) (by decide) ⟨by decide, by decide⟩ (fun v s2 M2 J2 hq => ?_)
  obtain ⟨rfl, rfl, hF⟩ := hq
  try dsimp only [Option.toList, List.cons_append, List.nil_append]
  refine xr_aload_n dL_law_515 1 rfl ?_
  refine xr_aload_n dL_law_516 3 rfl ?_
  refine xr_iload_n dL_law_517 0 rfl ?_
  refine xr_iconst (v := 1) dL_law_518 rfl ?_
  refine xr_iadd dL_law_519 ?_
  refine xb_top (y := 1) (by decide) ?_
  refine xr_sld rfl (sx_in hn 1 (by decide)) dL_law_520 ?_
  refine xb_top (y := G.2.2.2.2.2 1) rfl ?_
  refine xr_callV (As := [.int ((G.2.2.2.2.2 1))]) (rest := [.int _]) mlL_60 (p_X10_falls (G.2.2.2.2.2 1) hF) dL_law_521 s_62 rfl rfl (Nat.le_of_ble_eq_true rfl) (by decide) ⟨by decide, by decide⟩ (fun v s3 M3 J3 hq => ?_)
  change v = _ at hq
  subst hq
  try dsimp only [Option.toList, List.cons_append, List.nil_append]
  refine xr_icmp_eq (tgt := 1504) dL_law_524 rfl (fun _ => ?_) (fun c => absurd rfl c)
  exact lwx_end hn
set_option maxRecDepth 100000 in
set_option maxHeartbeats 4000000 in
theorem lwx_11 {l : Launch} {G : xG} (hn : G.2.2.2.2.1 = 6) : x_X l G fL_law 20 600000 7302250 (qR (some (.int 1))) 529 [(3, .int (0)), (2, .ref (62)), (1, .ref (0)), (0, .ref (1002))] [] x_SH z_M x_J0 87 2934 := by
  refine xr_aload_n dL_law_529 2 rfl ?_
  refine xr_callV (As := []) (rest := []) mlL_61 (p_X9_lasts ) dL_law_530 s_0 rfl rfl (Nat.le_of_ble_eq_true rfl) (by decide) ⟨by decide, by decide⟩ (fun v s2 M2 J2 hq => ?_)
  obtain ⟨rfl, rfl, hF⟩ := hq
  try dsimp only [Option.toList, List.cons_append, List.nil_append]
  refine xr_aload_n dL_law_533 1 rfl ?_
  refine xr_callV (As := []) (rest := [.int _]) mlL_64 (p_X10_lasts  hF) dL_law_534 s_62 rfl rfl (Nat.le_of_ble_eq_true rfl) (by decide) ⟨by decide, by decide⟩ (fun v s3 M3 J3 hq => ?_)
  change v = _ at hq
  subst hq
  try dsimp only [Option.toList, List.cons_append, List.nil_append]
  refine xr_icmp_eq (tgt := 1504) dL_law_537 rfl (fun _ => ?_) (fun c => absurd rfl c)
  exact lwx_end hn
set_option maxRecDepth 100000 in
set_option maxHeartbeats 4000000 in
theorem lwx_12 {l : Launch} {G : xG} (hn : G.2.2.2.2.1 = 6) : x_X l G fL_law 20 600000 7302250 (qR (some (.int 1))) 542 [(3, .int (0)), (2, .ref (62)), (1, .ref (0)), (0, .ref (1002))] [] x_SH z_M x_J0 87 2934 := by
  refine xr_aload_n dL_law_542 2 rfl ?_
  refine xr_aload_n dL_law_543 3 rfl ?_
  refine xr_iload_n dL_law_544 0 rfl ?_
  refine xr_iconst (v := 1) dL_law_545 rfl ?_
  refine xr_iadd dL_law_546 ?_
  refine xb_top (y := 1) (by decide) ?_
  refine xr_sld rfl (sx_in hn 1 (by decide)) dL_law_547 ?_
  refine xb_top (y := G.2.2.2.2.2 1) rfl ?_
  refine xr_callV (As := [.int ((G.2.2.2.2.2 1))]) (rest := []) mlL_65 (p_X9_beatFor (G.2.2.2.2.2 1)) dL_law_548 s_0 rfl rfl (Nat.le_of_ble_eq_true rfl) (by decide) ⟨by decide, by decide⟩ (fun v s2 M2 J2 hq => ?_)
  obtain ⟨rfl, rfl, hF⟩ := hq
  try dsimp only [Option.toList, List.cons_append, List.nil_append]
  refine xr_aload_n dL_law_551 1 rfl ?_
  refine xr_aload_n dL_law_552 3 rfl ?_
  refine xr_iload_n dL_law_553 0 rfl ?_
  refine xr_iconst (v := 1) dL_law_554 rfl ?_
  refine xr_iadd dL_law_555 ?_
  refine xb_top (y := 1) (by decide) ?_
  refine xr_sld rfl (sx_in hn 1 (by decide)) dL_law_556 ?_
  refine xb_top (y := G.2.2.2.2.2 1) rfl ?_
  refine xr_callV (As := [.int ((G.2.2.2.2.2 1))]) (rest := [.int _]) mlL_68 (p_X10_beatFor (G.2.2.2.2.2 1) hF) dL_law_557 s_62 rfl rfl (Nat.le_of_ble_eq_true rfl) (by decide) ⟨by decide, by decide⟩ (fun v s3 M3 J3 hq => ?_)
  change v = _ at hq
  subst hq
  try dsimp only [Option.toList, List.cons_append, List.nil_append]
  refine xr_icmp_eq (tgt := 1504) dL_law_560 rfl (fun _ => ?_) (fun c => absurd rfl c)
  exact lwx_end hn
set_option maxRecDepth 100000 in
set_option maxHeartbeats 4000000 in
theorem lwx_13 {l : Launch} {G : xG} (hn : G.2.2.2.2.1 = 6) : x_X l G fL_law 20 600000 7302250 (qR (some (.int 1))) 565 [(3, .int (0)), (2, .ref (62)), (1, .ref (0)), (0, .ref (1002))] [] x_SH z_M x_J0 87 2934 := by
  refine xr_aload_n dL_law_565 2 rfl ?_
  refine xr_aload_n dL_law_566 3 rfl ?_
  refine xr_iload_n dL_law_567 0 rfl ?_
  refine xr_iconst (v := 1) dL_law_568 rfl ?_
  refine xr_iadd dL_law_569 ?_
  refine xb_top (y := 1) (by decide) ?_
  refine xr_sld rfl (sx_in hn 1 (by decide)) dL_law_570 ?_
  refine xb_top (y := G.2.2.2.2.2 1) rfl ?_
  refine xr_callV (As := [.int ((G.2.2.2.2.2 1))]) (rest := []) mlL_69 (p_X9_leastPush (G.2.2.2.2.2 1)) dL_law_571 s_0 rfl rfl (Nat.le_of_ble_eq_true rfl) (by decide) ⟨by decide, by decide⟩ (fun v s2 M2 J2 hq => ?_)
  obtain ⟨rfl, rfl, hF⟩ := hq
  try dsimp only [Option.toList, List.cons_append, List.nil_append]
  refine xr_aload_n dL_law_574 1 rfl ?_
  refine xr_aload_n dL_law_575 3 rfl ?_
  refine xr_iload_n dL_law_576 0 rfl ?_
  refine xr_iconst (v := 1) dL_law_577 rfl ?_
  refine xr_iadd dL_law_578 ?_
  refine xb_top (y := 1) (by decide) ?_
  refine xr_sld rfl (sx_in hn 1 (by decide)) dL_law_579 ?_
  refine xb_top (y := G.2.2.2.2.2 1) rfl ?_
  refine xr_callV (As := [.int ((G.2.2.2.2.2 1))]) (rest := [.int _]) mlL_72 (p_X10_leastPush (G.2.2.2.2.2 1) hF) dL_law_580 s_62 rfl rfl (Nat.le_of_ble_eq_true rfl) (by decide) ⟨by decide, by decide⟩ (fun v s3 M3 J3 hq => ?_)
  change v = _ at hq
  subst hq
  try dsimp only [Option.toList, List.cons_append, List.nil_append]
  refine xr_icmp_eq (tgt := 1504) dL_law_583 rfl (fun _ => ?_) (fun c => absurd rfl c)
  exact lwx_end hn
set_option maxRecDepth 100000 in
set_option maxHeartbeats 4000000 in
theorem lwx_14 {l : Launch} {G : xG} (hn : G.2.2.2.2.1 = 6) : x_X l G fL_law 20 600000 7302250 (qR (some (.int 1))) 588 [(3, .int (0)), (2, .ref (62)), (1, .ref (0)), (0, .ref (1002))] [] x_SH z_M x_J0 87 2934 := by
  refine xr_aload_n dL_law_588 2 rfl ?_
  refine xr_aload_n dL_law_589 3 rfl ?_
  refine xr_iload_n dL_law_590 0 rfl ?_
  refine xr_iconst (v := 1) dL_law_591 rfl ?_
  refine xr_iadd dL_law_592 ?_
  refine xb_top (y := 1) (by decide) ?_
  refine xr_sld rfl (sx_in hn 1 (by decide)) dL_law_593 ?_
  refine xb_top (y := G.2.2.2.2.2 1) rfl ?_
  refine xr_aload_n dL_law_594 3 rfl ?_
  refine xr_iload_n dL_law_595 0 rfl ?_
  refine xr_iconst (v := 2) dL_law_596 rfl ?_
  refine xr_iadd dL_law_597 ?_
  refine xb_top (y := 2) (by decide) ?_
  refine xr_sld rfl (sx_in hn 2 (by decide)) dL_law_598 ?_
  refine xb_top (y := G.2.2.2.2.2 2) rfl ?_
  refine xr_callV (As := [.int ((G.2.2.2.2.2 1)), .int ((G.2.2.2.2.2 2))]) (rest := []) mlL_73 (p_X9_mistake (G.2.2.2.2.2 1) (G.2.2.2.2.2 2)) dL_law_599 s_0 rfl rfl (Nat.le_of_ble_eq_true rfl) (by decide) ⟨by decide, by decide⟩ (fun v s2 M2 J2 hq => ?_)
  obtain ⟨rfl, rfl, hF⟩ := hq
  try dsimp only [Option.toList, List.cons_append, List.nil_append]
  refine xr_aload_n dL_law_602 1 rfl ?_
  refine xr_aload_n dL_law_603 3 rfl ?_
  refine xr_iload_n dL_law_604 0 rfl ?_
  refine xr_iconst (v := 1) dL_law_605 rfl ?_
  refine xr_iadd dL_law_606 ?_
  refine xb_top (y := 1) (by decide) ?_
  refine xr_sld rfl (sx_in hn 1 (by decide)) dL_law_607 ?_
  refine xb_top (y := G.2.2.2.2.2 1) rfl ?_
  refine xr_aload_n dL_law_608 3 rfl ?_
  refine xr_iload_n dL_law_609 0 rfl ?_
  refine xr_iconst (v := 2) dL_law_610 rfl ?_
  refine xr_iadd dL_law_611 ?_
  refine xb_top (y := 2) (by decide) ?_
  refine xr_sld rfl (sx_in hn 2 (by decide)) dL_law_612 ?_
  refine xb_top (y := G.2.2.2.2.2 2) rfl ?_
  refine xr_callV (As := [.int ((G.2.2.2.2.2 1)), .int ((G.2.2.2.2.2 2))]) (rest := [.int _]) mlL_76 (p_X10_mistake (G.2.2.2.2.2 1) (G.2.2.2.2.2 2) hF) dL_law_613 s_62 rfl rfl (Nat.le_of_ble_eq_true rfl) (by decide) ⟨by decide, by decide⟩ (fun v s3 M3 J3 hq => ?_)
  change v = _ at hq
  subst hq
  try dsimp only [Option.toList, List.cons_append, List.nil_append]
  refine xr_icmp_eq (tgt := 1504) dL_law_616 rfl (fun _ => ?_) (fun c => absurd rfl c)
  exact lwx_end hn
set_option maxRecDepth 100000 in
set_option maxHeartbeats 4000000 in
theorem lwx_15 {l : Launch} {G : xG} (hn : G.2.2.2.2.1 = 6) : x_X l G fL_law 20 600000 7302250 (qR (some (.int 1))) 621 [(3, .int (0)), (2, .ref (62)), (1, .ref (0)), (0, .ref (1002))] [] x_SH z_M x_J0 87 2934 := by
  refine xr_aload_n dL_law_621 2 rfl ?_
  refine xr_aload_n dL_law_622 3 rfl ?_
  refine xr_iload_n dL_law_623 0 rfl ?_
  refine xr_iconst (v := 1) dL_law_624 rfl ?_
  refine xr_iadd dL_law_625 ?_
  refine xb_top (y := 1) (by decide) ?_
  refine xr_sld rfl (sx_in hn 1 (by decide)) dL_law_626 ?_
  refine xb_top (y := G.2.2.2.2.2 1) rfl ?_
  refine xr_callV (As := [.int ((G.2.2.2.2.2 1))]) (rest := []) mlL_77 (p_X9_held (G.2.2.2.2.2 1)) dL_law_627 s_0 rfl rfl (Nat.le_of_ble_eq_true rfl) (by decide) ⟨by decide, by decide⟩ (fun v s2 M2 J2 hq => ?_)
  obtain ⟨rfl, rfl, hF⟩ := hq
  try dsimp only [Option.toList, List.cons_append, List.nil_append]
  refine xr_aload_n dL_law_630 1 rfl ?_
  refine xr_aload_n dL_law_631 3 rfl ?_
  refine xr_iload_n dL_law_632 0 rfl ?_
  refine xr_iconst (v := 1) dL_law_633 rfl ?_
  refine xr_iadd dL_law_634 ?_
  refine xb_top (y := 1) (by decide) ?_
  refine xr_sld rfl (sx_in hn 1 (by decide)) dL_law_635 ?_
  refine xb_top (y := G.2.2.2.2.2 1) rfl ?_
  refine xr_callV (As := [.int ((G.2.2.2.2.2 1))]) (rest := [.int _]) mlL_80 (p_X10_held (G.2.2.2.2.2 1) hF) dL_law_636 s_62 rfl rfl (Nat.le_of_ble_eq_true rfl) (by decide) ⟨by decide, by decide⟩ (fun v s3 M3 J3 hq => ?_)
  change v = _ at hq
  subst hq
  try dsimp only [Option.toList, List.cons_append, List.nil_append]
  refine xr_icmp_eq (tgt := 1504) dL_law_639 rfl (fun _ => ?_) (fun c => absurd rfl c)
  exact lwx_end hn
set_option maxRecDepth 100000 in
set_option maxHeartbeats 4000000 in
theorem lwx_16 {l : Launch} {G : xG} (hn : G.2.2.2.2.1 = 6) : x_X l G fL_law 20 600000 7302250 (qR (some (.int 1))) 644 [(3, .int (0)), (2, .ref (62)), (1, .ref (0)), (0, .ref (1002))] [] x_SH z_M x_J0 87 2934 := by
  refine xr_aload_n dL_law_644 2 rfl ?_
  refine xr_aload_n dL_law_645 3 rfl ?_
  refine xr_iload_n dL_law_646 0 rfl ?_
  refine xr_iconst (v := 1) dL_law_647 rfl ?_
  refine xr_iadd dL_law_648 ?_
  refine xb_top (y := 1) (by decide) ?_
  refine xr_sld rfl (sx_in hn 1 (by decide)) dL_law_649 ?_
  refine xb_top (y := G.2.2.2.2.2 1) rfl ?_
  refine xr_aload_n dL_law_650 3 rfl ?_
  refine xr_iload_n dL_law_651 0 rfl ?_
  refine xr_iconst (v := 2) dL_law_652 rfl ?_
  refine xr_iadd dL_law_653 ?_
  refine xb_top (y := 2) (by decide) ?_
  refine xr_sld rfl (sx_in hn 2 (by decide)) dL_law_654 ?_
  refine xb_top (y := G.2.2.2.2.2 2) rfl ?_
  refine xr_callV (As := [.int ((G.2.2.2.2.2 1)), .int ((G.2.2.2.2.2 2))]) (rest := []) mlL_81 (p_X9_rescue (G.2.2.2.2.2 1) (G.2.2.2.2.2 2)) dL_law_655 s_0 rfl rfl (Nat.le_of_ble_eq_true rfl) (by decide) ⟨by decide, by decide⟩ (fun v s2 M2 J2 hq => ?_)
  obtain ⟨rfl, rfl, hF⟩ := hq
  try dsimp only [Option.toList, List.cons_append, List.nil_append]
  refine xr_aload_n dL_law_658 1 rfl ?_
  refine xr_aload_n dL_law_659 3 rfl ?_
  refine xr_iload_n dL_law_660 0 rfl ?_
  refine xr_iconst (v := 1) dL_law_661 rfl ?_
  refine xr_iadd dL_law_662 ?_
  refine xb_top (y := 1) (by decide) ?_
  refine xr_sld rfl (sx_in hn 1 (by decide)) dL_law_663 ?_
  refine xb_top (y := G.2.2.2.2.2 1) rfl ?_
  refine xr_aload_n dL_law_664 3 rfl ?_
  refine xr_iload_n dL_law_665 0 rfl ?_
  refine xr_iconst (v := 2) dL_law_666 rfl ?_
  refine xr_iadd dL_law_667 ?_
  refine xb_top (y := 2) (by decide) ?_
  refine xr_sld rfl (sx_in hn 2 (by decide)) dL_law_668 ?_
  refine xb_top (y := G.2.2.2.2.2 2) rfl ?_
  refine xr_callV (As := [.int ((G.2.2.2.2.2 1)), .int ((G.2.2.2.2.2 2))]) (rest := [.int _]) mlL_84 (p_X10_rescue (G.2.2.2.2.2 1) (G.2.2.2.2.2 2) hF) dL_law_669 s_62 rfl rfl (Nat.le_of_ble_eq_true rfl) (by decide) ⟨by decide, by decide⟩ (fun v s3 M3 J3 hq => ?_)
  change v = _ at hq
  subst hq
  try dsimp only [Option.toList, List.cons_append, List.nil_append]
  refine xr_icmp_eq (tgt := 1504) dL_law_672 rfl (fun _ => ?_) (fun c => absurd rfl c)
  exact lwx_end hn
set_option maxRecDepth 100000 in
set_option maxHeartbeats 4000000 in
theorem lwx_17 {l : Launch} {G : xG} (hn : G.2.2.2.2.1 = 6) : x_X l G fL_law 20 600000 7302250 (qR (some (.int 1))) 677 [(3, .int (0)), (2, .ref (62)), (1, .ref (0)), (0, .ref (1002))] [] x_SH z_M x_J0 87 2934 := by
  refine xr_aload_n dL_law_677 2 rfl ?_
  refine xr_aload_n dL_law_678 3 rfl ?_
  refine xr_iload_n dL_law_679 0 rfl ?_
  refine xr_iconst (v := 1) dL_law_680 rfl ?_
  refine xr_iadd dL_law_681 ?_
  refine xb_top (y := 1) (by decide) ?_
  refine xr_sld rfl (sx_in hn 1 (by decide)) dL_law_682 ?_
  refine xb_top (y := G.2.2.2.2.2 1) rfl ?_
  refine xr_callV (As := [.int ((G.2.2.2.2.2 1))]) (rest := []) mlL_85 (p_X9_start (G.2.2.2.2.2 1)) dL_law_683 s_0 rfl rfl (Nat.le_of_ble_eq_true rfl) (by decide) ⟨by decide, by decide⟩ (fun v s2 M2 J2 hq => ?_)
  obtain ⟨rfl, rfl, hF⟩ := hq
  try dsimp only [Option.toList, List.cons_append, List.nil_append]
  refine xr_aload_n dL_law_686 1 rfl ?_
  refine xr_aload_n dL_law_687 3 rfl ?_
  refine xr_iload_n dL_law_688 0 rfl ?_
  refine xr_iconst (v := 1) dL_law_689 rfl ?_
  refine xr_iadd dL_law_690 ?_
  refine xb_top (y := 1) (by decide) ?_
  refine xr_sld rfl (sx_in hn 1 (by decide)) dL_law_691 ?_
  refine xb_top (y := G.2.2.2.2.2 1) rfl ?_
  refine xr_callV (As := [.int ((G.2.2.2.2.2 1))]) (rest := [.int _]) mlL_88 (p_X10_start (G.2.2.2.2.2 1) hF) dL_law_692 s_62 rfl rfl (Nat.le_of_ble_eq_true rfl) (by decide) ⟨by decide, by decide⟩ (fun v s3 M3 J3 hq => ?_)
  change v = _ at hq
  subst hq
  try dsimp only [Option.toList, List.cons_append, List.nil_append]
  refine xr_icmp_eq (tgt := 1504) dL_law_695 rfl (fun _ => ?_) (fun c => absurd rfl c)
  exact lwx_end hn
set_option maxRecDepth 100000 in
set_option maxHeartbeats 4000000 in
theorem lwx_18 {l : Launch} {G : xG} (hn : G.2.2.2.2.1 = 6) : x_X l G fL_law 20 600000 7302250 (qR (some (.int 1))) 700 [(3, .int (0)), (2, .ref (62)), (1, .ref (0)), (0, .ref (1002))] [] x_SH z_M x_J0 87 2934 := by
  refine xr_aload_n dL_law_700 2 rfl ?_
  refine xr_aload_n dL_law_701 3 rfl ?_
  refine xr_iload_n dL_law_702 0 rfl ?_
  refine xr_iconst (v := 1) dL_law_703 rfl ?_
  refine xr_iadd dL_law_704 ?_
  refine xb_top (y := 1) (by decide) ?_
  refine xr_sld rfl (sx_in hn 1 (by decide)) dL_law_705 ?_
  refine xb_top (y := G.2.2.2.2.2 1) rfl ?_
  refine xr_callV (As := [.int ((G.2.2.2.2.2 1))]) (rest := []) mlL_89 (p_X9_music (G.2.2.2.2.2 1)) dL_law_706 s_0 rfl rfl (Nat.le_of_ble_eq_true rfl) (by decide) ⟨by decide, by decide⟩ (fun v s2 M2 J2 hq => ?_)
  obtain ⟨rfl, rfl, hF⟩ := hq
  try dsimp only [Option.toList, List.cons_append, List.nil_append]
  refine xr_aload_n dL_law_709 1 rfl ?_
  refine xr_aload_n dL_law_710 3 rfl ?_
  refine xr_iload_n dL_law_711 0 rfl ?_
  refine xr_iconst (v := 1) dL_law_712 rfl ?_
  refine xr_iadd dL_law_713 ?_
  refine xb_top (y := 1) (by decide) ?_
  refine xr_sld rfl (sx_in hn 1 (by decide)) dL_law_714 ?_
  refine xb_top (y := G.2.2.2.2.2 1) rfl ?_
  refine xr_callV (As := [.int ((G.2.2.2.2.2 1))]) (rest := [.int _]) mlL_92 (p_X10_music (G.2.2.2.2.2 1) hF) dL_law_715 s_62 rfl rfl (Nat.le_of_ble_eq_true rfl) (by decide) ⟨by decide, by decide⟩ (fun v s3 M3 J3 hq => ?_)
  change v = _ at hq
  subst hq
  try dsimp only [Option.toList, List.cons_append, List.nil_append]
  refine xr_icmp_eq (tgt := 1504) dL_law_718 rfl (fun _ => ?_) (fun c => absurd rfl c)
  exact lwx_end hn
set_option maxRecDepth 100000 in
set_option maxHeartbeats 4000000 in
theorem lwx_19 {l : Launch} {G : xG} (hn : G.2.2.2.2.1 = 6) : x_X l G fL_law 20 600000 7302250 (qR (some (.int 1))) 723 [(3, .int (0)), (2, .ref (62)), (1, .ref (0)), (0, .ref (1002))] [] x_SH z_M x_J0 87 2934 := by
  refine xr_aload_n dL_law_723 2 rfl ?_
  refine xr_aload_n dL_law_724 3 rfl ?_
  refine xr_iload_n dL_law_725 0 rfl ?_
  refine xr_iconst (v := 1) dL_law_726 rfl ?_
  refine xr_iadd dL_law_727 ?_
  refine xb_top (y := 1) (by decide) ?_
  refine xr_sld rfl (sx_in hn 1 (by decide)) dL_law_728 ?_
  refine xb_top (y := G.2.2.2.2.2 1) rfl ?_
  refine xr_aload_n dL_law_729 3 rfl ?_
  refine xr_iload_n dL_law_730 0 rfl ?_
  refine xr_iconst (v := 2) dL_law_731 rfl ?_
  refine xr_iadd dL_law_732 ?_
  refine xb_top (y := 2) (by decide) ?_
  refine xr_sld rfl (sx_in hn 2 (by decide)) dL_law_733 ?_
  refine xb_top (y := G.2.2.2.2.2 2) rfl ?_
  refine xr_callV (As := [.int ((G.2.2.2.2.2 1)), .int ((G.2.2.2.2.2 2))]) (rest := []) mlL_93 (p_X9_judge (G.2.2.2.2.2 1) (G.2.2.2.2.2 2)) dL_law_734 s_0 rfl rfl (Nat.le_of_ble_eq_true rfl) (by decide) ⟨by decide, by decide⟩ (fun v s2 M2 J2 hq => ?_)
  obtain ⟨rfl, rfl, hF⟩ := hq
  try dsimp only [Option.toList, List.cons_append, List.nil_append]
  refine xr_aload_n dL_law_737 1 rfl ?_
  refine xr_aload_n dL_law_738 3 rfl ?_
  refine xr_iload_n dL_law_739 0 rfl ?_
  refine xr_iconst (v := 1) dL_law_740 rfl ?_
  refine xr_iadd dL_law_741 ?_
  refine xb_top (y := 1) (by decide) ?_
  refine xr_sld rfl (sx_in hn 1 (by decide)) dL_law_742 ?_
  refine xb_top (y := G.2.2.2.2.2 1) rfl ?_
  refine xr_aload_n dL_law_743 3 rfl ?_
  refine xr_iload_n dL_law_744 0 rfl ?_
  refine xr_iconst (v := 2) dL_law_745 rfl ?_
  refine xr_iadd dL_law_746 ?_
  refine xb_top (y := 2) (by decide) ?_
  refine xr_sld rfl (sx_in hn 2 (by decide)) dL_law_747 ?_
  refine xb_top (y := G.2.2.2.2.2 2) rfl ?_
  refine xr_callV (As := [.int ((G.2.2.2.2.2 1)), .int ((G.2.2.2.2.2 2))]) (rest := [.int _]) mlL_96 (p_X10_judge (G.2.2.2.2.2 1) (G.2.2.2.2.2 2) hF) dL_law_748 s_62 rfl rfl (Nat.le_of_ble_eq_true rfl) (by decide) ⟨by decide, by decide⟩ (fun v s3 M3 J3 hq => ?_)
  change v = _ at hq
  subst hq
  try dsimp only [Option.toList, List.cons_append, List.nil_append]
  refine xr_icmp_eq (tgt := 1504) dL_law_751 rfl (fun _ => ?_) (fun c => absurd rfl c)
  exact lwx_end hn
set_option maxRecDepth 100000 in
set_option maxHeartbeats 4000000 in
theorem lwx_20 {l : Launch} {G : xG} (hn : G.2.2.2.2.1 = 6) : x_X l G fL_law 20 600000 7302250 (qR (some (.int 1))) 756 [(3, .int (0)), (2, .ref (62)), (1, .ref (0)), (0, .ref (1002))] [] x_SH z_M x_J0 87 2934 := by
  refine xr_aload_n dL_law_756 2 rfl ?_
  refine xr_aload_n dL_law_757 3 rfl ?_
  refine xr_iload_n dL_law_758 0 rfl ?_
  refine xr_iconst (v := 1) dL_law_759 rfl ?_
  refine xr_iadd dL_law_760 ?_
  refine xb_top (y := 1) (by decide) ?_
  refine xr_sld rfl (sx_in hn 1 (by decide)) dL_law_761 ?_
  refine xb_top (y := G.2.2.2.2.2 1) rfl ?_
  refine xr_aload_n dL_law_762 3 rfl ?_
  refine xr_iload_n dL_law_763 0 rfl ?_
  refine xr_iconst (v := 2) dL_law_764 rfl ?_
  refine xr_iadd dL_law_765 ?_
  refine xb_top (y := 2) (by decide) ?_
  refine xr_sld rfl (sx_in hn 2 (by decide)) dL_law_766 ?_
  refine xb_top (y := G.2.2.2.2.2 2) rfl ?_
  refine xr_aload_n dL_law_767 3 rfl ?_
  refine xr_iload_n dL_law_768 0 rfl ?_
  refine xr_iconst (v := 3) dL_law_769 rfl ?_
  refine xr_iadd dL_law_770 ?_
  refine xb_top (y := 3) (by decide) ?_
  refine xr_sld rfl (sx_in hn 3 (by decide)) dL_law_771 ?_
  refine xb_top (y := G.2.2.2.2.2 3) rfl ?_
  refine xr_callV (As := [.int ((G.2.2.2.2.2 1)), .int ((G.2.2.2.2.2 2)), .int ((G.2.2.2.2.2 3))]) (rest := []) mlL_97 (p_X9_begun (G.2.2.2.2.2 1) (G.2.2.2.2.2 2) (G.2.2.2.2.2 3)) dL_law_772 s_0 rfl rfl (Nat.le_of_ble_eq_true rfl) (by decide) ⟨by decide, by decide⟩ (fun v s2 M2 J2 hq => ?_)
  obtain ⟨rfl, rfl, hF⟩ := hq
  try dsimp only [Option.toList, List.cons_append, List.nil_append]
  refine xr_aload_n dL_law_775 1 rfl ?_
  refine xr_aload_n dL_law_776 3 rfl ?_
  refine xr_iload_n dL_law_777 0 rfl ?_
  refine xr_iconst (v := 1) dL_law_778 rfl ?_
  refine xr_iadd dL_law_779 ?_
  refine xb_top (y := 1) (by decide) ?_
  refine xr_sld rfl (sx_in hn 1 (by decide)) dL_law_780 ?_
  refine xb_top (y := G.2.2.2.2.2 1) rfl ?_
  refine xr_aload_n dL_law_781 3 rfl ?_
  refine xr_iload_n dL_law_782 0 rfl ?_
  refine xr_iconst (v := 2) dL_law_783 rfl ?_
  refine xr_iadd dL_law_784 ?_
  refine xb_top (y := 2) (by decide) ?_
  refine xr_sld rfl (sx_in hn 2 (by decide)) dL_law_785 ?_
  refine xb_top (y := G.2.2.2.2.2 2) rfl ?_
  refine xr_aload_n dL_law_786 3 rfl ?_
  refine xr_iload_n dL_law_787 0 rfl ?_
  refine xr_iconst (v := 3) dL_law_788 rfl ?_
  refine xr_iadd dL_law_789 ?_
  refine xb_top (y := 3) (by decide) ?_
  refine xr_sld rfl (sx_in hn 3 (by decide)) dL_law_790 ?_
  refine xb_top (y := G.2.2.2.2.2 3) rfl ?_
  refine xr_callV (As := [.int ((G.2.2.2.2.2 1)), .int ((G.2.2.2.2.2 2)), .int ((G.2.2.2.2.2 3))]) (rest := [.int _]) mlL_100 (p_X10_begun (G.2.2.2.2.2 1) (G.2.2.2.2.2 2) (G.2.2.2.2.2 3) hF) dL_law_791 s_62 rfl rfl (Nat.le_of_ble_eq_true rfl) (by decide) ⟨by decide, by decide⟩ (fun v s3 M3 J3 hq => ?_)
  change v = _ at hq
  subst hq
  try dsimp only [Option.toList, List.cons_append, List.nil_append]
  refine xr_icmp_eq (tgt := 1504) dL_law_794 rfl (fun _ => ?_) (fun c => absurd rfl c)
  exact lwx_end hn
set_option maxRecDepth 100000 in
set_option maxHeartbeats 4000000 in
theorem lwx_21 {l : Launch} {G : xG} (hn : G.2.2.2.2.1 = 6) : x_X l G fL_law 20 600000 7302250 (qR (some (.int 1))) 799 [(3, .int (0)), (2, .ref (62)), (1, .ref (0)), (0, .ref (1002))] [] x_SH z_M x_J0 87 2934 := by
  refine xr_aload_n dL_law_799 2 rfl ?_
  refine xr_aload_n dL_law_800 3 rfl ?_
  refine xr_iload_n dL_law_801 0 rfl ?_
  refine xr_iconst (v := 1) dL_law_802 rfl ?_
  refine xr_iadd dL_law_803 ?_
  refine xb_top (y := 1) (by decide) ?_
  refine xr_sld rfl (sx_in hn 1 (by decide)) dL_law_804 ?_
  refine xb_top (y := G.2.2.2.2.2 1) rfl ?_
  refine xr_aload_n dL_law_805 3 rfl ?_
  refine xr_iload_n dL_law_806 0 rfl ?_
  refine xr_iconst (v := 2) dL_law_807 rfl ?_
  refine xr_iadd dL_law_808 ?_
  refine xb_top (y := 2) (by decide) ?_
  refine xr_sld rfl (sx_in hn 2 (by decide)) dL_law_809 ?_
  refine xb_top (y := G.2.2.2.2.2 2) rfl ?_
  refine xr_callV (As := [.int ((G.2.2.2.2.2 1)), .int ((G.2.2.2.2.2 2))]) (rest := []) mlL_101 (p_X9_skill (G.2.2.2.2.2 1) (G.2.2.2.2.2 2)) dL_law_810 s_0 rfl rfl (Nat.le_of_ble_eq_true rfl) (by decide) ⟨by decide, by decide⟩ (fun v s2 M2 J2 hq => ?_)
  obtain ⟨rfl, rfl, hF⟩ := hq
  try dsimp only [Option.toList, List.cons_append, List.nil_append]
  refine xr_aload_n dL_law_813 1 rfl ?_
  refine xr_aload_n dL_law_814 3 rfl ?_
  refine xr_iload_n dL_law_815 0 rfl ?_
  refine xr_iconst (v := 1) dL_law_816 rfl ?_
  refine xr_iadd dL_law_817 ?_
  refine xb_top (y := 1) (by decide) ?_
  refine xr_sld rfl (sx_in hn 1 (by decide)) dL_law_818 ?_
  refine xb_top (y := G.2.2.2.2.2 1) rfl ?_
  refine xr_aload_n dL_law_819 3 rfl ?_
  refine xr_iload_n dL_law_820 0 rfl ?_
  refine xr_iconst (v := 2) dL_law_821 rfl ?_
  refine xr_iadd dL_law_822 ?_
  refine xb_top (y := 2) (by decide) ?_
  refine xr_sld rfl (sx_in hn 2 (by decide)) dL_law_823 ?_
  refine xb_top (y := G.2.2.2.2.2 2) rfl ?_
  refine xr_callV (As := [.int ((G.2.2.2.2.2 1)), .int ((G.2.2.2.2.2 2))]) (rest := [.int _]) mlL_104 (p_X10_skill (G.2.2.2.2.2 1) (G.2.2.2.2.2 2) hF) dL_law_824 s_62 rfl rfl (Nat.le_of_ble_eq_true rfl) (by decide) ⟨by decide, by decide⟩ (fun v s3 M3 J3 hq => ?_)
  change v = _ at hq
  subst hq
  try dsimp only [Option.toList, List.cons_append, List.nil_append]
  refine xr_icmp_eq (tgt := 1504) dL_law_827 rfl (fun _ => ?_) (fun c => absurd rfl c)
  exact lwx_end hn
set_option maxRecDepth 100000 in
set_option maxHeartbeats 4000000 in
theorem lwx_22 {l : Launch} {G : xG} (hn : G.2.2.2.2.1 = 6) : x_X l G fL_law 20 600000 7302250 (qR (some (.int 1))) 832 [(3, .int (0)), (2, .ref (62)), (1, .ref (0)), (0, .ref (1002))] [] x_SH z_M x_J0 87 2934 := by
  refine xr_aload_n dL_law_832 2 rfl ?_
  refine xr_aload_n dL_law_833 3 rfl ?_
  refine xr_iload_n dL_law_834 0 rfl ?_
  refine xr_iconst (v := 1) dL_law_835 rfl ?_
  refine xr_iadd dL_law_836 ?_
  refine xb_top (y := 1) (by decide) ?_
  refine xr_sld rfl (sx_in hn 1 (by decide)) dL_law_837 ?_
  refine xb_top (y := G.2.2.2.2.2 1) rfl ?_
  refine xr_aload_n dL_law_838 3 rfl ?_
  refine xr_iload_n dL_law_839 0 rfl ?_
  refine xr_iconst (v := 2) dL_law_840 rfl ?_
  refine xr_iadd dL_law_841 ?_
  refine xb_top (y := 2) (by decide) ?_
  refine xr_sld rfl (sx_in hn 2 (by decide)) dL_law_842 ?_
  refine xb_top (y := G.2.2.2.2.2 2) rfl ?_
  refine xr_aload_n dL_law_843 3 rfl ?_
  refine xr_iload_n dL_law_844 0 rfl ?_
  refine xr_iconst (v := 3) dL_law_845 rfl ?_
  refine xr_iadd dL_law_846 ?_
  refine xb_top (y := 3) (by decide) ?_
  refine xr_sld rfl (sx_in hn 3 (by decide)) dL_law_847 ?_
  refine xb_top (y := G.2.2.2.2.2 3) rfl ?_
  refine xr_callV (As := [.int ((G.2.2.2.2.2 1)), .int ((G.2.2.2.2.2 2)), .int ((G.2.2.2.2.2 3))]) (rest := []) mlL_105 (p_X9_left (G.2.2.2.2.2 1) (G.2.2.2.2.2 2) (G.2.2.2.2.2 3)) dL_law_848 s_0 rfl rfl (Nat.le_of_ble_eq_true rfl) (by decide) ⟨by decide, by decide⟩ (fun v s2 M2 J2 hq => ?_)
  obtain ⟨rfl, rfl, hF⟩ := hq
  try dsimp only [Option.toList, List.cons_append, List.nil_append]
  refine xr_aload_n dL_law_851 1 rfl ?_
  refine xr_aload_n dL_law_852 3 rfl ?_
  refine xr_iload_n dL_law_853 0 rfl ?_
  refine xr_iconst (v := 1) dL_law_854 rfl ?_
  refine xr_iadd dL_law_855 ?_
  refine xb_top (y := 1) (by decide) ?_
  refine xr_sld rfl (sx_in hn 1 (by decide)) dL_law_856 ?_
  refine xb_top (y := G.2.2.2.2.2 1) rfl ?_
  refine xr_aload_n dL_law_857 3 rfl ?_
  refine xr_iload_n dL_law_858 0 rfl ?_
  refine xr_iconst (v := 2) dL_law_859 rfl ?_
  refine xr_iadd dL_law_860 ?_
  refine xb_top (y := 2) (by decide) ?_
  refine xr_sld rfl (sx_in hn 2 (by decide)) dL_law_861 ?_
  refine xb_top (y := G.2.2.2.2.2 2) rfl ?_
  refine xr_aload_n dL_law_862 3 rfl ?_
  refine xr_iload_n dL_law_863 0 rfl ?_
  refine xr_iconst (v := 3) dL_law_864 rfl ?_
  refine xr_iadd dL_law_865 ?_
  refine xb_top (y := 3) (by decide) ?_
  refine xr_sld rfl (sx_in hn 3 (by decide)) dL_law_866 ?_
  refine xb_top (y := G.2.2.2.2.2 3) rfl ?_
  refine xr_callV (As := [.int ((G.2.2.2.2.2 1)), .int ((G.2.2.2.2.2 2)), .int ((G.2.2.2.2.2 3))]) (rest := [.int _]) mlL_108 (p_X10_left (G.2.2.2.2.2 1) (G.2.2.2.2.2 2) (G.2.2.2.2.2 3) hF) dL_law_867 s_62 rfl rfl (Nat.le_of_ble_eq_true rfl) (by decide) ⟨by decide, by decide⟩ (fun v s3 M3 J3 hq => ?_)
  change v = _ at hq
  subst hq
  try dsimp only [Option.toList, List.cons_append, List.nil_append]
  refine xr_icmp_eq (tgt := 1504) dL_law_870 rfl (fun _ => ?_) (fun c => absurd rfl c)
  exact lwx_end hn
set_option maxRecDepth 100000 in
set_option maxHeartbeats 4000000 in
theorem lwx_23 {l : Launch} {G : xG} (hn : G.2.2.2.2.1 = 6) : x_X l G fL_law 20 600000 7302250 (qR (some (.int 1))) 875 [(3, .int (0)), (2, .ref (62)), (1, .ref (0)), (0, .ref (1002))] [] x_SH z_M x_J0 87 2934 := by
  refine xr_aload_n dL_law_875 2 rfl ?_
  refine xr_aload_n dL_law_876 3 rfl ?_
  refine xr_iload_n dL_law_877 0 rfl ?_
  refine xr_iconst (v := 1) dL_law_878 rfl ?_
  refine xr_iadd dL_law_879 ?_
  refine xb_top (y := 1) (by decide) ?_
  refine xr_sld rfl (sx_in hn 1 (by decide)) dL_law_880 ?_
  refine xb_top (y := G.2.2.2.2.2 1) rfl ?_
  refine xr_aload_n dL_law_881 3 rfl ?_
  refine xr_iload_n dL_law_882 0 rfl ?_
  refine xr_iconst (v := 2) dL_law_883 rfl ?_
  refine xr_iadd dL_law_884 ?_
  refine xb_top (y := 2) (by decide) ?_
  refine xr_sld rfl (sx_in hn 2 (by decide)) dL_law_885 ?_
  refine xb_top (y := G.2.2.2.2.2 2) rfl ?_
  refine xr_aload_n dL_law_886 3 rfl ?_
  refine xr_iload_n dL_law_887 0 rfl ?_
  refine xr_iconst (v := 3) dL_law_888 rfl ?_
  refine xr_iadd dL_law_889 ?_
  refine xb_top (y := 3) (by decide) ?_
  refine xr_sld rfl (sx_in hn 3 (by decide)) dL_law_890 ?_
  refine xb_top (y := G.2.2.2.2.2 3) rfl ?_
  refine xr_callV (As := [.int ((G.2.2.2.2.2 1)), .int ((G.2.2.2.2.2 2)), .int ((G.2.2.2.2.2 3))]) (rest := []) mlL_109 (p_X9_knocked (G.2.2.2.2.2 1) (G.2.2.2.2.2 2) (G.2.2.2.2.2 3)) dL_law_891 s_0 rfl rfl (Nat.le_of_ble_eq_true rfl) (by decide) ⟨by decide, by decide⟩ (fun v s2 M2 J2 hq => ?_)
  obtain ⟨rfl, rfl, hF⟩ := hq
  try dsimp only [Option.toList, List.cons_append, List.nil_append]
  refine xr_aload_n dL_law_894 1 rfl ?_
  refine xr_aload_n dL_law_895 3 rfl ?_
  refine xr_iload_n dL_law_896 0 rfl ?_
  refine xr_iconst (v := 1) dL_law_897 rfl ?_
  refine xr_iadd dL_law_898 ?_
  refine xb_top (y := 1) (by decide) ?_
  refine xr_sld rfl (sx_in hn 1 (by decide)) dL_law_899 ?_
  refine xb_top (y := G.2.2.2.2.2 1) rfl ?_
  refine xr_aload_n dL_law_900 3 rfl ?_
  refine xr_iload_n dL_law_901 0 rfl ?_
  refine xr_iconst (v := 2) dL_law_902 rfl ?_
  refine xr_iadd dL_law_903 ?_
  refine xb_top (y := 2) (by decide) ?_
  refine xr_sld rfl (sx_in hn 2 (by decide)) dL_law_904 ?_
  refine xb_top (y := G.2.2.2.2.2 2) rfl ?_
  refine xr_aload_n dL_law_905 3 rfl ?_
  refine xr_iload_n dL_law_906 0 rfl ?_
  refine xr_iconst (v := 3) dL_law_907 rfl ?_
  refine xr_iadd dL_law_908 ?_
  refine xb_top (y := 3) (by decide) ?_
  refine xr_sld rfl (sx_in hn 3 (by decide)) dL_law_909 ?_
  refine xb_top (y := G.2.2.2.2.2 3) rfl ?_
  refine xr_callV (As := [.int ((G.2.2.2.2.2 1)), .int ((G.2.2.2.2.2 2)), .int ((G.2.2.2.2.2 3))]) (rest := [.int _]) mlL_112 (p_X10_knocked (G.2.2.2.2.2 1) (G.2.2.2.2.2 2) (G.2.2.2.2.2 3) hF) dL_law_910 s_62 rfl rfl (Nat.le_of_ble_eq_true rfl) (by decide) ⟨by decide, by decide⟩ (fun v s3 M3 J3 hq => ?_)
  change v = _ at hq
  subst hq
  try dsimp only [Option.toList, List.cons_append, List.nil_append]
  refine xr_icmp_eq (tgt := 1504) dL_law_913 rfl (fun _ => ?_) (fun c => absurd rfl c)
  exact lwx_end hn
set_option maxRecDepth 100000 in
set_option maxHeartbeats 4000000 in
theorem lwx_24 {l : Launch} {G : xG} (hn : G.2.2.2.2.1 = 6) : x_X l G fL_law 20 600000 7302250 (qR (some (.int 1))) 918 [(3, .int (0)), (2, .ref (62)), (1, .ref (0)), (0, .ref (1002))] [] x_SH z_M x_J0 87 2934 := by
  refine xr_aload_n dL_law_918 2 rfl ?_
  refine xr_aload_n dL_law_919 3 rfl ?_
  refine xr_iload_n dL_law_920 0 rfl ?_
  refine xr_iconst (v := 1) dL_law_921 rfl ?_
  refine xr_iadd dL_law_922 ?_
  refine xb_top (y := 1) (by decide) ?_
  refine xr_sld rfl (sx_in hn 1 (by decide)) dL_law_923 ?_
  refine xb_top (y := G.2.2.2.2.2 1) rfl ?_
  refine xr_aload_n dL_law_924 3 rfl ?_
  refine xr_iload_n dL_law_925 0 rfl ?_
  refine xr_iconst (v := 2) dL_law_926 rfl ?_
  refine xr_iadd dL_law_927 ?_
  refine xb_top (y := 2) (by decide) ?_
  refine xr_sld rfl (sx_in hn 2 (by decide)) dL_law_928 ?_
  refine xb_top (y := G.2.2.2.2.2 2) rfl ?_
  refine xr_callV (As := [.int ((G.2.2.2.2.2 1)), .int ((G.2.2.2.2.2 2))]) (rest := []) mlL_113 (p_X9_last (G.2.2.2.2.2 1) (G.2.2.2.2.2 2)) dL_law_929 s_0 rfl rfl (Nat.le_of_ble_eq_true rfl) (by decide) ⟨by decide, by decide⟩ (fun v s2 M2 J2 hq => ?_)
  obtain ⟨rfl, rfl, hF⟩ := hq
  try dsimp only [Option.toList, List.cons_append, List.nil_append]
  refine xr_aload_n dL_law_932 1 rfl ?_
  refine xr_aload_n dL_law_933 3 rfl ?_
  refine xr_iload_n dL_law_934 0 rfl ?_
  refine xr_iconst (v := 1) dL_law_935 rfl ?_
  refine xr_iadd dL_law_936 ?_
  refine xb_top (y := 1) (by decide) ?_
  refine xr_sld rfl (sx_in hn 1 (by decide)) dL_law_937 ?_
  refine xb_top (y := G.2.2.2.2.2 1) rfl ?_
  refine xr_aload_n dL_law_938 3 rfl ?_
  refine xr_iload_n dL_law_939 0 rfl ?_
  refine xr_iconst (v := 2) dL_law_940 rfl ?_
  refine xr_iadd dL_law_941 ?_
  refine xb_top (y := 2) (by decide) ?_
  refine xr_sld rfl (sx_in hn 2 (by decide)) dL_law_942 ?_
  refine xb_top (y := G.2.2.2.2.2 2) rfl ?_
  refine xr_callV (As := [.int ((G.2.2.2.2.2 1)), .int ((G.2.2.2.2.2 2))]) (rest := [.int _]) mlL_116 (p_X10_last (G.2.2.2.2.2 1) (G.2.2.2.2.2 2) hF) dL_law_943 s_62 rfl rfl (Nat.le_of_ble_eq_true rfl) (by decide) ⟨by decide, by decide⟩ (fun v s3 M3 J3 hq => ?_)
  change v = _ at hq
  subst hq
  try dsimp only [Option.toList, List.cons_append, List.nil_append]
  refine xr_icmp_eq (tgt := 1504) dL_law_946 rfl (fun _ => ?_) (fun c => absurd rfl c)
  exact lwx_end hn
set_option maxRecDepth 100000 in
set_option maxHeartbeats 4000000 in
theorem lwx_25 {l : Launch} {G : xG} (hn : G.2.2.2.2.1 = 6) : x_X l G fL_law 20 600000 7302250 (qR (some (.int 1))) 951 [(3, .int (0)), (2, .ref (62)), (1, .ref (0)), (0, .ref (1002))] [] x_SH z_M x_J0 87 2934 := by
  refine xr_aload_n dL_law_951 2 rfl ?_
  refine xr_aload_n dL_law_952 3 rfl ?_
  refine xr_iload_n dL_law_953 0 rfl ?_
  refine xr_iconst (v := 1) dL_law_954 rfl ?_
  refine xr_iadd dL_law_955 ?_
  refine xb_top (y := 1) (by decide) ?_
  refine xr_sld rfl (sx_in hn 1 (by decide)) dL_law_956 ?_
  refine xb_top (y := G.2.2.2.2.2 1) rfl ?_
  refine xr_aload_n dL_law_957 3 rfl ?_
  refine xr_iload_n dL_law_958 0 rfl ?_
  refine xr_iconst (v := 2) dL_law_959 rfl ?_
  refine xr_iadd dL_law_960 ?_
  refine xb_top (y := 2) (by decide) ?_
  refine xr_sld rfl (sx_in hn 2 (by decide)) dL_law_961 ?_
  refine xb_top (y := G.2.2.2.2.2 2) rfl ?_
  refine xr_aload_n dL_law_962 3 rfl ?_
  refine xr_iload_n dL_law_963 0 rfl ?_
  refine xr_iconst (v := 3) dL_law_964 rfl ?_
  refine xr_iadd dL_law_965 ?_
  refine xb_top (y := 3) (by decide) ?_
  refine xr_sld rfl (sx_in hn 3 (by decide)) dL_law_966 ?_
  refine xb_top (y := G.2.2.2.2.2 3) rfl ?_
  refine xr_callV (As := [.int ((G.2.2.2.2.2 1)), .int ((G.2.2.2.2.2 2)), .int ((G.2.2.2.2.2 3))]) (rest := []) mlL_117 (p_X9_alone (G.2.2.2.2.2 1) (G.2.2.2.2.2 2) (G.2.2.2.2.2 3)) dL_law_967 s_0 rfl rfl (Nat.le_of_ble_eq_true rfl) (by decide) ⟨by decide, by decide⟩ (fun v s2 M2 J2 hq => ?_)
  obtain ⟨rfl, rfl, hF⟩ := hq
  try dsimp only [Option.toList, List.cons_append, List.nil_append]
  refine xr_aload_n dL_law_970 1 rfl ?_
  refine xr_aload_n dL_law_971 3 rfl ?_
  refine xr_iload_n dL_law_972 0 rfl ?_
  refine xr_iconst (v := 1) dL_law_973 rfl ?_
  refine xr_iadd dL_law_974 ?_
  refine xb_top (y := 1) (by decide) ?_
  refine xr_sld rfl (sx_in hn 1 (by decide)) dL_law_975 ?_
  refine xb_top (y := G.2.2.2.2.2 1) rfl ?_
  refine xr_aload_n dL_law_976 3 rfl ?_
  refine xr_iload_n dL_law_977 0 rfl ?_
  refine xr_iconst (v := 2) dL_law_978 rfl ?_
  refine xr_iadd dL_law_979 ?_
  refine xb_top (y := 2) (by decide) ?_
  refine xr_sld rfl (sx_in hn 2 (by decide)) dL_law_980 ?_
  refine xb_top (y := G.2.2.2.2.2 2) rfl ?_
  refine xr_aload_n dL_law_981 3 rfl ?_
  refine xr_iload_n dL_law_982 0 rfl ?_
  refine xr_iconst (v := 3) dL_law_983 rfl ?_
  refine xr_iadd dL_law_984 ?_
  refine xb_top (y := 3) (by decide) ?_
  refine xr_sld rfl (sx_in hn 3 (by decide)) dL_law_985 ?_
  refine xb_top (y := G.2.2.2.2.2 3) rfl ?_
  refine xr_callV (As := [.int ((G.2.2.2.2.2 1)), .int ((G.2.2.2.2.2 2)), .int ((G.2.2.2.2.2 3))]) (rest := [.long _]) mlL_121 (p_X10_alone (G.2.2.2.2.2 1) (G.2.2.2.2.2 2) (G.2.2.2.2.2 3) hF) dL_law_986 s_62 rfl rfl (Nat.le_of_ble_eq_true rfl) (by decide) ⟨by decide, by decide⟩ (fun v s3 M3 J3 hq => ?_)
  change v = _ at hq
  subst hq
  try dsimp only [Option.toList, List.cons_append, List.nil_append]
  refine xr_lcmp dL_law_989 ?_
  refine xl_eq (tgt := 1504) dL_law_990 rfl (fun _ => ?_) (fun c => absurd rfl c)
  exact lwx_end hn
set_option maxRecDepth 100000 in
set_option maxHeartbeats 4000000 in
theorem lwx_26 {l : Launch} {G : xG} (hn : G.2.2.2.2.1 = 6) : x_X l G fL_law 20 600000 7302250 (qR (some (.int 1))) 995 [(3, .int (0)), (2, .ref (62)), (1, .ref (0)), (0, .ref (1002))] [] x_SH z_M x_J0 87 2934 := by
  refine xr_aload_n dL_law_995 2 rfl ?_
  refine xr_aload_n dL_law_996 3 rfl ?_
  refine xr_iload_n dL_law_997 0 rfl ?_
  refine xr_iconst (v := 1) dL_law_998 rfl ?_
  refine xr_iadd dL_law_999 ?_
  refine xb_top (y := 1) (by decide) ?_
  refine xr_sld rfl (sx_in hn 1 (by decide)) dL_law_1000 ?_
  refine xb_top (y := G.2.2.2.2.2 1) rfl ?_
  refine xr_aload_n dL_law_1001 3 rfl ?_
  refine xr_iload_n dL_law_1002 0 rfl ?_
  refine xr_iconst (v := 2) dL_law_1003 rfl ?_
  refine xr_iadd dL_law_1004 ?_
  refine xb_top (y := 2) (by decide) ?_
  refine xr_sld rfl (sx_in hn 2 (by decide)) dL_law_1005 ?_
  refine xb_top (y := G.2.2.2.2.2 2) rfl ?_
  refine xr_callV (As := [.int ((G.2.2.2.2.2 1)), .int ((G.2.2.2.2.2 2))]) (rest := []) mlL_122 (p_X9_learn (G.2.2.2.2.2 1) (G.2.2.2.2.2 2)) dL_law_1006 s_0 rfl rfl (Nat.le_of_ble_eq_true rfl) (by decide) ⟨by decide, by decide⟩ (fun v s2 M2 J2 hq => ?_)
  obtain ⟨rfl, rfl, hF⟩ := hq
  try dsimp only [Option.toList, List.cons_append, List.nil_append]
  refine xr_aload_n dL_law_1009 1 rfl ?_
  refine xr_aload_n dL_law_1010 3 rfl ?_
  refine xr_iload_n dL_law_1011 0 rfl ?_
  refine xr_iconst (v := 1) dL_law_1012 rfl ?_
  refine xr_iadd dL_law_1013 ?_
  refine xb_top (y := 1) (by decide) ?_
  refine xr_sld rfl (sx_in hn 1 (by decide)) dL_law_1014 ?_
  refine xb_top (y := G.2.2.2.2.2 1) rfl ?_
  refine xr_aload_n dL_law_1015 3 rfl ?_
  refine xr_iload_n dL_law_1016 0 rfl ?_
  refine xr_iconst (v := 2) dL_law_1017 rfl ?_
  refine xr_iadd dL_law_1018 ?_
  refine xb_top (y := 2) (by decide) ?_
  refine xr_sld rfl (sx_in hn 2 (by decide)) dL_law_1019 ?_
  refine xb_top (y := G.2.2.2.2.2 2) rfl ?_
  refine xr_callV (As := [.int ((G.2.2.2.2.2 1)), .int ((G.2.2.2.2.2 2))]) (rest := [.int _]) mlL_125 (p_X10_learn (G.2.2.2.2.2 1) (G.2.2.2.2.2 2) hF) dL_law_1020 s_62 rfl rfl (Nat.le_of_ble_eq_true rfl) (by decide) ⟨by decide, by decide⟩ (fun v s3 M3 J3 hq => ?_)
  change v = _ at hq
  subst hq
  try dsimp only [Option.toList, List.cons_append, List.nil_append]
  refine xr_icmp_eq (tgt := 1504) dL_law_1023 rfl (fun _ => ?_) (fun c => absurd rfl c)
  exact lwx_end hn
set_option maxRecDepth 100000 in
set_option maxHeartbeats 4000000 in
theorem lwx_27 {l : Launch} {G : xG} (hn : G.2.2.2.2.1 = 6) : x_X l G fL_law 20 600000 7302250 (qR (some (.int 1))) 1028 [(3, .int (0)), (2, .ref (62)), (1, .ref (0)), (0, .ref (1002))] [] x_SH z_M x_J0 87 2934 := by
  refine xr_aload_n dL_law_1028 2 rfl ?_
  refine xr_aload_n dL_law_1029 3 rfl ?_
  refine xr_iload_n dL_law_1030 0 rfl ?_
  refine xr_iconst (v := 1) dL_law_1031 rfl ?_
  refine xr_iadd dL_law_1032 ?_
  refine xb_top (y := 1) (by decide) ?_
  refine xr_sld rfl (sx_in hn 1 (by decide)) dL_law_1033 ?_
  refine xb_top (y := G.2.2.2.2.2 1) rfl ?_
  refine xr_aload_n dL_law_1034 3 rfl ?_
  refine xr_iload_n dL_law_1035 0 rfl ?_
  refine xr_iconst (v := 2) dL_law_1036 rfl ?_
  refine xr_iadd dL_law_1037 ?_
  refine xb_top (y := 2) (by decide) ?_
  refine xr_sld rfl (sx_in hn 2 (by decide)) dL_law_1038 ?_
  refine xb_top (y := G.2.2.2.2.2 2) rfl ?_
  refine xr_callV (As := [.int ((G.2.2.2.2.2 1)), .int ((G.2.2.2.2.2 2))]) (rest := []) mlL_126 (p_X9_till (G.2.2.2.2.2 1) (G.2.2.2.2.2 2)) dL_law_1039 s_0 rfl rfl (Nat.le_of_ble_eq_true rfl) (by decide) ⟨by decide, by decide⟩ (fun v s2 M2 J2 hq => ?_)
  obtain ⟨rfl, rfl, hF⟩ := hq
  try dsimp only [Option.toList, List.cons_append, List.nil_append]
  refine xr_aload_n dL_law_1042 1 rfl ?_
  refine xr_aload_n dL_law_1043 3 rfl ?_
  refine xr_iload_n dL_law_1044 0 rfl ?_
  refine xr_iconst (v := 1) dL_law_1045 rfl ?_
  refine xr_iadd dL_law_1046 ?_
  refine xb_top (y := 1) (by decide) ?_
  refine xr_sld rfl (sx_in hn 1 (by decide)) dL_law_1047 ?_
  refine xb_top (y := G.2.2.2.2.2 1) rfl ?_
  refine xr_aload_n dL_law_1048 3 rfl ?_
  refine xr_iload_n dL_law_1049 0 rfl ?_
  refine xr_iconst (v := 2) dL_law_1050 rfl ?_
  refine xr_iadd dL_law_1051 ?_
  refine xb_top (y := 2) (by decide) ?_
  refine xr_sld rfl (sx_in hn 2 (by decide)) dL_law_1052 ?_
  refine xb_top (y := G.2.2.2.2.2 2) rfl ?_
  refine xr_callV (As := [.int ((G.2.2.2.2.2 1)), .int ((G.2.2.2.2.2 2))]) (rest := [.int _]) mlL_129 (p_X10_till (G.2.2.2.2.2 1) (G.2.2.2.2.2 2) hF) dL_law_1053 s_62 rfl rfl (Nat.le_of_ble_eq_true rfl) (by decide) ⟨by decide, by decide⟩ (fun v s3 M3 J3 hq => ?_)
  change v = _ at hq
  subst hq
  try dsimp only [Option.toList, List.cons_append, List.nil_append]
  refine xr_icmp_eq (tgt := 1504) dL_law_1056 rfl (fun _ => ?_) (fun c => absurd rfl c)
  exact lwx_end hn
set_option maxRecDepth 100000 in
set_option maxHeartbeats 4000000 in
theorem lwx_28 {l : Launch} {G : xG} (hn : G.2.2.2.2.1 = 6) : x_X l G fL_law 20 600000 7302250 (qR (some (.int 1))) 1061 [(3, .int (0)), (2, .ref (62)), (1, .ref (0)), (0, .ref (1002))] [] x_SH z_M x_J0 87 2934 := by
  refine xr_aload_n dL_law_1061 2 rfl ?_
  refine xr_callV (As := []) (rest := []) mlL_130 (p_X9_image ) dL_law_1062 s_0 rfl rfl (Nat.le_of_ble_eq_true rfl) (by decide) ⟨by decide, by decide⟩ (fun v s2 M2 J2 hq => ?_)
  obtain ⟨rfl, rfl, hF⟩ := hq
  try dsimp only [Option.toList, List.cons_append, List.nil_append]
  refine xr_aload_n dL_law_1065 1 rfl ?_
  refine xr_callV (As := []) (rest := [.int _]) mlL_133 (p_X10_image  hF) dL_law_1066 s_62 rfl rfl (Nat.le_of_ble_eq_true rfl) (by decide) ⟨by decide, by decide⟩ (fun v s3 M3 J3 hq => ?_)
  change v = _ at hq
  subst hq
  try dsimp only [Option.toList, List.cons_append, List.nil_append]
  refine xr_icmp_eq (tgt := 1504) dL_law_1069 rfl (fun _ => ?_) (fun c => absurd rfl c)
  exact lwx_end hn
set_option maxRecDepth 100000 in
set_option maxHeartbeats 4000000 in
theorem lwx_29 {l : Launch} {G : xG} (hn : G.2.2.2.2.1 = 6) : x_X l G fL_law 20 600000 7302250 (qR (some (.int 1))) 1074 [(3, .int (0)), (2, .ref (62)), (1, .ref (0)), (0, .ref (1002))] [] x_SH z_M x_J0 87 2934 := by
  refine xr_aload_n dL_law_1074 2 rfl ?_
  refine xr_callV (As := []) (rest := []) mlL_134 (p_X9_back ) dL_law_1075 s_0 rfl rfl (Nat.le_of_ble_eq_true rfl) (by decide) ⟨by decide, by decide⟩ (fun v s2 M2 J2 hq => ?_)
  obtain ⟨rfl, rfl, hF⟩ := hq
  try dsimp only [Option.toList, List.cons_append, List.nil_append]
  refine xr_aload_n dL_law_1078 1 rfl ?_
  refine xr_callV (As := []) (rest := [.int _]) mlL_137 (p_X10_back  hF) dL_law_1079 s_62 rfl rfl (Nat.le_of_ble_eq_true rfl) (by decide) ⟨by decide, by decide⟩ (fun v s3 M3 J3 hq => ?_)
  change v = _ at hq
  subst hq
  try dsimp only [Option.toList, List.cons_append, List.nil_append]
  refine xr_icmp_eq (tgt := 1504) dL_law_1082 rfl (fun _ => ?_) (fun c => absurd rfl c)
  exact lwx_end hn
set_option maxRecDepth 100000 in
set_option maxHeartbeats 4000000 in
theorem lwx_30 {l : Launch} {G : xG} (hn : G.2.2.2.2.1 = 6) : x_X l G fL_law 20 600000 7302250 (qR (some (.int 1))) 1087 [(3, .int (0)), (2, .ref (62)), (1, .ref (0)), (0, .ref (1002))] [] x_SH z_M x_J0 87 2934 := by
  refine xr_aload_n dL_law_1087 2 rfl ?_
  refine xr_callV (As := []) (rest := []) mlL_138 (p_X9_undo ) dL_law_1088 s_0 rfl rfl (Nat.le_of_ble_eq_true rfl) (by decide) ⟨by decide, by decide⟩ (fun v s2 M2 J2 hq => ?_)
  obtain ⟨rfl, rfl, hF⟩ := hq
  try dsimp only [Option.toList, List.cons_append, List.nil_append]
  refine xr_aload_n dL_law_1091 1 rfl ?_
  refine xr_callV (As := []) (rest := [.int _]) mlL_141 (p_X10_undo  hF) dL_law_1092 s_62 rfl rfl (Nat.le_of_ble_eq_true rfl) (by decide) ⟨by decide, by decide⟩ (fun v s3 M3 J3 hq => ?_)
  change v = _ at hq
  subst hq
  try dsimp only [Option.toList, List.cons_append, List.nil_append]
  refine xr_icmp_eq (tgt := 1504) dL_law_1095 rfl (fun _ => ?_) (fun c => absurd rfl c)
  exact lwx_end hn
set_option maxRecDepth 100000 in
set_option maxHeartbeats 4000000 in
theorem lwx_31 {l : Launch} {G : xG} (hn : G.2.2.2.2.1 = 6) : x_X l G fL_law 20 600000 7302250 (qR (some (.int 1))) 1100 [(3, .int (0)), (2, .ref (62)), (1, .ref (0)), (0, .ref (1002))] [] x_SH z_M x_J0 87 2934 := by
  refine xr_aload_n dL_law_1100 2 rfl ?_
  refine xr_callV (As := []) (rest := []) mlL_142 (p_X9_redo ) dL_law_1101 s_0 rfl rfl (Nat.le_of_ble_eq_true rfl) (by decide) ⟨by decide, by decide⟩ (fun v s2 M2 J2 hq => ?_)
  obtain ⟨rfl, rfl, hF⟩ := hq
  try dsimp only [Option.toList, List.cons_append, List.nil_append]
  refine xr_aload_n dL_law_1104 1 rfl ?_
  refine xr_callV (As := []) (rest := [.int _]) mlL_145 (p_X10_redo  hF) dL_law_1105 s_62 rfl rfl (Nat.le_of_ble_eq_true rfl) (by decide) ⟨by decide, by decide⟩ (fun v s3 M3 J3 hq => ?_)
  change v = _ at hq
  subst hq
  try dsimp only [Option.toList, List.cons_append, List.nil_append]
  refine xr_icmp_eq (tgt := 1504) dL_law_1108 rfl (fun _ => ?_) (fun c => absurd rfl c)
  exact lwx_end hn
set_option maxRecDepth 100000 in
set_option maxHeartbeats 4000000 in
theorem lwx_32 {l : Launch} {G : xG} (hn : G.2.2.2.2.1 = 6) : x_X l G fL_law 20 600000 7302250 (qR (some (.int 1))) 1113 [(3, .int (0)), (2, .ref (62)), (1, .ref (0)), (0, .ref (1002))] [] x_SH z_M x_J0 87 2934 := by
  refine xr_aload_n dL_law_1113 2 rfl ?_
  refine xr_aload_n dL_law_1114 3 rfl ?_
  refine xr_iload_n dL_law_1115 0 rfl ?_
  refine xr_iconst (v := 1) dL_law_1116 rfl ?_
  refine xr_iadd dL_law_1117 ?_
  refine xb_top (y := 1) (by decide) ?_
  refine xr_sld rfl (sx_in hn 1 (by decide)) dL_law_1118 ?_
  refine xb_top (y := G.2.2.2.2.2 1) rfl ?_
  refine xr_callV (As := [.int ((G.2.2.2.2.2 1))]) (rest := []) mlL_146 (p_X9_body (G.2.2.2.2.2 1)) dL_law_1119 s_0 rfl rfl (Nat.le_of_ble_eq_true rfl) (by decide) ⟨by decide, by decide⟩ (fun v s2 M2 J2 hq => ?_)
  obtain ⟨rfl, rfl, hF⟩ := hq
  try dsimp only [Option.toList, List.cons_append, List.nil_append]
  refine xr_aload_n dL_law_1122 1 rfl ?_
  refine xr_aload_n dL_law_1123 3 rfl ?_
  refine xr_iload_n dL_law_1124 0 rfl ?_
  refine xr_iconst (v := 1) dL_law_1125 rfl ?_
  refine xr_iadd dL_law_1126 ?_
  refine xb_top (y := 1) (by decide) ?_
  refine xr_sld rfl (sx_in hn 1 (by decide)) dL_law_1127 ?_
  refine xb_top (y := G.2.2.2.2.2 1) rfl ?_
  refine xr_callV (As := [.int ((G.2.2.2.2.2 1))]) (rest := [.int _]) mlL_149 (p_X10_body (G.2.2.2.2.2 1) hF) dL_law_1128 s_62 rfl rfl (Nat.le_of_ble_eq_true rfl) (by decide) ⟨by decide, by decide⟩ (fun v s3 M3 J3 hq => ?_)
  change v = _ at hq
  subst hq
  try dsimp only [Option.toList, List.cons_append, List.nil_append]
  refine xr_icmp_eq (tgt := 1504) dL_law_1131 rfl (fun _ => ?_) (fun c => absurd rfl c)
  exact lwx_end hn
set_option maxRecDepth 100000 in
set_option maxHeartbeats 4000000 in
theorem lwx_33 {l : Launch} {G : xG} (hn : G.2.2.2.2.1 = 6) : x_X l G fL_law 20 600000 7302250 (qR (some (.int 1))) 1136 [(3, .int (0)), (2, .ref (62)), (1, .ref (0)), (0, .ref (1002))] [] x_SH z_M x_J0 87 2934 := by
  refine xr_aload_n dL_law_1136 2 rfl ?_
  refine xr_aload_n dL_law_1137 3 rfl ?_
  refine xr_iload_n dL_law_1138 0 rfl ?_
  refine xr_iconst (v := 1) dL_law_1139 rfl ?_
  refine xr_iadd dL_law_1140 ?_
  refine xb_top (y := 1) (by decide) ?_
  refine xr_sld rfl (sx_in hn 1 (by decide)) dL_law_1141 ?_
  refine xb_top (y := G.2.2.2.2.2 1) rfl ?_
  refine xr_aload_n dL_law_1142 3 rfl ?_
  refine xr_iload_n dL_law_1143 0 rfl ?_
  refine xr_iconst (v := 2) dL_law_1144 rfl ?_
  refine xr_iadd dL_law_1145 ?_
  refine xb_top (y := 2) (by decide) ?_
  refine xr_sld rfl (sx_in hn 2 (by decide)) dL_law_1146 ?_
  refine xb_top (y := G.2.2.2.2.2 2) rfl ?_
  refine xr_aload_n dL_law_1147 3 rfl ?_
  refine xr_iload_n dL_law_1148 0 rfl ?_
  refine xr_iconst (v := 3) dL_law_1149 rfl ?_
  refine xr_iadd dL_law_1150 ?_
  refine xb_top (y := 3) (by decide) ?_
  refine xr_sld rfl (sx_in hn 3 (by decide)) dL_law_1151 ?_
  refine xb_top (y := G.2.2.2.2.2 3) rfl ?_
  refine xr_callV (As := [.int ((G.2.2.2.2.2 1)), .int ((G.2.2.2.2.2 2)), .int ((G.2.2.2.2.2 3))]) (rest := []) mlL_150 (p_X9_act (G.2.2.2.2.2 1) (G.2.2.2.2.2 2) (G.2.2.2.2.2 3)) dL_law_1152 s_0 rfl rfl (Nat.le_of_ble_eq_true rfl) (by decide) ⟨by decide, by decide⟩ (fun v s2 M2 J2 hq => ?_)
  obtain ⟨rfl, rfl, hF⟩ := hq
  try dsimp only [Option.toList, List.cons_append, List.nil_append]
  refine xr_aload_n dL_law_1155 1 rfl ?_
  refine xr_aload_n dL_law_1156 3 rfl ?_
  refine xr_iload_n dL_law_1157 0 rfl ?_
  refine xr_iconst (v := 1) dL_law_1158 rfl ?_
  refine xr_iadd dL_law_1159 ?_
  refine xb_top (y := 1) (by decide) ?_
  refine xr_sld rfl (sx_in hn 1 (by decide)) dL_law_1160 ?_
  refine xb_top (y := G.2.2.2.2.2 1) rfl ?_
  refine xr_aload_n dL_law_1161 3 rfl ?_
  refine xr_iload_n dL_law_1162 0 rfl ?_
  refine xr_iconst (v := 2) dL_law_1163 rfl ?_
  refine xr_iadd dL_law_1164 ?_
  refine xb_top (y := 2) (by decide) ?_
  refine xr_sld rfl (sx_in hn 2 (by decide)) dL_law_1165 ?_
  refine xb_top (y := G.2.2.2.2.2 2) rfl ?_
  refine xr_aload_n dL_law_1166 3 rfl ?_
  refine xr_iload_n dL_law_1167 0 rfl ?_
  refine xr_iconst (v := 3) dL_law_1168 rfl ?_
  refine xr_iadd dL_law_1169 ?_
  refine xb_top (y := 3) (by decide) ?_
  refine xr_sld rfl (sx_in hn 3 (by decide)) dL_law_1170 ?_
  refine xb_top (y := G.2.2.2.2.2 3) rfl ?_
  refine xr_callV (As := [.int ((G.2.2.2.2.2 1)), .int ((G.2.2.2.2.2 2)), .int ((G.2.2.2.2.2 3))]) (rest := [.int _]) mlL_153 (p_X10_act (G.2.2.2.2.2 1) (G.2.2.2.2.2 2) (G.2.2.2.2.2 3) hF) dL_law_1171 s_62 rfl rfl (Nat.le_of_ble_eq_true rfl) (by decide) ⟨by decide, by decide⟩ (fun v s3 M3 J3 hq => ?_)
  change v = _ at hq
  subst hq
  try dsimp only [Option.toList, List.cons_append, List.nil_append]
  refine xr_icmp_eq (tgt := 1504) dL_law_1174 rfl (fun _ => ?_) (fun c => absurd rfl c)
  exact lwx_end hn
set_option maxRecDepth 100000 in
set_option maxHeartbeats 4000000 in
theorem lwx_34 {l : Launch} {G : xG} (hn : G.2.2.2.2.1 = 6) : x_X l G fL_law 20 600000 7302250 (qR (some (.int 1))) 1179 [(3, .int (0)), (2, .ref (62)), (1, .ref (0)), (0, .ref (1002))] [] x_SH z_M x_J0 87 2934 := by
  refine xr_aload_n dL_law_1179 2 rfl ?_
  refine xr_aload_n dL_law_1180 3 rfl ?_
  refine xr_iload_n dL_law_1181 0 rfl ?_
  refine xr_iconst (v := 1) dL_law_1182 rfl ?_
  refine xr_iadd dL_law_1183 ?_
  refine xb_top (y := 1) (by decide) ?_
  refine xr_sld rfl (sx_in hn 1 (by decide)) dL_law_1184 ?_
  refine xb_top (y := G.2.2.2.2.2 1) rfl ?_
  refine xr_callV (As := [.int ((G.2.2.2.2.2 1))]) (rest := []) mlL_154 (p_X9_trace (G.2.2.2.2.2 1)) dL_law_1185 s_0 rfl rfl (Nat.le_of_ble_eq_true rfl) (by decide) ⟨by decide, by decide⟩ (fun v s2 M2 J2 hq => ?_)
  obtain ⟨rfl, rfl, hF⟩ := hq
  try dsimp only [Option.toList, List.cons_append, List.nil_append]
  refine xr_aload_n dL_law_1188 1 rfl ?_
  refine xr_aload_n dL_law_1189 3 rfl ?_
  refine xr_iload_n dL_law_1190 0 rfl ?_
  refine xr_iconst (v := 1) dL_law_1191 rfl ?_
  refine xr_iadd dL_law_1192 ?_
  refine xb_top (y := 1) (by decide) ?_
  refine xr_sld rfl (sx_in hn 1 (by decide)) dL_law_1193 ?_
  refine xb_top (y := G.2.2.2.2.2 1) rfl ?_
  refine xr_callV (As := [.int ((G.2.2.2.2.2 1))]) (rest := [.int _]) mlL_157 (p_X10_trace (G.2.2.2.2.2 1) hF) dL_law_1194 s_62 rfl rfl (Nat.le_of_ble_eq_true rfl) (by decide) ⟨by decide, by decide⟩ (fun v s3 M3 J3 hq => ?_)
  change v = _ at hq
  subst hq
  try dsimp only [Option.toList, List.cons_append, List.nil_append]
  refine xr_icmp_eq (tgt := 1504) dL_law_1197 rfl (fun _ => ?_) (fun c => absurd rfl c)
  exact lwx_end hn
set_option maxRecDepth 100000 in
set_option maxHeartbeats 4000000 in
theorem lwx_35 {l : Launch} {G : xG} (hn : G.2.2.2.2.1 = 6) : x_X l G fL_law 20 600000 7302250 (qR (some (.int 1))) 1202 [(3, .int (0)), (2, .ref (62)), (1, .ref (0)), (0, .ref (1002))] [] x_SH z_M x_J0 87 2934 := by
  refine xr_aload_n dL_law_1202 2 rfl ?_
  refine xr_aload_n dL_law_1203 3 rfl ?_
  refine xr_iload_n dL_law_1204 0 rfl ?_
  refine xr_iconst (v := 1) dL_law_1205 rfl ?_
  refine xr_iadd dL_law_1206 ?_
  refine xb_top (y := 1) (by decide) ?_
  refine xr_sld rfl (sx_in hn 1 (by decide)) dL_law_1207 ?_
  refine xb_top (y := G.2.2.2.2.2 1) rfl ?_
  refine xr_aload_n dL_law_1208 3 rfl ?_
  refine xr_iload_n dL_law_1209 0 rfl ?_
  refine xr_iconst (v := 2) dL_law_1210 rfl ?_
  refine xr_iadd dL_law_1211 ?_
  refine xb_top (y := 2) (by decide) ?_
  refine xr_sld rfl (sx_in hn 2 (by decide)) dL_law_1212 ?_
  refine xb_top (y := G.2.2.2.2.2 2) rfl ?_
  refine xr_callV (As := [.int ((G.2.2.2.2.2 1)), .int ((G.2.2.2.2.2 2))]) (rest := []) mlL_158 (p_X9_keep (G.2.2.2.2.2 1) (G.2.2.2.2.2 2)) dL_law_1213 s_0 rfl rfl (Nat.le_of_ble_eq_true rfl) (by decide) ⟨by decide, by decide⟩ (fun v s2 M2 J2 hq => ?_)
  obtain ⟨rfl, rfl, hF⟩ := hq
  try dsimp only [Option.toList, List.cons_append, List.nil_append]
  refine xr_aload_n dL_law_1216 1 rfl ?_
  refine xr_aload_n dL_law_1217 3 rfl ?_
  refine xr_iload_n dL_law_1218 0 rfl ?_
  refine xr_iconst (v := 1) dL_law_1219 rfl ?_
  refine xr_iadd dL_law_1220 ?_
  refine xb_top (y := 1) (by decide) ?_
  refine xr_sld rfl (sx_in hn 1 (by decide)) dL_law_1221 ?_
  refine xb_top (y := G.2.2.2.2.2 1) rfl ?_
  refine xr_aload_n dL_law_1222 3 rfl ?_
  refine xr_iload_n dL_law_1223 0 rfl ?_
  refine xr_iconst (v := 2) dL_law_1224 rfl ?_
  refine xr_iadd dL_law_1225 ?_
  refine xb_top (y := 2) (by decide) ?_
  refine xr_sld rfl (sx_in hn 2 (by decide)) dL_law_1226 ?_
  refine xb_top (y := G.2.2.2.2.2 2) rfl ?_
  refine xr_callV (As := [.int ((G.2.2.2.2.2 1)), .int ((G.2.2.2.2.2 2))]) (rest := [.int _]) mlL_161 (p_X10_keep (G.2.2.2.2.2 1) (G.2.2.2.2.2 2) hF) dL_law_1227 s_62 rfl rfl (Nat.le_of_ble_eq_true rfl) (by decide) ⟨by decide, by decide⟩ (fun v s3 M3 J3 hq => ?_)
  change v = _ at hq
  subst hq
  try dsimp only [Option.toList, List.cons_append, List.nil_append]
  refine xr_icmp_eq (tgt := 1504) dL_law_1230 rfl (fun _ => ?_) (fun c => absurd rfl c)
  exact lwx_end hn
set_option maxRecDepth 100000 in
set_option maxHeartbeats 4000000 in
theorem lwx_36 {l : Launch} {G : xG} (hn : G.2.2.2.2.1 = 6) : x_X l G fL_law 20 600000 7302250 (qR (some (.int 1))) 1235 [(3, .int (0)), (2, .ref (62)), (1, .ref (0)), (0, .ref (1002))] [] x_SH z_M x_J0 87 2934 := by
  refine xr_aload_n dL_law_1235 2 rfl ?_
  refine xr_aload_n dL_law_1236 3 rfl ?_
  refine xr_iload_n dL_law_1237 0 rfl ?_
  refine xr_iconst (v := 1) dL_law_1238 rfl ?_
  refine xr_iadd dL_law_1239 ?_
  refine xb_top (y := 1) (by decide) ?_
  refine xr_sld rfl (sx_in hn 1 (by decide)) dL_law_1240 ?_
  refine xb_top (y := G.2.2.2.2.2 1) rfl ?_
  refine xr_aload_n dL_law_1241 3 rfl ?_
  refine xr_iload_n dL_law_1242 0 rfl ?_
  refine xr_iconst (v := 2) dL_law_1243 rfl ?_
  refine xr_iadd dL_law_1244 ?_
  refine xb_top (y := 2) (by decide) ?_
  refine xr_sld rfl (sx_in hn 2 (by decide)) dL_law_1245 ?_
  refine xb_top (y := G.2.2.2.2.2 2) rfl ?_
  refine xr_aload_n dL_law_1246 3 rfl ?_
  refine xr_iload_n dL_law_1247 0 rfl ?_
  refine xr_iconst (v := 3) dL_law_1248 rfl ?_
  refine xr_iadd dL_law_1249 ?_
  refine xb_top (y := 3) (by decide) ?_
  refine xr_sld rfl (sx_in hn 3 (by decide)) dL_law_1250 ?_
  refine xb_top (y := G.2.2.2.2.2 3) rfl ?_
  refine xr_callV (As := [.int ((G.2.2.2.2.2 1)), .int ((G.2.2.2.2.2 2)), .int ((G.2.2.2.2.2 3))]) (rest := []) mlL_162 (p_X9_row (G.2.2.2.2.2 1) (G.2.2.2.2.2 2) (G.2.2.2.2.2 3)) dL_law_1251 s_0 rfl rfl (Nat.le_of_ble_eq_true rfl) (by decide) ⟨by decide, by decide⟩ (fun v s2 M2 J2 hq => ?_)
  obtain ⟨rfl, rfl, hF⟩ := hq
  try dsimp only [Option.toList, List.cons_append, List.nil_append]
  refine xr_aload_n dL_law_1254 1 rfl ?_
  refine xr_aload_n dL_law_1255 3 rfl ?_
  refine xr_iload_n dL_law_1256 0 rfl ?_
  refine xr_iconst (v := 1) dL_law_1257 rfl ?_
  refine xr_iadd dL_law_1258 ?_
  refine xb_top (y := 1) (by decide) ?_
  refine xr_sld rfl (sx_in hn 1 (by decide)) dL_law_1259 ?_
  refine xb_top (y := G.2.2.2.2.2 1) rfl ?_
  refine xr_aload_n dL_law_1260 3 rfl ?_
  refine xr_iload_n dL_law_1261 0 rfl ?_
  refine xr_iconst (v := 2) dL_law_1262 rfl ?_
  refine xr_iadd dL_law_1263 ?_
  refine xb_top (y := 2) (by decide) ?_
  refine xr_sld rfl (sx_in hn 2 (by decide)) dL_law_1264 ?_
  refine xb_top (y := G.2.2.2.2.2 2) rfl ?_
  refine xr_aload_n dL_law_1265 3 rfl ?_
  refine xr_iload_n dL_law_1266 0 rfl ?_
  refine xr_iconst (v := 3) dL_law_1267 rfl ?_
  refine xr_iadd dL_law_1268 ?_
  refine xb_top (y := 3) (by decide) ?_
  refine xr_sld rfl (sx_in hn 3 (by decide)) dL_law_1269 ?_
  refine xb_top (y := G.2.2.2.2.2 3) rfl ?_
  refine xr_callV (As := [.int ((G.2.2.2.2.2 1)), .int ((G.2.2.2.2.2 2)), .int ((G.2.2.2.2.2 3))]) (rest := [.int _]) mlL_165 (p_X10_row (G.2.2.2.2.2 1) (G.2.2.2.2.2 2) (G.2.2.2.2.2 3) hF) dL_law_1270 s_62 rfl rfl (Nat.le_of_ble_eq_true rfl) (by decide) ⟨by decide, by decide⟩ (fun v s3 M3 J3 hq => ?_)
  change v = _ at hq
  subst hq
  try dsimp only [Option.toList, List.cons_append, List.nil_append]
  refine xr_icmp_eq (tgt := 1504) dL_law_1273 rfl (fun _ => ?_) (fun c => absurd rfl c)
  exact lwx_end hn
set_option maxRecDepth 100000 in
set_option maxHeartbeats 4000000 in
theorem lwx_37 {l : Launch} {G : xG} (hn : G.2.2.2.2.1 = 6) : x_X l G fL_law 20 600000 7302250 (qR (some (.int 1))) 1278 [(3, .int (0)), (2, .ref (62)), (1, .ref (0)), (0, .ref (1002))] [] x_SH z_M x_J0 87 2934 := by
  refine xr_aload_n dL_law_1278 2 rfl ?_
  refine xr_aload_n dL_law_1279 3 rfl ?_
  refine xr_iload_n dL_law_1280 0 rfl ?_
  refine xr_iconst (v := 1) dL_law_1281 rfl ?_
  refine xr_iadd dL_law_1282 ?_
  refine xb_top (y := 1) (by decide) ?_
  refine xr_sld rfl (sx_in hn 1 (by decide)) dL_law_1283 ?_
  refine xb_top (y := G.2.2.2.2.2 1) rfl ?_
  refine xr_aload_n dL_law_1284 3 rfl ?_
  refine xr_iload_n dL_law_1285 0 rfl ?_
  refine xr_iconst (v := 2) dL_law_1286 rfl ?_
  refine xr_iadd dL_law_1287 ?_
  refine xb_top (y := 2) (by decide) ?_
  refine xr_sld rfl (sx_in hn 2 (by decide)) dL_law_1288 ?_
  refine xb_top (y := G.2.2.2.2.2 2) rfl ?_
  refine xr_aload_n dL_law_1289 3 rfl ?_
  refine xr_iload_n dL_law_1290 0 rfl ?_
  refine xr_iconst (v := 3) dL_law_1291 rfl ?_
  refine xr_iadd dL_law_1292 ?_
  refine xb_top (y := 3) (by decide) ?_
  refine xr_sld rfl (sx_in hn 3 (by decide)) dL_law_1293 ?_
  refine xb_top (y := G.2.2.2.2.2 3) rfl ?_
  refine xr_i2l dL_law_1294 ?_
  refine xr_bipush (v := 32) dL_law_1295 rfl ?_
  refine xr_lshl dL_law_1297 ?_
  refine xr_aload_n dL_law_1298 3 rfl ?_
  refine xr_iload_n dL_law_1299 0 rfl ?_
  refine xr_iconst (v := 4) dL_law_1300 rfl ?_
  refine xr_iadd dL_law_1301 ?_
  refine xb_top (y := 4) (by decide) ?_
  refine xr_sld rfl (sx_in hn 4 (by decide)) dL_law_1302 ?_
  refine xb_top (y := G.2.2.2.2.2 4) rfl ?_
  refine xr_i2l dL_law_1303 ?_
  refine xr_ldc2 coL_166 dL_law_1304 ?_
  refine xr_land dL_law_1307 ?_
  refine xr_lor dL_law_1308 ?_
  refine xr_callV (As := [.int ((G.2.2.2.2.2 1)), .int ((G.2.2.2.2.2 2)), .long ((((((G.2.2.2.2.2 3)).toInt64) <<< ((32 : Int32).toInt64 &&& 63)) ||| ((((G.2.2.2.2.2 4)).toInt64) &&& 4294967295)))]) (rest := []) mlL_168 (p_X9_put (G.2.2.2.2.2 1) (G.2.2.2.2.2 2) (((((G.2.2.2.2.2 3)).toInt64) <<< ((32 : Int32).toInt64 &&& 63)) ||| ((((G.2.2.2.2.2 4)).toInt64) &&& 4294967295))) dL_law_1309 s_0 rfl rfl (Nat.le_of_ble_eq_true rfl) (by decide) ⟨by decide, by decide⟩ (fun v s2 M2 J2 hq => ?_)
  obtain ⟨rfl, rfl, hF⟩ := hq
  try dsimp only [Option.toList, List.cons_append, List.nil_append]
  refine xr_aload_n dL_law_1312 1 rfl ?_
  refine xr_aload_n dL_law_1313 3 rfl ?_
  refine xr_iload_n dL_law_1314 0 rfl ?_
  refine xr_iconst (v := 1) dL_law_1315 rfl ?_
  refine xr_iadd dL_law_1316 ?_
  refine xb_top (y := 1) (by decide) ?_
  refine xr_sld rfl (sx_in hn 1 (by decide)) dL_law_1317 ?_
  refine xb_top (y := G.2.2.2.2.2 1) rfl ?_
  refine xr_aload_n dL_law_1318 3 rfl ?_
  refine xr_iload_n dL_law_1319 0 rfl ?_
  refine xr_iconst (v := 2) dL_law_1320 rfl ?_
  refine xr_iadd dL_law_1321 ?_
  refine xb_top (y := 2) (by decide) ?_
  refine xr_sld rfl (sx_in hn 2 (by decide)) dL_law_1322 ?_
  refine xb_top (y := G.2.2.2.2.2 2) rfl ?_
  refine xr_aload_n dL_law_1323 3 rfl ?_
  refine xr_iload_n dL_law_1324 0 rfl ?_
  refine xr_iconst (v := 3) dL_law_1325 rfl ?_
  refine xr_iadd dL_law_1326 ?_
  refine xb_top (y := 3) (by decide) ?_
  refine xr_sld rfl (sx_in hn 3 (by decide)) dL_law_1327 ?_
  refine xb_top (y := G.2.2.2.2.2 3) rfl ?_
  refine xr_i2l dL_law_1328 ?_
  refine xr_bipush (v := 32) dL_law_1329 rfl ?_
  refine xr_lshl dL_law_1331 ?_
  refine xr_aload_n dL_law_1332 3 rfl ?_
  refine xr_iload_n dL_law_1333 0 rfl ?_
  refine xr_iconst (v := 4) dL_law_1334 rfl ?_
  refine xr_iadd dL_law_1335 ?_
  refine xb_top (y := 4) (by decide) ?_
  refine xr_sld rfl (sx_in hn 4 (by decide)) dL_law_1336 ?_
  refine xb_top (y := G.2.2.2.2.2 4) rfl ?_
  refine xr_i2l dL_law_1337 ?_
  refine xr_ldc2 coL_166 dL_law_1338 ?_
  refine xr_land dL_law_1341 ?_
  refine xr_lor dL_law_1342 ?_
  refine xr_callV (As := [.int ((G.2.2.2.2.2 1)), .int ((G.2.2.2.2.2 2)), .long ((((((G.2.2.2.2.2 3)).toInt64) <<< ((32 : Int32).toInt64 &&& 63)) ||| ((((G.2.2.2.2.2 4)).toInt64) &&& 4294967295)))]) (rest := [.int _]) mlL_172 (p_X10_put (G.2.2.2.2.2 1) (G.2.2.2.2.2 2) (((((G.2.2.2.2.2 3)).toInt64) <<< ((32 : Int32).toInt64 &&& 63)) ||| ((((G.2.2.2.2.2 4)).toInt64) &&& 4294967295)) hF) dL_law_1343 s_62 rfl rfl (Nat.le_of_ble_eq_true rfl) (by decide) ⟨by decide, by decide⟩ (fun v s3 M3 J3 hq => ?_)
  change v = _ at hq
  subst hq
  try dsimp only [Option.toList, List.cons_append, List.nil_append]
  refine xr_icmp_eq (tgt := 1504) dL_law_1346 rfl (fun _ => ?_) (fun c => absurd rfl c)
  exact lwx_end hn
set_option maxRecDepth 100000 in
set_option maxHeartbeats 4000000 in
theorem lwx_38 {l : Launch} {G : xG} (hn : G.2.2.2.2.1 = 6) : x_X l G fL_law 20 600000 7302250 (qR (some (.int 1))) 1351 [(3, .int (0)), (2, .ref (62)), (1, .ref (0)), (0, .ref (1002))] [] x_SH z_M x_J0 87 2934 := by
  refine xr_aload_n dL_law_1351 2 rfl ?_
  refine xr_aload_n dL_law_1352 3 rfl ?_
  refine xr_iload_n dL_law_1353 0 rfl ?_
  refine xr_iconst (v := 1) dL_law_1354 rfl ?_
  refine xr_iadd dL_law_1355 ?_
  refine xb_top (y := 1) (by decide) ?_
  refine xr_sld rfl (sx_in hn 1 (by decide)) dL_law_1356 ?_
  refine xb_top (y := G.2.2.2.2.2 1) rfl ?_
  refine xr_aload_n dL_law_1357 3 rfl ?_
  refine xr_iload_n dL_law_1358 0 rfl ?_
  refine xr_iconst (v := 2) dL_law_1359 rfl ?_
  refine xr_iadd dL_law_1360 ?_
  refine xb_top (y := 2) (by decide) ?_
  refine xr_sld rfl (sx_in hn 2 (by decide)) dL_law_1361 ?_
  refine xb_top (y := G.2.2.2.2.2 2) rfl ?_
  refine xr_callV (As := [.int ((G.2.2.2.2.2 1)), .int ((G.2.2.2.2.2 2))]) (rest := []) mlL_173 (p_X9_element (G.2.2.2.2.2 1) (G.2.2.2.2.2 2)) dL_law_1362 s_0 rfl rfl (Nat.le_of_ble_eq_true rfl) (by decide) ⟨by decide, by decide⟩ (fun v s2 M2 J2 hq => ?_)
  obtain ⟨rfl, rfl, hF⟩ := hq
  try dsimp only [Option.toList, List.cons_append, List.nil_append]
  refine xr_aload_n dL_law_1365 1 rfl ?_
  refine xr_aload_n dL_law_1366 3 rfl ?_
  refine xr_iload_n dL_law_1367 0 rfl ?_
  refine xr_iconst (v := 1) dL_law_1368 rfl ?_
  refine xr_iadd dL_law_1369 ?_
  refine xb_top (y := 1) (by decide) ?_
  refine xr_sld rfl (sx_in hn 1 (by decide)) dL_law_1370 ?_
  refine xb_top (y := G.2.2.2.2.2 1) rfl ?_
  refine xr_aload_n dL_law_1371 3 rfl ?_
  refine xr_iload_n dL_law_1372 0 rfl ?_
  refine xr_iconst (v := 2) dL_law_1373 rfl ?_
  refine xr_iadd dL_law_1374 ?_
  refine xb_top (y := 2) (by decide) ?_
  refine xr_sld rfl (sx_in hn 2 (by decide)) dL_law_1375 ?_
  refine xb_top (y := G.2.2.2.2.2 2) rfl ?_
  refine xr_callV (As := [.int ((G.2.2.2.2.2 1)), .int ((G.2.2.2.2.2 2))]) (rest := [.long _]) mlL_177 (p_X10_element (G.2.2.2.2.2 1) (G.2.2.2.2.2 2) hF) dL_law_1376 s_62 rfl rfl (Nat.le_of_ble_eq_true rfl) (by decide) ⟨by decide, by decide⟩ (fun v s3 M3 J3 hq => ?_)
  change v = _ at hq
  subst hq
  try dsimp only [Option.toList, List.cons_append, List.nil_append]
  refine xr_lcmp dL_law_1379 ?_
  refine xl_eq (tgt := 1504) dL_law_1380 rfl (fun _ => ?_) (fun c => absurd rfl c)
  exact lwx_end hn
set_option maxRecDepth 100000 in
set_option maxHeartbeats 4000000 in
theorem lwx_39 {l : Launch} {G : xG} (hn : G.2.2.2.2.1 = 6) : x_X l G fL_law 20 600000 7302250 (qR (some (.int 1))) 1385 [(3, .int (0)), (2, .ref (62)), (1, .ref (0)), (0, .ref (1002))] [] x_SH z_M x_J0 87 2934 := by
  refine xr_aload_n dL_law_1385 2 rfl ?_
  refine xr_aload_n dL_law_1386 3 rfl ?_
  refine xr_iload_n dL_law_1387 0 rfl ?_
  refine xr_iconst (v := 1) dL_law_1388 rfl ?_
  refine xr_iadd dL_law_1389 ?_
  refine xb_top (y := 1) (by decide) ?_
  refine xr_sld rfl (sx_in hn 1 (by decide)) dL_law_1390 ?_
  refine xb_top (y := G.2.2.2.2.2 1) rfl ?_
  refine xr_aload_n dL_law_1391 3 rfl ?_
  refine xr_iload_n dL_law_1392 0 rfl ?_
  refine xr_iconst (v := 2) dL_law_1393 rfl ?_
  refine xr_iadd dL_law_1394 ?_
  refine xb_top (y := 2) (by decide) ?_
  refine xr_sld rfl (sx_in hn 2 (by decide)) dL_law_1395 ?_
  refine xb_top (y := G.2.2.2.2.2 2) rfl ?_
  refine xr_aload_n dL_law_1396 3 rfl ?_
  refine xr_iload_n dL_law_1397 0 rfl ?_
  refine xr_iconst (v := 3) dL_law_1398 rfl ?_
  refine xr_iadd dL_law_1399 ?_
  refine xb_top (y := 3) (by decide) ?_
  refine xr_sld rfl (sx_in hn 3 (by decide)) dL_law_1400 ?_
  refine xb_top (y := G.2.2.2.2.2 3) rfl ?_
  refine xr_aload_n dL_law_1401 3 rfl ?_
  refine xr_iload_n dL_law_1402 0 rfl ?_
  refine xr_iconst (v := 4) dL_law_1403 rfl ?_
  refine xr_iadd dL_law_1404 ?_
  refine xb_top (y := 4) (by decide) ?_
  refine xr_sld rfl (sx_in hn 4 (by decide)) dL_law_1405 ?_
  refine xb_top (y := G.2.2.2.2.2 4) rfl ?_
  refine xr_aload_n dL_law_1406 3 rfl ?_
  refine xr_iload_n dL_law_1407 0 rfl ?_
  refine xr_iconst (v := 5) dL_law_1408 rfl ?_
  refine xr_iadd dL_law_1409 ?_
  refine xb_top (y := 5) (by decide) ?_
  refine xr_sld rfl (sx_in hn 5 (by decide)) dL_law_1410 ?_
  refine xb_top (y := G.2.2.2.2.2 5) rfl ?_
  refine xr_callV (As := [.int ((G.2.2.2.2.2 1)), .int ((G.2.2.2.2.2 2)), .int ((G.2.2.2.2.2 3)), .int ((G.2.2.2.2.2 4)), .int ((G.2.2.2.2.2 5))]) (rest := []) mlL_178 (p_X9_shift (G.2.2.2.2.2 1) (G.2.2.2.2.2 2) (G.2.2.2.2.2 3) (G.2.2.2.2.2 4) (G.2.2.2.2.2 5)) dL_law_1411 s_0 rfl rfl (Nat.le_of_ble_eq_true rfl) (by decide) ⟨by decide, by decide⟩ (fun v s2 M2 J2 hq => ?_)
  obtain ⟨rfl, rfl, hF⟩ := hq
  try dsimp only [Option.toList, List.cons_append, List.nil_append]
  refine xr_aload_n dL_law_1414 1 rfl ?_
  refine xr_aload_n dL_law_1415 3 rfl ?_
  refine xr_iload_n dL_law_1416 0 rfl ?_
  refine xr_iconst (v := 1) dL_law_1417 rfl ?_
  refine xr_iadd dL_law_1418 ?_
  refine xb_top (y := 1) (by decide) ?_
  refine xr_sld rfl (sx_in hn 1 (by decide)) dL_law_1419 ?_
  refine xb_top (y := G.2.2.2.2.2 1) rfl ?_
  refine xr_aload_n dL_law_1420 3 rfl ?_
  refine xr_iload_n dL_law_1421 0 rfl ?_
  refine xr_iconst (v := 2) dL_law_1422 rfl ?_
  refine xr_iadd dL_law_1423 ?_
  refine xb_top (y := 2) (by decide) ?_
  refine xr_sld rfl (sx_in hn 2 (by decide)) dL_law_1424 ?_
  refine xb_top (y := G.2.2.2.2.2 2) rfl ?_
  refine xr_aload_n dL_law_1425 3 rfl ?_
  refine xr_iload_n dL_law_1426 0 rfl ?_
  refine xr_iconst (v := 3) dL_law_1427 rfl ?_
  refine xr_iadd dL_law_1428 ?_
  refine xb_top (y := 3) (by decide) ?_
  refine xr_sld rfl (sx_in hn 3 (by decide)) dL_law_1429 ?_
  refine xb_top (y := G.2.2.2.2.2 3) rfl ?_
  refine xr_aload_n dL_law_1430 3 rfl ?_
  refine xr_iload_n dL_law_1431 0 rfl ?_
  refine xr_iconst (v := 4) dL_law_1432 rfl ?_
  refine xr_iadd dL_law_1433 ?_
  refine xb_top (y := 4) (by decide) ?_
  refine xr_sld rfl (sx_in hn 4 (by decide)) dL_law_1434 ?_
  refine xb_top (y := G.2.2.2.2.2 4) rfl ?_
  refine xr_aload_n dL_law_1435 3 rfl ?_
  refine xr_iload_n dL_law_1436 0 rfl ?_
  refine xr_iconst (v := 5) dL_law_1437 rfl ?_
  refine xr_iadd dL_law_1438 ?_
  refine xb_top (y := 5) (by decide) ?_
  refine xr_sld rfl (sx_in hn 5 (by decide)) dL_law_1439 ?_
  refine xb_top (y := G.2.2.2.2.2 5) rfl ?_
  refine xr_callV (As := [.int ((G.2.2.2.2.2 1)), .int ((G.2.2.2.2.2 2)), .int ((G.2.2.2.2.2 3)), .int ((G.2.2.2.2.2 4)), .int ((G.2.2.2.2.2 5))]) (rest := [.int _]) mlL_182 (p_X10_shift (G.2.2.2.2.2 1) (G.2.2.2.2.2 2) (G.2.2.2.2.2 3) (G.2.2.2.2.2 4) (G.2.2.2.2.2 5) hF) dL_law_1440 s_62 rfl rfl (Nat.le_of_ble_eq_true rfl) (by decide) ⟨by decide, by decide⟩ (fun v s3 M3 J3 hq => ?_)
  change v = _ at hq
  subst hq
  try dsimp only [Option.toList, List.cons_append, List.nil_append]
  refine xr_icmp_eq (tgt := 1504) dL_law_1443 rfl (fun _ => ?_) (fun c => absurd rfl c)
  exact lwx_end hn
set_option maxRecDepth 100000 in
set_option maxHeartbeats 4000000 in
theorem lwx_40 {l : Launch} {G : xG} (hn : G.2.2.2.2.1 = 6) : x_X l G fL_law 20 600000 7302250 (qR (some (.int 1))) 1448 [(3, .int (0)), (2, .ref (62)), (1, .ref (0)), (0, .ref (1002))] [] x_SH z_M x_J0 87 2934 := by
  refine xr_aload_n dL_law_1448 2 rfl ?_
  refine xr_aload_n dL_law_1449 3 rfl ?_
  refine xr_iload_n dL_law_1450 0 rfl ?_
  refine xr_iconst (v := 1) dL_law_1451 rfl ?_
  refine xr_iadd dL_law_1452 ?_
  refine xb_top (y := 1) (by decide) ?_
  refine xr_sld rfl (sx_in hn 1 (by decide)) dL_law_1453 ?_
  refine xb_top (y := G.2.2.2.2.2 1) rfl ?_
  refine xr_aload_n dL_law_1454 3 rfl ?_
  refine xr_iload_n dL_law_1455 0 rfl ?_
  refine xr_iconst (v := 2) dL_law_1456 rfl ?_
  refine xr_iadd dL_law_1457 ?_
  refine xb_top (y := 2) (by decide) ?_
  refine xr_sld rfl (sx_in hn 2 (by decide)) dL_law_1458 ?_
  refine xb_top (y := G.2.2.2.2.2 2) rfl ?_
  refine xr_callV (As := [.int ((G.2.2.2.2.2 1)), .int ((G.2.2.2.2.2 2))]) (rest := []) mlL_183 (p_X9_taken (G.2.2.2.2.2 1) (G.2.2.2.2.2 2)) dL_law_1459 s_0 rfl rfl (Nat.le_of_ble_eq_true rfl) (by decide) ⟨by decide, by decide⟩ (fun v s2 M2 J2 hq => ?_)
  obtain ⟨rfl, rfl, hF⟩ := hq
  try dsimp only [Option.toList, List.cons_append, List.nil_append]
  refine xr_aload_n dL_law_1462 1 rfl ?_
  refine xr_aload_n dL_law_1463 3 rfl ?_
  refine xr_iload_n dL_law_1464 0 rfl ?_
  refine xr_iconst (v := 1) dL_law_1465 rfl ?_
  refine xr_iadd dL_law_1466 ?_
  refine xb_top (y := 1) (by decide) ?_
  refine xr_sld rfl (sx_in hn 1 (by decide)) dL_law_1467 ?_
  refine xb_top (y := G.2.2.2.2.2 1) rfl ?_
  refine xr_aload_n dL_law_1468 3 rfl ?_
  refine xr_iload_n dL_law_1469 0 rfl ?_
  refine xr_iconst (v := 2) dL_law_1470 rfl ?_
  refine xr_iadd dL_law_1471 ?_
  refine xb_top (y := 2) (by decide) ?_
  refine xr_sld rfl (sx_in hn 2 (by decide)) dL_law_1472 ?_
  refine xb_top (y := G.2.2.2.2.2 2) rfl ?_
  refine xr_callV (As := [.int ((G.2.2.2.2.2 1)), .int ((G.2.2.2.2.2 2))]) (rest := [.int _]) mlL_186 (p_X10_taken (G.2.2.2.2.2 1) (G.2.2.2.2.2 2) hF) dL_law_1473 s_62 rfl rfl (Nat.le_of_ble_eq_true rfl) (by decide) ⟨by decide, by decide⟩ (fun v s3 M3 J3 hq => ?_)
  change v = _ at hq
  subst hq
  try dsimp only [Option.toList, List.cons_append, List.nil_append]
  refine xr_icmp_eq (tgt := 1504) dL_law_1476 rfl (fun _ => ?_) (fun c => absurd rfl c)
  exact lwx_end hn
set_option maxRecDepth 100000 in
set_option maxHeartbeats 4000000 in
theorem lwx_41 {l : Launch} {G : xG} (hn : G.2.2.2.2.1 = 6) : x_X l G fL_law 20 600000 7302250 (qR (some (.int 1))) 1481 [(3, .int (0)), (2, .ref (62)), (1, .ref (0)), (0, .ref (1002))] [] x_SH z_M x_J0 87 2934 := by
  refine xr_aload_n dL_law_1481 2 rfl ?_
  refine xr_aload_n dL_law_1482 3 rfl ?_
  refine xr_iload_n dL_law_1483 0 rfl ?_
  refine xr_iconst (v := 1) dL_law_1484 rfl ?_
  refine xr_iadd dL_law_1485 ?_
  refine xb_top (y := 1) (by decide) ?_
  refine xr_sld rfl (sx_in hn 1 (by decide)) dL_law_1486 ?_
  refine xb_top (y := G.2.2.2.2.2 1) rfl ?_
  refine xr_callV (As := [.int ((G.2.2.2.2.2 1))]) (rest := []) mlL_187 (p_X9_count (G.2.2.2.2.2 1)) dL_law_1487 s_0 rfl rfl (Nat.le_of_ble_eq_true rfl) (by decide) ⟨by decide, by decide⟩ (fun v s2 M2 J2 hq => ?_)
  obtain ⟨rfl, rfl, hF⟩ := hq
  try dsimp only [Option.toList, List.cons_append, List.nil_append]
  refine xr_aload_n dL_law_1490 1 rfl ?_
  refine xr_aload_n dL_law_1491 3 rfl ?_
  refine xr_iload_n dL_law_1492 0 rfl ?_
  refine xr_iconst (v := 1) dL_law_1493 rfl ?_
  refine xr_iadd dL_law_1494 ?_
  refine xb_top (y := 1) (by decide) ?_
  refine xr_sld rfl (sx_in hn 1 (by decide)) dL_law_1495 ?_
  refine xb_top (y := G.2.2.2.2.2 1) rfl ?_
  refine xr_callV (As := [.int ((G.2.2.2.2.2 1))]) (rest := [.int _]) mlL_190 (p_X10_count (G.2.2.2.2.2 1) hF) dL_law_1496 s_62 rfl rfl (Nat.le_of_ble_eq_true rfl) (by decide) ⟨by decide, by decide⟩ (fun v s3 M3 J3 hq => ?_)
  change v = _ at hq
  subst hq
  try dsimp only [Option.toList, List.cons_append, List.nil_append]
  refine xr_icmp_eq (tgt := 1504) dL_law_1499 rfl (fun _ => ?_) (fun c => absurd rfl c)
  exact lwx_end hn
