theorem dL_law_216 : decode cL_law 216 = .ok (.aload_n 1, 1) := lcD_43 (lcR_B (by decide +kernel))
theorem dL_law_217 : decode cL_law 217 = .ok (.aload_n 0, 1) := lcD_42 (lcR_B (by decide +kernel))
theorem dL_law_218 : decode cL_law 218 = .ok (.iload_n 3, 1) := lcD_29 (lcR_B (by decide +kernel))
theorem dL_law_219 : decode cL_law 219 = .ok (.iconst 1, 1) := lcD_4 (lcR_B (by decide +kernel))
theorem dL_law_220 : decode cL_law 220 = .ok (.iadd, 1) := lcD_96 (lcR_B (by decide +kernel))
theorem dL_law_221 : decode cL_law 221 = .ok (.iaload, 1) := lcD_46 (lcR_B (by decide +kernel))
theorem dL_law_222 : decode cL_law 222 = .ok (.invokevirtual 13, 3) := lcD_182 (a := 0) (b := 13) (lcR3_B (by decide +kernel)) (by decide +kernel)
theorem dL_law_225 : decode cL_law 225 = .ok (.pop, 1) := lcD_87 (lcR_B (by decide +kernel))
theorem dL_law_226 : decode cL_law 226 = .ok (.aload_n 2, 1) := lcD_44 (lcR_B (by decide +kernel))
theorem dL_law_227 : decode cL_law 227 = .ok (.aload_n 0, 1) := lcD_42 (lcR_B (by decide +kernel))
theorem dL_law_228 : decode cL_law 228 = .ok (.iload_n 3, 1) := lcD_29 (lcR_B (by decide +kernel))
theorem dL_law_229 : decode cL_law 229 = .ok (.iconst 1, 1) := lcD_4 (lcR_B (by decide +kernel))
theorem dL_law_230 : decode cL_law 230 = .ok (.iadd, 1) := lcD_96 (lcR_B (by decide +kernel))
theorem dL_law_231 : decode cL_law 231 = .ok (.iaload, 1) := lcD_46 (lcR_B (by decide +kernel))
theorem dL_law_232 : decode cL_law 232 = .ok (.invokevirtual 17, 3) := lcD_182 (a := 0) (b := 17) (lcR3_B (by decide +kernel)) (by decide +kernel)
theorem dL_law_235 : decode cL_law 235 = .ok (.pop, 1) := lcD_87 (lcR_B (by decide +kernel))
theorem dL_law_236 : decode cL_law 236 = .ok (.goto 1266, 3) := lcD_167 (a := 4) (b := 242) (lcR3_B (by decide +kernel)) (by decide +kernel)
theorem dL_law_239 : decode cL_law 239 = .ok (.aload_n 1, 1) := lcD_43 (lcR_B (by decide +kernel))
theorem dL_law_240 : decode cL_law 240 = .ok (.aload_n 0, 1) := lcD_42 (lcR_B (by decide +kernel))
theorem dL_law_241 : decode cL_law 241 = .ok (.iload_n 3, 1) := lcD_29 (lcR_B (by decide +kernel))
theorem dL_law_242 : decode cL_law 242 = .ok (.iconst 1, 1) := lcD_4 (lcR_B (by decide +kernel))
theorem dL_law_243 : decode cL_law 243 = .ok (.iadd, 1) := lcD_96 (lcR_B (by decide +kernel))
theorem dL_law_244 : decode cL_law 244 = .ok (.iaload, 1) := lcD_46 (lcR_B (by decide +kernel))
theorem dL_law_245 : decode cL_law 245 = .ok (.aload_n 0, 1) := lcD_42 (lcR_B (by decide +kernel))
theorem dL_law_246 : decode cL_law 246 = .ok (.iload_n 3, 1) := lcD_29 (lcR_B (by decide +kernel))
theorem dL_law_247 : decode cL_law 247 = .ok (.iconst 2, 1) := lcD_5 (lcR_B (by decide +kernel))
theorem dL_law_248 : decode cL_law 248 = .ok (.iadd, 1) := lcD_96 (lcR_B (by decide +kernel))
theorem dL_law_249 : decode cL_law 249 = .ok (.iaload, 1) := lcD_46 (lcR_B (by decide +kernel))
theorem dL_law_250 : decode cL_law 250 = .ok (.aload_n 0, 1) := lcD_42 (lcR_B (by decide +kernel))
theorem dL_law_251 : decode cL_law 251 = .ok (.iload_n 3, 1) := lcD_29 (lcR_B (by decide +kernel))
theorem dL_law_252 : decode cL_law 252 = .ok (.iconst 3, 1) := lcD_6 (lcR_B (by decide +kernel))
theorem dL_law_253 : decode cL_law 253 = .ok (.iadd, 1) := lcD_96 (lcR_B (by decide +kernel))
theorem dL_law_254 : decode cL_law 254 = .ok (.iaload, 1) := lcD_46 (lcR_B (by decide +kernel))
theorem dL_law_255 : decode cL_law 255 = .ok (.invokevirtual 18, 3) := lcD_182 (a := 0) (b := 18) (lcR3_B (by decide +kernel)) (by decide +kernel)
theorem dL_law_258 : decode cL_law 258 = .ok (.pop, 1) := lcD_87 (lcR_B (by decide +kernel))
theorem dL_law_259 : decode cL_law 259 = .ok (.aload_n 2, 1) := lcD_44 (lcR_B (by decide +kernel))
theorem dL_law_260 : decode cL_law 260 = .ok (.aload_n 0, 1) := lcD_42 (lcR_B (by decide +kernel))
theorem dL_law_261 : decode cL_law 261 = .ok (.iload_n 3, 1) := lcD_29 (lcR_B (by decide +kernel))
theorem dL_law_262 : decode cL_law 262 = .ok (.iconst 1, 1) := lcD_4 (lcR_B (by decide +kernel))
theorem dL_law_263 : decode cL_law 263 = .ok (.iadd, 1) := lcD_96 (lcR_B (by decide +kernel))
theorem dL_law_264 : decode cL_law 264 = .ok (.iaload, 1) := lcD_46 (lcR_B (by decide +kernel))
theorem dL_law_265 : decode cL_law 265 = .ok (.aload_n 0, 1) := lcD_42 (lcR_B (by decide +kernel))
theorem dL_law_266 : decode cL_law 266 = .ok (.iload_n 3, 1) := lcD_29 (lcR_B (by decide +kernel))
theorem dL_law_267 : decode cL_law 267 = .ok (.iconst 2, 1) := lcD_5 (lcR_B (by decide +kernel))
theorem dL_law_268 : decode cL_law 268 = .ok (.iadd, 1) := lcD_96 (lcR_B (by decide +kernel))
theorem dL_law_269 : decode cL_law 269 = .ok (.iaload, 1) := lcD_46 (lcR_B (by decide +kernel))
theorem dL_law_270 : decode cL_law 270 = .ok (.aload_n 0, 1) := lcD_42 (lcR_B (by decide +kernel))
theorem dL_law_271 : decode cL_law 271 = .ok (.iload_n 3, 1) := lcD_29 (lcR_B (by decide +kernel))
theorem dL_law_272 : decode cL_law 272 = .ok (.iconst 3, 1) := lcD_6 (lcR_B (by decide +kernel))
theorem dL_law_273 : decode cL_law 273 = .ok (.iadd, 1) := lcD_96 (lcR_B (by decide +kernel))
theorem dL_law_274 : decode cL_law 274 = .ok (.iaload, 1) := lcD_46 (lcR_B (by decide +kernel))
theorem dL_law_275 : decode cL_law 275 = .ok (.invokevirtual 22, 3) := lcD_182 (a := 0) (b := 22) (lcR3_B (by decide +kernel)) (by decide +kernel)
theorem dL_law_278 : decode cL_law 278 = .ok (.pop, 1) := lcD_87 (lcR_B (by decide +kernel))
theorem dL_law_279 : decode cL_law 279 = .ok (.goto 1223, 3) := lcD_167 (a := 4) (b := 199) (lcR3_B (by decide +kernel)) (by decide +kernel)
theorem dL_law_282 : decode cL_law 282 = .ok (.aload_n 1, 1) := lcD_43 (lcR_B (by decide +kernel))
theorem dL_law_283 : decode cL_law 283 = .ok (.aload_n 0, 1) := lcD_42 (lcR_B (by decide +kernel))
theorem dL_law_284 : decode cL_law 284 = .ok (.iload_n 3, 1) := lcD_29 (lcR_B (by decide +kernel))
theorem dL_law_285 : decode cL_law 285 = .ok (.iconst 1, 1) := lcD_4 (lcR_B (by decide +kernel))
theorem dL_law_286 : decode cL_law 286 = .ok (.iadd, 1) := lcD_96 (lcR_B (by decide +kernel))
theorem dL_law_287 : decode cL_law 287 = .ok (.iaload, 1) := lcD_46 (lcR_B (by decide +kernel))
theorem dL_law_288 : decode cL_law 288 = .ok (.aload_n 0, 1) := lcD_42 (lcR_B (by decide +kernel))
theorem dL_law_289 : decode cL_law 289 = .ok (.iload_n 3, 1) := lcD_29 (lcR_B (by decide +kernel))
theorem dL_law_290 : decode cL_law 290 = .ok (.iconst 2, 1) := lcD_5 (lcR_B (by decide +kernel))
theorem dL_law_291 : decode cL_law 291 = .ok (.iadd, 1) := lcD_96 (lcR_B (by decide +kernel))
theorem dL_law_292 : decode cL_law 292 = .ok (.iaload, 1) := lcD_46 (lcR_B (by decide +kernel))
theorem dL_law_293 : decode cL_law 293 = .ok (.aload_n 0, 1) := lcD_42 (lcR_B (by decide +kernel))
theorem dL_law_294 : decode cL_law 294 = .ok (.iload_n 3, 1) := lcD_29 (lcR_B (by decide +kernel))
theorem dL_law_295 : decode cL_law 295 = .ok (.iconst 3, 1) := lcD_6 (lcR_B (by decide +kernel))
theorem dL_law_296 : decode cL_law 296 = .ok (.iadd, 1) := lcD_96 (lcR_B (by decide +kernel))
theorem dL_law_297 : decode cL_law 297 = .ok (.iaload, 1) := lcD_46 (lcR_B (by decide +kernel))
theorem dL_law_298 : decode cL_law 298 = .ok (.invokevirtual 23, 3) := lcD_182 (a := 0) (b := 23) (lcR3_B (by decide +kernel)) (by decide +kernel)
theorem dL_law_301 : decode cL_law 301 = .ok (.pop, 1) := lcD_87 (lcR_B (by decide +kernel))
theorem dL_law_302 : decode cL_law 302 = .ok (.aload_n 2, 1) := lcD_44 (lcR_B (by decide +kernel))
theorem dL_law_303 : decode cL_law 303 = .ok (.aload_n 0, 1) := lcD_42 (lcR_B (by decide +kernel))
theorem dL_law_304 : decode cL_law 304 = .ok (.iload_n 3, 1) := lcD_29 (lcR_B (by decide +kernel))
theorem dL_law_305 : decode cL_law 305 = .ok (.iconst 1, 1) := lcD_4 (lcR_B (by decide +kernel))
theorem dL_law_306 : decode cL_law 306 = .ok (.iadd, 1) := lcD_96 (lcR_B (by decide +kernel))
theorem dL_law_307 : decode cL_law 307 = .ok (.iaload, 1) := lcD_46 (lcR_B (by decide +kernel))
theorem dL_law_308 : decode cL_law 308 = .ok (.aload_n 0, 1) := lcD_42 (lcR_B (by decide +kernel))
theorem dL_law_309 : decode cL_law 309 = .ok (.iload_n 3, 1) := lcD_29 (lcR_B (by decide +kernel))
theorem dL_law_310 : decode cL_law 310 = .ok (.iconst 2, 1) := lcD_5 (lcR_B (by decide +kernel))
theorem dL_law_311 : decode cL_law 311 = .ok (.iadd, 1) := lcD_96 (lcR_B (by decide +kernel))
theorem dL_law_312 : decode cL_law 312 = .ok (.iaload, 1) := lcD_46 (lcR_B (by decide +kernel))
theorem dL_law_313 : decode cL_law 313 = .ok (.aload_n 0, 1) := lcD_42 (lcR_B (by decide +kernel))
theorem dL_law_314 : decode cL_law 314 = .ok (.iload_n 3, 1) := lcD_29 (lcR_B (by decide +kernel))
theorem dL_law_315 : decode cL_law 315 = .ok (.iconst 3, 1) := lcD_6 (lcR_B (by decide +kernel))
theorem dL_law_316 : decode cL_law 316 = .ok (.iadd, 1) := lcD_96 (lcR_B (by decide +kernel))
theorem dL_law_317 : decode cL_law 317 = .ok (.iaload, 1) := lcD_46 (lcR_B (by decide +kernel))
theorem dL_law_318 : decode cL_law 318 = .ok (.invokevirtual 26, 3) := lcD_182 (a := 0) (b := 26) (lcR3_B (by decide +kernel)) (by decide +kernel)
theorem dL_law_321 : decode cL_law 321 = .ok (.pop, 1) := lcD_87 (lcR_B (by decide +kernel))
theorem dL_law_322 : decode cL_law 322 = .ok (.goto 1180, 3) := lcD_167 (a := 4) (b := 156) (lcR3_B (by decide +kernel)) (by decide +kernel)
theorem dL_law_325 : decode cL_law 325 = .ok (.aload_n 1, 1) := lcD_43 (lcR_B (by decide +kernel))
theorem dL_law_326 : decode cL_law 326 = .ok (.aload_n 0, 1) := lcD_42 (lcR_B (by decide +kernel))
theorem dL_law_327 : decode cL_law 327 = .ok (.iload_n 3, 1) := lcD_29 (lcR_B (by decide +kernel))
theorem dL_law_328 : decode cL_law 328 = .ok (.iconst 1, 1) := lcD_4 (lcR_B (by decide +kernel))
theorem dL_law_329 : decode cL_law 329 = .ok (.iadd, 1) := lcD_96 (lcR_B (by decide +kernel))
theorem dL_law_330 : decode cL_law 330 = .ok (.iaload, 1) := lcD_46 (lcR_B (by decide +kernel))
theorem dL_law_331 : decode cL_law 331 = .ok (.aload_n 0, 1) := lcD_42 (lcR_B (by decide +kernel))
theorem dL_law_332 : decode cL_law 332 = .ok (.iload_n 3, 1) := lcD_29 (lcR_B (by decide +kernel))
theorem dL_law_333 : decode cL_law 333 = .ok (.iconst 2, 1) := lcD_5 (lcR_B (by decide +kernel))
theorem dL_law_334 : decode cL_law 334 = .ok (.iadd, 1) := lcD_96 (lcR_B (by decide +kernel))
theorem dL_law_335 : decode cL_law 335 = .ok (.iaload, 1) := lcD_46 (lcR_B (by decide +kernel))
theorem dL_law_336 : decode cL_law 336 = .ok (.invokevirtual 27, 3) := lcD_182 (a := 0) (b := 27) (lcR3_B (by decide +kernel)) (by decide +kernel)
theorem dL_law_339 : decode cL_law 339 = .ok (.pop, 1) := lcD_87 (lcR_B (by decide +kernel))
theorem dL_law_340 : decode cL_law 340 = .ok (.aload_n 2, 1) := lcD_44 (lcR_B (by decide +kernel))
theorem dL_law_341 : decode cL_law 341 = .ok (.aload_n 0, 1) := lcD_42 (lcR_B (by decide +kernel))
theorem dL_law_342 : decode cL_law 342 = .ok (.iload_n 3, 1) := lcD_29 (lcR_B (by decide +kernel))
theorem dL_law_343 : decode cL_law 343 = .ok (.iconst 1, 1) := lcD_4 (lcR_B (by decide +kernel))
theorem dL_law_344 : decode cL_law 344 = .ok (.iadd, 1) := lcD_96 (lcR_B (by decide +kernel))
theorem dL_law_345 : decode cL_law 345 = .ok (.iaload, 1) := lcD_46 (lcR_B (by decide +kernel))
theorem dL_law_346 : decode cL_law 346 = .ok (.aload_n 0, 1) := lcD_42 (lcR_B (by decide +kernel))
theorem dL_law_347 : decode cL_law 347 = .ok (.iload_n 3, 1) := lcD_29 (lcR_B (by decide +kernel))
theorem dL_law_348 : decode cL_law 348 = .ok (.iconst 2, 1) := lcD_5 (lcR_B (by decide +kernel))
theorem dL_law_349 : decode cL_law 349 = .ok (.iadd, 1) := lcD_96 (lcR_B (by decide +kernel))
theorem dL_law_350 : decode cL_law 350 = .ok (.iaload, 1) := lcD_46 (lcR_B (by decide +kernel))
theorem dL_law_351 : decode cL_law 351 = .ok (.invokevirtual 31, 3) := lcD_182 (a := 0) (b := 31) (lcR3_B (by decide +kernel)) (by decide +kernel)
theorem dL_law_354 : decode cL_law 354 = .ok (.pop, 1) := lcD_87 (lcR_B (by decide +kernel))
theorem dL_law_355 : decode cL_law 355 = .ok (.goto 1147, 3) := lcD_167 (a := 4) (b := 123) (lcR3_B (by decide +kernel)) (by decide +kernel)
theorem dL_law_358 : decode cL_law 358 = .ok (.aload_n 1, 1) := lcD_43 (lcR_B (by decide +kernel))
theorem dL_law_359 : decode cL_law 359 = .ok (.aload_n 0, 1) := lcD_42 (lcR_B (by decide +kernel))
theorem dL_law_360 : decode cL_law 360 = .ok (.iload_n 3, 1) := lcD_29 (lcR_B (by decide +kernel))
theorem dL_law_361 : decode cL_law 361 = .ok (.iconst 1, 1) := lcD_4 (lcR_B (by decide +kernel))
theorem dL_law_362 : decode cL_law 362 = .ok (.iadd, 1) := lcD_96 (lcR_B (by decide +kernel))
theorem dL_law_363 : decode cL_law 363 = .ok (.iaload, 1) := lcD_46 (lcR_B (by decide +kernel))
theorem dL_law_364 : decode cL_law 364 = .ok (.invokevirtual 32, 3) := lcD_182 (a := 0) (b := 32) (lcR3_B (by decide +kernel)) (by decide +kernel)
theorem dL_law_367 : decode cL_law 367 = .ok (.pop, 1) := lcD_87 (lcR_B (by decide +kernel))
theorem dL_law_368 : decode cL_law 368 = .ok (.aload_n 2, 1) := lcD_44 (lcR_B (by decide +kernel))
theorem dL_law_369 : decode cL_law 369 = .ok (.aload_n 0, 1) := lcD_42 (lcR_B (by decide +kernel))
theorem dL_law_370 : decode cL_law 370 = .ok (.iload_n 3, 1) := lcD_29 (lcR_B (by decide +kernel))
theorem dL_law_371 : decode cL_law 371 = .ok (.iconst 1, 1) := lcD_4 (lcR_B (by decide +kernel))
theorem dL_law_372 : decode cL_law 372 = .ok (.iadd, 1) := lcD_96 (lcR_B (by decide +kernel))
theorem dL_law_373 : decode cL_law 373 = .ok (.iaload, 1) := lcD_46 (lcR_B (by decide +kernel))
theorem dL_law_374 : decode cL_law 374 = .ok (.invokevirtual 35, 3) := lcD_182 (a := 0) (b := 35) (lcR3_B (by decide +kernel)) (by decide +kernel)
theorem dL_law_377 : decode cL_law 377 = .ok (.pop, 1) := lcD_87 (lcR_B (by decide +kernel))
theorem dL_law_378 : decode cL_law 378 = .ok (.goto 1124, 3) := lcD_167 (a := 4) (b := 100) (lcR3_B (by decide +kernel)) (by decide +kernel)
theorem dL_law_381 : decode cL_law 381 = .ok (.aload_n 1, 1) := lcD_43 (lcR_B (by decide +kernel))
theorem dL_law_382 : decode cL_law 382 = .ok (.invokevirtual 36, 3) := lcD_182 (a := 0) (b := 36) (lcR3_B (by decide +kernel)) (by decide +kernel)
theorem dL_law_385 : decode cL_law 385 = .ok (.pop, 1) := lcD_87 (lcR_B (by decide +kernel))
theorem dL_law_386 : decode cL_law 386 = .ok (.aload_n 2, 1) := lcD_44 (lcR_B (by decide +kernel))
theorem dL_law_387 : decode cL_law 387 = .ok (.invokevirtual 40, 3) := lcD_182 (a := 0) (b := 40) (lcR3_B (by decide +kernel)) (by decide +kernel)
theorem dL_law_390 : decode cL_law 390 = .ok (.pop, 1) := lcD_87 (lcR_B (by decide +kernel))
theorem dL_law_391 : decode cL_law 391 = .ok (.goto 1111, 3) := lcD_167 (a := 4) (b := 87) (lcR3_B (by decide +kernel)) (by decide +kernel)
theorem dL_law_394 : decode cL_law 394 = .ok (.aload_n 1, 1) := lcD_43 (lcR_B (by decide +kernel))
theorem dL_law_395 : decode cL_law 395 = .ok (.aload_n 0, 1) := lcD_42 (lcR_B (by decide +kernel))
theorem dL_law_396 : decode cL_law 396 = .ok (.iload_n 3, 1) := lcD_29 (lcR_B (by decide +kernel))
theorem dL_law_397 : decode cL_law 397 = .ok (.iconst 1, 1) := lcD_4 (lcR_B (by decide +kernel))
theorem dL_law_398 : decode cL_law 398 = .ok (.iadd, 1) := lcD_96 (lcR_B (by decide +kernel))
theorem dL_law_399 : decode cL_law 399 = .ok (.iaload, 1) := lcD_46 (lcR_B (by decide +kernel))
theorem dL_law_400 : decode cL_law 400 = .ok (.invokevirtual 41, 3) := lcD_182 (a := 0) (b := 41) (lcR3_B (by decide +kernel)) (by decide +kernel)
theorem dL_law_403 : decode cL_law 403 = .ok (.pop, 1) := lcD_87 (lcR_B (by decide +kernel))
theorem dL_law_404 : decode cL_law 404 = .ok (.aload_n 2, 1) := lcD_44 (lcR_B (by decide +kernel))
theorem dL_law_405 : decode cL_law 405 = .ok (.aload_n 0, 1) := lcD_42 (lcR_B (by decide +kernel))
theorem dL_law_406 : decode cL_law 406 = .ok (.iload_n 3, 1) := lcD_29 (lcR_B (by decide +kernel))
theorem dL_law_407 : decode cL_law 407 = .ok (.iconst 1, 1) := lcD_4 (lcR_B (by decide +kernel))
theorem dL_law_408 : decode cL_law 408 = .ok (.iadd, 1) := lcD_96 (lcR_B (by decide +kernel))
theorem dL_law_409 : decode cL_law 409 = .ok (.iaload, 1) := lcD_46 (lcR_B (by decide +kernel))
theorem dL_law_410 : decode cL_law 410 = .ok (.invokevirtual 44, 3) := lcD_182 (a := 0) (b := 44) (lcR3_B (by decide +kernel)) (by decide +kernel)
theorem dL_law_413 : decode cL_law 413 = .ok (.pop, 1) := lcD_87 (lcR_B (by decide +kernel))
theorem dL_law_414 : decode cL_law 414 = .ok (.goto 1088, 3) := lcD_167 (a := 4) (b := 64) (lcR3_B (by decide +kernel)) (by decide +kernel)
theorem dL_law_417 : decode cL_law 417 = .ok (.aload_n 1, 1) := lcD_43 (lcR_B (by decide +kernel))
theorem dL_law_418 : decode cL_law 418 = .ok (.aload_n 0, 1) := lcD_42 (lcR_B (by decide +kernel))
theorem dL_law_419 : decode cL_law 419 = .ok (.iload_n 3, 1) := lcD_29 (lcR_B (by decide +kernel))
theorem dL_law_420 : decode cL_law 420 = .ok (.iconst 1, 1) := lcD_4 (lcR_B (by decide +kernel))
theorem dL_law_421 : decode cL_law 421 = .ok (.iadd, 1) := lcD_96 (lcR_B (by decide +kernel))
theorem dL_law_422 : decode cL_law 422 = .ok (.iaload, 1) := lcD_46 (lcR_B (by decide +kernel))
theorem dL_law_423 : decode cL_law 423 = .ok (.invokevirtual 45, 3) := lcD_182 (a := 0) (b := 45) (lcR3_B (by decide +kernel)) (by decide +kernel)
theorem dL_law_426 : decode cL_law 426 = .ok (.pop, 1) := lcD_87 (lcR_B (by decide +kernel))
theorem dL_law_427 : decode cL_law 427 = .ok (.aload_n 2, 1) := lcD_44 (lcR_B (by decide +kernel))
theorem dL_law_428 : decode cL_law 428 = .ok (.aload_n 0, 1) := lcD_42 (lcR_B (by decide +kernel))
theorem dL_law_429 : decode cL_law 429 = .ok (.iload_n 3, 1) := lcD_29 (lcR_B (by decide +kernel))
theorem dL_law_430 : decode cL_law 430 = .ok (.iconst 1, 1) := lcD_4 (lcR_B (by decide +kernel))
theorem dL_law_431 : decode cL_law 431 = .ok (.iadd, 1) := lcD_96 (lcR_B (by decide +kernel))
theorem dL_law_432 : decode cL_law 432 = .ok (.iaload, 1) := lcD_46 (lcR_B (by decide +kernel))
theorem dL_law_433 : decode cL_law 433 = .ok (.invokevirtual 48, 3) := lcD_182 (a := 0) (b := 48) (lcR3_B (by decide +kernel)) (by decide +kernel)
theorem dL_law_436 : decode cL_law 436 = .ok (.pop, 1) := lcD_87 (lcR_B (by decide +kernel))
theorem dL_law_437 : decode cL_law 437 = .ok (.goto 1065, 3) := lcD_167 (a := 4) (b := 41) (lcR3_B (by decide +kernel)) (by decide +kernel)
theorem dL_law_440 : decode cL_law 440 = .ok (.aload_n 1, 1) := lcD_43 (lcR_B (by decide +kernel))
theorem dL_law_441 : decode cL_law 441 = .ok (.aload_n 0, 1) := lcD_42 (lcR_B (by decide +kernel))
theorem dL_law_442 : decode cL_law 442 = .ok (.iload_n 3, 1) := lcD_29 (lcR_B (by decide +kernel))
theorem dL_law_443 : decode cL_law 443 = .ok (.iconst 1, 1) := lcD_4 (lcR_B (by decide +kernel))
theorem dL_law_444 : decode cL_law 444 = .ok (.iadd, 1) := lcD_96 (lcR_B (by decide +kernel))
theorem dL_law_445 : decode cL_law 445 = .ok (.iaload, 1) := lcD_46 (lcR_B (by decide +kernel))
theorem dL_law_446 : decode cL_law 446 = .ok (.invokevirtual 49, 3) := lcD_182 (a := 0) (b := 49) (lcR3_B (by decide +kernel)) (by decide +kernel)
theorem dL_law_449 : decode cL_law 449 = .ok (.pop, 1) := lcD_87 (lcR_B (by decide +kernel))
theorem dL_law_450 : decode cL_law 450 = .ok (.aload_n 2, 1) := lcD_44 (lcR_B (by decide +kernel))
theorem dL_law_451 : decode cL_law 451 = .ok (.aload_n 0, 1) := lcD_42 (lcR_B (by decide +kernel))
theorem dL_law_452 : decode cL_law 452 = .ok (.iload_n 3, 1) := lcD_29 (lcR_B (by decide +kernel))
theorem dL_law_453 : decode cL_law 453 = .ok (.iconst 1, 1) := lcD_4 (lcR_B (by decide +kernel))
theorem dL_law_454 : decode cL_law 454 = .ok (.iadd, 1) := lcD_96 (lcR_B (by decide +kernel))
theorem dL_law_455 : decode cL_law 455 = .ok (.iaload, 1) := lcD_46 (lcR_B (by decide +kernel))
theorem dL_law_456 : decode cL_law 456 = .ok (.invokevirtual 52, 3) := lcD_182 (a := 0) (b := 52) (lcR3_B (by decide +kernel)) (by decide +kernel)
theorem dL_law_459 : decode cL_law 459 = .ok (.pop, 1) := lcD_87 (lcR_B (by decide +kernel))
theorem dL_law_460 : decode cL_law 460 = .ok (.goto 1042, 3) := lcD_167 (a := 4) (b := 18) (lcR3_B (by decide +kernel)) (by decide +kernel)
theorem dL_law_463 : decode cL_law 463 = .ok (.aload_n 1, 1) := lcD_43 (lcR_B (by decide +kernel))
theorem dL_law_464 : decode cL_law 464 = .ok (.aload_n 0, 1) := lcD_42 (lcR_B (by decide +kernel))
theorem dL_law_465 : decode cL_law 465 = .ok (.iload_n 3, 1) := lcD_29 (lcR_B (by decide +kernel))
theorem dL_law_466 : decode cL_law 466 = .ok (.iconst 1, 1) := lcD_4 (lcR_B (by decide +kernel))
theorem dL_law_467 : decode cL_law 467 = .ok (.iadd, 1) := lcD_96 (lcR_B (by decide +kernel))
theorem dL_law_468 : decode cL_law 468 = .ok (.iaload, 1) := lcD_46 (lcR_B (by decide +kernel))
theorem dL_law_469 : decode cL_law 469 = .ok (.aload_n 0, 1) := lcD_42 (lcR_B (by decide +kernel))
theorem dL_law_470 : decode cL_law 470 = .ok (.iload_n 3, 1) := lcD_29 (lcR_B (by decide +kernel))
theorem dL_law_471 : decode cL_law 471 = .ok (.iconst 2, 1) := lcD_5 (lcR_B (by decide +kernel))
theorem dL_law_472 : decode cL_law 472 = .ok (.iadd, 1) := lcD_96 (lcR_B (by decide +kernel))
theorem dL_law_473 : decode cL_law 473 = .ok (.iaload, 1) := lcD_46 (lcR_B (by decide +kernel))
theorem dL_law_474 : decode cL_law 474 = .ok (.aload_n 0, 1) := lcD_42 (lcR_B (by decide +kernel))
theorem dL_law_475 : decode cL_law 475 = .ok (.iload_n 3, 1) := lcD_29 (lcR_B (by decide +kernel))
theorem dL_law_476 : decode cL_law 476 = .ok (.iconst 3, 1) := lcD_6 (lcR_B (by decide +kernel))
theorem dL_law_477 : decode cL_law 477 = .ok (.iadd, 1) := lcD_96 (lcR_B (by decide +kernel))
theorem dL_law_478 : decode cL_law 478 = .ok (.iaload, 1) := lcD_46 (lcR_B (by decide +kernel))
theorem dL_law_479 : decode cL_law 479 = .ok (.invokevirtual 53, 3) := lcD_182 (a := 0) (b := 53) (lcR3_B (by decide +kernel)) (by decide +kernel)
theorem dL_law_482 : decode cL_law 482 = .ok (.pop, 1) := lcD_87 (lcR_B (by decide +kernel))
theorem dL_law_483 : decode cL_law 483 = .ok (.aload_n 2, 1) := lcD_44 (lcR_B (by decide +kernel))
theorem dL_law_484 : decode cL_law 484 = .ok (.aload_n 0, 1) := lcD_42 (lcR_B (by decide +kernel))
theorem dL_law_485 : decode cL_law 485 = .ok (.iload_n 3, 1) := lcD_29 (lcR_B (by decide +kernel))
theorem dL_law_486 : decode cL_law 486 = .ok (.iconst 1, 1) := lcD_4 (lcR_B (by decide +kernel))
theorem dL_law_487 : decode cL_law 487 = .ok (.iadd, 1) := lcD_96 (lcR_B (by decide +kernel))
theorem dL_law_488 : decode cL_law 488 = .ok (.iaload, 1) := lcD_46 (lcR_B (by decide +kernel))
theorem dL_law_489 : decode cL_law 489 = .ok (.aload_n 0, 1) := lcD_42 (lcR_B (by decide +kernel))
theorem dL_law_490 : decode cL_law 490 = .ok (.iload_n 3, 1) := lcD_29 (lcR_B (by decide +kernel))
theorem dL_law_491 : decode cL_law 491 = .ok (.iconst 2, 1) := lcD_5 (lcR_B (by decide +kernel))
theorem dL_law_492 : decode cL_law 492 = .ok (.iadd, 1) := lcD_96 (lcR_B (by decide +kernel))
theorem dL_law_493 : decode cL_law 493 = .ok (.iaload, 1) := lcD_46 (lcR_B (by decide +kernel))
theorem dL_law_494 : decode cL_law 494 = .ok (.aload_n 0, 1) := lcD_42 (lcR_B (by decide +kernel))
theorem dL_law_495 : decode cL_law 495 = .ok (.iload_n 3, 1) := lcD_29 (lcR_B (by decide +kernel))
theorem dL_law_496 : decode cL_law 496 = .ok (.iconst 3, 1) := lcD_6 (lcR_B (by decide +kernel))
theorem dL_law_497 : decode cL_law 497 = .ok (.iadd, 1) := lcD_96 (lcR_B (by decide +kernel))
theorem dL_law_498 : decode cL_law 498 = .ok (.iaload, 1) := lcD_46 (lcR_B (by decide +kernel))
theorem dL_law_499 : decode cL_law 499 = .ok (.invokevirtual 56, 3) := lcD_182 (a := 0) (b := 56) (lcR3_B (by decide +kernel)) (by decide +kernel)
theorem dL_law_502 : decode cL_law 502 = .ok (.pop, 1) := lcD_87 (lcR_B (by decide +kernel))
theorem dL_law_503 : decode cL_law 503 = .ok (.goto 999, 3) := lcD_167 (a := 3) (b := 231) (lcR3_B (by decide +kernel)) (by decide +kernel)
theorem dL_law_506 : decode cL_law 506 = .ok (.aload_n 1, 1) := lcD_43 (lcR_B (by decide +kernel))
theorem dL_law_507 : decode cL_law 507 = .ok (.aload_n 0, 1) := lcD_42 (lcR_B (by decide +kernel))
theorem dL_law_508 : decode cL_law 508 = .ok (.iload_n 3, 1) := lcD_29 (lcR_B (by decide +kernel))
theorem dL_law_509 : decode cL_law 509 = .ok (.iconst 1, 1) := lcD_4 (lcR_B (by decide +kernel))
theorem dL_law_510 : decode cL_law 510 = .ok (.iadd, 1) := lcD_96 (lcR_B (by decide +kernel))
theorem dL_law_511 : decode cL_law 511 = .ok (.iaload, 1) := lcD_46 (lcR_B (by decide +kernel))
theorem dL_law_512 : decode cL_law 512 = .ok (.invokevirtual 57, 3) := lcD_182 (a := 0) (b := 57) (lcR3_B (by decide +kernel)) (by decide +kernel)
theorem dL_law_515 : decode cL_law 515 = .ok (.pop, 1) := lcD_87 (lcR_B (by decide +kernel))
theorem dL_law_516 : decode cL_law 516 = .ok (.aload_n 2, 1) := lcD_44 (lcR_B (by decide +kernel))
theorem dL_law_517 : decode cL_law 517 = .ok (.aload_n 0, 1) := lcD_42 (lcR_B (by decide +kernel))
theorem dL_law_518 : decode cL_law 518 = .ok (.iload_n 3, 1) := lcD_29 (lcR_B (by decide +kernel))
theorem dL_law_519 : decode cL_law 519 = .ok (.iconst 1, 1) := lcD_4 (lcR_B (by decide +kernel))
theorem dL_law_520 : decode cL_law 520 = .ok (.iadd, 1) := lcD_96 (lcR_B (by decide +kernel))
theorem dL_law_521 : decode cL_law 521 = .ok (.iaload, 1) := lcD_46 (lcR_B (by decide +kernel))
theorem dL_law_522 : decode cL_law 522 = .ok (.invokevirtual 60, 3) := lcD_182 (a := 0) (b := 60) (lcR3_B (by decide +kernel)) (by decide +kernel)
theorem dL_law_525 : decode cL_law 525 = .ok (.pop, 1) := lcD_87 (lcR_B (by decide +kernel))
theorem dL_law_526 : decode cL_law 526 = .ok (.goto 976, 3) := lcD_167 (a := 3) (b := 208) (lcR3_B (by decide +kernel)) (by decide +kernel)
theorem dL_law_529 : decode cL_law 529 = .ok (.aload_n 1, 1) := lcD_43 (lcR_B (by decide +kernel))
theorem dL_law_530 : decode cL_law 530 = .ok (.invokevirtual 61, 3) := lcD_182 (a := 0) (b := 61) (lcR3_B (by decide +kernel)) (by decide +kernel)
theorem dL_law_533 : decode cL_law 533 = .ok (.pop, 1) := lcD_87 (lcR_B (by decide +kernel))
theorem dL_law_534 : decode cL_law 534 = .ok (.aload_n 2, 1) := lcD_44 (lcR_B (by decide +kernel))
theorem dL_law_535 : decode cL_law 535 = .ok (.invokevirtual 64, 3) := lcD_182 (a := 0) (b := 64) (lcR3_B (by decide +kernel)) (by decide +kernel)
theorem dL_law_538 : decode cL_law 538 = .ok (.pop, 1) := lcD_87 (lcR_B (by decide +kernel))
theorem dL_law_539 : decode cL_law 539 = .ok (.goto 963, 3) := lcD_167 (a := 3) (b := 195) (lcR3_B (by decide +kernel)) (by decide +kernel)
theorem dL_law_542 : decode cL_law 542 = .ok (.aload_n 1, 1) := lcD_43 (lcR_B (by decide +kernel))
theorem dL_law_543 : decode cL_law 543 = .ok (.aload_n 0, 1) := lcD_42 (lcR_B (by decide +kernel))
theorem dL_law_544 : decode cL_law 544 = .ok (.iload_n 3, 1) := lcD_29 (lcR_B (by decide +kernel))
theorem dL_law_545 : decode cL_law 545 = .ok (.iconst 1, 1) := lcD_4 (lcR_B (by decide +kernel))
theorem dL_law_546 : decode cL_law 546 = .ok (.iadd, 1) := lcD_96 (lcR_B (by decide +kernel))
theorem dL_law_547 : decode cL_law 547 = .ok (.iaload, 1) := lcD_46 (lcR_B (by decide +kernel))
theorem dL_law_548 : decode cL_law 548 = .ok (.invokevirtual 65, 3) := lcD_182 (a := 0) (b := 65) (lcR3_B (by decide +kernel)) (by decide +kernel)
theorem dL_law_551 : decode cL_law 551 = .ok (.pop, 1) := lcD_87 (lcR_B (by decide +kernel))
theorem dL_law_552 : decode cL_law 552 = .ok (.aload_n 2, 1) := lcD_44 (lcR_B (by decide +kernel))
theorem dL_law_553 : decode cL_law 553 = .ok (.aload_n 0, 1) := lcD_42 (lcR_B (by decide +kernel))
theorem dL_law_554 : decode cL_law 554 = .ok (.iload_n 3, 1) := lcD_29 (lcR_B (by decide +kernel))
theorem dL_law_555 : decode cL_law 555 = .ok (.iconst 1, 1) := lcD_4 (lcR_B (by decide +kernel))
theorem dL_law_556 : decode cL_law 556 = .ok (.iadd, 1) := lcD_96 (lcR_B (by decide +kernel))
theorem dL_law_557 : decode cL_law 557 = .ok (.iaload, 1) := lcD_46 (lcR_B (by decide +kernel))
theorem dL_law_558 : decode cL_law 558 = .ok (.invokevirtual 68, 3) := lcD_182 (a := 0) (b := 68) (lcR3_B (by decide +kernel)) (by decide +kernel)
theorem dL_law_561 : decode cL_law 561 = .ok (.pop, 1) := lcD_87 (lcR_B (by decide +kernel))
theorem dL_law_562 : decode cL_law 562 = .ok (.goto 940, 3) := lcD_167 (a := 3) (b := 172) (lcR3_B (by decide +kernel)) (by decide +kernel)
theorem dL_law_565 : decode cL_law 565 = .ok (.aload_n 1, 1) := lcD_43 (lcR_B (by decide +kernel))
theorem dL_law_566 : decode cL_law 566 = .ok (.aload_n 0, 1) := lcD_42 (lcR_B (by decide +kernel))
theorem dL_law_567 : decode cL_law 567 = .ok (.iload_n 3, 1) := lcD_29 (lcR_B (by decide +kernel))
theorem dL_law_568 : decode cL_law 568 = .ok (.iconst 1, 1) := lcD_4 (lcR_B (by decide +kernel))
theorem dL_law_569 : decode cL_law 569 = .ok (.iadd, 1) := lcD_96 (lcR_B (by decide +kernel))
theorem dL_law_570 : decode cL_law 570 = .ok (.iaload, 1) := lcD_46 (lcR_B (by decide +kernel))
theorem dL_law_571 : decode cL_law 571 = .ok (.invokevirtual 69, 3) := lcD_182 (a := 0) (b := 69) (lcR3_B (by decide +kernel)) (by decide +kernel)
theorem dL_law_574 : decode cL_law 574 = .ok (.pop, 1) := lcD_87 (lcR_B (by decide +kernel))
theorem dL_law_575 : decode cL_law 575 = .ok (.aload_n 2, 1) := lcD_44 (lcR_B (by decide +kernel))
theorem dL_law_576 : decode cL_law 576 = .ok (.aload_n 0, 1) := lcD_42 (lcR_B (by decide +kernel))
theorem dL_law_577 : decode cL_law 577 = .ok (.iload_n 3, 1) := lcD_29 (lcR_B (by decide +kernel))
theorem dL_law_578 : decode cL_law 578 = .ok (.iconst 1, 1) := lcD_4 (lcR_B (by decide +kernel))
theorem dL_law_579 : decode cL_law 579 = .ok (.iadd, 1) := lcD_96 (lcR_B (by decide +kernel))
theorem dL_law_580 : decode cL_law 580 = .ok (.iaload, 1) := lcD_46 (lcR_B (by decide +kernel))
theorem dL_law_581 : decode cL_law 581 = .ok (.invokevirtual 72, 3) := lcD_182 (a := 0) (b := 72) (lcR3_B (by decide +kernel)) (by decide +kernel)
theorem dL_law_584 : decode cL_law 584 = .ok (.pop, 1) := lcD_87 (lcR_B (by decide +kernel))
theorem dL_law_585 : decode cL_law 585 = .ok (.goto 917, 3) := lcD_167 (a := 3) (b := 149) (lcR3_B (by decide +kernel)) (by decide +kernel)
theorem dL_law_588 : decode cL_law 588 = .ok (.aload_n 1, 1) := lcD_43 (lcR_B (by decide +kernel))
theorem dL_law_589 : decode cL_law 589 = .ok (.aload_n 0, 1) := lcD_42 (lcR_B (by decide +kernel))
theorem dL_law_590 : decode cL_law 590 = .ok (.iload_n 3, 1) := lcD_29 (lcR_B (by decide +kernel))
theorem dL_law_591 : decode cL_law 591 = .ok (.iconst 1, 1) := lcD_4 (lcR_B (by decide +kernel))
theorem dL_law_592 : decode cL_law 592 = .ok (.iadd, 1) := lcD_96 (lcR_B (by decide +kernel))
theorem dL_law_593 : decode cL_law 593 = .ok (.iaload, 1) := lcD_46 (lcR_B (by decide +kernel))
theorem dL_law_594 : decode cL_law 594 = .ok (.aload_n 0, 1) := lcD_42 (lcR_B (by decide +kernel))
theorem dL_law_595 : decode cL_law 595 = .ok (.iload_n 3, 1) := lcD_29 (lcR_B (by decide +kernel))
theorem dL_law_596 : decode cL_law 596 = .ok (.iconst 2, 1) := lcD_5 (lcR_B (by decide +kernel))
theorem dL_law_597 : decode cL_law 597 = .ok (.iadd, 1) := lcD_96 (lcR_B (by decide +kernel))
theorem dL_law_598 : decode cL_law 598 = .ok (.iaload, 1) := lcD_46 (lcR_B (by decide +kernel))
theorem dL_law_599 : decode cL_law 599 = .ok (.invokevirtual 73, 3) := lcD_182 (a := 0) (b := 73) (lcR3_B (by decide +kernel)) (by decide +kernel)
theorem dL_law_602 : decode cL_law 602 = .ok (.pop, 1) := lcD_87 (lcR_B (by decide +kernel))
theorem dL_law_603 : decode cL_law 603 = .ok (.aload_n 2, 1) := lcD_44 (lcR_B (by decide +kernel))
theorem dL_law_604 : decode cL_law 604 = .ok (.aload_n 0, 1) := lcD_42 (lcR_B (by decide +kernel))
theorem dL_law_605 : decode cL_law 605 = .ok (.iload_n 3, 1) := lcD_29 (lcR_B (by decide +kernel))
theorem dL_law_606 : decode cL_law 606 = .ok (.iconst 1, 1) := lcD_4 (lcR_B (by decide +kernel))
theorem dL_law_607 : decode cL_law 607 = .ok (.iadd, 1) := lcD_96 (lcR_B (by decide +kernel))
theorem dL_law_608 : decode cL_law 608 = .ok (.iaload, 1) := lcD_46 (lcR_B (by decide +kernel))
theorem dL_law_609 : decode cL_law 609 = .ok (.aload_n 0, 1) := lcD_42 (lcR_B (by decide +kernel))
theorem dL_law_610 : decode cL_law 610 = .ok (.iload_n 3, 1) := lcD_29 (lcR_B (by decide +kernel))
theorem dL_law_611 : decode cL_law 611 = .ok (.iconst 2, 1) := lcD_5 (lcR_B (by decide +kernel))
theorem dL_law_612 : decode cL_law 612 = .ok (.iadd, 1) := lcD_96 (lcR_B (by decide +kernel))
theorem dL_law_613 : decode cL_law 613 = .ok (.iaload, 1) := lcD_46 (lcR_B (by decide +kernel))
theorem dL_law_614 : decode cL_law 614 = .ok (.invokevirtual 76, 3) := lcD_182 (a := 0) (b := 76) (lcR3_B (by decide +kernel)) (by decide +kernel)
theorem dL_law_617 : decode cL_law 617 = .ok (.pop, 1) := lcD_87 (lcR_B (by decide +kernel))
theorem dL_law_618 : decode cL_law 618 = .ok (.goto 884, 3) := lcD_167 (a := 3) (b := 116) (lcR3_B (by decide +kernel)) (by decide +kernel)
theorem dL_law_621 : decode cL_law 621 = .ok (.aload_n 1, 1) := lcD_43 (lcR_B (by decide +kernel))
theorem dL_law_622 : decode cL_law 622 = .ok (.aload_n 0, 1) := lcD_42 (lcR_B (by decide +kernel))
theorem dL_law_623 : decode cL_law 623 = .ok (.iload_n 3, 1) := lcD_29 (lcR_B (by decide +kernel))
theorem dL_law_624 : decode cL_law 624 = .ok (.iconst 1, 1) := lcD_4 (lcR_B (by decide +kernel))
theorem dL_law_625 : decode cL_law 625 = .ok (.iadd, 1) := lcD_96 (lcR_B (by decide +kernel))
theorem dL_law_626 : decode cL_law 626 = .ok (.iaload, 1) := lcD_46 (lcR_B (by decide +kernel))
theorem dL_law_627 : decode cL_law 627 = .ok (.invokevirtual 77, 3) := lcD_182 (a := 0) (b := 77) (lcR3_B (by decide +kernel)) (by decide +kernel)
theorem dL_law_630 : decode cL_law 630 = .ok (.pop, 1) := lcD_87 (lcR_B (by decide +kernel))
theorem dL_law_631 : decode cL_law 631 = .ok (.aload_n 2, 1) := lcD_44 (lcR_B (by decide +kernel))
theorem dL_law_632 : decode cL_law 632 = .ok (.aload_n 0, 1) := lcD_42 (lcR_B (by decide +kernel))
theorem dL_law_633 : decode cL_law 633 = .ok (.iload_n 3, 1) := lcD_29 (lcR_B (by decide +kernel))
theorem dL_law_634 : decode cL_law 634 = .ok (.iconst 1, 1) := lcD_4 (lcR_B (by decide +kernel))
theorem dL_law_635 : decode cL_law 635 = .ok (.iadd, 1) := lcD_96 (lcR_B (by decide +kernel))
theorem dL_law_636 : decode cL_law 636 = .ok (.iaload, 1) := lcD_46 (lcR_B (by decide +kernel))
theorem dL_law_637 : decode cL_law 637 = .ok (.invokevirtual 80, 3) := lcD_182 (a := 0) (b := 80) (lcR3_B (by decide +kernel)) (by decide +kernel)
theorem dL_law_640 : decode cL_law 640 = .ok (.pop, 1) := lcD_87 (lcR_B (by decide +kernel))
theorem dL_law_641 : decode cL_law 641 = .ok (.goto 861, 3) := lcD_167 (a := 3) (b := 93) (lcR3_B (by decide +kernel)) (by decide +kernel)
theorem dL_law_644 : decode cL_law 644 = .ok (.aload_n 1, 1) := lcD_43 (lcR_B (by decide +kernel))
theorem dL_law_645 : decode cL_law 645 = .ok (.aload_n 0, 1) := lcD_42 (lcR_B (by decide +kernel))
theorem dL_law_646 : decode cL_law 646 = .ok (.iload_n 3, 1) := lcD_29 (lcR_B (by decide +kernel))
theorem dL_law_647 : decode cL_law 647 = .ok (.iconst 1, 1) := lcD_4 (lcR_B (by decide +kernel))
theorem dL_law_648 : decode cL_law 648 = .ok (.iadd, 1) := lcD_96 (lcR_B (by decide +kernel))
theorem dL_law_649 : decode cL_law 649 = .ok (.iaload, 1) := lcD_46 (lcR_B (by decide +kernel))
theorem dL_law_650 : decode cL_law 650 = .ok (.aload_n 0, 1) := lcD_42 (lcR_B (by decide +kernel))
theorem dL_law_651 : decode cL_law 651 = .ok (.iload_n 3, 1) := lcD_29 (lcR_B (by decide +kernel))
theorem dL_law_652 : decode cL_law 652 = .ok (.iconst 2, 1) := lcD_5 (lcR_B (by decide +kernel))
theorem dL_law_653 : decode cL_law 653 = .ok (.iadd, 1) := lcD_96 (lcR_B (by decide +kernel))
theorem dL_law_654 : decode cL_law 654 = .ok (.iaload, 1) := lcD_46 (lcR_B (by decide +kernel))
theorem dL_law_655 : decode cL_law 655 = .ok (.invokevirtual 81, 3) := lcD_182 (a := 0) (b := 81) (lcR3_B (by decide +kernel)) (by decide +kernel)
theorem dL_law_658 : decode cL_law 658 = .ok (.pop, 1) := lcD_87 (lcR_B (by decide +kernel))
theorem dL_law_659 : decode cL_law 659 = .ok (.aload_n 2, 1) := lcD_44 (lcR_B (by decide +kernel))
theorem dL_law_660 : decode cL_law 660 = .ok (.aload_n 0, 1) := lcD_42 (lcR_B (by decide +kernel))
theorem dL_law_661 : decode cL_law 661 = .ok (.iload_n 3, 1) := lcD_29 (lcR_B (by decide +kernel))
theorem dL_law_662 : decode cL_law 662 = .ok (.iconst 1, 1) := lcD_4 (lcR_B (by decide +kernel))
theorem dL_law_663 : decode cL_law 663 = .ok (.iadd, 1) := lcD_96 (lcR_B (by decide +kernel))
theorem dL_law_664 : decode cL_law 664 = .ok (.iaload, 1) := lcD_46 (lcR_B (by decide +kernel))
theorem dL_law_665 : decode cL_law 665 = .ok (.aload_n 0, 1) := lcD_42 (lcR_B (by decide +kernel))
theorem dL_law_666 : decode cL_law 666 = .ok (.iload_n 3, 1) := lcD_29 (lcR_B (by decide +kernel))
theorem dL_law_667 : decode cL_law 667 = .ok (.iconst 2, 1) := lcD_5 (lcR_B (by decide +kernel))
theorem dL_law_668 : decode cL_law 668 = .ok (.iadd, 1) := lcD_96 (lcR_B (by decide +kernel))
theorem dL_law_669 : decode cL_law 669 = .ok (.iaload, 1) := lcD_46 (lcR_B (by decide +kernel))
theorem dL_law_670 : decode cL_law 670 = .ok (.invokevirtual 84, 3) := lcD_182 (a := 0) (b := 84) (lcR3_B (by decide +kernel)) (by decide +kernel)
theorem dL_law_673 : decode cL_law 673 = .ok (.pop, 1) := lcD_87 (lcR_B (by decide +kernel))
theorem dL_law_674 : decode cL_law 674 = .ok (.goto 828, 3) := lcD_167 (a := 3) (b := 60) (lcR3_B (by decide +kernel)) (by decide +kernel)
theorem dL_law_677 : decode cL_law 677 = .ok (.aload_n 1, 1) := lcD_43 (lcR_B (by decide +kernel))
theorem dL_law_678 : decode cL_law 678 = .ok (.aload_n 0, 1) := lcD_42 (lcR_B (by decide +kernel))
theorem dL_law_679 : decode cL_law 679 = .ok (.iload_n 3, 1) := lcD_29 (lcR_B (by decide +kernel))
theorem dL_law_680 : decode cL_law 680 = .ok (.iconst 1, 1) := lcD_4 (lcR_B (by decide +kernel))
theorem dL_law_681 : decode cL_law 681 = .ok (.iadd, 1) := lcD_96 (lcR_B (by decide +kernel))
theorem dL_law_682 : decode cL_law 682 = .ok (.iaload, 1) := lcD_46 (lcR_B (by decide +kernel))
theorem dL_law_683 : decode cL_law 683 = .ok (.invokevirtual 85, 3) := lcD_182 (a := 0) (b := 85) (lcR3_B (by decide +kernel)) (by decide +kernel)
theorem dL_law_686 : decode cL_law 686 = .ok (.pop, 1) := lcD_87 (lcR_B (by decide +kernel))
theorem dL_law_687 : decode cL_law 687 = .ok (.aload_n 2, 1) := lcD_44 (lcR_B (by decide +kernel))
theorem dL_law_688 : decode cL_law 688 = .ok (.aload_n 0, 1) := lcD_42 (lcR_B (by decide +kernel))
theorem dL_law_689 : decode cL_law 689 = .ok (.iload_n 3, 1) := lcD_29 (lcR_B (by decide +kernel))
theorem dL_law_690 : decode cL_law 690 = .ok (.iconst 1, 1) := lcD_4 (lcR_B (by decide +kernel))
theorem dL_law_691 : decode cL_law 691 = .ok (.iadd, 1) := lcD_96 (lcR_B (by decide +kernel))
theorem dL_law_692 : decode cL_law 692 = .ok (.iaload, 1) := lcD_46 (lcR_B (by decide +kernel))
theorem dL_law_693 : decode cL_law 693 = .ok (.invokevirtual 88, 3) := lcD_182 (a := 0) (b := 88) (lcR3_B (by decide +kernel)) (by decide +kernel)
theorem dL_law_696 : decode cL_law 696 = .ok (.pop, 1) := lcD_87 (lcR_B (by decide +kernel))
theorem dL_law_697 : decode cL_law 697 = .ok (.goto 805, 3) := lcD_167 (a := 3) (b := 37) (lcR3_B (by decide +kernel)) (by decide +kernel)
theorem dL_law_700 : decode cL_law 700 = .ok (.aload_n 1, 1) := lcD_43 (lcR_B (by decide +kernel))
theorem dL_law_701 : decode cL_law 701 = .ok (.aload_n 0, 1) := lcD_42 (lcR_B (by decide +kernel))
theorem dL_law_702 : decode cL_law 702 = .ok (.iload_n 3, 1) := lcD_29 (lcR_B (by decide +kernel))
theorem dL_law_703 : decode cL_law 703 = .ok (.iconst 1, 1) := lcD_4 (lcR_B (by decide +kernel))
theorem dL_law_704 : decode cL_law 704 = .ok (.iadd, 1) := lcD_96 (lcR_B (by decide +kernel))
theorem dL_law_705 : decode cL_law 705 = .ok (.iaload, 1) := lcD_46 (lcR_B (by decide +kernel))
theorem dL_law_706 : decode cL_law 706 = .ok (.invokevirtual 89, 3) := lcD_182 (a := 0) (b := 89) (lcR3_B (by decide +kernel)) (by decide +kernel)
theorem dL_law_709 : decode cL_law 709 = .ok (.pop, 1) := lcD_87 (lcR_B (by decide +kernel))
theorem dL_law_710 : decode cL_law 710 = .ok (.aload_n 2, 1) := lcD_44 (lcR_B (by decide +kernel))
theorem dL_law_711 : decode cL_law 711 = .ok (.aload_n 0, 1) := lcD_42 (lcR_B (by decide +kernel))
theorem dL_law_712 : decode cL_law 712 = .ok (.iload_n 3, 1) := lcD_29 (lcR_B (by decide +kernel))
theorem dL_law_713 : decode cL_law 713 = .ok (.iconst 1, 1) := lcD_4 (lcR_B (by decide +kernel))
theorem dL_law_714 : decode cL_law 714 = .ok (.iadd, 1) := lcD_96 (lcR_B (by decide +kernel))
theorem dL_law_715 : decode cL_law 715 = .ok (.iaload, 1) := lcD_46 (lcR_B (by decide +kernel))
theorem dL_law_716 : decode cL_law 716 = .ok (.invokevirtual 92, 3) := lcD_182 (a := 0) (b := 92) (lcR3_B (by decide +kernel)) (by decide +kernel)
theorem dL_law_719 : decode cL_law 719 = .ok (.pop, 1) := lcD_87 (lcR_B (by decide +kernel))
theorem dL_law_720 : decode cL_law 720 = .ok (.goto 782, 3) := lcD_167 (a := 3) (b := 14) (lcR3_B (by decide +kernel)) (by decide +kernel)
theorem dL_law_723 : decode cL_law 723 = .ok (.aload_n 1, 1) := lcD_43 (lcR_B (by decide +kernel))
theorem dL_law_724 : decode cL_law 724 = .ok (.aload_n 0, 1) := lcD_42 (lcR_B (by decide +kernel))
theorem dL_law_725 : decode cL_law 725 = .ok (.iload_n 3, 1) := lcD_29 (lcR_B (by decide +kernel))
theorem dL_law_726 : decode cL_law 726 = .ok (.iconst 1, 1) := lcD_4 (lcR_B (by decide +kernel))
theorem dL_law_727 : decode cL_law 727 = .ok (.iadd, 1) := lcD_96 (lcR_B (by decide +kernel))
theorem dL_law_728 : decode cL_law 728 = .ok (.iaload, 1) := lcD_46 (lcR_B (by decide +kernel))
theorem dL_law_729 : decode cL_law 729 = .ok (.aload_n 0, 1) := lcD_42 (lcR_B (by decide +kernel))
theorem dL_law_730 : decode cL_law 730 = .ok (.iload_n 3, 1) := lcD_29 (lcR_B (by decide +kernel))
theorem dL_law_731 : decode cL_law 731 = .ok (.iconst 2, 1) := lcD_5 (lcR_B (by decide +kernel))
theorem dL_law_732 : decode cL_law 732 = .ok (.iadd, 1) := lcD_96 (lcR_B (by decide +kernel))
theorem dL_law_733 : decode cL_law 733 = .ok (.iaload, 1) := lcD_46 (lcR_B (by decide +kernel))
theorem dL_law_734 : decode cL_law 734 = .ok (.invokevirtual 93, 3) := lcD_182 (a := 0) (b := 93) (lcR3_B (by decide +kernel)) (by decide +kernel)
theorem dL_law_737 : decode cL_law 737 = .ok (.pop, 1) := lcD_87 (lcR_B (by decide +kernel))
theorem dL_law_738 : decode cL_law 738 = .ok (.aload_n 2, 1) := lcD_44 (lcR_B (by decide +kernel))
theorem dL_law_739 : decode cL_law 739 = .ok (.aload_n 0, 1) := lcD_42 (lcR_B (by decide +kernel))
theorem dL_law_740 : decode cL_law 740 = .ok (.iload_n 3, 1) := lcD_29 (lcR_B (by decide +kernel))
theorem dL_law_741 : decode cL_law 741 = .ok (.iconst 1, 1) := lcD_4 (lcR_B (by decide +kernel))
theorem dL_law_742 : decode cL_law 742 = .ok (.iadd, 1) := lcD_96 (lcR_B (by decide +kernel))
theorem dL_law_743 : decode cL_law 743 = .ok (.iaload, 1) := lcD_46 (lcR_B (by decide +kernel))
theorem dL_law_744 : decode cL_law 744 = .ok (.aload_n 0, 1) := lcD_42 (lcR_B (by decide +kernel))
theorem dL_law_745 : decode cL_law 745 = .ok (.iload_n 3, 1) := lcD_29 (lcR_B (by decide +kernel))
theorem dL_law_746 : decode cL_law 746 = .ok (.iconst 2, 1) := lcD_5 (lcR_B (by decide +kernel))
theorem dL_law_747 : decode cL_law 747 = .ok (.iadd, 1) := lcD_96 (lcR_B (by decide +kernel))
theorem dL_law_748 : decode cL_law 748 = .ok (.iaload, 1) := lcD_46 (lcR_B (by decide +kernel))
theorem dL_law_749 : decode cL_law 749 = .ok (.invokevirtual 96, 3) := lcD_182 (a := 0) (b := 96) (lcR3_B (by decide +kernel)) (by decide +kernel)
theorem dL_law_752 : decode cL_law 752 = .ok (.pop, 1) := lcD_87 (lcR_B (by decide +kernel))
theorem dL_law_753 : decode cL_law 753 = .ok (.goto 749, 3) := lcD_167 (a := 2) (b := 237) (lcR3_B (by decide +kernel)) (by decide +kernel)
theorem dL_law_756 : decode cL_law 756 = .ok (.aload_n 1, 1) := lcD_43 (lcR_B (by decide +kernel))
theorem dL_law_757 : decode cL_law 757 = .ok (.aload_n 0, 1) := lcD_42 (lcR_B (by decide +kernel))
theorem dL_law_758 : decode cL_law 758 = .ok (.iload_n 3, 1) := lcD_29 (lcR_B (by decide +kernel))
theorem dL_law_759 : decode cL_law 759 = .ok (.iconst 1, 1) := lcD_4 (lcR_B (by decide +kernel))
theorem dL_law_760 : decode cL_law 760 = .ok (.iadd, 1) := lcD_96 (lcR_B (by decide +kernel))
theorem dL_law_761 : decode cL_law 761 = .ok (.iaload, 1) := lcD_46 (lcR_B (by decide +kernel))
theorem dL_law_762 : decode cL_law 762 = .ok (.aload_n 0, 1) := lcD_42 (lcR_B (by decide +kernel))
theorem dL_law_763 : decode cL_law 763 = .ok (.iload_n 3, 1) := lcD_29 (lcR_B (by decide +kernel))
theorem dL_law_764 : decode cL_law 764 = .ok (.iconst 2, 1) := lcD_5 (lcR_B (by decide +kernel))
theorem dL_law_765 : decode cL_law 765 = .ok (.iadd, 1) := lcD_96 (lcR_B (by decide +kernel))
theorem dL_law_766 : decode cL_law 766 = .ok (.iaload, 1) := lcD_46 (lcR_B (by decide +kernel))
theorem dL_law_767 : decode cL_law 767 = .ok (.aload_n 0, 1) := lcD_42 (lcR_B (by decide +kernel))
theorem dL_law_768 : decode cL_law 768 = .ok (.iload_n 3, 1) := lcD_29 (lcR_B (by decide +kernel))
theorem dL_law_769 : decode cL_law 769 = .ok (.iconst 3, 1) := lcD_6 (lcR_B (by decide +kernel))
theorem dL_law_770 : decode cL_law 770 = .ok (.iadd, 1) := lcD_96 (lcR_B (by decide +kernel))
theorem dL_law_771 : decode cL_law 771 = .ok (.iaload, 1) := lcD_46 (lcR_B (by decide +kernel))
theorem dL_law_772 : decode cL_law 772 = .ok (.invokevirtual 97, 3) := lcD_182 (a := 0) (b := 97) (lcR3_B (by decide +kernel)) (by decide +kernel)
theorem dL_law_775 : decode cL_law 775 = .ok (.pop, 1) := lcD_87 (lcR_B (by decide +kernel))
theorem dL_law_776 : decode cL_law 776 = .ok (.aload_n 2, 1) := lcD_44 (lcR_B (by decide +kernel))
theorem dL_law_777 : decode cL_law 777 = .ok (.aload_n 0, 1) := lcD_42 (lcR_B (by decide +kernel))
theorem dL_law_778 : decode cL_law 778 = .ok (.iload_n 3, 1) := lcD_29 (lcR_B (by decide +kernel))
theorem dL_law_779 : decode cL_law 779 = .ok (.iconst 1, 1) := lcD_4 (lcR_B (by decide +kernel))
theorem dL_law_780 : decode cL_law 780 = .ok (.iadd, 1) := lcD_96 (lcR_B (by decide +kernel))
theorem dL_law_781 : decode cL_law 781 = .ok (.iaload, 1) := lcD_46 (lcR_B (by decide +kernel))
theorem dL_law_782 : decode cL_law 782 = .ok (.aload_n 0, 1) := lcD_42 (lcR_B (by decide +kernel))
theorem dL_law_783 : decode cL_law 783 = .ok (.iload_n 3, 1) := lcD_29 (lcR_B (by decide +kernel))
theorem dL_law_784 : decode cL_law 784 = .ok (.iconst 2, 1) := lcD_5 (lcR_B (by decide +kernel))
theorem dL_law_785 : decode cL_law 785 = .ok (.iadd, 1) := lcD_96 (lcR_B (by decide +kernel))
theorem dL_law_786 : decode cL_law 786 = .ok (.iaload, 1) := lcD_46 (lcR_B (by decide +kernel))
theorem dL_law_787 : decode cL_law 787 = .ok (.aload_n 0, 1) := lcD_42 (lcR_B (by decide +kernel))
theorem dL_law_788 : decode cL_law 788 = .ok (.iload_n 3, 1) := lcD_29 (lcR_B (by decide +kernel))
theorem dL_law_789 : decode cL_law 789 = .ok (.iconst 3, 1) := lcD_6 (lcR_B (by decide +kernel))
theorem dL_law_790 : decode cL_law 790 = .ok (.iadd, 1) := lcD_96 (lcR_B (by decide +kernel))
theorem dL_law_791 : decode cL_law 791 = .ok (.iaload, 1) := lcD_46 (lcR_B (by decide +kernel))
theorem dL_law_792 : decode cL_law 792 = .ok (.invokevirtual 100, 3) := lcD_182 (a := 0) (b := 100) (lcR3_B (by decide +kernel)) (by decide +kernel)
theorem dL_law_795 : decode cL_law 795 = .ok (.pop, 1) := lcD_87 (lcR_B (by decide +kernel))
theorem dL_law_796 : decode cL_law 796 = .ok (.goto 706, 3) := lcD_167 (a := 2) (b := 194) (lcR3_B (by decide +kernel)) (by decide +kernel)
theorem dL_law_799 : decode cL_law 799 = .ok (.aload_n 1, 1) := lcD_43 (lcR_B (by decide +kernel))
theorem dL_law_800 : decode cL_law 800 = .ok (.aload_n 0, 1) := lcD_42 (lcR_B (by decide +kernel))
theorem dL_law_801 : decode cL_law 801 = .ok (.iload_n 3, 1) := lcD_29 (lcR_B (by decide +kernel))
theorem dL_law_802 : decode cL_law 802 = .ok (.iconst 1, 1) := lcD_4 (lcR_B (by decide +kernel))
theorem dL_law_803 : decode cL_law 803 = .ok (.iadd, 1) := lcD_96 (lcR_B (by decide +kernel))
theorem dL_law_804 : decode cL_law 804 = .ok (.iaload, 1) := lcD_46 (lcR_B (by decide +kernel))
theorem dL_law_805 : decode cL_law 805 = .ok (.aload_n 0, 1) := lcD_42 (lcR_B (by decide +kernel))
theorem dL_law_806 : decode cL_law 806 = .ok (.iload_n 3, 1) := lcD_29 (lcR_B (by decide +kernel))
theorem dL_law_807 : decode cL_law 807 = .ok (.iconst 2, 1) := lcD_5 (lcR_B (by decide +kernel))
theorem dL_law_808 : decode cL_law 808 = .ok (.iadd, 1) := lcD_96 (lcR_B (by decide +kernel))
theorem dL_law_809 : decode cL_law 809 = .ok (.iaload, 1) := lcD_46 (lcR_B (by decide +kernel))
theorem dL_law_810 : decode cL_law 810 = .ok (.invokevirtual 101, 3) := lcD_182 (a := 0) (b := 101) (lcR3_B (by decide +kernel)) (by decide +kernel)
theorem dL_law_813 : decode cL_law 813 = .ok (.pop, 1) := lcD_87 (lcR_B (by decide +kernel))
theorem dL_law_814 : decode cL_law 814 = .ok (.aload_n 2, 1) := lcD_44 (lcR_B (by decide +kernel))
theorem dL_law_815 : decode cL_law 815 = .ok (.aload_n 0, 1) := lcD_42 (lcR_B (by decide +kernel))
theorem dL_law_816 : decode cL_law 816 = .ok (.iload_n 3, 1) := lcD_29 (lcR_B (by decide +kernel))
theorem dL_law_817 : decode cL_law 817 = .ok (.iconst 1, 1) := lcD_4 (lcR_B (by decide +kernel))
theorem dL_law_818 : decode cL_law 818 = .ok (.iadd, 1) := lcD_96 (lcR_B (by decide +kernel))
theorem dL_law_819 : decode cL_law 819 = .ok (.iaload, 1) := lcD_46 (lcR_B (by decide +kernel))
theorem dL_law_820 : decode cL_law 820 = .ok (.aload_n 0, 1) := lcD_42 (lcR_B (by decide +kernel))
theorem dL_law_821 : decode cL_law 821 = .ok (.iload_n 3, 1) := lcD_29 (lcR_B (by decide +kernel))
theorem dL_law_822 : decode cL_law 822 = .ok (.iconst 2, 1) := lcD_5 (lcR_B (by decide +kernel))
theorem dL_law_823 : decode cL_law 823 = .ok (.iadd, 1) := lcD_96 (lcR_B (by decide +kernel))
theorem dL_law_824 : decode cL_law 824 = .ok (.iaload, 1) := lcD_46 (lcR_B (by decide +kernel))
theorem dL_law_825 : decode cL_law 825 = .ok (.invokevirtual 104, 3) := lcD_182 (a := 0) (b := 104) (lcR3_B (by decide +kernel)) (by decide +kernel)
theorem dL_law_828 : decode cL_law 828 = .ok (.pop, 1) := lcD_87 (lcR_B (by decide +kernel))
theorem dL_law_829 : decode cL_law 829 = .ok (.goto 673, 3) := lcD_167 (a := 2) (b := 161) (lcR3_B (by decide +kernel)) (by decide +kernel)
theorem dL_law_832 : decode cL_law 832 = .ok (.aload_n 1, 1) := lcD_43 (lcR_B (by decide +kernel))
theorem dL_law_833 : decode cL_law 833 = .ok (.aload_n 0, 1) := lcD_42 (lcR_B (by decide +kernel))
theorem dL_law_834 : decode cL_law 834 = .ok (.iload_n 3, 1) := lcD_29 (lcR_B (by decide +kernel))
theorem dL_law_835 : decode cL_law 835 = .ok (.iconst 1, 1) := lcD_4 (lcR_B (by decide +kernel))
theorem dL_law_836 : decode cL_law 836 = .ok (.iadd, 1) := lcD_96 (lcR_B (by decide +kernel))
theorem dL_law_837 : decode cL_law 837 = .ok (.iaload, 1) := lcD_46 (lcR_B (by decide +kernel))
theorem dL_law_838 : decode cL_law 838 = .ok (.aload_n 0, 1) := lcD_42 (lcR_B (by decide +kernel))
theorem dL_law_839 : decode cL_law 839 = .ok (.iload_n 3, 1) := lcD_29 (lcR_B (by decide +kernel))
theorem dL_law_840 : decode cL_law 840 = .ok (.iconst 2, 1) := lcD_5 (lcR_B (by decide +kernel))
theorem dL_law_841 : decode cL_law 841 = .ok (.iadd, 1) := lcD_96 (lcR_B (by decide +kernel))
theorem dL_law_842 : decode cL_law 842 = .ok (.iaload, 1) := lcD_46 (lcR_B (by decide +kernel))
theorem dL_law_843 : decode cL_law 843 = .ok (.aload_n 0, 1) := lcD_42 (lcR_B (by decide +kernel))
theorem dL_law_844 : decode cL_law 844 = .ok (.iload_n 3, 1) := lcD_29 (lcR_B (by decide +kernel))
theorem dL_law_845 : decode cL_law 845 = .ok (.iconst 3, 1) := lcD_6 (lcR_B (by decide +kernel))
theorem dL_law_846 : decode cL_law 846 = .ok (.iadd, 1) := lcD_96 (lcR_B (by decide +kernel))
theorem dL_law_847 : decode cL_law 847 = .ok (.iaload, 1) := lcD_46 (lcR_B (by decide +kernel))
theorem dL_law_848 : decode cL_law 848 = .ok (.invokevirtual 105, 3) := lcD_182 (a := 0) (b := 105) (lcR3_B (by decide +kernel)) (by decide +kernel)
theorem dL_law_851 : decode cL_law 851 = .ok (.pop, 1) := lcD_87 (lcR_B (by decide +kernel))
theorem dL_law_852 : decode cL_law 852 = .ok (.aload_n 2, 1) := lcD_44 (lcR_B (by decide +kernel))
theorem dL_law_853 : decode cL_law 853 = .ok (.aload_n 0, 1) := lcD_42 (lcR_B (by decide +kernel))
theorem dL_law_854 : decode cL_law 854 = .ok (.iload_n 3, 1) := lcD_29 (lcR_B (by decide +kernel))
theorem dL_law_855 : decode cL_law 855 = .ok (.iconst 1, 1) := lcD_4 (lcR_B (by decide +kernel))
theorem dL_law_856 : decode cL_law 856 = .ok (.iadd, 1) := lcD_96 (lcR_B (by decide +kernel))
theorem dL_law_857 : decode cL_law 857 = .ok (.iaload, 1) := lcD_46 (lcR_B (by decide +kernel))
theorem dL_law_858 : decode cL_law 858 = .ok (.aload_n 0, 1) := lcD_42 (lcR_B (by decide +kernel))
theorem dL_law_859 : decode cL_law 859 = .ok (.iload_n 3, 1) := lcD_29 (lcR_B (by decide +kernel))
theorem dL_law_860 : decode cL_law 860 = .ok (.iconst 2, 1) := lcD_5 (lcR_B (by decide +kernel))
theorem dL_law_861 : decode cL_law 861 = .ok (.iadd, 1) := lcD_96 (lcR_B (by decide +kernel))
theorem dL_law_862 : decode cL_law 862 = .ok (.iaload, 1) := lcD_46 (lcR_B (by decide +kernel))
theorem dL_law_863 : decode cL_law 863 = .ok (.aload_n 0, 1) := lcD_42 (lcR_B (by decide +kernel))
theorem dL_law_864 : decode cL_law 864 = .ok (.iload_n 3, 1) := lcD_29 (lcR_B (by decide +kernel))
theorem dL_law_865 : decode cL_law 865 = .ok (.iconst 3, 1) := lcD_6 (lcR_B (by decide +kernel))
theorem dL_law_866 : decode cL_law 866 = .ok (.iadd, 1) := lcD_96 (lcR_B (by decide +kernel))
theorem dL_law_867 : decode cL_law 867 = .ok (.iaload, 1) := lcD_46 (lcR_B (by decide +kernel))
theorem dL_law_868 : decode cL_law 868 = .ok (.invokevirtual 108, 3) := lcD_182 (a := 0) (b := 108) (lcR3_B (by decide +kernel)) (by decide +kernel)
theorem dL_law_871 : decode cL_law 871 = .ok (.pop, 1) := lcD_87 (lcR_B (by decide +kernel))
theorem dL_law_872 : decode cL_law 872 = .ok (.goto 630, 3) := lcD_167 (a := 2) (b := 118) (lcR3_B (by decide +kernel)) (by decide +kernel)
theorem dL_law_875 : decode cL_law 875 = .ok (.aload_n 1, 1) := lcD_43 (lcR_B (by decide +kernel))
theorem dL_law_876 : decode cL_law 876 = .ok (.aload_n 0, 1) := lcD_42 (lcR_B (by decide +kernel))
theorem dL_law_877 : decode cL_law 877 = .ok (.iload_n 3, 1) := lcD_29 (lcR_B (by decide +kernel))
theorem dL_law_878 : decode cL_law 878 = .ok (.iconst 1, 1) := lcD_4 (lcR_B (by decide +kernel))
theorem dL_law_879 : decode cL_law 879 = .ok (.iadd, 1) := lcD_96 (lcR_B (by decide +kernel))
theorem dL_law_880 : decode cL_law 880 = .ok (.iaload, 1) := lcD_46 (lcR_B (by decide +kernel))
theorem dL_law_881 : decode cL_law 881 = .ok (.aload_n 0, 1) := lcD_42 (lcR_B (by decide +kernel))
theorem dL_law_882 : decode cL_law 882 = .ok (.iload_n 3, 1) := lcD_29 (lcR_B (by decide +kernel))
theorem dL_law_883 : decode cL_law 883 = .ok (.iconst 2, 1) := lcD_5 (lcR_B (by decide +kernel))
theorem dL_law_884 : decode cL_law 884 = .ok (.iadd, 1) := lcD_96 (lcR_B (by decide +kernel))
theorem dL_law_885 : decode cL_law 885 = .ok (.iaload, 1) := lcD_46 (lcR_B (by decide +kernel))
theorem dL_law_886 : decode cL_law 886 = .ok (.aload_n 0, 1) := lcD_42 (lcR_B (by decide +kernel))
theorem dL_law_887 : decode cL_law 887 = .ok (.iload_n 3, 1) := lcD_29 (lcR_B (by decide +kernel))
theorem dL_law_888 : decode cL_law 888 = .ok (.iconst 3, 1) := lcD_6 (lcR_B (by decide +kernel))
theorem dL_law_889 : decode cL_law 889 = .ok (.iadd, 1) := lcD_96 (lcR_B (by decide +kernel))
theorem dL_law_890 : decode cL_law 890 = .ok (.iaload, 1) := lcD_46 (lcR_B (by decide +kernel))
theorem dL_law_891 : decode cL_law 891 = .ok (.invokevirtual 109, 3) := lcD_182 (a := 0) (b := 109) (lcR3_B (by decide +kernel)) (by decide +kernel)
theorem dL_law_894 : decode cL_law 894 = .ok (.pop, 1) := lcD_87 (lcR_B (by decide +kernel))
theorem dL_law_895 : decode cL_law 895 = .ok (.aload_n 2, 1) := lcD_44 (lcR_B (by decide +kernel))
theorem dL_law_896 : decode cL_law 896 = .ok (.aload_n 0, 1) := lcD_42 (lcR_B (by decide +kernel))
theorem dL_law_897 : decode cL_law 897 = .ok (.iload_n 3, 1) := lcD_29 (lcR_B (by decide +kernel))
theorem dL_law_898 : decode cL_law 898 = .ok (.iconst 1, 1) := lcD_4 (lcR_B (by decide +kernel))
theorem dL_law_899 : decode cL_law 899 = .ok (.iadd, 1) := lcD_96 (lcR_B (by decide +kernel))
theorem dL_law_900 : decode cL_law 900 = .ok (.iaload, 1) := lcD_46 (lcR_B (by decide +kernel))
theorem dL_law_901 : decode cL_law 901 = .ok (.aload_n 0, 1) := lcD_42 (lcR_B (by decide +kernel))
theorem dL_law_902 : decode cL_law 902 = .ok (.iload_n 3, 1) := lcD_29 (lcR_B (by decide +kernel))
theorem dL_law_903 : decode cL_law 903 = .ok (.iconst 2, 1) := lcD_5 (lcR_B (by decide +kernel))
theorem dL_law_904 : decode cL_law 904 = .ok (.iadd, 1) := lcD_96 (lcR_B (by decide +kernel))
theorem dL_law_905 : decode cL_law 905 = .ok (.iaload, 1) := lcD_46 (lcR_B (by decide +kernel))
theorem dL_law_906 : decode cL_law 906 = .ok (.aload_n 0, 1) := lcD_42 (lcR_B (by decide +kernel))
theorem dL_law_907 : decode cL_law 907 = .ok (.iload_n 3, 1) := lcD_29 (lcR_B (by decide +kernel))
theorem dL_law_908 : decode cL_law 908 = .ok (.iconst 3, 1) := lcD_6 (lcR_B (by decide +kernel))
theorem dL_law_909 : decode cL_law 909 = .ok (.iadd, 1) := lcD_96 (lcR_B (by decide +kernel))
theorem dL_law_910 : decode cL_law 910 = .ok (.iaload, 1) := lcD_46 (lcR_B (by decide +kernel))
theorem dL_law_911 : decode cL_law 911 = .ok (.invokevirtual 112, 3) := lcD_182 (a := 0) (b := 112) (lcR3_B (by decide +kernel)) (by decide +kernel)
theorem dL_law_914 : decode cL_law 914 = .ok (.pop, 1) := lcD_87 (lcR_B (by decide +kernel))
theorem dL_law_915 : decode cL_law 915 = .ok (.goto 587, 3) := lcD_167 (a := 2) (b := 75) (lcR3_B (by decide +kernel)) (by decide +kernel)
theorem dL_law_918 : decode cL_law 918 = .ok (.aload_n 1, 1) := lcD_43 (lcR_B (by decide +kernel))
theorem dL_law_919 : decode cL_law 919 = .ok (.aload_n 0, 1) := lcD_42 (lcR_B (by decide +kernel))
theorem dL_law_920 : decode cL_law 920 = .ok (.iload_n 3, 1) := lcD_29 (lcR_B (by decide +kernel))
theorem dL_law_921 : decode cL_law 921 = .ok (.iconst 1, 1) := lcD_4 (lcR_B (by decide +kernel))
theorem dL_law_922 : decode cL_law 922 = .ok (.iadd, 1) := lcD_96 (lcR_B (by decide +kernel))
theorem dL_law_923 : decode cL_law 923 = .ok (.iaload, 1) := lcD_46 (lcR_B (by decide +kernel))
theorem dL_law_924 : decode cL_law 924 = .ok (.aload_n 0, 1) := lcD_42 (lcR_B (by decide +kernel))
theorem dL_law_925 : decode cL_law 925 = .ok (.iload_n 3, 1) := lcD_29 (lcR_B (by decide +kernel))
theorem dL_law_926 : decode cL_law 926 = .ok (.iconst 2, 1) := lcD_5 (lcR_B (by decide +kernel))
theorem dL_law_927 : decode cL_law 927 = .ok (.iadd, 1) := lcD_96 (lcR_B (by decide +kernel))
theorem dL_law_928 : decode cL_law 928 = .ok (.iaload, 1) := lcD_46 (lcR_B (by decide +kernel))
theorem dL_law_929 : decode cL_law 929 = .ok (.invokevirtual 113, 3) := lcD_182 (a := 0) (b := 113) (lcR3_B (by decide +kernel)) (by decide +kernel)
theorem dL_law_932 : decode cL_law 932 = .ok (.aload_n 2, 1) := lcD_44 (lcR_B (by decide +kernel))
theorem dL_law_933 : decode cL_law 933 = .ok (.aload_n 0, 1) := lcD_42 (lcR_B (by decide +kernel))
theorem dL_law_934 : decode cL_law 934 = .ok (.iload_n 3, 1) := lcD_29 (lcR_B (by decide +kernel))
theorem dL_law_935 : decode cL_law 935 = .ok (.iconst 1, 1) := lcD_4 (lcR_B (by decide +kernel))
theorem dL_law_936 : decode cL_law 936 = .ok (.iadd, 1) := lcD_96 (lcR_B (by decide +kernel))
theorem dL_law_937 : decode cL_law 937 = .ok (.iaload, 1) := lcD_46 (lcR_B (by decide +kernel))
theorem dL_law_938 : decode cL_law 938 = .ok (.aload_n 0, 1) := lcD_42 (lcR_B (by decide +kernel))
theorem dL_law_939 : decode cL_law 939 = .ok (.iload_n 3, 1) := lcD_29 (lcR_B (by decide +kernel))
theorem dL_law_940 : decode cL_law 940 = .ok (.iconst 2, 1) := lcD_5 (lcR_B (by decide +kernel))
theorem dL_law_941 : decode cL_law 941 = .ok (.iadd, 1) := lcD_96 (lcR_B (by decide +kernel))
theorem dL_law_942 : decode cL_law 942 = .ok (.iaload, 1) := lcD_46 (lcR_B (by decide +kernel))
theorem dL_law_943 : decode cL_law 943 = .ok (.invokevirtual 116, 3) := lcD_182 (a := 0) (b := 116) (lcR3_B (by decide +kernel)) (by decide +kernel)
theorem dL_law_946 : decode cL_law 946 = .ok (.if_icmp .eq 556, 3) := by decide +kernel
theorem dL_law_951 : decode cL_law 951 = .ok (.aload_n 1, 1) := lcD_43 (lcR_B (by decide +kernel))
theorem dL_law_952 : decode cL_law 952 = .ok (.aload_n 0, 1) := lcD_42 (lcR_B (by decide +kernel))
theorem dL_law_953 : decode cL_law 953 = .ok (.iload_n 3, 1) := lcD_29 (lcR_B (by decide +kernel))
theorem dL_law_954 : decode cL_law 954 = .ok (.iconst 1, 1) := lcD_4 (lcR_B (by decide +kernel))
theorem dL_law_955 : decode cL_law 955 = .ok (.iadd, 1) := lcD_96 (lcR_B (by decide +kernel))
theorem dL_law_956 : decode cL_law 956 = .ok (.iaload, 1) := lcD_46 (lcR_B (by decide +kernel))
theorem dL_law_957 : decode cL_law 957 = .ok (.aload_n 0, 1) := lcD_42 (lcR_B (by decide +kernel))
theorem dL_law_958 : decode cL_law 958 = .ok (.iload_n 3, 1) := lcD_29 (lcR_B (by decide +kernel))
theorem dL_law_959 : decode cL_law 959 = .ok (.iconst 2, 1) := lcD_5 (lcR_B (by decide +kernel))
theorem dL_law_960 : decode cL_law 960 = .ok (.iadd, 1) := lcD_96 (lcR_B (by decide +kernel))
theorem dL_law_961 : decode cL_law 961 = .ok (.iaload, 1) := lcD_46 (lcR_B (by decide +kernel))
theorem dL_law_962 : decode cL_law 962 = .ok (.aload_n 0, 1) := lcD_42 (lcR_B (by decide +kernel))
theorem dL_law_963 : decode cL_law 963 = .ok (.iload_n 3, 1) := lcD_29 (lcR_B (by decide +kernel))
theorem dL_law_964 : decode cL_law 964 = .ok (.iconst 3, 1) := lcD_6 (lcR_B (by decide +kernel))
theorem dL_law_965 : decode cL_law 965 = .ok (.iadd, 1) := lcD_96 (lcR_B (by decide +kernel))
theorem dL_law_966 : decode cL_law 966 = .ok (.iaload, 1) := lcD_46 (lcR_B (by decide +kernel))
theorem dL_law_967 : decode cL_law 967 = .ok (.invokevirtual 117, 3) := lcD_182 (a := 0) (b := 117) (lcR3_B (by decide +kernel)) (by decide +kernel)
theorem dL_law_970 : decode cL_law 970 = .ok (.pop2, 1) := by decide +kernel
theorem dL_law_971 : decode cL_law 971 = .ok (.aload_n 2, 1) := lcD_44 (lcR_B (by decide +kernel))
theorem dL_law_972 : decode cL_law 972 = .ok (.aload_n 0, 1) := lcD_42 (lcR_B (by decide +kernel))
theorem dL_law_973 : decode cL_law 973 = .ok (.iload_n 3, 1) := lcD_29 (lcR_B (by decide +kernel))
theorem dL_law_974 : decode cL_law 974 = .ok (.iconst 1, 1) := lcD_4 (lcR_B (by decide +kernel))
theorem dL_law_975 : decode cL_law 975 = .ok (.iadd, 1) := lcD_96 (lcR_B (by decide +kernel))
theorem dL_law_976 : decode cL_law 976 = .ok (.iaload, 1) := lcD_46 (lcR_B (by decide +kernel))
theorem dL_law_977 : decode cL_law 977 = .ok (.aload_n 0, 1) := lcD_42 (lcR_B (by decide +kernel))
theorem dL_law_978 : decode cL_law 978 = .ok (.iload_n 3, 1) := lcD_29 (lcR_B (by decide +kernel))
theorem dL_law_979 : decode cL_law 979 = .ok (.iconst 2, 1) := lcD_5 (lcR_B (by decide +kernel))
theorem dL_law_980 : decode cL_law 980 = .ok (.iadd, 1) := lcD_96 (lcR_B (by decide +kernel))
theorem dL_law_981 : decode cL_law 981 = .ok (.iaload, 1) := lcD_46 (lcR_B (by decide +kernel))
theorem dL_law_982 : decode cL_law 982 = .ok (.aload_n 0, 1) := lcD_42 (lcR_B (by decide +kernel))
theorem dL_law_983 : decode cL_law 983 = .ok (.iload_n 3, 1) := lcD_29 (lcR_B (by decide +kernel))
theorem dL_law_984 : decode cL_law 984 = .ok (.iconst 3, 1) := lcD_6 (lcR_B (by decide +kernel))
theorem dL_law_985 : decode cL_law 985 = .ok (.iadd, 1) := lcD_96 (lcR_B (by decide +kernel))
theorem dL_law_986 : decode cL_law 986 = .ok (.iaload, 1) := lcD_46 (lcR_B (by decide +kernel))
theorem dL_law_987 : decode cL_law 987 = .ok (.invokevirtual 121, 3) := lcD_182 (a := 0) (b := 121) (lcR3_B (by decide +kernel)) (by decide +kernel)
theorem dL_law_990 : decode cL_law 990 = .ok (.pop2, 1) := by decide +kernel
theorem dL_law_991 : decode cL_law 991 = .ok (.goto 511, 3) := lcD_167 (a := 1) (b := 255) (lcR3_B (by decide +kernel)) (by decide +kernel)
theorem dL_law_994 : decode cL_law 994 = .ok (.aload_n 1, 1) := lcD_43 (lcR_B (by decide +kernel))
theorem dL_law_995 : decode cL_law 995 = .ok (.aload_n 0, 1) := lcD_42 (lcR_B (by decide +kernel))
theorem dL_law_996 : decode cL_law 996 = .ok (.iload_n 3, 1) := lcD_29 (lcR_B (by decide +kernel))
theorem dL_law_997 : decode cL_law 997 = .ok (.iconst 1, 1) := lcD_4 (lcR_B (by decide +kernel))
theorem dL_law_998 : decode cL_law 998 = .ok (.iadd, 1) := lcD_96 (lcR_B (by decide +kernel))
theorem dL_law_999 : decode cL_law 999 = .ok (.iaload, 1) := lcD_46 (lcR_B (by decide +kernel))
theorem dL_law_1000 : decode cL_law 1000 = .ok (.aload_n 0, 1) := lcD_42 (lcR_B (by decide +kernel))
theorem dL_law_1001 : decode cL_law 1001 = .ok (.iload_n 3, 1) := lcD_29 (lcR_B (by decide +kernel))
theorem dL_law_1002 : decode cL_law 1002 = .ok (.iconst 2, 1) := lcD_5 (lcR_B (by decide +kernel))
theorem dL_law_1003 : decode cL_law 1003 = .ok (.iadd, 1) := lcD_96 (lcR_B (by decide +kernel))
theorem dL_law_1004 : decode cL_law 1004 = .ok (.iaload, 1) := lcD_46 (lcR_B (by decide +kernel))
theorem dL_law_1005 : decode cL_law 1005 = .ok (.invokevirtual 122, 3) := lcD_182 (a := 0) (b := 122) (lcR3_B (by decide +kernel)) (by decide +kernel)
theorem dL_law_1008 : decode cL_law 1008 = .ok (.pop, 1) := lcD_87 (lcR_B (by decide +kernel))
theorem dL_law_1009 : decode cL_law 1009 = .ok (.aload_n 2, 1) := lcD_44 (lcR_B (by decide +kernel))
theorem dL_law_1010 : decode cL_law 1010 = .ok (.aload_n 0, 1) := lcD_42 (lcR_B (by decide +kernel))
theorem dL_law_1011 : decode cL_law 1011 = .ok (.iload_n 3, 1) := lcD_29 (lcR_B (by decide +kernel))
theorem dL_law_1012 : decode cL_law 1012 = .ok (.iconst 1, 1) := lcD_4 (lcR_B (by decide +kernel))
theorem dL_law_1013 : decode cL_law 1013 = .ok (.iadd, 1) := lcD_96 (lcR_B (by decide +kernel))
theorem dL_law_1014 : decode cL_law 1014 = .ok (.iaload, 1) := lcD_46 (lcR_B (by decide +kernel))
theorem dL_law_1015 : decode cL_law 1015 = .ok (.aload_n 0, 1) := lcD_42 (lcR_B (by decide +kernel))
theorem dL_law_1016 : decode cL_law 1016 = .ok (.iload_n 3, 1) := lcD_29 (lcR_B (by decide +kernel))
theorem dL_law_1017 : decode cL_law 1017 = .ok (.iconst 2, 1) := lcD_5 (lcR_B (by decide +kernel))
theorem dL_law_1018 : decode cL_law 1018 = .ok (.iadd, 1) := lcD_96 (lcR_B (by decide +kernel))
theorem dL_law_1019 : decode cL_law 1019 = .ok (.iaload, 1) := lcD_46 (lcR_B (by decide +kernel))
theorem dL_law_1020 : decode cL_law 1020 = .ok (.invokevirtual 125, 3) := lcD_182 (a := 0) (b := 125) (lcR3_B (by decide +kernel)) (by decide +kernel)
theorem dL_law_1023 : decode cL_law 1023 = .ok (.pop, 1) := lcD_87 (lcR_B (by decide +kernel))
theorem dL_law_1024 : decode cL_law 1024 = .ok (.goto 478, 3) := lcD_167 (a := 1) (b := 222) (lcR3_B (by decide +kernel)) (by decide +kernel)
theorem dL_law_1027 : decode cL_law 1027 = .ok (.aload_n 1, 1) := lcD_43 (lcR_B (by decide +kernel))
theorem dL_law_1028 : decode cL_law 1028 = .ok (.aload_n 0, 1) := lcD_42 (lcR_B (by decide +kernel))
theorem dL_law_1029 : decode cL_law 1029 = .ok (.iload_n 3, 1) := lcD_29 (lcR_B (by decide +kernel))
theorem dL_law_1030 : decode cL_law 1030 = .ok (.iconst 1, 1) := lcD_4 (lcR_B (by decide +kernel))
theorem dL_law_1031 : decode cL_law 1031 = .ok (.iadd, 1) := lcD_96 (lcR_B (by decide +kernel))
theorem dL_law_1032 : decode cL_law 1032 = .ok (.iaload, 1) := lcD_46 (lcR_B (by decide +kernel))
theorem dL_law_1033 : decode cL_law 1033 = .ok (.aload_n 0, 1) := lcD_42 (lcR_B (by decide +kernel))
theorem dL_law_1034 : decode cL_law 1034 = .ok (.iload_n 3, 1) := lcD_29 (lcR_B (by decide +kernel))
theorem dL_law_1035 : decode cL_law 1035 = .ok (.iconst 2, 1) := lcD_5 (lcR_B (by decide +kernel))
theorem dL_law_1036 : decode cL_law 1036 = .ok (.iadd, 1) := lcD_96 (lcR_B (by decide +kernel))
theorem dL_law_1037 : decode cL_law 1037 = .ok (.iaload, 1) := lcD_46 (lcR_B (by decide +kernel))
theorem dL_law_1038 : decode cL_law 1038 = .ok (.invokevirtual 126, 3) := lcD_182 (a := 0) (b := 126) (lcR3_B (by decide +kernel)) (by decide +kernel)
theorem dL_law_1041 : decode cL_law 1041 = .ok (.pop, 1) := lcD_87 (lcR_B (by decide +kernel))
theorem dL_law_1042 : decode cL_law 1042 = .ok (.aload_n 2, 1) := lcD_44 (lcR_B (by decide +kernel))
theorem dL_law_1043 : decode cL_law 1043 = .ok (.aload_n 0, 1) := lcD_42 (lcR_B (by decide +kernel))
theorem dL_law_1044 : decode cL_law 1044 = .ok (.iload_n 3, 1) := lcD_29 (lcR_B (by decide +kernel))
theorem dL_law_1045 : decode cL_law 1045 = .ok (.iconst 1, 1) := lcD_4 (lcR_B (by decide +kernel))
theorem dL_law_1046 : decode cL_law 1046 = .ok (.iadd, 1) := lcD_96 (lcR_B (by decide +kernel))
theorem dL_law_1047 : decode cL_law 1047 = .ok (.iaload, 1) := lcD_46 (lcR_B (by decide +kernel))
theorem dL_law_1048 : decode cL_law 1048 = .ok (.aload_n 0, 1) := lcD_42 (lcR_B (by decide +kernel))
theorem dL_law_1049 : decode cL_law 1049 = .ok (.iload_n 3, 1) := lcD_29 (lcR_B (by decide +kernel))
theorem dL_law_1050 : decode cL_law 1050 = .ok (.iconst 2, 1) := lcD_5 (lcR_B (by decide +kernel))
theorem dL_law_1051 : decode cL_law 1051 = .ok (.iadd, 1) := lcD_96 (lcR_B (by decide +kernel))
theorem dL_law_1052 : decode cL_law 1052 = .ok (.iaload, 1) := lcD_46 (lcR_B (by decide +kernel))
theorem dL_law_1053 : decode cL_law 1053 = .ok (.invokevirtual 129, 3) := lcD_182 (a := 0) (b := 129) (lcR3_B (by decide +kernel)) (by decide +kernel)
theorem dL_law_1056 : decode cL_law 1056 = .ok (.pop, 1) := lcD_87 (lcR_B (by decide +kernel))
theorem dL_law_1057 : decode cL_law 1057 = .ok (.goto 445, 3) := lcD_167 (a := 1) (b := 189) (lcR3_B (by decide +kernel)) (by decide +kernel)
theorem dL_law_1060 : decode cL_law 1060 = .ok (.aload_n 1, 1) := lcD_43 (lcR_B (by decide +kernel))
theorem dL_law_1061 : decode cL_law 1061 = .ok (.invokevirtual 130, 3) := lcD_182 (a := 0) (b := 130) (lcR3_B (by decide +kernel)) (by decide +kernel)
theorem dL_law_1064 : decode cL_law 1064 = .ok (.pop, 1) := lcD_87 (lcR_B (by decide +kernel))
theorem dL_law_1065 : decode cL_law 1065 = .ok (.aload_n 2, 1) := lcD_44 (lcR_B (by decide +kernel))
theorem dL_law_1066 : decode cL_law 1066 = .ok (.invokevirtual 133, 3) := lcD_182 (a := 0) (b := 133) (lcR3_B (by decide +kernel)) (by decide +kernel)
theorem dL_law_1069 : decode cL_law 1069 = .ok (.pop, 1) := lcD_87 (lcR_B (by decide +kernel))
theorem dL_law_1070 : decode cL_law 1070 = .ok (.goto 432, 3) := lcD_167 (a := 1) (b := 176) (lcR3_B (by decide +kernel)) (by decide +kernel)
theorem dL_law_1073 : decode cL_law 1073 = .ok (.aload_n 1, 1) := lcD_43 (lcR_B (by decide +kernel))
theorem dL_law_1074 : decode cL_law 1074 = .ok (.invokevirtual 134, 3) := lcD_182 (a := 0) (b := 134) (lcR3_B (by decide +kernel)) (by decide +kernel)
theorem dL_law_1077 : decode cL_law 1077 = .ok (.pop, 1) := lcD_87 (lcR_B (by decide +kernel))
theorem dL_law_1078 : decode cL_law 1078 = .ok (.aload_n 2, 1) := lcD_44 (lcR_B (by decide +kernel))
theorem dL_law_1079 : decode cL_law 1079 = .ok (.invokevirtual 137, 3) := lcD_182 (a := 0) (b := 137) (lcR3_B (by decide +kernel)) (by decide +kernel)
theorem dL_law_1082 : decode cL_law 1082 = .ok (.pop, 1) := lcD_87 (lcR_B (by decide +kernel))
theorem dL_law_1083 : decode cL_law 1083 = .ok (.goto 419, 3) := lcD_167 (a := 1) (b := 163) (lcR3_B (by decide +kernel)) (by decide +kernel)
theorem dL_law_1086 : decode cL_law 1086 = .ok (.aload_n 1, 1) := lcD_43 (lcR_B (by decide +kernel))
theorem dL_law_1087 : decode cL_law 1087 = .ok (.invokevirtual 138, 3) := lcD_182 (a := 0) (b := 138) (lcR3_B (by decide +kernel)) (by decide +kernel)
theorem dL_law_1090 : decode cL_law 1090 = .ok (.pop, 1) := lcD_87 (lcR_B (by decide +kernel))
theorem dL_law_1091 : decode cL_law 1091 = .ok (.aload_n 2, 1) := lcD_44 (lcR_B (by decide +kernel))
theorem dL_law_1092 : decode cL_law 1092 = .ok (.invokevirtual 141, 3) := lcD_182 (a := 0) (b := 141) (lcR3_B (by decide +kernel)) (by decide +kernel)
theorem dL_law_1095 : decode cL_law 1095 = .ok (.pop, 1) := lcD_87 (lcR_B (by decide +kernel))
theorem dL_law_1096 : decode cL_law 1096 = .ok (.goto 406, 3) := lcD_167 (a := 1) (b := 150) (lcR3_B (by decide +kernel)) (by decide +kernel)
theorem dL_law_1099 : decode cL_law 1099 = .ok (.aload_n 1, 1) := lcD_43 (lcR_B (by decide +kernel))
theorem dL_law_1100 : decode cL_law 1100 = .ok (.invokevirtual 142, 3) := lcD_182 (a := 0) (b := 142) (lcR3_B (by decide +kernel)) (by decide +kernel)
theorem dL_law_1103 : decode cL_law 1103 = .ok (.pop, 1) := lcD_87 (lcR_B (by decide +kernel))
theorem dL_law_1104 : decode cL_law 1104 = .ok (.aload_n 2, 1) := lcD_44 (lcR_B (by decide +kernel))
theorem dL_law_1105 : decode cL_law 1105 = .ok (.invokevirtual 145, 3) := lcD_182 (a := 0) (b := 145) (lcR3_B (by decide +kernel)) (by decide +kernel)
theorem dL_law_1108 : decode cL_law 1108 = .ok (.pop, 1) := lcD_87 (lcR_B (by decide +kernel))
theorem dL_law_1109 : decode cL_law 1109 = .ok (.goto 393, 3) := lcD_167 (a := 1) (b := 137) (lcR3_B (by decide +kernel)) (by decide +kernel)
theorem dL_law_1112 : decode cL_law 1112 = .ok (.aload_n 1, 1) := lcD_43 (lcR_B (by decide +kernel))
theorem dL_law_1113 : decode cL_law 1113 = .ok (.aload_n 0, 1) := lcD_42 (lcR_B (by decide +kernel))
theorem dL_law_1114 : decode cL_law 1114 = .ok (.iload_n 3, 1) := lcD_29 (lcR_B (by decide +kernel))
theorem dL_law_1115 : decode cL_law 1115 = .ok (.iconst 1, 1) := lcD_4 (lcR_B (by decide +kernel))
theorem dL_law_1116 : decode cL_law 1116 = .ok (.iadd, 1) := lcD_96 (lcR_B (by decide +kernel))
theorem dL_law_1117 : decode cL_law 1117 = .ok (.iaload, 1) := lcD_46 (lcR_B (by decide +kernel))
theorem dL_law_1118 : decode cL_law 1118 = .ok (.invokevirtual 146, 3) := lcD_182 (a := 0) (b := 146) (lcR3_B (by decide +kernel)) (by decide +kernel)
theorem dL_law_1121 : decode cL_law 1121 = .ok (.pop, 1) := lcD_87 (lcR_B (by decide +kernel))
theorem dL_law_1122 : decode cL_law 1122 = .ok (.aload_n 2, 1) := lcD_44 (lcR_B (by decide +kernel))
theorem dL_law_1123 : decode cL_law 1123 = .ok (.aload_n 0, 1) := lcD_42 (lcR_B (by decide +kernel))
theorem dL_law_1124 : decode cL_law 1124 = .ok (.iload_n 3, 1) := lcD_29 (lcR_B (by decide +kernel))
theorem dL_law_1125 : decode cL_law 1125 = .ok (.iconst 1, 1) := lcD_4 (lcR_B (by decide +kernel))
theorem dL_law_1126 : decode cL_law 1126 = .ok (.iadd, 1) := lcD_96 (lcR_B (by decide +kernel))
theorem dL_law_1127 : decode cL_law 1127 = .ok (.iaload, 1) := lcD_46 (lcR_B (by decide +kernel))
theorem dL_law_1128 : decode cL_law 1128 = .ok (.invokevirtual 149, 3) := lcD_182 (a := 0) (b := 149) (lcR3_B (by decide +kernel)) (by decide +kernel)
theorem dL_law_1131 : decode cL_law 1131 = .ok (.pop, 1) := lcD_87 (lcR_B (by decide +kernel))
theorem dL_law_1132 : decode cL_law 1132 = .ok (.goto 370, 3) := lcD_167 (a := 1) (b := 114) (lcR3_B (by decide +kernel)) (by decide +kernel)
theorem dL_law_1135 : decode cL_law 1135 = .ok (.aload_n 1, 1) := lcD_43 (lcR_B (by decide +kernel))
theorem dL_law_1136 : decode cL_law 1136 = .ok (.aload_n 0, 1) := lcD_42 (lcR_B (by decide +kernel))
theorem dL_law_1137 : decode cL_law 1137 = .ok (.iload_n 3, 1) := lcD_29 (lcR_B (by decide +kernel))
theorem dL_law_1138 : decode cL_law 1138 = .ok (.iconst 1, 1) := lcD_4 (lcR_B (by decide +kernel))
theorem dL_law_1139 : decode cL_law 1139 = .ok (.iadd, 1) := lcD_96 (lcR_B (by decide +kernel))
theorem dL_law_1140 : decode cL_law 1140 = .ok (.iaload, 1) := lcD_46 (lcR_B (by decide +kernel))
theorem dL_law_1141 : decode cL_law 1141 = .ok (.aload_n 0, 1) := lcD_42 (lcR_B (by decide +kernel))
theorem dL_law_1142 : decode cL_law 1142 = .ok (.iload_n 3, 1) := lcD_29 (lcR_B (by decide +kernel))
theorem dL_law_1143 : decode cL_law 1143 = .ok (.iconst 2, 1) := lcD_5 (lcR_B (by decide +kernel))
theorem dL_law_1144 : decode cL_law 1144 = .ok (.iadd, 1) := lcD_96 (lcR_B (by decide +kernel))
theorem dL_law_1145 : decode cL_law 1145 = .ok (.iaload, 1) := lcD_46 (lcR_B (by decide +kernel))
theorem dL_law_1146 : decode cL_law 1146 = .ok (.aload_n 0, 1) := lcD_42 (lcR_B (by decide +kernel))
theorem dL_law_1147 : decode cL_law 1147 = .ok (.iload_n 3, 1) := lcD_29 (lcR_B (by decide +kernel))
theorem dL_law_1148 : decode cL_law 1148 = .ok (.iconst 3, 1) := lcD_6 (lcR_B (by decide +kernel))
theorem dL_law_1149 : decode cL_law 1149 = .ok (.iadd, 1) := lcD_96 (lcR_B (by decide +kernel))
theorem dL_law_1150 : decode cL_law 1150 = .ok (.iaload, 1) := lcD_46 (lcR_B (by decide +kernel))
theorem dL_law_1151 : decode cL_law 1151 = .ok (.invokevirtual 150, 3) := lcD_182 (a := 0) (b := 150) (lcR3_B (by decide +kernel)) (by decide +kernel)
theorem dL_law_1154 : decode cL_law 1154 = .ok (.pop, 1) := lcD_87 (lcR_B (by decide +kernel))
theorem dL_law_1155 : decode cL_law 1155 = .ok (.aload_n 2, 1) := lcD_44 (lcR_B (by decide +kernel))
theorem dL_law_1156 : decode cL_law 1156 = .ok (.aload_n 0, 1) := lcD_42 (lcR_B (by decide +kernel))
theorem dL_law_1157 : decode cL_law 1157 = .ok (.iload_n 3, 1) := lcD_29 (lcR_B (by decide +kernel))
theorem dL_law_1158 : decode cL_law 1158 = .ok (.iconst 1, 1) := lcD_4 (lcR_B (by decide +kernel))
theorem dL_law_1159 : decode cL_law 1159 = .ok (.iadd, 1) := lcD_96 (lcR_B (by decide +kernel))
theorem dL_law_1160 : decode cL_law 1160 = .ok (.iaload, 1) := lcD_46 (lcR_B (by decide +kernel))
theorem dL_law_1161 : decode cL_law 1161 = .ok (.aload_n 0, 1) := lcD_42 (lcR_B (by decide +kernel))
theorem dL_law_1162 : decode cL_law 1162 = .ok (.iload_n 3, 1) := lcD_29 (lcR_B (by decide +kernel))
theorem dL_law_1163 : decode cL_law 1163 = .ok (.iconst 2, 1) := lcD_5 (lcR_B (by decide +kernel))
theorem dL_law_1164 : decode cL_law 1164 = .ok (.iadd, 1) := lcD_96 (lcR_B (by decide +kernel))
theorem dL_law_1165 : decode cL_law 1165 = .ok (.iaload, 1) := lcD_46 (lcR_B (by decide +kernel))
theorem dL_law_1166 : decode cL_law 1166 = .ok (.aload_n 0, 1) := lcD_42 (lcR_B (by decide +kernel))
theorem dL_law_1167 : decode cL_law 1167 = .ok (.iload_n 3, 1) := lcD_29 (lcR_B (by decide +kernel))
theorem dL_law_1168 : decode cL_law 1168 = .ok (.iconst 3, 1) := lcD_6 (lcR_B (by decide +kernel))
theorem dL_law_1169 : decode cL_law 1169 = .ok (.iadd, 1) := lcD_96 (lcR_B (by decide +kernel))
theorem dL_law_1170 : decode cL_law 1170 = .ok (.iaload, 1) := lcD_46 (lcR_B (by decide +kernel))
theorem dL_law_1171 : decode cL_law 1171 = .ok (.invokevirtual 153, 3) := lcD_182 (a := 0) (b := 153) (lcR3_B (by decide +kernel)) (by decide +kernel)
theorem dL_law_1174 : decode cL_law 1174 = .ok (.pop, 1) := lcD_87 (lcR_B (by decide +kernel))
theorem dL_law_1175 : decode cL_law 1175 = .ok (.goto 327, 3) := lcD_167 (a := 1) (b := 71) (lcR3_B (by decide +kernel)) (by decide +kernel)
theorem dL_law_1178 : decode cL_law 1178 = .ok (.aload_n 1, 1) := lcD_43 (lcR_B (by decide +kernel))
theorem dL_law_1179 : decode cL_law 1179 = .ok (.aload_n 0, 1) := lcD_42 (lcR_B (by decide +kernel))
theorem dL_law_1180 : decode cL_law 1180 = .ok (.iload_n 3, 1) := lcD_29 (lcR_B (by decide +kernel))
theorem dL_law_1181 : decode cL_law 1181 = .ok (.iconst 1, 1) := lcD_4 (lcR_B (by decide +kernel))
theorem dL_law_1182 : decode cL_law 1182 = .ok (.iadd, 1) := lcD_96 (lcR_B (by decide +kernel))
theorem dL_law_1183 : decode cL_law 1183 = .ok (.iaload, 1) := lcD_46 (lcR_B (by decide +kernel))
theorem dL_law_1184 : decode cL_law 1184 = .ok (.invokevirtual 154, 3) := lcD_182 (a := 0) (b := 154) (lcR3_B (by decide +kernel)) (by decide +kernel)
theorem dL_law_1187 : decode cL_law 1187 = .ok (.pop, 1) := lcD_87 (lcR_B (by decide +kernel))
theorem dL_law_1188 : decode cL_law 1188 = .ok (.aload_n 2, 1) := lcD_44 (lcR_B (by decide +kernel))
theorem dL_law_1189 : decode cL_law 1189 = .ok (.aload_n 0, 1) := lcD_42 (lcR_B (by decide +kernel))
theorem dL_law_1190 : decode cL_law 1190 = .ok (.iload_n 3, 1) := lcD_29 (lcR_B (by decide +kernel))
theorem dL_law_1191 : decode cL_law 1191 = .ok (.iconst 1, 1) := lcD_4 (lcR_B (by decide +kernel))
theorem dL_law_1192 : decode cL_law 1192 = .ok (.iadd, 1) := lcD_96 (lcR_B (by decide +kernel))
theorem dL_law_1193 : decode cL_law 1193 = .ok (.iaload, 1) := lcD_46 (lcR_B (by decide +kernel))
theorem dL_law_1194 : decode cL_law 1194 = .ok (.invokevirtual 157, 3) := lcD_182 (a := 0) (b := 157) (lcR3_B (by decide +kernel)) (by decide +kernel)
theorem dL_law_1197 : decode cL_law 1197 = .ok (.pop, 1) := lcD_87 (lcR_B (by decide +kernel))
theorem dL_law_1198 : decode cL_law 1198 = .ok (.goto 304, 3) := lcD_167 (a := 1) (b := 48) (lcR3_B (by decide +kernel)) (by decide +kernel)
theorem dL_law_1201 : decode cL_law 1201 = .ok (.aload_n 1, 1) := lcD_43 (lcR_B (by decide +kernel))
theorem dL_law_1202 : decode cL_law 1202 = .ok (.aload_n 0, 1) := lcD_42 (lcR_B (by decide +kernel))
theorem dL_law_1203 : decode cL_law 1203 = .ok (.iload_n 3, 1) := lcD_29 (lcR_B (by decide +kernel))
theorem dL_law_1204 : decode cL_law 1204 = .ok (.iconst 1, 1) := lcD_4 (lcR_B (by decide +kernel))
theorem dL_law_1205 : decode cL_law 1205 = .ok (.iadd, 1) := lcD_96 (lcR_B (by decide +kernel))
theorem dL_law_1206 : decode cL_law 1206 = .ok (.iaload, 1) := lcD_46 (lcR_B (by decide +kernel))
theorem dL_law_1207 : decode cL_law 1207 = .ok (.aload_n 0, 1) := lcD_42 (lcR_B (by decide +kernel))
theorem dL_law_1208 : decode cL_law 1208 = .ok (.iload_n 3, 1) := lcD_29 (lcR_B (by decide +kernel))
theorem dL_law_1209 : decode cL_law 1209 = .ok (.iconst 2, 1) := lcD_5 (lcR_B (by decide +kernel))
theorem dL_law_1210 : decode cL_law 1210 = .ok (.iadd, 1) := lcD_96 (lcR_B (by decide +kernel))
theorem dL_law_1211 : decode cL_law 1211 = .ok (.iaload, 1) := lcD_46 (lcR_B (by decide +kernel))
theorem dL_law_1212 : decode cL_law 1212 = .ok (.invokevirtual 158, 3) := lcD_182 (a := 0) (b := 158) (lcR3_B (by decide +kernel)) (by decide +kernel)
theorem dL_law_1215 : decode cL_law 1215 = .ok (.pop, 1) := lcD_87 (lcR_B (by decide +kernel))
theorem dL_law_1216 : decode cL_law 1216 = .ok (.aload_n 2, 1) := lcD_44 (lcR_B (by decide +kernel))
theorem dL_law_1217 : decode cL_law 1217 = .ok (.aload_n 0, 1) := lcD_42 (lcR_B (by decide +kernel))
theorem dL_law_1218 : decode cL_law 1218 = .ok (.iload_n 3, 1) := lcD_29 (lcR_B (by decide +kernel))
theorem dL_law_1219 : decode cL_law 1219 = .ok (.iconst 1, 1) := lcD_4 (lcR_B (by decide +kernel))
theorem dL_law_1220 : decode cL_law 1220 = .ok (.iadd, 1) := lcD_96 (lcR_B (by decide +kernel))
theorem dL_law_1221 : decode cL_law 1221 = .ok (.iaload, 1) := lcD_46 (lcR_B (by decide +kernel))
theorem dL_law_1222 : decode cL_law 1222 = .ok (.aload_n 0, 1) := lcD_42 (lcR_B (by decide +kernel))
theorem dL_law_1223 : decode cL_law 1223 = .ok (.iload_n 3, 1) := lcD_29 (lcR_B (by decide +kernel))
theorem dL_law_1224 : decode cL_law 1224 = .ok (.iconst 2, 1) := lcD_5 (lcR_B (by decide +kernel))
theorem dL_law_1225 : decode cL_law 1225 = .ok (.iadd, 1) := lcD_96 (lcR_B (by decide +kernel))
theorem dL_law_1226 : decode cL_law 1226 = .ok (.iaload, 1) := lcD_46 (lcR_B (by decide +kernel))
theorem dL_law_1227 : decode cL_law 1227 = .ok (.invokevirtual 161, 3) := lcD_182 (a := 0) (b := 161) (lcR3_B (by decide +kernel)) (by decide +kernel)
theorem dL_law_1230 : decode cL_law 1230 = .ok (.pop, 1) := lcD_87 (lcR_B (by decide +kernel))
theorem dL_law_1231 : decode cL_law 1231 = .ok (.goto 271, 3) := lcD_167 (a := 1) (b := 15) (lcR3_B (by decide +kernel)) (by decide +kernel)
theorem dL_law_1234 : decode cL_law 1234 = .ok (.aload_n 1, 1) := lcD_43 (lcR_B (by decide +kernel))
theorem dL_law_1235 : decode cL_law 1235 = .ok (.aload_n 0, 1) := lcD_42 (lcR_B (by decide +kernel))
theorem dL_law_1236 : decode cL_law 1236 = .ok (.iload_n 3, 1) := lcD_29 (lcR_B (by decide +kernel))
theorem dL_law_1237 : decode cL_law 1237 = .ok (.iconst 1, 1) := lcD_4 (lcR_B (by decide +kernel))
theorem dL_law_1238 : decode cL_law 1238 = .ok (.iadd, 1) := lcD_96 (lcR_B (by decide +kernel))
theorem dL_law_1239 : decode cL_law 1239 = .ok (.iaload, 1) := lcD_46 (lcR_B (by decide +kernel))
theorem dL_law_1240 : decode cL_law 1240 = .ok (.aload_n 0, 1) := lcD_42 (lcR_B (by decide +kernel))
theorem dL_law_1241 : decode cL_law 1241 = .ok (.iload_n 3, 1) := lcD_29 (lcR_B (by decide +kernel))
theorem dL_law_1242 : decode cL_law 1242 = .ok (.iconst 2, 1) := lcD_5 (lcR_B (by decide +kernel))
theorem dL_law_1243 : decode cL_law 1243 = .ok (.iadd, 1) := lcD_96 (lcR_B (by decide +kernel))
theorem dL_law_1244 : decode cL_law 1244 = .ok (.iaload, 1) := lcD_46 (lcR_B (by decide +kernel))
theorem dL_law_1245 : decode cL_law 1245 = .ok (.aload_n 0, 1) := lcD_42 (lcR_B (by decide +kernel))
theorem dL_law_1246 : decode cL_law 1246 = .ok (.iload_n 3, 1) := lcD_29 (lcR_B (by decide +kernel))
theorem dL_law_1247 : decode cL_law 1247 = .ok (.iconst 3, 1) := lcD_6 (lcR_B (by decide +kernel))
theorem dL_law_1248 : decode cL_law 1248 = .ok (.iadd, 1) := lcD_96 (lcR_B (by decide +kernel))
theorem dL_law_1249 : decode cL_law 1249 = .ok (.iaload, 1) := lcD_46 (lcR_B (by decide +kernel))
theorem dL_law_1250 : decode cL_law 1250 = .ok (.invokevirtual 162, 3) := lcD_182 (a := 0) (b := 162) (lcR3_B (by decide +kernel)) (by decide +kernel)
theorem dL_law_1253 : decode cL_law 1253 = .ok (.pop, 1) := lcD_87 (lcR_B (by decide +kernel))
theorem dL_law_1254 : decode cL_law 1254 = .ok (.aload_n 2, 1) := lcD_44 (lcR_B (by decide +kernel))
theorem dL_law_1255 : decode cL_law 1255 = .ok (.aload_n 0, 1) := lcD_42 (lcR_B (by decide +kernel))
theorem dL_law_1256 : decode cL_law 1256 = .ok (.iload_n 3, 1) := lcD_29 (lcR_B (by decide +kernel))
theorem dL_law_1257 : decode cL_law 1257 = .ok (.iconst 1, 1) := lcD_4 (lcR_B (by decide +kernel))
theorem dL_law_1258 : decode cL_law 1258 = .ok (.iadd, 1) := lcD_96 (lcR_B (by decide +kernel))
theorem dL_law_1259 : decode cL_law 1259 = .ok (.iaload, 1) := lcD_46 (lcR_B (by decide +kernel))
theorem dL_law_1260 : decode cL_law 1260 = .ok (.aload_n 0, 1) := lcD_42 (lcR_B (by decide +kernel))
theorem dL_law_1261 : decode cL_law 1261 = .ok (.iload_n 3, 1) := lcD_29 (lcR_B (by decide +kernel))
theorem dL_law_1262 : decode cL_law 1262 = .ok (.iconst 2, 1) := lcD_5 (lcR_B (by decide +kernel))
theorem dL_law_1263 : decode cL_law 1263 = .ok (.iadd, 1) := lcD_96 (lcR_B (by decide +kernel))
theorem dL_law_1264 : decode cL_law 1264 = .ok (.iaload, 1) := lcD_46 (lcR_B (by decide +kernel))
theorem dL_law_1265 : decode cL_law 1265 = .ok (.aload_n 0, 1) := lcD_42 (lcR_B (by decide +kernel))
theorem dL_law_1266 : decode cL_law 1266 = .ok (.iload_n 3, 1) := lcD_29 (lcR_B (by decide +kernel))
theorem dL_law_1267 : decode cL_law 1267 = .ok (.iconst 3, 1) := lcD_6 (lcR_B (by decide +kernel))
theorem dL_law_1268 : decode cL_law 1268 = .ok (.iadd, 1) := lcD_96 (lcR_B (by decide +kernel))
theorem dL_law_1269 : decode cL_law 1269 = .ok (.iaload, 1) := lcD_46 (lcR_B (by decide +kernel))
theorem dL_law_1270 : decode cL_law 1270 = .ok (.invokevirtual 165, 3) := lcD_182 (a := 0) (b := 165) (lcR3_B (by decide +kernel)) (by decide +kernel)
theorem dL_law_1273 : decode cL_law 1273 = .ok (.pop, 1) := lcD_87 (lcR_B (by decide +kernel))
theorem dL_law_1274 : decode cL_law 1274 = .ok (.goto 228, 3) := lcD_167 (a := 0) (b := 228) (lcR3_B (by decide +kernel)) (by decide +kernel)
theorem dL_law_1277 : decode cL_law 1277 = .ok (.aload_n 1, 1) := lcD_43 (lcR_B (by decide +kernel))
theorem dL_law_1278 : decode cL_law 1278 = .ok (.aload_n 0, 1) := lcD_42 (lcR_B (by decide +kernel))
theorem dL_law_1279 : decode cL_law 1279 = .ok (.iload_n 3, 1) := lcD_29 (lcR_B (by decide +kernel))
theorem dL_law_1280 : decode cL_law 1280 = .ok (.iconst 1, 1) := lcD_4 (lcR_B (by decide +kernel))
theorem dL_law_1281 : decode cL_law 1281 = .ok (.iadd, 1) := lcD_96 (lcR_B (by decide +kernel))
theorem dL_law_1282 : decode cL_law 1282 = .ok (.iaload, 1) := lcD_46 (lcR_B (by decide +kernel))
theorem dL_law_1283 : decode cL_law 1283 = .ok (.aload_n 0, 1) := lcD_42 (lcR_B (by decide +kernel))
theorem dL_law_1284 : decode cL_law 1284 = .ok (.iload_n 3, 1) := lcD_29 (lcR_B (by decide +kernel))
theorem dL_law_1285 : decode cL_law 1285 = .ok (.iconst 2, 1) := lcD_5 (lcR_B (by decide +kernel))
theorem dL_law_1286 : decode cL_law 1286 = .ok (.iadd, 1) := lcD_96 (lcR_B (by decide +kernel))
theorem dL_law_1287 : decode cL_law 1287 = .ok (.iaload, 1) := lcD_46 (lcR_B (by decide +kernel))
theorem dL_law_1288 : decode cL_law 1288 = .ok (.aload_n 0, 1) := lcD_42 (lcR_B (by decide +kernel))
theorem dL_law_1289 : decode cL_law 1289 = .ok (.iload_n 3, 1) := lcD_29 (lcR_B (by decide +kernel))
theorem dL_law_1290 : decode cL_law 1290 = .ok (.iconst 3, 1) := lcD_6 (lcR_B (by decide +kernel))
theorem dL_law_1291 : decode cL_law 1291 = .ok (.iadd, 1) := lcD_96 (lcR_B (by decide +kernel))
theorem dL_law_1292 : decode cL_law 1292 = .ok (.iaload, 1) := lcD_46 (lcR_B (by decide +kernel))
theorem dL_law_1293 : decode cL_law 1293 = .ok (.i2l, 1) := by decide +kernel
theorem dL_law_1294 : decode cL_law 1294 = .ok (.bipush 32, 2) := by decide +kernel
theorem dL_law_1296 : decode cL_law 1296 = .ok (.lshl, 1) := by decide +kernel
theorem dL_law_1297 : decode cL_law 1297 = .ok (.aload_n 0, 1) := lcD_42 (lcR_B (by decide +kernel))
theorem dL_law_1298 : decode cL_law 1298 = .ok (.iload_n 3, 1) := lcD_29 (lcR_B (by decide +kernel))
theorem dL_law_1299 : decode cL_law 1299 = .ok (.iconst 4, 1) := lcD_7 (lcR_B (by decide +kernel))
theorem dL_law_1300 : decode cL_law 1300 = .ok (.iadd, 1) := lcD_96 (lcR_B (by decide +kernel))
theorem dL_law_1301 : decode cL_law 1301 = .ok (.iaload, 1) := lcD_46 (lcR_B (by decide +kernel))
theorem dL_law_1302 : decode cL_law 1302 = .ok (.i2l, 1) := by decide +kernel
theorem dL_law_1303 : decode cL_law 1303 = .ok (.ldc2_w 166, 3) := by decide +kernel
theorem dL_law_1306 : decode cL_law 1306 = .ok (.land, 1) := by decide +kernel
theorem dL_law_1307 : decode cL_law 1307 = .ok (.lor, 1) := by decide +kernel
theorem dL_law_1308 : decode cL_law 1308 = .ok (.invokevirtual 168, 3) := lcD_182 (a := 0) (b := 168) (lcR3_B (by decide +kernel)) (by decide +kernel)
theorem dL_law_1311 : decode cL_law 1311 = .ok (.pop, 1) := lcD_87 (lcR_B (by decide +kernel))
theorem dL_law_1312 : decode cL_law 1312 = .ok (.aload_n 2, 1) := lcD_44 (lcR_B (by decide +kernel))
theorem dL_law_1313 : decode cL_law 1313 = .ok (.aload_n 0, 1) := lcD_42 (lcR_B (by decide +kernel))
theorem dL_law_1314 : decode cL_law 1314 = .ok (.iload_n 3, 1) := lcD_29 (lcR_B (by decide +kernel))
theorem dL_law_1315 : decode cL_law 1315 = .ok (.iconst 1, 1) := lcD_4 (lcR_B (by decide +kernel))
theorem dL_law_1316 : decode cL_law 1316 = .ok (.iadd, 1) := lcD_96 (lcR_B (by decide +kernel))
theorem dL_law_1317 : decode cL_law 1317 = .ok (.iaload, 1) := lcD_46 (lcR_B (by decide +kernel))
theorem dL_law_1318 : decode cL_law 1318 = .ok (.aload_n 0, 1) := lcD_42 (lcR_B (by decide +kernel))
theorem dL_law_1319 : decode cL_law 1319 = .ok (.iload_n 3, 1) := lcD_29 (lcR_B (by decide +kernel))
theorem dL_law_1320 : decode cL_law 1320 = .ok (.iconst 2, 1) := lcD_5 (lcR_B (by decide +kernel))
theorem dL_law_1321 : decode cL_law 1321 = .ok (.iadd, 1) := lcD_96 (lcR_B (by decide +kernel))
theorem dL_law_1322 : decode cL_law 1322 = .ok (.iaload, 1) := lcD_46 (lcR_B (by decide +kernel))
theorem dL_law_1323 : decode cL_law 1323 = .ok (.aload_n 0, 1) := lcD_42 (lcR_B (by decide +kernel))
theorem dL_law_1324 : decode cL_law 1324 = .ok (.iload_n 3, 1) := lcD_29 (lcR_B (by decide +kernel))
theorem dL_law_1325 : decode cL_law 1325 = .ok (.iconst 3, 1) := lcD_6 (lcR_B (by decide +kernel))
theorem dL_law_1326 : decode cL_law 1326 = .ok (.iadd, 1) := lcD_96 (lcR_B (by decide +kernel))
theorem dL_law_1327 : decode cL_law 1327 = .ok (.iaload, 1) := lcD_46 (lcR_B (by decide +kernel))
theorem dL_law_1328 : decode cL_law 1328 = .ok (.i2l, 1) := by decide +kernel
theorem dL_law_1329 : decode cL_law 1329 = .ok (.bipush 32, 2) := by decide +kernel
theorem dL_law_1331 : decode cL_law 1331 = .ok (.lshl, 1) := by decide +kernel
theorem dL_law_1332 : decode cL_law 1332 = .ok (.aload_n 0, 1) := lcD_42 (lcR_B (by decide +kernel))
theorem dL_law_1333 : decode cL_law 1333 = .ok (.iload_n 3, 1) := lcD_29 (lcR_B (by decide +kernel))
theorem dL_law_1334 : decode cL_law 1334 = .ok (.iconst 4, 1) := lcD_7 (lcR_B (by decide +kernel))
theorem dL_law_1335 : decode cL_law 1335 = .ok (.iadd, 1) := lcD_96 (lcR_B (by decide +kernel))
theorem dL_law_1336 : decode cL_law 1336 = .ok (.iaload, 1) := lcD_46 (lcR_B (by decide +kernel))
theorem dL_law_1337 : decode cL_law 1337 = .ok (.i2l, 1) := by decide +kernel
theorem dL_law_1338 : decode cL_law 1338 = .ok (.ldc2_w 166, 3) := by decide +kernel
theorem dL_law_1341 : decode cL_law 1341 = .ok (.land, 1) := by decide +kernel
theorem dL_law_1342 : decode cL_law 1342 = .ok (.lor, 1) := by decide +kernel
theorem dL_law_1343 : decode cL_law 1343 = .ok (.invokevirtual 172, 3) := lcD_182 (a := 0) (b := 172) (lcR3_B (by decide +kernel)) (by decide +kernel)
theorem dL_law_1346 : decode cL_law 1346 = .ok (.pop, 1) := lcD_87 (lcR_B (by decide +kernel))
theorem dL_law_1347 : decode cL_law 1347 = .ok (.goto 155, 3) := lcD_167 (a := 0) (b := 155) (lcR3_B (by decide +kernel)) (by decide +kernel)
theorem dL_law_1350 : decode cL_law 1350 = .ok (.aload_n 1, 1) := lcD_43 (lcR_B (by decide +kernel))
theorem dL_law_1351 : decode cL_law 1351 = .ok (.aload_n 0, 1) := lcD_42 (lcR_B (by decide +kernel))
theorem dL_law_1352 : decode cL_law 1352 = .ok (.iload_n 3, 1) := lcD_29 (lcR_B (by decide +kernel))
theorem dL_law_1353 : decode cL_law 1353 = .ok (.iconst 1, 1) := lcD_4 (lcR_B (by decide +kernel))
theorem dL_law_1354 : decode cL_law 1354 = .ok (.iadd, 1) := lcD_96 (lcR_B (by decide +kernel))
theorem dL_law_1355 : decode cL_law 1355 = .ok (.iaload, 1) := lcD_46 (lcR_B (by decide +kernel))
theorem dL_law_1356 : decode cL_law 1356 = .ok (.aload_n 0, 1) := lcD_42 (lcR_B (by decide +kernel))
theorem dL_law_1357 : decode cL_law 1357 = .ok (.iload_n 3, 1) := lcD_29 (lcR_B (by decide +kernel))
theorem dL_law_1358 : decode cL_law 1358 = .ok (.iconst 2, 1) := lcD_5 (lcR_B (by decide +kernel))
theorem dL_law_1359 : decode cL_law 1359 = .ok (.iadd, 1) := lcD_96 (lcR_B (by decide +kernel))
theorem dL_law_1360 : decode cL_law 1360 = .ok (.iaload, 1) := lcD_46 (lcR_B (by decide +kernel))
theorem dL_law_1361 : decode cL_law 1361 = .ok (.invokevirtual 173, 3) := lcD_182 (a := 0) (b := 173) (lcR3_B (by decide +kernel)) (by decide +kernel)
theorem dL_law_1364 : decode cL_law 1364 = .ok (.pop2, 1) := by decide +kernel
theorem dL_law_1365 : decode cL_law 1365 = .ok (.aload_n 2, 1) := lcD_44 (lcR_B (by decide +kernel))
theorem dL_law_1366 : decode cL_law 1366 = .ok (.aload_n 0, 1) := lcD_42 (lcR_B (by decide +kernel))
theorem dL_law_1367 : decode cL_law 1367 = .ok (.iload_n 3, 1) := lcD_29 (lcR_B (by decide +kernel))
theorem dL_law_1368 : decode cL_law 1368 = .ok (.iconst 1, 1) := lcD_4 (lcR_B (by decide +kernel))
theorem dL_law_1369 : decode cL_law 1369 = .ok (.iadd, 1) := lcD_96 (lcR_B (by decide +kernel))
theorem dL_law_1370 : decode cL_law 1370 = .ok (.iaload, 1) := lcD_46 (lcR_B (by decide +kernel))
theorem dL_law_1371 : decode cL_law 1371 = .ok (.aload_n 0, 1) := lcD_42 (lcR_B (by decide +kernel))
theorem dL_law_1372 : decode cL_law 1372 = .ok (.iload_n 3, 1) := lcD_29 (lcR_B (by decide +kernel))
theorem dL_law_1373 : decode cL_law 1373 = .ok (.iconst 2, 1) := lcD_5 (lcR_B (by decide +kernel))
theorem dL_law_1374 : decode cL_law 1374 = .ok (.iadd, 1) := lcD_96 (lcR_B (by decide +kernel))
theorem dL_law_1375 : decode cL_law 1375 = .ok (.iaload, 1) := lcD_46 (lcR_B (by decide +kernel))
theorem dL_law_1376 : decode cL_law 1376 = .ok (.invokevirtual 177, 3) := lcD_182 (a := 0) (b := 177) (lcR3_B (by decide +kernel)) (by decide +kernel)
theorem dL_law_1379 : decode cL_law 1379 = .ok (.pop2, 1) := by decide +kernel
theorem dL_law_1380 : decode cL_law 1380 = .ok (.goto 122, 3) := lcD_167 (a := 0) (b := 122) (lcR3_B (by decide +kernel)) (by decide +kernel)
theorem dL_law_1383 : decode cL_law 1383 = .ok (.aload_n 1, 1) := lcD_43 (lcR_B (by decide +kernel))
theorem dL_law_1384 : decode cL_law 1384 = .ok (.aload_n 0, 1) := lcD_42 (lcR_B (by decide +kernel))
theorem dL_law_1385 : decode cL_law 1385 = .ok (.iload_n 3, 1) := lcD_29 (lcR_B (by decide +kernel))
theorem dL_law_1386 : decode cL_law 1386 = .ok (.iconst 1, 1) := lcD_4 (lcR_B (by decide +kernel))
theorem dL_law_1387 : decode cL_law 1387 = .ok (.iadd, 1) := lcD_96 (lcR_B (by decide +kernel))
theorem dL_law_1388 : decode cL_law 1388 = .ok (.iaload, 1) := lcD_46 (lcR_B (by decide +kernel))
theorem dL_law_1389 : decode cL_law 1389 = .ok (.aload_n 0, 1) := lcD_42 (lcR_B (by decide +kernel))
theorem dL_law_1390 : decode cL_law 1390 = .ok (.iload_n 3, 1) := lcD_29 (lcR_B (by decide +kernel))
theorem dL_law_1391 : decode cL_law 1391 = .ok (.iconst 2, 1) := lcD_5 (lcR_B (by decide +kernel))
theorem dL_law_1392 : decode cL_law 1392 = .ok (.iadd, 1) := lcD_96 (lcR_B (by decide +kernel))
theorem dL_law_1393 : decode cL_law 1393 = .ok (.iaload, 1) := lcD_46 (lcR_B (by decide +kernel))
theorem dL_law_1394 : decode cL_law 1394 = .ok (.aload_n 0, 1) := lcD_42 (lcR_B (by decide +kernel))
theorem dL_law_1395 : decode cL_law 1395 = .ok (.iload_n 3, 1) := lcD_29 (lcR_B (by decide +kernel))
theorem dL_law_1396 : decode cL_law 1396 = .ok (.iconst 3, 1) := lcD_6 (lcR_B (by decide +kernel))
theorem dL_law_1397 : decode cL_law 1397 = .ok (.iadd, 1) := lcD_96 (lcR_B (by decide +kernel))
theorem dL_law_1398 : decode cL_law 1398 = .ok (.iaload, 1) := lcD_46 (lcR_B (by decide +kernel))
theorem dL_law_1399 : decode cL_law 1399 = .ok (.aload_n 0, 1) := lcD_42 (lcR_B (by decide +kernel))
theorem dL_law_1400 : decode cL_law 1400 = .ok (.iload_n 3, 1) := lcD_29 (lcR_B (by decide +kernel))
theorem dL_law_1401 : decode cL_law 1401 = .ok (.iconst 4, 1) := lcD_7 (lcR_B (by decide +kernel))
theorem dL_law_1402 : decode cL_law 1402 = .ok (.iadd, 1) := lcD_96 (lcR_B (by decide +kernel))
theorem dL_law_1403 : decode cL_law 1403 = .ok (.iaload, 1) := lcD_46 (lcR_B (by decide +kernel))
theorem dL_law_1404 : decode cL_law 1404 = .ok (.aload_n 0, 1) := lcD_42 (lcR_B (by decide +kernel))
theorem dL_law_1405 : decode cL_law 1405 = .ok (.iload_n 3, 1) := lcD_29 (lcR_B (by decide +kernel))
theorem dL_law_1406 : decode cL_law 1406 = .ok (.iconst 5, 1) := lcD_8 (lcR_B (by decide +kernel))
theorem dL_law_1407 : decode cL_law 1407 = .ok (.iadd, 1) := lcD_96 (lcR_B (by decide +kernel))
theorem dL_law_1408 : decode cL_law 1408 = .ok (.iaload, 1) := lcD_46 (lcR_B (by decide +kernel))
theorem dL_law_1409 : decode cL_law 1409 = .ok (.invokevirtual 178, 3) := lcD_182 (a := 0) (b := 178) (lcR3_B (by decide +kernel)) (by decide +kernel)
theorem dL_law_1412 : decode cL_law 1412 = .ok (.pop, 1) := lcD_87 (lcR_B (by decide +kernel))
theorem dL_law_1413 : decode cL_law 1413 = .ok (.aload_n 2, 1) := lcD_44 (lcR_B (by decide +kernel))
theorem dL_law_1414 : decode cL_law 1414 = .ok (.aload_n 0, 1) := lcD_42 (lcR_B (by decide +kernel))
theorem dL_law_1415 : decode cL_law 1415 = .ok (.iload_n 3, 1) := lcD_29 (lcR_B (by decide +kernel))
theorem dL_law_1416 : decode cL_law 1416 = .ok (.iconst 1, 1) := lcD_4 (lcR_B (by decide +kernel))
theorem dL_law_1417 : decode cL_law 1417 = .ok (.iadd, 1) := lcD_96 (lcR_B (by decide +kernel))
theorem dL_law_1418 : decode cL_law 1418 = .ok (.iaload, 1) := lcD_46 (lcR_B (by decide +kernel))
theorem dL_law_1419 : decode cL_law 1419 = .ok (.aload_n 0, 1) := lcD_42 (lcR_B (by decide +kernel))
theorem dL_law_1420 : decode cL_law 1420 = .ok (.iload_n 3, 1) := lcD_29 (lcR_B (by decide +kernel))
theorem dL_law_1421 : decode cL_law 1421 = .ok (.iconst 2, 1) := lcD_5 (lcR_B (by decide +kernel))
theorem dL_law_1422 : decode cL_law 1422 = .ok (.iadd, 1) := lcD_96 (lcR_B (by decide +kernel))
theorem dL_law_1423 : decode cL_law 1423 = .ok (.iaload, 1) := lcD_46 (lcR_B (by decide +kernel))
theorem dL_law_1424 : decode cL_law 1424 = .ok (.aload_n 0, 1) := lcD_42 (lcR_B (by decide +kernel))
theorem dL_law_1425 : decode cL_law 1425 = .ok (.iload_n 3, 1) := lcD_29 (lcR_B (by decide +kernel))
theorem dL_law_1426 : decode cL_law 1426 = .ok (.iconst 3, 1) := lcD_6 (lcR_B (by decide +kernel))
theorem dL_law_1427 : decode cL_law 1427 = .ok (.iadd, 1) := lcD_96 (lcR_B (by decide +kernel))
theorem dL_law_1428 : decode cL_law 1428 = .ok (.iaload, 1) := lcD_46 (lcR_B (by decide +kernel))
theorem dL_law_1429 : decode cL_law 1429 = .ok (.aload_n 0, 1) := lcD_42 (lcR_B (by decide +kernel))
theorem dL_law_1430 : decode cL_law 1430 = .ok (.iload_n 3, 1) := lcD_29 (lcR_B (by decide +kernel))
theorem dL_law_1431 : decode cL_law 1431 = .ok (.iconst 4, 1) := lcD_7 (lcR_B (by decide +kernel))
theorem dL_law_1432 : decode cL_law 1432 = .ok (.iadd, 1) := lcD_96 (lcR_B (by decide +kernel))
theorem dL_law_1433 : decode cL_law 1433 = .ok (.iaload, 1) := lcD_46 (lcR_B (by decide +kernel))
theorem dL_law_1434 : decode cL_law 1434 = .ok (.aload_n 0, 1) := lcD_42 (lcR_B (by decide +kernel))
theorem dL_law_1435 : decode cL_law 1435 = .ok (.iload_n 3, 1) := lcD_29 (lcR_B (by decide +kernel))
theorem dL_law_1436 : decode cL_law 1436 = .ok (.iconst 5, 1) := lcD_8 (lcR_B (by decide +kernel))
theorem dL_law_1437 : decode cL_law 1437 = .ok (.iadd, 1) := lcD_96 (lcR_B (by decide +kernel))
theorem dL_law_1438 : decode cL_law 1438 = .ok (.iaload, 1) := lcD_46 (lcR_B (by decide +kernel))
theorem dL_law_1439 : decode cL_law 1439 = .ok (.invokevirtual 182, 3) := lcD_182 (a := 0) (b := 182) (lcR3_B (by decide +kernel)) (by decide +kernel)
theorem dL_law_1442 : decode cL_law 1442 = .ok (.pop, 1) := lcD_87 (lcR_B (by decide +kernel))
theorem dL_law_1443 : decode cL_law 1443 = .ok (.goto 59, 3) := lcD_167 (a := 0) (b := 59) (lcR3_B (by decide +kernel)) (by decide +kernel)
theorem dL_law_1446 : decode cL_law 1446 = .ok (.aload_n 1, 1) := lcD_43 (lcR_B (by decide +kernel))
theorem dL_law_1447 : decode cL_law 1447 = .ok (.aload_n 0, 1) := lcD_42 (lcR_B (by decide +kernel))
theorem dL_law_1448 : decode cL_law 1448 = .ok (.iload_n 3, 1) := lcD_29 (lcR_B (by decide +kernel))
theorem dL_law_1449 : decode cL_law 1449 = .ok (.iconst 1, 1) := lcD_4 (lcR_B (by decide +kernel))
theorem dL_law_1450 : decode cL_law 1450 = .ok (.iadd, 1) := lcD_96 (lcR_B (by decide +kernel))
theorem dL_law_1451 : decode cL_law 1451 = .ok (.iaload, 1) := lcD_46 (lcR_B (by decide +kernel))
theorem dL_law_1452 : decode cL_law 1452 = .ok (.aload_n 0, 1) := lcD_42 (lcR_B (by decide +kernel))
theorem dL_law_1453 : decode cL_law 1453 = .ok (.iload_n 3, 1) := lcD_29 (lcR_B (by decide +kernel))
theorem dL_law_1454 : decode cL_law 1454 = .ok (.iconst 2, 1) := lcD_5 (lcR_B (by decide +kernel))
theorem dL_law_1455 : decode cL_law 1455 = .ok (.iadd, 1) := lcD_96 (lcR_B (by decide +kernel))
theorem dL_law_1456 : decode cL_law 1456 = .ok (.iaload, 1) := lcD_46 (lcR_B (by decide +kernel))
theorem dL_law_1457 : decode cL_law 1457 = .ok (.invokevirtual 183, 3) := lcD_182 (a := 0) (b := 183) (lcR3_B (by decide +kernel)) (by decide +kernel)
theorem dL_law_1460 : decode cL_law 1460 = .ok (.pop, 1) := lcD_87 (lcR_B (by decide +kernel))
theorem dL_law_1461 : decode cL_law 1461 = .ok (.aload_n 2, 1) := lcD_44 (lcR_B (by decide +kernel))
theorem dL_law_1462 : decode cL_law 1462 = .ok (.aload_n 0, 1) := lcD_42 (lcR_B (by decide +kernel))
theorem dL_law_1463 : decode cL_law 1463 = .ok (.iload_n 3, 1) := lcD_29 (lcR_B (by decide +kernel))
theorem dL_law_1464 : decode cL_law 1464 = .ok (.iconst 1, 1) := lcD_4 (lcR_B (by decide +kernel))
theorem dL_law_1465 : decode cL_law 1465 = .ok (.iadd, 1) := lcD_96 (lcR_B (by decide +kernel))
theorem dL_law_1466 : decode cL_law 1466 = .ok (.iaload, 1) := lcD_46 (lcR_B (by decide +kernel))
theorem dL_law_1467 : decode cL_law 1467 = .ok (.aload_n 0, 1) := lcD_42 (lcR_B (by decide +kernel))
theorem dL_law_1468 : decode cL_law 1468 = .ok (.iload_n 3, 1) := lcD_29 (lcR_B (by decide +kernel))
theorem dL_law_1469 : decode cL_law 1469 = .ok (.iconst 2, 1) := lcD_5 (lcR_B (by decide +kernel))
theorem dL_law_1470 : decode cL_law 1470 = .ok (.iadd, 1) := lcD_96 (lcR_B (by decide +kernel))
theorem dL_law_1471 : decode cL_law 1471 = .ok (.iaload, 1) := lcD_46 (lcR_B (by decide +kernel))
theorem dL_law_1472 : decode cL_law 1472 = .ok (.invokevirtual 186, 3) := lcD_182 (a := 0) (b := 186) (lcR3_B (by decide +kernel)) (by decide +kernel)
theorem dL_law_1475 : decode cL_law 1475 = .ok (.pop, 1) := lcD_87 (lcR_B (by decide +kernel))
theorem dL_law_1476 : decode cL_law 1476 = .ok (.goto 26, 3) := lcD_167 (a := 0) (b := 26) (lcR3_B (by decide +kernel)) (by decide +kernel)
theorem dL_law_1479 : decode cL_law 1479 = .ok (.aload_n 1, 1) := lcD_43 (lcR_B (by decide +kernel))
theorem dL_law_1480 : decode cL_law 1480 = .ok (.aload_n 0, 1) := lcD_42 (lcR_B (by decide +kernel))
theorem dL_law_1481 : decode cL_law 1481 = .ok (.iload_n 3, 1) := lcD_29 (lcR_B (by decide +kernel))
theorem dL_law_1482 : decode cL_law 1482 = .ok (.iconst 1, 1) := lcD_4 (lcR_B (by decide +kernel))
theorem dL_law_1483 : decode cL_law 1483 = .ok (.iadd, 1) := lcD_96 (lcR_B (by decide +kernel))
theorem dL_law_1484 : decode cL_law 1484 = .ok (.iaload, 1) := lcD_46 (lcR_B (by decide +kernel))
theorem dL_law_1485 : decode cL_law 1485 = .ok (.invokevirtual 187, 3) := lcD_182 (a := 0) (b := 187) (lcR3_B (by decide +kernel)) (by decide +kernel)
theorem dL_law_1488 : decode cL_law 1488 = .ok (.pop, 1) := lcD_87 (lcR_B (by decide +kernel))
theorem dL_law_1489 : decode cL_law 1489 = .ok (.aload_n 2, 1) := lcD_44 (lcR_B (by decide +kernel))
theorem dL_law_1490 : decode cL_law 1490 = .ok (.aload_n 0, 1) := lcD_42 (lcR_B (by decide +kernel))
theorem dL_law_1491 : decode cL_law 1491 = .ok (.iload_n 3, 1) := lcD_29 (lcR_B (by decide +kernel))
theorem dL_law_1492 : decode cL_law 1492 = .ok (.iconst 1, 1) := lcD_4 (lcR_B (by decide +kernel))
theorem dL_law_1493 : decode cL_law 1493 = .ok (.iadd, 1) := lcD_96 (lcR_B (by decide +kernel))
theorem dL_law_1494 : decode cL_law 1494 = .ok (.iaload, 1) := lcD_46 (lcR_B (by decide +kernel))
theorem dL_law_1495 : decode cL_law 1495 = .ok (.invokevirtual 190, 3) := lcD_182 (a := 0) (b := 190) (lcR3_B (by decide +kernel)) (by decide +kernel)
theorem dL_law_1498 : decode cL_law 1498 = .ok (.pop, 1) := lcD_87 (lcR_B (by decide +kernel))
theorem dL_law_1499 : decode cL_law 1499 = .ok (.goto 3, 3) := lcD_167 (a := 0) (b := 3) (lcR3_B (by decide +kernel)) (by decide +kernel)
theorem dL_law_33 : decode cL_law 33 = .ok (.tableswitch 1469 0 41 #[183, 206, 249, 292, 325, 348, 361, 384, 407, 430, 473, 496, 509, 532, 555, 588, 611, 644, 667, 690, 723, 766, 799, 842, 885, 918, 961, 994, 1027, 1040, 1053, 1066, 1079, 1102, 1145, 1168, 1201, 1244, 1317, 1350, 1413, 1446], 183) := by decide +kernel
theorem dL_law_0 : decode cL_law 0 = .ok (.new 7, 3) := by decide +kernel
theorem dL_law_3 : decode cL_law 3 = .ok (.dup, 1) := by decide +kernel
theorem dL_law_4 : decode cL_law 4 = .ok (.invokespecial 9, 3) := by decide +kernel
theorem dL_law_7 : decode cL_law 7 = .ok (.astore_n 1, 1) := by decide +kernel
theorem dL_law_8 : decode cL_law 8 = .ok (.new 10, 3) := by decide +kernel
theorem dL_law_11 : decode cL_law 11 = .ok (.dup, 1) := by decide +kernel
theorem dL_law_12 : decode cL_law 12 = .ok (.invokespecial 12, 3) := by decide +kernel
theorem dL_law_15 : decode cL_law 15 = .ok (.astore_n 2, 1) := by decide +kernel
theorem dL_law_16 : decode cL_law 16 = .ok (.iconst 0, 1) := lcD_3 (lcR_B (by decide +kernel))
theorem dL_law_17 : decode cL_law 17 = .ok (.istore_n 3, 1) := by decide +kernel
set_option maxRecDepth 100000 in
set_option maxHeartbeats 4000000 in
theorem lwx_0 {l : Launch} {G : xG} (hL : G.2.2.2.2.1 ≤ 3072) {M : xM} {J : xJ} {i : Nat} (hi : i + 6 ≤ G.2.2.2.2.1) (hC : InvC M) (hR : InvR M) (hB_ : RB M) (hP_ : RP M) (hT_ : RT M) (hL_ : RLk M) (hS_ : RS M) (hE_ : RE J) (hY_ : RY M J) (hX_ : RX M) (hN : ∀ (M2 : xM) (J2 : xJ), InvC M2 → InvR M2 → RB M2 → RP M2 → RT M2 → RLk M2 → RS M2 → RE J2 → RY M2 J2 → RX M2 → x_X l G fL_law 200 600000 7302250 (qR (some (.int 1))) 1502 [(3, .int (nI (i))), (2, .ref (62)), (1, .ref (0)), (0, .ref (1002))] [] x_SH M2 J2 87 2934) : x_X l G fL_law 200 600000 7302250 (qR (some (.int 1))) 216 [(3, .int (nI (i))), (2, .ref (62)), (1, .ref (0)), (0, .ref (1002))] [] x_SH M J 87 2934 := by
  refine xr_aload_n dL_law_216 2 rfl ?_
  refine xr_aload_n dL_law_217 3 rfl ?_
  refine xr_iload_n dL_law_218 0 rfl ?_
  refine xr_iconst (v := 1) dL_law_219 rfl ?_
  refine xr_iadd dL_law_220 ?_
  refine xb_top (y := nI (i + 1)) (nI_add (i) (1)) ?_
  refine xr_sld rfl (vp_in_nI (show i + 1 < G.2.2.2.2.1 by omega) (by omega)) dL_law_221 ?_
  refine xb_top (y := (G.2.2.2.2.2 (i + 1))) (by rw [nI_clamp (by omega)]) ?_
  obtain ⟨nh, D, t, S, lg, lu, lw, hWG, ⟨hGc, hGr⟩, ⟨hWL, hLc, hLr⟩, hKX⟩ := id hX_
  refine xr_callV (As := [.int ((G.2.2.2.2.2 (i + 1)))]) (rest := []) mlL_13 (gx_X9_hoop (G.2.2.2.2.2 (i + 1)) hC hWG hGc) dL_law_222 s_0 rfl rfl (Nat.le_of_ble_eq_true rfl) (by decide) ⟨by decide, by decide⟩ (fun v s2 M3 J2 hq => ?_)
  obtain ⟨r5, rfl, rfl, rfl, k4, hI1, hx2⟩ := hq
  try dsimp only [Option.toList, List.cons_append, List.nil_append]
  have kk6 : ∀ p k, 62 ≤ p → M3 p k = M p k := (fun p k hp => k4 p k (by unfold WAH; omega))
  refine xr_pop dL_law_225 rfl ?_
  refine xr_aload_n dL_law_226 1 rfl ?_
  refine xr_aload_n dL_law_227 3 rfl ?_
  refine xr_iload_n dL_law_228 0 rfl ?_
  refine xr_iconst (v := 1) dL_law_229 rfl ?_
  refine xr_iadd dL_law_230 ?_
  refine xb_top (y := nI (i + 1)) (nI_add (i) (1)) ?_
  refine xr_sld rfl (vp_in_nI (show i + 1 < G.2.2.2.2.1 by omega) (by omega)) dL_law_231 ?_
  refine xb_top (y := (G.2.2.2.2.2 (i + 1))) (by rw [nI_clamp (by omega)]) ?_
  refine xr_callV (As := [.int ((G.2.2.2.2.2 (i + 1)))]) (rest := []) mlL_17 (gx_X10_hoop (G.2.2.2.2.2 (i + 1)) (InvR_ke kk6 hR) hWG (RG_f hWG.1 hGr kk6)) dL_law_232 s_62 rfl rfl (Nat.le_of_ble_eq_true rfl) (by decide) ⟨by decide, by decide⟩ (fun v s2 M9 J2 hq => ?_)
  obtain ⟨r11, rfl, rfl, rfl, k10, hI7, hx8⟩ := hq
  try dsimp only [Option.toList, List.cons_append, List.nil_append]
  have kk12 : ∀ p k, p < 62 → M9 p k = M3 p k := (fun p k hp => k10 p k (by unfold WAD; omega))
  refine xr_pop dL_law_235 rfl ?_
  refine xr_goto (tgt := 1502) dL_law_236 rfl ?_
  refine xb_ls (ls2 := [(3, .int (nI (i))), (2, .ref (62)), (1, .ref (0)), (0, .ref (1002))]) [0, 1, 2, 3] rfl ?_
  exact hN _ _ (InvC_ke kk12 hI1) hI7 (RB_f (fun p k hp => (k10 p k (nx_WAD_CSB hp)).trans (k4 p k (nx_WAH_CSB hp))) hB_) (RP_f (fun p k hp => (k10 p k (nx_WAD_CSP hp)).trans (k4 p k (nx_WAH_CSP hp))) hP_) (RT_f (fun p k hp => (k10 p k (nx_WAD_CST hp)).trans (k4 p k (nx_WAH_CST hp))) hT_) (RL_f (fun p k hp => (k10 p k (nx_WAD_CSL hp)).trans (k4 p k (nx_WAH_CSL hp))) hL_) (RS_f (fun p k hp => (k10 p k (nx_WAD_CSS hp)).trans (k4 p k (nx_WAH_CSS hp))) hS_) (RE_f rfl rfl hE_) (RY_f (fun p k hp => (k10 p k (nx_WAD_CSY hp)).trans (k4 p k (nx_WAH_CSY hp))) hY_) (jX_hoop hWG (LX_f (fun p k hp => (k10 p k (nx_WAD_CSu hp)).trans (k4 p k (nx_WAH_CSu hp))) ⟨hWL, hLc, hLr⟩) (fun n2 hn2 => KX_f (fun p k hp => (k10 p k (nx_WAD_CSk hp)).trans (k4 p k (nx_WAH_CSk hp))) hn2 hWG.1 hKX) kk12 hx2 hx8).2
set_option maxRecDepth 100000 in
set_option maxHeartbeats 4000000 in
theorem lwx_1 {l : Launch} {G : xG} (hL : G.2.2.2.2.1 ≤ 3072) {M : xM} {J : xJ} {i : Nat} (hi : i + 6 ≤ G.2.2.2.2.1) (hC : InvC M) (hR : InvR M) (hB_ : RB M) (hP_ : RP M) (hT_ : RT M) (hL_ : RLk M) (hS_ : RS M) (hE_ : RE J) (hY_ : RY M J) (hX_ : RX M) (hN : ∀ (M2 : xM) (J2 : xJ), InvC M2 → InvR M2 → RB M2 → RP M2 → RT M2 → RLk M2 → RS M2 → RE J2 → RY M2 J2 → RX M2 → x_X l G fL_law 200 600000 7302250 (qR (some (.int 1))) 1502 [(3, .int (nI (i))), (2, .ref (62)), (1, .ref (0)), (0, .ref (1002))] [] x_SH M2 J2 87 2934) : x_X l G fL_law 200 600000 7302250 (qR (some (.int 1))) 239 [(3, .int (nI (i))), (2, .ref (62)), (1, .ref (0)), (0, .ref (1002))] [] x_SH M J 87 2934 := by
  refine xr_aload_n dL_law_239 2 rfl ?_
  refine xr_aload_n dL_law_240 3 rfl ?_
  refine xr_iload_n dL_law_241 0 rfl ?_
  refine xr_iconst (v := 1) dL_law_242 rfl ?_
  refine xr_iadd dL_law_243 ?_
  refine xb_top (y := nI (i + 1)) (nI_add (i) (1)) ?_
  refine xr_sld rfl (vp_in_nI (show i + 1 < G.2.2.2.2.1 by omega) (by omega)) dL_law_244 ?_
  refine xb_top (y := (G.2.2.2.2.2 (i + 1))) (by rw [nI_clamp (by omega)]) ?_
  refine xr_aload_n dL_law_245 3 rfl ?_
  refine xr_iload_n dL_law_246 0 rfl ?_
  refine xr_iconst (v := 2) dL_law_247 rfl ?_
  refine xr_iadd dL_law_248 ?_
  refine xb_top (y := nI (i + 2)) (nI_add (i) (2)) ?_
  refine xr_sld rfl (vp_in_nI (show i + 2 < G.2.2.2.2.1 by omega) (by omega)) dL_law_249 ?_
  refine xb_top (y := (G.2.2.2.2.2 (i + 2))) (by rw [nI_clamp (by omega)]) ?_
  refine xr_aload_n dL_law_250 3 rfl ?_
  refine xr_iload_n dL_law_251 0 rfl ?_
  refine xr_iconst (v := 3) dL_law_252 rfl ?_
  refine xr_iadd dL_law_253 ?_
  refine xb_top (y := nI (i + 3)) (nI_add (i) (3)) ?_
  refine xr_sld rfl (vp_in_nI (show i + 3 < G.2.2.2.2.1 by omega) (by omega)) dL_law_254 ?_
  refine xb_top (y := (G.2.2.2.2.2 (i + 3))) (by rw [nI_clamp (by omega)]) ?_
  obtain ⟨nh, D, t, S, lg, lu, lw, hWG, ⟨hGc, hGr⟩, ⟨hWL, hLc, hLr⟩, hKX⟩ := id hX_
  obtain ⟨gs, hSc, hSr, hSw⟩ := Sh_of hC hS_ hE_ hY_
  refine xr_callV (As := [.int ((G.2.2.2.2.2 (i + 1))), .int ((G.2.2.2.2.2 (i + 2))), .int ((G.2.2.2.2.2 (i + 3)))]) (rest := []) mlL_18 (gx_X9_hoops (G.2.2.2.2.2 (i + 1)) (G.2.2.2.2.2 (i + 2)) (G.2.2.2.2.2 (i + 3)) hC hWG hGc hSc hSw) dL_law_255 s_0 rfl rfl (Nat.le_of_ble_eq_true rfl) (by decide) ⟨by decide, by decide⟩ (fun v s2 M3 J2 hq => ?_)
  obtain ⟨r5, rfl, rfl, rfl, k4, hI1, hx2⟩ := hq
  try dsimp only [Option.toList, List.cons_append, List.nil_append]
  have kk6 : ∀ p k, 62 ≤ p → M3 p k = M p k := (fun p k hp => k4 p k (by unfold WAH; omega))
  refine xr_pop dL_law_258 rfl ?_
  refine xr_aload_n dL_law_259 1 rfl ?_
  refine xr_aload_n dL_law_260 3 rfl ?_
  refine xr_iload_n dL_law_261 0 rfl ?_
  refine xr_iconst (v := 1) dL_law_262 rfl ?_
  refine xr_iadd dL_law_263 ?_
  refine xb_top (y := nI (i + 1)) (nI_add (i) (1)) ?_
  refine xr_sld rfl (vp_in_nI (show i + 1 < G.2.2.2.2.1 by omega) (by omega)) dL_law_264 ?_
  refine xb_top (y := (G.2.2.2.2.2 (i + 1))) (by rw [nI_clamp (by omega)]) ?_
  refine xr_aload_n dL_law_265 3 rfl ?_
  refine xr_iload_n dL_law_266 0 rfl ?_
  refine xr_iconst (v := 2) dL_law_267 rfl ?_
  refine xr_iadd dL_law_268 ?_
  refine xb_top (y := nI (i + 2)) (nI_add (i) (2)) ?_
  refine xr_sld rfl (vp_in_nI (show i + 2 < G.2.2.2.2.1 by omega) (by omega)) dL_law_269 ?_
  refine xb_top (y := (G.2.2.2.2.2 (i + 2))) (by rw [nI_clamp (by omega)]) ?_
  refine xr_aload_n dL_law_270 3 rfl ?_
  refine xr_iload_n dL_law_271 0 rfl ?_
  refine xr_iconst (v := 3) dL_law_272 rfl ?_
  refine xr_iadd dL_law_273 ?_
  refine xb_top (y := nI (i + 3)) (nI_add (i) (3)) ?_
  refine xr_sld rfl (vp_in_nI (show i + 3 < G.2.2.2.2.1 by omega) (by omega)) dL_law_274 ?_
  refine xb_top (y := (G.2.2.2.2.2 (i + 3))) (by rw [nI_clamp (by omega)]) ?_
  refine xr_callV (As := [.int ((G.2.2.2.2.2 (i + 1))), .int ((G.2.2.2.2.2 (i + 2))), .int ((G.2.2.2.2.2 (i + 3)))]) (rest := []) mlL_22 (gx_X10_hoops (G.2.2.2.2.2 (i + 1)) (G.2.2.2.2.2 (i + 2)) (G.2.2.2.2.2 (i + 3)) (InvR_ke kk6 hR) hWG (RG_f hWG.1 hGr kk6) (RSh_f hSr kk6) hSw) dL_law_275 s_62 rfl rfl (Nat.le_of_ble_eq_true rfl) (by decide) ⟨by decide, by decide⟩ (fun v s2 M9 J2 hq => ?_)
  obtain ⟨r11, rfl, rfl, rfl, k10, hI7, hx8⟩ := hq
  try dsimp only [Option.toList, List.cons_append, List.nil_append]
  have kk12 : ∀ p k, p < 62 → M9 p k = M3 p k := (fun p k hp => k10 p k (by unfold WAD; omega))
  refine xr_pop dL_law_278 rfl ?_
  refine xr_goto (tgt := 1502) dL_law_279 rfl ?_
  refine xb_ls (ls2 := [(3, .int (nI (i))), (2, .ref (62)), (1, .ref (0)), (0, .ref (1002))]) [0, 1, 2, 3] rfl ?_
  exact hN _ _ (InvC_ke kk12 hI1) hI7 (RB_f (fun p k hp => (k10 p k (nx_WAD_CSB hp)).trans (k4 p k (nx_WAH_CSB hp))) hB_) (RP_f (fun p k hp => (k10 p k (nx_WAD_CSP hp)).trans (k4 p k (nx_WAH_CSP hp))) hP_) (RT_f (fun p k hp => (k10 p k (nx_WAD_CST hp)).trans (k4 p k (nx_WAH_CST hp))) hT_) (RL_f (fun p k hp => (k10 p k (nx_WAD_CSL hp)).trans (k4 p k (nx_WAH_CSL hp))) hL_) (RS_f (fun p k hp => (k10 p k (nx_WAD_CSS hp)).trans (k4 p k (nx_WAH_CSS hp))) hS_) (RE_f rfl rfl hE_) (RY_f (fun p k hp => (k10 p k (nx_WAD_CSY hp)).trans (k4 p k (nx_WAH_CSY hp))) hY_) (jX_hoops hWG (LX_f (fun p k hp => (k10 p k (nx_WAD_CSu hp)).trans (k4 p k (nx_WAH_CSu hp))) ⟨hWL, hLc, hLr⟩) (fun n2 hn2 => KX_f (fun p k hp => (k10 p k (nx_WAD_CSk hp)).trans (k4 p k (nx_WAH_CSk hp))) hn2 hWG.1 hKX) kk12 hx2 hx8).2
set_option maxRecDepth 100000 in
set_option maxHeartbeats 4000000 in
theorem lwx_2 {l : Launch} {G : xG} (hL : G.2.2.2.2.1 ≤ 3072) {M : xM} {J : xJ} {i : Nat} (hi : i + 6 ≤ G.2.2.2.2.1) (hC : InvC M) (hR : InvR M) (hB_ : RB M) (hP_ : RP M) (hT_ : RT M) (hL_ : RLk M) (hS_ : RS M) (hE_ : RE J) (hY_ : RY M J) (hX_ : RX M) (hN : ∀ (M2 : xM) (J2 : xJ), InvC M2 → InvR M2 → RB M2 → RP M2 → RT M2 → RLk M2 → RS M2 → RE J2 → RY M2 J2 → RX M2 → x_X l G fL_law 200 600000 7302250 (qR (some (.int 1))) 1502 [(3, .int (nI (i))), (2, .ref (62)), (1, .ref (0)), (0, .ref (1002))] [] x_SH M2 J2 87 2934) : x_X l G fL_law 200 600000 7302250 (qR (some (.int 1))) 282 [(3, .int (nI (i))), (2, .ref (62)), (1, .ref (0)), (0, .ref (1002))] [] x_SH M J 87 2934 := by
  refine xr_aload_n dL_law_282 2 rfl ?_
  refine xr_aload_n dL_law_283 3 rfl ?_
  refine xr_iload_n dL_law_284 0 rfl ?_
  refine xr_iconst (v := 1) dL_law_285 rfl ?_
  refine xr_iadd dL_law_286 ?_
  refine xb_top (y := nI (i + 1)) (nI_add (i) (1)) ?_
  refine xr_sld rfl (vp_in_nI (show i + 1 < G.2.2.2.2.1 by omega) (by omega)) dL_law_287 ?_
  refine xb_top (y := (G.2.2.2.2.2 (i + 1))) (by rw [nI_clamp (by omega)]) ?_
  refine xr_aload_n dL_law_288 3 rfl ?_
  refine xr_iload_n dL_law_289 0 rfl ?_
  refine xr_iconst (v := 2) dL_law_290 rfl ?_
  refine xr_iadd dL_law_291 ?_
  refine xb_top (y := nI (i + 2)) (nI_add (i) (2)) ?_
  refine xr_sld rfl (vp_in_nI (show i + 2 < G.2.2.2.2.1 by omega) (by omega)) dL_law_292 ?_
  refine xb_top (y := (G.2.2.2.2.2 (i + 2))) (by rw [nI_clamp (by omega)]) ?_
  refine xr_aload_n dL_law_293 3 rfl ?_
  refine xr_iload_n dL_law_294 0 rfl ?_
  refine xr_iconst (v := 3) dL_law_295 rfl ?_
  refine xr_iadd dL_law_296 ?_
  refine xb_top (y := nI (i + 3)) (nI_add (i) (3)) ?_
  refine xr_sld rfl (vp_in_nI (show i + 3 < G.2.2.2.2.1 by omega) (by omega)) dL_law_297 ?_
  refine xb_top (y := (G.2.2.2.2.2 (i + 3))) (by rw [nI_clamp (by omega)]) ?_
  obtain ⟨nh, D, t, S, lg, lu, lw, hWG, ⟨hGc, hGr⟩, ⟨hWL, hLc, hLr⟩, hKX⟩ := id hX_
  refine xr_callV (As := [.int ((G.2.2.2.2.2 (i + 1))), .int ((G.2.2.2.2.2 (i + 2))), .int ((G.2.2.2.2.2 (i + 3)))]) (rest := []) mlL_23 (gx_X9_mend (G.2.2.2.2.2 (i + 1)) (G.2.2.2.2.2 (i + 2)) (G.2.2.2.2.2 (i + 3)) hC hWG hGc hWL hLc) dL_law_298 s_0 rfl rfl (Nat.le_of_ble_eq_true rfl) (by decide) ⟨by decide, by decide⟩ (fun v s2 M3 J2 hq => ?_)
  obtain ⟨r5, rfl, rfl, rfl, k4, hI1, hx2⟩ := hq
  try dsimp only [Option.toList, List.cons_append, List.nil_append]
  have kk6 : ∀ p k, 62 ≤ p → M3 p k = M p k := (fun p k hp => k4 p k (by unfold WMD; omega))
  refine xr_pop dL_law_301 rfl ?_
  refine xr_aload_n dL_law_302 1 rfl ?_
  refine xr_aload_n dL_law_303 3 rfl ?_
  refine xr_iload_n dL_law_304 0 rfl ?_
  refine xr_iconst (v := 1) dL_law_305 rfl ?_
  refine xr_iadd dL_law_306 ?_
  refine xb_top (y := nI (i + 1)) (nI_add (i) (1)) ?_
  refine xr_sld rfl (vp_in_nI (show i + 1 < G.2.2.2.2.1 by omega) (by omega)) dL_law_307 ?_
  refine xb_top (y := (G.2.2.2.2.2 (i + 1))) (by rw [nI_clamp (by omega)]) ?_
  refine xr_aload_n dL_law_308 3 rfl ?_
  refine xr_iload_n dL_law_309 0 rfl ?_
  refine xr_iconst (v := 2) dL_law_310 rfl ?_
  refine xr_iadd dL_law_311 ?_
  refine xb_top (y := nI (i + 2)) (nI_add (i) (2)) ?_
  refine xr_sld rfl (vp_in_nI (show i + 2 < G.2.2.2.2.1 by omega) (by omega)) dL_law_312 ?_
  refine xb_top (y := (G.2.2.2.2.2 (i + 2))) (by rw [nI_clamp (by omega)]) ?_
  refine xr_aload_n dL_law_313 3 rfl ?_
  refine xr_iload_n dL_law_314 0 rfl ?_
  refine xr_iconst (v := 3) dL_law_315 rfl ?_
  refine xr_iadd dL_law_316 ?_
  refine xb_top (y := nI (i + 3)) (nI_add (i) (3)) ?_
  refine xr_sld rfl (vp_in_nI (show i + 3 < G.2.2.2.2.1 by omega) (by omega)) dL_law_317 ?_
  refine xb_top (y := (G.2.2.2.2.2 (i + 3))) (by rw [nI_clamp (by omega)]) ?_
  refine xr_callV (As := [.int ((G.2.2.2.2.2 (i + 1))), .int ((G.2.2.2.2.2 (i + 2))), .int ((G.2.2.2.2.2 (i + 3)))]) (rest := []) mlL_26 (gx_X10_mend (G.2.2.2.2.2 (i + 1)) (G.2.2.2.2.2 (i + 2)) (G.2.2.2.2.2 (i + 3)) (InvR_ke kk6 hR) hWG (RG_f hWG.1 hGr kk6) hWL (RLg_f hLr kk6)) dL_law_318 s_62 rfl rfl (Nat.le_of_ble_eq_true rfl) (by decide) ⟨by decide, by decide⟩ (fun v s2 M9 J2 hq => ?_)
  obtain ⟨r11, rfl, rfl, rfl, k10, hI7, hx8⟩ := hq
  try dsimp only [Option.toList, List.cons_append, List.nil_append]
  have kk12 : ∀ p k, p < 62 → M9 p k = M3 p k := (fun p k hp => k10 p k (by unfold WMR; omega))
  refine xr_pop dL_law_321 rfl ?_
  refine xr_goto (tgt := 1502) dL_law_322 rfl ?_
  refine xb_ls (ls2 := [(3, .int (nI (i))), (2, .ref (62)), (1, .ref (0)), (0, .ref (1002))]) [0, 1, 2, 3] rfl ?_
  exact hN _ _ (InvC_ke kk12 hI1) hI7 (RB_f (fun p k hp => (k10 p k (nx_WMR_CSB hp)).trans (k4 p k (nx_WMD_CSB hp))) hB_) (RP_f (fun p k hp => (k10 p k (nx_WMR_CSP hp)).trans (k4 p k (nx_WMD_CSP hp))) hP_) (RT_f (fun p k hp => (k10 p k (nx_WMR_CST hp)).trans (k4 p k (nx_WMD_CST hp))) hT_) (RL_f (fun p k hp => (k10 p k (nx_WMR_CSL hp)).trans (k4 p k (nx_WMD_CSL hp))) hL_) (RS_f (fun p k hp => (k10 p k (nx_WMR_CSS hp)).trans (k4 p k (nx_WMD_CSS hp))) hS_) (RE_f rfl rfl hE_) (RY_f (fun p k hp => (k10 p k (nx_WMR_CSY hp)).trans (k4 p k (nx_WMD_CSY hp))) hY_) (jX_mend hWG hWL (KX_f (fun p k hp => (k10 p k (nx_WMR_CSk hp)).trans (k4 p k (nx_WMD_CSk hp))) (Nat.le_refl _) hWG.1 hKX) kk12 hx2 hx8).2
set_option maxRecDepth 100000 in
set_option maxHeartbeats 4000000 in
theorem lwx_3 {l : Launch} {G : xG} (hL : G.2.2.2.2.1 ≤ 3072) {M : xM} {J : xJ} {i : Nat} (hi : i + 6 ≤ G.2.2.2.2.1) (hC : InvC M) (hR : InvR M) (hB_ : RB M) (hP_ : RP M) (hT_ : RT M) (hL_ : RLk M) (hS_ : RS M) (hE_ : RE J) (hY_ : RY M J) (hX_ : RX M) (hN : ∀ (M2 : xM) (J2 : xJ), InvC M2 → InvR M2 → RB M2 → RP M2 → RT M2 → RLk M2 → RS M2 → RE J2 → RY M2 J2 → RX M2 → x_X l G fL_law 200 600000 7302250 (qR (some (.int 1))) 1502 [(3, .int (nI (i))), (2, .ref (62)), (1, .ref (0)), (0, .ref (1002))] [] x_SH M2 J2 87 2934) : x_X l G fL_law 200 600000 7302250 (qR (some (.int 1))) 325 [(3, .int (nI (i))), (2, .ref (62)), (1, .ref (0)), (0, .ref (1002))] [] x_SH M J 87 2934 := by
  refine xr_aload_n dL_law_325 2 rfl ?_
  refine xr_aload_n dL_law_326 3 rfl ?_
  refine xr_iload_n dL_law_327 0 rfl ?_
  refine xr_iconst (v := 1) dL_law_328 rfl ?_
  refine xr_iadd dL_law_329 ?_
  refine xb_top (y := nI (i + 1)) (nI_add (i) (1)) ?_
  refine xr_sld rfl (vp_in_nI (show i + 1 < G.2.2.2.2.1 by omega) (by omega)) dL_law_330 ?_
  refine xb_top (y := (G.2.2.2.2.2 (i + 1))) (by rw [nI_clamp (by omega)]) ?_
  refine xr_aload_n dL_law_331 3 rfl ?_
  refine xr_iload_n dL_law_332 0 rfl ?_
  refine xr_iconst (v := 2) dL_law_333 rfl ?_
  refine xr_iadd dL_law_334 ?_
  refine xb_top (y := nI (i + 2)) (nI_add (i) (2)) ?_
  refine xr_sld rfl (vp_in_nI (show i + 2 < G.2.2.2.2.1 by omega) (by omega)) dL_law_335 ?_
  refine xb_top (y := (G.2.2.2.2.2 (i + 2))) (by rw [nI_clamp (by omega)]) ?_
  refine xr_callV (As := [.int ((G.2.2.2.2.2 (i + 1))), .int ((G.2.2.2.2.2 (i + 2)))]) (rest := []) mlL_27 (g_X9_of (G.2.2.2.2.2 (i + 1)) (G.2.2.2.2.2 (i + 2)) hC) dL_law_336 s_0 rfl rfl (Nat.le_of_ble_eq_true rfl) (by decide) ⟨by decide, by decide⟩ (fun v s2 M9 J2 hq => ?_)
  obtain ⟨r3, rfl, rfl, rfl, rfl, hx2⟩ := hq
  try dsimp only [Option.toList, List.cons_append, List.nil_append]
  refine xr_pop dL_law_339 rfl ?_
  refine xr_aload_n dL_law_340 1 rfl ?_
  refine xr_aload_n dL_law_341 3 rfl ?_
  refine xr_iload_n dL_law_342 0 rfl ?_
  refine xr_iconst (v := 1) dL_law_343 rfl ?_
  refine xr_iadd dL_law_344 ?_
  refine xb_top (y := nI (i + 1)) (nI_add (i) (1)) ?_
  refine xr_sld rfl (vp_in_nI (show i + 1 < G.2.2.2.2.1 by omega) (by omega)) dL_law_345 ?_
  refine xb_top (y := (G.2.2.2.2.2 (i + 1))) (by rw [nI_clamp (by omega)]) ?_
  refine xr_aload_n dL_law_346 3 rfl ?_
  refine xr_iload_n dL_law_347 0 rfl ?_
  refine xr_iconst (v := 2) dL_law_348 rfl ?_
  refine xr_iadd dL_law_349 ?_
  refine xb_top (y := nI (i + 2)) (nI_add (i) (2)) ?_
  refine xr_sld rfl (vp_in_nI (show i + 2 < G.2.2.2.2.1 by omega) (by omega)) dL_law_350 ?_
  refine xb_top (y := (G.2.2.2.2.2 (i + 2))) (by rw [nI_clamp (by omega)]) ?_
  refine xr_callV (As := [.int ((G.2.2.2.2.2 (i + 1))), .int ((G.2.2.2.2.2 (i + 2)))]) (rest := []) mlL_31 (g_X10_of (G.2.2.2.2.2 (i + 1)) (G.2.2.2.2.2 (i + 2)) hR) dL_law_351 s_62 rfl rfl (Nat.le_of_ble_eq_true rfl) (by decide) ⟨by decide, by decide⟩ (fun v s2 M9 J2 hq => ?_)
  obtain ⟨r6, rfl, rfl, rfl, rfl, hx5⟩ := hq
  try dsimp only [Option.toList, List.cons_append, List.nil_append]
  refine xr_pop dL_law_354 rfl ?_
  refine xr_goto (tgt := 1502) dL_law_355 rfl ?_
  refine xb_ls (ls2 := [(3, .int (nI (i))), (2, .ref (62)), (1, .ref (0)), (0, .ref (1002))]) [0, 1, 2, 3] rfl ?_
  exact hN _ _ hC hR hB_ hP_ hT_ hL_ hS_ (RE_f rfl rfl hE_) hY_ hX_
set_option maxRecDepth 100000 in
set_option maxHeartbeats 4000000 in
theorem lwx_4 {l : Launch} {G : xG} (hL : G.2.2.2.2.1 ≤ 3072) {M : xM} {J : xJ} {i : Nat} (hi : i + 6 ≤ G.2.2.2.2.1) (hC : InvC M) (hR : InvR M) (hB_ : RB M) (hP_ : RP M) (hT_ : RT M) (hL_ : RLk M) (hS_ : RS M) (hE_ : RE J) (hY_ : RY M J) (hX_ : RX M) (hN : ∀ (M2 : xM) (J2 : xJ), InvC M2 → InvR M2 → RB M2 → RP M2 → RT M2 → RLk M2 → RS M2 → RE J2 → RY M2 J2 → RX M2 → x_X l G fL_law 200 600000 7302250 (qR (some (.int 1))) 1502 [(3, .int (nI (i))), (2, .ref (62)), (1, .ref (0)), (0, .ref (1002))] [] x_SH M2 J2 87 2934) : x_X l G fL_law 200 600000 7302250 (qR (some (.int 1))) 358 [(3, .int (nI (i))), (2, .ref (62)), (1, .ref (0)), (0, .ref (1002))] [] x_SH M J 87 2934 := by
  refine xr_aload_n dL_law_358 2 rfl ?_
  refine xr_aload_n dL_law_359 3 rfl ?_
  refine xr_iload_n dL_law_360 0 rfl ?_
  refine xr_iconst (v := 1) dL_law_361 rfl ?_
  refine xr_iadd dL_law_362 ?_
  refine xb_top (y := nI (i + 1)) (nI_add (i) (1)) ?_
  refine xr_sld rfl (vp_in_nI (show i + 1 < G.2.2.2.2.1 by omega) (by omega)) dL_law_363 ?_
  refine xb_top (y := (G.2.2.2.2.2 (i + 1))) (by rw [nI_clamp (by omega)]) ?_
  refine xr_callV (As := [.int ((G.2.2.2.2.2 (i + 1)))]) (rest := []) mlL_32 (gv_X9_feed (G.2.2.2.2.2 (i + 1)) hC) dL_law_364 s_0 rfl rfl (Nat.le_of_ble_eq_true rfl) (by decide) ⟨by decide, by decide⟩ (fun v s2 M3 J2 hq => ?_)
  obtain ⟨r5, rfl, rfl, rfl, k4, hI1, hx2⟩ := hq
  try dsimp only [Option.toList, List.cons_append, List.nil_append]
  have kk6 : ∀ p k, 62 ≤ p → M3 p k = M p k := (fun p k hp => k4 p k (by unfold WTK; omega))
  refine xr_pop dL_law_367 rfl ?_
  refine xr_aload_n dL_law_368 1 rfl ?_
  refine xr_aload_n dL_law_369 3 rfl ?_
  refine xr_iload_n dL_law_370 0 rfl ?_
  refine xr_iconst (v := 1) dL_law_371 rfl ?_
  refine xr_iadd dL_law_372 ?_
  refine xb_top (y := nI (i + 1)) (nI_add (i) (1)) ?_
  refine xr_sld rfl (vp_in_nI (show i + 1 < G.2.2.2.2.1 by omega) (by omega)) dL_law_373 ?_
  refine xb_top (y := (G.2.2.2.2.2 (i + 1))) (by rw [nI_clamp (by omega)]) ?_
  refine xr_callV (As := [.int ((G.2.2.2.2.2 (i + 1)))]) (rest := []) mlL_35 (gv_X10_feed (G.2.2.2.2.2 (i + 1)) (InvR_ke kk6 hR)) dL_law_374 s_62 rfl rfl (Nat.le_of_ble_eq_true rfl) (by decide) ⟨by decide, by decide⟩ (fun v s2 M9 J2 hq => ?_)
  obtain ⟨r11, rfl, rfl, rfl, k10, hI7, hx8⟩ := hq
  try dsimp only [Option.toList, List.cons_append, List.nil_append]
  have kk12 : ∀ p k, p < 62 → M9 p k = M3 p k := (fun p k hp => k10 p k (by unfold WFES; omega))
  refine xr_pop dL_law_377 rfl ?_
  refine xr_goto (tgt := 1502) dL_law_378 rfl ?_
  refine xb_ls (ls2 := [(3, .int (nI (i))), (2, .ref (62)), (1, .ref (0)), (0, .ref (1002))]) [0, 1, 2, 3] rfl ?_
  exact hN _ _ (InvC_ke kk12 hI1) hI7 (RB_f (fun p k hp => (k10 p k (nx_WFES_CSB hp)).trans (k4 p k (nx_WTK_CSB hp))) hB_) (jP_feed hx2.1 hx8.1 kk6 kk12 hP_).2 (jT_feed hx2 hx8 kk6 kk12 hP_ hT_) (RL_f (fun p k hp => (k10 p k (nx_WFES_CSL hp)).trans (k4 p k (nx_WTK_CSL hp))) hL_) (RS_f (fun p k hp => (k10 p k (nx_WFES_CSS hp)).trans (k4 p k (nx_WTK_CSS hp))) hS_) (RE_f rfl rfl hE_) (RY_f (fun p k hp => (k10 p k (nx_WFES_CSY hp)).trans (k4 p k (nx_WTK_CSY hp))) hY_) (RX_f (fun p k hp => (k10 p k (nx_WFES_CSX hp)).trans (k4 p k (nx_WTK_CSX hp))) hX_)
set_option maxRecDepth 100000 in
set_option maxHeartbeats 4000000 in
theorem lwx_5 {l : Launch} {G : xG} (hL : G.2.2.2.2.1 ≤ 3072) {M : xM} {J : xJ} {i : Nat} (hi : i + 6 ≤ G.2.2.2.2.1) (hC : InvC M) (hR : InvR M) (hB_ : RB M) (hP_ : RP M) (hT_ : RT M) (hL_ : RLk M) (hS_ : RS M) (hE_ : RE J) (hY_ : RY M J) (hX_ : RX M) (hN : ∀ (M2 : xM) (J2 : xJ), InvC M2 → InvR M2 → RB M2 → RP M2 → RT M2 → RLk M2 → RS M2 → RE J2 → RY M2 J2 → RX M2 → x_X l G fL_law 200 600000 7302250 (qR (some (.int 1))) 1502 [(3, .int (nI (i))), (2, .ref (62)), (1, .ref (0)), (0, .ref (1002))] [] x_SH M2 J2 87 2934) : x_X l G fL_law 200 600000 7302250 (qR (some (.int 1))) 381 [(3, .int (nI (i))), (2, .ref (62)), (1, .ref (0)), (0, .ref (1002))] [] x_SH M J 87 2934 := by
  refine xr_aload_n dL_law_381 2 rfl ?_
  obtain ⟨nh, D, t, S, lg, lu, lw, hWG, ⟨hGc, hGr⟩, ⟨hWL, hLc, hLr⟩, hKX⟩ := id hX_
  refine xr_callV (As := []) (rest := []) mlL_36 (gx_X9_law hC hWG hGc) dL_law_382 s_0 rfl rfl (Nat.le_of_ble_eq_true rfl) (by decide) ⟨by decide, by decide⟩ (fun v s2 M3 J2 hq => ?_)
  obtain ⟨r5, rfl, rfl, rfl, k4, hI1, hx2⟩ := hq
  try dsimp only [Option.toList, List.cons_append, List.nil_append]
  have kk6 : ∀ p k, 62 ≤ p → M3 p k = M p k := (fun p k hp => k4 p k (by unfold WLAW; omega))
  refine xr_pop dL_law_385 rfl ?_
  refine xr_aload_n dL_law_386 1 rfl ?_
  refine xr_callV (As := []) (rest := []) mlL_40 (gx_X10_law (InvR_ke kk6 hR) hWG (RG_f hWG.1 hGr kk6)) dL_law_387 s_62 rfl rfl (Nat.le_of_ble_eq_true rfl) (by decide) ⟨by decide, by decide⟩ (fun v s2 M9 J2 hq => ?_)
  obtain ⟨r11, rfl, rfl, rfl, k10, hI7, hx8⟩ := hq
  try dsimp only [Option.toList, List.cons_append, List.nil_append]
  have kk12 : ∀ p k, p < 62 → M9 p k = M3 p k := (fun p k hp => k10 p k (by unfold WLT; omega))
  refine xr_pop dL_law_390 rfl ?_
  refine xr_goto (tgt := 1502) dL_law_391 rfl ?_
  refine xb_ls (ls2 := [(3, .int (nI (i))), (2, .ref (62)), (1, .ref (0)), (0, .ref (1002))]) [0, 1, 2, 3] rfl ?_
  exact hN _ _ (InvC_ke kk12 hI1) hI7 (RB_f (fun p k hp => (k10 p k (nx_WLT_CSB hp)).trans (k4 p k (nx_WLAW_CSB hp))) hB_) (jP_law (M := M) hx2.1 hx8.1 kk6 kk12) (RT_f (fun p k hp => (k10 p k (nx_WLT_CST hp)).trans (k4 p k (nx_WLAW_CST hp))) hT_) (RL_f (fun p k hp => (k10 p k (nx_WLT_CSL hp)).trans (k4 p k (nx_WLAW_CSL hp))) hL_) (RS_f (fun p k hp => (k10 p k (nx_WLT_CSS hp)).trans (k4 p k (nx_WLAW_CSS hp))) hS_) (RE_f rfl rfl hE_) (RY_f (fun p k hp => (k10 p k (nx_WLT_CSY hp)).trans (k4 p k (nx_WLAW_CSY hp))) hY_) (jX_law hWG (LX_f (fun p k hp => (k10 p k (nx_WLT_CSu hp)).trans (k4 p k (nx_WLAW_CSu hp))) ⟨hWL, hLc, hLr⟩) (KX_f (fun p k hp => (k10 p k (nx_WLT_CSk hp)).trans (k4 p k (nx_WLAW_CSk hp))) (Nat.le_refl _) hWG.1 hKX) kk12 (hT_.trans (funext fun j => (kk6 69 j (by decide)).symm)) (hP_.trans (kk6 62 11 (by decide)).symm) hx2.2 hx8.2).2
set_option maxRecDepth 100000 in
set_option maxHeartbeats 4000000 in
theorem lwx_6 {l : Launch} {G : xG} (hL : G.2.2.2.2.1 ≤ 3072) {M : xM} {J : xJ} {i : Nat} (hi : i + 6 ≤ G.2.2.2.2.1) (hC : InvC M) (hR : InvR M) (hB_ : RB M) (hP_ : RP M) (hT_ : RT M) (hL_ : RLk M) (hS_ : RS M) (hE_ : RE J) (hY_ : RY M J) (hX_ : RX M) (hN : ∀ (M2 : xM) (J2 : xJ), InvC M2 → InvR M2 → RB M2 → RP M2 → RT M2 → RLk M2 → RS M2 → RE J2 → RY M2 J2 → RX M2 → x_X l G fL_law 200 600000 7302250 (qR (some (.int 1))) 1502 [(3, .int (nI (i))), (2, .ref (62)), (1, .ref (0)), (0, .ref (1002))] [] x_SH M2 J2 87 2934) : x_X l G fL_law 200 600000 7302250 (qR (some (.int 1))) 394 [(3, .int (nI (i))), (2, .ref (62)), (1, .ref (0)), (0, .ref (1002))] [] x_SH M J 87 2934 := by
  refine xr_aload_n dL_law_394 2 rfl ?_
  refine xr_aload_n dL_law_395 3 rfl ?_
  refine xr_iload_n dL_law_396 0 rfl ?_
  refine xr_iconst (v := 1) dL_law_397 rfl ?_
  refine xr_iadd dL_law_398 ?_
  refine xb_top (y := nI (i + 1)) (nI_add (i) (1)) ?_
  refine xr_sld rfl (vp_in_nI (show i + 1 < G.2.2.2.2.1 by omega) (by omega)) dL_law_399 ?_
  refine xb_top (y := (G.2.2.2.2.2 (i + 1))) (by rw [nI_clamp (by omega)]) ?_
  obtain ⟨nh, D, t, S, lg, lu, lw, hWG, ⟨hGc, hGr⟩, ⟨hWL, hLc, hLr⟩, hKX⟩ := id hX_
  refine xr_callV (As := [.int ((G.2.2.2.2.2 (i + 1)))]) (rest := []) mlL_41 (gx_X9_go (G.2.2.2.2.2 (i + 1)) hC hWG hGc) dL_law_400 s_0 rfl rfl (Nat.le_of_ble_eq_true rfl) (by decide) ⟨by decide, by decide⟩ (fun v s2 M3 J2 hq => ?_)
  obtain ⟨r5, rfl, rfl, rfl, k4, hI1, hx2⟩ := hq
  try dsimp only [Option.toList, List.cons_append, List.nil_append]
  have kk6 : ∀ p k, 62 ≤ p → M3 p k = M p k := (fun p k hp => k4 p k (by unfold W13t; omega))
  refine xr_pop dL_law_403 rfl ?_
  refine xr_aload_n dL_law_404 1 rfl ?_
  refine xr_aload_n dL_law_405 3 rfl ?_
  refine xr_iload_n dL_law_406 0 rfl ?_
  refine xr_iconst (v := 1) dL_law_407 rfl ?_
  refine xr_iadd dL_law_408 ?_
  refine xb_top (y := nI (i + 1)) (nI_add (i) (1)) ?_
  refine xr_sld rfl (vp_in_nI (show i + 1 < G.2.2.2.2.1 by omega) (by omega)) dL_law_409 ?_
  refine xb_top (y := (G.2.2.2.2.2 (i + 1))) (by rw [nI_clamp (by omega)]) ?_
  refine xr_callV (As := [.int ((G.2.2.2.2.2 (i + 1)))]) (rest := []) mlL_44 (gx_X10_go (G.2.2.2.2.2 (i + 1)) (InvR_ke kk6 hR) hWG (RG_f hWG.1 hGr kk6)) dL_law_410 s_62 rfl rfl (Nat.le_of_ble_eq_true rfl) (by decide) ⟨by decide, by decide⟩ (fun v s2 M9 J2 hq => ?_)
  obtain ⟨r11, rfl, rfl, rfl, k10, hI7, hx8⟩ := hq
  try dsimp only [Option.toList, List.cons_append, List.nil_append]
  have kk12 : ∀ p k, p < 62 → M9 p k = M3 p k := (fun p k hp => k10 p k (by unfold WRG; omega))
  refine xr_pop dL_law_413 rfl ?_
  refine xr_goto (tgt := 1502) dL_law_414 rfl ?_
  refine xb_ls (ls2 := [(3, .int (nI (i))), (2, .ref (62)), (1, .ref (0)), (0, .ref (1002))]) [0, 1, 2, 3] rfl ?_
  exact hN _ _ (InvC_ke kk12 hI1) hI7 (RB_f (fun p k hp => (k10 p k (nx_WRG_CSB hp)).trans (k4 p k (nx_W13t_CSB hp))) hB_) (RP_f (fun p k hp => (k10 p k (nx_WRG_CSP hp)).trans (k4 p k (nx_W13t_CSP hp))) hP_) (RT_f (fun p k hp => (k10 p k (nx_WRG_CST hp)).trans (k4 p k (nx_W13t_CST hp))) hT_) (RL_f (fun p k hp => (k10 p k (nx_WRG_CSL hp)).trans (k4 p k (nx_W13t_CSL hp))) hL_) (RS_f (fun p k hp => (k10 p k (nx_WRG_CSS hp)).trans (k4 p k (nx_W13t_CSS hp))) hS_) (RE_f rfl rfl hE_) (RY_f (fun p k hp => (k10 p k (nx_WRG_CSY hp)).trans (k4 p k (nx_W13t_CSY hp))) hY_) (jX_go hWG (LX_f (fun p k hp => (k10 p k (nx_WRG_CSu hp)).trans (k4 p k (nx_W13t_CSu hp))) ⟨hWL, hLc, hLr⟩) (KX_f (fun p k hp => (k10 p k (nx_WRG_CSk hp)).trans (k4 p k (nx_W13t_CSk hp))) (Nat.le_refl _) hWG.1 hKX) kk12 hx2 hx8).2
set_option maxRecDepth 100000 in
set_option maxHeartbeats 4000000 in
theorem lwx_7 {l : Launch} {G : xG} (hL : G.2.2.2.2.1 ≤ 3072) {M : xM} {J : xJ} {i : Nat} (hi : i + 6 ≤ G.2.2.2.2.1) (hC : InvC M) (hR : InvR M) (hB_ : RB M) (hP_ : RP M) (hT_ : RT M) (hL_ : RLk M) (hS_ : RS M) (hE_ : RE J) (hY_ : RY M J) (hX_ : RX M) (hN : ∀ (M2 : xM) (J2 : xJ), InvC M2 → InvR M2 → RB M2 → RP M2 → RT M2 → RLk M2 → RS M2 → RE J2 → RY M2 J2 → RX M2 → x_X l G fL_law 200 600000 7302250 (qR (some (.int 1))) 1502 [(3, .int (nI (i))), (2, .ref (62)), (1, .ref (0)), (0, .ref (1002))] [] x_SH M2 J2 87 2934) : x_X l G fL_law 200 600000 7302250 (qR (some (.int 1))) 417 [(3, .int (nI (i))), (2, .ref (62)), (1, .ref (0)), (0, .ref (1002))] [] x_SH M J 87 2934 := by
  refine xr_aload_n dL_law_417 2 rfl ?_
  refine xr_aload_n dL_law_418 3 rfl ?_
  refine xr_iload_n dL_law_419 0 rfl ?_
  refine xr_iconst (v := 1) dL_law_420 rfl ?_
  refine xr_iadd dL_law_421 ?_
  refine xb_top (y := nI (i + 1)) (nI_add (i) (1)) ?_
  refine xr_sld rfl (vp_in_nI (show i + 1 < G.2.2.2.2.1 by omega) (by omega)) dL_law_422 ?_
  refine xb_top (y := (G.2.2.2.2.2 (i + 1))) (by rw [nI_clamp (by omega)]) ?_
  obtain ⟨nh, D, t, S, lg, lu, lw, hWG, ⟨hGc, hGr⟩, ⟨hWL, hLc, hLr⟩, hKX⟩ := id hX_
  refine xr_callV (As := [.int ((G.2.2.2.2.2 (i + 1)))]) (rest := []) mlL_45 (gx_X9_lift (G.2.2.2.2.2 (i + 1)) hC hWG hGc) dL_law_423 s_0 rfl rfl (Nat.le_of_ble_eq_true rfl) (by decide) ⟨by decide, by decide⟩ (fun v s2 M3 J2 hq => ?_)
  obtain ⟨r5, rfl, rfl, rfl, k4, hI1, hx2⟩ := hq
  try dsimp only [Option.toList, List.cons_append, List.nil_append]
  have kk6 : ∀ p k, 62 ≤ p → M3 p k = M p k := (fun p k hp => k4 p k (by unfold W15; omega))
  refine xr_pop dL_law_426 rfl ?_
  refine xr_aload_n dL_law_427 1 rfl ?_
  refine xr_aload_n dL_law_428 3 rfl ?_
  refine xr_iload_n dL_law_429 0 rfl ?_
  refine xr_iconst (v := 1) dL_law_430 rfl ?_
  refine xr_iadd dL_law_431 ?_
  refine xb_top (y := nI (i + 1)) (nI_add (i) (1)) ?_
  refine xr_sld rfl (vp_in_nI (show i + 1 < G.2.2.2.2.1 by omega) (by omega)) dL_law_432 ?_
  refine xb_top (y := (G.2.2.2.2.2 (i + 1))) (by rw [nI_clamp (by omega)]) ?_
  refine xr_callV (As := [.int ((G.2.2.2.2.2 (i + 1)))]) (rest := []) mlL_48 (gx_X10_lift (G.2.2.2.2.2 (i + 1)) (InvR_ke kk6 hR) hWG (RG_f hWG.1 hGr kk6)) dL_law_433 s_62 rfl rfl (Nat.le_of_ble_eq_true rfl) (by decide) ⟨by decide, by decide⟩ (fun v s2 M9 J2 hq => ?_)
  obtain ⟨r11, rfl, rfl, rfl, k10, hI7, hx8⟩ := hq
  try dsimp only [Option.toList, List.cons_append, List.nil_append]
  have kk12 : ∀ p k, p < 62 → M9 p k = M3 p k := (fun p k hp => k10 p k (by unfold WLI; omega))
  refine xr_pop dL_law_436 rfl ?_
  refine xr_goto (tgt := 1502) dL_law_437 rfl ?_
  refine xb_ls (ls2 := [(3, .int (nI (i))), (2, .ref (62)), (1, .ref (0)), (0, .ref (1002))]) [0, 1, 2, 3] rfl ?_
  exact hN _ _ (InvC_ke kk12 hI1) hI7 (RB_f (fun p k hp => (k10 p k (nx_WLI_CSB hp)).trans (k4 p k (nx_W15_CSB hp))) hB_) (RP_f (fun p k hp => (k10 p k (nx_WLI_CSP hp)).trans (k4 p k (nx_W15_CSP hp))) hP_) (RT_f (fun p k hp => (k10 p k (nx_WLI_CST hp)).trans (k4 p k (nx_W15_CST hp))) hT_) (RL_f (fun p k hp => (k10 p k (nx_WLI_CSL hp)).trans (k4 p k (nx_W15_CSL hp))) hL_) (RS_f (fun p k hp => (k10 p k (nx_WLI_CSS hp)).trans (k4 p k (nx_W15_CSS hp))) hS_) (RE_f rfl rfl hE_) (RY_f (fun p k hp => (k10 p k (nx_WLI_CSY hp)).trans (k4 p k (nx_W15_CSY hp))) hY_) (jX_lift hWG (LX_f (fun p k hp => (k10 p k (nx_WLI_CSu hp)).trans (k4 p k (nx_W15_CSu hp))) ⟨hWL, hLc, hLr⟩) (KX_f (fun p k hp => (k10 p k (nx_WLI_CSk hp)).trans (k4 p k (nx_W15_CSk hp))) (Nat.le_refl _) hWG.1 hKX) kk12 hx2 hx8).2
set_option maxRecDepth 100000 in
set_option maxHeartbeats 4000000 in
theorem lwx_8 {l : Launch} {G : xG} (hL : G.2.2.2.2.1 ≤ 3072) {M : xM} {J : xJ} {i : Nat} (hi : i + 6 ≤ G.2.2.2.2.1) (hC : InvC M) (hR : InvR M) (hB_ : RB M) (hP_ : RP M) (hT_ : RT M) (hL_ : RLk M) (hS_ : RS M) (hE_ : RE J) (hY_ : RY M J) (hX_ : RX M) (hN : ∀ (M2 : xM) (J2 : xJ), InvC M2 → InvR M2 → RB M2 → RP M2 → RT M2 → RLk M2 → RS M2 → RE J2 → RY M2 J2 → RX M2 → x_X l G fL_law 200 600000 7302250 (qR (some (.int 1))) 1502 [(3, .int (nI (i))), (2, .ref (62)), (1, .ref (0)), (0, .ref (1002))] [] x_SH M2 J2 87 2934) : x_X l G fL_law 200 600000 7302250 (qR (some (.int 1))) 440 [(3, .int (nI (i))), (2, .ref (62)), (1, .ref (0)), (0, .ref (1002))] [] x_SH M J 87 2934 := by
  refine xr_aload_n dL_law_440 2 rfl ?_
  refine xr_aload_n dL_law_441 3 rfl ?_
  refine xr_iload_n dL_law_442 0 rfl ?_
  refine xr_iconst (v := 1) dL_law_443 rfl ?_
  refine xr_iadd dL_law_444 ?_
  refine xb_top (y := nI (i + 1)) (nI_add (i) (1)) ?_
  refine xr_sld rfl (vp_in_nI (show i + 1 < G.2.2.2.2.1 by omega) (by omega)) dL_law_445 ?_
  refine xb_top (y := (G.2.2.2.2.2 (i + 1))) (by rw [nI_clamp (by omega)]) ?_
  refine xr_callV (As := [.int ((G.2.2.2.2.2 (i + 1)))]) (rest := []) mlL_49 (g_X9_led (G.2.2.2.2.2 (i + 1)) hC) dL_law_446 s_0 rfl rfl (Nat.le_of_ble_eq_true rfl) (by decide) ⟨by decide, by decide⟩ (fun v s2 M9 J2 hq => ?_)
  obtain ⟨r3, rfl, rfl, rfl, rfl, hx2⟩ := hq
  try dsimp only [Option.toList, List.cons_append, List.nil_append]
  refine xr_pop dL_law_449 rfl ?_
  refine xr_aload_n dL_law_450 1 rfl ?_
  refine xr_aload_n dL_law_451 3 rfl ?_
  refine xr_iload_n dL_law_452 0 rfl ?_
  refine xr_iconst (v := 1) dL_law_453 rfl ?_
  refine xr_iadd dL_law_454 ?_
  refine xb_top (y := nI (i + 1)) (nI_add (i) (1)) ?_
  refine xr_sld rfl (vp_in_nI (show i + 1 < G.2.2.2.2.1 by omega) (by omega)) dL_law_455 ?_
  refine xb_top (y := (G.2.2.2.2.2 (i + 1))) (by rw [nI_clamp (by omega)]) ?_
  refine xr_callV (As := [.int ((G.2.2.2.2.2 (i + 1)))]) (rest := []) mlL_52 (g_X10_led (G.2.2.2.2.2 (i + 1)) hR) dL_law_456 s_62 rfl rfl (Nat.le_of_ble_eq_true rfl) (by decide) ⟨by decide, by decide⟩ (fun v s2 M9 J2 hq => ?_)
  obtain ⟨r6, rfl, rfl, rfl, rfl, hx5⟩ := hq
  try dsimp only [Option.toList, List.cons_append, List.nil_append]
  refine xr_pop dL_law_459 rfl ?_
  refine xr_goto (tgt := 1502) dL_law_460 rfl ?_
  refine xb_ls (ls2 := [(3, .int (nI (i))), (2, .ref (62)), (1, .ref (0)), (0, .ref (1002))]) [0, 1, 2, 3] rfl ?_
  exact hN _ _ hC hR hB_ hP_ hT_ hL_ hS_ (RE_f rfl rfl hE_) hY_ hX_
set_option maxRecDepth 100000 in
set_option maxHeartbeats 4000000 in
theorem lwx_9 {l : Launch} {G : xG} (hL : G.2.2.2.2.1 ≤ 3072) {M : xM} {J : xJ} {i : Nat} (hi : i + 6 ≤ G.2.2.2.2.1) (hC : InvC M) (hR : InvR M) (hB_ : RB M) (hP_ : RP M) (hT_ : RT M) (hL_ : RLk M) (hS_ : RS M) (hE_ : RE J) (hY_ : RY M J) (hX_ : RX M) (hN : ∀ (M2 : xM) (J2 : xJ), InvC M2 → InvR M2 → RB M2 → RP M2 → RT M2 → RLk M2 → RS M2 → RE J2 → RY M2 J2 → RX M2 → x_X l G fL_law 200 600000 7302250 (qR (some (.int 1))) 1502 [(3, .int (nI (i))), (2, .ref (62)), (1, .ref (0)), (0, .ref (1002))] [] x_SH M2 J2 87 2934) : x_X l G fL_law 200 600000 7302250 (qR (some (.int 1))) 463 [(3, .int (nI (i))), (2, .ref (62)), (1, .ref (0)), (0, .ref (1002))] [] x_SH M J 87 2934 := by
  refine xr_aload_n dL_law_463 2 rfl ?_
  refine xr_aload_n dL_law_464 3 rfl ?_
  refine xr_iload_n dL_law_465 0 rfl ?_
  refine xr_iconst (v := 1) dL_law_466 rfl ?_
  refine xr_iadd dL_law_467 ?_
  refine xb_top (y := nI (i + 1)) (nI_add (i) (1)) ?_
  refine xr_sld rfl (vp_in_nI (show i + 1 < G.2.2.2.2.1 by omega) (by omega)) dL_law_468 ?_
  refine xb_top (y := (G.2.2.2.2.2 (i + 1))) (by rw [nI_clamp (by omega)]) ?_
  refine xr_aload_n dL_law_469 3 rfl ?_
  refine xr_iload_n dL_law_470 0 rfl ?_
  refine xr_iconst (v := 2) dL_law_471 rfl ?_
  refine xr_iadd dL_law_472 ?_
  refine xb_top (y := nI (i + 2)) (nI_add (i) (2)) ?_
  refine xr_sld rfl (vp_in_nI (show i + 2 < G.2.2.2.2.1 by omega) (by omega)) dL_law_473 ?_
  refine xb_top (y := (G.2.2.2.2.2 (i + 2))) (by rw [nI_clamp (by omega)]) ?_
  refine xr_aload_n dL_law_474 3 rfl ?_
  refine xr_iload_n dL_law_475 0 rfl ?_
  refine xr_iconst (v := 3) dL_law_476 rfl ?_
  refine xr_iadd dL_law_477 ?_
  refine xb_top (y := nI (i + 3)) (nI_add (i) (3)) ?_
  refine xr_sld rfl (vp_in_nI (show i + 3 < G.2.2.2.2.1 by omega) (by omega)) dL_law_478 ?_
  refine xb_top (y := (G.2.2.2.2.2 (i + 3))) (by rw [nI_clamp (by omega)]) ?_
  refine xr_callV (As := [.int ((G.2.2.2.2.2 (i + 1))), .int ((G.2.2.2.2.2 (i + 2))), .int ((G.2.2.2.2.2 (i + 3)))]) (rest := []) mlL_53 (g_X9_then (G.2.2.2.2.2 (i + 1)) (G.2.2.2.2.2 (i + 2)) (G.2.2.2.2.2 (i + 3)) hC) dL_law_479 s_0 rfl rfl (Nat.le_of_ble_eq_true rfl) (by decide) ⟨by decide, by decide⟩ (fun v s2 M3 J2 hq => ?_)
  obtain ⟨r5, rfl, rfl, rfl, k4, hI1⟩ := hq
  try dsimp only [Option.toList, List.cons_append, List.nil_append]
  have kk6 : ∀ p k, 62 ≤ p → M3 p k = M p k := (fun p k hp => k4 p k (by unfold WTH; omega))
  refine xr_pop dL_law_482 rfl ?_
  refine xr_aload_n dL_law_483 1 rfl ?_
  refine xr_aload_n dL_law_484 3 rfl ?_
  refine xr_iload_n dL_law_485 0 rfl ?_
  refine xr_iconst (v := 1) dL_law_486 rfl ?_
  refine xr_iadd dL_law_487 ?_
  refine xb_top (y := nI (i + 1)) (nI_add (i) (1)) ?_
  refine xr_sld rfl (vp_in_nI (show i + 1 < G.2.2.2.2.1 by omega) (by omega)) dL_law_488 ?_
  refine xb_top (y := (G.2.2.2.2.2 (i + 1))) (by rw [nI_clamp (by omega)]) ?_
  refine xr_aload_n dL_law_489 3 rfl ?_
  refine xr_iload_n dL_law_490 0 rfl ?_
  refine xr_iconst (v := 2) dL_law_491 rfl ?_
  refine xr_iadd dL_law_492 ?_
  refine xb_top (y := nI (i + 2)) (nI_add (i) (2)) ?_
  refine xr_sld rfl (vp_in_nI (show i + 2 < G.2.2.2.2.1 by omega) (by omega)) dL_law_493 ?_
  refine xb_top (y := (G.2.2.2.2.2 (i + 2))) (by rw [nI_clamp (by omega)]) ?_
  refine xr_aload_n dL_law_494 3 rfl ?_
  refine xr_iload_n dL_law_495 0 rfl ?_
  refine xr_iconst (v := 3) dL_law_496 rfl ?_
  refine xr_iadd dL_law_497 ?_
  refine xb_top (y := nI (i + 3)) (nI_add (i) (3)) ?_
  refine xr_sld rfl (vp_in_nI (show i + 3 < G.2.2.2.2.1 by omega) (by omega)) dL_law_498 ?_
  refine xb_top (y := (G.2.2.2.2.2 (i + 3))) (by rw [nI_clamp (by omega)]) ?_
  refine xr_callV (As := [.int ((G.2.2.2.2.2 (i + 1))), .int ((G.2.2.2.2.2 (i + 2))), .int ((G.2.2.2.2.2 (i + 3)))]) (rest := []) mlL_56 (g_X10_then (G.2.2.2.2.2 (i + 1)) (G.2.2.2.2.2 (i + 2)) (G.2.2.2.2.2 (i + 3)) (InvR_ke kk6 hR)) dL_law_499 s_62 rfl rfl (Nat.le_of_ble_eq_true rfl) (by decide) ⟨by decide, by decide⟩ (fun v s2 M9 J2 hq => ?_)
  obtain ⟨r11, rfl, rfl, rfl, k10, hI7⟩ := hq
  try dsimp only [Option.toList, List.cons_append, List.nil_append]
  have kk12 : ∀ p k, p < 62 → M9 p k = M3 p k := (fun p k hp => k10 p k (by unfold WR1; omega))
  refine xr_pop dL_law_502 rfl ?_
  refine xr_goto (tgt := 1502) dL_law_503 rfl ?_
  refine xb_ls (ls2 := [(3, .int (nI (i))), (2, .ref (62)), (1, .ref (0)), (0, .ref (1002))]) [0, 1, 2, 3] rfl ?_
  exact hN _ _ (InvC_ke kk12 hI1) hI7 (RB_f (fun p k hp => (k10 p k (nx_WR1_CSB hp)).trans (k4 p k (nx_WTH_CSB hp))) hB_) (RP_f (fun p k hp => (k10 p k (nx_WR1_CSP hp)).trans (k4 p k (nx_WTH_CSP hp))) hP_) (RT_f (fun p k hp => (k10 p k (nx_WR1_CST hp)).trans (k4 p k (nx_WTH_CST hp))) hT_) (RL_f (fun p k hp => (k10 p k (nx_WR1_CSL hp)).trans (k4 p k (nx_WTH_CSL hp))) hL_) (RS_f (fun p k hp => (k10 p k (nx_WR1_CSS hp)).trans (k4 p k (nx_WTH_CSS hp))) hS_) (RE_f rfl rfl hE_) (RY_f (fun p k hp => (k10 p k (nx_WR1_CSY hp)).trans (k4 p k (nx_WTH_CSY hp))) hY_) (RX_f (fun p k hp => (k10 p k (nx_WR1_CSX hp)).trans (k4 p k (nx_WTH_CSX hp))) hX_)
set_option maxRecDepth 100000 in
set_option maxHeartbeats 4000000 in
theorem lwx_10 {l : Launch} {G : xG} (hL : G.2.2.2.2.1 ≤ 3072) {M : xM} {J : xJ} {i : Nat} (hi : i + 6 ≤ G.2.2.2.2.1) (hC : InvC M) (hR : InvR M) (hB_ : RB M) (hP_ : RP M) (hT_ : RT M) (hL_ : RLk M) (hS_ : RS M) (hE_ : RE J) (hY_ : RY M J) (hX_ : RX M) (hN : ∀ (M2 : xM) (J2 : xJ), InvC M2 → InvR M2 → RB M2 → RP M2 → RT M2 → RLk M2 → RS M2 → RE J2 → RY M2 J2 → RX M2 → x_X l G fL_law 200 600000 7302250 (qR (some (.int 1))) 1502 [(3, .int (nI (i))), (2, .ref (62)), (1, .ref (0)), (0, .ref (1002))] [] x_SH M2 J2 87 2934) : x_X l G fL_law 200 600000 7302250 (qR (some (.int 1))) 506 [(3, .int (nI (i))), (2, .ref (62)), (1, .ref (0)), (0, .ref (1002))] [] x_SH M J 87 2934 := by
  refine xr_aload_n dL_law_506 2 rfl ?_
  refine xr_aload_n dL_law_507 3 rfl ?_
  refine xr_iload_n dL_law_508 0 rfl ?_
  refine xr_iconst (v := 1) dL_law_509 rfl ?_
  refine xr_iadd dL_law_510 ?_
  refine xb_top (y := nI (i + 1)) (nI_add (i) (1)) ?_
  refine xr_sld rfl (vp_in_nI (show i + 1 < G.2.2.2.2.1 by omega) (by omega)) dL_law_511 ?_
  refine xb_top (y := (G.2.2.2.2.2 (i + 1))) (by rw [nI_clamp (by omega)]) ?_
  refine xr_callV (As := [.int ((G.2.2.2.2.2 (i + 1)))]) (rest := []) mlL_57 (g_X9_falls (G.2.2.2.2.2 (i + 1)) hC) dL_law_512 s_0 rfl rfl (Nat.le_of_ble_eq_true rfl) (by decide) ⟨by decide, by decide⟩ (fun v s2 M3 J2 hq => ?_)
  obtain ⟨r5, rfl, rfl, rfl, k4, hI1⟩ := hq
  try dsimp only [Option.toList, List.cons_append, List.nil_append]
  have kk6 : ∀ p k, 62 ≤ p → M3 p k = M p k := (fun p k hp => k4 p k (by unfold WTH; omega))
  refine xr_pop dL_law_515 rfl ?_
  refine xr_aload_n dL_law_516 1 rfl ?_
  refine xr_aload_n dL_law_517 3 rfl ?_
  refine xr_iload_n dL_law_518 0 rfl ?_
  refine xr_iconst (v := 1) dL_law_519 rfl ?_
  refine xr_iadd dL_law_520 ?_
  refine xb_top (y := nI (i + 1)) (nI_add (i) (1)) ?_
  refine xr_sld rfl (vp_in_nI (show i + 1 < G.2.2.2.2.1 by omega) (by omega)) dL_law_521 ?_
  refine xb_top (y := (G.2.2.2.2.2 (i + 1))) (by rw [nI_clamp (by omega)]) ?_
  refine xr_callV (As := [.int ((G.2.2.2.2.2 (i + 1)))]) (rest := []) mlL_60 (g_X10_falls (G.2.2.2.2.2 (i + 1)) (InvR_ke kk6 hR)) dL_law_522 s_62 rfl rfl (Nat.le_of_ble_eq_true rfl) (by decide) ⟨by decide, by decide⟩ (fun v s2 M9 J2 hq => ?_)
  obtain ⟨r11, rfl, rfl, rfl, k10, hI7⟩ := hq
  try dsimp only [Option.toList, List.cons_append, List.nil_append]
  have kk12 : ∀ p k, p < 62 → M9 p k = M3 p k := (fun p k hp => k10 p k (by unfold WR1; omega))
  refine xr_pop dL_law_525 rfl ?_
  refine xr_goto (tgt := 1502) dL_law_526 rfl ?_
  refine xb_ls (ls2 := [(3, .int (nI (i))), (2, .ref (62)), (1, .ref (0)), (0, .ref (1002))]) [0, 1, 2, 3] rfl ?_
  exact hN _ _ (InvC_ke kk12 hI1) hI7 (RB_f (fun p k hp => (k10 p k (nx_WR1_CSB hp)).trans (k4 p k (nx_WTH_CSB hp))) hB_) (RP_f (fun p k hp => (k10 p k (nx_WR1_CSP hp)).trans (k4 p k (nx_WTH_CSP hp))) hP_) (RT_f (fun p k hp => (k10 p k (nx_WR1_CST hp)).trans (k4 p k (nx_WTH_CST hp))) hT_) (RL_f (fun p k hp => (k10 p k (nx_WR1_CSL hp)).trans (k4 p k (nx_WTH_CSL hp))) hL_) (RS_f (fun p k hp => (k10 p k (nx_WR1_CSS hp)).trans (k4 p k (nx_WTH_CSS hp))) hS_) (RE_f rfl rfl hE_) (RY_f (fun p k hp => (k10 p k (nx_WR1_CSY hp)).trans (k4 p k (nx_WTH_CSY hp))) hY_) (RX_f (fun p k hp => (k10 p k (nx_WR1_CSX hp)).trans (k4 p k (nx_WTH_CSX hp))) hX_)
set_option maxRecDepth 100000 in
set_option maxHeartbeats 4000000 in
theorem lwx_11 {l : Launch} {G : xG} (hL : G.2.2.2.2.1 ≤ 3072) {M : xM} {J : xJ} {i : Nat} (hi : i + 6 ≤ G.2.2.2.2.1) (hC : InvC M) (hR : InvR M) (hB_ : RB M) (hP_ : RP M) (hT_ : RT M) (hL_ : RLk M) (hS_ : RS M) (hE_ : RE J) (hY_ : RY M J) (hX_ : RX M) (hN : ∀ (M2 : xM) (J2 : xJ), InvC M2 → InvR M2 → RB M2 → RP M2 → RT M2 → RLk M2 → RS M2 → RE J2 → RY M2 J2 → RX M2 → x_X l G fL_law 200 600000 7302250 (qR (some (.int 1))) 1502 [(3, .int (nI (i))), (2, .ref (62)), (1, .ref (0)), (0, .ref (1002))] [] x_SH M2 J2 87 2934) : x_X l G fL_law 200 600000 7302250 (qR (some (.int 1))) 529 [(3, .int (nI (i))), (2, .ref (62)), (1, .ref (0)), (0, .ref (1002))] [] x_SH M J 87 2934 := by
  refine xr_aload_n dL_law_529 2 rfl ?_
  refine xr_callV (As := []) (rest := []) mlL_61 (g_X9_lasts hC) dL_law_530 s_0 rfl rfl (Nat.le_of_ble_eq_true rfl) (by decide) ⟨by decide, by decide⟩ (fun v s2 M3 J2 hq => ?_)
  obtain ⟨r5, rfl, rfl, rfl, k4, hI1⟩ := hq
  try dsimp only [Option.toList, List.cons_append, List.nil_append]
  have kk6 : ∀ p k, 62 ≤ p → M3 p k = M p k := (fun p k hp => k4 p k (by unfold WTH; omega))
  refine xr_pop dL_law_533 rfl ?_
  refine xr_aload_n dL_law_534 1 rfl ?_
  refine xr_callV (As := []) (rest := []) mlL_64 (g_X10_lasts (InvR_ke kk6 hR)) dL_law_535 s_62 rfl rfl (Nat.le_of_ble_eq_true rfl) (by decide) ⟨by decide, by decide⟩ (fun v s2 M9 J2 hq => ?_)
  obtain ⟨r11, rfl, rfl, rfl, k10, hI7⟩ := hq
  try dsimp only [Option.toList, List.cons_append, List.nil_append]
  have kk12 : ∀ p k, p < 62 → M9 p k = M3 p k := (fun p k hp => k10 p k (by unfold WR1; omega))
  refine xr_pop dL_law_538 rfl ?_
  refine xr_goto (tgt := 1502) dL_law_539 rfl ?_
  refine xb_ls (ls2 := [(3, .int (nI (i))), (2, .ref (62)), (1, .ref (0)), (0, .ref (1002))]) [0, 1, 2, 3] rfl ?_
  exact hN _ _ (InvC_ke kk12 hI1) hI7 (RB_f (fun p k hp => (k10 p k (nx_WR1_CSB hp)).trans (k4 p k (nx_WTH_CSB hp))) hB_) (RP_f (fun p k hp => (k10 p k (nx_WR1_CSP hp)).trans (k4 p k (nx_WTH_CSP hp))) hP_) (RT_f (fun p k hp => (k10 p k (nx_WR1_CST hp)).trans (k4 p k (nx_WTH_CST hp))) hT_) (RL_f (fun p k hp => (k10 p k (nx_WR1_CSL hp)).trans (k4 p k (nx_WTH_CSL hp))) hL_) (RS_f (fun p k hp => (k10 p k (nx_WR1_CSS hp)).trans (k4 p k (nx_WTH_CSS hp))) hS_) (RE_f rfl rfl hE_) (RY_f (fun p k hp => (k10 p k (nx_WR1_CSY hp)).trans (k4 p k (nx_WTH_CSY hp))) hY_) (RX_f (fun p k hp => (k10 p k (nx_WR1_CSX hp)).trans (k4 p k (nx_WTH_CSX hp))) hX_)
set_option maxRecDepth 100000 in
set_option maxHeartbeats 4000000 in
theorem lwx_12 {l : Launch} {G : xG} (hL : G.2.2.2.2.1 ≤ 3072) {M : xM} {J : xJ} {i : Nat} (hi : i + 6 ≤ G.2.2.2.2.1) (hC : InvC M) (hR : InvR M) (hB_ : RB M) (hP_ : RP M) (hT_ : RT M) (hL_ : RLk M) (hS_ : RS M) (hE_ : RE J) (hY_ : RY M J) (hX_ : RX M) (hN : ∀ (M2 : xM) (J2 : xJ), InvC M2 → InvR M2 → RB M2 → RP M2 → RT M2 → RLk M2 → RS M2 → RE J2 → RY M2 J2 → RX M2 → x_X l G fL_law 200 600000 7302250 (qR (some (.int 1))) 1502 [(3, .int (nI (i))), (2, .ref (62)), (1, .ref (0)), (0, .ref (1002))] [] x_SH M2 J2 87 2934) : x_X l G fL_law 200 600000 7302250 (qR (some (.int 1))) 542 [(3, .int (nI (i))), (2, .ref (62)), (1, .ref (0)), (0, .ref (1002))] [] x_SH M J 87 2934 := by
  refine xr_aload_n dL_law_542 2 rfl ?_
  refine xr_aload_n dL_law_543 3 rfl ?_
  refine xr_iload_n dL_law_544 0 rfl ?_
  refine xr_iconst (v := 1) dL_law_545 rfl ?_
  refine xr_iadd dL_law_546 ?_
  refine xb_top (y := nI (i + 1)) (nI_add (i) (1)) ?_
  refine xr_sld rfl (vp_in_nI (show i + 1 < G.2.2.2.2.1 by omega) (by omega)) dL_law_547 ?_
  refine xb_top (y := (G.2.2.2.2.2 (i + 1))) (by rw [nI_clamp (by omega)]) ?_
  obtain ⟨nh, D, t, S, lg, lu, lw, hWG, ⟨hGc, hGr⟩, ⟨hWL, hLc, hLr⟩, hKX⟩ := id hX_
  refine xr_callV (As := [.int ((G.2.2.2.2.2 (i + 1)))]) (rest := []) mlL_65 (g_X9_beatFor (G.2.2.2.2.2 (i + 1)) hC) dL_law_548 s_0 rfl rfl (Nat.le_of_ble_eq_true rfl) (by decide) ⟨by decide, by decide⟩ (fun v s2 M3 J2 hq => ?_)
  obtain ⟨r5, rfl, rfl, rfl, k4, hI1⟩ := hq
  try dsimp only [Option.toList, List.cons_append, List.nil_append]
  have kk6 : ∀ p k, 62 ≤ p → M3 p k = M p k := (fun p k hp => k4 p k (by unfold WTH; omega))
  refine xr_pop dL_law_551 rfl ?_
  refine xr_aload_n dL_law_552 1 rfl ?_
  refine xr_aload_n dL_law_553 3 rfl ?_
  refine xr_iload_n dL_law_554 0 rfl ?_
  refine xr_iconst (v := 1) dL_law_555 rfl ?_
  refine xr_iadd dL_law_556 ?_
  refine xb_top (y := nI (i + 1)) (nI_add (i) (1)) ?_
  refine xr_sld rfl (vp_in_nI (show i + 1 < G.2.2.2.2.1 by omega) (by omega)) dL_law_557 ?_
  refine xb_top (y := (G.2.2.2.2.2 (i + 1))) (by rw [nI_clamp (by omega)]) ?_
  refine xr_callV (As := [.int ((G.2.2.2.2.2 (i + 1)))]) (rest := []) mlL_68 (gx_X10_beatFor (G.2.2.2.2.2 (i + 1)) (InvR_ke kk6 hR) hWG (RG_f hWG.1 hGr kk6)) dL_law_558 s_62 rfl rfl (Nat.le_of_ble_eq_true rfl) (by decide) ⟨by decide, by decide⟩ (fun v s2 M9 J2 hq => ?_)
  obtain ⟨r11, rfl, rfl, rfl, k10, hI7, hx8⟩ := hq
  try dsimp only [Option.toList, List.cons_append, List.nil_append]
  have kk12 : ∀ p k, p < 62 → M9 p k = M3 p k := (fun p k hp => k10 p k (by unfold WRB; omega))
  refine xr_pop dL_law_561 rfl ?_
  refine xr_goto (tgt := 1502) dL_law_562 rfl ?_
  refine xb_ls (ls2 := [(3, .int (nI (i))), (2, .ref (62)), (1, .ref (0)), (0, .ref (1002))]) [0, 1, 2, 3] rfl ?_
  exact hN _ _ (InvC_ke kk12 hI1) hI7 (RB_f (fun p k hp => (k10 p k (nx_WRB_CSB hp)).trans (k4 p k (nx_WTH_CSB hp))) hB_) (RP_f (fun p k hp => (k10 p k (nx_WRB_CSP hp)).trans (k4 p k (nx_WTH_CSP hp))) hP_) (RT_f (fun p k hp => (k10 p k (nx_WRB_CST hp)).trans (k4 p k (nx_WTH_CST hp))) hT_) (RL_f (fun p k hp => (k10 p k (nx_WRB_CSL hp)).trans (k4 p k (nx_WTH_CSL hp))) hL_) (RS_f (fun p k hp => (k10 p k (nx_WRB_CSS hp)).trans (k4 p k (nx_WTH_CSS hp))) hS_) (RE_f rfl rfl hE_) (RY_f (fun p k hp => (k10 p k (nx_WRB_CSY hp)).trans (k4 p k (nx_WTH_CSY hp))) hY_) (jX_keep hWG hGc (fun p k hp => (k10 p k (nx_WRB_CSc hp)).trans (k4 p k (nx_WTH_CSc hp))) hx8.2 (LX_f (fun p k hp => (k10 p k (nx_WRB_CSu hp)).trans (k4 p k (nx_WTH_CSu hp))) ⟨hWL, hLc, hLr⟩) (KX_f (fun p k hp => (k10 p k (nx_WRB_CSk hp)).trans (k4 p k (nx_WTH_CSk hp))) (Nat.le_refl _) hWG.1 hKX))
set_option maxRecDepth 100000 in
set_option maxHeartbeats 4000000 in
theorem lwx_13 {l : Launch} {G : xG} (hL : G.2.2.2.2.1 ≤ 3072) {M : xM} {J : xJ} {i : Nat} (hi : i + 6 ≤ G.2.2.2.2.1) (hC : InvC M) (hR : InvR M) (hB_ : RB M) (hP_ : RP M) (hT_ : RT M) (hL_ : RLk M) (hS_ : RS M) (hE_ : RE J) (hY_ : RY M J) (hX_ : RX M) (hN : ∀ (M2 : xM) (J2 : xJ), InvC M2 → InvR M2 → RB M2 → RP M2 → RT M2 → RLk M2 → RS M2 → RE J2 → RY M2 J2 → RX M2 → x_X l G fL_law 200 600000 7302250 (qR (some (.int 1))) 1502 [(3, .int (nI (i))), (2, .ref (62)), (1, .ref (0)), (0, .ref (1002))] [] x_SH M2 J2 87 2934) : x_X l G fL_law 200 600000 7302250 (qR (some (.int 1))) 565 [(3, .int (nI (i))), (2, .ref (62)), (1, .ref (0)), (0, .ref (1002))] [] x_SH M J 87 2934 := by
  refine xr_aload_n dL_law_565 2 rfl ?_
  refine xr_aload_n dL_law_566 3 rfl ?_
  refine xr_iload_n dL_law_567 0 rfl ?_
  refine xr_iconst (v := 1) dL_law_568 rfl ?_
  refine xr_iadd dL_law_569 ?_
  refine xb_top (y := nI (i + 1)) (nI_add (i) (1)) ?_
  refine xr_sld rfl (vp_in_nI (show i + 1 < G.2.2.2.2.1 by omega) (by omega)) dL_law_570 ?_
  refine xb_top (y := (G.2.2.2.2.2 (i + 1))) (by rw [nI_clamp (by omega)]) ?_
  obtain ⟨nh, D, t, S, lg, lu, lw, hWG, ⟨hGc, hGr⟩, ⟨hWL, hLc, hLr⟩, hKX⟩ := id hX_
  refine xr_callV (As := [.int ((G.2.2.2.2.2 (i + 1)))]) (rest := []) mlL_69 (g_X9_leastPush (G.2.2.2.2.2 (i + 1)) hC) dL_law_571 s_0 rfl rfl (Nat.le_of_ble_eq_true rfl) (by decide) ⟨by decide, by decide⟩ (fun v s2 M3 J2 hq => ?_)
  obtain ⟨r5, rfl, rfl, rfl, k4, hI1⟩ := hq
  try dsimp only [Option.toList, List.cons_append, List.nil_append]
  have kk6 : ∀ p k, 62 ≤ p → M3 p k = M p k := (fun p k hp => k4 p k (by unfold WTH; omega))
  refine xr_pop dL_law_574 rfl ?_
  refine xr_aload_n dL_law_575 1 rfl ?_
  refine xr_aload_n dL_law_576 3 rfl ?_
  refine xr_iload_n dL_law_577 0 rfl ?_
  refine xr_iconst (v := 1) dL_law_578 rfl ?_
  refine xr_iadd dL_law_579 ?_
  refine xb_top (y := nI (i + 1)) (nI_add (i) (1)) ?_
  refine xr_sld rfl (vp_in_nI (show i + 1 < G.2.2.2.2.1 by omega) (by omega)) dL_law_580 ?_
  refine xb_top (y := (G.2.2.2.2.2 (i + 1))) (by rw [nI_clamp (by omega)]) ?_
  refine xr_callV (As := [.int ((G.2.2.2.2.2 (i + 1)))]) (rest := []) mlL_72 (gx_X10_leastPush (G.2.2.2.2.2 (i + 1)) (InvR_ke kk6 hR) hWG (RG_f hWG.1 hGr kk6)) dL_law_581 s_62 rfl rfl (Nat.le_of_ble_eq_true rfl) (by decide) ⟨by decide, by decide⟩ (fun v s2 M9 J2 hq => ?_)
  obtain ⟨r11, rfl, rfl, rfl, k10, hI7, hx8⟩ := hq
  try dsimp only [Option.toList, List.cons_append, List.nil_append]
  have kk12 : ∀ p k, p < 62 → M9 p k = M3 p k := (fun p k hp => k10 p k (by unfold WRL; omega))
  refine xr_pop dL_law_584 rfl ?_
  refine xr_goto (tgt := 1502) dL_law_585 rfl ?_
  refine xb_ls (ls2 := [(3, .int (nI (i))), (2, .ref (62)), (1, .ref (0)), (0, .ref (1002))]) [0, 1, 2, 3] rfl ?_
  exact hN _ _ (InvC_ke kk12 hI1) hI7 (RB_f (fun p k hp => (k10 p k (nx_WRL_CSB hp)).trans (k4 p k (nx_WTH_CSB hp))) hB_) (RP_f (fun p k hp => (k10 p k (nx_WRL_CSP hp)).trans (k4 p k (nx_WTH_CSP hp))) hP_) (RT_f (fun p k hp => (k10 p k (nx_WRL_CST hp)).trans (k4 p k (nx_WTH_CST hp))) hT_) (RL_f (fun p k hp => (k10 p k (nx_WRL_CSL hp)).trans (k4 p k (nx_WTH_CSL hp))) hL_) (RS_f (fun p k hp => (k10 p k (nx_WRL_CSS hp)).trans (k4 p k (nx_WTH_CSS hp))) hS_) (RE_f rfl rfl hE_) (RY_f (fun p k hp => (k10 p k (nx_WRL_CSY hp)).trans (k4 p k (nx_WTH_CSY hp))) hY_) (jX_keep hWG hGc (fun p k hp => (k10 p k (nx_WRL_CSc hp)).trans (k4 p k (nx_WTH_CSc hp))) hx8.2 (LX_f (fun p k hp => (k10 p k (nx_WRL_CSu hp)).trans (k4 p k (nx_WTH_CSu hp))) ⟨hWL, hLc, hLr⟩) (KX_f (fun p k hp => (k10 p k (nx_WRL_CSk hp)).trans (k4 p k (nx_WTH_CSk hp))) (Nat.le_refl _) hWG.1 hKX))
set_option maxRecDepth 100000 in
set_option maxHeartbeats 4000000 in
theorem lwx_14 {l : Launch} {G : xG} (hL : G.2.2.2.2.1 ≤ 3072) {M : xM} {J : xJ} {i : Nat} (hi : i + 6 ≤ G.2.2.2.2.1) (hC : InvC M) (hR : InvR M) (hB_ : RB M) (hP_ : RP M) (hT_ : RT M) (hL_ : RLk M) (hS_ : RS M) (hE_ : RE J) (hY_ : RY M J) (hX_ : RX M) (hN : ∀ (M2 : xM) (J2 : xJ), InvC M2 → InvR M2 → RB M2 → RP M2 → RT M2 → RLk M2 → RS M2 → RE J2 → RY M2 J2 → RX M2 → x_X l G fL_law 200 600000 7302250 (qR (some (.int 1))) 1502 [(3, .int (nI (i))), (2, .ref (62)), (1, .ref (0)), (0, .ref (1002))] [] x_SH M2 J2 87 2934) : x_X l G fL_law 200 600000 7302250 (qR (some (.int 1))) 588 [(3, .int (nI (i))), (2, .ref (62)), (1, .ref (0)), (0, .ref (1002))] [] x_SH M J 87 2934 := by
  refine xr_aload_n dL_law_588 2 rfl ?_
  refine xr_aload_n dL_law_589 3 rfl ?_
  refine xr_iload_n dL_law_590 0 rfl ?_
  refine xr_iconst (v := 1) dL_law_591 rfl ?_
  refine xr_iadd dL_law_592 ?_
  refine xb_top (y := nI (i + 1)) (nI_add (i) (1)) ?_
  refine xr_sld rfl (vp_in_nI (show i + 1 < G.2.2.2.2.1 by omega) (by omega)) dL_law_593 ?_
  refine xb_top (y := (G.2.2.2.2.2 (i + 1))) (by rw [nI_clamp (by omega)]) ?_
  refine xr_aload_n dL_law_594 3 rfl ?_
  refine xr_iload_n dL_law_595 0 rfl ?_
  refine xr_iconst (v := 2) dL_law_596 rfl ?_
  refine xr_iadd dL_law_597 ?_
  refine xb_top (y := nI (i + 2)) (nI_add (i) (2)) ?_
  refine xr_sld rfl (vp_in_nI (show i + 2 < G.2.2.2.2.1 by omega) (by omega)) dL_law_598 ?_
  refine xb_top (y := (G.2.2.2.2.2 (i + 2))) (by rw [nI_clamp (by omega)]) ?_
  refine xr_callV (As := [.int ((G.2.2.2.2.2 (i + 1))), .int ((G.2.2.2.2.2 (i + 2)))]) (rest := []) mlL_73 (g_X9_mistake (G.2.2.2.2.2 (i + 1)) (G.2.2.2.2.2 (i + 2)) hC) dL_law_599 s_0 rfl rfl (Nat.le_of_ble_eq_true rfl) (by decide) ⟨by decide, by decide⟩ (fun v s2 M3 J2 hq => ?_)
  obtain ⟨r5, rfl, rfl, rfl, k4, hI1⟩ := hq
  try dsimp only [Option.toList, List.cons_append, List.nil_append]
  have kk6 : ∀ p k, 62 ≤ p → M3 p k = M p k := (fun p k hp => k4 p k (by unfold WTH; omega))
  refine xr_pop dL_law_602 rfl ?_
  refine xr_aload_n dL_law_603 1 rfl ?_
  refine xr_aload_n dL_law_604 3 rfl ?_
  refine xr_iload_n dL_law_605 0 rfl ?_
  refine xr_iconst (v := 1) dL_law_606 rfl ?_
  refine xr_iadd dL_law_607 ?_
  refine xb_top (y := nI (i + 1)) (nI_add (i) (1)) ?_
  refine xr_sld rfl (vp_in_nI (show i + 1 < G.2.2.2.2.1 by omega) (by omega)) dL_law_608 ?_
  refine xb_top (y := (G.2.2.2.2.2 (i + 1))) (by rw [nI_clamp (by omega)]) ?_
  refine xr_aload_n dL_law_609 3 rfl ?_
  refine xr_iload_n dL_law_610 0 rfl ?_
  refine xr_iconst (v := 2) dL_law_611 rfl ?_
  refine xr_iadd dL_law_612 ?_
  refine xb_top (y := nI (i + 2)) (nI_add (i) (2)) ?_
  refine xr_sld rfl (vp_in_nI (show i + 2 < G.2.2.2.2.1 by omega) (by omega)) dL_law_613 ?_
  refine xb_top (y := (G.2.2.2.2.2 (i + 2))) (by rw [nI_clamp (by omega)]) ?_
  refine xr_callV (As := [.int ((G.2.2.2.2.2 (i + 1))), .int ((G.2.2.2.2.2 (i + 2)))]) (rest := []) mlL_76 (g_X10_mistake (G.2.2.2.2.2 (i + 1)) (G.2.2.2.2.2 (i + 2)) (InvR_ke kk6 hR)) dL_law_614 s_62 rfl rfl (Nat.le_of_ble_eq_true rfl) (by decide) ⟨by decide, by decide⟩ (fun v s2 M9 J2 hq => ?_)
  obtain ⟨r11, rfl, rfl, rfl, k10, hI7⟩ := hq
  try dsimp only [Option.toList, List.cons_append, List.nil_append]
  have kk12 : ∀ p k, p < 62 → M9 p k = M3 p k := (fun p k hp => k10 p k (by unfold WR1; omega))
  refine xr_pop dL_law_617 rfl ?_
  refine xr_goto (tgt := 1502) dL_law_618 rfl ?_
  refine xb_ls (ls2 := [(3, .int (nI (i))), (2, .ref (62)), (1, .ref (0)), (0, .ref (1002))]) [0, 1, 2, 3] rfl ?_
  exact hN _ _ (InvC_ke kk12 hI1) hI7 (RB_f (fun p k hp => (k10 p k (nx_WR1_CSB hp)).trans (k4 p k (nx_WTH_CSB hp))) hB_) (RP_f (fun p k hp => (k10 p k (nx_WR1_CSP hp)).trans (k4 p k (nx_WTH_CSP hp))) hP_) (RT_f (fun p k hp => (k10 p k (nx_WR1_CST hp)).trans (k4 p k (nx_WTH_CST hp))) hT_) (RL_f (fun p k hp => (k10 p k (nx_WR1_CSL hp)).trans (k4 p k (nx_WTH_CSL hp))) hL_) (RS_f (fun p k hp => (k10 p k (nx_WR1_CSS hp)).trans (k4 p k (nx_WTH_CSS hp))) hS_) (RE_f rfl rfl hE_) (RY_f (fun p k hp => (k10 p k (nx_WR1_CSY hp)).trans (k4 p k (nx_WTH_CSY hp))) hY_) (RX_f (fun p k hp => (k10 p k (nx_WR1_CSX hp)).trans (k4 p k (nx_WTH_CSX hp))) hX_)
set_option maxRecDepth 100000 in
set_option maxHeartbeats 4000000 in
theorem lwx_15 {l : Launch} {G : xG} (hL : G.2.2.2.2.1 ≤ 3072) {M : xM} {J : xJ} {i : Nat} (hi : i + 6 ≤ G.2.2.2.2.1) (hC : InvC M) (hR : InvR M) (hB_ : RB M) (hP_ : RP M) (hT_ : RT M) (hL_ : RLk M) (hS_ : RS M) (hE_ : RE J) (hY_ : RY M J) (hX_ : RX M) (hN : ∀ (M2 : xM) (J2 : xJ), InvC M2 → InvR M2 → RB M2 → RP M2 → RT M2 → RLk M2 → RS M2 → RE J2 → RY M2 J2 → RX M2 → x_X l G fL_law 200 600000 7302250 (qR (some (.int 1))) 1502 [(3, .int (nI (i))), (2, .ref (62)), (1, .ref (0)), (0, .ref (1002))] [] x_SH M2 J2 87 2934) : x_X l G fL_law 200 600000 7302250 (qR (some (.int 1))) 621 [(3, .int (nI (i))), (2, .ref (62)), (1, .ref (0)), (0, .ref (1002))] [] x_SH M J 87 2934 := by
  refine xr_aload_n dL_law_621 2 rfl ?_
  refine xr_aload_n dL_law_622 3 rfl ?_
  refine xr_iload_n dL_law_623 0 rfl ?_
  refine xr_iconst (v := 1) dL_law_624 rfl ?_
  refine xr_iadd dL_law_625 ?_
  refine xb_top (y := nI (i + 1)) (nI_add (i) (1)) ?_
  refine xr_sld rfl (vp_in_nI (show i + 1 < G.2.2.2.2.1 by omega) (by omega)) dL_law_626 ?_
  refine xb_top (y := (G.2.2.2.2.2 (i + 1))) (by rw [nI_clamp (by omega)]) ?_
  refine xr_callV (As := [.int ((G.2.2.2.2.2 (i + 1)))]) (rest := []) mlL_77 (g_X9_held (G.2.2.2.2.2 (i + 1)) hC) dL_law_627 s_0 rfl rfl (Nat.le_of_ble_eq_true rfl) (by decide) ⟨by decide, by decide⟩ (fun v s2 M3 J2 hq => ?_)
  obtain ⟨r5, rfl, rfl, rfl, k4, hI1⟩ := hq
  try dsimp only [Option.toList, List.cons_append, List.nil_append]
  have kk6 : ∀ p k, 62 ≤ p → M3 p k = M p k := (fun p k hp => k4 p k (by unfold WTH; omega))
  refine xr_pop dL_law_630 rfl ?_
  refine xr_aload_n dL_law_631 1 rfl ?_
  refine xr_aload_n dL_law_632 3 rfl ?_
  refine xr_iload_n dL_law_633 0 rfl ?_
  refine xr_iconst (v := 1) dL_law_634 rfl ?_
  refine xr_iadd dL_law_635 ?_
  refine xb_top (y := nI (i + 1)) (nI_add (i) (1)) ?_
  refine xr_sld rfl (vp_in_nI (show i + 1 < G.2.2.2.2.1 by omega) (by omega)) dL_law_636 ?_
  refine xb_top (y := (G.2.2.2.2.2 (i + 1))) (by rw [nI_clamp (by omega)]) ?_
  refine xr_callV (As := [.int ((G.2.2.2.2.2 (i + 1)))]) (rest := []) mlL_80 (g_X10_held (G.2.2.2.2.2 (i + 1)) (InvR_ke kk6 hR)) dL_law_637 s_62 rfl rfl (Nat.le_of_ble_eq_true rfl) (by decide) ⟨by decide, by decide⟩ (fun v s2 M9 J2 hq => ?_)
  obtain ⟨r11, rfl, rfl, rfl, k10, hI7⟩ := hq
  try dsimp only [Option.toList, List.cons_append, List.nil_append]
  have kk12 : ∀ p k, p < 62 → M9 p k = M3 p k := (fun p k hp => k10 p k (by unfold WR1; omega))
  refine xr_pop dL_law_640 rfl ?_
  refine xr_goto (tgt := 1502) dL_law_641 rfl ?_
  refine xb_ls (ls2 := [(3, .int (nI (i))), (2, .ref (62)), (1, .ref (0)), (0, .ref (1002))]) [0, 1, 2, 3] rfl ?_
  exact hN _ _ (InvC_ke kk12 hI1) hI7 (RB_f (fun p k hp => (k10 p k (nx_WR1_CSB hp)).trans (k4 p k (nx_WTH_CSB hp))) hB_) (RP_f (fun p k hp => (k10 p k (nx_WR1_CSP hp)).trans (k4 p k (nx_WTH_CSP hp))) hP_) (RT_f (fun p k hp => (k10 p k (nx_WR1_CST hp)).trans (k4 p k (nx_WTH_CST hp))) hT_) (RL_f (fun p k hp => (k10 p k (nx_WR1_CSL hp)).trans (k4 p k (nx_WTH_CSL hp))) hL_) (RS_f (fun p k hp => (k10 p k (nx_WR1_CSS hp)).trans (k4 p k (nx_WTH_CSS hp))) hS_) (RE_f rfl rfl hE_) (RY_f (fun p k hp => (k10 p k (nx_WR1_CSY hp)).trans (k4 p k (nx_WTH_CSY hp))) hY_) (RX_f (fun p k hp => (k10 p k (nx_WR1_CSX hp)).trans (k4 p k (nx_WTH_CSX hp))) hX_)
set_option maxRecDepth 100000 in
set_option maxHeartbeats 4000000 in
theorem lwx_16 {l : Launch} {G : xG} (hL : G.2.2.2.2.1 ≤ 3072) {M : xM} {J : xJ} {i : Nat} (hi : i + 6 ≤ G.2.2.2.2.1) (hC : InvC M) (hR : InvR M) (hB_ : RB M) (hP_ : RP M) (hT_ : RT M) (hL_ : RLk M) (hS_ : RS M) (hE_ : RE J) (hY_ : RY M J) (hX_ : RX M) (hN : ∀ (M2 : xM) (J2 : xJ), InvC M2 → InvR M2 → RB M2 → RP M2 → RT M2 → RLk M2 → RS M2 → RE J2 → RY M2 J2 → RX M2 → x_X l G fL_law 200 600000 7302250 (qR (some (.int 1))) 1502 [(3, .int (nI (i))), (2, .ref (62)), (1, .ref (0)), (0, .ref (1002))] [] x_SH M2 J2 87 2934) : x_X l G fL_law 200 600000 7302250 (qR (some (.int 1))) 644 [(3, .int (nI (i))), (2, .ref (62)), (1, .ref (0)), (0, .ref (1002))] [] x_SH M J 87 2934 := by
  refine xr_aload_n dL_law_644 2 rfl ?_
  refine xr_aload_n dL_law_645 3 rfl ?_
  refine xr_iload_n dL_law_646 0 rfl ?_
  refine xr_iconst (v := 1) dL_law_647 rfl ?_
  refine xr_iadd dL_law_648 ?_
  refine xb_top (y := nI (i + 1)) (nI_add (i) (1)) ?_
  refine xr_sld rfl (vp_in_nI (show i + 1 < G.2.2.2.2.1 by omega) (by omega)) dL_law_649 ?_
  refine xb_top (y := (G.2.2.2.2.2 (i + 1))) (by rw [nI_clamp (by omega)]) ?_
  refine xr_aload_n dL_law_650 3 rfl ?_
  refine xr_iload_n dL_law_651 0 rfl ?_
  refine xr_iconst (v := 2) dL_law_652 rfl ?_
  refine xr_iadd dL_law_653 ?_
  refine xb_top (y := nI (i + 2)) (nI_add (i) (2)) ?_
  refine xr_sld rfl (vp_in_nI (show i + 2 < G.2.2.2.2.1 by omega) (by omega)) dL_law_654 ?_
  refine xb_top (y := (G.2.2.2.2.2 (i + 2))) (by rw [nI_clamp (by omega)]) ?_
  refine xr_callV (As := [.int ((G.2.2.2.2.2 (i + 1))), .int ((G.2.2.2.2.2 (i + 2)))]) (rest := []) mlL_81 (g_X9_rescue (G.2.2.2.2.2 (i + 1)) (G.2.2.2.2.2 (i + 2)) hC) dL_law_655 s_0 rfl rfl (Nat.le_of_ble_eq_true rfl) (by decide) ⟨by decide, by decide⟩ (fun v s2 M3 J2 hq => ?_)
  obtain ⟨r5, rfl, rfl, rfl, k4, hI1⟩ := hq
  try dsimp only [Option.toList, List.cons_append, List.nil_append]
  have kk6 : ∀ p k, 62 ≤ p → M3 p k = M p k := (fun p k hp => k4 p k (by unfold WTH; omega))
  refine xr_pop dL_law_658 rfl ?_
  refine xr_aload_n dL_law_659 1 rfl ?_
  refine xr_aload_n dL_law_660 3 rfl ?_
  refine xr_iload_n dL_law_661 0 rfl ?_
  refine xr_iconst (v := 1) dL_law_662 rfl ?_
  refine xr_iadd dL_law_663 ?_
  refine xb_top (y := nI (i + 1)) (nI_add (i) (1)) ?_
  refine xr_sld rfl (vp_in_nI (show i + 1 < G.2.2.2.2.1 by omega) (by omega)) dL_law_664 ?_
  refine xb_top (y := (G.2.2.2.2.2 (i + 1))) (by rw [nI_clamp (by omega)]) ?_
  refine xr_aload_n dL_law_665 3 rfl ?_
  refine xr_iload_n dL_law_666 0 rfl ?_
  refine xr_iconst (v := 2) dL_law_667 rfl ?_
  refine xr_iadd dL_law_668 ?_
  refine xb_top (y := nI (i + 2)) (nI_add (i) (2)) ?_
  refine xr_sld rfl (vp_in_nI (show i + 2 < G.2.2.2.2.1 by omega) (by omega)) dL_law_669 ?_
  refine xb_top (y := (G.2.2.2.2.2 (i + 2))) (by rw [nI_clamp (by omega)]) ?_
  refine xr_callV (As := [.int ((G.2.2.2.2.2 (i + 1))), .int ((G.2.2.2.2.2 (i + 2)))]) (rest := []) mlL_84 (g_X10_rescue (G.2.2.2.2.2 (i + 1)) (G.2.2.2.2.2 (i + 2)) (InvR_ke kk6 hR)) dL_law_670 s_62 rfl rfl (Nat.le_of_ble_eq_true rfl) (by decide) ⟨by decide, by decide⟩ (fun v s2 M9 J2 hq => ?_)
  obtain ⟨r11, rfl, rfl, rfl, k10, hI7⟩ := hq
  try dsimp only [Option.toList, List.cons_append, List.nil_append]
  have kk12 : ∀ p k, p < 62 → M9 p k = M3 p k := (fun p k hp => k10 p k (by unfold WR1; omega))
  refine xr_pop dL_law_673 rfl ?_
  refine xr_goto (tgt := 1502) dL_law_674 rfl ?_
  refine xb_ls (ls2 := [(3, .int (nI (i))), (2, .ref (62)), (1, .ref (0)), (0, .ref (1002))]) [0, 1, 2, 3] rfl ?_
  exact hN _ _ (InvC_ke kk12 hI1) hI7 (RB_f (fun p k hp => (k10 p k (nx_WR1_CSB hp)).trans (k4 p k (nx_WTH_CSB hp))) hB_) (RP_f (fun p k hp => (k10 p k (nx_WR1_CSP hp)).trans (k4 p k (nx_WTH_CSP hp))) hP_) (RT_f (fun p k hp => (k10 p k (nx_WR1_CST hp)).trans (k4 p k (nx_WTH_CST hp))) hT_) (RL_f (fun p k hp => (k10 p k (nx_WR1_CSL hp)).trans (k4 p k (nx_WTH_CSL hp))) hL_) (RS_f (fun p k hp => (k10 p k (nx_WR1_CSS hp)).trans (k4 p k (nx_WTH_CSS hp))) hS_) (RE_f rfl rfl hE_) (RY_f (fun p k hp => (k10 p k (nx_WR1_CSY hp)).trans (k4 p k (nx_WTH_CSY hp))) hY_) (RX_f (fun p k hp => (k10 p k (nx_WR1_CSX hp)).trans (k4 p k (nx_WTH_CSX hp))) hX_)
set_option maxRecDepth 100000 in
set_option maxHeartbeats 4000000 in
theorem lwx_17 {l : Launch} {G : xG} (hL : G.2.2.2.2.1 ≤ 3072) {M : xM} {J : xJ} {i : Nat} (hi : i + 6 ≤ G.2.2.2.2.1) (hC : InvC M) (hR : InvR M) (hB_ : RB M) (hP_ : RP M) (hT_ : RT M) (hL_ : RLk M) (hS_ : RS M) (hE_ : RE J) (hY_ : RY M J) (hX_ : RX M) (hN : ∀ (M2 : xM) (J2 : xJ), InvC M2 → InvR M2 → RB M2 → RP M2 → RT M2 → RLk M2 → RS M2 → RE J2 → RY M2 J2 → RX M2 → x_X l G fL_law 200 600000 7302250 (qR (some (.int 1))) 1502 [(3, .int (nI (i))), (2, .ref (62)), (1, .ref (0)), (0, .ref (1002))] [] x_SH M2 J2 87 2934) : x_X l G fL_law 200 600000 7302250 (qR (some (.int 1))) 677 [(3, .int (nI (i))), (2, .ref (62)), (1, .ref (0)), (0, .ref (1002))] [] x_SH M J 87 2934 := by
  refine xr_aload_n dL_law_677 2 rfl ?_
  refine xr_aload_n dL_law_678 3 rfl ?_
  refine xr_iload_n dL_law_679 0 rfl ?_
  refine xr_iconst (v := 1) dL_law_680 rfl ?_
  refine xr_iadd dL_law_681 ?_
  refine xb_top (y := nI (i + 1)) (nI_add (i) (1)) ?_
  refine xr_sld rfl (vp_in_nI (show i + 1 < G.2.2.2.2.1 by omega) (by omega)) dL_law_682 ?_
  refine xb_top (y := (G.2.2.2.2.2 (i + 1))) (by rw [nI_clamp (by omega)]) ?_
  obtain ⟨nh, D, t, S, lg, lu, lw, hWG, ⟨hGc, hGr⟩, ⟨hWL, hLc, hLr⟩, hKX⟩ := id hX_
  refine xr_callV (As := [.int ((G.2.2.2.2.2 (i + 1)))]) (rest := []) mlL_85 (g_X9_start (G.2.2.2.2.2 (i + 1)) hC) dL_law_683 s_0 rfl rfl (Nat.le_of_ble_eq_true rfl) (by decide) ⟨by decide, by decide⟩ (fun v s2 M3 J2 hq => ?_)
  obtain ⟨r5, rfl, rfl, rfl, k4, hI1⟩ := hq
  try dsimp only [Option.toList, List.cons_append, List.nil_append]
  have kk6 : ∀ p k, 62 ≤ p → M3 p k = M p k := (fun p k hp => k4 p k (by unfold WTH; omega))
  refine xr_pop dL_law_686 rfl ?_
  refine xr_aload_n dL_law_687 1 rfl ?_
  refine xr_aload_n dL_law_688 3 rfl ?_
  refine xr_iload_n dL_law_689 0 rfl ?_
  refine xr_iconst (v := 1) dL_law_690 rfl ?_
  refine xr_iadd dL_law_691 ?_
  refine xb_top (y := nI (i + 1)) (nI_add (i) (1)) ?_
  refine xr_sld rfl (vp_in_nI (show i + 1 < G.2.2.2.2.1 by omega) (by omega)) dL_law_692 ?_
  refine xb_top (y := (G.2.2.2.2.2 (i + 1))) (by rw [nI_clamp (by omega)]) ?_
  refine xr_callV (As := [.int ((G.2.2.2.2.2 (i + 1)))]) (rest := []) mlL_88 (gx_X10_start (G.2.2.2.2.2 (i + 1)) (InvR_ke kk6 hR) hWG (RG_f hWG.1 hGr kk6)) dL_law_693 s_62 rfl rfl (Nat.le_of_ble_eq_true rfl) (by decide) ⟨by decide, by decide⟩ (fun v s2 M9 J2 hq => ?_)
  obtain ⟨r11, rfl, rfl, rfl, k10, hI7, hx8⟩ := hq
  try dsimp only [Option.toList, List.cons_append, List.nil_append]
  have kk12 : ∀ p k, p < 62 → M9 p k = M3 p k := (fun p k hp => k10 p k (by unfold WRS; omega))
  refine xr_pop dL_law_696 rfl ?_
  refine xr_goto (tgt := 1502) dL_law_697 rfl ?_
  refine xb_ls (ls2 := [(3, .int (nI (i))), (2, .ref (62)), (1, .ref (0)), (0, .ref (1002))]) [0, 1, 2, 3] rfl ?_
  exact hN _ _ (InvC_ke kk12 hI1) hI7 (RB_f (fun p k hp => (k10 p k (nx_WRS_CSB hp)).trans (k4 p k (nx_WTH_CSB hp))) hB_) (RP_f (fun p k hp => (k10 p k (nx_WRS_CSP hp)).trans (k4 p k (nx_WTH_CSP hp))) hP_) (RT_f (fun p k hp => (k10 p k (nx_WRS_CST hp)).trans (k4 p k (nx_WTH_CST hp))) hT_) (RL_f (fun p k hp => (k10 p k (nx_WRS_CSL hp)).trans (k4 p k (nx_WTH_CSL hp))) hL_) (RS_f (fun p k hp => (k10 p k (nx_WRS_CSS hp)).trans (k4 p k (nx_WTH_CSS hp))) hS_) (RE_f rfl rfl hE_) (RY_f (fun p k hp => (k10 p k (nx_WRS_CSY hp)).trans (k4 p k (nx_WTH_CSY hp))) hY_) (jX_keep hWG hGc (fun p k hp => (k10 p k (nx_WRS_CSc hp)).trans (k4 p k (nx_WTH_CSc hp))) hx8.2 (LX_f (fun p k hp => (k10 p k (nx_WRS_CSu hp)).trans (k4 p k (nx_WTH_CSu hp))) ⟨hWL, hLc, hLr⟩) (KX_f (fun p k hp => (k10 p k (nx_WRS_CSk hp)).trans (k4 p k (nx_WTH_CSk hp))) (Nat.le_refl _) hWG.1 hKX))
set_option maxRecDepth 100000 in
set_option maxHeartbeats 4000000 in
theorem lwx_18 {l : Launch} {G : xG} (hL : G.2.2.2.2.1 ≤ 3072) {M : xM} {J : xJ} {i : Nat} (hi : i + 6 ≤ G.2.2.2.2.1) (hC : InvC M) (hR : InvR M) (hB_ : RB M) (hP_ : RP M) (hT_ : RT M) (hL_ : RLk M) (hS_ : RS M) (hE_ : RE J) (hY_ : RY M J) (hX_ : RX M) (hN : ∀ (M2 : xM) (J2 : xJ), InvC M2 → InvR M2 → RB M2 → RP M2 → RT M2 → RLk M2 → RS M2 → RE J2 → RY M2 J2 → RX M2 → x_X l G fL_law 200 600000 7302250 (qR (some (.int 1))) 1502 [(3, .int (nI (i))), (2, .ref (62)), (1, .ref (0)), (0, .ref (1002))] [] x_SH M2 J2 87 2934) : x_X l G fL_law 200 600000 7302250 (qR (some (.int 1))) 700 [(3, .int (nI (i))), (2, .ref (62)), (1, .ref (0)), (0, .ref (1002))] [] x_SH M J 87 2934 := by
  refine xr_aload_n dL_law_700 2 rfl ?_
  refine xr_aload_n dL_law_701 3 rfl ?_
  refine xr_iload_n dL_law_702 0 rfl ?_
  refine xr_iconst (v := 1) dL_law_703 rfl ?_
  refine xr_iadd dL_law_704 ?_
  refine xb_top (y := nI (i + 1)) (nI_add (i) (1)) ?_
  refine xr_sld rfl (vp_in_nI (show i + 1 < G.2.2.2.2.1 by omega) (by omega)) dL_law_705 ?_
  refine xb_top (y := (G.2.2.2.2.2 (i + 1))) (by rw [nI_clamp (by omega)]) ?_
  refine xr_callV (As := [.int ((G.2.2.2.2.2 (i + 1)))]) (rest := []) mlL_89 (g_X9_music (G.2.2.2.2.2 (i + 1)) hC) dL_law_706 s_0 rfl rfl (Nat.le_of_ble_eq_true rfl) (by decide) ⟨by decide, by decide⟩ (fun v s2 M3 J2 hq => ?_)
  obtain ⟨r5, rfl, rfl, rfl, k4, hI1⟩ := hq
  try dsimp only [Option.toList, List.cons_append, List.nil_append]
  have kk6 : ∀ p k, 62 ≤ p → M3 p k = M p k := (fun p k hp => k4 p k (by unfold WTH; omega))
  refine xr_pop dL_law_709 rfl ?_
  refine xr_aload_n dL_law_710 1 rfl ?_
  refine xr_aload_n dL_law_711 3 rfl ?_
  refine xr_iload_n dL_law_712 0 rfl ?_
  refine xr_iconst (v := 1) dL_law_713 rfl ?_
  refine xr_iadd dL_law_714 ?_
  refine xb_top (y := nI (i + 1)) (nI_add (i) (1)) ?_
  refine xr_sld rfl (vp_in_nI (show i + 1 < G.2.2.2.2.1 by omega) (by omega)) dL_law_715 ?_
  refine xb_top (y := (G.2.2.2.2.2 (i + 1))) (by rw [nI_clamp (by omega)]) ?_
  refine xr_callV (As := [.int ((G.2.2.2.2.2 (i + 1)))]) (rest := []) mlL_92 (g_X10_music (G.2.2.2.2.2 (i + 1)) (InvR_ke kk6 hR)) dL_law_716 s_62 rfl rfl (Nat.le_of_ble_eq_true rfl) (by decide) ⟨by decide, by decide⟩ (fun v s2 M9 J2 hq => ?_)
  obtain ⟨r11, rfl, rfl, rfl, k10, hI7⟩ := hq
  try dsimp only [Option.toList, List.cons_append, List.nil_append]
  have kk12 : ∀ p k, p < 62 → M9 p k = M3 p k := (fun p k hp => k10 p k (by unfold WR1; omega))
  refine xr_pop dL_law_719 rfl ?_
  refine xr_goto (tgt := 1502) dL_law_720 rfl ?_
  refine xb_ls (ls2 := [(3, .int (nI (i))), (2, .ref (62)), (1, .ref (0)), (0, .ref (1002))]) [0, 1, 2, 3] rfl ?_
  exact hN _ _ (InvC_ke kk12 hI1) hI7 (RB_f (fun p k hp => (k10 p k (nx_WR1_CSB hp)).trans (k4 p k (nx_WTH_CSB hp))) hB_) (RP_f (fun p k hp => (k10 p k (nx_WR1_CSP hp)).trans (k4 p k (nx_WTH_CSP hp))) hP_) (RT_f (fun p k hp => (k10 p k (nx_WR1_CST hp)).trans (k4 p k (nx_WTH_CST hp))) hT_) (RL_f (fun p k hp => (k10 p k (nx_WR1_CSL hp)).trans (k4 p k (nx_WTH_CSL hp))) hL_) (RS_f (fun p k hp => (k10 p k (nx_WR1_CSS hp)).trans (k4 p k (nx_WTH_CSS hp))) hS_) (RE_f rfl rfl hE_) (RY_f (fun p k hp => (k10 p k (nx_WR1_CSY hp)).trans (k4 p k (nx_WTH_CSY hp))) hY_) (RX_f (fun p k hp => (k10 p k (nx_WR1_CSX hp)).trans (k4 p k (nx_WTH_CSX hp))) hX_)
set_option maxRecDepth 100000 in
set_option maxHeartbeats 4000000 in
theorem lwx_19 {l : Launch} {G : xG} (hL : G.2.2.2.2.1 ≤ 3072) {M : xM} {J : xJ} {i : Nat} (hi : i + 6 ≤ G.2.2.2.2.1) (hC : InvC M) (hR : InvR M) (hB_ : RB M) (hP_ : RP M) (hT_ : RT M) (hL_ : RLk M) (hS_ : RS M) (hE_ : RE J) (hY_ : RY M J) (hX_ : RX M) (hN : ∀ (M2 : xM) (J2 : xJ), InvC M2 → InvR M2 → RB M2 → RP M2 → RT M2 → RLk M2 → RS M2 → RE J2 → RY M2 J2 → RX M2 → x_X l G fL_law 200 600000 7302250 (qR (some (.int 1))) 1502 [(3, .int (nI (i))), (2, .ref (62)), (1, .ref (0)), (0, .ref (1002))] [] x_SH M2 J2 87 2934) : x_X l G fL_law 200 600000 7302250 (qR (some (.int 1))) 723 [(3, .int (nI (i))), (2, .ref (62)), (1, .ref (0)), (0, .ref (1002))] [] x_SH M J 87 2934 := by
  refine xr_aload_n dL_law_723 2 rfl ?_
  refine xr_aload_n dL_law_724 3 rfl ?_
  refine xr_iload_n dL_law_725 0 rfl ?_
  refine xr_iconst (v := 1) dL_law_726 rfl ?_
  refine xr_iadd dL_law_727 ?_
  refine xb_top (y := nI (i + 1)) (nI_add (i) (1)) ?_
  refine xr_sld rfl (vp_in_nI (show i + 1 < G.2.2.2.2.1 by omega) (by omega)) dL_law_728 ?_
  refine xb_top (y := (G.2.2.2.2.2 (i + 1))) (by rw [nI_clamp (by omega)]) ?_
  refine xr_aload_n dL_law_729 3 rfl ?_
  refine xr_iload_n dL_law_730 0 rfl ?_
  refine xr_iconst (v := 2) dL_law_731 rfl ?_
  refine xr_iadd dL_law_732 ?_
  refine xb_top (y := nI (i + 2)) (nI_add (i) (2)) ?_
  refine xr_sld rfl (vp_in_nI (show i + 2 < G.2.2.2.2.1 by omega) (by omega)) dL_law_733 ?_
  refine xb_top (y := (G.2.2.2.2.2 (i + 2))) (by rw [nI_clamp (by omega)]) ?_
  refine xr_callV (As := [.int ((G.2.2.2.2.2 (i + 1))), .int ((G.2.2.2.2.2 (i + 2)))]) (rest := []) mlL_93 (g_X9_judge (G.2.2.2.2.2 (i + 1)) (G.2.2.2.2.2 (i + 2)) hC) dL_law_734 s_0 rfl rfl (Nat.le_of_ble_eq_true rfl) (by decide) ⟨by decide, by decide⟩ (fun v s2 M3 J2 hq => ?_)
  obtain ⟨r5, rfl, rfl, rfl, k4, hI1⟩ := hq
  try dsimp only [Option.toList, List.cons_append, List.nil_append]
  have kk6 : ∀ p k, 62 ≤ p → M3 p k = M p k := (fun p k hp => k4 p k (by unfold WTH; omega))
  refine xr_pop dL_law_737 rfl ?_
  refine xr_aload_n dL_law_738 1 rfl ?_
  refine xr_aload_n dL_law_739 3 rfl ?_
  refine xr_iload_n dL_law_740 0 rfl ?_
  refine xr_iconst (v := 1) dL_law_741 rfl ?_
  refine xr_iadd dL_law_742 ?_
  refine xb_top (y := nI (i + 1)) (nI_add (i) (1)) ?_
  refine xr_sld rfl (vp_in_nI (show i + 1 < G.2.2.2.2.1 by omega) (by omega)) dL_law_743 ?_
  refine xb_top (y := (G.2.2.2.2.2 (i + 1))) (by rw [nI_clamp (by omega)]) ?_
  refine xr_aload_n dL_law_744 3 rfl ?_
  refine xr_iload_n dL_law_745 0 rfl ?_
  refine xr_iconst (v := 2) dL_law_746 rfl ?_
  refine xr_iadd dL_law_747 ?_
  refine xb_top (y := nI (i + 2)) (nI_add (i) (2)) ?_
  refine xr_sld rfl (vp_in_nI (show i + 2 < G.2.2.2.2.1 by omega) (by omega)) dL_law_748 ?_
  refine xb_top (y := (G.2.2.2.2.2 (i + 2))) (by rw [nI_clamp (by omega)]) ?_
  refine xr_callV (As := [.int ((G.2.2.2.2.2 (i + 1))), .int ((G.2.2.2.2.2 (i + 2)))]) (rest := []) mlL_96 (g_X10_judge (G.2.2.2.2.2 (i + 1)) (G.2.2.2.2.2 (i + 2)) (InvR_ke kk6 hR)) dL_law_749 s_62 rfl rfl (Nat.le_of_ble_eq_true rfl) (by decide) ⟨by decide, by decide⟩ (fun v s2 M9 J2 hq => ?_)
  obtain ⟨r11, rfl, rfl, rfl, k10, hI7⟩ := hq
  try dsimp only [Option.toList, List.cons_append, List.nil_append]
  have kk12 : ∀ p k, p < 62 → M9 p k = M3 p k := (fun p k hp => k10 p k (by unfold WR1; omega))
  refine xr_pop dL_law_752 rfl ?_
  refine xr_goto (tgt := 1502) dL_law_753 rfl ?_
  refine xb_ls (ls2 := [(3, .int (nI (i))), (2, .ref (62)), (1, .ref (0)), (0, .ref (1002))]) [0, 1, 2, 3] rfl ?_
  exact hN _ _ (InvC_ke kk12 hI1) hI7 (RB_f (fun p k hp => (k10 p k (nx_WR1_CSB hp)).trans (k4 p k (nx_WTH_CSB hp))) hB_) (RP_f (fun p k hp => (k10 p k (nx_WR1_CSP hp)).trans (k4 p k (nx_WTH_CSP hp))) hP_) (RT_f (fun p k hp => (k10 p k (nx_WR1_CST hp)).trans (k4 p k (nx_WTH_CST hp))) hT_) (RL_f (fun p k hp => (k10 p k (nx_WR1_CSL hp)).trans (k4 p k (nx_WTH_CSL hp))) hL_) (RS_f (fun p k hp => (k10 p k (nx_WR1_CSS hp)).trans (k4 p k (nx_WTH_CSS hp))) hS_) (RE_f rfl rfl hE_) (RY_f (fun p k hp => (k10 p k (nx_WR1_CSY hp)).trans (k4 p k (nx_WTH_CSY hp))) hY_) (RX_f (fun p k hp => (k10 p k (nx_WR1_CSX hp)).trans (k4 p k (nx_WTH_CSX hp))) hX_)
set_option maxRecDepth 100000 in
set_option maxHeartbeats 4000000 in
theorem lwx_20 {l : Launch} {G : xG} (hL : G.2.2.2.2.1 ≤ 3072) {M : xM} {J : xJ} {i : Nat} (hi : i + 6 ≤ G.2.2.2.2.1) (hC : InvC M) (hR : InvR M) (hB_ : RB M) (hP_ : RP M) (hT_ : RT M) (hL_ : RLk M) (hS_ : RS M) (hE_ : RE J) (hY_ : RY M J) (hX_ : RX M) (hN : ∀ (M2 : xM) (J2 : xJ), InvC M2 → InvR M2 → RB M2 → RP M2 → RT M2 → RLk M2 → RS M2 → RE J2 → RY M2 J2 → RX M2 → x_X l G fL_law 200 600000 7302250 (qR (some (.int 1))) 1502 [(3, .int (nI (i))), (2, .ref (62)), (1, .ref (0)), (0, .ref (1002))] [] x_SH M2 J2 87 2934) : x_X l G fL_law 200 600000 7302250 (qR (some (.int 1))) 756 [(3, .int (nI (i))), (2, .ref (62)), (1, .ref (0)), (0, .ref (1002))] [] x_SH M J 87 2934 := by
  refine xr_aload_n dL_law_756 2 rfl ?_
  refine xr_aload_n dL_law_757 3 rfl ?_
  refine xr_iload_n dL_law_758 0 rfl ?_
  refine xr_iconst (v := 1) dL_law_759 rfl ?_
  refine xr_iadd dL_law_760 ?_
  refine xb_top (y := nI (i + 1)) (nI_add (i) (1)) ?_
  refine xr_sld rfl (vp_in_nI (show i + 1 < G.2.2.2.2.1 by omega) (by omega)) dL_law_761 ?_
  refine xb_top (y := (G.2.2.2.2.2 (i + 1))) (by rw [nI_clamp (by omega)]) ?_
  refine xr_aload_n dL_law_762 3 rfl ?_
  refine xr_iload_n dL_law_763 0 rfl ?_
  refine xr_iconst (v := 2) dL_law_764 rfl ?_
  refine xr_iadd dL_law_765 ?_
  refine xb_top (y := nI (i + 2)) (nI_add (i) (2)) ?_
  refine xr_sld rfl (vp_in_nI (show i + 2 < G.2.2.2.2.1 by omega) (by omega)) dL_law_766 ?_
  refine xb_top (y := (G.2.2.2.2.2 (i + 2))) (by rw [nI_clamp (by omega)]) ?_
  refine xr_aload_n dL_law_767 3 rfl ?_
  refine xr_iload_n dL_law_768 0 rfl ?_
  refine xr_iconst (v := 3) dL_law_769 rfl ?_
  refine xr_iadd dL_law_770 ?_
  refine xb_top (y := nI (i + 3)) (nI_add (i) (3)) ?_
  refine xr_sld rfl (vp_in_nI (show i + 3 < G.2.2.2.2.1 by omega) (by omega)) dL_law_771 ?_
  refine xb_top (y := (G.2.2.2.2.2 (i + 3))) (by rw [nI_clamp (by omega)]) ?_
  obtain ⟨nh, D, t, S, lg, lu, lw, hWG, ⟨hGc, hGr⟩, ⟨hWL, hLc, hLr⟩, hKX⟩ := id hX_
  obtain ⟨gs, hSc, hSr, hSw⟩ := Sh_of hC hS_ hE_ hY_
  refine xr_callV (As := [.int ((G.2.2.2.2.2 (i + 1))), .int ((G.2.2.2.2.2 (i + 2))), .int ((G.2.2.2.2.2 (i + 3)))]) (rest := []) mlL_97 (g_X9_begun (G.2.2.2.2.2 (i + 1)) (G.2.2.2.2.2 (i + 2)) (G.2.2.2.2.2 (i + 3)) hC) dL_law_772 s_0 rfl rfl (Nat.le_of_ble_eq_true rfl) (by decide) ⟨by decide, by decide⟩ (fun v s2 M3 J2 hq => ?_)
  obtain ⟨r5, rfl, rfl, rfl, k4, hI1⟩ := hq
  try dsimp only [Option.toList, List.cons_append, List.nil_append]
  have kk6 : ∀ p k, 62 ≤ p → M3 p k = M p k := (fun p k hp => k4 p k (by unfold WTH; omega))
  refine xr_pop dL_law_775 rfl ?_
  refine xr_aload_n dL_law_776 1 rfl ?_
  refine xr_aload_n dL_law_777 3 rfl ?_
  refine xr_iload_n dL_law_778 0 rfl ?_
  refine xr_iconst (v := 1) dL_law_779 rfl ?_
  refine xr_iadd dL_law_780 ?_
  refine xb_top (y := nI (i + 1)) (nI_add (i) (1)) ?_
  refine xr_sld rfl (vp_in_nI (show i + 1 < G.2.2.2.2.1 by omega) (by omega)) dL_law_781 ?_
  refine xb_top (y := (G.2.2.2.2.2 (i + 1))) (by rw [nI_clamp (by omega)]) ?_
  refine xr_aload_n dL_law_782 3 rfl ?_
  refine xr_iload_n dL_law_783 0 rfl ?_
  refine xr_iconst (v := 2) dL_law_784 rfl ?_
  refine xr_iadd dL_law_785 ?_
  refine xb_top (y := nI (i + 2)) (nI_add (i) (2)) ?_
  refine xr_sld rfl (vp_in_nI (show i + 2 < G.2.2.2.2.1 by omega) (by omega)) dL_law_786 ?_
  refine xb_top (y := (G.2.2.2.2.2 (i + 2))) (by rw [nI_clamp (by omega)]) ?_
  refine xr_aload_n dL_law_787 3 rfl ?_
  refine xr_iload_n dL_law_788 0 rfl ?_
  refine xr_iconst (v := 3) dL_law_789 rfl ?_
  refine xr_iadd dL_law_790 ?_
  refine xb_top (y := nI (i + 3)) (nI_add (i) (3)) ?_
  refine xr_sld rfl (vp_in_nI (show i + 3 < G.2.2.2.2.1 by omega) (by omega)) dL_law_791 ?_
  refine xb_top (y := (G.2.2.2.2.2 (i + 3))) (by rw [nI_clamp (by omega)]) ?_
  refine xr_callV (As := [.int ((G.2.2.2.2.2 (i + 1))), .int ((G.2.2.2.2.2 (i + 2))), .int ((G.2.2.2.2.2 (i + 3)))]) (rest := []) mlL_100 (gx_X10_begun (G.2.2.2.2.2 (i + 1)) (G.2.2.2.2.2 (i + 2)) (G.2.2.2.2.2 (i + 3)) (InvR_ke kk6 hR) hWG (RG_f hWG.1 hGr kk6) (RSh_f hSr kk6) hSw) dL_law_792 s_62 rfl rfl (Nat.le_of_ble_eq_true rfl) (by decide) ⟨by decide, by decide⟩ (fun v s2 M9 J2 hq => ?_)
  obtain ⟨r11, rfl, rfl, rfl, k10, hI7, hx8⟩ := hq
  try dsimp only [Option.toList, List.cons_append, List.nil_append]
  have kk12 : ∀ p k, p < 62 → M9 p k = M3 p k := (fun p k hp => k10 p k (by unfold WRS; omega))
  refine xr_pop dL_law_795 rfl ?_
  refine xr_goto (tgt := 1502) dL_law_796 rfl ?_
  refine xb_ls (ls2 := [(3, .int (nI (i))), (2, .ref (62)), (1, .ref (0)), (0, .ref (1002))]) [0, 1, 2, 3] rfl ?_
  exact hN _ _ (InvC_ke kk12 hI1) hI7 (RB_f (fun p k hp => (k10 p k (nx_WRS_CSB hp)).trans (k4 p k (nx_WTH_CSB hp))) hB_) (RP_f (fun p k hp => (k10 p k (nx_WRS_CSP hp)).trans (k4 p k (nx_WTH_CSP hp))) hP_) (RT_f (fun p k hp => (k10 p k (nx_WRS_CST hp)).trans (k4 p k (nx_WTH_CST hp))) hT_) (RL_f (fun p k hp => (k10 p k (nx_WRS_CSL hp)).trans (k4 p k (nx_WTH_CSL hp))) hL_) (RS_f (fun p k hp => (k10 p k (nx_WRS_CSS hp)).trans (k4 p k (nx_WTH_CSS hp))) hS_) (RE_f rfl rfl hE_) (RY_f (fun p k hp => (k10 p k (nx_WRS_CSY hp)).trans (k4 p k (nx_WTH_CSY hp))) hY_) (jX_keep hWG hGc (fun p k hp => (k10 p k (nx_WRS_CSc hp)).trans (k4 p k (nx_WTH_CSc hp))) hx8.2 (LX_f (fun p k hp => (k10 p k (nx_WRS_CSu hp)).trans (k4 p k (nx_WTH_CSu hp))) ⟨hWL, hLc, hLr⟩) (KX_f (fun p k hp => (k10 p k (nx_WRS_CSk hp)).trans (k4 p k (nx_WTH_CSk hp))) (Nat.le_refl _) hWG.1 hKX))
set_option maxRecDepth 100000 in
set_option maxHeartbeats 4000000 in
theorem lwx_21 {l : Launch} {G : xG} (hL : G.2.2.2.2.1 ≤ 3072) {M : xM} {J : xJ} {i : Nat} (hi : i + 6 ≤ G.2.2.2.2.1) (hC : InvC M) (hR : InvR M) (hB_ : RB M) (hP_ : RP M) (hT_ : RT M) (hL_ : RLk M) (hS_ : RS M) (hE_ : RE J) (hY_ : RY M J) (hX_ : RX M) (hN : ∀ (M2 : xM) (J2 : xJ), InvC M2 → InvR M2 → RB M2 → RP M2 → RT M2 → RLk M2 → RS M2 → RE J2 → RY M2 J2 → RX M2 → x_X l G fL_law 200 600000 7302250 (qR (some (.int 1))) 1502 [(3, .int (nI (i))), (2, .ref (62)), (1, .ref (0)), (0, .ref (1002))] [] x_SH M2 J2 87 2934) : x_X l G fL_law 200 600000 7302250 (qR (some (.int 1))) 799 [(3, .int (nI (i))), (2, .ref (62)), (1, .ref (0)), (0, .ref (1002))] [] x_SH M J 87 2934 := by
  refine xr_aload_n dL_law_799 2 rfl ?_
  refine xr_aload_n dL_law_800 3 rfl ?_
  refine xr_iload_n dL_law_801 0 rfl ?_
  refine xr_iconst (v := 1) dL_law_802 rfl ?_
  refine xr_iadd dL_law_803 ?_
  refine xb_top (y := nI (i + 1)) (nI_add (i) (1)) ?_
  refine xr_sld rfl (vp_in_nI (show i + 1 < G.2.2.2.2.1 by omega) (by omega)) dL_law_804 ?_
  refine xb_top (y := (G.2.2.2.2.2 (i + 1))) (by rw [nI_clamp (by omega)]) ?_
  refine xr_aload_n dL_law_805 3 rfl ?_
  refine xr_iload_n dL_law_806 0 rfl ?_
  refine xr_iconst (v := 2) dL_law_807 rfl ?_
  refine xr_iadd dL_law_808 ?_
  refine xb_top (y := nI (i + 2)) (nI_add (i) (2)) ?_
  refine xr_sld rfl (vp_in_nI (show i + 2 < G.2.2.2.2.1 by omega) (by omega)) dL_law_809 ?_
  refine xb_top (y := (G.2.2.2.2.2 (i + 2))) (by rw [nI_clamp (by omega)]) ?_
  refine xr_callV (As := [.int ((G.2.2.2.2.2 (i + 1))), .int ((G.2.2.2.2.2 (i + 2)))]) (rest := []) mlL_101 (gs_X9_skill (G.2.2.2.2.2 (i + 1)) (G.2.2.2.2.2 (i + 2)) hC) dL_law_810 s_0 rfl rfl (Nat.le_of_ble_eq_true rfl) (by decide) ⟨by decide, by decide⟩ (fun v s2 M3 J2 hq => ?_)
  obtain ⟨r5, rfl, rfl, rfl, k4, hI1, hx2⟩ := hq
  try dsimp only [Option.toList, List.cons_append, List.nil_append]
  have kk6 : ∀ p k, 62 ≤ p → M3 p k = M p k := (fun p k hp => k4 p k (by unfold WSK; omega))
  refine xr_pop dL_law_813 rfl ?_
  refine xr_aload_n dL_law_814 1 rfl ?_
  refine xr_aload_n dL_law_815 3 rfl ?_
  refine xr_iload_n dL_law_816 0 rfl ?_
  refine xr_iconst (v := 1) dL_law_817 rfl ?_
  refine xr_iadd dL_law_818 ?_
  refine xb_top (y := nI (i + 1)) (nI_add (i) (1)) ?_
  refine xr_sld rfl (vp_in_nI (show i + 1 < G.2.2.2.2.1 by omega) (by omega)) dL_law_819 ?_
  refine xb_top (y := (G.2.2.2.2.2 (i + 1))) (by rw [nI_clamp (by omega)]) ?_
  refine xr_aload_n dL_law_820 3 rfl ?_
  refine xr_iload_n dL_law_821 0 rfl ?_
  refine xr_iconst (v := 2) dL_law_822 rfl ?_
  refine xr_iadd dL_law_823 ?_
  refine xb_top (y := nI (i + 2)) (nI_add (i) (2)) ?_
  refine xr_sld rfl (vp_in_nI (show i + 2 < G.2.2.2.2.1 by omega) (by omega)) dL_law_824 ?_
  refine xb_top (y := (G.2.2.2.2.2 (i + 2))) (by rw [nI_clamp (by omega)]) ?_
  refine xr_callV (As := [.int ((G.2.2.2.2.2 (i + 1))), .int ((G.2.2.2.2.2 (i + 2)))]) (rest := []) mlL_104 (gs_X10_skill (G.2.2.2.2.2 (i + 1)) (G.2.2.2.2.2 (i + 2)) (InvR_ke kk6 hR)) dL_law_825 s_62 rfl rfl (Nat.le_of_ble_eq_true rfl) (by decide) ⟨by decide, by decide⟩ (fun v s2 M9 J2 hq => ?_)
  obtain ⟨r11, rfl, rfl, rfl, k10, hI7, hx8⟩ := hq
  try dsimp only [Option.toList, List.cons_append, List.nil_append]
  have kk12 : ∀ p k, p < 62 → M9 p k = M3 p k := (fun p k hp => k10 p k (by unfold WRK; omega))
  refine xr_pop dL_law_828 rfl ?_
  refine xr_goto (tgt := 1502) dL_law_829 rfl ?_
  refine xb_ls (ls2 := [(3, .int (nI (i))), (2, .ref (62)), (1, .ref (0)), (0, .ref (1002))]) [0, 1, 2, 3] rfl ?_
  exact hN _ _ (InvC_ke kk12 hI1) hI7 (RB_f (fun p k hp => (k10 p k (nx_WRK_CSB hp)).trans (k4 p k (nx_WSK_CSB hp))) hB_) (RP_f (fun p k hp => (k10 p k (nx_WRK_CSP hp)).trans (k4 p k (nx_WSK_CSP hp))) hP_) (RT_f (fun p k hp => (k10 p k (nx_WRK_CST hp)).trans (k4 p k (nx_WSK_CST hp))) hT_) (jL_skill hx2 hx8 kk6 kk12 hL_).2 (RS_f (fun p k hp => (k10 p k (nx_WRK_CSS hp)).trans (k4 p k (nx_WSK_CSS hp))) hS_) (RE_f rfl rfl hE_) (RY_f (fun p k hp => (k10 p k (nx_WRK_CSY hp)).trans (k4 p k (nx_WSK_CSY hp))) hY_) (RX_f (fun p k hp => (k10 p k (nx_WRK_CSX hp)).trans (k4 p k (nx_WSK_CSX hp))) hX_)
set_option maxRecDepth 100000 in
set_option maxHeartbeats 4000000 in
theorem lwx_22 {l : Launch} {G : xG} (hL : G.2.2.2.2.1 ≤ 3072) {M : xM} {J : xJ} {i : Nat} (hi : i + 6 ≤ G.2.2.2.2.1) (hC : InvC M) (hR : InvR M) (hB_ : RB M) (hP_ : RP M) (hT_ : RT M) (hL_ : RLk M) (hS_ : RS M) (hE_ : RE J) (hY_ : RY M J) (hX_ : RX M) (hN : ∀ (M2 : xM) (J2 : xJ), InvC M2 → InvR M2 → RB M2 → RP M2 → RT M2 → RLk M2 → RS M2 → RE J2 → RY M2 J2 → RX M2 → x_X l G fL_law 200 600000 7302250 (qR (some (.int 1))) 1502 [(3, .int (nI (i))), (2, .ref (62)), (1, .ref (0)), (0, .ref (1002))] [] x_SH M2 J2 87 2934) : x_X l G fL_law 200 600000 7302250 (qR (some (.int 1))) 832 [(3, .int (nI (i))), (2, .ref (62)), (1, .ref (0)), (0, .ref (1002))] [] x_SH M J 87 2934 := by
  refine xr_aload_n dL_law_832 2 rfl ?_
  refine xr_aload_n dL_law_833 3 rfl ?_
  refine xr_iload_n dL_law_834 0 rfl ?_
  refine xr_iconst (v := 1) dL_law_835 rfl ?_
  refine xr_iadd dL_law_836 ?_
  refine xb_top (y := nI (i + 1)) (nI_add (i) (1)) ?_
  refine xr_sld rfl (vp_in_nI (show i + 1 < G.2.2.2.2.1 by omega) (by omega)) dL_law_837 ?_
  refine xb_top (y := (G.2.2.2.2.2 (i + 1))) (by rw [nI_clamp (by omega)]) ?_
  refine xr_aload_n dL_law_838 3 rfl ?_
  refine xr_iload_n dL_law_839 0 rfl ?_
  refine xr_iconst (v := 2) dL_law_840 rfl ?_
  refine xr_iadd dL_law_841 ?_
  refine xb_top (y := nI (i + 2)) (nI_add (i) (2)) ?_
  refine xr_sld rfl (vp_in_nI (show i + 2 < G.2.2.2.2.1 by omega) (by omega)) dL_law_842 ?_
  refine xb_top (y := (G.2.2.2.2.2 (i + 2))) (by rw [nI_clamp (by omega)]) ?_
  refine xr_aload_n dL_law_843 3 rfl ?_
  refine xr_iload_n dL_law_844 0 rfl ?_
  refine xr_iconst (v := 3) dL_law_845 rfl ?_
  refine xr_iadd dL_law_846 ?_
  refine xb_top (y := nI (i + 3)) (nI_add (i) (3)) ?_
  refine xr_sld rfl (vp_in_nI (show i + 3 < G.2.2.2.2.1 by omega) (by omega)) dL_law_847 ?_
  refine xb_top (y := (G.2.2.2.2.2 (i + 3))) (by rw [nI_clamp (by omega)]) ?_
  refine xr_callV (As := [.int ((G.2.2.2.2.2 (i + 1))), .int ((G.2.2.2.2.2 (i + 2))), .int ((G.2.2.2.2.2 (i + 3)))]) (rest := []) mlL_105 (g_X9_left (G.2.2.2.2.2 (i + 1)) (G.2.2.2.2.2 (i + 2)) (G.2.2.2.2.2 (i + 3)) hC) dL_law_848 s_0 rfl rfl (Nat.le_of_ble_eq_true rfl) (by decide) ⟨by decide, by decide⟩ (fun v s2 M3 J2 hq => ?_)
  obtain ⟨r5, rfl, rfl, rfl, k4, hI1⟩ := hq
  try dsimp only [Option.toList, List.cons_append, List.nil_append]
  have kk6 : ∀ p k, 62 ≤ p → M3 p k = M p k := (fun p k hp => k4 p k (by unfold WFD; omega))
  refine xr_pop dL_law_851 rfl ?_
  refine xr_aload_n dL_law_852 1 rfl ?_
  refine xr_aload_n dL_law_853 3 rfl ?_
  refine xr_iload_n dL_law_854 0 rfl ?_
  refine xr_iconst (v := 1) dL_law_855 rfl ?_
  refine xr_iadd dL_law_856 ?_
  refine xb_top (y := nI (i + 1)) (nI_add (i) (1)) ?_
  refine xr_sld rfl (vp_in_nI (show i + 1 < G.2.2.2.2.1 by omega) (by omega)) dL_law_857 ?_
  refine xb_top (y := (G.2.2.2.2.2 (i + 1))) (by rw [nI_clamp (by omega)]) ?_
  refine xr_aload_n dL_law_858 3 rfl ?_
  refine xr_iload_n dL_law_859 0 rfl ?_
  refine xr_iconst (v := 2) dL_law_860 rfl ?_
  refine xr_iadd dL_law_861 ?_
  refine xb_top (y := nI (i + 2)) (nI_add (i) (2)) ?_
  refine xr_sld rfl (vp_in_nI (show i + 2 < G.2.2.2.2.1 by omega) (by omega)) dL_law_862 ?_
  refine xb_top (y := (G.2.2.2.2.2 (i + 2))) (by rw [nI_clamp (by omega)]) ?_
  refine xr_aload_n dL_law_863 3 rfl ?_
  refine xr_iload_n dL_law_864 0 rfl ?_
  refine xr_iconst (v := 3) dL_law_865 rfl ?_
  refine xr_iadd dL_law_866 ?_
  refine xb_top (y := nI (i + 3)) (nI_add (i) (3)) ?_
  refine xr_sld rfl (vp_in_nI (show i + 3 < G.2.2.2.2.1 by omega) (by omega)) dL_law_867 ?_
  refine xb_top (y := (G.2.2.2.2.2 (i + 3))) (by rw [nI_clamp (by omega)]) ?_
  refine xr_callV (As := [.int ((G.2.2.2.2.2 (i + 1))), .int ((G.2.2.2.2.2 (i + 2))), .int ((G.2.2.2.2.2 (i + 3)))]) (rest := []) mlL_108 (g_X10_left (G.2.2.2.2.2 (i + 1)) (G.2.2.2.2.2 (i + 2)) (G.2.2.2.2.2 (i + 3)) (InvR_ke kk6 hR)) dL_law_868 s_62 rfl rfl (Nat.le_of_ble_eq_true rfl) (by decide) ⟨by decide, by decide⟩ (fun v s2 M9 J2 hq => ?_)
  obtain ⟨r11, rfl, rfl, rfl, k10, hI7⟩ := hq
  try dsimp only [Option.toList, List.cons_append, List.nil_append]
  have kk12 : ∀ p k, p < 62 → M9 p k = M3 p k := (fun p k hp => k10 p k (by unfold WFR; omega))
  refine xr_pop dL_law_871 rfl ?_
  refine xr_goto (tgt := 1502) dL_law_872 rfl ?_
  refine xb_ls (ls2 := [(3, .int (nI (i))), (2, .ref (62)), (1, .ref (0)), (0, .ref (1002))]) [0, 1, 2, 3] rfl ?_
  exact hN _ _ (InvC_ke kk12 hI1) hI7 (RB_f (fun p k hp => (k10 p k (nx_WFR_CSB hp)).trans (k4 p k (nx_WFD_CSB hp))) hB_) (RP_f (fun p k hp => (k10 p k (nx_WFR_CSP hp)).trans (k4 p k (nx_WFD_CSP hp))) hP_) (RT_f (fun p k hp => (k10 p k (nx_WFR_CST hp)).trans (k4 p k (nx_WFD_CST hp))) hT_) (RL_f (fun p k hp => (k10 p k (nx_WFR_CSL hp)).trans (k4 p k (nx_WFD_CSL hp))) hL_) (RS_f (fun p k hp => (k10 p k (nx_WFR_CSS hp)).trans (k4 p k (nx_WFD_CSS hp))) hS_) (RE_f rfl rfl hE_) (RY_f (fun p k hp => (k10 p k (nx_WFR_CSY hp)).trans (k4 p k (nx_WFD_CSY hp))) hY_) (RX_f (fun p k hp => (k10 p k (nx_WFR_CSX hp)).trans (k4 p k (nx_WFD_CSX hp))) hX_)
set_option maxRecDepth 100000 in
set_option maxHeartbeats 4000000 in
theorem lwx_23 {l : Launch} {G : xG} (hL : G.2.2.2.2.1 ≤ 3072) {M : xM} {J : xJ} {i : Nat} (hi : i + 6 ≤ G.2.2.2.2.1) (hC : InvC M) (hR : InvR M) (hB_ : RB M) (hP_ : RP M) (hT_ : RT M) (hL_ : RLk M) (hS_ : RS M) (hE_ : RE J) (hY_ : RY M J) (hX_ : RX M) (hN : ∀ (M2 : xM) (J2 : xJ), InvC M2 → InvR M2 → RB M2 → RP M2 → RT M2 → RLk M2 → RS M2 → RE J2 → RY M2 J2 → RX M2 → x_X l G fL_law 200 600000 7302250 (qR (some (.int 1))) 1502 [(3, .int (nI (i))), (2, .ref (62)), (1, .ref (0)), (0, .ref (1002))] [] x_SH M2 J2 87 2934) : x_X l G fL_law 200 600000 7302250 (qR (some (.int 1))) 875 [(3, .int (nI (i))), (2, .ref (62)), (1, .ref (0)), (0, .ref (1002))] [] x_SH M J 87 2934 := by
  refine xr_aload_n dL_law_875 2 rfl ?_
  refine xr_aload_n dL_law_876 3 rfl ?_
  refine xr_iload_n dL_law_877 0 rfl ?_
  refine xr_iconst (v := 1) dL_law_878 rfl ?_
  refine xr_iadd dL_law_879 ?_
  refine xb_top (y := nI (i + 1)) (nI_add (i) (1)) ?_
  refine xr_sld rfl (vp_in_nI (show i + 1 < G.2.2.2.2.1 by omega) (by omega)) dL_law_880 ?_
  refine xb_top (y := (G.2.2.2.2.2 (i + 1))) (by rw [nI_clamp (by omega)]) ?_
  refine xr_aload_n dL_law_881 3 rfl ?_
  refine xr_iload_n dL_law_882 0 rfl ?_
  refine xr_iconst (v := 2) dL_law_883 rfl ?_
  refine xr_iadd dL_law_884 ?_
  refine xb_top (y := nI (i + 2)) (nI_add (i) (2)) ?_
  refine xr_sld rfl (vp_in_nI (show i + 2 < G.2.2.2.2.1 by omega) (by omega)) dL_law_885 ?_
  refine xb_top (y := (G.2.2.2.2.2 (i + 2))) (by rw [nI_clamp (by omega)]) ?_
  refine xr_aload_n dL_law_886 3 rfl ?_
  refine xr_iload_n dL_law_887 0 rfl ?_
  refine xr_iconst (v := 3) dL_law_888 rfl ?_
  refine xr_iadd dL_law_889 ?_
  refine xb_top (y := nI (i + 3)) (nI_add (i) (3)) ?_
  refine xr_sld rfl (vp_in_nI (show i + 3 < G.2.2.2.2.1 by omega) (by omega)) dL_law_890 ?_
  refine xb_top (y := (G.2.2.2.2.2 (i + 3))) (by rw [nI_clamp (by omega)]) ?_
  refine xr_callV (As := [.int ((G.2.2.2.2.2 (i + 1))), .int ((G.2.2.2.2.2 (i + 2))), .int ((G.2.2.2.2.2 (i + 3)))]) (rest := []) mlL_109 (g_X9_knocked (G.2.2.2.2.2 (i + 1)) (G.2.2.2.2.2 (i + 2)) (G.2.2.2.2.2 (i + 3)) hC) dL_law_891 s_0 rfl rfl (Nat.le_of_ble_eq_true rfl) (by decide) ⟨by decide, by decide⟩ (fun v s2 M3 J2 hq => ?_)
  obtain ⟨r5, rfl, rfl, rfl, k4, hI1⟩ := hq
  try dsimp only [Option.toList, List.cons_append, List.nil_append]
  have kk6 : ∀ p k, 62 ≤ p → M3 p k = M p k := (fun p k hp => k4 p k (by unfold WFD; omega))
  refine xr_pop dL_law_894 rfl ?_
  refine xr_aload_n dL_law_895 1 rfl ?_
  refine xr_aload_n dL_law_896 3 rfl ?_
  refine xr_iload_n dL_law_897 0 rfl ?_
  refine xr_iconst (v := 1) dL_law_898 rfl ?_
  refine xr_iadd dL_law_899 ?_
  refine xb_top (y := nI (i + 1)) (nI_add (i) (1)) ?_
  refine xr_sld rfl (vp_in_nI (show i + 1 < G.2.2.2.2.1 by omega) (by omega)) dL_law_900 ?_
  refine xb_top (y := (G.2.2.2.2.2 (i + 1))) (by rw [nI_clamp (by omega)]) ?_
  refine xr_aload_n dL_law_901 3 rfl ?_
  refine xr_iload_n dL_law_902 0 rfl ?_
  refine xr_iconst (v := 2) dL_law_903 rfl ?_
  refine xr_iadd dL_law_904 ?_
  refine xb_top (y := nI (i + 2)) (nI_add (i) (2)) ?_
  refine xr_sld rfl (vp_in_nI (show i + 2 < G.2.2.2.2.1 by omega) (by omega)) dL_law_905 ?_
  refine xb_top (y := (G.2.2.2.2.2 (i + 2))) (by rw [nI_clamp (by omega)]) ?_
  refine xr_aload_n dL_law_906 3 rfl ?_
  refine xr_iload_n dL_law_907 0 rfl ?_
  refine xr_iconst (v := 3) dL_law_908 rfl ?_
  refine xr_iadd dL_law_909 ?_
  refine xb_top (y := nI (i + 3)) (nI_add (i) (3)) ?_
  refine xr_sld rfl (vp_in_nI (show i + 3 < G.2.2.2.2.1 by omega) (by omega)) dL_law_910 ?_
  refine xb_top (y := (G.2.2.2.2.2 (i + 3))) (by rw [nI_clamp (by omega)]) ?_
  refine xr_callV (As := [.int ((G.2.2.2.2.2 (i + 1))), .int ((G.2.2.2.2.2 (i + 2))), .int ((G.2.2.2.2.2 (i + 3)))]) (rest := []) mlL_112 (g_X10_knocked (G.2.2.2.2.2 (i + 1)) (G.2.2.2.2.2 (i + 2)) (G.2.2.2.2.2 (i + 3)) (InvR_ke kk6 hR)) dL_law_911 s_62 rfl rfl (Nat.le_of_ble_eq_true rfl) (by decide) ⟨by decide, by decide⟩ (fun v s2 M9 J2 hq => ?_)
  obtain ⟨r11, rfl, rfl, rfl, k10, hI7⟩ := hq
  try dsimp only [Option.toList, List.cons_append, List.nil_append]
  have kk12 : ∀ p k, p < 62 → M9 p k = M3 p k := (fun p k hp => k10 p k (by unfold WFR; omega))
  refine xr_pop dL_law_914 rfl ?_
  refine xr_goto (tgt := 1502) dL_law_915 rfl ?_
  refine xb_ls (ls2 := [(3, .int (nI (i))), (2, .ref (62)), (1, .ref (0)), (0, .ref (1002))]) [0, 1, 2, 3] rfl ?_
  exact hN _ _ (InvC_ke kk12 hI1) hI7 (RB_f (fun p k hp => (k10 p k (nx_WFR_CSB hp)).trans (k4 p k (nx_WFD_CSB hp))) hB_) (RP_f (fun p k hp => (k10 p k (nx_WFR_CSP hp)).trans (k4 p k (nx_WFD_CSP hp))) hP_) (RT_f (fun p k hp => (k10 p k (nx_WFR_CST hp)).trans (k4 p k (nx_WFD_CST hp))) hT_) (RL_f (fun p k hp => (k10 p k (nx_WFR_CSL hp)).trans (k4 p k (nx_WFD_CSL hp))) hL_) (RS_f (fun p k hp => (k10 p k (nx_WFR_CSS hp)).trans (k4 p k (nx_WFD_CSS hp))) hS_) (RE_f rfl rfl hE_) (RY_f (fun p k hp => (k10 p k (nx_WFR_CSY hp)).trans (k4 p k (nx_WFD_CSY hp))) hY_) (RX_f (fun p k hp => (k10 p k (nx_WFR_CSX hp)).trans (k4 p k (nx_WFD_CSX hp))) hX_)
set_option maxRecDepth 100000 in
set_option maxHeartbeats 4000000 in
theorem lwx_24 {l : Launch} {G : xG} (hL : G.2.2.2.2.1 ≤ 3072) {M : xM} {J : xJ} {i : Nat} (hi : i + 6 ≤ G.2.2.2.2.1) (hC : InvC M) (hR : InvR M) (hB_ : RB M) (hP_ : RP M) (hT_ : RT M) (hL_ : RLk M) (hS_ : RS M) (hE_ : RE J) (hY_ : RY M J) (hX_ : RX M) (hN : ∀ (M2 : xM) (J2 : xJ), InvC M2 → InvR M2 → RB M2 → RP M2 → RT M2 → RLk M2 → RS M2 → RE J2 → RY M2 J2 → RX M2 → x_X l G fL_law 200 600000 7302250 (qR (some (.int 1))) 1502 [(3, .int (nI (i))), (2, .ref (62)), (1, .ref (0)), (0, .ref (1002))] [] x_SH M2 J2 87 2934) : x_X l G fL_law 200 600000 7302250 (qR (some (.int 1))) 918 [(3, .int (nI (i))), (2, .ref (62)), (1, .ref (0)), (0, .ref (1002))] [] x_SH M J 87 2934 := by
  refine xr_aload_n dL_law_918 2 rfl ?_
  refine xr_aload_n dL_law_919 3 rfl ?_
  refine xr_iload_n dL_law_920 0 rfl ?_
  refine xr_iconst (v := 1) dL_law_921 rfl ?_
  refine xr_iadd dL_law_922 ?_
  refine xb_top (y := nI (i + 1)) (nI_add (i) (1)) ?_
  refine xr_sld rfl (vp_in_nI (show i + 1 < G.2.2.2.2.1 by omega) (by omega)) dL_law_923 ?_
  refine xb_top (y := (G.2.2.2.2.2 (i + 1))) (by rw [nI_clamp (by omega)]) ?_
  refine xr_aload_n dL_law_924 3 rfl ?_
  refine xr_iload_n dL_law_925 0 rfl ?_
  refine xr_iconst (v := 2) dL_law_926 rfl ?_
  refine xr_iadd dL_law_927 ?_
  refine xb_top (y := nI (i + 2)) (nI_add (i) (2)) ?_
  refine xr_sld rfl (vp_in_nI (show i + 2 < G.2.2.2.2.1 by omega) (by omega)) dL_law_928 ?_
  refine xb_top (y := (G.2.2.2.2.2 (i + 2))) (by rw [nI_clamp (by omega)]) ?_
  obtain ⟨nh, D, t, S, lg, lu, lw, hWG, ⟨hGc, hGr⟩, ⟨hWL, hLc, hLr⟩, hKX⟩ := id hX_
  refine xr_callV (As := [.int ((G.2.2.2.2.2 (i + 1))), .int ((G.2.2.2.2.2 (i + 2)))]) (rest := []) mlL_113 (gx_X9_last (G.2.2.2.2.2 (i + 1)) (G.2.2.2.2.2 (i + 2)) hC (sk := M 36) (fun _ _ => rfl) (CG_5 hGc)) dL_law_929 s_0 rfl rfl (Nat.le_of_ble_eq_true rfl) (by decide) ⟨by decide, by decide⟩ (fun v s2 M3 J2 hq => ?_)
  obtain ⟨r5, rfl, rfl, rfl, k4, hI1, hx2⟩ := hq
  try dsimp only [Option.toList, List.cons_append, List.nil_append]
  have kk6 : ∀ p k, 62 ≤ p → M3 p k = M p k := (fun p k hp => k4 p k (by unfold WFD; omega))
  refine xr_aload_n dL_law_932 1 rfl ?_
  refine xr_aload_n dL_law_933 3 rfl ?_
  refine xr_iload_n dL_law_934 0 rfl ?_
  refine xr_iconst (v := 1) dL_law_935 rfl ?_
  refine xr_iadd dL_law_936 ?_
  refine xb_top (y := nI (i + 1)) (nI_add (i) (1)) ?_
  refine xr_sld rfl (vp_in_nI (show i + 1 < G.2.2.2.2.1 by omega) (by omega)) dL_law_937 ?_
  refine xb_top (y := (G.2.2.2.2.2 (i + 1))) (by rw [nI_clamp (by omega)]) ?_
  refine xr_aload_n dL_law_938 3 rfl ?_
  refine xr_iload_n dL_law_939 0 rfl ?_
  refine xr_iconst (v := 2) dL_law_940 rfl ?_
  refine xr_iadd dL_law_941 ?_
  refine xb_top (y := nI (i + 2)) (nI_add (i) (2)) ?_
  refine xr_sld rfl (vp_in_nI (show i + 2 < G.2.2.2.2.1 by omega) (by omega)) dL_law_942 ?_
  refine xb_top (y := (G.2.2.2.2.2 (i + 2))) (by rw [nI_clamp (by omega)]) ?_
  refine xr_callV (As := [.int ((G.2.2.2.2.2 (i + 1))), .int ((G.2.2.2.2.2 (i + 2)))]) (rest := [.int (r5)]) mlL_116 (gx_X10_last (G.2.2.2.2.2 (i + 1)) (G.2.2.2.2.2 (i + 2)) (InvR_ke kk6 hR) (sk := M 36) (fun j hj => (kk6 75 j (by decide)).trans (hL_.1 j hj).1.symm) (RG_5 (RG_f hWG.1 hGr kk6))) dL_law_943 s_62 rfl rfl (Nat.le_of_ble_eq_true rfl) (by decide) ⟨by decide, by decide⟩ (fun v s2 M9 J2 hq => ?_)
  obtain ⟨r11, rfl, rfl, rfl, k10, hI7, hx8⟩ := hq
  try dsimp only [Option.toList, List.cons_append, List.nil_append]
  have kk12 : ∀ p k, p < 62 → M9 p k = M3 p k := (fun p k hp => k10 p k (by unfold WFR; omega))
  refine xr_icmp_eq (tgt := 1502) dL_law_946 rfl (fun _ => ?_) (fun c => absurd (hx2.trans hx8.symm) c)
  refine xb_ls (ls2 := [(3, .int (nI (i))), (2, .ref (62)), (1, .ref (0)), (0, .ref (1002))]) [0, 1, 2, 3] rfl ?_
  exact hN _ _ (InvC_ke kk12 hI1) hI7 (RB_f (fun p k hp => (k10 p k (nx_WFR_CSB hp)).trans (k4 p k (nx_WFD_CSB hp))) hB_) (RP_f (fun p k hp => (k10 p k (nx_WFR_CSP hp)).trans (k4 p k (nx_WFD_CSP hp))) hP_) (RT_f (fun p k hp => (k10 p k (nx_WFR_CST hp)).trans (k4 p k (nx_WFD_CST hp))) hT_) (RL_f (fun p k hp => (k10 p k (nx_WFR_CSL hp)).trans (k4 p k (nx_WFD_CSL hp))) hL_) (RS_f (fun p k hp => (k10 p k (nx_WFR_CSS hp)).trans (k4 p k (nx_WFD_CSS hp))) hS_) (RE_f rfl rfl hE_) (RY_f (fun p k hp => (k10 p k (nx_WFR_CSY hp)).trans (k4 p k (nx_WFD_CSY hp))) hY_) (RX_f (fun p k hp => (k10 p k (nx_WFR_CSX hp)).trans (k4 p k (nx_WFD_CSX hp))) hX_)
set_option maxRecDepth 100000 in
set_option maxHeartbeats 4000000 in
theorem lwx_25 {l : Launch} {G : xG} (hL : G.2.2.2.2.1 ≤ 3072) {M : xM} {J : xJ} {i : Nat} (hi : i + 6 ≤ G.2.2.2.2.1) (hC : InvC M) (hR : InvR M) (hB_ : RB M) (hP_ : RP M) (hT_ : RT M) (hL_ : RLk M) (hS_ : RS M) (hE_ : RE J) (hY_ : RY M J) (hX_ : RX M) (hN : ∀ (M2 : xM) (J2 : xJ), InvC M2 → InvR M2 → RB M2 → RP M2 → RT M2 → RLk M2 → RS M2 → RE J2 → RY M2 J2 → RX M2 → x_X l G fL_law 200 600000 7302250 (qR (some (.int 1))) 1502 [(3, .int (nI (i))), (2, .ref (62)), (1, .ref (0)), (0, .ref (1002))] [] x_SH M2 J2 87 2934) : x_X l G fL_law 200 600000 7302250 (qR (some (.int 1))) 951 [(3, .int (nI (i))), (2, .ref (62)), (1, .ref (0)), (0, .ref (1002))] [] x_SH M J 87 2934 := by
  refine xr_aload_n dL_law_951 2 rfl ?_
  refine xr_aload_n dL_law_952 3 rfl ?_
  refine xr_iload_n dL_law_953 0 rfl ?_
  refine xr_iconst (v := 1) dL_law_954 rfl ?_
  refine xr_iadd dL_law_955 ?_
  refine xb_top (y := nI (i + 1)) (nI_add (i) (1)) ?_
  refine xr_sld rfl (vp_in_nI (show i + 1 < G.2.2.2.2.1 by omega) (by omega)) dL_law_956 ?_
  refine xb_top (y := (G.2.2.2.2.2 (i + 1))) (by rw [nI_clamp (by omega)]) ?_
  refine xr_aload_n dL_law_957 3 rfl ?_
  refine xr_iload_n dL_law_958 0 rfl ?_
  refine xr_iconst (v := 2) dL_law_959 rfl ?_
  refine xr_iadd dL_law_960 ?_
  refine xb_top (y := nI (i + 2)) (nI_add (i) (2)) ?_
  refine xr_sld rfl (vp_in_nI (show i + 2 < G.2.2.2.2.1 by omega) (by omega)) dL_law_961 ?_
  refine xb_top (y := (G.2.2.2.2.2 (i + 2))) (by rw [nI_clamp (by omega)]) ?_
  refine xr_aload_n dL_law_962 3 rfl ?_
  refine xr_iload_n dL_law_963 0 rfl ?_
  refine xr_iconst (v := 3) dL_law_964 rfl ?_
  refine xr_iadd dL_law_965 ?_
  refine xb_top (y := nI (i + 3)) (nI_add (i) (3)) ?_
  refine xr_sld rfl (vp_in_nI (show i + 3 < G.2.2.2.2.1 by omega) (by omega)) dL_law_966 ?_
  refine xb_top (y := (G.2.2.2.2.2 (i + 3))) (by rw [nI_clamp (by omega)]) ?_
  refine xr_callV (As := [.int ((G.2.2.2.2.2 (i + 1))), .int ((G.2.2.2.2.2 (i + 2))), .int ((G.2.2.2.2.2 (i + 3)))]) (rest := []) mlL_117 (gs_X9_alone (G.2.2.2.2.2 (i + 1)) (G.2.2.2.2.2 (i + 2)) (G.2.2.2.2.2 (i + 3)) hC) dL_law_967 s_0 rfl rfl (Nat.le_of_ble_eq_true rfl) (by decide) ⟨by decide, by decide⟩ (fun v s2 M9 J2 hq => ?_)
  obtain ⟨r3, rfl, rfl, rfl, rfl, hx2⟩ := hq
  try dsimp only [Option.toList, List.cons_append, List.nil_append]
  refine xr_pop2 dL_law_970 rfl ?_
  refine xr_aload_n dL_law_971 1 rfl ?_
  refine xr_aload_n dL_law_972 3 rfl ?_
  refine xr_iload_n dL_law_973 0 rfl ?_
  refine xr_iconst (v := 1) dL_law_974 rfl ?_
  refine xr_iadd dL_law_975 ?_
  refine xb_top (y := nI (i + 1)) (nI_add (i) (1)) ?_
  refine xr_sld rfl (vp_in_nI (show i + 1 < G.2.2.2.2.1 by omega) (by omega)) dL_law_976 ?_
  refine xb_top (y := (G.2.2.2.2.2 (i + 1))) (by rw [nI_clamp (by omega)]) ?_
  refine xr_aload_n dL_law_977 3 rfl ?_
  refine xr_iload_n dL_law_978 0 rfl ?_
  refine xr_iconst (v := 2) dL_law_979 rfl ?_
  refine xr_iadd dL_law_980 ?_
  refine xb_top (y := nI (i + 2)) (nI_add (i) (2)) ?_
  refine xr_sld rfl (vp_in_nI (show i + 2 < G.2.2.2.2.1 by omega) (by omega)) dL_law_981 ?_
  refine xb_top (y := (G.2.2.2.2.2 (i + 2))) (by rw [nI_clamp (by omega)]) ?_
  refine xr_aload_n dL_law_982 3 rfl ?_
  refine xr_iload_n dL_law_983 0 rfl ?_
  refine xr_iconst (v := 3) dL_law_984 rfl ?_
  refine xr_iadd dL_law_985 ?_
  refine xb_top (y := nI (i + 3)) (nI_add (i) (3)) ?_
  refine xr_sld rfl (vp_in_nI (show i + 3 < G.2.2.2.2.1 by omega) (by omega)) dL_law_986 ?_
  refine xb_top (y := (G.2.2.2.2.2 (i + 3))) (by rw [nI_clamp (by omega)]) ?_
  refine xr_callV (As := [.int ((G.2.2.2.2.2 (i + 1))), .int ((G.2.2.2.2.2 (i + 2))), .int ((G.2.2.2.2.2 (i + 3)))]) (rest := []) mlL_121 (gs_X10_alone (G.2.2.2.2.2 (i + 1)) (G.2.2.2.2.2 (i + 2)) (G.2.2.2.2.2 (i + 3)) hR) dL_law_987 s_62 rfl rfl (Nat.le_of_ble_eq_true rfl) (by decide) ⟨by decide, by decide⟩ (fun v s2 M9 J2 hq => ?_)
  obtain ⟨r6, rfl, rfl, rfl, rfl, hx5⟩ := hq
  try dsimp only [Option.toList, List.cons_append, List.nil_append]
  refine xr_pop2 dL_law_990 rfl ?_
  refine xr_goto (tgt := 1502) dL_law_991 rfl ?_
  refine xb_ls (ls2 := [(3, .int (nI (i))), (2, .ref (62)), (1, .ref (0)), (0, .ref (1002))]) [0, 1, 2, 3] rfl ?_
  exact hN _ _ hC hR hB_ hP_ hT_ hL_ hS_ (RE_f rfl rfl hE_) hY_ hX_
set_option maxRecDepth 100000 in
set_option maxHeartbeats 4000000 in
theorem lwx_26 {l : Launch} {G : xG} (hL : G.2.2.2.2.1 ≤ 3072) {M : xM} {J : xJ} {i : Nat} (hi : i + 6 ≤ G.2.2.2.2.1) (hC : InvC M) (hR : InvR M) (hB_ : RB M) (hP_ : RP M) (hT_ : RT M) (hL_ : RLk M) (hS_ : RS M) (hE_ : RE J) (hY_ : RY M J) (hX_ : RX M) (hN : ∀ (M2 : xM) (J2 : xJ), InvC M2 → InvR M2 → RB M2 → RP M2 → RT M2 → RLk M2 → RS M2 → RE J2 → RY M2 J2 → RX M2 → x_X l G fL_law 200 600000 7302250 (qR (some (.int 1))) 1502 [(3, .int (nI (i))), (2, .ref (62)), (1, .ref (0)), (0, .ref (1002))] [] x_SH M2 J2 87 2934) : x_X l G fL_law 200 600000 7302250 (qR (some (.int 1))) 994 [(3, .int (nI (i))), (2, .ref (62)), (1, .ref (0)), (0, .ref (1002))] [] x_SH M J 87 2934 := by
  refine xr_aload_n dL_law_994 2 rfl ?_
  refine xr_aload_n dL_law_995 3 rfl ?_
  refine xr_iload_n dL_law_996 0 rfl ?_
  refine xr_iconst (v := 1) dL_law_997 rfl ?_
  refine xr_iadd dL_law_998 ?_
  refine xb_top (y := nI (i + 1)) (nI_add (i) (1)) ?_
  refine xr_sld rfl (vp_in_nI (show i + 1 < G.2.2.2.2.1 by omega) (by omega)) dL_law_999 ?_
  refine xb_top (y := (G.2.2.2.2.2 (i + 1))) (by rw [nI_clamp (by omega)]) ?_
  refine xr_aload_n dL_law_1000 3 rfl ?_
  refine xr_iload_n dL_law_1001 0 rfl ?_
  refine xr_iconst (v := 2) dL_law_1002 rfl ?_
  refine xr_iadd dL_law_1003 ?_
  refine xb_top (y := nI (i + 2)) (nI_add (i) (2)) ?_
  refine xr_sld rfl (vp_in_nI (show i + 2 < G.2.2.2.2.1 by omega) (by omega)) dL_law_1004 ?_
  refine xb_top (y := (G.2.2.2.2.2 (i + 2))) (by rw [nI_clamp (by omega)]) ?_
  refine xr_callV (As := [.int ((G.2.2.2.2.2 (i + 1))), .int ((G.2.2.2.2.2 (i + 2)))]) (rest := []) mlL_122 (gs_X9_learn (G.2.2.2.2.2 (i + 1)) (G.2.2.2.2.2 (i + 2)) hC hL_.2) dL_law_1005 s_0 rfl rfl (Nat.le_of_ble_eq_true rfl) (by decide) ⟨by decide, by decide⟩ (fun v s2 M3 J2 hq => ?_)
  obtain ⟨r5, rfl, rfl, rfl, k4, hI1, hx2⟩ := hq
  try dsimp only [Option.toList, List.cons_append, List.nil_append]
  have kk6 : ∀ p k, 62 ≤ p → M3 p k = M p k := (fun p k hp => k4 p k (by unfold WSK; omega))
  refine xr_pop dL_law_1008 rfl ?_
  refine xr_aload_n dL_law_1009 1 rfl ?_
  refine xr_aload_n dL_law_1010 3 rfl ?_
  refine xr_iload_n dL_law_1011 0 rfl ?_
  refine xr_iconst (v := 1) dL_law_1012 rfl ?_
  refine xr_iadd dL_law_1013 ?_
  refine xb_top (y := nI (i + 1)) (nI_add (i) (1)) ?_
  refine xr_sld rfl (vp_in_nI (show i + 1 < G.2.2.2.2.1 by omega) (by omega)) dL_law_1014 ?_
  refine xb_top (y := (G.2.2.2.2.2 (i + 1))) (by rw [nI_clamp (by omega)]) ?_
  refine xr_aload_n dL_law_1015 3 rfl ?_
  refine xr_iload_n dL_law_1016 0 rfl ?_
  refine xr_iconst (v := 2) dL_law_1017 rfl ?_
  refine xr_iadd dL_law_1018 ?_
  refine xb_top (y := nI (i + 2)) (nI_add (i) (2)) ?_
  refine xr_sld rfl (vp_in_nI (show i + 2 < G.2.2.2.2.1 by omega) (by omega)) dL_law_1019 ?_
  refine xb_top (y := (G.2.2.2.2.2 (i + 2))) (by rw [nI_clamp (by omega)]) ?_
  refine xr_callV (As := [.int ((G.2.2.2.2.2 (i + 1))), .int ((G.2.2.2.2.2 (i + 2)))]) (rest := []) mlL_125 (gs_X10_learn (G.2.2.2.2.2 (i + 1)) (G.2.2.2.2.2 (i + 2)) (InvR_ke kk6 hR) (RLk_r1 kk6 hL_)) dL_law_1020 s_62 rfl rfl (Nat.le_of_ble_eq_true rfl) (by decide) ⟨by decide, by decide⟩ (fun v s2 M9 J2 hq => ?_)
  obtain ⟨r11, rfl, rfl, rfl, k10, hI7, hx8⟩ := hq
  try dsimp only [Option.toList, List.cons_append, List.nil_append]
  have kk12 : ∀ p k, p < 62 → M9 p k = M3 p k := (fun p k hp => k10 p k (by unfold WRK; omega))
  refine xr_pop dL_law_1023 rfl ?_
  refine xr_goto (tgt := 1502) dL_law_1024 rfl ?_
  refine xb_ls (ls2 := [(3, .int (nI (i))), (2, .ref (62)), (1, .ref (0)), (0, .ref (1002))]) [0, 1, 2, 3] rfl ?_
  exact hN _ _ (InvC_ke kk12 hI1) hI7 (RB_f (fun p k hp => (k10 p k (nx_WRK_CSB hp)).trans (k4 p k (nx_WSK_CSB hp))) hB_) (RP_f (fun p k hp => (k10 p k (nx_WRK_CSP hp)).trans (k4 p k (nx_WSK_CSP hp))) hP_) (RT_f (fun p k hp => (k10 p k (nx_WRK_CST hp)).trans (k4 p k (nx_WSK_CST hp))) hT_) (jL_learn hx2 hx8 kk6 kk12 hL_).2 (RS_f (fun p k hp => (k10 p k (nx_WRK_CSS hp)).trans (k4 p k (nx_WSK_CSS hp))) hS_) (RE_f rfl rfl hE_) (RY_f (fun p k hp => (k10 p k (nx_WRK_CSY hp)).trans (k4 p k (nx_WSK_CSY hp))) hY_) (RX_f (fun p k hp => (k10 p k (nx_WRK_CSX hp)).trans (k4 p k (nx_WSK_CSX hp))) hX_)
set_option maxRecDepth 100000 in
set_option maxHeartbeats 4000000 in
theorem lwx_27 {l : Launch} {G : xG} (hL : G.2.2.2.2.1 ≤ 3072) {M : xM} {J : xJ} {i : Nat} (hi : i + 6 ≤ G.2.2.2.2.1) (hC : InvC M) (hR : InvR M) (hB_ : RB M) (hP_ : RP M) (hT_ : RT M) (hL_ : RLk M) (hS_ : RS M) (hE_ : RE J) (hY_ : RY M J) (hX_ : RX M) (hN : ∀ (M2 : xM) (J2 : xJ), InvC M2 → InvR M2 → RB M2 → RP M2 → RT M2 → RLk M2 → RS M2 → RE J2 → RY M2 J2 → RX M2 → x_X l G fL_law 200 600000 7302250 (qR (some (.int 1))) 1502 [(3, .int (nI (i))), (2, .ref (62)), (1, .ref (0)), (0, .ref (1002))] [] x_SH M2 J2 87 2934) : x_X l G fL_law 200 600000 7302250 (qR (some (.int 1))) 1027 [(3, .int (nI (i))), (2, .ref (62)), (1, .ref (0)), (0, .ref (1002))] [] x_SH M J 87 2934 := by
  refine xr_aload_n dL_law_1027 2 rfl ?_
  refine xr_aload_n dL_law_1028 3 rfl ?_
  refine xr_iload_n dL_law_1029 0 rfl ?_
  refine xr_iconst (v := 1) dL_law_1030 rfl ?_
  refine xr_iadd dL_law_1031 ?_
  refine xb_top (y := nI (i + 1)) (nI_add (i) (1)) ?_
  refine xr_sld rfl (vp_in_nI (show i + 1 < G.2.2.2.2.1 by omega) (by omega)) dL_law_1032 ?_
  refine xb_top (y := (G.2.2.2.2.2 (i + 1))) (by rw [nI_clamp (by omega)]) ?_
  refine xr_aload_n dL_law_1033 3 rfl ?_
  refine xr_iload_n dL_law_1034 0 rfl ?_
  refine xr_iconst (v := 2) dL_law_1035 rfl ?_
  refine xr_iadd dL_law_1036 ?_
  refine xb_top (y := nI (i + 2)) (nI_add (i) (2)) ?_
  refine xr_sld rfl (vp_in_nI (show i + 2 < G.2.2.2.2.1 by omega) (by omega)) dL_law_1037 ?_
  refine xb_top (y := (G.2.2.2.2.2 (i + 2))) (by rw [nI_clamp (by omega)]) ?_
  refine xr_callV (As := [.int ((G.2.2.2.2.2 (i + 1))), .int ((G.2.2.2.2.2 (i + 2)))]) (rest := []) mlL_126 (gs_X9_till (G.2.2.2.2.2 (i + 1)) (G.2.2.2.2.2 (i + 2)) hC hL_.2) dL_law_1038 s_0 rfl rfl (Nat.le_of_ble_eq_true rfl) (by decide) ⟨by decide, by decide⟩ (fun v s2 M9 J2 hq => ?_)
  obtain ⟨r3, rfl, rfl, rfl, rfl, hx2⟩ := hq
  try dsimp only [Option.toList, List.cons_append, List.nil_append]
  refine xr_pop dL_law_1041 rfl ?_
  refine xr_aload_n dL_law_1042 1 rfl ?_
  refine xr_aload_n dL_law_1043 3 rfl ?_
  refine xr_iload_n dL_law_1044 0 rfl ?_
  refine xr_iconst (v := 1) dL_law_1045 rfl ?_
  refine xr_iadd dL_law_1046 ?_
  refine xb_top (y := nI (i + 1)) (nI_add (i) (1)) ?_
  refine xr_sld rfl (vp_in_nI (show i + 1 < G.2.2.2.2.1 by omega) (by omega)) dL_law_1047 ?_
  refine xb_top (y := (G.2.2.2.2.2 (i + 1))) (by rw [nI_clamp (by omega)]) ?_
  refine xr_aload_n dL_law_1048 3 rfl ?_
  refine xr_iload_n dL_law_1049 0 rfl ?_
  refine xr_iconst (v := 2) dL_law_1050 rfl ?_
  refine xr_iadd dL_law_1051 ?_
  refine xb_top (y := nI (i + 2)) (nI_add (i) (2)) ?_
  refine xr_sld rfl (vp_in_nI (show i + 2 < G.2.2.2.2.1 by omega) (by omega)) dL_law_1052 ?_
  refine xb_top (y := (G.2.2.2.2.2 (i + 2))) (by rw [nI_clamp (by omega)]) ?_
  refine xr_callV (As := [.int ((G.2.2.2.2.2 (i + 1))), .int ((G.2.2.2.2.2 (i + 2)))]) (rest := []) mlL_129 (gs_X10_till (G.2.2.2.2.2 (i + 1)) (G.2.2.2.2.2 (i + 2)) hR (RLk_r1 (fun _ _ _ => rfl) hL_)) dL_law_1053 s_62 rfl rfl (Nat.le_of_ble_eq_true rfl) (by decide) ⟨by decide, by decide⟩ (fun v s2 M9 J2 hq => ?_)
  obtain ⟨r6, rfl, rfl, rfl, rfl, hx5⟩ := hq
  try dsimp only [Option.toList, List.cons_append, List.nil_append]
  refine xr_pop dL_law_1056 rfl ?_
  refine xr_goto (tgt := 1502) dL_law_1057 rfl ?_
  refine xb_ls (ls2 := [(3, .int (nI (i))), (2, .ref (62)), (1, .ref (0)), (0, .ref (1002))]) [0, 1, 2, 3] rfl ?_
  exact hN _ _ hC hR hB_ hP_ hT_ hL_ hS_ (RE_f rfl rfl hE_) hY_ hX_
set_option maxRecDepth 100000 in
set_option maxHeartbeats 4000000 in
theorem lwx_28 {l : Launch} {G : xG} (hL : G.2.2.2.2.1 ≤ 3072) {M : xM} {J : xJ} {i : Nat} (hi : i + 6 ≤ G.2.2.2.2.1) (hC : InvC M) (hR : InvR M) (hB_ : RB M) (hP_ : RP M) (hT_ : RT M) (hL_ : RLk M) (hS_ : RS M) (hE_ : RE J) (hY_ : RY M J) (hX_ : RX M) (hN : ∀ (M2 : xM) (J2 : xJ), InvC M2 → InvR M2 → RB M2 → RP M2 → RT M2 → RLk M2 → RS M2 → RE J2 → RY M2 J2 → RX M2 → x_X l G fL_law 200 600000 7302250 (qR (some (.int 1))) 1502 [(3, .int (nI (i))), (2, .ref (62)), (1, .ref (0)), (0, .ref (1002))] [] x_SH M2 J2 87 2934) : x_X l G fL_law 200 600000 7302250 (qR (some (.int 1))) 1060 [(3, .int (nI (i))), (2, .ref (62)), (1, .ref (0)), (0, .ref (1002))] [] x_SH M J 87 2934 := by
  refine xr_aload_n dL_law_1060 2 rfl ?_
  obtain ⟨nh, D, t, S, lg, lu, lw, hWG, ⟨hGc, hGr⟩, ⟨hWL, hLc, hLr⟩, hKX⟩ := id hX_
  refine xr_callV (As := []) (rest := []) mlL_130 (gx_X9_image hC hWG hGc) dL_law_1061 s_0 rfl rfl (Nat.le_of_ble_eq_true rfl) (by decide) ⟨by decide, by decide⟩ (fun v s2 M3 J2 hq => ?_)
  obtain ⟨r5, rfl, rfl, rfl, k4, hI1, hx2⟩ := hq
  try dsimp only [Option.toList, List.cons_append, List.nil_append]
  have kk6 : ∀ p k, 62 ≤ p → M3 p k = M p k := (fun p k hp => k4 p k (by unfold WIM; omega))
  refine xr_pop dL_law_1064 rfl ?_
  refine xr_aload_n dL_law_1065 1 rfl ?_
  refine xr_callV (As := []) (rest := []) mlL_133 (gx_X10_image (InvR_ke kk6 hR) hWG (RG_f hWG.1 hGr kk6)) dL_law_1066 s_62 rfl rfl (Nat.le_of_ble_eq_true rfl) (by decide) ⟨by decide, by decide⟩ (fun v s2 M9 J2 hq => ?_)
  obtain ⟨r11, rfl, rfl, rfl, k10, hI7, hx8⟩ := hq
  try dsimp only [Option.toList, List.cons_append, List.nil_append]
  have kk12 : ∀ p k, p < 62 → M9 p k = M3 p k := (fun p k hp => k10 p k (by unfold WRI; omega))
  refine xr_pop dL_law_1069 rfl ?_
  refine xr_goto (tgt := 1502) dL_law_1070 rfl ?_
  refine xb_ls (ls2 := [(3, .int (nI (i))), (2, .ref (62)), (1, .ref (0)), (0, .ref (1002))]) [0, 1, 2, 3] rfl ?_
  exact hN _ _ (InvC_ke kk12 hI1) hI7 (RB_f (fun p k hp => (k10 p k (nx_WRI_CSB hp)).trans (k4 p k (nx_WIM_CSB hp))) hB_) (RP_f (fun p k hp => (k10 p k (nx_WRI_CSP hp)).trans (k4 p k (nx_WIM_CSP hp))) hP_) (RT_f (fun p k hp => (k10 p k (nx_WRI_CST hp)).trans (k4 p k (nx_WIM_CST hp))) hT_) (RL_f (fun p k hp => (k10 p k (nx_WRI_CSL hp)).trans (k4 p k (nx_WIM_CSL hp))) hL_) (RS_f (fun p k hp => (k10 p k (nx_WRI_CSS hp)).trans (k4 p k (nx_WIM_CSS hp))) hS_) (RE_f rfl rfl hE_) (RY_f (fun p k hp => (k10 p k (nx_WRI_CSY hp)).trans (k4 p k (nx_WIM_CSY hp))) hY_) (jX_image hWG (LX_f (fun p k hp => (k10 p k (nx_WRI_CSu hp)).trans (k4 p k (nx_WIM_CSu hp))) ⟨hWL, hLc, hLr⟩) kk12 hx2 hx8).2
set_option maxRecDepth 100000 in
set_option maxHeartbeats 4000000 in
theorem lwx_29 {l : Launch} {G : xG} (hL : G.2.2.2.2.1 ≤ 3072) {M : xM} {J : xJ} {i : Nat} (hi : i + 6 ≤ G.2.2.2.2.1) (hC : InvC M) (hR : InvR M) (hB_ : RB M) (hP_ : RP M) (hT_ : RT M) (hL_ : RLk M) (hS_ : RS M) (hE_ : RE J) (hY_ : RY M J) (hX_ : RX M) (hN : ∀ (M2 : xM) (J2 : xJ), InvC M2 → InvR M2 → RB M2 → RP M2 → RT M2 → RLk M2 → RS M2 → RE J2 → RY M2 J2 → RX M2 → x_X l G fL_law 200 600000 7302250 (qR (some (.int 1))) 1502 [(3, .int (nI (i))), (2, .ref (62)), (1, .ref (0)), (0, .ref (1002))] [] x_SH M2 J2 87 2934) : x_X l G fL_law 200 600000 7302250 (qR (some (.int 1))) 1073 [(3, .int (nI (i))), (2, .ref (62)), (1, .ref (0)), (0, .ref (1002))] [] x_SH M J 87 2934 := by
  refine xr_aload_n dL_law_1073 2 rfl ?_
  obtain ⟨nh, D, t, S, lg, lu, lw, hWG, ⟨hGc, hGr⟩, ⟨hWL, hLc, hLr⟩, hKX⟩ := id hX_
  obtain ⟨n0, D0, U, hKc, hKr, hKw⟩ := KX_o hKX
  refine xr_callV (As := []) (rest := []) mlL_134 (gx_X9_back hC hWG hGc hKc) dL_law_1074 s_0 rfl rfl (Nat.le_of_ble_eq_true rfl) (by decide) ⟨by decide, by decide⟩ (fun v s2 M3 J2 hq => ?_)
  obtain ⟨r5, rfl, rfl, rfl, k4, hI1, hx2⟩ := hq
  try dsimp only [Option.toList, List.cons_append, List.nil_append]
  have kk6 : ∀ p k, 62 ≤ p → M3 p k = M p k := (fun p k hp => k4 p k (by unfold W13b; omega))
  refine xr_pop dL_law_1077 rfl ?_
  refine xr_aload_n dL_law_1078 1 rfl ?_
  refine xr_callV (As := []) (rest := []) mlL_137 (gx_X10_back (InvR_ke kk6 hR) hWG (RG_f hWG.1 hGr kk6) (hKr _ kk6)) dL_law_1079 s_62 rfl rfl (Nat.le_of_ble_eq_true rfl) (by decide) ⟨by decide, by decide⟩ (fun v s2 M9 J2 hq => ?_)
  obtain ⟨r11, rfl, rfl, rfl, k10, hI7, hx8⟩ := hq
  try dsimp only [Option.toList, List.cons_append, List.nil_append]
  have kk12 : ∀ p k, p < 62 → M9 p k = M3 p k := (fun p k hp => k10 p k (by unfold WRBK; omega))
  refine xr_pop dL_law_1082 rfl ?_
  refine xr_goto (tgt := 1502) dL_law_1083 rfl ?_
  refine xb_ls (ls2 := [(3, .int (nI (i))), (2, .ref (62)), (1, .ref (0)), (0, .ref (1002))]) [0, 1, 2, 3] rfl ?_
  exact hN _ _ (InvC_ke kk12 hI1) hI7 (RB_f (fun p k hp => (k10 p k (nx_WRBK_CSB hp)).trans (k4 p k (nx_W13b_CSB hp))) hB_) (RP_f (fun p k hp => (k10 p k (nx_WRBK_CSP hp)).trans (k4 p k (nx_W13b_CSP hp))) hP_) (RT_f (fun p k hp => (k10 p k (nx_WRBK_CST hp)).trans (k4 p k (nx_W13b_CST hp))) hT_) (RL_f (fun p k hp => (k10 p k (nx_WRBK_CSL hp)).trans (k4 p k (nx_W13b_CSL hp))) hL_) (RS_f (fun p k hp => (k10 p k (nx_WRBK_CSS hp)).trans (k4 p k (nx_W13b_CSS hp))) hS_) (RE_f rfl rfl hE_) (RY_f (fun p k hp => (k10 p k (nx_WRBK_CSY hp)).trans (k4 p k (nx_W13b_CSY hp))) hY_) (jX_back hWG (LX_f (fun p k hp => (k10 p k (nx_WRBK_CSu hp)).trans (k4 p k (nx_W13b_CSu hp))) ⟨hWL, hLc, hLr⟩) (KX_f (fun p k hp => (k10 p k (nx_WRBK_CSk hp)).trans (k4 p k (nx_W13b_CSk hp))) (Nat.le_refl _) hWG.1 hKX) kk12 (hKX.1.trans (kk6 62 33 (by decide)).symm) hKw hx2 hx8).2
set_option maxRecDepth 100000 in
set_option maxHeartbeats 4000000 in
theorem lwx_30 {l : Launch} {G : xG} (hL : G.2.2.2.2.1 ≤ 3072) {M : xM} {J : xJ} {i : Nat} (hi : i + 6 ≤ G.2.2.2.2.1) (hC : InvC M) (hR : InvR M) (hB_ : RB M) (hP_ : RP M) (hT_ : RT M) (hL_ : RLk M) (hS_ : RS M) (hE_ : RE J) (hY_ : RY M J) (hX_ : RX M) (hN : ∀ (M2 : xM) (J2 : xJ), InvC M2 → InvR M2 → RB M2 → RP M2 → RT M2 → RLk M2 → RS M2 → RE J2 → RY M2 J2 → RX M2 → x_X l G fL_law 200 600000 7302250 (qR (some (.int 1))) 1502 [(3, .int (nI (i))), (2, .ref (62)), (1, .ref (0)), (0, .ref (1002))] [] x_SH M2 J2 87 2934) : x_X l G fL_law 200 600000 7302250 (qR (some (.int 1))) 1086 [(3, .int (nI (i))), (2, .ref (62)), (1, .ref (0)), (0, .ref (1002))] [] x_SH M J 87 2934 := by
  refine xr_aload_n dL_law_1086 2 rfl ?_
  obtain ⟨nh, D, t, S, lg, lu, lw, hWG, ⟨hGc, hGr⟩, ⟨hWL, hLc, hLr⟩, hKX⟩ := id hX_
  refine xr_callV (As := []) (rest := []) mlL_138 (gx_X9_undo hC hWG hGc hWL hLc) dL_law_1087 s_0 rfl rfl (Nat.le_of_ble_eq_true rfl) (by decide) ⟨by decide, by decide⟩ (fun v s2 M3 J2 hq => ?_)
  obtain ⟨r5, rfl, rfl, rfl, k4, hI1, hx2⟩ := hq
  try dsimp only [Option.toList, List.cons_append, List.nil_append]
  have kk6 : ∀ p k, 62 ≤ p → M3 p k = M p k := (fun p k hp => k4 p k (by unfold WUN; omega))
  refine xr_pop dL_law_1090 rfl ?_
  refine xr_aload_n dL_law_1091 1 rfl ?_
  refine xr_callV (As := []) (rest := []) mlL_141 (gx_X10_undo (InvR_ke kk6 hR) hWG (RG_f hWG.1 hGr kk6) hWL (RLg_f hLr kk6)) dL_law_1092 s_62 rfl rfl (Nat.le_of_ble_eq_true rfl) (by decide) ⟨by decide, by decide⟩ (fun v s2 M9 J2 hq => ?_)
  obtain ⟨r11, rfl, rfl, rfl, k10, hI7, hx8⟩ := hq
  try dsimp only [Option.toList, List.cons_append, List.nil_append]
  have kk12 : ∀ p k, p < 62 → M9 p k = M3 p k := (fun p k hp => k10 p k (by unfold WUD; omega))
  refine xr_pop dL_law_1095 rfl ?_
  refine xr_goto (tgt := 1502) dL_law_1096 rfl ?_
  refine xb_ls (ls2 := [(3, .int (nI (i))), (2, .ref (62)), (1, .ref (0)), (0, .ref (1002))]) [0, 1, 2, 3] rfl ?_
  exact hN _ _ (InvC_ke kk12 hI1) hI7 (RB_f (fun p k hp => (k10 p k (nx_WUD_CSB hp)).trans (k4 p k (nx_WUN_CSB hp))) hB_) (RP_f (fun p k hp => (k10 p k (nx_WUD_CSP hp)).trans (k4 p k (nx_WUN_CSP hp))) hP_) (RT_f (fun p k hp => (k10 p k (nx_WUD_CST hp)).trans (k4 p k (nx_WUN_CST hp))) hT_) (RL_f (fun p k hp => (k10 p k (nx_WUD_CSL hp)).trans (k4 p k (nx_WUN_CSL hp))) hL_) (RS_f (fun p k hp => (k10 p k (nx_WUD_CSS hp)).trans (k4 p k (nx_WUN_CSS hp))) hS_) (RE_f rfl rfl hE_) (RY_f (fun p k hp => (k10 p k (nx_WUD_CSY hp)).trans (k4 p k (nx_WUN_CSY hp))) hY_) (jX_undo hWG hWL (KX_f (fun p k hp => (k10 p k (nx_WUD_CSk hp)).trans (k4 p k (nx_WUN_CSk hp))) (Nat.le_refl _) hWG.1 hKX) kk12 hx2 hx8).2
set_option maxRecDepth 100000 in
set_option maxHeartbeats 4000000 in
theorem lwx_31 {l : Launch} {G : xG} (hL : G.2.2.2.2.1 ≤ 3072) {M : xM} {J : xJ} {i : Nat} (hi : i + 6 ≤ G.2.2.2.2.1) (hC : InvC M) (hR : InvR M) (hB_ : RB M) (hP_ : RP M) (hT_ : RT M) (hL_ : RLk M) (hS_ : RS M) (hE_ : RE J) (hY_ : RY M J) (hX_ : RX M) (hN : ∀ (M2 : xM) (J2 : xJ), InvC M2 → InvR M2 → RB M2 → RP M2 → RT M2 → RLk M2 → RS M2 → RE J2 → RY M2 J2 → RX M2 → x_X l G fL_law 200 600000 7302250 (qR (some (.int 1))) 1502 [(3, .int (nI (i))), (2, .ref (62)), (1, .ref (0)), (0, .ref (1002))] [] x_SH M2 J2 87 2934) : x_X l G fL_law 200 600000 7302250 (qR (some (.int 1))) 1099 [(3, .int (nI (i))), (2, .ref (62)), (1, .ref (0)), (0, .ref (1002))] [] x_SH M J 87 2934 := by
  refine xr_aload_n dL_law_1099 2 rfl ?_
  obtain ⟨nh, D, t, S, lg, lu, lw, hWG, ⟨hGc, hGr⟩, ⟨hWL, hLc, hLr⟩, hKX⟩ := id hX_
  refine xr_callV (As := []) (rest := []) mlL_142 (gx_X9_redo hC hWG hGc hWL hLc) dL_law_1100 s_0 rfl rfl (Nat.le_of_ble_eq_true rfl) (by decide) ⟨by decide, by decide⟩ (fun v s2 M3 J2 hq => ?_)
  obtain ⟨r5, rfl, rfl, rfl, k4, hI1, hx2⟩ := hq
  try dsimp only [Option.toList, List.cons_append, List.nil_append]
  have kk6 : ∀ p k, 62 ≤ p → M3 p k = M p k := (fun p k hp => k4 p k (by unfold WUN; omega))
  refine xr_pop dL_law_1103 rfl ?_
  refine xr_aload_n dL_law_1104 1 rfl ?_
  refine xr_callV (As := []) (rest := []) mlL_145 (gx_X10_redo (InvR_ke kk6 hR) hWG (RG_f hWG.1 hGr kk6) hWL (RLg_f hLr kk6)) dL_law_1105 s_62 rfl rfl (Nat.le_of_ble_eq_true rfl) (by decide) ⟨by decide, by decide⟩ (fun v s2 M9 J2 hq => ?_)
  obtain ⟨r11, rfl, rfl, rfl, k10, hI7, hx8⟩ := hq
  try dsimp only [Option.toList, List.cons_append, List.nil_append]
  have kk12 : ∀ p k, p < 62 → M9 p k = M3 p k := (fun p k hp => k10 p k (by unfold WUD; omega))
  refine xr_pop dL_law_1108 rfl ?_
  refine xr_goto (tgt := 1502) dL_law_1109 rfl ?_
  refine xb_ls (ls2 := [(3, .int (nI (i))), (2, .ref (62)), (1, .ref (0)), (0, .ref (1002))]) [0, 1, 2, 3] rfl ?_
  exact hN _ _ (InvC_ke kk12 hI1) hI7 (RB_f (fun p k hp => (k10 p k (nx_WUD_CSB hp)).trans (k4 p k (nx_WUN_CSB hp))) hB_) (RP_f (fun p k hp => (k10 p k (nx_WUD_CSP hp)).trans (k4 p k (nx_WUN_CSP hp))) hP_) (RT_f (fun p k hp => (k10 p k (nx_WUD_CST hp)).trans (k4 p k (nx_WUN_CST hp))) hT_) (RL_f (fun p k hp => (k10 p k (nx_WUD_CSL hp)).trans (k4 p k (nx_WUN_CSL hp))) hL_) (RS_f (fun p k hp => (k10 p k (nx_WUD_CSS hp)).trans (k4 p k (nx_WUN_CSS hp))) hS_) (RE_f rfl rfl hE_) (RY_f (fun p k hp => (k10 p k (nx_WUD_CSY hp)).trans (k4 p k (nx_WUN_CSY hp))) hY_) (jX_redo hWG hWL (KX_f (fun p k hp => (k10 p k (nx_WUD_CSk hp)).trans (k4 p k (nx_WUN_CSk hp))) (Nat.le_refl _) hWG.1 hKX) kk12 hx2 hx8).2
set_option maxRecDepth 100000 in
set_option maxHeartbeats 4000000 in
theorem lwx_32 {l : Launch} {G : xG} (hL : G.2.2.2.2.1 ≤ 3072) {M : xM} {J : xJ} {i : Nat} (hi : i + 6 ≤ G.2.2.2.2.1) (hC : InvC M) (hR : InvR M) (hB_ : RB M) (hP_ : RP M) (hT_ : RT M) (hL_ : RLk M) (hS_ : RS M) (hE_ : RE J) (hY_ : RY M J) (hX_ : RX M) (hN : ∀ (M2 : xM) (J2 : xJ), InvC M2 → InvR M2 → RB M2 → RP M2 → RT M2 → RLk M2 → RS M2 → RE J2 → RY M2 J2 → RX M2 → x_X l G fL_law 200 600000 7302250 (qR (some (.int 1))) 1502 [(3, .int (nI (i))), (2, .ref (62)), (1, .ref (0)), (0, .ref (1002))] [] x_SH M2 J2 87 2934) : x_X l G fL_law 200 600000 7302250 (qR (some (.int 1))) 1112 [(3, .int (nI (i))), (2, .ref (62)), (1, .ref (0)), (0, .ref (1002))] [] x_SH M J 87 2934 := by
  refine xr_aload_n dL_law_1112 2 rfl ?_
  refine xr_aload_n dL_law_1113 3 rfl ?_
  refine xr_iload_n dL_law_1114 0 rfl ?_
  refine xr_iconst (v := 1) dL_law_1115 rfl ?_
  refine xr_iadd dL_law_1116 ?_
  refine xb_top (y := nI (i + 1)) (nI_add (i) (1)) ?_
  refine xr_sld rfl (vp_in_nI (show i + 1 < G.2.2.2.2.1 by omega) (by omega)) dL_law_1117 ?_
  refine xb_top (y := (G.2.2.2.2.2 (i + 1))) (by rw [nI_clamp (by omega)]) ?_
  refine xr_callV (As := [.int ((G.2.2.2.2.2 (i + 1)))]) (rest := []) mlL_146 (gs_X9_body (G.2.2.2.2.2 (i + 1)) hC) dL_law_1118 s_0 rfl rfl (Nat.le_of_ble_eq_true rfl) (by decide) ⟨by decide, by decide⟩ (fun v s2 M3 J2 hq => ?_)
  obtain ⟨r5, rfl, rfl, rfl, k4, hI1, hx2⟩ := hq
  try dsimp only [Option.toList, List.cons_append, List.nil_append]
  have kk6 : ∀ p k, 62 ≤ p → M3 p k = M p k := (fun p k hp => k4 p k (by unfold WBD; omega))
  refine xr_pop dL_law_1121 rfl ?_
  refine xr_aload_n dL_law_1122 1 rfl ?_
  refine xr_aload_n dL_law_1123 3 rfl ?_
  refine xr_iload_n dL_law_1124 0 rfl ?_
  refine xr_iconst (v := 1) dL_law_1125 rfl ?_
  refine xr_iadd dL_law_1126 ?_
  refine xb_top (y := nI (i + 1)) (nI_add (i) (1)) ?_
  refine xr_sld rfl (vp_in_nI (show i + 1 < G.2.2.2.2.1 by omega) (by omega)) dL_law_1127 ?_
  refine xb_top (y := (G.2.2.2.2.2 (i + 1))) (by rw [nI_clamp (by omega)]) ?_
  refine xr_callV (As := [.int ((G.2.2.2.2.2 (i + 1)))]) (rest := []) mlL_149 (gs_X10_body (G.2.2.2.2.2 (i + 1)) (InvR_ke kk6 hR)) dL_law_1128 s_62 rfl rfl (Nat.le_of_ble_eq_true rfl) (by decide) ⟨by decide, by decide⟩ (fun v s2 M9 J2 hq => ?_)
  obtain ⟨r11, rfl, rfl, rfl, k10, hI7, hx8⟩ := hq
  try dsimp only [Option.toList, List.cons_append, List.nil_append]
  have kk12 : ∀ p k, p < 62 → M9 p k = M3 p k := (fun p k hp => k10 p k (by unfold WRY; omega))
  refine xr_pop dL_law_1131 rfl ?_
  refine xr_goto (tgt := 1502) dL_law_1132 rfl ?_
  refine xb_ls (ls2 := [(3, .int (nI (i))), (2, .ref (62)), (1, .ref (0)), (0, .ref (1002))]) [0, 1, 2, 3] rfl ?_
  exact hN _ _ (InvC_ke kk12 hI1) hI7 (jB_body hx2 hx8 kk6 kk12 hB_).2 (RP_f (fun p k hp => (k10 p k (nx_WRY_CSP hp)).trans (k4 p k (nx_WBD_CSP hp))) hP_) (RT_f (fun p k hp => (k10 p k (nx_WRY_CST hp)).trans (k4 p k (nx_WBD_CST hp))) hT_) (RL_f (fun p k hp => (k10 p k (nx_WRY_CSL hp)).trans (k4 p k (nx_WBD_CSL hp))) hL_) (jS_body (r2 := 0) hx2 k4 k10 kk6 kk12 hS_) (RE_f rfl rfl hE_) (RY_f (fun p k hp => (k10 p k (nx_WRY_CSY hp)).trans (k4 p k (nx_WBD_CSY hp))) hY_) (RX_f (fun p k hp => (k10 p k (nx_WRY_CSX hp)).trans (k4 p k (nx_WBD_CSX hp))) hX_)
set_option maxRecDepth 100000 in
set_option maxHeartbeats 4000000 in
theorem lwx_33 {l : Launch} {G : xG} (hL : G.2.2.2.2.1 ≤ 3072) {M : xM} {J : xJ} {i : Nat} (hi : i + 6 ≤ G.2.2.2.2.1) (hC : InvC M) (hR : InvR M) (hB_ : RB M) (hP_ : RP M) (hT_ : RT M) (hL_ : RLk M) (hS_ : RS M) (hE_ : RE J) (hY_ : RY M J) (hX_ : RX M) (hN : ∀ (M2 : xM) (J2 : xJ), InvC M2 → InvR M2 → RB M2 → RP M2 → RT M2 → RLk M2 → RS M2 → RE J2 → RY M2 J2 → RX M2 → x_X l G fL_law 200 600000 7302250 (qR (some (.int 1))) 1502 [(3, .int (nI (i))), (2, .ref (62)), (1, .ref (0)), (0, .ref (1002))] [] x_SH M2 J2 87 2934) : x_X l G fL_law 200 600000 7302250 (qR (some (.int 1))) 1135 [(3, .int (nI (i))), (2, .ref (62)), (1, .ref (0)), (0, .ref (1002))] [] x_SH M J 87 2934 := by
  refine xr_aload_n dL_law_1135 2 rfl ?_
  refine xr_aload_n dL_law_1136 3 rfl ?_
  refine xr_iload_n dL_law_1137 0 rfl ?_
  refine xr_iconst (v := 1) dL_law_1138 rfl ?_
  refine xr_iadd dL_law_1139 ?_
  refine xb_top (y := nI (i + 1)) (nI_add (i) (1)) ?_
  refine xr_sld rfl (vp_in_nI (show i + 1 < G.2.2.2.2.1 by omega) (by omega)) dL_law_1140 ?_
  refine xb_top (y := (G.2.2.2.2.2 (i + 1))) (by rw [nI_clamp (by omega)]) ?_
  refine xr_aload_n dL_law_1141 3 rfl ?_
  refine xr_iload_n dL_law_1142 0 rfl ?_
  refine xr_iconst (v := 2) dL_law_1143 rfl ?_
  refine xr_iadd dL_law_1144 ?_
  refine xb_top (y := nI (i + 2)) (nI_add (i) (2)) ?_
  refine xr_sld rfl (vp_in_nI (show i + 2 < G.2.2.2.2.1 by omega) (by omega)) dL_law_1145 ?_
  refine xb_top (y := (G.2.2.2.2.2 (i + 2))) (by rw [nI_clamp (by omega)]) ?_
  refine xr_aload_n dL_law_1146 3 rfl ?_
  refine xr_iload_n dL_law_1147 0 rfl ?_
  refine xr_iconst (v := 3) dL_law_1148 rfl ?_
  refine xr_iadd dL_law_1149 ?_
  refine xb_top (y := nI (i + 3)) (nI_add (i) (3)) ?_
  refine xr_sld rfl (vp_in_nI (show i + 3 < G.2.2.2.2.1 by omega) (by omega)) dL_law_1150 ?_
  refine xb_top (y := (G.2.2.2.2.2 (i + 3))) (by rw [nI_clamp (by omega)]) ?_
  refine xr_callV (As := [.int ((G.2.2.2.2.2 (i + 1))), .int ((G.2.2.2.2.2 (i + 2))), .int ((G.2.2.2.2.2 (i + 3)))]) (rest := []) mlL_150 (gs_X9_act (G.2.2.2.2.2 (i + 1)) (G.2.2.2.2.2 (i + 2)) (G.2.2.2.2.2 (i + 3)) hC) dL_law_1151 s_0 rfl rfl (Nat.le_of_ble_eq_true rfl) (by decide) ⟨by decide, by decide⟩ (fun v s2 M3 J2 hq => ?_)
  obtain ⟨r5, rfl, rfl, rfl, k4, hI1, hx2⟩ := hq
  try dsimp only [Option.toList, List.cons_append, List.nil_append]
  have kk6 : ∀ p k, 62 ≤ p → M3 p k = M p k := (fun p k hp => k4 p k (by unfold WTR; omega))
  refine xr_pop dL_law_1154 rfl ?_
  refine xr_aload_n dL_law_1155 1 rfl ?_
  refine xr_aload_n dL_law_1156 3 rfl ?_
  refine xr_iload_n dL_law_1157 0 rfl ?_
  refine xr_iconst (v := 1) dL_law_1158 rfl ?_
  refine xr_iadd dL_law_1159 ?_
  refine xb_top (y := nI (i + 1)) (nI_add (i) (1)) ?_
  refine xr_sld rfl (vp_in_nI (show i + 1 < G.2.2.2.2.1 by omega) (by omega)) dL_law_1160 ?_
  refine xb_top (y := (G.2.2.2.2.2 (i + 1))) (by rw [nI_clamp (by omega)]) ?_
  refine xr_aload_n dL_law_1161 3 rfl ?_
  refine xr_iload_n dL_law_1162 0 rfl ?_
  refine xr_iconst (v := 2) dL_law_1163 rfl ?_
  refine xr_iadd dL_law_1164 ?_
  refine xb_top (y := nI (i + 2)) (nI_add (i) (2)) ?_
  refine xr_sld rfl (vp_in_nI (show i + 2 < G.2.2.2.2.1 by omega) (by omega)) dL_law_1165 ?_
  refine xb_top (y := (G.2.2.2.2.2 (i + 2))) (by rw [nI_clamp (by omega)]) ?_
  refine xr_aload_n dL_law_1166 3 rfl ?_
  refine xr_iload_n dL_law_1167 0 rfl ?_
  refine xr_iconst (v := 3) dL_law_1168 rfl ?_
  refine xr_iadd dL_law_1169 ?_
  refine xb_top (y := nI (i + 3)) (nI_add (i) (3)) ?_
  refine xr_sld rfl (vp_in_nI (show i + 3 < G.2.2.2.2.1 by omega) (by omega)) dL_law_1170 ?_
  refine xb_top (y := (G.2.2.2.2.2 (i + 3))) (by rw [nI_clamp (by omega)]) ?_
  refine xr_callV (As := [.int ((G.2.2.2.2.2 (i + 1))), .int ((G.2.2.2.2.2 (i + 2))), .int ((G.2.2.2.2.2 (i + 3)))]) (rest := []) mlL_153 (gs_X10_act (G.2.2.2.2.2 (i + 1)) (G.2.2.2.2.2 (i + 2)) (G.2.2.2.2.2 (i + 3)) (InvR_ke kk6 hR)) dL_law_1171 s_62 rfl rfl (Nat.le_of_ble_eq_true rfl) (by decide) ⟨by decide, by decide⟩ (fun v s2 M9 J2 hq => ?_)
  obtain ⟨r11, rfl, rfl, rfl, k10, hI7, hx8⟩ := hq
  try dsimp only [Option.toList, List.cons_append, List.nil_append]
  have kk12 : ∀ p k, p < 62 → M9 p k = M3 p k := (fun p k hp => k10 p k (by unfold WRC; omega))
  refine xr_pop dL_law_1174 rfl ?_
  refine xr_goto (tgt := 1502) dL_law_1175 rfl ?_
  refine xb_ls (ls2 := [(3, .int (nI (i))), (2, .ref (62)), (1, .ref (0)), (0, .ref (1002))]) [0, 1, 2, 3] rfl ?_
  exact hN _ _ (InvC_ke kk12 hI1) hI7 (RB_f (fun p k hp => (k10 p k (nx_WRC_CSB hp)).trans (k4 p k (nx_WTR_CSB hp))) hB_) (RP_f (fun p k hp => (k10 p k (nx_WRC_CSP hp)).trans (k4 p k (nx_WTR_CSP hp))) hP_) (RT_f (fun p k hp => (k10 p k (nx_WRC_CST hp)).trans (k4 p k (nx_WTR_CST hp))) hT_) (RL_f (fun p k hp => (k10 p k (nx_WRC_CSL hp)).trans (k4 p k (nx_WTR_CSL hp))) hL_) (RS_f (fun p k hp => (k10 p k (nx_WRC_CSS hp)).trans (k4 p k (nx_WTR_CSS hp))) hS_) (RE_f rfl rfl hE_) (RY_f (fun p k hp => (k10 p k (nx_WRC_CSY hp)).trans (k4 p k (nx_WTR_CSY hp))) hY_) (RX_f (fun p k hp => (k10 p k (nx_WRC_CSX hp)).trans (k4 p k (nx_WTR_CSX hp))) hX_)
set_option maxRecDepth 100000 in
set_option maxHeartbeats 4000000 in
theorem lwx_34 {l : Launch} {G : xG} (hL : G.2.2.2.2.1 ≤ 3072) {M : xM} {J : xJ} {i : Nat} (hi : i + 6 ≤ G.2.2.2.2.1) (hC : InvC M) (hR : InvR M) (hB_ : RB M) (hP_ : RP M) (hT_ : RT M) (hL_ : RLk M) (hS_ : RS M) (hE_ : RE J) (hY_ : RY M J) (hX_ : RX M) (hN : ∀ (M2 : xM) (J2 : xJ), InvC M2 → InvR M2 → RB M2 → RP M2 → RT M2 → RLk M2 → RS M2 → RE J2 → RY M2 J2 → RX M2 → x_X l G fL_law 200 600000 7302250 (qR (some (.int 1))) 1502 [(3, .int (nI (i))), (2, .ref (62)), (1, .ref (0)), (0, .ref (1002))] [] x_SH M2 J2 87 2934) : x_X l G fL_law 200 600000 7302250 (qR (some (.int 1))) 1178 [(3, .int (nI (i))), (2, .ref (62)), (1, .ref (0)), (0, .ref (1002))] [] x_SH M J 87 2934 := by
  refine xr_aload_n dL_law_1178 2 rfl ?_
  refine xr_aload_n dL_law_1179 3 rfl ?_
  refine xr_iload_n dL_law_1180 0 rfl ?_
  refine xr_iconst (v := 1) dL_law_1181 rfl ?_
  refine xr_iadd dL_law_1182 ?_
  refine xb_top (y := nI (i + 1)) (nI_add (i) (1)) ?_
  refine xr_sld rfl (vp_in_nI (show i + 1 < G.2.2.2.2.1 by omega) (by omega)) dL_law_1183 ?_
  refine xb_top (y := (G.2.2.2.2.2 (i + 1))) (by rw [nI_clamp (by omega)]) ?_
  refine xr_callV (As := [.int ((G.2.2.2.2.2 (i + 1)))]) (rest := []) mlL_154 (g_X9_trace (G.2.2.2.2.2 (i + 1)) hC) dL_law_1184 s_0 rfl rfl (Nat.le_of_ble_eq_true rfl) (by decide) ⟨by decide, by decide⟩ (fun v s2 M9 J2 hq => ?_)
  obtain ⟨r3, rfl, rfl, rfl, rfl, hx2⟩ := hq
  try dsimp only [Option.toList, List.cons_append, List.nil_append]
  refine xr_pop dL_law_1187 rfl ?_
  refine xr_aload_n dL_law_1188 1 rfl ?_
  refine xr_aload_n dL_law_1189 3 rfl ?_
  refine xr_iload_n dL_law_1190 0 rfl ?_
  refine xr_iconst (v := 1) dL_law_1191 rfl ?_
  refine xr_iadd dL_law_1192 ?_
  refine xb_top (y := nI (i + 1)) (nI_add (i) (1)) ?_
  refine xr_sld rfl (vp_in_nI (show i + 1 < G.2.2.2.2.1 by omega) (by omega)) dL_law_1193 ?_
  refine xb_top (y := (G.2.2.2.2.2 (i + 1))) (by rw [nI_clamp (by omega)]) ?_
  refine xr_callV (As := [.int ((G.2.2.2.2.2 (i + 1)))]) (rest := []) mlL_157 (g_X10_trace (G.2.2.2.2.2 (i + 1)) hR) dL_law_1194 s_62 rfl rfl (Nat.le_of_ble_eq_true rfl) (by decide) ⟨by decide, by decide⟩ (fun v s2 M9 J2 hq => ?_)
  obtain ⟨r6, rfl, rfl, rfl, rfl, hx5⟩ := hq
  try dsimp only [Option.toList, List.cons_append, List.nil_append]
  refine xr_pop dL_law_1197 rfl ?_
  refine xr_goto (tgt := 1502) dL_law_1198 rfl ?_
  refine xb_ls (ls2 := [(3, .int (nI (i))), (2, .ref (62)), (1, .ref (0)), (0, .ref (1002))]) [0, 1, 2, 3] rfl ?_
  exact hN _ _ hC hR hB_ hP_ hT_ hL_ hS_ (RE_f rfl rfl hE_) hY_ hX_
set_option maxRecDepth 100000 in
set_option maxHeartbeats 4000000 in
theorem lwx_35 {l : Launch} {G : xG} (hL : G.2.2.2.2.1 ≤ 3072) {M : xM} {J : xJ} {i : Nat} (hi : i + 6 ≤ G.2.2.2.2.1) (hC : InvC M) (hR : InvR M) (hB_ : RB M) (hP_ : RP M) (hT_ : RT M) (hL_ : RLk M) (hS_ : RS M) (hE_ : RE J) (hY_ : RY M J) (hX_ : RX M) (hN : ∀ (M2 : xM) (J2 : xJ), InvC M2 → InvR M2 → RB M2 → RP M2 → RT M2 → RLk M2 → RS M2 → RE J2 → RY M2 J2 → RX M2 → x_X l G fL_law 200 600000 7302250 (qR (some (.int 1))) 1502 [(3, .int (nI (i))), (2, .ref (62)), (1, .ref (0)), (0, .ref (1002))] [] x_SH M2 J2 87 2934) : x_X l G fL_law 200 600000 7302250 (qR (some (.int 1))) 1201 [(3, .int (nI (i))), (2, .ref (62)), (1, .ref (0)), (0, .ref (1002))] [] x_SH M J 87 2934 := by
  refine xr_aload_n dL_law_1201 2 rfl ?_
  refine xr_aload_n dL_law_1202 3 rfl ?_
  refine xr_iload_n dL_law_1203 0 rfl ?_
  refine xr_iconst (v := 1) dL_law_1204 rfl ?_
  refine xr_iadd dL_law_1205 ?_
  refine xb_top (y := nI (i + 1)) (nI_add (i) (1)) ?_
  refine xr_sld rfl (vp_in_nI (show i + 1 < G.2.2.2.2.1 by omega) (by omega)) dL_law_1206 ?_
  refine xb_top (y := (G.2.2.2.2.2 (i + 1))) (by rw [nI_clamp (by omega)]) ?_
  refine xr_aload_n dL_law_1207 3 rfl ?_
  refine xr_iload_n dL_law_1208 0 rfl ?_
  refine xr_iconst (v := 2) dL_law_1209 rfl ?_
  refine xr_iadd dL_law_1210 ?_
  refine xb_top (y := nI (i + 2)) (nI_add (i) (2)) ?_
  refine xr_sld rfl (vp_in_nI (show i + 2 < G.2.2.2.2.1 by omega) (by omega)) dL_law_1211 ?_
  refine xb_top (y := (G.2.2.2.2.2 (i + 2))) (by rw [nI_clamp (by omega)]) ?_
  refine xr_callV (As := [.int ((G.2.2.2.2.2 (i + 1))), .int ((G.2.2.2.2.2 (i + 2)))]) (rest := []) mlL_158 (gs_X9_keep (G.2.2.2.2.2 (i + 1)) (G.2.2.2.2.2 (i + 2)) hC) dL_law_1212 s_0 rfl rfl (Nat.le_of_ble_eq_true rfl) (by decide) ⟨by decide, by decide⟩ (fun v s2 M3 J2 hq => ?_)
  obtain ⟨r5, rfl, rfl, rfl, k4, hI1, hx2⟩ := hq
  try dsimp only [Option.toList, List.cons_append, List.nil_append]
  have kk6 : ∀ p k, 62 ≤ p → M3 p k = M p k := (fun p k hp => k4 p k (by unfold WKP; omega))
  refine xr_pop dL_law_1215 rfl ?_
  refine xr_aload_n dL_law_1216 1 rfl ?_
  refine xr_aload_n dL_law_1217 3 rfl ?_
  refine xr_iload_n dL_law_1218 0 rfl ?_
  refine xr_iconst (v := 1) dL_law_1219 rfl ?_
  refine xr_iadd dL_law_1220 ?_
  refine xb_top (y := nI (i + 1)) (nI_add (i) (1)) ?_
  refine xr_sld rfl (vp_in_nI (show i + 1 < G.2.2.2.2.1 by omega) (by omega)) dL_law_1221 ?_
  refine xb_top (y := (G.2.2.2.2.2 (i + 1))) (by rw [nI_clamp (by omega)]) ?_
  refine xr_aload_n dL_law_1222 3 rfl ?_
  refine xr_iload_n dL_law_1223 0 rfl ?_
  refine xr_iconst (v := 2) dL_law_1224 rfl ?_
  refine xr_iadd dL_law_1225 ?_
  refine xb_top (y := nI (i + 2)) (nI_add (i) (2)) ?_
  refine xr_sld rfl (vp_in_nI (show i + 2 < G.2.2.2.2.1 by omega) (by omega)) dL_law_1226 ?_
  refine xb_top (y := (G.2.2.2.2.2 (i + 2))) (by rw [nI_clamp (by omega)]) ?_
  refine xr_callV (As := [.int ((G.2.2.2.2.2 (i + 1))), .int ((G.2.2.2.2.2 (i + 2)))]) (rest := []) mlL_161 (gs_X10_keep (G.2.2.2.2.2 (i + 1)) (G.2.2.2.2.2 (i + 2)) (InvR_ke kk6 hR)) dL_law_1227 s_62 rfl rfl (Nat.le_of_ble_eq_true rfl) (by decide) ⟨by decide, by decide⟩ (fun v s2 M9 J2 hq => ?_)
  obtain ⟨r11, rfl, rfl, rfl, k10, hI7, hx8⟩ := hq
  try dsimp only [Option.toList, List.cons_append, List.nil_append]
  have kk12 : ∀ p k, p < 62 → M9 p k = M3 p k := (fun p k hp => k10 p k (by unfold WRH; omega))
  refine xr_pop dL_law_1230 rfl ?_
  refine xr_goto (tgt := 1502) dL_law_1231 rfl ?_
  refine xb_ls (ls2 := [(3, .int (nI (i))), (2, .ref (62)), (1, .ref (0)), (0, .ref (1002))]) [0, 1, 2, 3] rfl ?_
  exact hN _ _ (InvC_ke kk12 hI1) hI7 (RB_f (fun p k hp => (k10 p k (nx_WRH_CSB hp)).trans (k4 p k (nx_WKP_CSB hp))) hB_) (RP_f (fun p k hp => (k10 p k (nx_WRH_CSP hp)).trans (k4 p k (nx_WKP_CSP hp))) hP_) (RT_f (fun p k hp => (k10 p k (nx_WRH_CST hp)).trans (k4 p k (nx_WKP_CST hp))) hT_) (RL_f (fun p k hp => (k10 p k (nx_WRH_CSL hp)).trans (k4 p k (nx_WKP_CSL hp))) hL_) (jS_keep hx2 hx8 kk6 kk12 hC hB_ hS_) (RE_f rfl rfl hE_) (jY_keep hx2 hx8 kk6 kk12 hC hB_ hY_) (RX_f (fun p k hp => (k10 p k (nx_WRH_CSX hp)).trans (k4 p k (nx_WKP_CSX hp))) hX_)
set_option maxRecDepth 100000 in
set_option maxHeartbeats 4000000 in
theorem lwx_36 {l : Launch} {G : xG} (hL : G.2.2.2.2.1 ≤ 3072) {M : xM} {J : xJ} {i : Nat} (hi : i + 6 ≤ G.2.2.2.2.1) (hC : InvC M) (hR : InvR M) (hB_ : RB M) (hP_ : RP M) (hT_ : RT M) (hL_ : RLk M) (hS_ : RS M) (hE_ : RE J) (hY_ : RY M J) (hX_ : RX M) (hN : ∀ (M2 : xM) (J2 : xJ), InvC M2 → InvR M2 → RB M2 → RP M2 → RT M2 → RLk M2 → RS M2 → RE J2 → RY M2 J2 → RX M2 → x_X l G fL_law 200 600000 7302250 (qR (some (.int 1))) 1502 [(3, .int (nI (i))), (2, .ref (62)), (1, .ref (0)), (0, .ref (1002))] [] x_SH M2 J2 87 2934) : x_X l G fL_law 200 600000 7302250 (qR (some (.int 1))) 1234 [(3, .int (nI (i))), (2, .ref (62)), (1, .ref (0)), (0, .ref (1002))] [] x_SH M J 87 2934 := by
  refine xr_aload_n dL_law_1234 2 rfl ?_
  refine xr_aload_n dL_law_1235 3 rfl ?_
  refine xr_iload_n dL_law_1236 0 rfl ?_
  refine xr_iconst (v := 1) dL_law_1237 rfl ?_
  refine xr_iadd dL_law_1238 ?_
  refine xb_top (y := nI (i + 1)) (nI_add (i) (1)) ?_
  refine xr_sld rfl (vp_in_nI (show i + 1 < G.2.2.2.2.1 by omega) (by omega)) dL_law_1239 ?_
  refine xb_top (y := (G.2.2.2.2.2 (i + 1))) (by rw [nI_clamp (by omega)]) ?_
  refine xr_aload_n dL_law_1240 3 rfl ?_
  refine xr_iload_n dL_law_1241 0 rfl ?_
  refine xr_iconst (v := 2) dL_law_1242 rfl ?_
  refine xr_iadd dL_law_1243 ?_
  refine xb_top (y := nI (i + 2)) (nI_add (i) (2)) ?_
  refine xr_sld rfl (vp_in_nI (show i + 2 < G.2.2.2.2.1 by omega) (by omega)) dL_law_1244 ?_
  refine xb_top (y := (G.2.2.2.2.2 (i + 2))) (by rw [nI_clamp (by omega)]) ?_
  refine xr_aload_n dL_law_1245 3 rfl ?_
  refine xr_iload_n dL_law_1246 0 rfl ?_
  refine xr_iconst (v := 3) dL_law_1247 rfl ?_
  refine xr_iadd dL_law_1248 ?_
  refine xb_top (y := nI (i + 3)) (nI_add (i) (3)) ?_
  refine xr_sld rfl (vp_in_nI (show i + 3 < G.2.2.2.2.1 by omega) (by omega)) dL_law_1249 ?_
  refine xb_top (y := (G.2.2.2.2.2 (i + 3))) (by rw [nI_clamp (by omega)]) ?_
  refine xr_callV (As := [.int ((G.2.2.2.2.2 (i + 1))), .int ((G.2.2.2.2.2 (i + 2))), .int ((G.2.2.2.2.2 (i + 3)))]) (rest := []) mlL_162 (gs_X9_row (G.2.2.2.2.2 (i + 1)) (G.2.2.2.2.2 (i + 2)) (G.2.2.2.2.2 (i + 3)) hC) dL_law_1250 s_0 rfl rfl (Nat.le_of_ble_eq_true rfl) (by decide) ⟨by decide, by decide⟩ (fun v s2 M3 J4 hq => ?_)
  obtain ⟨r5, rfl, rfl, hj7, k6, hI1, hx2⟩ := hq
  try dsimp only [Option.toList, List.cons_append, List.nil_append]
  have kk8 : ∀ p k, 62 ≤ p → M3 p k = M p k := (fun p k hp => k6 p k (by unfold WKP; omega))
  refine xr_pop dL_law_1253 rfl ?_
  refine xr_aload_n dL_law_1254 1 rfl ?_
  refine xr_aload_n dL_law_1255 3 rfl ?_
  refine xr_iload_n dL_law_1256 0 rfl ?_
  refine xr_iconst (v := 1) dL_law_1257 rfl ?_
  refine xr_iadd dL_law_1258 ?_
  refine xb_top (y := nI (i + 1)) (nI_add (i) (1)) ?_
  refine xr_sld rfl (vp_in_nI (show i + 1 < G.2.2.2.2.1 by omega) (by omega)) dL_law_1259 ?_
  refine xb_top (y := (G.2.2.2.2.2 (i + 1))) (by rw [nI_clamp (by omega)]) ?_
  refine xr_aload_n dL_law_1260 3 rfl ?_
  refine xr_iload_n dL_law_1261 0 rfl ?_
  refine xr_iconst (v := 2) dL_law_1262 rfl ?_
  refine xr_iadd dL_law_1263 ?_
  refine xb_top (y := nI (i + 2)) (nI_add (i) (2)) ?_
  refine xr_sld rfl (vp_in_nI (show i + 2 < G.2.2.2.2.1 by omega) (by omega)) dL_law_1264 ?_
  refine xb_top (y := (G.2.2.2.2.2 (i + 2))) (by rw [nI_clamp (by omega)]) ?_
  refine xr_aload_n dL_law_1265 3 rfl ?_
  refine xr_iload_n dL_law_1266 0 rfl ?_
  refine xr_iconst (v := 3) dL_law_1267 rfl ?_
  refine xr_iadd dL_law_1268 ?_
  refine xb_top (y := nI (i + 3)) (nI_add (i) (3)) ?_
  refine xr_sld rfl (vp_in_nI (show i + 3 < G.2.2.2.2.1 by omega) (by omega)) dL_law_1269 ?_
  refine xb_top (y := (G.2.2.2.2.2 (i + 3))) (by rw [nI_clamp (by omega)]) ?_
  refine xr_callV (As := [.int ((G.2.2.2.2.2 (i + 1))), .int ((G.2.2.2.2.2 (i + 2))), .int ((G.2.2.2.2.2 (i + 3)))]) (rest := []) mlL_165 (gs_X10_row (G.2.2.2.2.2 (i + 1)) (G.2.2.2.2.2 (i + 2)) (G.2.2.2.2.2 (i + 3)) (InvR_ke kk8 hR)) dL_law_1270 s_62 rfl rfl (Nat.le_of_ble_eq_true rfl) (by decide) ⟨by decide, by decide⟩ (fun v s2 M11 J12 hq => ?_)
  obtain ⟨r13, rfl, rfl, hj15, k14, hI9, hx10⟩ := hq
  try dsimp only [Option.toList, List.cons_append, List.nil_append]
  have kk16 : ∀ p k, p < 62 → M11 p k = M3 p k := (fun p k hp => k14 p k (by unfold WRH; omega))
  refine xr_pop dL_law_1273 rfl ?_
  refine xr_goto (tgt := 1502) dL_law_1274 rfl ?_
  refine xb_ls (ls2 := [(3, .int (nI (i))), (2, .ref (62)), (1, .ref (0)), (0, .ref (1002))]) [0, 1, 2, 3] rfl ?_
  exact hN _ _ (InvC_ke kk16 hI1) hI9 (RB_f (fun p k hp => (k14 p k (nx_WRH_CSB hp)).trans (k6 p k (nx_WKP_CSB hp))) hB_) (RP_f (fun p k hp => (k14 p k (nx_WRH_CSP hp)).trans (k6 p k (nx_WKP_CSP hp))) hP_) (RT_f (fun p k hp => (k14 p k (nx_WRH_CST hp)).trans (k6 p k (nx_WKP_CST hp))) hT_) (RL_f (fun p k hp => (k14 p k (nx_WRH_CSL hp)).trans (k6 p k (nx_WKP_CSL hp))) hL_) (jS_row hx2 hx10 kk8 kk16 hS_) (jE_row hx2 hx10 hj7 hj15 hE_) (jY_row hx2 hx10 kk8 kk16 hj7 hY_) (RX_f (fun p k hp => (k14 p k (nx_WRH_CSX hp)).trans (k6 p k (nx_WKP_CSX hp))) hX_)
set_option maxRecDepth 100000 in
set_option maxHeartbeats 4000000 in
theorem lwx_37 {l : Launch} {G : xG} (hL : G.2.2.2.2.1 ≤ 3072) {M : xM} {J : xJ} {i : Nat} (hi : i + 6 ≤ G.2.2.2.2.1) (hC : InvC M) (hR : InvR M) (hB_ : RB M) (hP_ : RP M) (hT_ : RT M) (hL_ : RLk M) (hS_ : RS M) (hE_ : RE J) (hY_ : RY M J) (hX_ : RX M) (hN : ∀ (M2 : xM) (J2 : xJ), InvC M2 → InvR M2 → RB M2 → RP M2 → RT M2 → RLk M2 → RS M2 → RE J2 → RY M2 J2 → RX M2 → x_X l G fL_law 200 600000 7302250 (qR (some (.int 1))) 1502 [(3, .int (nI (i))), (2, .ref (62)), (1, .ref (0)), (0, .ref (1002))] [] x_SH M2 J2 87 2934) : x_X l G fL_law 200 600000 7302250 (qR (some (.int 1))) 1277 [(3, .int (nI (i))), (2, .ref (62)), (1, .ref (0)), (0, .ref (1002))] [] x_SH M J 87 2934 := by
  refine xr_aload_n dL_law_1277 2 rfl ?_
  refine xr_aload_n dL_law_1278 3 rfl ?_
  refine xr_iload_n dL_law_1279 0 rfl ?_
  refine xr_iconst (v := 1) dL_law_1280 rfl ?_
  refine xr_iadd dL_law_1281 ?_
  refine xb_top (y := nI (i + 1)) (nI_add (i) (1)) ?_
  refine xr_sld rfl (vp_in_nI (show i + 1 < G.2.2.2.2.1 by omega) (by omega)) dL_law_1282 ?_
  refine xb_top (y := (G.2.2.2.2.2 (i + 1))) (by rw [nI_clamp (by omega)]) ?_
  refine xr_aload_n dL_law_1283 3 rfl ?_
  refine xr_iload_n dL_law_1284 0 rfl ?_
  refine xr_iconst (v := 2) dL_law_1285 rfl ?_
  refine xr_iadd dL_law_1286 ?_
  refine xb_top (y := nI (i + 2)) (nI_add (i) (2)) ?_
  refine xr_sld rfl (vp_in_nI (show i + 2 < G.2.2.2.2.1 by omega) (by omega)) dL_law_1287 ?_
  refine xb_top (y := (G.2.2.2.2.2 (i + 2))) (by rw [nI_clamp (by omega)]) ?_
  refine xr_aload_n dL_law_1288 3 rfl ?_
  refine xr_iload_n dL_law_1289 0 rfl ?_
  refine xr_iconst (v := 3) dL_law_1290 rfl ?_
  refine xr_iadd dL_law_1291 ?_
  refine xb_top (y := nI (i + 3)) (nI_add (i) (3)) ?_
  refine xr_sld rfl (vp_in_nI (show i + 3 < G.2.2.2.2.1 by omega) (by omega)) dL_law_1292 ?_
  refine xb_top (y := (G.2.2.2.2.2 (i + 3))) (by rw [nI_clamp (by omega)]) ?_
  refine xr_i2l dL_law_1293 ?_
  refine xr_bipush (v := 32) dL_law_1294 rfl ?_
  refine xr_lshl dL_law_1296 ?_
  refine xr_aload_n dL_law_1297 3 rfl ?_
  refine xr_iload_n dL_law_1298 0 rfl ?_
  refine xr_iconst (v := 4) dL_law_1299 rfl ?_
  refine xr_iadd dL_law_1300 ?_
  refine xb_top (y := nI (i + 4)) (nI_add (i) (4)) ?_
  refine xr_sld rfl (vp_in_nI (show i + 4 < G.2.2.2.2.1 by omega) (by omega)) dL_law_1301 ?_
  refine xb_top (y := (G.2.2.2.2.2 (i + 4))) (by rw [nI_clamp (by omega)]) ?_
  refine xr_i2l dL_law_1302 ?_
  refine xr_ldc2 coL_166 dL_law_1303 ?_
  refine xr_land dL_law_1306 ?_
  refine xr_lor dL_law_1307 ?_
  refine xr_callV (As := [.int ((G.2.2.2.2.2 (i + 1))), .int ((G.2.2.2.2.2 (i + 2))), .long ((((((G.2.2.2.2.2 (i + 3))).toInt64) <<< ((32 : Int32).toInt64 &&& 63)) ||| ((((G.2.2.2.2.2 (i + 4))).toInt64) &&& 4294967295)))]) (rest := []) mlL_168 (gs_X9_put (G.2.2.2.2.2 (i + 1)) (G.2.2.2.2.2 (i + 2)) (((((G.2.2.2.2.2 (i + 3))).toInt64) <<< ((32 : Int32).toInt64 &&& 63)) ||| ((((G.2.2.2.2.2 (i + 4))).toInt64) &&& 4294967295)) hC) dL_law_1308 s_0 rfl rfl (Nat.le_of_ble_eq_true rfl) (by decide) ⟨by decide, by decide⟩ (fun v s2 M3 J4 hq => ?_)
  obtain ⟨r5, rfl, rfl, hj7, k6, hI1, hx2⟩ := hq
  try dsimp only [Option.toList, List.cons_append, List.nil_append]
  have kk8 : ∀ p k, 62 ≤ p → M3 p k = M p k := (fun p k hp => k6 p k (by unfold WKP; omega))
  refine xr_pop dL_law_1311 rfl ?_
  refine xr_aload_n dL_law_1312 1 rfl ?_
  refine xr_aload_n dL_law_1313 3 rfl ?_
  refine xr_iload_n dL_law_1314 0 rfl ?_
  refine xr_iconst (v := 1) dL_law_1315 rfl ?_
  refine xr_iadd dL_law_1316 ?_
  refine xb_top (y := nI (i + 1)) (nI_add (i) (1)) ?_
  refine xr_sld rfl (vp_in_nI (show i + 1 < G.2.2.2.2.1 by omega) (by omega)) dL_law_1317 ?_
  refine xb_top (y := (G.2.2.2.2.2 (i + 1))) (by rw [nI_clamp (by omega)]) ?_
  refine xr_aload_n dL_law_1318 3 rfl ?_
  refine xr_iload_n dL_law_1319 0 rfl ?_
  refine xr_iconst (v := 2) dL_law_1320 rfl ?_
  refine xr_iadd dL_law_1321 ?_
  refine xb_top (y := nI (i + 2)) (nI_add (i) (2)) ?_
  refine xr_sld rfl (vp_in_nI (show i + 2 < G.2.2.2.2.1 by omega) (by omega)) dL_law_1322 ?_
  refine xb_top (y := (G.2.2.2.2.2 (i + 2))) (by rw [nI_clamp (by omega)]) ?_
  refine xr_aload_n dL_law_1323 3 rfl ?_
  refine xr_iload_n dL_law_1324 0 rfl ?_
  refine xr_iconst (v := 3) dL_law_1325 rfl ?_
  refine xr_iadd dL_law_1326 ?_
  refine xb_top (y := nI (i + 3)) (nI_add (i) (3)) ?_
  refine xr_sld rfl (vp_in_nI (show i + 3 < G.2.2.2.2.1 by omega) (by omega)) dL_law_1327 ?_
  refine xb_top (y := (G.2.2.2.2.2 (i + 3))) (by rw [nI_clamp (by omega)]) ?_
  refine xr_i2l dL_law_1328 ?_
  refine xr_bipush (v := 32) dL_law_1329 rfl ?_
  refine xr_lshl dL_law_1331 ?_
  refine xr_aload_n dL_law_1332 3 rfl ?_
  refine xr_iload_n dL_law_1333 0 rfl ?_
  refine xr_iconst (v := 4) dL_law_1334 rfl ?_
  refine xr_iadd dL_law_1335 ?_
  refine xb_top (y := nI (i + 4)) (nI_add (i) (4)) ?_
  refine xr_sld rfl (vp_in_nI (show i + 4 < G.2.2.2.2.1 by omega) (by omega)) dL_law_1336 ?_
  refine xb_top (y := (G.2.2.2.2.2 (i + 4))) (by rw [nI_clamp (by omega)]) ?_
  refine xr_i2l dL_law_1337 ?_
  refine xr_ldc2 coL_166 dL_law_1338 ?_
  refine xr_land dL_law_1341 ?_
  refine xr_lor dL_law_1342 ?_
  refine xr_callV (As := [.int ((G.2.2.2.2.2 (i + 1))), .int ((G.2.2.2.2.2 (i + 2))), .long ((((((G.2.2.2.2.2 (i + 3))).toInt64) <<< ((32 : Int32).toInt64 &&& 63)) ||| ((((G.2.2.2.2.2 (i + 4))).toInt64) &&& 4294967295)))]) (rest := []) mlL_172 (gs_X10_put (G.2.2.2.2.2 (i + 1)) (G.2.2.2.2.2 (i + 2)) (((((G.2.2.2.2.2 (i + 3))).toInt64) <<< ((32 : Int32).toInt64 &&& 63)) ||| ((((G.2.2.2.2.2 (i + 4))).toInt64) &&& 4294967295)) (InvR_ke kk8 hR)) dL_law_1343 s_62 rfl rfl (Nat.le_of_ble_eq_true rfl) (by decide) ⟨by decide, by decide⟩ (fun v s2 M11 J12 hq => ?_)
  obtain ⟨r13, rfl, rfl, hj15, k14, hI9, hx10⟩ := hq
  try dsimp only [Option.toList, List.cons_append, List.nil_append]
  have kk16 : ∀ p k, p < 62 → M11 p k = M3 p k := (fun p k hp => k14 p k (by unfold WRH; omega))
  refine xr_pop dL_law_1346 rfl ?_
  refine xr_goto (tgt := 1502) dL_law_1347 rfl ?_
  refine xb_ls (ls2 := [(3, .int (nI (i))), (2, .ref (62)), (1, .ref (0)), (0, .ref (1002))]) [0, 1, 2, 3] rfl ?_
  exact hN _ _ (InvC_ke kk16 hI1) hI9 (RB_f (fun p k hp => (k14 p k (nx_WRH_CSB hp)).trans (k6 p k (nx_WKP_CSB hp))) hB_) (RP_f (fun p k hp => (k14 p k (nx_WRH_CSP hp)).trans (k6 p k (nx_WKP_CSP hp))) hP_) (RT_f (fun p k hp => (k14 p k (nx_WRH_CST hp)).trans (k6 p k (nx_WKP_CST hp))) hT_) (RL_f (fun p k hp => (k14 p k (nx_WRH_CSL hp)).trans (k6 p k (nx_WKP_CSL hp))) hL_) (RS_e hx2.1 hx10.1 hS_) (jE_put hx2 hx10 hS_ hE_) (jY_put hx2 hx10 hj7 hY_) (RX_f (fun p k hp => (k14 p k (nx_WRH_CSX hp)).trans (k6 p k (nx_WKP_CSX hp))) hX_)
set_option maxRecDepth 100000 in
set_option maxHeartbeats 4000000 in
theorem lwx_38 {l : Launch} {G : xG} (hL : G.2.2.2.2.1 ≤ 3072) {M : xM} {J : xJ} {i : Nat} (hi : i + 6 ≤ G.2.2.2.2.1) (hC : InvC M) (hR : InvR M) (hB_ : RB M) (hP_ : RP M) (hT_ : RT M) (hL_ : RLk M) (hS_ : RS M) (hE_ : RE J) (hY_ : RY M J) (hX_ : RX M) (hN : ∀ (M2 : xM) (J2 : xJ), InvC M2 → InvR M2 → RB M2 → RP M2 → RT M2 → RLk M2 → RS M2 → RE J2 → RY M2 J2 → RX M2 → x_X l G fL_law 200 600000 7302250 (qR (some (.int 1))) 1502 [(3, .int (nI (i))), (2, .ref (62)), (1, .ref (0)), (0, .ref (1002))] [] x_SH M2 J2 87 2934) : x_X l G fL_law 200 600000 7302250 (qR (some (.int 1))) 1350 [(3, .int (nI (i))), (2, .ref (62)), (1, .ref (0)), (0, .ref (1002))] [] x_SH M J 87 2934 := by
  refine xr_aload_n dL_law_1350 2 rfl ?_
  refine xr_aload_n dL_law_1351 3 rfl ?_
  refine xr_iload_n dL_law_1352 0 rfl ?_
  refine xr_iconst (v := 1) dL_law_1353 rfl ?_
  refine xr_iadd dL_law_1354 ?_
  refine xb_top (y := nI (i + 1)) (nI_add (i) (1)) ?_
  refine xr_sld rfl (vp_in_nI (show i + 1 < G.2.2.2.2.1 by omega) (by omega)) dL_law_1355 ?_
  refine xb_top (y := (G.2.2.2.2.2 (i + 1))) (by rw [nI_clamp (by omega)]) ?_
  refine xr_aload_n dL_law_1356 3 rfl ?_
  refine xr_iload_n dL_law_1357 0 rfl ?_
  refine xr_iconst (v := 2) dL_law_1358 rfl ?_
  refine xr_iadd dL_law_1359 ?_
  refine xb_top (y := nI (i + 2)) (nI_add (i) (2)) ?_
  refine xr_sld rfl (vp_in_nI (show i + 2 < G.2.2.2.2.1 by omega) (by omega)) dL_law_1360 ?_
  refine xb_top (y := (G.2.2.2.2.2 (i + 2))) (by rw [nI_clamp (by omega)]) ?_
  refine xr_callV (As := [.int ((G.2.2.2.2.2 (i + 1))), .int ((G.2.2.2.2.2 (i + 2)))]) (rest := []) mlL_173 (gs_X9_element (G.2.2.2.2.2 (i + 1)) (G.2.2.2.2.2 (i + 2)) hC) dL_law_1361 s_0 rfl rfl (Nat.le_of_ble_eq_true rfl) (by decide) ⟨by decide, by decide⟩ (fun v s2 M9 J2 hq => ?_)
  obtain ⟨r3, rfl, rfl, rfl, rfl, hx2⟩ := hq
  try dsimp only [Option.toList, List.cons_append, List.nil_append]
  refine xr_pop2 dL_law_1364 rfl ?_
  refine xr_aload_n dL_law_1365 1 rfl ?_
  refine xr_aload_n dL_law_1366 3 rfl ?_
  refine xr_iload_n dL_law_1367 0 rfl ?_
  refine xr_iconst (v := 1) dL_law_1368 rfl ?_
  refine xr_iadd dL_law_1369 ?_
  refine xb_top (y := nI (i + 1)) (nI_add (i) (1)) ?_
  refine xr_sld rfl (vp_in_nI (show i + 1 < G.2.2.2.2.1 by omega) (by omega)) dL_law_1370 ?_
  refine xb_top (y := (G.2.2.2.2.2 (i + 1))) (by rw [nI_clamp (by omega)]) ?_
  refine xr_aload_n dL_law_1371 3 rfl ?_
  refine xr_iload_n dL_law_1372 0 rfl ?_
  refine xr_iconst (v := 2) dL_law_1373 rfl ?_
  refine xr_iadd dL_law_1374 ?_
  refine xb_top (y := nI (i + 2)) (nI_add (i) (2)) ?_
  refine xr_sld rfl (vp_in_nI (show i + 2 < G.2.2.2.2.1 by omega) (by omega)) dL_law_1375 ?_
  refine xb_top (y := (G.2.2.2.2.2 (i + 2))) (by rw [nI_clamp (by omega)]) ?_
  refine xr_callV (As := [.int ((G.2.2.2.2.2 (i + 1))), .int ((G.2.2.2.2.2 (i + 2)))]) (rest := []) mlL_177 (gs_X10_element (G.2.2.2.2.2 (i + 1)) (G.2.2.2.2.2 (i + 2)) hR) dL_law_1376 s_62 rfl rfl (Nat.le_of_ble_eq_true rfl) (by decide) ⟨by decide, by decide⟩ (fun v s2 M9 J2 hq => ?_)
  obtain ⟨r6, rfl, rfl, rfl, rfl, hx5⟩ := hq
  try dsimp only [Option.toList, List.cons_append, List.nil_append]
  refine xr_pop2 dL_law_1379 rfl ?_
  refine xr_goto (tgt := 1502) dL_law_1380 rfl ?_
  refine xb_ls (ls2 := [(3, .int (nI (i))), (2, .ref (62)), (1, .ref (0)), (0, .ref (1002))]) [0, 1, 2, 3] rfl ?_
  exact hN _ _ hC hR hB_ hP_ hT_ hL_ hS_ (RE_f rfl rfl hE_) hY_ hX_
set_option maxRecDepth 100000 in
set_option maxHeartbeats 4000000 in
theorem lwx_39 {l : Launch} {G : xG} (hL : G.2.2.2.2.1 ≤ 3072) {M : xM} {J : xJ} {i : Nat} (hi : i + 6 ≤ G.2.2.2.2.1) (hC : InvC M) (hR : InvR M) (hB_ : RB M) (hP_ : RP M) (hT_ : RT M) (hL_ : RLk M) (hS_ : RS M) (hE_ : RE J) (hY_ : RY M J) (hX_ : RX M) (hN : ∀ (M2 : xM) (J2 : xJ), InvC M2 → InvR M2 → RB M2 → RP M2 → RT M2 → RLk M2 → RS M2 → RE J2 → RY M2 J2 → RX M2 → x_X l G fL_law 200 600000 7302250 (qR (some (.int 1))) 1502 [(3, .int (nI (i))), (2, .ref (62)), (1, .ref (0)), (0, .ref (1002))] [] x_SH M2 J2 87 2934) : x_X l G fL_law 200 600000 7302250 (qR (some (.int 1))) 1383 [(3, .int (nI (i))), (2, .ref (62)), (1, .ref (0)), (0, .ref (1002))] [] x_SH M J 87 2934 := by
  refine xr_aload_n dL_law_1383 2 rfl ?_
  refine xr_aload_n dL_law_1384 3 rfl ?_
  refine xr_iload_n dL_law_1385 0 rfl ?_
  refine xr_iconst (v := 1) dL_law_1386 rfl ?_
  refine xr_iadd dL_law_1387 ?_
  refine xb_top (y := nI (i + 1)) (nI_add (i) (1)) ?_
  refine xr_sld rfl (vp_in_nI (show i + 1 < G.2.2.2.2.1 by omega) (by omega)) dL_law_1388 ?_
  refine xb_top (y := (G.2.2.2.2.2 (i + 1))) (by rw [nI_clamp (by omega)]) ?_
  refine xr_aload_n dL_law_1389 3 rfl ?_
  refine xr_iload_n dL_law_1390 0 rfl ?_
  refine xr_iconst (v := 2) dL_law_1391 rfl ?_
  refine xr_iadd dL_law_1392 ?_
  refine xb_top (y := nI (i + 2)) (nI_add (i) (2)) ?_
  refine xr_sld rfl (vp_in_nI (show i + 2 < G.2.2.2.2.1 by omega) (by omega)) dL_law_1393 ?_
  refine xb_top (y := (G.2.2.2.2.2 (i + 2))) (by rw [nI_clamp (by omega)]) ?_
  refine xr_aload_n dL_law_1394 3 rfl ?_
  refine xr_iload_n dL_law_1395 0 rfl ?_
  refine xr_iconst (v := 3) dL_law_1396 rfl ?_
  refine xr_iadd dL_law_1397 ?_
  refine xb_top (y := nI (i + 3)) (nI_add (i) (3)) ?_
  refine xr_sld rfl (vp_in_nI (show i + 3 < G.2.2.2.2.1 by omega) (by omega)) dL_law_1398 ?_
  refine xb_top (y := (G.2.2.2.2.2 (i + 3))) (by rw [nI_clamp (by omega)]) ?_
  refine xr_aload_n dL_law_1399 3 rfl ?_
  refine xr_iload_n dL_law_1400 0 rfl ?_
  refine xr_iconst (v := 4) dL_law_1401 rfl ?_
  refine xr_iadd dL_law_1402 ?_
  refine xb_top (y := nI (i + 4)) (nI_add (i) (4)) ?_
  refine xr_sld rfl (vp_in_nI (show i + 4 < G.2.2.2.2.1 by omega) (by omega)) dL_law_1403 ?_
  refine xb_top (y := (G.2.2.2.2.2 (i + 4))) (by rw [nI_clamp (by omega)]) ?_
  refine xr_aload_n dL_law_1404 3 rfl ?_
  refine xr_iload_n dL_law_1405 0 rfl ?_
  refine xr_iconst (v := 5) dL_law_1406 rfl ?_
  refine xr_iadd dL_law_1407 ?_
  refine xb_top (y := nI (i + 5)) (nI_add (i) (5)) ?_
  refine xr_sld rfl (vp_in_nI (show i + 5 < G.2.2.2.2.1 by omega) (by omega)) dL_law_1408 ?_
  refine xb_top (y := (G.2.2.2.2.2 (i + 5))) (by rw [nI_clamp (by omega)]) ?_
  refine xr_callV (As := [.int ((G.2.2.2.2.2 (i + 1))), .int ((G.2.2.2.2.2 (i + 2))), .int ((G.2.2.2.2.2 (i + 3))), .int ((G.2.2.2.2.2 (i + 4))), .int ((G.2.2.2.2.2 (i + 5)))]) (rest := []) mlL_178 (gs_X9_shift (G.2.2.2.2.2 (i + 1)) (G.2.2.2.2.2 (i + 2)) (G.2.2.2.2.2 (i + 3)) (G.2.2.2.2.2 (i + 4)) (G.2.2.2.2.2 (i + 5)) hC) dL_law_1409 s_0 rfl rfl (Nat.le_of_ble_eq_true rfl) (by decide) ⟨by decide, by decide⟩ (fun v s2 M3 J4 hq => ?_)
  obtain ⟨r5, rfl, rfl, hj7, k6, hI1, hx2⟩ := hq
  try dsimp only [Option.toList, List.cons_append, List.nil_append]
  have kk8 : ∀ p k, 62 ≤ p → M3 p k = M p k := (fun p k hp => k6 p k (by unfold WKP; omega))
  refine xr_pop dL_law_1412 rfl ?_
  refine xr_aload_n dL_law_1413 1 rfl ?_
  refine xr_aload_n dL_law_1414 3 rfl ?_
  refine xr_iload_n dL_law_1415 0 rfl ?_
  refine xr_iconst (v := 1) dL_law_1416 rfl ?_
  refine xr_iadd dL_law_1417 ?_
  refine xb_top (y := nI (i + 1)) (nI_add (i) (1)) ?_
  refine xr_sld rfl (vp_in_nI (show i + 1 < G.2.2.2.2.1 by omega) (by omega)) dL_law_1418 ?_
  refine xb_top (y := (G.2.2.2.2.2 (i + 1))) (by rw [nI_clamp (by omega)]) ?_
  refine xr_aload_n dL_law_1419 3 rfl ?_
  refine xr_iload_n dL_law_1420 0 rfl ?_
  refine xr_iconst (v := 2) dL_law_1421 rfl ?_
  refine xr_iadd dL_law_1422 ?_
  refine xb_top (y := nI (i + 2)) (nI_add (i) (2)) ?_
  refine xr_sld rfl (vp_in_nI (show i + 2 < G.2.2.2.2.1 by omega) (by omega)) dL_law_1423 ?_
  refine xb_top (y := (G.2.2.2.2.2 (i + 2))) (by rw [nI_clamp (by omega)]) ?_
  refine xr_aload_n dL_law_1424 3 rfl ?_
  refine xr_iload_n dL_law_1425 0 rfl ?_
  refine xr_iconst (v := 3) dL_law_1426 rfl ?_
  refine xr_iadd dL_law_1427 ?_
  refine xb_top (y := nI (i + 3)) (nI_add (i) (3)) ?_
  refine xr_sld rfl (vp_in_nI (show i + 3 < G.2.2.2.2.1 by omega) (by omega)) dL_law_1428 ?_
  refine xb_top (y := (G.2.2.2.2.2 (i + 3))) (by rw [nI_clamp (by omega)]) ?_
  refine xr_aload_n dL_law_1429 3 rfl ?_
  refine xr_iload_n dL_law_1430 0 rfl ?_
  refine xr_iconst (v := 4) dL_law_1431 rfl ?_
  refine xr_iadd dL_law_1432 ?_
  refine xb_top (y := nI (i + 4)) (nI_add (i) (4)) ?_
  refine xr_sld rfl (vp_in_nI (show i + 4 < G.2.2.2.2.1 by omega) (by omega)) dL_law_1433 ?_
  refine xb_top (y := (G.2.2.2.2.2 (i + 4))) (by rw [nI_clamp (by omega)]) ?_
  refine xr_aload_n dL_law_1434 3 rfl ?_
  refine xr_iload_n dL_law_1435 0 rfl ?_
  refine xr_iconst (v := 5) dL_law_1436 rfl ?_
  refine xr_iadd dL_law_1437 ?_
  refine xb_top (y := nI (i + 5)) (nI_add (i) (5)) ?_
  refine xr_sld rfl (vp_in_nI (show i + 5 < G.2.2.2.2.1 by omega) (by omega)) dL_law_1438 ?_
  refine xb_top (y := (G.2.2.2.2.2 (i + 5))) (by rw [nI_clamp (by omega)]) ?_
  refine xr_callV (As := [.int ((G.2.2.2.2.2 (i + 1))), .int ((G.2.2.2.2.2 (i + 2))), .int ((G.2.2.2.2.2 (i + 3))), .int ((G.2.2.2.2.2 (i + 4))), .int ((G.2.2.2.2.2 (i + 5)))]) (rest := []) mlL_182 (gs_X10_shift (G.2.2.2.2.2 (i + 1)) (G.2.2.2.2.2 (i + 2)) (G.2.2.2.2.2 (i + 3)) (G.2.2.2.2.2 (i + 4)) (G.2.2.2.2.2 (i + 5)) (InvR_ke kk8 hR)) dL_law_1439 s_62 rfl rfl (Nat.le_of_ble_eq_true rfl) (by decide) ⟨by decide, by decide⟩ (fun v s2 M11 J12 hq => ?_)
  obtain ⟨r13, rfl, rfl, hj15, k14, hI9, hx10⟩ := hq
  try dsimp only [Option.toList, List.cons_append, List.nil_append]
  have kk16 : ∀ p k, p < 62 → M11 p k = M3 p k := (fun p k hp => k14 p k (by unfold WRH; omega))
  refine xr_pop dL_law_1442 rfl ?_
  refine xr_goto (tgt := 1502) dL_law_1443 rfl ?_
  refine xb_ls (ls2 := [(3, .int (nI (i))), (2, .ref (62)), (1, .ref (0)), (0, .ref (1002))]) [0, 1, 2, 3] rfl ?_
  exact hN _ _ (InvC_ke kk16 hI1) hI9 (RB_f (fun p k hp => (k14 p k (nx_WRH_CSB hp)).trans (k6 p k (nx_WKP_CSB hp))) hB_) (RP_f (fun p k hp => (k14 p k (nx_WRH_CSP hp)).trans (k6 p k (nx_WKP_CSP hp))) hP_) (RT_f (fun p k hp => (k14 p k (nx_WRH_CST hp)).trans (k6 p k (nx_WKP_CST hp))) hT_) (RL_f (fun p k hp => (k14 p k (nx_WRH_CSL hp)).trans (k6 p k (nx_WKP_CSL hp))) hL_) (RS_e hx2.1 hx10.1 hS_) (jE_shift hx2 hx10 hj15 hC hS_ hE_) (jY_shift hx2 hx10 hj7 hY_) (RX_f (fun p k hp => (k14 p k (nx_WRH_CSX hp)).trans (k6 p k (nx_WKP_CSX hp))) hX_)
set_option maxRecDepth 100000 in
set_option maxHeartbeats 4000000 in
theorem lwx_40 {l : Launch} {G : xG} (hL : G.2.2.2.2.1 ≤ 3072) {M : xM} {J : xJ} {i : Nat} (hi : i + 6 ≤ G.2.2.2.2.1) (hC : InvC M) (hR : InvR M) (hB_ : RB M) (hP_ : RP M) (hT_ : RT M) (hL_ : RLk M) (hS_ : RS M) (hE_ : RE J) (hY_ : RY M J) (hX_ : RX M) (hN : ∀ (M2 : xM) (J2 : xJ), InvC M2 → InvR M2 → RB M2 → RP M2 → RT M2 → RLk M2 → RS M2 → RE J2 → RY M2 J2 → RX M2 → x_X l G fL_law 200 600000 7302250 (qR (some (.int 1))) 1502 [(3, .int (nI (i))), (2, .ref (62)), (1, .ref (0)), (0, .ref (1002))] [] x_SH M2 J2 87 2934) : x_X l G fL_law 200 600000 7302250 (qR (some (.int 1))) 1446 [(3, .int (nI (i))), (2, .ref (62)), (1, .ref (0)), (0, .ref (1002))] [] x_SH M J 87 2934 := by
  refine xr_aload_n dL_law_1446 2 rfl ?_
  refine xr_aload_n dL_law_1447 3 rfl ?_
  refine xr_iload_n dL_law_1448 0 rfl ?_
  refine xr_iconst (v := 1) dL_law_1449 rfl ?_
  refine xr_iadd dL_law_1450 ?_
  refine xb_top (y := nI (i + 1)) (nI_add (i) (1)) ?_
  refine xr_sld rfl (vp_in_nI (show i + 1 < G.2.2.2.2.1 by omega) (by omega)) dL_law_1451 ?_
  refine xb_top (y := (G.2.2.2.2.2 (i + 1))) (by rw [nI_clamp (by omega)]) ?_
  refine xr_aload_n dL_law_1452 3 rfl ?_
  refine xr_iload_n dL_law_1453 0 rfl ?_
  refine xr_iconst (v := 2) dL_law_1454 rfl ?_
  refine xr_iadd dL_law_1455 ?_
  refine xb_top (y := nI (i + 2)) (nI_add (i) (2)) ?_
  refine xr_sld rfl (vp_in_nI (show i + 2 < G.2.2.2.2.1 by omega) (by omega)) dL_law_1456 ?_
  refine xb_top (y := (G.2.2.2.2.2 (i + 2))) (by rw [nI_clamp (by omega)]) ?_
  refine xr_callV (As := [.int ((G.2.2.2.2.2 (i + 1))), .int ((G.2.2.2.2.2 (i + 2)))]) (rest := []) mlL_183 (gs_X9_taken (G.2.2.2.2.2 (i + 1)) (G.2.2.2.2.2 (i + 2)) hC) dL_law_1457 s_0 rfl rfl (Nat.le_of_ble_eq_true rfl) (by decide) ⟨by decide, by decide⟩ (fun v s2 M9 J2 hq => ?_)
  obtain ⟨r3, rfl, rfl, rfl, rfl, hx2⟩ := hq
  try dsimp only [Option.toList, List.cons_append, List.nil_append]
  refine xr_pop dL_law_1460 rfl ?_
  refine xr_aload_n dL_law_1461 1 rfl ?_
  refine xr_aload_n dL_law_1462 3 rfl ?_
  refine xr_iload_n dL_law_1463 0 rfl ?_
  refine xr_iconst (v := 1) dL_law_1464 rfl ?_
  refine xr_iadd dL_law_1465 ?_
  refine xb_top (y := nI (i + 1)) (nI_add (i) (1)) ?_
  refine xr_sld rfl (vp_in_nI (show i + 1 < G.2.2.2.2.1 by omega) (by omega)) dL_law_1466 ?_
  refine xb_top (y := (G.2.2.2.2.2 (i + 1))) (by rw [nI_clamp (by omega)]) ?_
  refine xr_aload_n dL_law_1467 3 rfl ?_
  refine xr_iload_n dL_law_1468 0 rfl ?_
  refine xr_iconst (v := 2) dL_law_1469 rfl ?_
  refine xr_iadd dL_law_1470 ?_
  refine xb_top (y := nI (i + 2)) (nI_add (i) (2)) ?_
  refine xr_sld rfl (vp_in_nI (show i + 2 < G.2.2.2.2.1 by omega) (by omega)) dL_law_1471 ?_
  refine xb_top (y := (G.2.2.2.2.2 (i + 2))) (by rw [nI_clamp (by omega)]) ?_
  refine xr_callV (As := [.int ((G.2.2.2.2.2 (i + 1))), .int ((G.2.2.2.2.2 (i + 2)))]) (rest := []) mlL_186 (gs_X10_taken (G.2.2.2.2.2 (i + 1)) (G.2.2.2.2.2 (i + 2)) hR) dL_law_1472 s_62 rfl rfl (Nat.le_of_ble_eq_true rfl) (by decide) ⟨by decide, by decide⟩ (fun v s2 M9 J2 hq => ?_)
  obtain ⟨r6, rfl, rfl, rfl, rfl, hx5⟩ := hq
  try dsimp only [Option.toList, List.cons_append, List.nil_append]
  refine xr_pop dL_law_1475 rfl ?_
  refine xr_goto (tgt := 1502) dL_law_1476 rfl ?_
  refine xb_ls (ls2 := [(3, .int (nI (i))), (2, .ref (62)), (1, .ref (0)), (0, .ref (1002))]) [0, 1, 2, 3] rfl ?_
  exact hN _ _ hC hR hB_ hP_ hT_ hL_ hS_ (RE_f rfl rfl hE_) hY_ hX_
set_option maxRecDepth 100000 in
set_option maxHeartbeats 4000000 in
theorem lwx_41 {l : Launch} {G : xG} (hL : G.2.2.2.2.1 ≤ 3072) {M : xM} {J : xJ} {i : Nat} (hi : i + 6 ≤ G.2.2.2.2.1) (hC : InvC M) (hR : InvR M) (hB_ : RB M) (hP_ : RP M) (hT_ : RT M) (hL_ : RLk M) (hS_ : RS M) (hE_ : RE J) (hY_ : RY M J) (hX_ : RX M) (hN : ∀ (M2 : xM) (J2 : xJ), InvC M2 → InvR M2 → RB M2 → RP M2 → RT M2 → RLk M2 → RS M2 → RE J2 → RY M2 J2 → RX M2 → x_X l G fL_law 200 600000 7302250 (qR (some (.int 1))) 1502 [(3, .int (nI (i))), (2, .ref (62)), (1, .ref (0)), (0, .ref (1002))] [] x_SH M2 J2 87 2934) : x_X l G fL_law 200 600000 7302250 (qR (some (.int 1))) 1479 [(3, .int (nI (i))), (2, .ref (62)), (1, .ref (0)), (0, .ref (1002))] [] x_SH M J 87 2934 := by
  refine xr_aload_n dL_law_1479 2 rfl ?_
  refine xr_aload_n dL_law_1480 3 rfl ?_
  refine xr_iload_n dL_law_1481 0 rfl ?_
  refine xr_iconst (v := 1) dL_law_1482 rfl ?_
  refine xr_iadd dL_law_1483 ?_
  refine xb_top (y := nI (i + 1)) (nI_add (i) (1)) ?_
  refine xr_sld rfl (vp_in_nI (show i + 1 < G.2.2.2.2.1 by omega) (by omega)) dL_law_1484 ?_
  refine xb_top (y := (G.2.2.2.2.2 (i + 1))) (by rw [nI_clamp (by omega)]) ?_
  refine xr_callV (As := [.int ((G.2.2.2.2.2 (i + 1)))]) (rest := []) mlL_187 (g_X9_count (G.2.2.2.2.2 (i + 1)) hC) dL_law_1485 s_0 rfl rfl (Nat.le_of_ble_eq_true rfl) (by decide) ⟨by decide, by decide⟩ (fun v s2 M9 J2 hq => ?_)
  obtain ⟨r3, rfl, rfl, rfl, rfl, hx2⟩ := hq
  try dsimp only [Option.toList, List.cons_append, List.nil_append]
  refine xr_pop dL_law_1488 rfl ?_
  refine xr_aload_n dL_law_1489 1 rfl ?_
  refine xr_aload_n dL_law_1490 3 rfl ?_
  refine xr_iload_n dL_law_1491 0 rfl ?_
  refine xr_iconst (v := 1) dL_law_1492 rfl ?_
  refine xr_iadd dL_law_1493 ?_
  refine xb_top (y := nI (i + 1)) (nI_add (i) (1)) ?_
  refine xr_sld rfl (vp_in_nI (show i + 1 < G.2.2.2.2.1 by omega) (by omega)) dL_law_1494 ?_
  refine xb_top (y := (G.2.2.2.2.2 (i + 1))) (by rw [nI_clamp (by omega)]) ?_
  refine xr_callV (As := [.int ((G.2.2.2.2.2 (i + 1)))]) (rest := []) mlL_190 (g_X10_count (G.2.2.2.2.2 (i + 1)) hR) dL_law_1495 s_62 rfl rfl (Nat.le_of_ble_eq_true rfl) (by decide) ⟨by decide, by decide⟩ (fun v s2 M9 J2 hq => ?_)
  obtain ⟨r6, rfl, rfl, rfl, rfl, hx5⟩ := hq
  try dsimp only [Option.toList, List.cons_append, List.nil_append]
  refine xr_pop dL_law_1498 rfl ?_
  refine xr_goto (tgt := 1502) dL_law_1499 rfl ?_
  refine xb_ls (ls2 := [(3, .int (nI (i))), (2, .ref (62)), (1, .ref (0)), (0, .ref (1002))]) [0, 1, 2, 3] rfl ?_
  exact hN _ _ hC hR hB_ hP_ hT_ hL_ hS_ (RE_f rfl rfl hE_) hY_ hX_
set_option maxRecDepth 100000 in
set_option maxHeartbeats 4000000 in
theorem lwx_case {l : Launch} {G : xG} (hL : G.2.2.2.2.1 ≤ 3072) : ∀ (i : Nat) (M : xM) (J : xJ), i + 6 ≤ G.2.2.2.2.1 → InvC M → InvR M → RB M → RP M → RT M → RLk M → RS M → RE J → RY M J → RX M → (∀ (M2 : xM) (J2 : xJ), InvC M2 → InvR M2 → RB M2 → RP M2 → RT M2 → RLk M2 → RS M2 → RE J2 → RY M2 J2 → RX M2 → x_X l G fL_law 200 600000 7302250 (qR (some (.int 1))) 1502 [(3, .int (nI (i))), (2, .ref (62)), (1, .ref (0)), (0, .ref (1002))] [] x_SH M2 J2 87 2934) → x_X l G fL_law 200 600000 7302250 (qR (some (.int 1))) 33 [(3, .int (nI (i))), (2, .ref (62)), (1, .ref (0)), (0, .ref (1002))] [.int (G.2.2.2.2.2 i &&& 63)] x_SH M J 87 2934 := by
  intro i M J hi hC hR hB_ hP_ hT_ hL_ hS_ hE_ hY_ hX_ hN
  obtain ⟨k, hk, he⟩ := sx_and (G.2.2.2.2.2 i)
  refine xb_top (y := nI k) he ?_
  by_cases h : 41 < k
  · exact xr_tableOut (tgt := 1502) dL_law_33 (Or.inr (by rw [nI_toInt (by omega)]; omega)) rfl (hN _ _ hC hR hB_ hP_ hT_ hL_ hS_ hE_ hY_ hX_)
  · have h2 : k = 0 ∨ k = 1 ∨ k = 2 ∨ k = 3 ∨ k = 4 ∨ k = 5 ∨ k = 6 ∨ k = 7 ∨ k = 8 ∨ k = 9 ∨ k = 10 ∨ k = 11 ∨ k = 12 ∨ k = 13 ∨ k = 14 ∨ k = 15 ∨ k = 16 ∨ k = 17 ∨ k = 18 ∨ k = 19 ∨ k = 20 ∨ k = 21 ∨ k = 22 ∨ k = 23 ∨ k = 24 ∨ k = 25 ∨ k = 26 ∨ k = 27 ∨ k = 28 ∨ k = 29 ∨ k = 30 ∨ k = 31 ∨ k = 32 ∨ k = 33 ∨ k = 34 ∨ k = 35 ∨ k = 36 ∨ k = 37 ∨ k = 38 ∨ k = 39 ∨ k = 40 ∨ k = 41 := by omega
    rcases h2 with rfl | rfl | rfl | rfl | rfl | rfl | rfl | rfl | rfl | rfl | rfl | rfl | rfl | rfl | rfl | rfl | rfl | rfl | rfl | rfl | rfl | rfl | rfl | rfl | rfl | rfl | rfl | rfl | rfl | rfl | rfl | rfl | rfl | rfl | rfl | rfl | rfl | rfl | rfl | rfl | rfl | rfl
    · exact xr_tableIn (tgt := 216) dL_law_33 (by decide) (by decide) rfl rfl (lwx_0 hL hi hC hR hB_ hP_ hT_ hL_ hS_ hE_ hY_ hX_ hN)
    · exact xr_tableIn (tgt := 239) dL_law_33 (by decide) (by decide) rfl rfl (lwx_1 hL hi hC hR hB_ hP_ hT_ hL_ hS_ hE_ hY_ hX_ hN)
    · exact xr_tableIn (tgt := 282) dL_law_33 (by decide) (by decide) rfl rfl (lwx_2 hL hi hC hR hB_ hP_ hT_ hL_ hS_ hE_ hY_ hX_ hN)
    · exact xr_tableIn (tgt := 325) dL_law_33 (by decide) (by decide) rfl rfl (lwx_3 hL hi hC hR hB_ hP_ hT_ hL_ hS_ hE_ hY_ hX_ hN)
    · exact xr_tableIn (tgt := 358) dL_law_33 (by decide) (by decide) rfl rfl (lwx_4 hL hi hC hR hB_ hP_ hT_ hL_ hS_ hE_ hY_ hX_ hN)
    · exact xr_tableIn (tgt := 381) dL_law_33 (by decide) (by decide) rfl rfl (lwx_5 hL hi hC hR hB_ hP_ hT_ hL_ hS_ hE_ hY_ hX_ hN)
    · exact xr_tableIn (tgt := 394) dL_law_33 (by decide) (by decide) rfl rfl (lwx_6 hL hi hC hR hB_ hP_ hT_ hL_ hS_ hE_ hY_ hX_ hN)
    · exact xr_tableIn (tgt := 417) dL_law_33 (by decide) (by decide) rfl rfl (lwx_7 hL hi hC hR hB_ hP_ hT_ hL_ hS_ hE_ hY_ hX_ hN)
    · exact xr_tableIn (tgt := 440) dL_law_33 (by decide) (by decide) rfl rfl (lwx_8 hL hi hC hR hB_ hP_ hT_ hL_ hS_ hE_ hY_ hX_ hN)
    · exact xr_tableIn (tgt := 463) dL_law_33 (by decide) (by decide) rfl rfl (lwx_9 hL hi hC hR hB_ hP_ hT_ hL_ hS_ hE_ hY_ hX_ hN)
    · exact xr_tableIn (tgt := 506) dL_law_33 (by decide) (by decide) rfl rfl (lwx_10 hL hi hC hR hB_ hP_ hT_ hL_ hS_ hE_ hY_ hX_ hN)
    · exact xr_tableIn (tgt := 529) dL_law_33 (by decide) (by decide) rfl rfl (lwx_11 hL hi hC hR hB_ hP_ hT_ hL_ hS_ hE_ hY_ hX_ hN)
    · exact xr_tableIn (tgt := 542) dL_law_33 (by decide) (by decide) rfl rfl (lwx_12 hL hi hC hR hB_ hP_ hT_ hL_ hS_ hE_ hY_ hX_ hN)
    · exact xr_tableIn (tgt := 565) dL_law_33 (by decide) (by decide) rfl rfl (lwx_13 hL hi hC hR hB_ hP_ hT_ hL_ hS_ hE_ hY_ hX_ hN)
    · exact xr_tableIn (tgt := 588) dL_law_33 (by decide) (by decide) rfl rfl (lwx_14 hL hi hC hR hB_ hP_ hT_ hL_ hS_ hE_ hY_ hX_ hN)
    · exact xr_tableIn (tgt := 621) dL_law_33 (by decide) (by decide) rfl rfl (lwx_15 hL hi hC hR hB_ hP_ hT_ hL_ hS_ hE_ hY_ hX_ hN)
    · exact xr_tableIn (tgt := 644) dL_law_33 (by decide) (by decide) rfl rfl (lwx_16 hL hi hC hR hB_ hP_ hT_ hL_ hS_ hE_ hY_ hX_ hN)
    · exact xr_tableIn (tgt := 677) dL_law_33 (by decide) (by decide) rfl rfl (lwx_17 hL hi hC hR hB_ hP_ hT_ hL_ hS_ hE_ hY_ hX_ hN)
    · exact xr_tableIn (tgt := 700) dL_law_33 (by decide) (by decide) rfl rfl (lwx_18 hL hi hC hR hB_ hP_ hT_ hL_ hS_ hE_ hY_ hX_ hN)
    · exact xr_tableIn (tgt := 723) dL_law_33 (by decide) (by decide) rfl rfl (lwx_19 hL hi hC hR hB_ hP_ hT_ hL_ hS_ hE_ hY_ hX_ hN)
    · exact xr_tableIn (tgt := 756) dL_law_33 (by decide) (by decide) rfl rfl (lwx_20 hL hi hC hR hB_ hP_ hT_ hL_ hS_ hE_ hY_ hX_ hN)
    · exact xr_tableIn (tgt := 799) dL_law_33 (by decide) (by decide) rfl rfl (lwx_21 hL hi hC hR hB_ hP_ hT_ hL_ hS_ hE_ hY_ hX_ hN)
    · exact xr_tableIn (tgt := 832) dL_law_33 (by decide) (by decide) rfl rfl (lwx_22 hL hi hC hR hB_ hP_ hT_ hL_ hS_ hE_ hY_ hX_ hN)
    · exact xr_tableIn (tgt := 875) dL_law_33 (by decide) (by decide) rfl rfl (lwx_23 hL hi hC hR hB_ hP_ hT_ hL_ hS_ hE_ hY_ hX_ hN)
    · exact xr_tableIn (tgt := 918) dL_law_33 (by decide) (by decide) rfl rfl (lwx_24 hL hi hC hR hB_ hP_ hT_ hL_ hS_ hE_ hY_ hX_ hN)
    · exact xr_tableIn (tgt := 951) dL_law_33 (by decide) (by decide) rfl rfl (lwx_25 hL hi hC hR hB_ hP_ hT_ hL_ hS_ hE_ hY_ hX_ hN)
    · exact xr_tableIn (tgt := 994) dL_law_33 (by decide) (by decide) rfl rfl (lwx_26 hL hi hC hR hB_ hP_ hT_ hL_ hS_ hE_ hY_ hX_ hN)
    · exact xr_tableIn (tgt := 1027) dL_law_33 (by decide) (by decide) rfl rfl (lwx_27 hL hi hC hR hB_ hP_ hT_ hL_ hS_ hE_ hY_ hX_ hN)
    · exact xr_tableIn (tgt := 1060) dL_law_33 (by decide) (by decide) rfl rfl (lwx_28 hL hi hC hR hB_ hP_ hT_ hL_ hS_ hE_ hY_ hX_ hN)
    · exact xr_tableIn (tgt := 1073) dL_law_33 (by decide) (by decide) rfl rfl (lwx_29 hL hi hC hR hB_ hP_ hT_ hL_ hS_ hE_ hY_ hX_ hN)
    · exact xr_tableIn (tgt := 1086) dL_law_33 (by decide) (by decide) rfl rfl (lwx_30 hL hi hC hR hB_ hP_ hT_ hL_ hS_ hE_ hY_ hX_ hN)
    · exact xr_tableIn (tgt := 1099) dL_law_33 (by decide) (by decide) rfl rfl (lwx_31 hL hi hC hR hB_ hP_ hT_ hL_ hS_ hE_ hY_ hX_ hN)
    · exact xr_tableIn (tgt := 1112) dL_law_33 (by decide) (by decide) rfl rfl (lwx_32 hL hi hC hR hB_ hP_ hT_ hL_ hS_ hE_ hY_ hX_ hN)
    · exact xr_tableIn (tgt := 1135) dL_law_33 (by decide) (by decide) rfl rfl (lwx_33 hL hi hC hR hB_ hP_ hT_ hL_ hS_ hE_ hY_ hX_ hN)
    · exact xr_tableIn (tgt := 1178) dL_law_33 (by decide) (by decide) rfl rfl (lwx_34 hL hi hC hR hB_ hP_ hT_ hL_ hS_ hE_ hY_ hX_ hN)
    · exact xr_tableIn (tgt := 1201) dL_law_33 (by decide) (by decide) rfl rfl (lwx_35 hL hi hC hR hB_ hP_ hT_ hL_ hS_ hE_ hY_ hX_ hN)
    · exact xr_tableIn (tgt := 1234) dL_law_33 (by decide) (by decide) rfl rfl (lwx_36 hL hi hC hR hB_ hP_ hT_ hL_ hS_ hE_ hY_ hX_ hN)
    · exact xr_tableIn (tgt := 1277) dL_law_33 (by decide) (by decide) rfl rfl (lwx_37 hL hi hC hR hB_ hP_ hT_ hL_ hS_ hE_ hY_ hX_ hN)
    · exact xr_tableIn (tgt := 1350) dL_law_33 (by decide) (by decide) rfl rfl (lwx_38 hL hi hC hR hB_ hP_ hT_ hL_ hS_ hE_ hY_ hX_ hN)
    · exact xr_tableIn (tgt := 1383) dL_law_33 (by decide) (by decide) rfl rfl (lwx_39 hL hi hC hR hB_ hP_ hT_ hL_ hS_ hE_ hY_ hX_ hN)
    · exact xr_tableIn (tgt := 1446) dL_law_33 (by decide) (by decide) rfl rfl (lwx_40 hL hi hC hR hB_ hP_ hT_ hL_ hS_ hE_ hY_ hX_ hN)
    · exact xr_tableIn (tgt := 1479) dL_law_33 (by decide) (by decide) rfl rfl (lwx_41 hL hi hC hR hB_ hP_ hT_ hL_ hS_ hE_ hY_ hX_ hN)
def z_M : xM := m_106
theorem z_3 : ∀ k, k < 128 → z_M 3 k ≤ 100000 := by decide +kernel
theorem z_10 : ∀ k, k < 128 → z_M 10 k ≤ 100000 := by decide +kernel
theorem z_47 : ∀ j, j < 50 → z_M 47 j = nI 0 := by decide +kernel
theorem z_sl : ∀ j, j < 6 → z_M (50 + 2 * j) 3 = nI 0 := by decide +kernel
theorem z_36 : ∀ j, j < 25 → z_M 36 j = nI 9 := by decide +kernel
theorem z_64 : ∀ j, j < 40 → z_M 64 j = nI 0 := by decide +kernel
theorem z_81 : ∀ j, j < 50 → z_M 81 j = nI 0 := by decide +kernel
theorem z_83 : ∀ j, j < 6 → z_M 83 j = -1 := by decide +kernel
theorem z_84 : ∀ j, j < 6 → z_M 84 j = nI 0 := by decide +kernel
theorem z_75 : ∀ j, j < 25 → z_M 75 j = nI 9 := by decide +kernel
theorem InvC_z : InvC z_M := ⟨⟨0, by decide, by decide +kernel⟩, ⟨0, by decide, by decide +kernel⟩, ⟨0, by decide, by decide +kernel⟩, z_3, ⟨⟨0, by decide, by decide +kernel⟩, z_10⟩, ⟨0, by decide, by decide +kernel⟩, ⟨0, 0, by decide, by decide, by decide +kernel, by decide +kernel⟩, ⟨0, by decide, by decide +kernel⟩, fun j hj => ⟨0, by decide, z_47 j hj⟩, ⟨0, by decide, by decide +kernel⟩, fun j hj => ⟨0, by decide, z_sl j hj⟩, fun j hj => ⟨9, by decide, z_36 j hj⟩⟩
theorem InvR_z : InvR z_M := ⟨⟨0, by decide, by decide +kernel, fun k hk => absurd hk (by omega)⟩, by decide +kernel, ⟨0, 0, by decide, by decide, by decide +kernel, by decide +kernel⟩, fun k hk => ⟨0, by decide, z_64 k hk, fun h => absurd h (by decide)⟩, ⟨0, by decide, by decide +kernel⟩, Or.inl (by decide +kernel), ⟨0, by decide, by decide +kernel⟩, fun j hj => ⟨0, by decide, z_81 j hj⟩, ⟨0, by decide, by decide +kernel⟩, fun j hj => ⟨Or.inl (z_83 j hj), 0, by decide, z_84 j hj⟩, ⟨0, by decide, by decide +kernel⟩, fun j hj => ⟨9, by decide, z_75 j hj⟩⟩
theorem z_b2 : ∀ j, j < 50 → z_M 47 j = z_M 81 j := by decide +kernel
theorem RB_z : RB z_M := ⟨by decide +kernel, z_b2⟩
theorem z_s1 : ∀ d, d < 6 → z_M (50 + 2 * d) 3 = z_M 84 d ∧ z_M (50 + 2 * d) 0 = 0 ∧ z_M 83 d = -1 := by decide +kernel
theorem RS_z : RS z_M := fun d hd => ⟨(z_s1 d hd).1, Or.inl (z_s1 d hd).2⟩
theorem RE_z : RE x_J0 := fun _ _ _ _ => rfl
theorem RP_z : RP z_M := by unfold RP; decide +kernel
theorem z_l1 : ∀ j, j < 25 → z_M 36 j = z_M 75 j ∧ z_M 37 j = z_M 76 j ∧ z_M 36 j = nI 9 ∧ z_M 37 j = nI 0 := by decide +kernel
theorem RL_z : RLk z_M := ⟨fun j hj => ⟨(z_l1 j hj).1, (z_l1 j hj).2.1⟩, fun j hj => ⟨9, 0, by decide, by decide, (z_l1 j hj).2.2.1, (z_l1 j hj).2.2.2⟩⟩
set_option maxRecDepth 100000 in
theorem RT_z : RT z_M := by funext j; rfl
def z_S : Nat → Int32 := fun j => match j with
  | 1 => 1
  | 2 => 6
  | 4 => 2
  | 5 => 1
  | 7 => -2
  | _ => 0
theorem zX_2a : z_M 13 3 = z_S 0 ∧ z_M 13 4 = z_S 1 ∧ z_M 13 5 = z_S 2 ∧ z_M 13 6 = z_S 3 ∧ z_M 13 7 = z_S 4 ∧ z_M 35 5 = z_S 5 ∧ z_M 13 8 = z_S 6 ∧ z_M 13 9 = z_S 7 := by decide +kernel
theorem zX_3a : z_M 62 9 = z_S 0 ∧ z_M 63 15 = z_S 1 ∧ z_M 63 16 = z_S 2 ∧ z_M 63 17 = z_S 3 ∧ z_M 63 18 = z_S 4 ∧ z_M 63 19 = z_S 5 ∧ z_M 62 24 = z_S 6 ∧ z_M 62 25 = z_S 7 := by decide +kernel
theorem zX_1 : WG 0 x_M0 z_S := ⟨by decide, fun i hi => absurd hi (Nat.not_lt_zero i), by decide +kernel, by decide +kernel⟩
theorem zX_2b : z_M 13 2 = nI 0 ∧ z_M 1 4 = 0 := by decide +kernel
theorem zX_3b : z_M 62 6 = nI 0 ∧ z_M 62 13 = -1 := by decide +kernel
theorem zX_2 : CG z_M 0 x_M0 none z_S := ⟨zX_2b.1, fun i hi => absurd hi (Nat.not_lt_zero i), zX_2b.2, zX_2a⟩
theorem zX_3 : RG z_M 0 x_M0 none z_S := ⟨zX_3b.1, fun i hi => absurd hi (Nat.not_lt_zero i), zX_3b.2, zX_3a⟩
theorem zX_4 : LX z_M 0 (fun _ => 0, z_S, z_S) 0 0 := ⟨⟨by decide, by decide, fun k hk => absurd hk (Nat.not_lt_zero k)⟩, ⟨by decide +kernel, by decide +kernel, fun k hk => absurd hk (Nat.not_lt_zero k)⟩, ⟨by decide +kernel, by decide +kernel, fun k hk => absurd hk (Nat.not_lt_zero k)⟩⟩
theorem zX_5 : KX z_M 0 := ⟨by decide +kernel, Or.inl (by decide +kernel)⟩
theorem RX_z : RX z_M := ⟨0, x_M0, none, z_S, (fun _ => 0, z_S, z_S), 0, 0, zX_1, ⟨zX_2, zX_3⟩, zX_4, zX_5⟩
theorem RY_z : RY z_M x_J0 := fun d hd => ⟨fun _ => ((z_s1 d hd).1).trans (z_84 d hd), fun q => absurd ((z_s1 d hd).2.2.symm.trans q) (by decide)⟩
set_option maxRecDepth 100000 in
set_option maxHeartbeats 4000000 in
theorem lwx {l : Launch} {G : xG} (hL : G.2.2.2.2.1 ≤ 3072) : x_X l G fL_law 200 600000 7302250 (qR (some (.int 1))) 0 [(0, .ref 1002)] [] [] x_M0 x_J0 0 0 := by
  refine xb_new (p := 0) (sh2 := h_1) (kc2 := 1) (ks2 := 10) nwL_7 dL_law_0 rfl (by decide) (fun _ => rfl) rfl rfl rfl (by decide) (by decide) ?_
  refine xr_dup dL_law_3 rfl ?_
  refine xb_cI (As := []) (rest := [.ref (0)]) (kc2 := 62) (ks2 := 1828) mlL_9 k_X9_0 dL_law_4 rfl rfl (by decide) (by decide) rfl rfl (by decide) (by decide) ?_
  refine xr_astore_n (ls2 := [(1, .ref (0)), (0, .ref (1002))]) dL_law_7 (by decide) rfl ?_
  refine xb_new (p := 62) (sh2 := h_128) (kc2 := 63) (ks2 := 1874) nwL_10 dL_law_8 rfl (by decide) (fun _ => rfl) rfl rfl rfl (by decide) (by decide) ?_
  refine xr_dup dL_law_11 rfl ?_
  refine xb_cI (As := []) (rest := [.ref (62)]) (kc2 := 87) (ks2 := 2934) mlL_12 k_X10_62 dL_law_12 rfl rfl (by decide) (by decide) rfl rfl (by decide) (by decide) ?_
  rw [h_done]
  change x_X l G fL_law 200 600000 7302250 (qR (some (.int 1))) 15 _ _ x_SH z_M x_J0 87 2934
  refine xr_astore_n (ls2 := [(2, .ref (62)), (1, .ref (0)), (0, .ref (1002))]) dL_law_15 (by decide) rfl ?_
  refine xr_iconst (v := 0) dL_law_16 rfl ?_
  refine xr_istore_n (ls2 := [(3, .int (0)), (2, .ref (62)), (1, .ref (0)), (0, .ref (1002))]) dL_law_17 (by decide) rfl ?_
  refine xb_ls (ls2 := [(3, .int (nI (0))), (2, .ref (62)), (1, .ref (0)), (0, .ref (1002))]) [0, 1, 2, 3] rfl ?_
  exact lwx_loop hL (lwx_case hL) G.2.2.2.2.1 0 z_M x_J0 (by omega) (Nat.zero_le _) InvC_z InvR_z RB_z RP_z RT_z RL_z RS_z RE_z RY_z RX_z
