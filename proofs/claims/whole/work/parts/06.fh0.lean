theorem pf_201_0 : pd_fetch 201 0 = some (.new 5, 3) := by decide +kernel
theorem pf_201_3 : pd_fetch 201 3 = some (.dup, 4) := by decide +kernel
theorem pf_201_4 : pd_fetch 201 4 = some (.invokespecial 62, 7) := by decide +kernel
theorem pf_201_7 : pd_fetch 201 7 = some (.astore 1, 8) := by decide +kernel
theorem pf_201_8 : pd_fetch 201 8 = some (.new 6, 11) := by decide +kernel
theorem pf_201_11 : pd_fetch 201 11 = some (.dup, 12) := by decide +kernel
theorem pf_201_12 : pd_fetch 201 12 = some (.invokespecial 106, 15) := by decide +kernel
theorem pf_201_15 : pd_fetch 201 15 = some (.astore 2, 16) := by decide +kernel
theorem pf_201_16 : pd_fetch 201 16 = some (.iconst 1, 17) := by decide +kernel
theorem pf_201_17 : pd_fetch 201 17 = some (.newarray .long, 19) := by decide +kernel
theorem pf_201_19 : pd_fetch 201 19 = some (.astore 3, 20) := by decide +kernel
theorem pf_201_20 : pd_fetch 201 20 = some (.iconst 0, 21) := by decide +kernel
theorem pf_201_21 : pd_fetch 201 21 = some (.istore 4, 23) := by decide +kernel
theorem pf_201_23 : pd_fetch 201 23 = some (.iload 4, 25) := by decide +kernel
theorem pf_201_25 : pd_fetch 201 25 = some (.aload 0, 26) := by decide +kernel
theorem pf_201_26 : pd_fetch 201 26 = some (.arraylength, 27) := by decide +kernel
theorem pf_201_27 : pd_fetch 201 27 = some (.iconst 5, 28) := by decide +kernel
theorem pf_201_28 : pd_fetch 201 28 = some (.isub, 29) := by decide +kernel
theorem pf_201_29 : pd_fetch 201 29 = some (.if_icmp .gt (Int.ofNat 1957), 32) := by decide +kernel
theorem pf_201_32 : pd_fetch 201 32 = some (.aload 0, 33) := by decide +kernel
theorem pf_201_33 : pd_fetch 201 33 = some (.iload 4, 35) := by decide +kernel
theorem pf_201_35 : pd_fetch 201 35 = some (.iaload, 36) := by decide +kernel
theorem pf_201_36 : pd_fetch 201 36 = some (.iconst 31, 38) := by decide +kernel
theorem pf_201_38 : pd_fetch 201 38 = some (.iand, 39) := by decide +kernel
theorem pf_201_39 : pd_fetch 201 39 = some (.tableswitch (Int.ofNat 1951) 0 31 #[Int.ofNat 180, Int.ofNat 236, Int.ofNat 249, Int.ofNat 262, Int.ofNat 306, Int.ofNat 362, Int.ofNat 430, Int.ofNat 498, Int.ofNat 566, Int.ofNat 627, Int.ofNat 683, Int.ofNat 751, Int.ofNat 831, Int.ofNat 887, Int.ofNat 967, Int.ofNat 1011, Int.ofNat 1067, Int.ofNat 1123, Int.ofNat 1206, Int.ofNat 1220, Int.ofNat 1234, Int.ofNat 1247, Int.ofNat 1260, Int.ofNat 1273, Int.ofNat 1365, Int.ofNat 1378, Int.ofNat 1473, Int.ofNat 1540, Int.ofNat 1640, Int.ofNat 1740, Int.ofNat 1839, Int.ofNat 1895], 180) := by decide +kernel
theorem pf_201_180 : pd_fetch 201 180 = some (.aload 1, 181) := by decide +kernel
theorem pf_201_181 : pd_fetch 201 181 = some (.aload 0, 182) := by decide +kernel
theorem pf_201_182 : pd_fetch 201 182 = some (.iload 4, 184) := by decide +kernel
theorem pf_201_184 : pd_fetch 201 184 = some (.iconst 1, 185) := by decide +kernel
theorem pf_201_185 : pd_fetch 201 185 = some (.iadd, 186) := by decide +kernel
theorem pf_201_186 : pd_fetch 201 186 = some (.iaload, 187) := by decide +kernel
theorem pf_201_187 : pd_fetch 201 187 = some (.aload 3, 188) := by decide +kernel
theorem pf_201_188 : pd_fetch 201 188 = some (.invokestatic 178, 191) := by decide +kernel
theorem pf_201_191 : pd_fetch 201 191 = some (.istore 5, 193) := by decide +kernel
theorem pf_201_193 : pd_fetch 201 193 = some (.aload 2, 194) := by decide +kernel
theorem pf_201_194 : pd_fetch 201 194 = some (.aload 0, 195) := by decide +kernel
theorem pf_201_195 : pd_fetch 201 195 = some (.iload 4, 197) := by decide +kernel
theorem pf_201_197 : pd_fetch 201 197 = some (.iconst 1, 198) := by decide +kernel
theorem pf_201_198 : pd_fetch 201 198 = some (.iadd, 199) := by decide +kernel
theorem pf_201_199 : pd_fetch 201 199 = some (.iaload, 200) := by decide +kernel
theorem pf_201_200 : pd_fetch 201 200 = some (.invokevirtual 127, 203) := by decide +kernel
theorem pf_201_203 : pd_fetch 201 203 = some (.istore 6, 205) := by decide +kernel
theorem pf_201_205 : pd_fetch 201 205 = some (.aload 2, 206) := by decide +kernel
theorem pf_201_206 : pd_fetch 201 206 = some (.invokevirtual 107, 209) := by decide +kernel
theorem pf_201_209 : pd_fetch 201 209 = some (.iload 5, 211) := by decide +kernel
theorem pf_201_211 : pd_fetch 201 211 = some (.if_icmp .eq (Int.ofNat 216), 214) := by decide +kernel
theorem pf_201_214 : pd_fetch 201 214 = some (.iconst 0, 215) := by decide +kernel
theorem pf_201_215 : pd_fetch 201 215 = some (.ireturn, 216) := by decide +kernel
theorem pf_201_216 : pd_fetch 201 216 = some (.iload 5, 218) := by decide +kernel
theorem pf_201_218 : pd_fetch 201 218 = some (.ifCond .ne (Int.ofNat 233), 221) := by decide +kernel
theorem pf_201_221 : pd_fetch 201 221 = some (.aload 3, 222) := by decide +kernel
theorem pf_201_222 : pd_fetch 201 222 = some (.iconst 0, 223) := by decide +kernel
theorem pf_201_223 : pd_fetch 201 223 = some (.laload, 224) := by decide +kernel
theorem pf_201_224 : pd_fetch 201 224 = some (.iload 6, 226) := by decide +kernel
theorem pf_201_226 : pd_fetch 201 226 = some (.i2l, 227) := by decide +kernel
theorem pf_201_227 : pd_fetch 201 227 = some (.lcmp, 228) := by decide +kernel
theorem pf_201_228 : pd_fetch 201 228 = some (.ifCond .eq (Int.ofNat 233), 231) := by decide +kernel
theorem pf_201_231 : pd_fetch 201 231 = some (.iconst 0, 232) := by decide +kernel
theorem pf_201_232 : pd_fetch 201 232 = some (.ireturn, 233) := by decide +kernel
theorem pf_201_233 : pd_fetch 201 233 = some (.goto (Int.ofNat 1951), 236) := by decide +kernel
theorem pf_201_236 : pd_fetch 201 236 = some (.aload 1, 237) := by decide +kernel
theorem pf_201_237 : pd_fetch 201 237 = some (.invokevirtual 64, 240) := by decide +kernel
theorem pf_201_240 : pd_fetch 201 240 = some (.aload 2, 241) := by decide +kernel
theorem pf_201_241 : pd_fetch 201 241 = some (.invokevirtual 128, 244) := by decide +kernel
theorem pf_201_244 : pd_fetch 201 244 = some (.if_icmp .eq (Int.ofNat 1951), 247) := by decide +kernel
theorem pf_201_247 : pd_fetch 201 247 = some (.iconst 0, 248) := by decide +kernel
theorem pf_201_248 : pd_fetch 201 248 = some (.ireturn, 249) := by decide +kernel
theorem pf_201_249 : pd_fetch 201 249 = some (.aload 1, 250) := by decide +kernel
theorem pf_201_250 : pd_fetch 201 250 = some (.invokevirtual 65, 253) := by decide +kernel
theorem pf_201_253 : pd_fetch 201 253 = some (.aload 2, 254) := by decide +kernel
theorem pf_201_254 : pd_fetch 201 254 = some (.invokevirtual 141, 257) := by decide +kernel
theorem pf_201_257 : pd_fetch 201 257 = some (.if_icmp .eq (Int.ofNat 1951), 260) := by decide +kernel
theorem pf_201_260 : pd_fetch 201 260 = some (.iconst 0, 261) := by decide +kernel
theorem pf_201_261 : pd_fetch 201 261 = some (.ireturn, 262) := by decide +kernel
theorem pf_201_262 : pd_fetch 201 262 = some (.aload 1, 263) := by decide +kernel
theorem pf_201_263 : pd_fetch 201 263 = some (.aload 3, 264) := by decide +kernel
theorem pf_201_264 : pd_fetch 201 264 = some (.invokestatic 179, 267) := by decide +kernel
theorem pf_201_267 : pd_fetch 201 267 = some (.istore 5, 269) := by decide +kernel
theorem pf_201_269 : pd_fetch 201 269 = some (.aload 2, 270) := by decide +kernel
theorem pf_201_270 : pd_fetch 201 270 = some (.invokevirtual 142, 273) := by decide +kernel
theorem pf_201_273 : pd_fetch 201 273 = some (.istore 6, 275) := by decide +kernel
theorem pf_201_275 : pd_fetch 201 275 = some (.aload 2, 276) := by decide +kernel
theorem pf_201_276 : pd_fetch 201 276 = some (.invokevirtual 107, 279) := by decide +kernel
theorem pf_201_279 : pd_fetch 201 279 = some (.iload 5, 281) := by decide +kernel
theorem pf_201_281 : pd_fetch 201 281 = some (.if_icmp .eq (Int.ofNat 286), 284) := by decide +kernel
theorem pf_201_284 : pd_fetch 201 284 = some (.iconst 0, 285) := by decide +kernel
theorem pf_201_285 : pd_fetch 201 285 = some (.ireturn, 286) := by decide +kernel
theorem pf_201_286 : pd_fetch 201 286 = some (.iload 5, 288) := by decide +kernel
theorem pf_201_288 : pd_fetch 201 288 = some (.ifCond .ne (Int.ofNat 303), 291) := by decide +kernel
theorem pf_201_291 : pd_fetch 201 291 = some (.aload 3, 292) := by decide +kernel
theorem pf_201_292 : pd_fetch 201 292 = some (.iconst 0, 293) := by decide +kernel
theorem pf_201_293 : pd_fetch 201 293 = some (.laload, 294) := by decide +kernel
theorem pf_201_294 : pd_fetch 201 294 = some (.iload 6, 296) := by decide +kernel
theorem pf_201_296 : pd_fetch 201 296 = some (.i2l, 297) := by decide +kernel
theorem pf_201_297 : pd_fetch 201 297 = some (.lcmp, 298) := by decide +kernel
theorem pf_201_298 : pd_fetch 201 298 = some (.ifCond .eq (Int.ofNat 303), 301) := by decide +kernel
theorem pf_201_301 : pd_fetch 201 301 = some (.iconst 0, 302) := by decide +kernel
theorem pf_201_302 : pd_fetch 201 302 = some (.ireturn, 303) := by decide +kernel
theorem pf_201_303 : pd_fetch 201 303 = some (.goto (Int.ofNat 1951), 306) := by decide +kernel
theorem pf_201_306 : pd_fetch 201 306 = some (.aload 1, 307) := by decide +kernel
theorem pf_201_307 : pd_fetch 201 307 = some (.aload 0, 308) := by decide +kernel
theorem pf_201_308 : pd_fetch 201 308 = some (.iload 4, 310) := by decide +kernel
theorem pf_201_310 : pd_fetch 201 310 = some (.iconst 1, 311) := by decide +kernel
theorem pf_201_311 : pd_fetch 201 311 = some (.iadd, 312) := by decide +kernel
theorem pf_201_312 : pd_fetch 201 312 = some (.iaload, 313) := by decide +kernel
theorem pf_201_313 : pd_fetch 201 313 = some (.aload 3, 314) := by decide +kernel
theorem pf_201_314 : pd_fetch 201 314 = some (.invokestatic 180, 317) := by decide +kernel
theorem pf_201_317 : pd_fetch 201 317 = some (.istore 5, 319) := by decide +kernel
theorem pf_201_319 : pd_fetch 201 319 = some (.aload 2, 320) := by decide +kernel
theorem pf_201_320 : pd_fetch 201 320 = some (.aload 0, 321) := by decide +kernel
theorem pf_201_321 : pd_fetch 201 321 = some (.iload 4, 323) := by decide +kernel
theorem pf_201_323 : pd_fetch 201 323 = some (.iconst 1, 324) := by decide +kernel
theorem pf_201_324 : pd_fetch 201 324 = some (.iadd, 325) := by decide +kernel
theorem pf_201_325 : pd_fetch 201 325 = some (.iaload, 326) := by decide +kernel
theorem pf_201_326 : pd_fetch 201 326 = some (.invokevirtual 143, 329) := by decide +kernel
theorem pf_201_329 : pd_fetch 201 329 = some (.istore 6, 331) := by decide +kernel
theorem pf_201_331 : pd_fetch 201 331 = some (.aload 2, 332) := by decide +kernel
theorem pf_201_332 : pd_fetch 201 332 = some (.invokevirtual 107, 335) := by decide +kernel
theorem pf_201_335 : pd_fetch 201 335 = some (.iload 5, 337) := by decide +kernel
theorem pf_201_337 : pd_fetch 201 337 = some (.if_icmp .eq (Int.ofNat 342), 340) := by decide +kernel
theorem pf_201_340 : pd_fetch 201 340 = some (.iconst 0, 341) := by decide +kernel
theorem pf_201_341 : pd_fetch 201 341 = some (.ireturn, 342) := by decide +kernel
theorem pf_201_342 : pd_fetch 201 342 = some (.iload 5, 344) := by decide +kernel
theorem pf_201_344 : pd_fetch 201 344 = some (.ifCond .ne (Int.ofNat 359), 347) := by decide +kernel
theorem pf_201_347 : pd_fetch 201 347 = some (.aload 3, 348) := by decide +kernel
theorem pf_201_348 : pd_fetch 201 348 = some (.iconst 0, 349) := by decide +kernel
theorem pf_201_349 : pd_fetch 201 349 = some (.laload, 350) := by decide +kernel
theorem pf_201_350 : pd_fetch 201 350 = some (.iload 6, 352) := by decide +kernel
theorem pf_201_352 : pd_fetch 201 352 = some (.i2l, 353) := by decide +kernel
theorem pf_201_353 : pd_fetch 201 353 = some (.lcmp, 354) := by decide +kernel
theorem pf_201_354 : pd_fetch 201 354 = some (.ifCond .eq (Int.ofNat 359), 357) := by decide +kernel
theorem pf_201_357 : pd_fetch 201 357 = some (.iconst 0, 358) := by decide +kernel
theorem pf_201_358 : pd_fetch 201 358 = some (.ireturn, 359) := by decide +kernel
theorem pf_201_359 : pd_fetch 201 359 = some (.goto (Int.ofNat 1951), 362) := by decide +kernel
theorem pf_201_362 : pd_fetch 201 362 = some (.aload 1, 363) := by decide +kernel
theorem pf_201_363 : pd_fetch 201 363 = some (.aload 0, 364) := by decide +kernel
theorem pf_201_364 : pd_fetch 201 364 = some (.iload 4, 366) := by decide +kernel
theorem pf_201_366 : pd_fetch 201 366 = some (.iconst 1, 367) := by decide +kernel
theorem pf_201_367 : pd_fetch 201 367 = some (.iadd, 368) := by decide +kernel
theorem pf_201_368 : pd_fetch 201 368 = some (.iaload, 369) := by decide +kernel
theorem pf_201_369 : pd_fetch 201 369 = some (.aload 0, 370) := by decide +kernel
theorem pf_201_370 : pd_fetch 201 370 = some (.iload 4, 372) := by decide +kernel
theorem pf_201_372 : pd_fetch 201 372 = some (.iconst 2, 373) := by decide +kernel
theorem pf_201_373 : pd_fetch 201 373 = some (.iadd, 374) := by decide +kernel
theorem pf_201_374 : pd_fetch 201 374 = some (.iaload, 375) := by decide +kernel
theorem pf_201_375 : pd_fetch 201 375 = some (.aload 3, 376) := by decide +kernel
theorem pf_201_376 : pd_fetch 201 376 = some (.invokestatic 181, 379) := by decide +kernel
theorem pf_201_379 : pd_fetch 201 379 = some (.istore 5, 381) := by decide +kernel
theorem pf_201_381 : pd_fetch 201 381 = some (.aload 2, 382) := by decide +kernel
theorem pf_201_382 : pd_fetch 201 382 = some (.aload 0, 383) := by decide +kernel
theorem pf_201_383 : pd_fetch 201 383 = some (.iload 4, 385) := by decide +kernel
theorem pf_201_385 : pd_fetch 201 385 = some (.iconst 1, 386) := by decide +kernel
theorem pf_201_386 : pd_fetch 201 386 = some (.iadd, 387) := by decide +kernel
theorem pf_201_387 : pd_fetch 201 387 = some (.iaload, 388) := by decide +kernel
theorem pf_201_388 : pd_fetch 201 388 = some (.aload 0, 389) := by decide +kernel
theorem pf_201_389 : pd_fetch 201 389 = some (.iload 4, 391) := by decide +kernel
theorem pf_201_391 : pd_fetch 201 391 = some (.iconst 2, 392) := by decide +kernel
theorem pf_201_392 : pd_fetch 201 392 = some (.iadd, 393) := by decide +kernel
theorem pf_201_393 : pd_fetch 201 393 = some (.iaload, 394) := by decide +kernel
theorem pf_201_394 : pd_fetch 201 394 = some (.invokevirtual 144, 397) := by decide +kernel
theorem pf_201_397 : pd_fetch 201 397 = some (.istore 6, 399) := by decide +kernel
theorem pf_201_399 : pd_fetch 201 399 = some (.aload 2, 400) := by decide +kernel
theorem pf_201_400 : pd_fetch 201 400 = some (.invokevirtual 107, 403) := by decide +kernel
theorem pf_201_403 : pd_fetch 201 403 = some (.iload 5, 405) := by decide +kernel
theorem pf_201_405 : pd_fetch 201 405 = some (.if_icmp .eq (Int.ofNat 410), 408) := by decide +kernel
theorem pf_201_408 : pd_fetch 201 408 = some (.iconst 0, 409) := by decide +kernel
theorem pf_201_409 : pd_fetch 201 409 = some (.ireturn, 410) := by decide +kernel
theorem pf_201_410 : pd_fetch 201 410 = some (.iload 5, 412) := by decide +kernel
theorem pf_201_412 : pd_fetch 201 412 = some (.ifCond .ne (Int.ofNat 427), 415) := by decide +kernel
theorem pf_201_415 : pd_fetch 201 415 = some (.aload 3, 416) := by decide +kernel
theorem pf_201_416 : pd_fetch 201 416 = some (.iconst 0, 417) := by decide +kernel
theorem pf_201_417 : pd_fetch 201 417 = some (.laload, 418) := by decide +kernel
theorem pf_201_418 : pd_fetch 201 418 = some (.iload 6, 420) := by decide +kernel
theorem pf_201_420 : pd_fetch 201 420 = some (.i2l, 421) := by decide +kernel
theorem pf_201_421 : pd_fetch 201 421 = some (.lcmp, 422) := by decide +kernel
theorem pf_201_422 : pd_fetch 201 422 = some (.ifCond .eq (Int.ofNat 427), 425) := by decide +kernel
theorem pf_201_425 : pd_fetch 201 425 = some (.iconst 0, 426) := by decide +kernel
theorem pf_201_426 : pd_fetch 201 426 = some (.ireturn, 427) := by decide +kernel
theorem pf_201_427 : pd_fetch 201 427 = some (.goto (Int.ofNat 1951), 430) := by decide +kernel
theorem pf_201_430 : pd_fetch 201 430 = some (.aload 1, 431) := by decide +kernel
theorem pf_201_431 : pd_fetch 201 431 = some (.aload 0, 432) := by decide +kernel
theorem pf_201_432 : pd_fetch 201 432 = some (.iload 4, 434) := by decide +kernel
theorem pf_201_434 : pd_fetch 201 434 = some (.iconst 1, 435) := by decide +kernel
theorem pf_201_435 : pd_fetch 201 435 = some (.iadd, 436) := by decide +kernel
theorem pf_201_436 : pd_fetch 201 436 = some (.iaload, 437) := by decide +kernel
theorem pf_201_437 : pd_fetch 201 437 = some (.aload 0, 438) := by decide +kernel
theorem pf_201_438 : pd_fetch 201 438 = some (.iload 4, 440) := by decide +kernel
theorem pf_201_440 : pd_fetch 201 440 = some (.iconst 2, 441) := by decide +kernel
theorem pf_201_441 : pd_fetch 201 441 = some (.iadd, 442) := by decide +kernel
theorem pf_201_442 : pd_fetch 201 442 = some (.iaload, 443) := by decide +kernel
theorem pf_201_443 : pd_fetch 201 443 = some (.aload 3, 444) := by decide +kernel
theorem pf_201_444 : pd_fetch 201 444 = some (.invokestatic 182, 447) := by decide +kernel
theorem pf_201_447 : pd_fetch 201 447 = some (.istore 5, 449) := by decide +kernel
theorem pf_201_449 : pd_fetch 201 449 = some (.aload 2, 450) := by decide +kernel
theorem pf_201_450 : pd_fetch 201 450 = some (.aload 0, 451) := by decide +kernel
theorem pf_201_451 : pd_fetch 201 451 = some (.iload 4, 453) := by decide +kernel
theorem pf_201_453 : pd_fetch 201 453 = some (.iconst 1, 454) := by decide +kernel
theorem pf_201_454 : pd_fetch 201 454 = some (.iadd, 455) := by decide +kernel
theorem pf_201_455 : pd_fetch 201 455 = some (.iaload, 456) := by decide +kernel
theorem pf_201_456 : pd_fetch 201 456 = some (.aload 0, 457) := by decide +kernel
theorem pf_201_457 : pd_fetch 201 457 = some (.iload 4, 459) := by decide +kernel
theorem pf_201_459 : pd_fetch 201 459 = some (.iconst 2, 460) := by decide +kernel
theorem pf_201_460 : pd_fetch 201 460 = some (.iadd, 461) := by decide +kernel
theorem pf_201_461 : pd_fetch 201 461 = some (.iaload, 462) := by decide +kernel
theorem pf_201_462 : pd_fetch 201 462 = some (.invokevirtual 147, 465) := by decide +kernel
theorem pf_201_465 : pd_fetch 201 465 = some (.istore 6, 467) := by decide +kernel
theorem pf_201_467 : pd_fetch 201 467 = some (.aload 2, 468) := by decide +kernel
theorem pf_201_468 : pd_fetch 201 468 = some (.invokevirtual 107, 471) := by decide +kernel
theorem pf_201_471 : pd_fetch 201 471 = some (.iload 5, 473) := by decide +kernel
theorem pf_201_473 : pd_fetch 201 473 = some (.if_icmp .eq (Int.ofNat 478), 476) := by decide +kernel
theorem pf_201_476 : pd_fetch 201 476 = some (.iconst 0, 477) := by decide +kernel
theorem pf_201_477 : pd_fetch 201 477 = some (.ireturn, 478) := by decide +kernel
theorem pf_201_478 : pd_fetch 201 478 = some (.iload 5, 480) := by decide +kernel
theorem pf_201_480 : pd_fetch 201 480 = some (.ifCond .ne (Int.ofNat 495), 483) := by decide +kernel
theorem pf_201_483 : pd_fetch 201 483 = some (.aload 3, 484) := by decide +kernel
theorem pf_201_484 : pd_fetch 201 484 = some (.iconst 0, 485) := by decide +kernel
theorem pf_201_485 : pd_fetch 201 485 = some (.laload, 486) := by decide +kernel
theorem pf_201_486 : pd_fetch 201 486 = some (.iload 6, 488) := by decide +kernel
theorem pf_201_488 : pd_fetch 201 488 = some (.i2l, 489) := by decide +kernel
theorem pf_201_489 : pd_fetch 201 489 = some (.lcmp, 490) := by decide +kernel
theorem pf_201_490 : pd_fetch 201 490 = some (.ifCond .eq (Int.ofNat 495), 493) := by decide +kernel
theorem pf_201_493 : pd_fetch 201 493 = some (.iconst 0, 494) := by decide +kernel
theorem pf_201_494 : pd_fetch 201 494 = some (.ireturn, 495) := by decide +kernel
theorem pf_201_495 : pd_fetch 201 495 = some (.goto (Int.ofNat 1951), 498) := by decide +kernel
theorem pf_201_498 : pd_fetch 201 498 = some (.aload 1, 499) := by decide +kernel
theorem pf_201_499 : pd_fetch 201 499 = some (.aload 0, 500) := by decide +kernel
theorem pf_201_500 : pd_fetch 201 500 = some (.iload 4, 502) := by decide +kernel
theorem pf_201_502 : pd_fetch 201 502 = some (.iconst 1, 503) := by decide +kernel
theorem pf_201_503 : pd_fetch 201 503 = some (.iadd, 504) := by decide +kernel
theorem pf_201_504 : pd_fetch 201 504 = some (.iaload, 505) := by decide +kernel
theorem pf_201_505 : pd_fetch 201 505 = some (.aload 0, 506) := by decide +kernel
theorem pf_201_506 : pd_fetch 201 506 = some (.iload 4, 508) := by decide +kernel
theorem pf_201_508 : pd_fetch 201 508 = some (.iconst 2, 509) := by decide +kernel
theorem pf_201_509 : pd_fetch 201 509 = some (.iadd, 510) := by decide +kernel
theorem pf_201_510 : pd_fetch 201 510 = some (.iaload, 511) := by decide +kernel
theorem pf_201_511 : pd_fetch 201 511 = some (.aload 3, 512) := by decide +kernel
theorem pf_201_512 : pd_fetch 201 512 = some (.invokestatic 183, 515) := by decide +kernel
theorem pf_201_515 : pd_fetch 201 515 = some (.istore 5, 517) := by decide +kernel
theorem pf_201_517 : pd_fetch 201 517 = some (.aload 2, 518) := by decide +kernel
theorem pf_201_518 : pd_fetch 201 518 = some (.aload 0, 519) := by decide +kernel
theorem pf_201_519 : pd_fetch 201 519 = some (.iload 4, 521) := by decide +kernel
theorem pf_201_521 : pd_fetch 201 521 = some (.iconst 1, 522) := by decide +kernel
theorem pf_201_522 : pd_fetch 201 522 = some (.iadd, 523) := by decide +kernel
theorem pf_201_523 : pd_fetch 201 523 = some (.iaload, 524) := by decide +kernel
theorem pf_201_524 : pd_fetch 201 524 = some (.aload 0, 525) := by decide +kernel
theorem pf_201_525 : pd_fetch 201 525 = some (.iload 4, 527) := by decide +kernel
theorem pf_201_527 : pd_fetch 201 527 = some (.iconst 2, 528) := by decide +kernel
theorem pf_201_528 : pd_fetch 201 528 = some (.iadd, 529) := by decide +kernel
theorem pf_201_529 : pd_fetch 201 529 = some (.iaload, 530) := by decide +kernel
theorem pf_201_530 : pd_fetch 201 530 = some (.invokevirtual 148, 533) := by decide +kernel
theorem pf_201_533 : pd_fetch 201 533 = some (.istore 6, 535) := by decide +kernel
theorem pf_201_535 : pd_fetch 201 535 = some (.aload 2, 536) := by decide +kernel
theorem pf_201_536 : pd_fetch 201 536 = some (.invokevirtual 107, 539) := by decide +kernel
theorem pf_201_539 : pd_fetch 201 539 = some (.iload 5, 541) := by decide +kernel
theorem pf_201_541 : pd_fetch 201 541 = some (.if_icmp .eq (Int.ofNat 546), 544) := by decide +kernel
theorem pf_201_544 : pd_fetch 201 544 = some (.iconst 0, 545) := by decide +kernel
theorem pf_201_545 : pd_fetch 201 545 = some (.ireturn, 546) := by decide +kernel
theorem pf_201_546 : pd_fetch 201 546 = some (.iload 5, 548) := by decide +kernel
theorem pf_201_548 : pd_fetch 201 548 = some (.ifCond .ne (Int.ofNat 563), 551) := by decide +kernel
theorem pf_201_551 : pd_fetch 201 551 = some (.aload 3, 552) := by decide +kernel
theorem pf_201_552 : pd_fetch 201 552 = some (.iconst 0, 553) := by decide +kernel
theorem pf_201_553 : pd_fetch 201 553 = some (.laload, 554) := by decide +kernel
theorem pf_201_554 : pd_fetch 201 554 = some (.iload 6, 556) := by decide +kernel
theorem pf_201_556 : pd_fetch 201 556 = some (.i2l, 557) := by decide +kernel
theorem pf_201_557 : pd_fetch 201 557 = some (.lcmp, 558) := by decide +kernel
theorem pf_201_558 : pd_fetch 201 558 = some (.ifCond .eq (Int.ofNat 563), 561) := by decide +kernel
theorem pf_201_561 : pd_fetch 201 561 = some (.iconst 0, 562) := by decide +kernel
theorem pf_201_562 : pd_fetch 201 562 = some (.ireturn, 563) := by decide +kernel
theorem pf_201_563 : pd_fetch 201 563 = some (.goto (Int.ofNat 1951), 566) := by decide +kernel
theorem pf_201_566 : pd_fetch 201 566 = some (.aload 1, 567) := by decide +kernel
theorem pf_201_567 : pd_fetch 201 567 = some (.aload 0, 568) := by decide +kernel
theorem pf_201_568 : pd_fetch 201 568 = some (.iload 4, 570) := by decide +kernel
theorem pf_201_570 : pd_fetch 201 570 = some (.iconst 1, 571) := by decide +kernel
theorem pf_201_571 : pd_fetch 201 571 = some (.iadd, 572) := by decide +kernel
theorem pf_201_572 : pd_fetch 201 572 = some (.iaload, 573) := by decide +kernel
theorem pf_201_573 : pd_fetch 201 573 = some (.aload 0, 574) := by decide +kernel
theorem pf_201_574 : pd_fetch 201 574 = some (.iload 4, 576) := by decide +kernel
theorem pf_201_576 : pd_fetch 201 576 = some (.iconst 2, 577) := by decide +kernel
theorem pf_201_577 : pd_fetch 201 577 = some (.iadd, 578) := by decide +kernel
theorem pf_201_578 : pd_fetch 201 578 = some (.iaload, 579) := by decide +kernel
theorem pf_201_579 : pd_fetch 201 579 = some (.aload 0, 580) := by decide +kernel
theorem pf_201_580 : pd_fetch 201 580 = some (.iload 4, 582) := by decide +kernel
theorem pf_201_582 : pd_fetch 201 582 = some (.iconst 3, 583) := by decide +kernel
theorem pf_201_583 : pd_fetch 201 583 = some (.iadd, 584) := by decide +kernel
theorem pf_201_584 : pd_fetch 201 584 = some (.iaload, 585) := by decide +kernel
theorem pf_201_585 : pd_fetch 201 585 = some (.aload 0, 586) := by decide +kernel
theorem pf_201_586 : pd_fetch 201 586 = some (.iload 4, 588) := by decide +kernel
theorem pf_201_588 : pd_fetch 201 588 = some (.iconst 4, 589) := by decide +kernel
theorem pf_201_589 : pd_fetch 201 589 = some (.iadd, 590) := by decide +kernel
theorem pf_201_590 : pd_fetch 201 590 = some (.iaload, 591) := by decide +kernel
theorem pf_201_591 : pd_fetch 201 591 = some (.invokevirtual 71, 594) := by decide +kernel
theorem pf_201_594 : pd_fetch 201 594 = some (.aload 2, 595) := by decide +kernel
theorem pf_201_595 : pd_fetch 201 595 = some (.aload 0, 596) := by decide +kernel
theorem pf_201_596 : pd_fetch 201 596 = some (.iload 4, 598) := by decide +kernel
theorem pf_201_598 : pd_fetch 201 598 = some (.iconst 1, 599) := by decide +kernel
theorem pf_201_599 : pd_fetch 201 599 = some (.iadd, 600) := by decide +kernel
theorem pf_201_600 : pd_fetch 201 600 = some (.iaload, 601) := by decide +kernel
theorem pf_201_601 : pd_fetch 201 601 = some (.aload 0, 602) := by decide +kernel
theorem pf_201_602 : pd_fetch 201 602 = some (.iload 4, 604) := by decide +kernel
theorem pf_201_604 : pd_fetch 201 604 = some (.iconst 2, 605) := by decide +kernel
