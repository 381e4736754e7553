theorem dL_law_208 : decode cL_law 208 = .ok (.aload_n 1, 1) := by decide +kernel
theorem dL_law_209 : decode cL_law 209 = .ok (.aload_n 0, 1) := by decide +kernel
theorem dL_law_210 : decode cL_law 210 = .ok (.iload 4, 2) := by decide +kernel
theorem dL_law_212 : decode cL_law 212 = .ok (.iconst 1, 1) := by decide +kernel
theorem dL_law_213 : decode cL_law 213 = .ok (.iadd, 1) := by decide +kernel
theorem dL_law_214 : decode cL_law 214 = .ok (.iaload, 1) := by decide +kernel
theorem dL_law_215 : decode cL_law 215 = .ok (.aload_n 0, 1) := by decide +kernel
theorem dL_law_216 : decode cL_law 216 = .ok (.iload 4, 2) := by decide +kernel
theorem dL_law_218 : decode cL_law 218 = .ok (.iconst 2, 1) := by decide +kernel
theorem dL_law_219 : decode cL_law 219 = .ok (.iadd, 1) := by decide +kernel
theorem dL_law_220 : decode cL_law 220 = .ok (.iaload, 1) := by decide +kernel
theorem dL_law_221 : decode cL_law 221 = .ok (.aload_n 0, 1) := by decide +kernel
theorem dL_law_222 : decode cL_law 222 = .ok (.iload 4, 2) := by decide +kernel
theorem dL_law_224 : decode cL_law 224 = .ok (.iconst 3, 1) := by decide +kernel
theorem dL_law_225 : decode cL_law 225 = .ok (.iadd, 1) := by decide +kernel
theorem dL_law_226 : decode cL_law 226 = .ok (.iaload, 1) := by decide +kernel
theorem dL_law_227 : decode cL_law 227 = .ok (.aload_n 0, 1) := by decide +kernel
theorem dL_law_228 : decode cL_law 228 = .ok (.iload 4, 2) := by decide +kernel
theorem dL_law_230 : decode cL_law 230 = .ok (.iconst 4, 1) := by decide +kernel
theorem dL_law_231 : decode cL_law 231 = .ok (.iadd, 1) := by decide +kernel
theorem dL_law_232 : decode cL_law 232 = .ok (.iaload, 1) := by decide +kernel
theorem dL_law_233 : decode cL_law 233 = .ok (.aload_n 0, 1) := by decide +kernel
theorem dL_law_234 : decode cL_law 234 = .ok (.iload 4, 2) := by decide +kernel
theorem dL_law_236 : decode cL_law 236 = .ok (.iconst 5, 1) := by decide +kernel
theorem dL_law_237 : decode cL_law 237 = .ok (.iadd, 1) := by decide +kernel
theorem dL_law_238 : decode cL_law 238 = .ok (.iaload, 1) := by decide +kernel
theorem dL_law_239 : decode cL_law 239 = .ok (.invokevirtual 19, 3) := by decide +kernel
theorem dL_law_242 : decode cL_law 242 = .ok (.aload_n 2, 1) := by decide +kernel
theorem dL_law_243 : decode cL_law 243 = .ok (.aload_n 0, 1) := by decide +kernel
theorem dL_law_244 : decode cL_law 244 = .ok (.iload 4, 2) := by decide +kernel
theorem dL_law_246 : decode cL_law 246 = .ok (.iconst 1, 1) := by decide +kernel
theorem dL_law_247 : decode cL_law 247 = .ok (.iadd, 1) := by decide +kernel
theorem dL_law_248 : decode cL_law 248 = .ok (.iaload, 1) := by decide +kernel
theorem dL_law_249 : decode cL_law 249 = .ok (.aload_n 0, 1) := by decide +kernel
theorem dL_law_250 : decode cL_law 250 = .ok (.iload 4, 2) := by decide +kernel
theorem dL_law_252 : decode cL_law 252 = .ok (.iconst 2, 1) := by decide +kernel
theorem dL_law_253 : decode cL_law 253 = .ok (.iadd, 1) := by decide +kernel
theorem dL_law_254 : decode cL_law 254 = .ok (.iaload, 1) := by decide +kernel
theorem dL_law_255 : decode cL_law 255 = .ok (.aload_n 0, 1) := by decide +kernel
theorem dL_law_256 : decode cL_law 256 = .ok (.iload 4, 2) := by decide +kernel
theorem dL_law_258 : decode cL_law 258 = .ok (.iconst 3, 1) := by decide +kernel
theorem dL_law_259 : decode cL_law 259 = .ok (.iadd, 1) := by decide +kernel
theorem dL_law_260 : decode cL_law 260 = .ok (.iaload, 1) := by decide +kernel
theorem dL_law_261 : decode cL_law 261 = .ok (.aload_n 0, 1) := by decide +kernel
theorem dL_law_262 : decode cL_law 262 = .ok (.iload 4, 2) := by decide +kernel
theorem dL_law_264 : decode cL_law 264 = .ok (.iconst 4, 1) := by decide +kernel
theorem dL_law_265 : decode cL_law 265 = .ok (.iadd, 1) := by decide +kernel
theorem dL_law_266 : decode cL_law 266 = .ok (.iaload, 1) := by decide +kernel
theorem dL_law_267 : decode cL_law 267 = .ok (.aload_n 0, 1) := by decide +kernel
theorem dL_law_268 : decode cL_law 268 = .ok (.iload 4, 2) := by decide +kernel
theorem dL_law_270 : decode cL_law 270 = .ok (.iconst 5, 1) := by decide +kernel
theorem dL_law_271 : decode cL_law 271 = .ok (.iadd, 1) := by decide +kernel
theorem dL_law_272 : decode cL_law 272 = .ok (.iaload, 1) := by decide +kernel
theorem dL_law_273 : decode cL_law 273 = .ok (.invokevirtual 23, 3) := by decide +kernel
theorem dL_law_276 : decode cL_law 276 = .ok (.if_icmp .eq 1468, 3) := by decide +kernel
theorem dL_law_281 : decode cL_law 281 = .ok (.aload_n 1, 1) := by decide +kernel
theorem dL_law_282 : decode cL_law 282 = .ok (.aload_n 0, 1) := by decide +kernel
theorem dL_law_283 : decode cL_law 283 = .ok (.iload 4, 2) := by decide +kernel
theorem dL_law_285 : decode cL_law 285 = .ok (.iconst 1, 1) := by decide +kernel
theorem dL_law_286 : decode cL_law 286 = .ok (.iadd, 1) := by decide +kernel
theorem dL_law_287 : decode cL_law 287 = .ok (.iaload, 1) := by decide +kernel
theorem dL_law_288 : decode cL_law 288 = .ok (.invokevirtual 24, 3) := by decide +kernel
theorem dL_law_291 : decode cL_law 291 = .ok (.aload_n 2, 1) := by decide +kernel
theorem dL_law_292 : decode cL_law 292 = .ok (.aload_n 0, 1) := by decide +kernel
theorem dL_law_293 : decode cL_law 293 = .ok (.iload 4, 2) := by decide +kernel
theorem dL_law_295 : decode cL_law 295 = .ok (.iconst 1, 1) := by decide +kernel
theorem dL_law_296 : decode cL_law 296 = .ok (.iadd, 1) := by decide +kernel
theorem dL_law_297 : decode cL_law 297 = .ok (.iaload, 1) := by decide +kernel
theorem dL_law_298 : decode cL_law 298 = .ok (.invokevirtual 28, 3) := by decide +kernel
theorem dL_law_301 : decode cL_law 301 = .ok (.if_icmp .eq 1443, 3) := by decide +kernel
theorem dL_law_306 : decode cL_law 306 = .ok (.aload_n 1, 1) := by decide +kernel
theorem dL_law_307 : decode cL_law 307 = .ok (.invokevirtual 29, 3) := by decide +kernel
theorem dL_law_310 : decode cL_law 310 = .ok (.aload_n 2, 1) := by decide +kernel
theorem dL_law_311 : decode cL_law 311 = .ok (.invokevirtual 33, 3) := by decide +kernel
theorem dL_law_314 : decode cL_law 314 = .ok (.if_icmp .eq 1430, 3) := by decide +kernel
theorem dL_law_319 : decode cL_law 319 = .ok (.aload_n 1, 1) := by decide +kernel
theorem dL_law_320 : decode cL_law 320 = .ok (.invokevirtual 34, 3) := by decide +kernel
theorem dL_law_323 : decode cL_law 323 = .ok (.aload_n 2, 1) := by decide +kernel
theorem dL_law_324 : decode cL_law 324 = .ok (.invokevirtual 37, 3) := by decide +kernel
theorem dL_law_327 : decode cL_law 327 = .ok (.if_icmp .eq 1417, 3) := by decide +kernel
theorem dL_law_332 : decode cL_law 332 = .ok (.aload_n 1, 1) := by decide +kernel
theorem dL_law_333 : decode cL_law 333 = .ok (.aload_n 0, 1) := by decide +kernel
theorem dL_law_334 : decode cL_law 334 = .ok (.iload 4, 2) := by decide +kernel
theorem dL_law_336 : decode cL_law 336 = .ok (.iconst 1, 1) := by decide +kernel
theorem dL_law_337 : decode cL_law 337 = .ok (.iadd, 1) := by decide +kernel
theorem dL_law_338 : decode cL_law 338 = .ok (.iaload, 1) := by decide +kernel
theorem dL_law_339 : decode cL_law 339 = .ok (.invokevirtual 38, 3) := by decide +kernel
theorem dL_law_342 : decode cL_law 342 = .ok (.aload_n 2, 1) := by decide +kernel
theorem dL_law_343 : decode cL_law 343 = .ok (.aload_n 0, 1) := by decide +kernel
theorem dL_law_344 : decode cL_law 344 = .ok (.iload 4, 2) := by decide +kernel
theorem dL_law_346 : decode cL_law 346 = .ok (.iconst 1, 1) := by decide +kernel
theorem dL_law_347 : decode cL_law 347 = .ok (.iadd, 1) := by decide +kernel
theorem dL_law_348 : decode cL_law 348 = .ok (.iaload, 1) := by decide +kernel
theorem dL_law_349 : decode cL_law 349 = .ok (.invokevirtual 42, 3) := by decide +kernel
theorem dL_law_352 : decode cL_law 352 = .ok (.if_icmp .eq 1392, 3) := by decide +kernel
theorem dL_law_357 : decode cL_law 357 = .ok (.aload_n 1, 1) := by decide +kernel
theorem dL_law_358 : decode cL_law 358 = .ok (.aload_n 0, 1) := by decide +kernel
theorem dL_law_359 : decode cL_law 359 = .ok (.iload 4, 2) := by decide +kernel
theorem dL_law_361 : decode cL_law 361 = .ok (.iconst 1, 1) := by decide +kernel
theorem dL_law_362 : decode cL_law 362 = .ok (.iadd, 1) := by decide +kernel
theorem dL_law_363 : decode cL_law 363 = .ok (.iaload, 1) := by decide +kernel
theorem dL_law_364 : decode cL_law 364 = .ok (.aload_n 0, 1) := by decide +kernel
theorem dL_law_365 : decode cL_law 365 = .ok (.iload 4, 2) := by decide +kernel
theorem dL_law_367 : decode cL_law 367 = .ok (.iconst 2, 1) := by decide +kernel
theorem dL_law_368 : decode cL_law 368 = .ok (.iadd, 1) := by decide +kernel
theorem dL_law_369 : decode cL_law 369 = .ok (.iaload, 1) := by decide +kernel
theorem dL_law_370 : decode cL_law 370 = .ok (.aload_n 3, 1) := by decide +kernel
theorem dL_law_371 : decode cL_law 371 = .ok (.invokestatic 43, 3) := by decide +kernel
theorem dL_law_374 : decode cL_law 374 = .ok (.istore 5, 2) := by decide +kernel
theorem dL_law_376 : decode cL_law 376 = .ok (.aload_n 2, 1) := by decide +kernel
theorem dL_law_377 : decode cL_law 377 = .ok (.aload_n 0, 1) := by decide +kernel
theorem dL_law_378 : decode cL_law 378 = .ok (.iload 4, 2) := by decide +kernel
theorem dL_law_380 : decode cL_law 380 = .ok (.iconst 1, 1) := by decide +kernel
theorem dL_law_381 : decode cL_law 381 = .ok (.iadd, 1) := by decide +kernel
theorem dL_law_382 : decode cL_law 382 = .ok (.iaload, 1) := by decide +kernel
theorem dL_law_383 : decode cL_law 383 = .ok (.aload_n 0, 1) := by decide +kernel
theorem dL_law_384 : decode cL_law 384 = .ok (.iload 4, 2) := by decide +kernel
theorem dL_law_386 : decode cL_law 386 = .ok (.iconst 2, 1) := by decide +kernel
theorem dL_law_387 : decode cL_law 387 = .ok (.iadd, 1) := by decide +kernel
theorem dL_law_388 : decode cL_law 388 = .ok (.iaload, 1) := by decide +kernel
theorem dL_law_389 : decode cL_law 389 = .ok (.invokevirtual 48, 3) := by decide +kernel
theorem dL_law_392 : decode cL_law 392 = .ok (.istore 6, 2) := by decide +kernel
theorem dL_law_394 : decode cL_law 394 = .ok (.aload_n 2, 1) := by decide +kernel
theorem dL_law_395 : decode cL_law 395 = .ok (.invokevirtual 49, 3) := by decide +kernel
theorem dL_law_398 : decode cL_law 398 = .ok (.iload 5, 2) := by decide +kernel
theorem dL_law_400 : decode cL_law 400 = .ok (.if_icmp .eq 5, 3) := by decide +kernel
theorem dL_law_405 : decode cL_law 405 = .ok (.iload 5, 2) := by decide +kernel
theorem dL_law_407 : decode cL_law 407 = .ok (.ifCond .ne 15, 3) := by decide +kernel
theorem dL_law_422 : decode cL_law 422 = .ok (.goto 1322, 3) := by decide +kernel
theorem dL_law_425 : decode cL_law 425 = .ok (.aload_n 1, 1) := by decide +kernel
theorem dL_law_426 : decode cL_law 426 = .ok (.aload_n 0, 1) := by decide +kernel
theorem dL_law_427 : decode cL_law 427 = .ok (.iload 4, 2) := by decide +kernel
theorem dL_law_429 : decode cL_law 429 = .ok (.iconst 1, 1) := by decide +kernel
theorem dL_law_430 : decode cL_law 430 = .ok (.iadd, 1) := by decide +kernel
theorem dL_law_431 : decode cL_law 431 = .ok (.iaload, 1) := by decide +kernel
theorem dL_law_432 : decode cL_law 432 = .ok (.aload_n 0, 1) := by decide +kernel
theorem dL_law_433 : decode cL_law 433 = .ok (.iload 4, 2) := by decide +kernel
theorem dL_law_435 : decode cL_law 435 = .ok (.iconst 2, 1) := by decide +kernel
theorem dL_law_436 : decode cL_law 436 = .ok (.iadd, 1) := by decide +kernel
theorem dL_law_437 : decode cL_law 437 = .ok (.iaload, 1) := by decide +kernel
theorem dL_law_438 : decode cL_law 438 = .ok (.aload_n 0, 1) := by decide +kernel
theorem dL_law_439 : decode cL_law 439 = .ok (.iload 4, 2) := by decide +kernel
theorem dL_law_441 : decode cL_law 441 = .ok (.iconst 3, 1) := by decide +kernel
theorem dL_law_442 : decode cL_law 442 = .ok (.iadd, 1) := by decide +kernel
theorem dL_law_443 : decode cL_law 443 = .ok (.iaload, 1) := by decide +kernel
theorem dL_law_444 : decode cL_law 444 = .ok (.invokevirtual 52, 3) := by decide +kernel
theorem dL_law_447 : decode cL_law 447 = .ok (.aload_n 2, 1) := by decide +kernel
theorem dL_law_448 : decode cL_law 448 = .ok (.aload_n 0, 1) := by decide +kernel
theorem dL_law_449 : decode cL_law 449 = .ok (.iload 4, 2) := by decide +kernel
theorem dL_law_451 : decode cL_law 451 = .ok (.iconst 1, 1) := by decide +kernel
theorem dL_law_452 : decode cL_law 452 = .ok (.iadd, 1) := by decide +kernel
theorem dL_law_453 : decode cL_law 453 = .ok (.iaload, 1) := by decide +kernel
theorem dL_law_454 : decode cL_law 454 = .ok (.aload_n 0, 1) := by decide +kernel
theorem dL_law_455 : decode cL_law 455 = .ok (.iload 4, 2) := by decide +kernel
theorem dL_law_457 : decode cL_law 457 = .ok (.iconst 2, 1) := by decide +kernel
theorem dL_law_458 : decode cL_law 458 = .ok (.iadd, 1) := by decide +kernel
theorem dL_law_459 : decode cL_law 459 = .ok (.iaload, 1) := by decide +kernel
theorem dL_law_460 : decode cL_law 460 = .ok (.aload_n 0, 1) := by decide +kernel
theorem dL_law_461 : decode cL_law 461 = .ok (.iload 4, 2) := by decide +kernel
theorem dL_law_463 : decode cL_law 463 = .ok (.iconst 3, 1) := by decide +kernel
theorem dL_law_464 : decode cL_law 464 = .ok (.iadd, 1) := by decide +kernel
theorem dL_law_465 : decode cL_law 465 = .ok (.iaload, 1) := by decide +kernel
theorem dL_law_466 : decode cL_law 466 = .ok (.invokevirtual 56, 3) := by decide +kernel
theorem dL_law_469 : decode cL_law 469 = .ok (.if_icmp .eq 1275, 3) := by decide +kernel
theorem dL_law_474 : decode cL_law 474 = .ok (.aload_n 1, 1) := by decide +kernel
theorem dL_law_475 : decode cL_law 475 = .ok (.aload_n 0, 1) := by decide +kernel
theorem dL_law_476 : decode cL_law 476 = .ok (.iload 4, 2) := by decide +kernel
theorem dL_law_478 : decode cL_law 478 = .ok (.iconst 1, 1) := by decide +kernel
theorem dL_law_479 : decode cL_law 479 = .ok (.iadd, 1) := by decide +kernel
theorem dL_law_480 : decode cL_law 480 = .ok (.iaload, 1) := by decide +kernel
theorem dL_law_481 : decode cL_law 481 = .ok (.aload_n 0, 1) := by decide +kernel
theorem dL_law_482 : decode cL_law 482 = .ok (.iload 4, 2) := by decide +kernel
theorem dL_law_484 : decode cL_law 484 = .ok (.iconst 2, 1) := by decide +kernel
theorem dL_law_485 : decode cL_law 485 = .ok (.iadd, 1) := by decide +kernel
theorem dL_law_486 : decode cL_law 486 = .ok (.iaload, 1) := by decide +kernel
theorem dL_law_487 : decode cL_law 487 = .ok (.aload_n 0, 1) := by decide +kernel
theorem dL_law_488 : decode cL_law 488 = .ok (.iload 4, 2) := by decide +kernel
theorem dL_law_490 : decode cL_law 490 = .ok (.iconst 3, 1) := by decide +kernel
theorem dL_law_491 : decode cL_law 491 = .ok (.iadd, 1) := by decide +kernel
theorem dL_law_492 : decode cL_law 492 = .ok (.iaload, 1) := by decide +kernel
theorem dL_law_493 : decode cL_law 493 = .ok (.invokevirtual 57, 3) := by decide +kernel
theorem dL_law_496 : decode cL_law 496 = .ok (.aload_n 2, 1) := by decide +kernel
theorem dL_law_497 : decode cL_law 497 = .ok (.aload_n 0, 1) := by decide +kernel
theorem dL_law_498 : decode cL_law 498 = .ok (.iload 4, 2) := by decide +kernel
theorem dL_law_500 : decode cL_law 500 = .ok (.iconst 1, 1) := by decide +kernel
theorem dL_law_501 : decode cL_law 501 = .ok (.iadd, 1) := by decide +kernel
theorem dL_law_502 : decode cL_law 502 = .ok (.iaload, 1) := by decide +kernel
theorem dL_law_503 : decode cL_law 503 = .ok (.aload_n 0, 1) := by decide +kernel
theorem dL_law_504 : decode cL_law 504 = .ok (.iload 4, 2) := by decide +kernel
theorem dL_law_506 : decode cL_law 506 = .ok (.iconst 2, 1) := by decide +kernel
theorem dL_law_507 : decode cL_law 507 = .ok (.iadd, 1) := by decide +kernel
theorem dL_law_508 : decode cL_law 508 = .ok (.iaload, 1) := by decide +kernel
theorem dL_law_509 : decode cL_law 509 = .ok (.aload_n 0, 1) := by decide +kernel
theorem dL_law_510 : decode cL_law 510 = .ok (.iload 4, 2) := by decide +kernel
theorem dL_law_512 : decode cL_law 512 = .ok (.iconst 3, 1) := by decide +kernel
theorem dL_law_513 : decode cL_law 513 = .ok (.iadd, 1) := by decide +kernel
theorem dL_law_514 : decode cL_law 514 = .ok (.iaload, 1) := by decide +kernel
theorem dL_law_515 : decode cL_law 515 = .ok (.invokevirtual 60, 3) := by decide +kernel
theorem dL_law_518 : decode cL_law 518 = .ok (.if_icmp .eq 1226, 3) := by decide +kernel
theorem dL_law_523 : decode cL_law 523 = .ok (.aload_n 1, 1) := by decide +kernel
theorem dL_law_524 : decode cL_law 524 = .ok (.aload_n 0, 1) := by decide +kernel
theorem dL_law_525 : decode cL_law 525 = .ok (.iload 4, 2) := by decide +kernel
theorem dL_law_527 : decode cL_law 527 = .ok (.iconst 1, 1) := by decide +kernel
theorem dL_law_528 : decode cL_law 528 = .ok (.iadd, 1) := by decide +kernel
theorem dL_law_529 : decode cL_law 529 = .ok (.iaload, 1) := by decide +kernel
theorem dL_law_530 : decode cL_law 530 = .ok (.aload_n 0, 1) := by decide +kernel
theorem dL_law_531 : decode cL_law 531 = .ok (.iload 4, 2) := by decide +kernel
theorem dL_law_533 : decode cL_law 533 = .ok (.iconst 2, 1) := by decide +kernel
theorem dL_law_534 : decode cL_law 534 = .ok (.iadd, 1) := by decide +kernel
theorem dL_law_535 : decode cL_law 535 = .ok (.iaload, 1) := by decide +kernel
theorem dL_law_536 : decode cL_law 536 = .ok (.aload_n 0, 1) := by decide +kernel
theorem dL_law_537 : decode cL_law 537 = .ok (.iload 4, 2) := by decide +kernel
theorem dL_law_539 : decode cL_law 539 = .ok (.iconst 3, 1) := by decide +kernel
theorem dL_law_540 : decode cL_law 540 = .ok (.iadd, 1) := by decide +kernel
theorem dL_law_541 : decode cL_law 541 = .ok (.iaload, 1) := by decide +kernel
theorem dL_law_542 : decode cL_law 542 = .ok (.aload_n 0, 1) := by decide +kernel
theorem dL_law_543 : decode cL_law 543 = .ok (.iload 4, 2) := by decide +kernel
theorem dL_law_545 : decode cL_law 545 = .ok (.iconst 4, 1) := by decide +kernel
theorem dL_law_546 : decode cL_law 546 = .ok (.iadd, 1) := by decide +kernel
theorem dL_law_547 : decode cL_law 547 = .ok (.iaload, 1) := by decide +kernel
theorem dL_law_548 : decode cL_law 548 = .ok (.invokevirtual 61, 3) := by decide +kernel
theorem dL_law_551 : decode cL_law 551 = .ok (.aload_n 2, 1) := by decide +kernel
theorem dL_law_552 : decode cL_law 552 = .ok (.aload_n 0, 1) := by decide +kernel
theorem dL_law_553 : decode cL_law 553 = .ok (.iload 4, 2) := by decide +kernel
theorem dL_law_555 : decode cL_law 555 = .ok (.iconst 1, 1) := by decide +kernel
theorem dL_law_556 : decode cL_law 556 = .ok (.iadd, 1) := by decide +kernel
theorem dL_law_557 : decode cL_law 557 = .ok (.iaload, 1) := by decide +kernel
theorem dL_law_558 : decode cL_law 558 = .ok (.aload_n 0, 1) := by decide +kernel
theorem dL_law_559 : decode cL_law 559 = .ok (.iload 4, 2) := by decide +kernel
theorem dL_law_561 : decode cL_law 561 = .ok (.iconst 2, 1) := by decide +kernel
theorem dL_law_562 : decode cL_law 562 = .ok (.iadd, 1) := by decide +kernel
theorem dL_law_563 : decode cL_law 563 = .ok (.iaload, 1) := by decide +kernel
theorem dL_law_564 : decode cL_law 564 = .ok (.aload_n 0, 1) := by decide +kernel
theorem dL_law_565 : decode cL_law 565 = .ok (.iload 4, 2) := by decide +kernel
theorem dL_law_567 : decode cL_law 567 = .ok (.iconst 3, 1) := by decide +kernel
theorem dL_law_568 : decode cL_law 568 = .ok (.iadd, 1) := by decide +kernel
theorem dL_law_569 : decode cL_law 569 = .ok (.iaload, 1) := by decide +kernel
theorem dL_law_570 : decode cL_law 570 = .ok (.aload_n 0, 1) := by decide +kernel
theorem dL_law_571 : decode cL_law 571 = .ok (.iload 4, 2) := by decide +kernel
theorem dL_law_573 : decode cL_law 573 = .ok (.iconst 4, 1) := by decide +kernel
theorem dL_law_574 : decode cL_law 574 = .ok (.iadd, 1) := by decide +kernel
theorem dL_law_575 : decode cL_law 575 = .ok (.iaload, 1) := by decide +kernel
theorem dL_law_576 : decode cL_law 576 = .ok (.invokevirtual 65, 3) := by decide +kernel
theorem dL_law_579 : decode cL_law 579 = .ok (.if_icmp .eq 1165, 3) := by decide +kernel
theorem dL_law_584 : decode cL_law 584 = .ok (.aload_n 1, 1) := by decide +kernel
theorem dL_law_585 : decode cL_law 585 = .ok (.aload_n 0, 1) := by decide +kernel
theorem dL_law_586 : decode cL_law 586 = .ok (.iload 4, 2) := by decide +kernel
theorem dL_law_588 : decode cL_law 588 = .ok (.iconst 1, 1) := by decide +kernel
theorem dL_law_589 : decode cL_law 589 = .ok (.iadd, 1) := by decide +kernel
theorem dL_law_590 : decode cL_law 590 = .ok (.iaload, 1) := by decide +kernel
theorem dL_law_591 : decode cL_law 591 = .ok (.aload_n 0, 1) := by decide +kernel
theorem dL_law_592 : decode cL_law 592 = .ok (.iload 4, 2) := by decide +kernel
theorem dL_law_594 : decode cL_law 594 = .ok (.iconst 2, 1) := by decide +kernel
theorem dL_law_595 : decode cL_law 595 = .ok (.iadd, 1) := by decide +kernel
theorem dL_law_596 : decode cL_law 596 = .ok (.iaload, 1) := by decide +kernel
theorem dL_law_597 : decode cL_law 597 = .ok (.invokevirtual 66, 3) := by decide +kernel
theorem dL_law_600 : decode cL_law 600 = .ok (.aload_n 2, 1) := by decide +kernel
theorem dL_law_601 : decode cL_law 601 = .ok (.aload_n 0, 1) := by decide +kernel
theorem dL_law_602 : decode cL_law 602 = .ok (.iload 4, 2) := by decide +kernel
theorem dL_law_604 : decode cL_law 604 = .ok (.iconst 1, 1) := by decide +kernel
theorem dL_law_605 : decode cL_law 605 = .ok (.iadd, 1) := by decide +kernel
theorem dL_law_606 : decode cL_law 606 = .ok (.iaload, 1) := by decide +kernel
theorem dL_law_607 : decode cL_law 607 = .ok (.aload_n 0, 1) := by decide +kernel
theorem dL_law_608 : decode cL_law 608 = .ok (.iload 4, 2) := by decide +kernel
theorem dL_law_610 : decode cL_law 610 = .ok (.iconst 2, 1) := by decide +kernel
theorem dL_law_611 : decode cL_law 611 = .ok (.iadd, 1) := by decide +kernel
theorem dL_law_612 : decode cL_law 612 = .ok (.iaload, 1) := by decide +kernel
theorem dL_law_613 : decode cL_law 613 = .ok (.invokevirtual 69, 3) := by decide +kernel
theorem dL_law_616 : decode cL_law 616 = .ok (.if_icmp .eq 1128, 3) := by decide +kernel
theorem dL_law_621 : decode cL_law 621 = .ok (.aload_n 1, 1) := by decide +kernel
theorem dL_law_622 : decode cL_law 622 = .ok (.aload_n 0, 1) := by decide +kernel
theorem dL_law_623 : decode cL_law 623 = .ok (.iload 4, 2) := by decide +kernel
theorem dL_law_625 : decode cL_law 625 = .ok (.iconst 1, 1) := by decide +kernel
theorem dL_law_626 : decode cL_law 626 = .ok (.iadd, 1) := by decide +kernel
theorem dL_law_627 : decode cL_law 627 = .ok (.iaload, 1) := by decide +kernel
theorem dL_law_628 : decode cL_law 628 = .ok (.aload_n 0, 1) := by decide +kernel
theorem dL_law_629 : decode cL_law 629 = .ok (.iload 4, 2) := by decide +kernel
theorem dL_law_631 : decode cL_law 631 = .ok (.iconst 2, 1) := by decide +kernel
theorem dL_law_632 : decode cL_law 632 = .ok (.iadd, 1) := by decide +kernel
theorem dL_law_633 : decode cL_law 633 = .ok (.iaload, 1) := by decide +kernel
theorem dL_law_634 : decode cL_law 634 = .ok (.aload_n 0, 1) := by decide +kernel
theorem dL_law_635 : decode cL_law 635 = .ok (.iload 4, 2) := by decide +kernel
theorem dL_law_637 : decode cL_law 637 = .ok (.iconst 3, 1) := by decide +kernel
theorem dL_law_638 : decode cL_law 638 = .ok (.iadd, 1) := by decide +kernel
theorem dL_law_639 : decode cL_law 639 = .ok (.iaload, 1) := by decide +kernel
theorem dL_law_640 : decode cL_law 640 = .ok (.invokevirtual 70, 3) := by decide +kernel
theorem dL_law_643 : decode cL_law 643 = .ok (.aload_n 2, 1) := by decide +kernel
theorem dL_law_644 : decode cL_law 644 = .ok (.aload_n 0, 1) := by decide +kernel
theorem dL_law_645 : decode cL_law 645 = .ok (.iload 4, 2) := by decide +kernel
theorem dL_law_647 : decode cL_law 647 = .ok (.iconst 1, 1) := by decide +kernel
theorem dL_law_648 : decode cL_law 648 = .ok (.iadd, 1) := by decide +kernel
theorem dL_law_649 : decode cL_law 649 = .ok (.iaload, 1) := by decide +kernel
theorem dL_law_650 : decode cL_law 650 = .ok (.aload_n 0, 1) := by decide +kernel
theorem dL_law_651 : decode cL_law 651 = .ok (.iload 4, 2) := by decide +kernel
theorem dL_law_653 : decode cL_law 653 = .ok (.iconst 2, 1) := by decide +kernel
theorem dL_law_654 : decode cL_law 654 = .ok (.iadd, 1) := by decide +kernel
theorem dL_law_655 : decode cL_law 655 = .ok (.iaload, 1) := by decide +kernel
theorem dL_law_656 : decode cL_law 656 = .ok (.aload_n 0, 1) := by decide +kernel
theorem dL_law_657 : decode cL_law 657 = .ok (.iload 4, 2) := by decide +kernel
theorem dL_law_659 : decode cL_law 659 = .ok (.iconst 3, 1) := by decide +kernel
theorem dL_law_660 : decode cL_law 660 = .ok (.iadd, 1) := by decide +kernel
theorem dL_law_661 : decode cL_law 661 = .ok (.iaload, 1) := by decide +kernel
theorem dL_law_662 : decode cL_law 662 = .ok (.invokevirtual 73, 3) := by decide +kernel
theorem dL_law_665 : decode cL_law 665 = .ok (.if_icmp .eq 1079, 3) := by decide +kernel
theorem dL_law_670 : decode cL_law 670 = .ok (.aload_n 1, 1) := by decide +kernel
theorem dL_law_671 : decode cL_law 671 = .ok (.aload_n 0, 1) := by decide +kernel
theorem dL_law_672 : decode cL_law 672 = .ok (.iload 4, 2) := by decide +kernel
theorem dL_law_674 : decode cL_law 674 = .ok (.iconst 1, 1) := by decide +kernel
theorem dL_law_675 : decode cL_law 675 = .ok (.iadd, 1) := by decide +kernel
theorem dL_law_676 : decode cL_law 676 = .ok (.iaload, 1) := by decide +kernel
theorem dL_law_677 : decode cL_law 677 = .ok (.aload_n 0, 1) := by decide +kernel
theorem dL_law_678 : decode cL_law 678 = .ok (.iload 4, 2) := by decide +kernel
theorem dL_law_680 : decode cL_law 680 = .ok (.iconst 2, 1) := by decide +kernel
theorem dL_law_681 : decode cL_law 681 = .ok (.iadd, 1) := by decide +kernel
theorem dL_law_682 : decode cL_law 682 = .ok (.iaload, 1) := by decide +kernel
theorem dL_law_683 : decode cL_law 683 = .ok (.aload_n 0, 1) := by decide +kernel
theorem dL_law_684 : decode cL_law 684 = .ok (.iload 4, 2) := by decide +kernel
theorem dL_law_686 : decode cL_law 686 = .ok (.iconst 3, 1) := by decide +kernel
theorem dL_law_687 : decode cL_law 687 = .ok (.iadd, 1) := by decide +kernel
theorem dL_law_688 : decode cL_law 688 = .ok (.iaload, 1) := by decide +kernel
theorem dL_law_689 : decode cL_law 689 = .ok (.invokevirtual 74, 3) := by decide +kernel
theorem dL_law_692 : decode cL_law 692 = .ok (.aload_n 2, 1) := by decide +kernel
theorem dL_law_693 : decode cL_law 693 = .ok (.aload_n 0, 1) := by decide +kernel
theorem dL_law_694 : decode cL_law 694 = .ok (.iload 4, 2) := by decide +kernel
theorem dL_law_696 : decode cL_law 696 = .ok (.iconst 1, 1) := by decide +kernel
theorem dL_law_697 : decode cL_law 697 = .ok (.iadd, 1) := by decide +kernel
theorem dL_law_698 : decode cL_law 698 = .ok (.iaload, 1) := by decide +kernel
theorem dL_law_699 : decode cL_law 699 = .ok (.aload_n 0, 1) := by decide +kernel
theorem dL_law_700 : decode cL_law 700 = .ok (.iload 4, 2) := by decide +kernel
theorem dL_law_702 : decode cL_law 702 = .ok (.iconst 2, 1) := by decide +kernel
theorem dL_law_703 : decode cL_law 703 = .ok (.iadd, 1) := by decide +kernel
theorem dL_law_704 : decode cL_law 704 = .ok (.iaload, 1) := by decide +kernel
theorem dL_law_705 : decode cL_law 705 = .ok (.aload_n 0, 1) := by decide +kernel
theorem dL_law_706 : decode cL_law 706 = .ok (.iload 4, 2) := by decide +kernel
theorem dL_law_708 : decode cL_law 708 = .ok (.iconst 3, 1) := by decide +kernel
theorem dL_law_709 : decode cL_law 709 = .ok (.iadd, 1) := by decide +kernel
theorem dL_law_710 : decode cL_law 710 = .ok (.iaload, 1) := by decide +kernel
theorem dL_law_711 : decode cL_law 711 = .ok (.invokevirtual 77, 3) := by decide +kernel
theorem dL_law_714 : decode cL_law 714 = .ok (.if_icmp .eq 1030, 3) := by decide +kernel
theorem dL_law_719 : decode cL_law 719 = .ok (.aload_n 1, 1) := by decide +kernel
theorem dL_law_720 : decode cL_law 720 = .ok (.aload_n 0, 1) := by decide +kernel
theorem dL_law_721 : decode cL_law 721 = .ok (.iload 4, 2) := by decide +kernel
theorem dL_law_723 : decode cL_law 723 = .ok (.iconst 1, 1) := by decide +kernel
theorem dL_law_724 : decode cL_law 724 = .ok (.iadd, 1) := by decide +kernel
theorem dL_law_725 : decode cL_law 725 = .ok (.iaload, 1) := by decide +kernel
theorem dL_law_726 : decode cL_law 726 = .ok (.aload_n 0, 1) := by decide +kernel
theorem dL_law_727 : decode cL_law 727 = .ok (.iload 4, 2) := by decide +kernel
theorem dL_law_729 : decode cL_law 729 = .ok (.iconst 2, 1) := by decide +kernel
theorem dL_law_730 : decode cL_law 730 = .ok (.iadd, 1) := by decide +kernel
theorem dL_law_731 : decode cL_law 731 = .ok (.iaload, 1) := by decide +kernel
theorem dL_law_732 : decode cL_law 732 = .ok (.invokevirtual 78, 3) := by decide +kernel
theorem dL_law_735 : decode cL_law 735 = .ok (.aload_n 2, 1) := by decide +kernel
theorem dL_law_736 : decode cL_law 736 = .ok (.aload_n 0, 1) := by decide +kernel
theorem dL_law_737 : decode cL_law 737 = .ok (.iload 4, 2) := by decide +kernel
theorem dL_law_739 : decode cL_law 739 = .ok (.iconst 1, 1) := by decide +kernel
theorem dL_law_740 : decode cL_law 740 = .ok (.iadd, 1) := by decide +kernel
theorem dL_law_741 : decode cL_law 741 = .ok (.iaload, 1) := by decide +kernel
theorem dL_law_742 : decode cL_law 742 = .ok (.aload_n 0, 1) := by decide +kernel
theorem dL_law_743 : decode cL_law 743 = .ok (.iload 4, 2) := by decide +kernel
theorem dL_law_745 : decode cL_law 745 = .ok (.iconst 2, 1) := by decide +kernel
theorem dL_law_746 : decode cL_law 746 = .ok (.iadd, 1) := by decide +kernel
theorem dL_law_747 : decode cL_law 747 = .ok (.iaload, 1) := by decide +kernel
theorem dL_law_748 : decode cL_law 748 = .ok (.invokevirtual 81, 3) := by decide +kernel
theorem dL_law_751 : decode cL_law 751 = .ok (.if_icmp .eq 993, 3) := by decide +kernel
theorem dL_law_756 : decode cL_law 756 = .ok (.aload_n 1, 1) := by decide +kernel
theorem dL_law_757 : decode cL_law 757 = .ok (.aload_n 0, 1) := by decide +kernel
theorem dL_law_758 : decode cL_law 758 = .ok (.iload 4, 2) := by decide +kernel
theorem dL_law_760 : decode cL_law 760 = .ok (.iconst 1, 1) := by decide +kernel
theorem dL_law_761 : decode cL_law 761 = .ok (.iadd, 1) := by decide +kernel
theorem dL_law_762 : decode cL_law 762 = .ok (.iaload, 1) := by decide +kernel
theorem dL_law_763 : decode cL_law 763 = .ok (.aload_n 0, 1) := by decide +kernel
theorem dL_law_764 : decode cL_law 764 = .ok (.iload 4, 2) := by decide +kernel
theorem dL_law_766 : decode cL_law 766 = .ok (.iconst 2, 1) := by decide +kernel
theorem dL_law_767 : decode cL_law 767 = .ok (.iadd, 1) := by decide +kernel
theorem dL_law_768 : decode cL_law 768 = .ok (.iaload, 1) := by decide +kernel
theorem dL_law_769 : decode cL_law 769 = .ok (.aload_n 0, 1) := by decide +kernel
theorem dL_law_770 : decode cL_law 770 = .ok (.iload 4, 2) := by decide +kernel
theorem dL_law_772 : decode cL_law 772 = .ok (.iconst 3, 1) := by decide +kernel
theorem dL_law_773 : decode cL_law 773 = .ok (.iadd, 1) := by decide +kernel
theorem dL_law_774 : decode cL_law 774 = .ok (.iaload, 1) := by decide +kernel
theorem dL_law_775 : decode cL_law 775 = .ok (.invokevirtual 82, 3) := by decide +kernel
theorem dL_law_778 : decode cL_law 778 = .ok (.aload_n 2, 1) := by decide +kernel
theorem dL_law_779 : decode cL_law 779 = .ok (.aload_n 0, 1) := by decide +kernel
theorem dL_law_780 : decode cL_law 780 = .ok (.iload 4, 2) := by decide +kernel
theorem dL_law_782 : decode cL_law 782 = .ok (.iconst 1, 1) := by decide +kernel
theorem dL_law_783 : decode cL_law 783 = .ok (.iadd, 1) := by decide +kernel
theorem dL_law_784 : decode cL_law 784 = .ok (.iaload, 1) := by decide +kernel
theorem dL_law_785 : decode cL_law 785 = .ok (.aload_n 0, 1) := by decide +kernel
theorem dL_law_786 : decode cL_law 786 = .ok (.iload 4, 2) := by decide +kernel
theorem dL_law_788 : decode cL_law 788 = .ok (.iconst 2, 1) := by decide +kernel
theorem dL_law_789 : decode cL_law 789 = .ok (.iadd, 1) := by decide +kernel
theorem dL_law_790 : decode cL_law 790 = .ok (.iaload, 1) := by decide +kernel
theorem dL_law_791 : decode cL_law 791 = .ok (.aload_n 0, 1) := by decide +kernel
theorem dL_law_792 : decode cL_law 792 = .ok (.iload 4, 2) := by decide +kernel
theorem dL_law_794 : decode cL_law 794 = .ok (.iconst 3, 1) := by decide +kernel
theorem dL_law_795 : decode cL_law 795 = .ok (.iadd, 1) := by decide +kernel
theorem dL_law_796 : decode cL_law 796 = .ok (.iaload, 1) := by decide +kernel
theorem dL_law_797 : decode cL_law 797 = .ok (.invokevirtual 85, 3) := by decide +kernel
theorem dL_law_800 : decode cL_law 800 = .ok (.if_icmp .eq 944, 3) := by decide +kernel
theorem dL_law_805 : decode cL_law 805 = .ok (.aload_n 1, 1) := by decide +kernel
theorem dL_law_806 : decode cL_law 806 = .ok (.aload_n 0, 1) := by decide +kernel
theorem dL_law_807 : decode cL_law 807 = .ok (.iload 4, 2) := by decide +kernel
theorem dL_law_809 : decode cL_law 809 = .ok (.iconst 1, 1) := by decide +kernel
theorem dL_law_810 : decode cL_law 810 = .ok (.iadd, 1) := by decide +kernel
theorem dL_law_811 : decode cL_law 811 = .ok (.iaload, 1) := by decide +kernel
theorem dL_law_812 : decode cL_law 812 = .ok (.aload_n 0, 1) := by decide +kernel
theorem dL_law_813 : decode cL_law 813 = .ok (.iload 4, 2) := by decide +kernel
theorem dL_law_815 : decode cL_law 815 = .ok (.iconst 2, 1) := by decide +kernel
theorem dL_law_816 : decode cL_law 816 = .ok (.iadd, 1) := by decide +kernel
theorem dL_law_817 : decode cL_law 817 = .ok (.iaload, 1) := by decide +kernel
theorem dL_law_818 : decode cL_law 818 = .ok (.invokevirtual 86, 3) := by decide +kernel
theorem dL_law_821 : decode cL_law 821 = .ok (.aload_n 2, 1) := by decide +kernel
theorem dL_law_822 : decode cL_law 822 = .ok (.aload_n 0, 1) := by decide +kernel
theorem dL_law_823 : decode cL_law 823 = .ok (.iload 4, 2) := by decide +kernel
theorem dL_law_825 : decode cL_law 825 = .ok (.iconst 1, 1) := by decide +kernel
theorem dL_law_826 : decode cL_law 826 = .ok (.iadd, 1) := by decide +kernel
theorem dL_law_827 : decode cL_law 827 = .ok (.iaload, 1) := by decide +kernel
theorem dL_law_828 : decode cL_law 828 = .ok (.aload_n 0, 1) := by decide +kernel
theorem dL_law_829 : decode cL_law 829 = .ok (.iload 4, 2) := by decide +kernel
theorem dL_law_831 : decode cL_law 831 = .ok (.iconst 2, 1) := by decide +kernel
theorem dL_law_832 : decode cL_law 832 = .ok (.iadd, 1) := by decide +kernel
theorem dL_law_833 : decode cL_law 833 = .ok (.iaload, 1) := by decide +kernel
theorem dL_law_834 : decode cL_law 834 = .ok (.invokevirtual 89, 3) := by decide +kernel
theorem dL_law_837 : decode cL_law 837 = .ok (.if_icmp .eq 907, 3) := by decide +kernel
theorem dL_law_842 : decode cL_law 842 = .ok (.aload_n 1, 1) := by decide +kernel
theorem dL_law_843 : decode cL_law 843 = .ok (.aload_n 0, 1) := by decide +kernel
theorem dL_law_844 : decode cL_law 844 = .ok (.iload 4, 2) := by decide +kernel
theorem dL_law_846 : decode cL_law 846 = .ok (.iconst 1, 1) := by decide +kernel
theorem dL_law_847 : decode cL_law 847 = .ok (.iadd, 1) := by decide +kernel
theorem dL_law_848 : decode cL_law 848 = .ok (.iaload, 1) := by decide +kernel
theorem dL_law_849 : decode cL_law 849 = .ok (.aload_n 0, 1) := by decide +kernel
theorem dL_law_850 : decode cL_law 850 = .ok (.iload 4, 2) := by decide +kernel
theorem dL_law_852 : decode cL_law 852 = .ok (.iconst 2, 1) := by decide +kernel
theorem dL_law_853 : decode cL_law 853 = .ok (.iadd, 1) := by decide +kernel
theorem dL_law_854 : decode cL_law 854 = .ok (.iaload, 1) := by decide +kernel
theorem dL_law_855 : decode cL_law 855 = .ok (.aload_n 0, 1) := by decide +kernel
theorem dL_law_856 : decode cL_law 856 = .ok (.iload 4, 2) := by decide +kernel
theorem dL_law_858 : decode cL_law 858 = .ok (.iconst 3, 1) := by decide +kernel
theorem dL_law_859 : decode cL_law 859 = .ok (.iadd, 1) := by decide +kernel
theorem dL_law_860 : decode cL_law 860 = .ok (.iaload, 1) := by decide +kernel
theorem dL_law_861 : decode cL_law 861 = .ok (.aload_n 0, 1) := by decide +kernel
theorem dL_law_862 : decode cL_law 862 = .ok (.iload 4, 2) := by decide +kernel
theorem dL_law_864 : decode cL_law 864 = .ok (.iconst 4, 1) := by decide +kernel
theorem dL_law_865 : decode cL_law 865 = .ok (.iadd, 1) := by decide +kernel
theorem dL_law_866 : decode cL_law 866 = .ok (.iaload, 1) := by decide +kernel
theorem dL_law_867 : decode cL_law 867 = .ok (.invokevirtual 90, 3) := by decide +kernel
theorem dL_law_870 : decode cL_law 870 = .ok (.aload_n 2, 1) := by decide +kernel
theorem dL_law_871 : decode cL_law 871 = .ok (.aload_n 0, 1) := by decide +kernel
theorem dL_law_872 : decode cL_law 872 = .ok (.iload 4, 2) := by decide +kernel
theorem dL_law_874 : decode cL_law 874 = .ok (.iconst 1, 1) := by decide +kernel
theorem dL_law_875 : decode cL_law 875 = .ok (.iadd, 1) := by decide +kernel
theorem dL_law_876 : decode cL_law 876 = .ok (.iaload, 1) := by decide +kernel
theorem dL_law_877 : decode cL_law 877 = .ok (.aload_n 0, 1) := by decide +kernel
theorem dL_law_878 : decode cL_law 878 = .ok (.iload 4, 2) := by decide +kernel
theorem dL_law_880 : decode cL_law 880 = .ok (.iconst 2, 1) := by decide +kernel
theorem dL_law_881 : decode cL_law 881 = .ok (.iadd, 1) := by decide +kernel
theorem dL_law_882 : decode cL_law 882 = .ok (.iaload, 1) := by decide +kernel
theorem dL_law_883 : decode cL_law 883 = .ok (.aload_n 0, 1) := by decide +kernel
theorem dL_law_884 : decode cL_law 884 = .ok (.iload 4, 2) := by decide +kernel
theorem dL_law_886 : decode cL_law 886 = .ok (.iconst 3, 1) := by decide +kernel
theorem dL_law_887 : decode cL_law 887 = .ok (.iadd, 1) := by decide +kernel
theorem dL_law_888 : decode cL_law 888 = .ok (.iaload, 1) := by decide +kernel
theorem dL_law_889 : decode cL_law 889 = .ok (.aload_n 0, 1) := by decide +kernel
theorem dL_law_890 : decode cL_law 890 = .ok (.iload 4, 2) := by decide +kernel
theorem dL_law_892 : decode cL_law 892 = .ok (.iconst 4, 1) := by decide +kernel
theorem dL_law_893 : decode cL_law 893 = .ok (.iadd, 1) := by decide +kernel
theorem dL_law_894 : decode cL_law 894 = .ok (.iaload, 1) := by decide +kernel
theorem dL_law_895 : decode cL_law 895 = .ok (.invokevirtual 93, 3) := by decide +kernel
theorem dL_law_898 : decode cL_law 898 = .ok (.if_icmp .eq 846, 3) := by decide +kernel
theorem dL_law_903 : decode cL_law 903 = .ok (.aload_n 1, 1) := by decide +kernel
theorem dL_law_904 : decode cL_law 904 = .ok (.aload_n 0, 1) := by decide +kernel
theorem dL_law_905 : decode cL_law 905 = .ok (.iload 4, 2) := by decide +kernel
theorem dL_law_907 : decode cL_law 907 = .ok (.iconst 1, 1) := by decide +kernel
theorem dL_law_908 : decode cL_law 908 = .ok (.iadd, 1) := by decide +kernel
theorem dL_law_909 : decode cL_law 909 = .ok (.iaload, 1) := by decide +kernel
theorem dL_law_910 : decode cL_law 910 = .ok (.aload_n 0, 1) := by decide +kernel
theorem dL_law_911 : decode cL_law 911 = .ok (.iload 4, 2) := by decide +kernel
theorem dL_law_913 : decode cL_law 913 = .ok (.iconst 2, 1) := by decide +kernel
theorem dL_law_914 : decode cL_law 914 = .ok (.iadd, 1) := by decide +kernel
theorem dL_law_915 : decode cL_law 915 = .ok (.iaload, 1) := by decide +kernel
theorem dL_law_916 : decode cL_law 916 = .ok (.aload_n 0, 1) := by decide +kernel
theorem dL_law_917 : decode cL_law 917 = .ok (.iload 4, 2) := by decide +kernel
theorem dL_law_919 : decode cL_law 919 = .ok (.iconst 3, 1) := by decide +kernel
theorem dL_law_920 : decode cL_law 920 = .ok (.iadd, 1) := by decide +kernel
theorem dL_law_921 : decode cL_law 921 = .ok (.iaload, 1) := by decide +kernel
theorem dL_law_922 : decode cL_law 922 = .ok (.aload_n 0, 1) := by decide +kernel
theorem dL_law_923 : decode cL_law 923 = .ok (.iload 4, 2) := by decide +kernel
theorem dL_law_925 : decode cL_law 925 = .ok (.iconst 4, 1) := by decide +kernel
theorem dL_law_926 : decode cL_law 926 = .ok (.iadd, 1) := by decide +kernel
theorem dL_law_927 : decode cL_law 927 = .ok (.iaload, 1) := by decide +kernel
theorem dL_law_928 : decode cL_law 928 = .ok (.invokevirtual 94, 3) := by decide +kernel
theorem dL_law_931 : decode cL_law 931 = .ok (.aload_n 2, 1) := by decide +kernel
theorem dL_law_932 : decode cL_law 932 = .ok (.aload_n 0, 1) := by decide +kernel
theorem dL_law_933 : decode cL_law 933 = .ok (.iload 4, 2) := by decide +kernel
theorem dL_law_935 : decode cL_law 935 = .ok (.iconst 1, 1) := by decide +kernel
theorem dL_law_936 : decode cL_law 936 = .ok (.iadd, 1) := by decide +kernel
theorem dL_law_937 : decode cL_law 937 = .ok (.iaload, 1) := by decide +kernel
theorem dL_law_938 : decode cL_law 938 = .ok (.aload_n 0, 1) := by decide +kernel
theorem dL_law_939 : decode cL_law 939 = .ok (.iload 4, 2) := by decide +kernel
theorem dL_law_941 : decode cL_law 941 = .ok (.iconst 2, 1) := by decide +kernel
theorem dL_law_942 : decode cL_law 942 = .ok (.iadd, 1) := by decide +kernel
theorem dL_law_943 : decode cL_law 943 = .ok (.iaload, 1) := by decide +kernel
theorem dL_law_944 : decode cL_law 944 = .ok (.aload_n 0, 1) := by decide +kernel
theorem dL_law_945 : decode cL_law 945 = .ok (.iload 4, 2) := by decide +kernel
theorem dL_law_947 : decode cL_law 947 = .ok (.iconst 3, 1) := by decide +kernel
theorem dL_law_948 : decode cL_law 948 = .ok (.iadd, 1) := by decide +kernel
theorem dL_law_949 : decode cL_law 949 = .ok (.iaload, 1) := by decide +kernel
theorem dL_law_950 : decode cL_law 950 = .ok (.aload_n 0, 1) := by decide +kernel
theorem dL_law_951 : decode cL_law 951 = .ok (.iload 4, 2) := by decide +kernel
theorem dL_law_953 : decode cL_law 953 = .ok (.iconst 4, 1) := by decide +kernel
theorem dL_law_954 : decode cL_law 954 = .ok (.iadd, 1) := by decide +kernel
theorem dL_law_955 : decode cL_law 955 = .ok (.iaload, 1) := by decide +kernel
theorem dL_law_956 : decode cL_law 956 = .ok (.invokevirtual 97, 3) := by decide +kernel
theorem dL_law_959 : decode cL_law 959 = .ok (.if_icmp .eq 785, 3) := by decide +kernel
theorem dL_law_964 : decode cL_law 964 = .ok (.aload_n 1, 1) := by decide +kernel
theorem dL_law_965 : decode cL_law 965 = .ok (.aload_n 0, 1) := by decide +kernel
theorem dL_law_966 : decode cL_law 966 = .ok (.iload 4, 2) := by decide +kernel
theorem dL_law_968 : decode cL_law 968 = .ok (.iconst 1, 1) := by decide +kernel
theorem dL_law_969 : decode cL_law 969 = .ok (.iadd, 1) := by decide +kernel
theorem dL_law_970 : decode cL_law 970 = .ok (.iaload, 1) := by decide +kernel
theorem dL_law_971 : decode cL_law 971 = .ok (.aload_n 0, 1) := by decide +kernel
theorem dL_law_972 : decode cL_law 972 = .ok (.iload 4, 2) := by decide +kernel
theorem dL_law_974 : decode cL_law 974 = .ok (.iconst 2, 1) := by decide +kernel
theorem dL_law_975 : decode cL_law 975 = .ok (.iadd, 1) := by decide +kernel
theorem dL_law_976 : decode cL_law 976 = .ok (.iaload, 1) := by decide +kernel
theorem dL_law_977 : decode cL_law 977 = .ok (.invokevirtual 98, 3) := by decide +kernel
theorem dL_law_980 : decode cL_law 980 = .ok (.aload_n 2, 1) := by decide +kernel
theorem dL_law_981 : decode cL_law 981 = .ok (.aload_n 0, 1) := by decide +kernel
theorem dL_law_982 : decode cL_law 982 = .ok (.iload 4, 2) := by decide +kernel
theorem dL_law_984 : decode cL_law 984 = .ok (.iconst 1, 1) := by decide +kernel
theorem dL_law_985 : decode cL_law 985 = .ok (.iadd, 1) := by decide +kernel
theorem dL_law_986 : decode cL_law 986 = .ok (.iaload, 1) := by decide +kernel
theorem dL_law_987 : decode cL_law 987 = .ok (.aload_n 0, 1) := by decide +kernel
theorem dL_law_988 : decode cL_law 988 = .ok (.iload 4, 2) := by decide +kernel
theorem dL_law_990 : decode cL_law 990 = .ok (.iconst 2, 1) := by decide +kernel
theorem dL_law_991 : decode cL_law 991 = .ok (.iadd, 1) := by decide +kernel
theorem dL_law_992 : decode cL_law 992 = .ok (.iaload, 1) := by decide +kernel
theorem dL_law_993 : decode cL_law 993 = .ok (.invokevirtual 101, 3) := by decide +kernel
theorem dL_law_996 : decode cL_law 996 = .ok (.if_icmp .eq 748, 3) := by decide +kernel
theorem dL_law_1001 : decode cL_law 1001 = .ok (.aload_n 1, 1) := by decide +kernel
theorem dL_law_1002 : decode cL_law 1002 = .ok (.aload_n 0, 1) := by decide +kernel
theorem dL_law_1003 : decode cL_law 1003 = .ok (.iload 4, 2) := by decide +kernel
theorem dL_law_1005 : decode cL_law 1005 = .ok (.iconst 1, 1) := by decide +kernel
theorem dL_law_1006 : decode cL_law 1006 = .ok (.iadd, 1) := by decide +kernel
theorem dL_law_1007 : decode cL_law 1007 = .ok (.iaload, 1) := by decide +kernel
theorem dL_law_1008 : decode cL_law 1008 = .ok (.aload_n 0, 1) := by decide +kernel
theorem dL_law_1009 : decode cL_law 1009 = .ok (.iload 4, 2) := by decide +kernel
theorem dL_law_1011 : decode cL_law 1011 = .ok (.iconst 2, 1) := by decide +kernel
theorem dL_law_1012 : decode cL_law 1012 = .ok (.iadd, 1) := by decide +kernel
theorem dL_law_1013 : decode cL_law 1013 = .ok (.iaload, 1) := by decide +kernel
theorem dL_law_1014 : decode cL_law 1014 = .ok (.invokevirtual 102, 3) := by decide +kernel
theorem dL_law_1017 : decode cL_law 1017 = .ok (.aload_n 2, 1) := by decide +kernel
theorem dL_law_1018 : decode cL_law 1018 = .ok (.aload_n 0, 1) := by decide +kernel
theorem dL_law_1019 : decode cL_law 1019 = .ok (.iload 4, 2) := by decide +kernel
theorem dL_law_1021 : decode cL_law 1021 = .ok (.iconst 1, 1) := by decide +kernel
theorem dL_law_1022 : decode cL_law 1022 = .ok (.iadd, 1) := by decide +kernel
theorem dL_law_1023 : decode cL_law 1023 = .ok (.iaload, 1) := by decide +kernel
theorem dL_law_1024 : decode cL_law 1024 = .ok (.aload_n 0, 1) := by decide +kernel
theorem dL_law_1025 : decode cL_law 1025 = .ok (.iload 4, 2) := by decide +kernel
theorem dL_law_1027 : decode cL_law 1027 = .ok (.iconst 2, 1) := by decide +kernel
theorem dL_law_1028 : decode cL_law 1028 = .ok (.iadd, 1) := by decide +kernel
theorem dL_law_1029 : decode cL_law 1029 = .ok (.iaload, 1) := by decide +kernel
theorem dL_law_1030 : decode cL_law 1030 = .ok (.invokevirtual 105, 3) := by decide +kernel
theorem dL_law_1033 : decode cL_law 1033 = .ok (.if_icmp .eq 711, 3) := by decide +kernel
theorem dL_law_1038 : decode cL_law 1038 = .ok (.aload_n 1, 1) := by decide +kernel
theorem dL_law_1039 : decode cL_law 1039 = .ok (.aload_n 0, 1) := by decide +kernel
theorem dL_law_1040 : decode cL_law 1040 = .ok (.iload 4, 2) := by decide +kernel
theorem dL_law_1042 : decode cL_law 1042 = .ok (.iconst 1, 1) := by decide +kernel
theorem dL_law_1043 : decode cL_law 1043 = .ok (.iadd, 1) := by decide +kernel
theorem dL_law_1044 : decode cL_law 1044 = .ok (.iaload, 1) := by decide +kernel
theorem dL_law_1045 : decode cL_law 1045 = .ok (.aload_n 0, 1) := by decide +kernel
theorem dL_law_1046 : decode cL_law 1046 = .ok (.iload 4, 2) := by decide +kernel
theorem dL_law_1048 : decode cL_law 1048 = .ok (.iconst 2, 1) := by decide +kernel
theorem dL_law_1049 : decode cL_law 1049 = .ok (.iadd, 1) := by decide +kernel
theorem dL_law_1050 : decode cL_law 1050 = .ok (.iaload, 1) := by decide +kernel
theorem dL_law_1051 : decode cL_law 1051 = .ok (.aload_n 0, 1) := by decide +kernel
theorem dL_law_1052 : decode cL_law 1052 = .ok (.iload 4, 2) := by decide +kernel
theorem dL_law_1054 : decode cL_law 1054 = .ok (.iconst 3, 1) := by decide +kernel
theorem dL_law_1055 : decode cL_law 1055 = .ok (.iadd, 1) := by decide +kernel
theorem dL_law_1056 : decode cL_law 1056 = .ok (.iaload, 1) := by decide +kernel
theorem dL_law_1057 : decode cL_law 1057 = .ok (.aload_n 0, 1) := by decide +kernel
theorem dL_law_1058 : decode cL_law 1058 = .ok (.iload 4, 2) := by decide +kernel
theorem dL_law_1060 : decode cL_law 1060 = .ok (.iconst 4, 1) := by decide +kernel
theorem dL_law_1061 : decode cL_law 1061 = .ok (.iadd, 1) := by decide +kernel
theorem dL_law_1062 : decode cL_law 1062 = .ok (.iaload, 1) := by decide +kernel
theorem dL_law_1063 : decode cL_law 1063 = .ok (.invokevirtual 106, 3) := by decide +kernel
theorem dL_law_1066 : decode cL_law 1066 = .ok (.aload_n 2, 1) := by decide +kernel
theorem dL_law_1067 : decode cL_law 1067 = .ok (.aload_n 0, 1) := by decide +kernel
theorem dL_law_1068 : decode cL_law 1068 = .ok (.iload 4, 2) := by decide +kernel
theorem dL_law_1070 : decode cL_law 1070 = .ok (.iconst 1, 1) := by decide +kernel
theorem dL_law_1071 : decode cL_law 1071 = .ok (.iadd, 1) := by decide +kernel
theorem dL_law_1072 : decode cL_law 1072 = .ok (.iaload, 1) := by decide +kernel
theorem dL_law_1073 : decode cL_law 1073 = .ok (.aload_n 0, 1) := by decide +kernel
theorem dL_law_1074 : decode cL_law 1074 = .ok (.iload 4, 2) := by decide +kernel
theorem dL_law_1076 : decode cL_law 1076 = .ok (.iconst 2, 1) := by decide +kernel
theorem dL_law_1077 : decode cL_law 1077 = .ok (.iadd, 1) := by decide +kernel
theorem dL_law_1078 : decode cL_law 1078 = .ok (.iaload, 1) := by decide +kernel
theorem dL_law_1079 : decode cL_law 1079 = .ok (.aload_n 0, 1) := by decide +kernel
theorem dL_law_1080 : decode cL_law 1080 = .ok (.iload 4, 2) := by decide +kernel
theorem dL_law_1082 : decode cL_law 1082 = .ok (.iconst 3, 1) := by decide +kernel
theorem dL_law_1083 : decode cL_law 1083 = .ok (.iadd, 1) := by decide +kernel
theorem dL_law_1084 : decode cL_law 1084 = .ok (.iaload, 1) := by decide +kernel
theorem dL_law_1085 : decode cL_law 1085 = .ok (.aload_n 0, 1) := by decide +kernel
theorem dL_law_1086 : decode cL_law 1086 = .ok (.iload 4, 2) := by decide +kernel
theorem dL_law_1088 : decode cL_law 1088 = .ok (.iconst 4, 1) := by decide +kernel
theorem dL_law_1089 : decode cL_law 1089 = .ok (.iadd, 1) := by decide +kernel
theorem dL_law_1090 : decode cL_law 1090 = .ok (.iaload, 1) := by decide +kernel
theorem dL_law_1091 : decode cL_law 1091 = .ok (.invokevirtual 109, 3) := by decide +kernel
theorem dL_law_1094 : decode cL_law 1094 = .ok (.if_icmp .eq 650, 3) := by decide +kernel
theorem dL_law_1099 : decode cL_law 1099 = .ok (.aload_n 1, 1) := by decide +kernel
theorem dL_law_1100 : decode cL_law 1100 = .ok (.aload_n 0, 1) := by decide +kernel
theorem dL_law_1101 : decode cL_law 1101 = .ok (.iload 4, 2) := by decide +kernel
theorem dL_law_1103 : decode cL_law 1103 = .ok (.iconst 1, 1) := by decide +kernel
theorem dL_law_1104 : decode cL_law 1104 = .ok (.iadd, 1) := by decide +kernel
theorem dL_law_1105 : decode cL_law 1105 = .ok (.iaload, 1) := by decide +kernel
theorem dL_law_1106 : decode cL_law 1106 = .ok (.aload_n 0, 1) := by decide +kernel
theorem dL_law_1107 : decode cL_law 1107 = .ok (.iload 4, 2) := by decide +kernel
theorem dL_law_1109 : decode cL_law 1109 = .ok (.iconst 2, 1) := by decide +kernel
theorem dL_law_1110 : decode cL_law 1110 = .ok (.iadd, 1) := by decide +kernel
theorem dL_law_1111 : decode cL_law 1111 = .ok (.iaload, 1) := by decide +kernel
theorem dL_law_1112 : decode cL_law 1112 = .ok (.invokevirtual 110, 3) := by decide +kernel
theorem dL_law_1115 : decode cL_law 1115 = .ok (.aload_n 2, 1) := by decide +kernel
theorem dL_law_1116 : decode cL_law 1116 = .ok (.aload_n 0, 1) := by decide +kernel
theorem dL_law_1117 : decode cL_law 1117 = .ok (.iload 4, 2) := by decide +kernel
theorem dL_law_1119 : decode cL_law 1119 = .ok (.iconst 1, 1) := by decide +kernel
theorem dL_law_1120 : decode cL_law 1120 = .ok (.iadd, 1) := by decide +kernel
theorem dL_law_1121 : decode cL_law 1121 = .ok (.iaload, 1) := by decide +kernel
theorem dL_law_1122 : decode cL_law 1122 = .ok (.aload_n 0, 1) := by decide +kernel
theorem dL_law_1123 : decode cL_law 1123 = .ok (.iload 4, 2) := by decide +kernel
theorem dL_law_1125 : decode cL_law 1125 = .ok (.iconst 2, 1) := by decide +kernel
theorem dL_law_1126 : decode cL_law 1126 = .ok (.iadd, 1) := by decide +kernel
theorem dL_law_1127 : decode cL_law 1127 = .ok (.iaload, 1) := by decide +kernel
theorem dL_law_1128 : decode cL_law 1128 = .ok (.invokevirtual 113, 3) := by decide +kernel
theorem dL_law_1131 : decode cL_law 1131 = .ok (.if_icmp .eq 613, 3) := by decide +kernel
theorem dL_law_1136 : decode cL_law 1136 = .ok (.aload_n 1, 1) := by decide +kernel
theorem dL_law_1137 : decode cL_law 1137 = .ok (.aload_n 0, 1) := by decide +kernel
theorem dL_law_1138 : decode cL_law 1138 = .ok (.iload 4, 2) := by decide +kernel
theorem dL_law_1140 : decode cL_law 1140 = .ok (.iconst 1, 1) := by decide +kernel
theorem dL_law_1141 : decode cL_law 1141 = .ok (.iadd, 1) := by decide +kernel
theorem dL_law_1142 : decode cL_law 1142 = .ok (.iaload, 1) := by decide +kernel
theorem dL_law_1143 : decode cL_law 1143 = .ok (.invokevirtual 114, 3) := by decide +kernel
theorem dL_law_1146 : decode cL_law 1146 = .ok (.aload_n 2, 1) := by decide +kernel
theorem dL_law_1147 : decode cL_law 1147 = .ok (.aload_n 0, 1) := by decide +kernel
theorem dL_law_1148 : decode cL_law 1148 = .ok (.iload 4, 2) := by decide +kernel
theorem dL_law_1150 : decode cL_law 1150 = .ok (.iconst 1, 1) := by decide +kernel
theorem dL_law_1151 : decode cL_law 1151 = .ok (.iadd, 1) := by decide +kernel
theorem dL_law_1152 : decode cL_law 1152 = .ok (.iaload, 1) := by decide +kernel
theorem dL_law_1153 : decode cL_law 1153 = .ok (.invokevirtual 117, 3) := by decide +kernel
theorem dL_law_1156 : decode cL_law 1156 = .ok (.if_icmp .eq 588, 3) := by decide +kernel
theorem dL_law_1161 : decode cL_law 1161 = .ok (.aload_n 1, 1) := by decide +kernel
theorem dL_law_1162 : decode cL_law 1162 = .ok (.aload_n 0, 1) := by decide +kernel
theorem dL_law_1163 : decode cL_law 1163 = .ok (.iload 4, 2) := by decide +kernel
theorem dL_law_1165 : decode cL_law 1165 = .ok (.iconst 1, 1) := by decide +kernel
theorem dL_law_1166 : decode cL_law 1166 = .ok (.iadd, 1) := by decide +kernel
theorem dL_law_1167 : decode cL_law 1167 = .ok (.iaload, 1) := by decide +kernel
theorem dL_law_1168 : decode cL_law 1168 = .ok (.invokevirtual 118, 3) := by decide +kernel
theorem dL_law_1171 : decode cL_law 1171 = .ok (.aload_n 2, 1) := by decide +kernel
theorem dL_law_1172 : decode cL_law 1172 = .ok (.aload_n 0, 1) := by decide +kernel
theorem dL_law_1173 : decode cL_law 1173 = .ok (.iload 4, 2) := by decide +kernel
theorem dL_law_1175 : decode cL_law 1175 = .ok (.iconst 1, 1) := by decide +kernel
theorem dL_law_1176 : decode cL_law 1176 = .ok (.iadd, 1) := by decide +kernel
theorem dL_law_1177 : decode cL_law 1177 = .ok (.iaload, 1) := by decide +kernel
theorem dL_law_1178 : decode cL_law 1178 = .ok (.invokevirtual 121, 3) := by decide +kernel
theorem dL_law_1181 : decode cL_law 1181 = .ok (.if_icmp .eq 563, 3) := by decide +kernel
theorem dL_law_1186 : decode cL_law 1186 = .ok (.aload_n 1, 1) := by decide +kernel
theorem dL_law_1187 : decode cL_law 1187 = .ok (.aload_n 0, 1) := by decide +kernel
theorem dL_law_1188 : decode cL_law 1188 = .ok (.iload 4, 2) := by decide +kernel
theorem dL_law_1190 : decode cL_law 1190 = .ok (.iconst 1, 1) := by decide +kernel
theorem dL_law_1191 : decode cL_law 1191 = .ok (.iadd, 1) := by decide +kernel
theorem dL_law_1192 : decode cL_law 1192 = .ok (.iaload, 1) := by decide +kernel
theorem dL_law_1193 : decode cL_law 1193 = .ok (.aload_n 0, 1) := by decide +kernel
theorem dL_law_1194 : decode cL_law 1194 = .ok (.iload 4, 2) := by decide +kernel
theorem dL_law_1196 : decode cL_law 1196 = .ok (.iconst 2, 1) := by decide +kernel
theorem dL_law_1197 : decode cL_law 1197 = .ok (.iadd, 1) := by decide +kernel
theorem dL_law_1198 : decode cL_law 1198 = .ok (.iaload, 1) := by decide +kernel
theorem dL_law_1199 : decode cL_law 1199 = .ok (.invokevirtual 122, 3) := by decide +kernel
theorem dL_law_1202 : decode cL_law 1202 = .ok (.aload_n 2, 1) := by decide +kernel
theorem dL_law_1203 : decode cL_law 1203 = .ok (.aload_n 0, 1) := by decide +kernel
theorem dL_law_1204 : decode cL_law 1204 = .ok (.iload 4, 2) := by decide +kernel
theorem dL_law_1206 : decode cL_law 1206 = .ok (.iconst 1, 1) := by decide +kernel
theorem dL_law_1207 : decode cL_law 1207 = .ok (.iadd, 1) := by decide +kernel
theorem dL_law_1208 : decode cL_law 1208 = .ok (.iaload, 1) := by decide +kernel
theorem dL_law_1209 : decode cL_law 1209 = .ok (.aload_n 0, 1) := by decide +kernel
theorem dL_law_1210 : decode cL_law 1210 = .ok (.iload 4, 2) := by decide +kernel
theorem dL_law_1212 : decode cL_law 1212 = .ok (.iconst 2, 1) := by decide +kernel
theorem dL_law_1213 : decode cL_law 1213 = .ok (.iadd, 1) := by decide +kernel
theorem dL_law_1214 : decode cL_law 1214 = .ok (.iaload, 1) := by decide +kernel
theorem dL_law_1215 : decode cL_law 1215 = .ok (.invokevirtual 125, 3) := by decide +kernel
theorem dL_law_1218 : decode cL_law 1218 = .ok (.if_icmp .eq 526, 3) := by decide +kernel
theorem dL_law_1223 : decode cL_law 1223 = .ok (.aload_n 1, 1) := by decide +kernel
theorem dL_law_1224 : decode cL_law 1224 = .ok (.aload_n 0, 1) := by decide +kernel
theorem dL_law_1225 : decode cL_law 1225 = .ok (.iload 4, 2) := by decide +kernel
theorem dL_law_1227 : decode cL_law 1227 = .ok (.iconst 1, 1) := by decide +kernel
theorem dL_law_1228 : decode cL_law 1228 = .ok (.iadd, 1) := by decide +kernel
theorem dL_law_1229 : decode cL_law 1229 = .ok (.iaload, 1) := by decide +kernel
theorem dL_law_1230 : decode cL_law 1230 = .ok (.aload_n 0, 1) := by decide +kernel
theorem dL_law_1231 : decode cL_law 1231 = .ok (.iload 4, 2) := by decide +kernel
theorem dL_law_1233 : decode cL_law 1233 = .ok (.iconst 2, 1) := by decide +kernel
theorem dL_law_1234 : decode cL_law 1234 = .ok (.iadd, 1) := by decide +kernel
theorem dL_law_1235 : decode cL_law 1235 = .ok (.iaload, 1) := by decide +kernel
theorem dL_law_1236 : decode cL_law 1236 = .ok (.invokevirtual 126, 3) := by decide +kernel
theorem dL_law_1239 : decode cL_law 1239 = .ok (.aload_n 2, 1) := by decide +kernel
theorem dL_law_1240 : decode cL_law 1240 = .ok (.aload_n 0, 1) := by decide +kernel
theorem dL_law_1241 : decode cL_law 1241 = .ok (.iload 4, 2) := by decide +kernel
theorem dL_law_1243 : decode cL_law 1243 = .ok (.iconst 1, 1) := by decide +kernel
theorem dL_law_1244 : decode cL_law 1244 = .ok (.iadd, 1) := by decide +kernel
theorem dL_law_1245 : decode cL_law 1245 = .ok (.iaload, 1) := by decide +kernel
theorem dL_law_1246 : decode cL_law 1246 = .ok (.aload_n 0, 1) := by decide +kernel
theorem dL_law_1247 : decode cL_law 1247 = .ok (.iload 4, 2) := by decide +kernel
theorem dL_law_1249 : decode cL_law 1249 = .ok (.iconst 2, 1) := by decide +kernel
theorem dL_law_1250 : decode cL_law 1250 = .ok (.iadd, 1) := by decide +kernel
theorem dL_law_1251 : decode cL_law 1251 = .ok (.iaload, 1) := by decide +kernel
theorem dL_law_1252 : decode cL_law 1252 = .ok (.invokevirtual 129, 3) := by decide +kernel
theorem dL_law_1255 : decode cL_law 1255 = .ok (.if_icmp .eq 489, 3) := by decide +kernel
theorem dL_law_1260 : decode cL_law 1260 = .ok (.aload_n 1, 1) := by decide +kernel
theorem dL_law_1261 : decode cL_law 1261 = .ok (.aload_n 0, 1) := by decide +kernel
theorem dL_law_1262 : decode cL_law 1262 = .ok (.iload 4, 2) := by decide +kernel
theorem dL_law_1264 : decode cL_law 1264 = .ok (.iconst 1, 1) := by decide +kernel
theorem dL_law_1265 : decode cL_law 1265 = .ok (.iadd, 1) := by decide +kernel
theorem dL_law_1266 : decode cL_law 1266 = .ok (.iaload, 1) := by decide +kernel
theorem dL_law_1267 : decode cL_law 1267 = .ok (.aload_n 0, 1) := by decide +kernel
theorem dL_law_1268 : decode cL_law 1268 = .ok (.iload 4, 2) := by decide +kernel
theorem dL_law_1270 : decode cL_law 1270 = .ok (.iconst 2, 1) := by decide +kernel
theorem dL_law_1271 : decode cL_law 1271 = .ok (.iadd, 1) := by decide +kernel
theorem dL_law_1272 : decode cL_law 1272 = .ok (.iaload, 1) := by decide +kernel
theorem dL_law_1273 : decode cL_law 1273 = .ok (.invokevirtual 130, 3) := by decide +kernel
theorem dL_law_1276 : decode cL_law 1276 = .ok (.aload_n 2, 1) := by decide +kernel
theorem dL_law_1277 : decode cL_law 1277 = .ok (.aload_n 0, 1) := by decide +kernel
theorem dL_law_1278 : decode cL_law 1278 = .ok (.iload 4, 2) := by decide +kernel
theorem dL_law_1280 : decode cL_law 1280 = .ok (.iconst 1, 1) := by decide +kernel
theorem dL_law_1281 : decode cL_law 1281 = .ok (.iadd, 1) := by decide +kernel
theorem dL_law_1282 : decode cL_law 1282 = .ok (.iaload, 1) := by decide +kernel
theorem dL_law_1283 : decode cL_law 1283 = .ok (.aload_n 0, 1) := by decide +kernel
theorem dL_law_1284 : decode cL_law 1284 = .ok (.iload 4, 2) := by decide +kernel
theorem dL_law_1286 : decode cL_law 1286 = .ok (.iconst 2, 1) := by decide +kernel
theorem dL_law_1287 : decode cL_law 1287 = .ok (.iadd, 1) := by decide +kernel
theorem dL_law_1288 : decode cL_law 1288 = .ok (.iaload, 1) := by decide +kernel
theorem dL_law_1289 : decode cL_law 1289 = .ok (.invokevirtual 133, 3) := by decide +kernel
theorem dL_law_1292 : decode cL_law 1292 = .ok (.if_icmp .eq 452, 3) := by decide +kernel
theorem dL_law_1297 : decode cL_law 1297 = .ok (.aload_n 1, 1) := by decide +kernel
theorem dL_law_1298 : decode cL_law 1298 = .ok (.invokevirtual 134, 3) := by decide +kernel
theorem dL_law_1301 : decode cL_law 1301 = .ok (.aload_n 2, 1) := by decide +kernel
theorem dL_law_1302 : decode cL_law 1302 = .ok (.invokevirtual 137, 3) := by decide +kernel
theorem dL_law_1305 : decode cL_law 1305 = .ok (.if_icmp .eq 439, 3) := by decide +kernel
theorem dL_law_1310 : decode cL_law 1310 = .ok (.aload_n 1, 1) := by decide +kernel
theorem dL_law_1311 : decode cL_law 1311 = .ok (.invokevirtual 138, 3) := by decide +kernel
theorem dL_law_1314 : decode cL_law 1314 = .ok (.aload_n 2, 1) := by decide +kernel
theorem dL_law_1315 : decode cL_law 1315 = .ok (.invokevirtual 141, 3) := by decide +kernel
theorem dL_law_1318 : decode cL_law 1318 = .ok (.if_icmp .eq 426, 3) := by decide +kernel
theorem dL_law_1323 : decode cL_law 1323 = .ok (.aload_n 1, 1) := by decide +kernel
theorem dL_law_1324 : decode cL_law 1324 = .ok (.aload_n 0, 1) := by decide +kernel
theorem dL_law_1325 : decode cL_law 1325 = .ok (.iload 4, 2) := by decide +kernel
theorem dL_law_1327 : decode cL_law 1327 = .ok (.iconst 1, 1) := by decide +kernel
theorem dL_law_1328 : decode cL_law 1328 = .ok (.iadd, 1) := by decide +kernel
theorem dL_law_1329 : decode cL_law 1329 = .ok (.iaload, 1) := by decide +kernel
theorem dL_law_1330 : decode cL_law 1330 = .ok (.invokevirtual 142, 3) := by decide +kernel
theorem dL_law_1333 : decode cL_law 1333 = .ok (.aload_n 2, 1) := by decide +kernel
theorem dL_law_1334 : decode cL_law 1334 = .ok (.aload_n 0, 1) := by decide +kernel
theorem dL_law_1335 : decode cL_law 1335 = .ok (.iload 4, 2) := by decide +kernel
theorem dL_law_1337 : decode cL_law 1337 = .ok (.iconst 1, 1) := by decide +kernel
theorem dL_law_1338 : decode cL_law 1338 = .ok (.iadd, 1) := by decide +kernel
theorem dL_law_1339 : decode cL_law 1339 = .ok (.iaload, 1) := by decide +kernel
theorem dL_law_1340 : decode cL_law 1340 = .ok (.invokevirtual 145, 3) := by decide +kernel
theorem dL_law_1343 : decode cL_law 1343 = .ok (.if_icmp .eq 401, 3) := by decide +kernel
theorem dL_law_1348 : decode cL_law 1348 = .ok (.aload_n 1, 1) := by decide +kernel
theorem dL_law_1349 : decode cL_law 1349 = .ok (.aload_n 0, 1) := by decide +kernel
theorem dL_law_1350 : decode cL_law 1350 = .ok (.iload 4, 2) := by decide +kernel
theorem dL_law_1352 : decode cL_law 1352 = .ok (.iconst 1, 1) := by decide +kernel
theorem dL_law_1353 : decode cL_law 1353 = .ok (.iadd, 1) := by decide +kernel
theorem dL_law_1354 : decode cL_law 1354 = .ok (.iaload, 1) := by decide +kernel
theorem dL_law_1355 : decode cL_law 1355 = .ok (.invokevirtual 146, 3) := by decide +kernel
theorem dL_law_1358 : decode cL_law 1358 = .ok (.aload_n 2, 1) := by decide +kernel
theorem dL_law_1359 : decode cL_law 1359 = .ok (.aload_n 0, 1) := by decide +kernel
theorem dL_law_1360 : decode cL_law 1360 = .ok (.iload 4, 2) := by decide +kernel
theorem dL_law_1362 : decode cL_law 1362 = .ok (.iconst 1, 1) := by decide +kernel
theorem dL_law_1363 : decode cL_law 1363 = .ok (.iadd, 1) := by decide +kernel
theorem dL_law_1364 : decode cL_law 1364 = .ok (.iaload, 1) := by decide +kernel
theorem dL_law_1365 : decode cL_law 1365 = .ok (.invokevirtual 149, 3) := by decide +kernel
theorem dL_law_1368 : decode cL_law 1368 = .ok (.if_icmp .eq 376, 3) := by decide +kernel
theorem dL_law_1373 : decode cL_law 1373 = .ok (.aload_n 1, 1) := by decide +kernel
theorem dL_law_1374 : decode cL_law 1374 = .ok (.aload_n 0, 1) := by decide +kernel
theorem dL_law_1375 : decode cL_law 1375 = .ok (.iload 4, 2) := by decide +kernel
theorem dL_law_1377 : decode cL_law 1377 = .ok (.iconst 1, 1) := by decide +kernel
theorem dL_law_1378 : decode cL_law 1378 = .ok (.iadd, 1) := by decide +kernel
theorem dL_law_1379 : decode cL_law 1379 = .ok (.iaload, 1) := by decide +kernel
theorem dL_law_1380 : decode cL_law 1380 = .ok (.aload_n 0, 1) := by decide +kernel
theorem dL_law_1381 : decode cL_law 1381 = .ok (.iload 4, 2) := by decide +kernel
theorem dL_law_1383 : decode cL_law 1383 = .ok (.iconst 2, 1) := by decide +kernel
theorem dL_law_1384 : decode cL_law 1384 = .ok (.iadd, 1) := by decide +kernel
theorem dL_law_1385 : decode cL_law 1385 = .ok (.iaload, 1) := by decide +kernel
theorem dL_law_1386 : decode cL_law 1386 = .ok (.invokevirtual 150, 3) := by decide +kernel
theorem dL_law_1389 : decode cL_law 1389 = .ok (.aload_n 2, 1) := by decide +kernel
theorem dL_law_1390 : decode cL_law 1390 = .ok (.aload_n 0, 1) := by decide +kernel
theorem dL_law_1391 : decode cL_law 1391 = .ok (.iload 4, 2) := by decide +kernel
theorem dL_law_1393 : decode cL_law 1393 = .ok (.iconst 1, 1) := by decide +kernel
theorem dL_law_1394 : decode cL_law 1394 = .ok (.iadd, 1) := by decide +kernel
theorem dL_law_1395 : decode cL_law 1395 = .ok (.iaload, 1) := by decide +kernel
theorem dL_law_1396 : decode cL_law 1396 = .ok (.aload_n 0, 1) := by decide +kernel
theorem dL_law_1397 : decode cL_law 1397 = .ok (.iload 4, 2) := by decide +kernel
theorem dL_law_1399 : decode cL_law 1399 = .ok (.iconst 2, 1) := by decide +kernel
theorem dL_law_1400 : decode cL_law 1400 = .ok (.iadd, 1) := by decide +kernel
theorem dL_law_1401 : decode cL_law 1401 = .ok (.iaload, 1) := by decide +kernel
theorem dL_law_1402 : decode cL_law 1402 = .ok (.invokevirtual 153, 3) := by decide +kernel
theorem dL_law_1405 : decode cL_law 1405 = .ok (.if_icmp .eq 339, 3) := by decide +kernel
theorem dL_law_1410 : decode cL_law 1410 = .ok (.aload_n 1, 1) := by decide +kernel
theorem dL_law_1411 : decode cL_law 1411 = .ok (.aload_n 0, 1) := by decide +kernel
theorem dL_law_1412 : decode cL_law 1412 = .ok (.iload 4, 2) := by decide +kernel
theorem dL_law_1414 : decode cL_law 1414 = .ok (.iconst 1, 1) := by decide +kernel
theorem dL_law_1415 : decode cL_law 1415 = .ok (.iadd, 1) := by decide +kernel
theorem dL_law_1416 : decode cL_law 1416 = .ok (.iaload, 1) := by decide +kernel
theorem dL_law_1417 : decode cL_law 1417 = .ok (.aload_n 0, 1) := by decide +kernel
theorem dL_law_1418 : decode cL_law 1418 = .ok (.iload 4, 2) := by decide +kernel
theorem dL_law_1420 : decode cL_law 1420 = .ok (.iconst 2, 1) := by decide +kernel
theorem dL_law_1421 : decode cL_law 1421 = .ok (.iadd, 1) := by decide +kernel
theorem dL_law_1422 : decode cL_law 1422 = .ok (.iaload, 1) := by decide +kernel
theorem dL_law_1423 : decode cL_law 1423 = .ok (.aload_n 0, 1) := by decide +kernel
theorem dL_law_1424 : decode cL_law 1424 = .ok (.iload 4, 2) := by decide +kernel
theorem dL_law_1426 : decode cL_law 1426 = .ok (.iconst 3, 1) := by decide +kernel
theorem dL_law_1427 : decode cL_law 1427 = .ok (.iadd, 1) := by decide +kernel
theorem dL_law_1428 : decode cL_law 1428 = .ok (.iaload, 1) := by decide +kernel
theorem dL_law_1429 : decode cL_law 1429 = .ok (.invokevirtual 154, 3) := by decide +kernel
theorem dL_law_1432 : decode cL_law 1432 = .ok (.aload_n 2, 1) := by decide +kernel
theorem dL_law_1433 : decode cL_law 1433 = .ok (.aload_n 0, 1) := by decide +kernel
theorem dL_law_1434 : decode cL_law 1434 = .ok (.iload 4, 2) := by decide +kernel
theorem dL_law_1436 : decode cL_law 1436 = .ok (.iconst 1, 1) := by decide +kernel
theorem dL_law_1437 : decode cL_law 1437 = .ok (.iadd, 1) := by decide +kernel
theorem dL_law_1438 : decode cL_law 1438 = .ok (.iaload, 1) := by decide +kernel
theorem dL_law_1439 : decode cL_law 1439 = .ok (.aload_n 0, 1) := by decide +kernel
theorem dL_law_1440 : decode cL_law 1440 = .ok (.iload 4, 2) := by decide +kernel
theorem dL_law_1442 : decode cL_law 1442 = .ok (.iconst 2, 1) := by decide +kernel
theorem dL_law_1443 : decode cL_law 1443 = .ok (.iadd, 1) := by decide +kernel
theorem dL_law_1444 : decode cL_law 1444 = .ok (.iaload, 1) := by decide +kernel
theorem dL_law_1445 : decode cL_law 1445 = .ok (.aload_n 0, 1) := by decide +kernel
theorem dL_law_1446 : decode cL_law 1446 = .ok (.iload 4, 2) := by decide +kernel
theorem dL_law_1448 : decode cL_law 1448 = .ok (.iconst 3, 1) := by decide +kernel
theorem dL_law_1449 : decode cL_law 1449 = .ok (.iadd, 1) := by decide +kernel
theorem dL_law_1450 : decode cL_law 1450 = .ok (.iaload, 1) := by decide +kernel
theorem dL_law_1451 : decode cL_law 1451 = .ok (.invokevirtual 158, 3) := by decide +kernel
theorem dL_law_1454 : decode cL_law 1454 = .ok (.lcmp, 1) := by decide +kernel
theorem dL_law_1455 : decode cL_law 1455 = .ok (.ifCond .eq 289, 3) := by decide +kernel
theorem dL_law_1460 : decode cL_law 1460 = .ok (.aload_n 1, 1) := by decide +kernel
theorem dL_law_1461 : decode cL_law 1461 = .ok (.aload_n 0, 1) := by decide +kernel
theorem dL_law_1462 : decode cL_law 1462 = .ok (.iload 4, 2) := by decide +kernel
theorem dL_law_1464 : decode cL_law 1464 = .ok (.iconst 1, 1) := by decide +kernel
theorem dL_law_1465 : decode cL_law 1465 = .ok (.iadd, 1) := by decide +kernel
theorem dL_law_1466 : decode cL_law 1466 = .ok (.iaload, 1) := by decide +kernel
theorem dL_law_1467 : decode cL_law 1467 = .ok (.aload_n 0, 1) := by decide +kernel
theorem dL_law_1468 : decode cL_law 1468 = .ok (.iload 4, 2) := by decide +kernel
theorem dL_law_1470 : decode cL_law 1470 = .ok (.iconst 2, 1) := by decide +kernel
theorem dL_law_1471 : decode cL_law 1471 = .ok (.iadd, 1) := by decide +kernel
theorem dL_law_1472 : decode cL_law 1472 = .ok (.iaload, 1) := by decide +kernel
theorem dL_law_1473 : decode cL_law 1473 = .ok (.aload_n 0, 1) := by decide +kernel
theorem dL_law_1474 : decode cL_law 1474 = .ok (.iload 4, 2) := by decide +kernel
theorem dL_law_1476 : decode cL_law 1476 = .ok (.iconst 3, 1) := by decide +kernel
theorem dL_law_1477 : decode cL_law 1477 = .ok (.iadd, 1) := by decide +kernel
theorem dL_law_1478 : decode cL_law 1478 = .ok (.iaload, 1) := by decide +kernel
theorem dL_law_1479 : decode cL_law 1479 = .ok (.aload_n 0, 1) := by decide +kernel
theorem dL_law_1480 : decode cL_law 1480 = .ok (.iload 4, 2) := by decide +kernel
theorem dL_law_1482 : decode cL_law 1482 = .ok (.iconst 4, 1) := by decide +kernel
theorem dL_law_1483 : decode cL_law 1483 = .ok (.iadd, 1) := by decide +kernel
theorem dL_law_1484 : decode cL_law 1484 = .ok (.iaload, 1) := by decide +kernel
theorem dL_law_1485 : decode cL_law 1485 = .ok (.aload_n 0, 1) := by decide +kernel
theorem dL_law_1486 : decode cL_law 1486 = .ok (.iload 4, 2) := by decide +kernel
theorem dL_law_1488 : decode cL_law 1488 = .ok (.iconst 5, 1) := by decide +kernel
theorem dL_law_1489 : decode cL_law 1489 = .ok (.iadd, 1) := by decide +kernel
theorem dL_law_1490 : decode cL_law 1490 = .ok (.iaload, 1) := by decide +kernel
theorem dL_law_1491 : decode cL_law 1491 = .ok (.aload_n 0, 1) := by decide +kernel
theorem dL_law_1492 : decode cL_law 1492 = .ok (.iload 4, 2) := by decide +kernel
theorem dL_law_1494 : decode cL_law 1494 = .ok (.bipush 6, 2) := by decide +kernel
theorem dL_law_1496 : decode cL_law 1496 = .ok (.iadd, 1) := by decide +kernel
theorem dL_law_1497 : decode cL_law 1497 = .ok (.iaload, 1) := by decide +kernel
theorem dL_law_1498 : decode cL_law 1498 = .ok (.invokevirtual 159, 3) := by decide +kernel
theorem dL_law_1501 : decode cL_law 1501 = .ok (.aload_n 2, 1) := by decide +kernel
theorem dL_law_1502 : decode cL_law 1502 = .ok (.aload_n 0, 1) := by decide +kernel
theorem dL_law_1503 : decode cL_law 1503 = .ok (.iload 4, 2) := by decide +kernel
theorem dL_law_1505 : decode cL_law 1505 = .ok (.iconst 1, 1) := by decide +kernel
theorem dL_law_1506 : decode cL_law 1506 = .ok (.iadd, 1) := by decide +kernel
theorem dL_law_1507 : decode cL_law 1507 = .ok (.iaload, 1) := by decide +kernel
theorem dL_law_1508 : decode cL_law 1508 = .ok (.aload_n 0, 1) := by decide +kernel
theorem dL_law_1509 : decode cL_law 1509 = .ok (.iload 4, 2) := by decide +kernel
theorem dL_law_1511 : decode cL_law 1511 = .ok (.iconst 2, 1) := by decide +kernel
theorem dL_law_1512 : decode cL_law 1512 = .ok (.iadd, 1) := by decide +kernel
theorem dL_law_1513 : decode cL_law 1513 = .ok (.iaload, 1) := by decide +kernel
theorem dL_law_1514 : decode cL_law 1514 = .ok (.aload_n 0, 1) := by decide +kernel
theorem dL_law_1515 : decode cL_law 1515 = .ok (.iload 4, 2) := by decide +kernel
theorem dL_law_1517 : decode cL_law 1517 = .ok (.iconst 3, 1) := by decide +kernel
theorem dL_law_1518 : decode cL_law 1518 = .ok (.iadd, 1) := by decide +kernel
theorem dL_law_1519 : decode cL_law 1519 = .ok (.iaload, 1) := by decide +kernel
theorem dL_law_1520 : decode cL_law 1520 = .ok (.aload_n 0, 1) := by decide +kernel
theorem dL_law_1521 : decode cL_law 1521 = .ok (.iload 4, 2) := by decide +kernel
theorem dL_law_1523 : decode cL_law 1523 = .ok (.iconst 4, 1) := by decide +kernel
theorem dL_law_1524 : decode cL_law 1524 = .ok (.iadd, 1) := by decide +kernel
theorem dL_law_1525 : decode cL_law 1525 = .ok (.iaload, 1) := by decide +kernel
theorem dL_law_1526 : decode cL_law 1526 = .ok (.aload_n 0, 1) := by decide +kernel
theorem dL_law_1527 : decode cL_law 1527 = .ok (.iload 4, 2) := by decide +kernel
theorem dL_law_1529 : decode cL_law 1529 = .ok (.iconst 5, 1) := by decide +kernel
theorem dL_law_1530 : decode cL_law 1530 = .ok (.iadd, 1) := by decide +kernel
theorem dL_law_1531 : decode cL_law 1531 = .ok (.iaload, 1) := by decide +kernel
theorem dL_law_1532 : decode cL_law 1532 = .ok (.aload_n 0, 1) := by decide +kernel
theorem dL_law_1533 : decode cL_law 1533 = .ok (.iload 4, 2) := by decide +kernel
theorem dL_law_1535 : decode cL_law 1535 = .ok (.bipush 6, 2) := by decide +kernel
theorem dL_law_1537 : decode cL_law 1537 = .ok (.iadd, 1) := by decide +kernel
theorem dL_law_1538 : decode cL_law 1538 = .ok (.iaload, 1) := by decide +kernel
theorem dL_law_1539 : decode cL_law 1539 = .ok (.invokevirtual 163, 3) := by decide +kernel
theorem dL_law_1542 : decode cL_law 1542 = .ok (.if_icmp .eq 202, 3) := by decide +kernel
theorem dL_law_1547 : decode cL_law 1547 = .ok (.aload_n 1, 1) := by decide +kernel
theorem dL_law_1548 : decode cL_law 1548 = .ok (.aload_n 0, 1) := by decide +kernel
theorem dL_law_1549 : decode cL_law 1549 = .ok (.iload 4, 2) := by decide +kernel
theorem dL_law_1551 : decode cL_law 1551 = .ok (.iconst 1, 1) := by decide +kernel
theorem dL_law_1552 : decode cL_law 1552 = .ok (.iadd, 1) := by decide +kernel
theorem dL_law_1553 : decode cL_law 1553 = .ok (.iaload, 1) := by decide +kernel
theorem dL_law_1554 : decode cL_law 1554 = .ok (.aload_n 0, 1) := by decide +kernel
theorem dL_law_1555 : decode cL_law 1555 = .ok (.iload 4, 2) := by decide +kernel
theorem dL_law_1557 : decode cL_law 1557 = .ok (.iconst 2, 1) := by decide +kernel
theorem dL_law_1558 : decode cL_law 1558 = .ok (.iadd, 1) := by decide +kernel
theorem dL_law_1559 : decode cL_law 1559 = .ok (.iaload, 1) := by decide +kernel
theorem dL_law_1560 : decode cL_law 1560 = .ok (.invokevirtual 164, 3) := by decide +kernel
theorem dL_law_1563 : decode cL_law 1563 = .ok (.aload_n 2, 1) := by decide +kernel
theorem dL_law_1564 : decode cL_law 1564 = .ok (.aload_n 0, 1) := by decide +kernel
theorem dL_law_1565 : decode cL_law 1565 = .ok (.iload 4, 2) := by decide +kernel
theorem dL_law_1567 : decode cL_law 1567 = .ok (.iconst 1, 1) := by decide +kernel
theorem dL_law_1568 : decode cL_law 1568 = .ok (.iadd, 1) := by decide +kernel
theorem dL_law_1569 : decode cL_law 1569 = .ok (.iaload, 1) := by decide +kernel
theorem dL_law_1570 : decode cL_law 1570 = .ok (.aload_n 0, 1) := by decide +kernel
theorem dL_law_1571 : decode cL_law 1571 = .ok (.iload 4, 2) := by decide +kernel
theorem dL_law_1573 : decode cL_law 1573 = .ok (.iconst 2, 1) := by decide +kernel
theorem dL_law_1574 : decode cL_law 1574 = .ok (.iadd, 1) := by decide +kernel
theorem dL_law_1575 : decode cL_law 1575 = .ok (.iaload, 1) := by decide +kernel
theorem dL_law_1576 : decode cL_law 1576 = .ok (.invokevirtual 167, 3) := by decide +kernel
theorem dL_law_1579 : decode cL_law 1579 = .ok (.if_icmp .eq 165, 3) := by decide +kernel
theorem dL_law_1584 : decode cL_law 1584 = .ok (.aload_n 1, 1) := by decide +kernel
theorem dL_law_1585 : decode cL_law 1585 = .ok (.aload_n 0, 1) := by decide +kernel
theorem dL_law_1586 : decode cL_law 1586 = .ok (.iload 4, 2) := by decide +kernel
theorem dL_law_1588 : decode cL_law 1588 = .ok (.iconst 1, 1) := by decide +kernel
theorem dL_law_1589 : decode cL_law 1589 = .ok (.iadd, 1) := by decide +kernel
theorem dL_law_1590 : decode cL_law 1590 = .ok (.iaload, 1) := by decide +kernel
theorem dL_law_1591 : decode cL_law 1591 = .ok (.aload_n 0, 1) := by decide +kernel
theorem dL_law_1592 : decode cL_law 1592 = .ok (.iload 4, 2) := by decide +kernel
theorem dL_law_1594 : decode cL_law 1594 = .ok (.iconst 2, 1) := by decide +kernel
theorem dL_law_1595 : decode cL_law 1595 = .ok (.iadd, 1) := by decide +kernel
theorem dL_law_1596 : decode cL_law 1596 = .ok (.iaload, 1) := by decide +kernel
theorem dL_law_1597 : decode cL_law 1597 = .ok (.invokevirtual 168, 3) := by decide +kernel
theorem dL_law_1600 : decode cL_law 1600 = .ok (.aload_n 2, 1) := by decide +kernel
theorem dL_law_1601 : decode cL_law 1601 = .ok (.aload_n 0, 1) := by decide +kernel
theorem dL_law_1602 : decode cL_law 1602 = .ok (.iload 4, 2) := by decide +kernel
theorem dL_law_1604 : decode cL_law 1604 = .ok (.iconst 1, 1) := by decide +kernel
theorem dL_law_1605 : decode cL_law 1605 = .ok (.iadd, 1) := by decide +kernel
theorem dL_law_1606 : decode cL_law 1606 = .ok (.iaload, 1) := by decide +kernel
theorem dL_law_1607 : decode cL_law 1607 = .ok (.aload_n 0, 1) := by decide +kernel
theorem dL_law_1608 : decode cL_law 1608 = .ok (.iload 4, 2) := by decide +kernel
theorem dL_law_1610 : decode cL_law 1610 = .ok (.iconst 2, 1) := by decide +kernel
theorem dL_law_1611 : decode cL_law 1611 = .ok (.iadd, 1) := by decide +kernel
theorem dL_law_1612 : decode cL_law 1612 = .ok (.iaload, 1) := by decide +kernel
theorem dL_law_1613 : decode cL_law 1613 = .ok (.invokevirtual 171, 3) := by decide +kernel
theorem dL_law_1616 : decode cL_law 1616 = .ok (.if_icmp .eq 128, 3) := by decide +kernel
theorem dL_law_1621 : decode cL_law 1621 = .ok (.aload_n 1, 1) := by decide +kernel
theorem dL_law_1622 : decode cL_law 1622 = .ok (.aload_n 0, 1) := by decide +kernel
theorem dL_law_1623 : decode cL_law 1623 = .ok (.iload 4, 2) := by decide +kernel
theorem dL_law_1625 : decode cL_law 1625 = .ok (.iconst 1, 1) := by decide +kernel
theorem dL_law_1626 : decode cL_law 1626 = .ok (.iadd, 1) := by decide +kernel
theorem dL_law_1627 : decode cL_law 1627 = .ok (.iaload, 1) := by decide +kernel
theorem dL_law_1628 : decode cL_law 1628 = .ok (.aload_n 0, 1) := by decide +kernel
theorem dL_law_1629 : decode cL_law 1629 = .ok (.iload 4, 2) := by decide +kernel
theorem dL_law_1631 : decode cL_law 1631 = .ok (.iconst 2, 1) := by decide +kernel
theorem dL_law_1632 : decode cL_law 1632 = .ok (.iadd, 1) := by decide +kernel
theorem dL_law_1633 : decode cL_law 1633 = .ok (.iaload, 1) := by decide +kernel
theorem dL_law_1634 : decode cL_law 1634 = .ok (.aload_n 0, 1) := by decide +kernel
theorem dL_law_1635 : decode cL_law 1635 = .ok (.iload 4, 2) := by decide +kernel
theorem dL_law_1637 : decode cL_law 1637 = .ok (.iconst 3, 1) := by decide +kernel
theorem dL_law_1638 : decode cL_law 1638 = .ok (.iadd, 1) := by decide +kernel
theorem dL_law_1639 : decode cL_law 1639 = .ok (.iaload, 1) := by decide +kernel
theorem dL_law_1640 : decode cL_law 1640 = .ok (.aload_n 0, 1) := by decide +kernel
theorem dL_law_1641 : decode cL_law 1641 = .ok (.iload 4, 2) := by decide +kernel
theorem dL_law_1643 : decode cL_law 1643 = .ok (.iconst 4, 1) := by decide +kernel
theorem dL_law_1644 : decode cL_law 1644 = .ok (.iadd, 1) := by decide +kernel
theorem dL_law_1645 : decode cL_law 1645 = .ok (.iaload, 1) := by decide +kernel
theorem dL_law_1646 : decode cL_law 1646 = .ok (.aload_n 0, 1) := by decide +kernel
theorem dL_law_1647 : decode cL_law 1647 = .ok (.iload 4, 2) := by decide +kernel
theorem dL_law_1649 : decode cL_law 1649 = .ok (.iconst 5, 1) := by decide +kernel
theorem dL_law_1650 : decode cL_law 1650 = .ok (.iadd, 1) := by decide +kernel
theorem dL_law_1651 : decode cL_law 1651 = .ok (.iaload, 1) := by decide +kernel
theorem dL_law_1652 : decode cL_law 1652 = .ok (.invokevirtual 172, 3) := by decide +kernel
theorem dL_law_1655 : decode cL_law 1655 = .ok (.aload_n 2, 1) := by decide +kernel
theorem dL_law_1656 : decode cL_law 1656 = .ok (.aload_n 0, 1) := by decide +kernel
theorem dL_law_1657 : decode cL_law 1657 = .ok (.iload 4, 2) := by decide +kernel
theorem dL_law_1659 : decode cL_law 1659 = .ok (.iconst 1, 1) := by decide +kernel
theorem dL_law_1660 : decode cL_law 1660 = .ok (.iadd, 1) := by decide +kernel
theorem dL_law_1661 : decode cL_law 1661 = .ok (.iaload, 1) := by decide +kernel
theorem dL_law_1662 : decode cL_law 1662 = .ok (.aload_n 0, 1) := by decide +kernel
theorem dL_law_1663 : decode cL_law 1663 = .ok (.iload 4, 2) := by decide +kernel
theorem dL_law_1665 : decode cL_law 1665 = .ok (.iconst 2, 1) := by decide +kernel
theorem dL_law_1666 : decode cL_law 1666 = .ok (.iadd, 1) := by decide +kernel
theorem dL_law_1667 : decode cL_law 1667 = .ok (.iaload, 1) := by decide +kernel
theorem dL_law_1668 : decode cL_law 1668 = .ok (.aload_n 0, 1) := by decide +kernel
theorem dL_law_1669 : decode cL_law 1669 = .ok (.iload 4, 2) := by decide +kernel
theorem dL_law_1671 : decode cL_law 1671 = .ok (.iconst 3, 1) := by decide +kernel
theorem dL_law_1672 : decode cL_law 1672 = .ok (.iadd, 1) := by decide +kernel
theorem dL_law_1673 : decode cL_law 1673 = .ok (.iaload, 1) := by decide +kernel
theorem dL_law_1674 : decode cL_law 1674 = .ok (.aload_n 0, 1) := by decide +kernel
theorem dL_law_1675 : decode cL_law 1675 = .ok (.iload 4, 2) := by decide +kernel
theorem dL_law_1677 : decode cL_law 1677 = .ok (.iconst 4, 1) := by decide +kernel
theorem dL_law_1678 : decode cL_law 1678 = .ok (.iadd, 1) := by decide +kernel
theorem dL_law_1679 : decode cL_law 1679 = .ok (.iaload, 1) := by decide +kernel
theorem dL_law_1680 : decode cL_law 1680 = .ok (.aload_n 0, 1) := by decide +kernel
theorem dL_law_1681 : decode cL_law 1681 = .ok (.iload 4, 2) := by decide +kernel
theorem dL_law_1683 : decode cL_law 1683 = .ok (.iconst 5, 1) := by decide +kernel
theorem dL_law_1684 : decode cL_law 1684 = .ok (.iadd, 1) := by decide +kernel
theorem dL_law_1685 : decode cL_law 1685 = .ok (.iaload, 1) := by decide +kernel
theorem dL_law_1686 : decode cL_law 1686 = .ok (.invokevirtual 175, 3) := by decide +kernel
theorem dL_law_1689 : decode cL_law 1689 = .ok (.if_icmp .eq 55, 3) := by decide +kernel
theorem dL_law_1694 : decode cL_law 1694 = .ok (.aload_n 1, 1) := by decide +kernel
theorem dL_law_1695 : decode cL_law 1695 = .ok (.aload_n 0, 1) := by decide +kernel
theorem dL_law_1696 : decode cL_law 1696 = .ok (.iload 4, 2) := by decide +kernel
theorem dL_law_1698 : decode cL_law 1698 = .ok (.iconst 1, 1) := by decide +kernel
theorem dL_law_1699 : decode cL_law 1699 = .ok (.iadd, 1) := by decide +kernel
theorem dL_law_1700 : decode cL_law 1700 = .ok (.iaload, 1) := by decide +kernel
theorem dL_law_1701 : decode cL_law 1701 = .ok (.invokevirtual 176, 3) := by decide +kernel
theorem dL_law_1704 : decode cL_law 1704 = .ok (.aload_n 2, 1) := by decide +kernel
theorem dL_law_1705 : decode cL_law 1705 = .ok (.aload_n 0, 1) := by decide +kernel
theorem dL_law_1706 : decode cL_law 1706 = .ok (.iload 4, 2) := by decide +kernel
theorem dL_law_1708 : decode cL_law 1708 = .ok (.iconst 1, 1) := by decide +kernel
theorem dL_law_1709 : decode cL_law 1709 = .ok (.iadd, 1) := by decide +kernel
theorem dL_law_1710 : decode cL_law 1710 = .ok (.iaload, 1) := by decide +kernel
theorem dL_law_1711 : decode cL_law 1711 = .ok (.invokevirtual 179, 3) := by decide +kernel
theorem dL_law_1714 : decode cL_law 1714 = .ok (.if_icmp .eq 30, 3) := by decide +kernel
theorem dL_law_1719 : decode cL_law 1719 = .ok (.aload_n 1, 1) := by decide +kernel
theorem dL_law_1720 : decode cL_law 1720 = .ok (.aload_n 0, 1) := by decide +kernel
theorem dL_law_1721 : decode cL_law 1721 = .ok (.iload 4, 2) := by decide +kernel
theorem dL_law_1723 : decode cL_law 1723 = .ok (.iconst 1, 1) := by decide +kernel
theorem dL_law_1724 : decode cL_law 1724 = .ok (.iadd, 1) := by decide +kernel
theorem dL_law_1725 : decode cL_law 1725 = .ok (.iaload, 1) := by decide +kernel
theorem dL_law_1726 : decode cL_law 1726 = .ok (.invokevirtual 180, 3) := by decide +kernel
theorem dL_law_1729 : decode cL_law 1729 = .ok (.aload_n 2, 1) := by decide +kernel
theorem dL_law_1730 : decode cL_law 1730 = .ok (.aload_n 0, 1) := by decide +kernel
theorem dL_law_1731 : decode cL_law 1731 = .ok (.iload 4, 2) := by decide +kernel
theorem dL_law_1733 : decode cL_law 1733 = .ok (.iconst 1, 1) := by decide +kernel
theorem dL_law_1734 : decode cL_law 1734 = .ok (.iadd, 1) := by decide +kernel
theorem dL_law_1735 : decode cL_law 1735 = .ok (.iaload, 1) := by decide +kernel
theorem dL_law_1736 : decode cL_law 1736 = .ok (.invokevirtual 183, 3) := by decide +kernel
theorem dL_law_1739 : decode cL_law 1739 = .ok (.if_icmp .eq 5, 3) := by decide +kernel
set_option maxHeartbeats 8000000 in
set_option maxRecDepth 100000 in
theorem la_0 {p : Program} {e : Env} {s : State} {m : MethodId} {below : List Frame} {meth : Method} {c : Code} (l : Launch) {b : Nat} {xs : Nat → Int32} (C0 : lw_At p s m meth c b 7 xs) (dC : Nat → ClassId) (dI : Nat → Nat → Nat) (cB cI cJ : ClassId) {x0 xTape xReader xBag xBld xAng xSum xPik xHan xIns xShr xSta xTur tB m0 m_tape m_read m_tets m_primes m_often m_normal m_termM m_termP m_termV m_sumFrom m_sumMany m_part m_fair m_heap m_pickTet m_pickEdge m_base m_baseM m_baseP m_rowsOf m_grid m_times m_boxes m_cameFrom m_cameBy m_steps m_sides m_next m_cube m_ways o0 : Nat} (H : Heap) (locs : List Loc) (hK : va_K (dC, dI) vwCl [(cB, .byte), (cI, .int), (cJ, .long)] s) (hP : va_P (dC, dI) vwCl [(x0, .inr (10, [.ref xTape, .ref xReader, .ref xBag, .ref xBld, .ref xAng, .ref xSum, .ref xPik, .int 0, .ref xHan, .ref xIns, .ref xShr, .ref xSta, .ref xTur])), (xTape, .inr (9, [.ref tB, .int 0])), (tB, .inl (cB, 600, (.inl (fun _ => 0)))), (m0, .inr (11, [.int 0, .ref m_tape, .int 0, .int 0, .int 0, .ref m_read, .int 0, .int 0, .int 0, .ref m_tets, .int 0, .int 0, .int 0, .int 0, .int 0, .int 0, .int 0, .int 0, .ref m_primes, .ref m_often, .ref m_normal, .ref m_termM, .ref m_termP, .ref m_termV, .ref m_sumFrom, .ref m_sumMany, .int 0, .int 0, .int 0, .int 0, .ref m_part, .ref m_fair, .ref m_heap, .ref m_pickTet, .ref m_pickEdge, .ref m_base, .ref m_baseM, .ref m_baseP, .ref m_rowsOf, .int 0, .ref m_grid, .ref m_times, .ref m_boxes, .ref m_cameFrom, .ref m_cameBy, .ref m_steps, .ref m_sides, .int 0, .int (-1), .ref m_next, .ref m_cube, .ref m_ways])), (m_tape, .inl (cB, 600, (.inl (fun _ => 0))))] H) (hD : va_D (fun q : Nat => s.heap.size ≤ q) [(x0, .inr (10, [.ref xTape, .ref xReader, .ref xBag, .ref xBld, .ref xAng, .ref xSum, .ref xPik, .int 0, .ref xHan, .ref xIns, .ref xShr, .ref xSta, .ref xTur])), (xTape, .inr (9, [.ref tB, .int 0])), (tB, .inl (cB, 600, (.inl (fun _ => 0)))), (m0, .inr (11, [.int 0, .ref m_tape, .int 0, .int 0, .int 0, .ref m_read, .int 0, .int 0, .int 0, .ref m_tets, .int 0, .int 0, .int 0, .int 0, .int 0, .int 0, .int 0, .int 0, .ref m_primes, .ref m_often, .ref m_normal, .ref m_termM, .ref m_termP, .ref m_termV, .ref m_sumFrom, .ref m_sumMany, .int 0, .int 0, .int 0, .int 0, .ref m_part, .ref m_fair, .ref m_heap, .ref m_pickTet, .ref m_pickEdge, .ref m_base, .ref m_baseM, .ref m_baseP, .ref m_rowsOf, .int 0, .ref m_grid, .ref m_times, .ref m_boxes, .ref m_cameFrom, .ref m_cameBy, .ref m_steps, .ref m_sides, .int 0, .int (-1), .ref m_next, .ref m_cube, .ref m_ways])), (m_tape, .inl (cB, 600, (.inl (fun _ => 0))))]) (hS : va_S (fun q : Nat => s.heap.size ≤ q) s.heap H locs) (ls : Array Slot) (hl : lv_has ls 7 [(4, .int 0), (3, .ref o0), (2, .ref m0), (1, .ref x0), (0, .ref b)]) : W p l e room_1 s m #[Value.ref b] below meth c H locs 82 28049 (lw_Z below #[Value.ref b] s) (F0 m 208 ls []) := by
  obtain ⟨hx, hb, hr, hml, hown, htb, hX, hbl, hlocks, hgv⟩ := id C0
  have hts := htb
  have hbA : ¬ (fun q : Nat => s.heap.size ≤ q) b := Nat.not_le.mpr hbl
  have hA : ∀ q : Nat, s.heap.size ≤ q → (fun q : Nat => s.heap.size ≤ q) q := fun _ h => h
  obtain ⟨y1, hy1⟩ : ∃ y : Int32, y = xs (1 : Int32).toNatClampNeg := ⟨_, rfl⟩
  obtain ⟨y2, hy2⟩ : ∃ y : Int32, y = xs (2 : Int32).toNatClampNeg := ⟨_, rfl⟩
  obtain ⟨y3, hy3⟩ : ∃ y : Int32, y = xs (3 : Int32).toNatClampNeg := ⟨_, rfl⟩
  obtain ⟨y4, hy4⟩ : ∃ y : Int32, y = xs (4 : Int32).toNatClampNeg := ⟨_, rfl⟩
  obtain ⟨y5, hy5⟩ : ∃ y : Int32, y = xs (5 : Int32).toNatClampNeg := ⟨_, rfl⟩
  refine lv_aload_n hx hb dL_law_208 rfl (lv_at hl 3 rfl) ?_
  refine lv_aload_n hx hb dL_law_209 rfl (lv_at hl 4 rfl) ?_
  refine lv_iload hx hb dL_law_210 (lv_at hl 0 rfl) ?_
  refine lv_iconst (v := 1) hx hb dL_law_212 (by decide) ?_
  refine lv_iadd hx hb dL_law_213 ?_
  refine lv_topi (fun x_1 ex_1 => ?_)
  obtain rfl : x_1 = 1 := ex_1.trans (by first | rfl | decide)
  refine va_sld hx hb hX hbl hbA hS (by show ¬ (_ ∨ _); decide) dL_law_214 ?_
  refine lv_topi (fun x_2 ex_2 => ?_)
  obtain rfl : y1 = x_2 := hy1.trans ex_2.symm
  refine lv_aload_n hx hb dL_law_215 rfl (lv_at hl 4 rfl) ?_
  refine lv_iload hx hb dL_law_216 (lv_at hl 0 rfl) ?_
  refine lv_iconst (v := 2) hx hb dL_law_218 (by decide) ?_
  refine lv_iadd hx hb dL_law_219 ?_
  refine lv_topi (fun x_3 ex_3 => ?_)
  obtain rfl : x_3 = 2 := ex_3.trans (by first | rfl | decide)
  refine va_sld hx hb hX hbl hbA hS (by show ¬ (_ ∨ _); decide) dL_law_220 ?_
  refine lv_topi (fun x_4 ex_4 => ?_)
  obtain rfl : y2 = x_4 := hy2.trans ex_4.symm
  refine lv_aload_n hx hb dL_law_221 rfl (lv_at hl 4 rfl) ?_
  refine lv_iload hx hb dL_law_222 (lv_at hl 0 rfl) ?_
  refine lv_iconst (v := 3) hx hb dL_law_224 (by decide) ?_
  refine lv_iadd hx hb dL_law_225 ?_
  refine lv_topi (fun x_5 ex_5 => ?_)
  obtain rfl : x_5 = 3 := ex_5.trans (by first | rfl | decide)
  refine va_sld hx hb hX hbl hbA hS (by show ¬ (_ ∨ _); decide) dL_law_226 ?_
  refine lv_topi (fun x_6 ex_6 => ?_)
  obtain rfl : y3 = x_6 := hy3.trans ex_6.symm
  refine lv_aload_n hx hb dL_law_227 rfl (lv_at hl 4 rfl) ?_
  refine lv_iload hx hb dL_law_228 (lv_at hl 0 rfl) ?_
  refine lv_iconst (v := 4) hx hb dL_law_230 (by decide) ?_
  refine lv_iadd hx hb dL_law_231 ?_
  refine lv_topi (fun x_7 ex_7 => ?_)
  obtain rfl : x_7 = 4 := ex_7.trans (by first | rfl | decide)
  refine va_sld hx hb hX hbl hbA hS (by show ¬ (_ ∨ _); decide) dL_law_232 ?_
  refine lv_topi (fun x_8 ex_8 => ?_)
  obtain rfl : y4 = x_8 := hy4.trans ex_8.symm
  refine lv_aload_n hx hb dL_law_233 rfl (lv_at hl 4 rfl) ?_
  refine lv_iload hx hb dL_law_234 (lv_at hl 0 rfl) ?_
  refine lv_iconst (v := 5) hx hb dL_law_236 (by decide) ?_
  refine lv_iadd hx hb dL_law_237 ?_
  refine lv_topi (fun x_9 ex_9 => ?_)
  obtain rfl : x_9 = 5 := ex_9.trans (by first | rfl | decide)
  refine va_sld hx hb hX hbl hbA hS (by show ¬ (_ ∨ _); decide) dL_law_238 ?_
  refine lv_topi (fun x_10 ex_10 => ?_)
  obtain rfl : y5 = x_10 := hy5.trans ex_10.symm
  have hPc := hP.sub (ws' := [(x0, .inr (10, [.ref xTape, .ref xReader, .ref xBag, .ref xBld, .ref xAng, .ref xSum, .ref xPik, .int 0, .ref xHan, .ref xIns, .ref xShr, .ref xSta, .ref xTur])), (xTape, .inr (9, [.ref tB, .int 0])), (tB, .inl (cB, 600, (.inl (fun _ => 0))))]) [0, 1, 2] rfl
  have hDc := hD.sub (ws' := [(x0, .inr (10, [.ref xTape, .ref xReader, .ref xBag, .ref xBld, .ref xAng, .ref xSum, .ref xPik, .int 0, .ref xHan, .ref xIns, .ref xShr, .ref xSta, .ref xTur])), (xTape, .inr (9, [.ref tB, .int 0])), (tB, .inl (cB, 600, (.inl (fun _ => 0))))]) [0, 1, 2] (by decide) rfl
  have hFc := va_free (wc := [(x0, .inr (10, [.ref xTape, .ref xReader, .ref xBag, .ref xBld, .ref xAng, .ref xSum, .ref xPik, .int 0, .ref xHan, .ref xIns, .ref xShr, .ref xSta, .ref xTur])), (xTape, .inr (9, [.ref tB, .int 0])), (tB, .inl (cB, 600, (.inl (fun _ => 0))))]) hD hS hA [0, 1, 2] rfl
  refine va_calli (va_runV (As := [.int y1, .int y2, .int y3, .int y4, .int y5]) (rest := []) ⟨hx, hb, hml, hown, hts⟩ (c_X10_feed l dC dI cB cI cJ H.size x0 xTape xReader xBag xBld xAng xSum xPik xHan xIns xShr xSta xTur tB y1 y2 y3 y4 y5) (cwV 5 hts hL_law_X10_feed rfl rfl rfl (by decide +kernel) ⟨Nat.le_of_ble_eq_true rfl, Nat.le_of_ble_eq_true rfl⟩) ⟨fun a U g mk q => by obtain ⟨q0, q1, qP, qK, qD⟩ := q; exact ⟨q0, q1, qP, va_K.moved (u := U) (U := U.calling g mk a) (Vm.Alike.refl U.vm) qK, qD⟩, va_recv hK hP (ci := 10) (q0 := 0) rfl rfl, fun U hU hW => ⟨rfl, by rw [hU], by rw [hU]; exact hPc, va_K.moved hW.alike hK, hDc.weaken (fun _ _ _ _ => trivial)⟩⟩ rfl rfl hl.1 rfl (lv_room (Nat.le_of_ble_eq_true rfl)) dL_law_239 ⟨Nat.le_of_ble_eq_true rfl, Nat.le_of_ble_eq_true rfl⟩) hS (fun q _ h => hFc q h) hFc (fun r_11 u t H1 locs ht hvm hw hB hz1 hk1 hS => ?_)
  have hP1 : va_P (dC, dI) vwCl [] H1 := fun k q h => by simp at h
  have hD1 : va_D (va_A [(x0, .inr (10, [.ref xTape, .ref xReader, .ref xBag, .ref xBld, .ref xAng, .ref xSum, .ref xPik, .int 0, .ref xHan, .ref xIns, .ref xShr, .ref xSta, .ref xTur])), (xTape, .inr (9, [.ref tB, .int 0])), (tB, .inl (cB, 600, (.inl (fun _ => 0))))] H.size) [] := ⟨fun i j p q h => by simp at h, fun k q h => by simp at h⟩
  obtain ⟨hP, hD⟩ := va_join (wr := [(m0, .inr (11, [.int 0, .ref m_tape, .int 0, .int 0, .int 0, .ref m_read, .int 0, .int 0, .int 0, .ref m_tets, .int 0, .int 0, .int 0, .int 0, .int 0, .int 0, .int 0, .int 0, .ref m_primes, .ref m_often, .ref m_normal, .ref m_termM, .ref m_termP, .ref m_termV, .ref m_sumFrom, .ref m_sumMany, .int 0, .int 0, .int 0, .int 0, .ref m_part, .ref m_fair, .ref m_heap, .ref m_pickTet, .ref m_pickEdge, .ref m_base, .ref m_baseM, .ref m_baseP, .ref m_rowsOf, .int 0, .ref m_grid, .ref m_times, .ref m_boxes, .ref m_cameFrom, .ref m_cameBy, .ref m_steps, .ref m_sides, .int 0, .int (-1), .ref m_next, .ref m_cube, .ref m_ways])), (m_tape, .inl (cB, 600, (.inl (fun _ => 0))))]) (w1 := []) hP hD [0, 1, 2] [3, 4] rfl rfl (by decide) (by decide) hk1 hFc hP1 hD1
  generalize H1 = H at hP hS ⊢
  have hP : va_P (dC, dI) vwCl [(m0, .inr (11, [.int 0, .ref m_tape, .int 0, .int 0, .int 0, .ref m_read, .int 0, .int 0, .int 0, .ref m_tets, .int 0, .int 0, .int 0, .int 0, .int 0, .int 0, .int 0, .int 0, .ref m_primes, .ref m_often, .ref m_normal, .ref m_termM, .ref m_termP, .ref m_termV, .ref m_sumFrom, .ref m_sumMany, .int 0, .int 0, .int 0, .int 0, .ref m_part, .ref m_fair, .ref m_heap, .ref m_pickTet, .ref m_pickEdge, .ref m_base, .ref m_baseM, .ref m_baseP, .ref m_rowsOf, .int 0, .ref m_grid, .ref m_times, .ref m_boxes, .ref m_cameFrom, .ref m_cameBy, .ref m_steps, .ref m_sides, .int 0, .int (-1), .ref m_next, .ref m_cube, .ref m_ways])), (m_tape, .inl (cB, 600, (.inl (fun _ => 0))))] H := hP
  have hD : va_D (fun q : Nat => s.heap.size ≤ q) [(m0, .inr (11, [.int 0, .ref m_tape, .int 0, .int 0, .int 0, .ref m_read, .int 0, .int 0, .int 0, .ref m_tets, .int 0, .int 0, .int 0, .int 0, .int 0, .int 0, .int 0, .int 0, .ref m_primes, .ref m_often, .ref m_normal, .ref m_termM, .ref m_termP, .ref m_termV, .ref m_sumFrom, .ref m_sumMany, .int 0, .int 0, .int 0, .int 0, .ref m_part, .ref m_fair, .ref m_heap, .ref m_pickTet, .ref m_pickEdge, .ref m_base, .ref m_baseM, .ref m_baseP, .ref m_rowsOf, .int 0, .ref m_grid, .ref m_times, .ref m_boxes, .ref m_cameFrom, .ref m_cameBy, .ref m_steps, .ref m_sides, .int 0, .int (-1), .ref m_next, .ref m_cube, .ref m_ways])), (m_tape, .inl (cB, 600, (.inl (fun _ => 0))))] := hD
  have hr_11 := hw
  refine lv_aload_n hx hb dL_law_242 rfl (lv_at hl 2 rfl) ?_
  refine lv_aload_n hx hb dL_law_243 rfl (lv_at hl 4 rfl) ?_
  refine lv_iload hx hb dL_law_244 (lv_at hl 0 rfl) ?_
  refine lv_iconst (v := 1) hx hb dL_law_246 (by decide) ?_
  refine lv_iadd hx hb dL_law_247 ?_
  refine lv_topi (fun x_12 ex_12 => ?_)
  obtain rfl : x_12 = 1 := ex_12.trans (by first | rfl | decide)
  refine va_sld hx hb hX hbl hbA hS (by show ¬ (_ ∨ _); decide) dL_law_248 ?_
  refine lv_topi (fun x_13 ex_13 => ?_)
  obtain rfl : y1 = x_13 := hy1.trans ex_13.symm
  refine lv_aload_n hx hb dL_law_249 rfl (lv_at hl 4 rfl) ?_
  refine lv_iload hx hb dL_law_250 (lv_at hl 0 rfl) ?_
  refine lv_iconst (v := 2) hx hb dL_law_252 (by decide) ?_
  refine lv_iadd hx hb dL_law_253 ?_
  refine lv_topi (fun x_14 ex_14 => ?_)
  obtain rfl : x_14 = 2 := ex_14.trans (by first | rfl | decide)
  refine va_sld hx hb hX hbl hbA hS (by show ¬ (_ ∨ _); decide) dL_law_254 ?_
  refine lv_topi (fun x_15 ex_15 => ?_)
  obtain rfl : y2 = x_15 := hy2.trans ex_15.symm
  refine lv_aload_n hx hb dL_law_255 rfl (lv_at hl 4 rfl) ?_
  refine lv_iload hx hb dL_law_256 (lv_at hl 0 rfl) ?_
  refine lv_iconst (v := 3) hx hb dL_law_258 (by decide) ?_
  refine lv_iadd hx hb dL_law_259 ?_
  refine lv_topi (fun x_16 ex_16 => ?_)
  obtain rfl : x_16 = 3 := ex_16.trans (by first | rfl | decide)
  refine va_sld hx hb hX hbl hbA hS (by show ¬ (_ ∨ _); decide) dL_law_260 ?_
  refine lv_topi (fun x_17 ex_17 => ?_)
  obtain rfl : y3 = x_17 := hy3.trans ex_17.symm
  refine lv_aload_n hx hb dL_law_261 rfl (lv_at hl 4 rfl) ?_
  refine lv_iload hx hb dL_law_262 (lv_at hl 0 rfl) ?_
  refine lv_iconst (v := 4) hx hb dL_law_264 (by decide) ?_
  refine lv_iadd hx hb dL_law_265 ?_
  refine lv_topi (fun x_18 ex_18 => ?_)
  obtain rfl : x_18 = 4 := ex_18.trans (by first | rfl | decide)
  refine va_sld hx hb hX hbl hbA hS (by show ¬ (_ ∨ _); decide) dL_law_266 ?_
  refine lv_topi (fun x_19 ex_19 => ?_)
  obtain rfl : y4 = x_19 := hy4.trans ex_19.symm
  refine lv_aload_n hx hb dL_law_267 rfl (lv_at hl 4 rfl) ?_
  refine lv_iload hx hb dL_law_268 (lv_at hl 0 rfl) ?_
  refine lv_iconst (v := 5) hx hb dL_law_270 (by decide) ?_
  refine lv_iadd hx hb dL_law_271 ?_
  refine lv_topi (fun x_20 ex_20 => ?_)
  obtain rfl : x_20 = 5 := ex_20.trans (by first | rfl | decide)
  refine va_sld hx hb hX hbl hbA hS (by show ¬ (_ ∨ _); decide) dL_law_272 ?_
  refine lv_topi (fun x_21 ex_21 => ?_)
  obtain rfl : y5 = x_21 := hy5.trans ex_21.symm
  have hPc := hP.sub (ws' := [(m0, .inr (11, [.int 0, .ref m_tape, .int 0, .int 0, .int 0, .ref m_read, .int 0, .int 0, .int 0, .ref m_tets, .int 0, .int 0, .int 0, .int 0, .int 0, .int 0, .int 0, .int 0, .ref m_primes, .ref m_often, .ref m_normal, .ref m_termM, .ref m_termP, .ref m_termV, .ref m_sumFrom, .ref m_sumMany, .int 0, .int 0, .int 0, .int 0, .ref m_part, .ref m_fair, .ref m_heap, .ref m_pickTet, .ref m_pickEdge, .ref m_base, .ref m_baseM, .ref m_baseP, .ref m_rowsOf, .int 0, .ref m_grid, .ref m_times, .ref m_boxes, .ref m_cameFrom, .ref m_cameBy, .ref m_steps, .ref m_sides, .int 0, .int (-1), .ref m_next, .ref m_cube, .ref m_ways])), (m_tape, .inl (cB, 600, (.inl (fun _ => 0))))]) [0, 1] rfl
  have hDc := hD.sub (ws' := [(m0, .inr (11, [.int 0, .ref m_tape, .int 0, .int 0, .int 0, .ref m_read, .int 0, .int 0, .int 0, .ref m_tets, .int 0, .int 0, .int 0, .int 0, .int 0, .int 0, .int 0, .int 0, .ref m_primes, .ref m_often, .ref m_normal, .ref m_termM, .ref m_termP, .ref m_termV, .ref m_sumFrom, .ref m_sumMany, .int 0, .int 0, .int 0, .int 0, .ref m_part, .ref m_fair, .ref m_heap, .ref m_pickTet, .ref m_pickEdge, .ref m_base, .ref m_baseM, .ref m_baseP, .ref m_rowsOf, .int 0, .ref m_grid, .ref m_times, .ref m_boxes, .ref m_cameFrom, .ref m_cameBy, .ref m_steps, .ref m_sides, .int 0, .int (-1), .ref m_next, .ref m_cube, .ref m_ways])), (m_tape, .inl (cB, 600, (.inl (fun _ => 0))))]) [0, 1] (by decide) rfl
  have hFc := va_free (wc := [(m0, .inr (11, [.int 0, .ref m_tape, .int 0, .int 0, .int 0, .ref m_read, .int 0, .int 0, .int 0, .ref m_tets, .int 0, .int 0, .int 0, .int 0, .int 0, .int 0, .int 0, .int 0, .ref m_primes, .ref m_often, .ref m_normal, .ref m_termM, .ref m_termP, .ref m_termV, .ref m_sumFrom, .ref m_sumMany, .int 0, .int 0, .int 0, .int 0, .ref m_part, .ref m_fair, .ref m_heap, .ref m_pickTet, .ref m_pickEdge, .ref m_base, .ref m_baseM, .ref m_baseP, .ref m_rowsOf, .int 0, .ref m_grid, .ref m_times, .ref m_boxes, .ref m_cameFrom, .ref m_cameBy, .ref m_steps, .ref m_sides, .int 0, .int (-1), .ref m_next, .ref m_cube, .ref m_ways])), (m_tape, .inl (cB, 600, (.inl (fun _ => 0))))]) hD hS hA [0, 1] rfl
  refine va_calli (va_runV (As := [.int y1, .int y2, .int y3, .int y4, .int y5]) (rest := [.int r_11]) ⟨hx, hb, hml, hown, hts⟩ (c_X11_feed l dC dI cB cI cJ H.size m0 m_tape m_read m_tets m_primes m_often m_normal m_termM m_termP m_termV m_sumFrom m_sumMany m_part m_fair m_heap m_pickTet m_pickEdge m_base m_baseM m_baseP m_rowsOf m_grid m_times m_boxes m_cameFrom m_cameBy m_steps m_sides m_next m_cube m_ways y1 y2 y3 y4 y5) (cwV 5 hts hL_law_X11_feed rfl rfl rfl (by decide +kernel) ⟨Nat.le_of_ble_eq_true rfl, Nat.le_of_ble_eq_true rfl⟩) ⟨fun a U g mk q => by obtain ⟨q0, q1, qP, qK, qD⟩ := q; exact ⟨q0, q1, qP, va_K.moved (u := U) (U := U.calling g mk a) (Vm.Alike.refl U.vm) qK, qD⟩, va_recv hK hP (ci := 11) (q0 := 0) rfl rfl, fun U hU hW => ⟨rfl, by rw [hU], by rw [hU]; exact hPc, va_K.moved hW.alike hK, hDc.weaken (fun _ _ _ _ => trivial)⟩⟩ rfl rfl hl.1 rfl (lv_room (Nat.le_of_ble_eq_true rfl)) dL_law_273 ⟨Nat.le_of_ble_eq_true rfl, Nat.le_of_ble_eq_true rfl⟩) hS (fun q _ h => hFc q h) hFc (fun r_22 u t H1 locs ht hvm hw hB hz1 hk1 hS => ?_)
  have hP1 : va_P (dC, dI) vwCl [] H1 := fun k q h => by simp at h
  have hD1 : va_D (va_A [(m0, .inr (11, [.int 0, .ref m_tape, .int 0, .int 0, .int 0, .ref m_read, .int 0, .int 0, .int 0, .ref m_tets, .int 0, .int 0, .int 0, .int 0, .int 0, .int 0, .int 0, .int 0, .ref m_primes, .ref m_often, .ref m_normal, .ref m_termM, .ref m_termP, .ref m_termV, .ref m_sumFrom, .ref m_sumMany, .int 0, .int 0, .int 0, .int 0, .ref m_part, .ref m_fair, .ref m_heap, .ref m_pickTet, .ref m_pickEdge, .ref m_base, .ref m_baseM, .ref m_baseP, .ref m_rowsOf, .int 0, .ref m_grid, .ref m_times, .ref m_boxes, .ref m_cameFrom, .ref m_cameBy, .ref m_steps, .ref m_sides, .int 0, .int (-1), .ref m_next, .ref m_cube, .ref m_ways])), (m_tape, .inl (cB, 600, (.inl (fun _ => 0))))] H.size) [] := ⟨fun i j p q h => by simp at h, fun k q h => by simp at h⟩
  obtain ⟨hP, hD⟩ := va_join (wr := []) (w1 := []) hP hD [0, 1] [] rfl rfl (by decide) (by decide) hk1 hFc hP1 hD1
  generalize H1 = H at hP hS ⊢
  have hP : va_P (dC, dI) vwCl [] H := hP
  have hD : va_D (fun q : Nat => s.heap.size ≤ q) [] := hD
  have hr_22 := hw
  refine lv_icmp_eq (tgt := 1744) hx hb dL_law_276 (by decide) (fun _ => ?_) (fun c => absurd (hr_11.trans hr_22.symm) c)
  refine W.widen (k := 600002) (n := 7302232) (Nat.le_of_ble_eq_true rfl) (Nat.le_of_ble_eq_true rfl) ?_
  exact la_end l C0 H _ hS ls hl
set_option maxHeartbeats 8000000 in
set_option maxRecDepth 100000 in
theorem la_1 {p : Program} {e : Env} {s : State} {m : MethodId} {below : List Frame} {meth : Method} {c : Code} (l : Launch) {b : Nat} {xs : Nat → Int32} (C0 : lw_At p s m meth c b 7 xs) (dC : Nat → ClassId) (dI : Nat → Nat → Nat) (cB cI cJ : ClassId) {x0 xTape xReader xBag xBld xAng xSum xPik xHan xIns xShr xSta xTur tB m0 m_tape m_read m_tets m_primes m_often m_normal m_termM m_termP m_termV m_sumFrom m_sumMany m_part m_fair m_heap m_pickTet m_pickEdge m_base m_baseM m_baseP m_rowsOf m_grid m_times m_boxes m_cameFrom m_cameBy m_steps m_sides m_next m_cube m_ways o0 : Nat} (H : Heap) (locs : List Loc) (hK : va_K (dC, dI) vwCl [(cB, .byte), (cI, .int), (cJ, .long)] s) (hP : va_P (dC, dI) vwCl [(x0, .inr (10, [.ref xTape, .ref xReader, .ref xBag, .ref xBld, .ref xAng, .ref xSum, .ref xPik, .int 0, .ref xHan, .ref xIns, .ref xShr, .ref xSta, .ref xTur])), (xTape, .inr (9, [.ref tB, .int 0])), (m0, .inr (11, [.int 0, .ref m_tape, .int 0, .int 0, .int 0, .ref m_read, .int 0, .int 0, .int 0, .ref m_tets, .int 0, .int 0, .int 0, .int 0, .int 0, .int 0, .int 0, .int 0, .ref m_primes, .ref m_often, .ref m_normal, .ref m_termM, .ref m_termP, .ref m_termV, .ref m_sumFrom, .ref m_sumMany, .int 0, .int 0, .int 0, .int 0, .ref m_part, .ref m_fair, .ref m_heap, .ref m_pickTet, .ref m_pickEdge, .ref m_base, .ref m_baseM, .ref m_baseP, .ref m_rowsOf, .int 0, .ref m_grid, .ref m_times, .ref m_boxes, .ref m_cameFrom, .ref m_cameBy, .ref m_steps, .ref m_sides, .int 0, .int (-1), .ref m_next, .ref m_cube, .ref m_ways]))] H) (hD : va_D (fun q : Nat => s.heap.size ≤ q) [(x0, .inr (10, [.ref xTape, .ref xReader, .ref xBag, .ref xBld, .ref xAng, .ref xSum, .ref xPik, .int 0, .ref xHan, .ref xIns, .ref xShr, .ref xSta, .ref xTur])), (xTape, .inr (9, [.ref tB, .int 0])), (m0, .inr (11, [.int 0, .ref m_tape, .int 0, .int 0, .int 0, .ref m_read, .int 0, .int 0, .int 0, .ref m_tets, .int 0, .int 0, .int 0, .int 0, .int 0, .int 0, .int 0, .int 0, .ref m_primes, .ref m_often, .ref m_normal, .ref m_termM, .ref m_termP, .ref m_termV, .ref m_sumFrom, .ref m_sumMany, .int 0, .int 0, .int 0, .int 0, .ref m_part, .ref m_fair, .ref m_heap, .ref m_pickTet, .ref m_pickEdge, .ref m_base, .ref m_baseM, .ref m_baseP, .ref m_rowsOf, .int 0, .ref m_grid, .ref m_times, .ref m_boxes, .ref m_cameFrom, .ref m_cameBy, .ref m_steps, .ref m_sides, .int 0, .int (-1), .ref m_next, .ref m_cube, .ref m_ways]))]) (hS : va_S (fun q : Nat => s.heap.size ≤ q) s.heap H locs) (ls : Array Slot) (hl : lv_has ls 7 [(4, .int 0), (3, .ref o0), (2, .ref m0), (1, .ref x0), (0, .ref b)]) : W p l e room_1 s m #[Value.ref b] below meth c H locs 82 28049 (lw_Z below #[Value.ref b] s) (F0 m 281 ls []) := by
  obtain ⟨hx, hb, hr, hml, hown, htb, hX, hbl, hlocks, hgv⟩ := id C0
  have hts := htb
  have hbA : ¬ (fun q : Nat => s.heap.size ≤ q) b := Nat.not_le.mpr hbl
  have hA : ∀ q : Nat, s.heap.size ≤ q → (fun q : Nat => s.heap.size ≤ q) q := fun _ h => h
  obtain ⟨y1, hy1⟩ : ∃ y : Int32, y = xs (1 : Int32).toNatClampNeg := ⟨_, rfl⟩
  refine lv_aload_n hx hb dL_law_281 rfl (lv_at hl 3 rfl) ?_
  refine lv_aload_n hx hb dL_law_282 rfl (lv_at hl 4 rfl) ?_
  refine lv_iload hx hb dL_law_283 (lv_at hl 0 rfl) ?_
  refine lv_iconst (v := 1) hx hb dL_law_285 (by decide) ?_
  refine lv_iadd hx hb dL_law_286 ?_
  refine lv_topi (fun x_1 ex_1 => ?_)
  obtain rfl : x_1 = 1 := ex_1.trans (by first | rfl | decide)
  refine va_sld hx hb hX hbl hbA hS (by show ¬ (_ ∨ _); decide) dL_law_287 ?_
  refine lv_topi (fun x_2 ex_2 => ?_)
  obtain rfl : y1 = x_2 := hy1.trans ex_2.symm
  have hPc := hP.sub (ws' := [(x0, .inr (10, [.ref xTape, .ref xReader, .ref xBag, .ref xBld, .ref xAng, .ref xSum, .ref xPik, .int 0, .ref xHan, .ref xIns, .ref xShr, .ref xSta, .ref xTur])), (xTape, .inr (9, [.ref tB, .int 0]))]) [0, 1] rfl
  have hDc := hD.sub (ws' := [(x0, .inr (10, [.ref xTape, .ref xReader, .ref xBag, .ref xBld, .ref xAng, .ref xSum, .ref xPik, .int 0, .ref xHan, .ref xIns, .ref xShr, .ref xSta, .ref xTur])), (xTape, .inr (9, [.ref tB, .int 0]))]) [0, 1] (by decide) rfl
  have hFc := va_free (wc := [(x0, .inr (10, [.ref xTape, .ref xReader, .ref xBag, .ref xBld, .ref xAng, .ref xSum, .ref xPik, .int 0, .ref xHan, .ref xIns, .ref xShr, .ref xSta, .ref xTur])), (xTape, .inr (9, [.ref tB, .int 0]))]) hD hS hA [0, 1] rfl
  refine va_calli (va_runV (As := [.int y1]) (rest := []) ⟨hx, hb, hml, hown, hts⟩ (c_X10_end l dC dI cB cI cJ H.size x0 xTape xReader xBag xBld xAng xSum xPik xHan xIns xShr xSta xTur tB y1) (cwV 1 hts hL_law_X10_end rfl rfl rfl (by decide +kernel) ⟨Nat.le_of_ble_eq_true rfl, Nat.le_of_ble_eq_true rfl⟩) ⟨fun a U g mk q => by obtain ⟨q0, q1, qP, qK, qD⟩ := q; exact ⟨q0, q1, qP, va_K.moved (u := U) (U := U.calling g mk a) (Vm.Alike.refl U.vm) qK, qD⟩, va_recv hK hP (ci := 10) (q0 := 0) rfl rfl, fun U hU hW => ⟨rfl, by rw [hU], by rw [hU]; exact hPc, va_K.moved hW.alike hK, hDc.weaken (fun _ _ _ _ => trivial)⟩⟩ rfl rfl hl.1 rfl (lv_room (Nat.le_of_ble_eq_true rfl)) dL_law_288 ⟨Nat.le_of_ble_eq_true rfl, Nat.le_of_ble_eq_true rfl⟩) hS (fun q _ h => hFc q h) hFc (fun r_3 u t H1 locs ht hvm hw hB hz1 hk1 hS => ?_)
  have hP1 : va_P (dC, dI) vwCl [] H1 := fun k q h => by simp at h
  have hD1 : va_D (va_A [(x0, .inr (10, [.ref xTape, .ref xReader, .ref xBag, .ref xBld, .ref xAng, .ref xSum, .ref xPik, .int 0, .ref xHan, .ref xIns, .ref xShr, .ref xSta, .ref xTur])), (xTape, .inr (9, [.ref tB, .int 0]))] H.size) [] := ⟨fun i j p q h => by simp at h, fun k q h => by simp at h⟩
  obtain ⟨hP, hD⟩ := va_join (wr := [(m0, .inr (11, [.int 0, .ref m_tape, .int 0, .int 0, .int 0, .ref m_read, .int 0, .int 0, .int 0, .ref m_tets, .int 0, .int 0, .int 0, .int 0, .int 0, .int 0, .int 0, .int 0, .ref m_primes, .ref m_often, .ref m_normal, .ref m_termM, .ref m_termP, .ref m_termV, .ref m_sumFrom, .ref m_sumMany, .int 0, .int 0, .int 0, .int 0, .ref m_part, .ref m_fair, .ref m_heap, .ref m_pickTet, .ref m_pickEdge, .ref m_base, .ref m_baseM, .ref m_baseP, .ref m_rowsOf, .int 0, .ref m_grid, .ref m_times, .ref m_boxes, .ref m_cameFrom, .ref m_cameBy, .ref m_steps, .ref m_sides, .int 0, .int (-1), .ref m_next, .ref m_cube, .ref m_ways]))]) (w1 := []) hP hD [0, 1] [2] rfl rfl (by decide) (by decide) hk1 hFc hP1 hD1
  generalize H1 = H at hP hS ⊢
  have hP : va_P (dC, dI) vwCl [(m0, .inr (11, [.int 0, .ref m_tape, .int 0, .int 0, .int 0, .ref m_read, .int 0, .int 0, .int 0, .ref m_tets, .int 0, .int 0, .int 0, .int 0, .int 0, .int 0, .int 0, .int 0, .ref m_primes, .ref m_often, .ref m_normal, .ref m_termM, .ref m_termP, .ref m_termV, .ref m_sumFrom, .ref m_sumMany, .int 0, .int 0, .int 0, .int 0, .ref m_part, .ref m_fair, .ref m_heap, .ref m_pickTet, .ref m_pickEdge, .ref m_base, .ref m_baseM, .ref m_baseP, .ref m_rowsOf, .int 0, .ref m_grid, .ref m_times, .ref m_boxes, .ref m_cameFrom, .ref m_cameBy, .ref m_steps, .ref m_sides, .int 0, .int (-1), .ref m_next, .ref m_cube, .ref m_ways]))] H := hP
  have hD : va_D (fun q : Nat => s.heap.size ≤ q) [(m0, .inr (11, [.int 0, .ref m_tape, .int 0, .int 0, .int 0, .ref m_read, .int 0, .int 0, .int 0, .ref m_tets, .int 0, .int 0, .int 0, .int 0, .int 0, .int 0, .int 0, .int 0, .ref m_primes, .ref m_often, .ref m_normal, .ref m_termM, .ref m_termP, .ref m_termV, .ref m_sumFrom, .ref m_sumMany, .int 0, .int 0, .int 0, .int 0, .ref m_part, .ref m_fair, .ref m_heap, .ref m_pickTet, .ref m_pickEdge, .ref m_base, .ref m_baseM, .ref m_baseP, .ref m_rowsOf, .int 0, .ref m_grid, .ref m_times, .ref m_boxes, .ref m_cameFrom, .ref m_cameBy, .ref m_steps, .ref m_sides, .int 0, .int (-1), .ref m_next, .ref m_cube, .ref m_ways]))] := hD
  have hr_3 := hw
  refine lv_aload_n hx hb dL_law_291 rfl (lv_at hl 2 rfl) ?_
  refine lv_aload_n hx hb dL_law_292 rfl (lv_at hl 4 rfl) ?_
  refine lv_iload hx hb dL_law_293 (lv_at hl 0 rfl) ?_
  refine lv_iconst (v := 1) hx hb dL_law_295 (by decide) ?_
  refine lv_iadd hx hb dL_law_296 ?_
  refine lv_topi (fun x_4 ex_4 => ?_)
  obtain rfl : x_4 = 1 := ex_4.trans (by first | rfl | decide)
  refine va_sld hx hb hX hbl hbA hS (by show ¬ (_ ∨ _); decide) dL_law_297 ?_
  refine lv_topi (fun x_5 ex_5 => ?_)
  obtain rfl : y1 = x_5 := hy1.trans ex_5.symm
  have hPc := hP.sub (ws' := [(m0, .inr (11, [.int 0, .ref m_tape, .int 0, .int 0, .int 0, .ref m_read, .int 0, .int 0, .int 0, .ref m_tets, .int 0, .int 0, .int 0, .int 0, .int 0, .int 0, .int 0, .int 0, .ref m_primes, .ref m_often, .ref m_normal, .ref m_termM, .ref m_termP, .ref m_termV, .ref m_sumFrom, .ref m_sumMany, .int 0, .int 0, .int 0, .int 0, .ref m_part, .ref m_fair, .ref m_heap, .ref m_pickTet, .ref m_pickEdge, .ref m_base, .ref m_baseM, .ref m_baseP, .ref m_rowsOf, .int 0, .ref m_grid, .ref m_times, .ref m_boxes, .ref m_cameFrom, .ref m_cameBy, .ref m_steps, .ref m_sides, .int 0, .int (-1), .ref m_next, .ref m_cube, .ref m_ways]))]) [0] rfl
  have hDc := hD.sub (ws' := [(m0, .inr (11, [.int 0, .ref m_tape, .int 0, .int 0, .int 0, .ref m_read, .int 0, .int 0, .int 0, .ref m_tets, .int 0, .int 0, .int 0, .int 0, .int 0, .int 0, .int 0, .int 0, .ref m_primes, .ref m_often, .ref m_normal, .ref m_termM, .ref m_termP, .ref m_termV, .ref m_sumFrom, .ref m_sumMany, .int 0, .int 0, .int 0, .int 0, .ref m_part, .ref m_fair, .ref m_heap, .ref m_pickTet, .ref m_pickEdge, .ref m_base, .ref m_baseM, .ref m_baseP, .ref m_rowsOf, .int 0, .ref m_grid, .ref m_times, .ref m_boxes, .ref m_cameFrom, .ref m_cameBy, .ref m_steps, .ref m_sides, .int 0, .int (-1), .ref m_next, .ref m_cube, .ref m_ways]))]) [0] (by decide) rfl
  have hFc := va_free (wc := [(m0, .inr (11, [.int 0, .ref m_tape, .int 0, .int 0, .int 0, .ref m_read, .int 0, .int 0, .int 0, .ref m_tets, .int 0, .int 0, .int 0, .int 0, .int 0, .int 0, .int 0, .int 0, .ref m_primes, .ref m_often, .ref m_normal, .ref m_termM, .ref m_termP, .ref m_termV, .ref m_sumFrom, .ref m_sumMany, .int 0, .int 0, .int 0, .int 0, .ref m_part, .ref m_fair, .ref m_heap, .ref m_pickTet, .ref m_pickEdge, .ref m_base, .ref m_baseM, .ref m_baseP, .ref m_rowsOf, .int 0, .ref m_grid, .ref m_times, .ref m_boxes, .ref m_cameFrom, .ref m_cameBy, .ref m_steps, .ref m_sides, .int 0, .int (-1), .ref m_next, .ref m_cube, .ref m_ways]))]) hD hS hA [0] rfl
  refine va_calli (va_runV (As := [.int y1]) (rest := [.int r_3]) ⟨hx, hb, hml, hown, hts⟩ (c_X11_end l dC dI cB cI cJ H.size m0 m_tape m_read m_tets m_primes m_often m_normal m_termM m_termP m_termV m_sumFrom m_sumMany m_part m_fair m_heap m_pickTet m_pickEdge m_base m_baseM m_baseP m_rowsOf m_grid m_times m_boxes m_cameFrom m_cameBy m_steps m_sides m_next m_cube m_ways y1) (cwV 1 hts hL_law_X11_end rfl rfl rfl (by decide +kernel) ⟨Nat.le_of_ble_eq_true rfl, Nat.le_of_ble_eq_true rfl⟩) ⟨fun a U g mk q => by obtain ⟨q0, q1, qP, qK, qD⟩ := q; exact ⟨q0, q1, qP, va_K.moved (u := U) (U := U.calling g mk a) (Vm.Alike.refl U.vm) qK, qD⟩, va_recv hK hP (ci := 11) (q0 := 0) rfl rfl, fun U hU hW => ⟨rfl, by rw [hU], by rw [hU]; exact hPc, va_K.moved hW.alike hK, hDc.weaken (fun _ _ _ _ => trivial)⟩⟩ rfl rfl hl.1 rfl (lv_room (Nat.le_of_ble_eq_true rfl)) dL_law_298 ⟨Nat.le_of_ble_eq_true rfl, Nat.le_of_ble_eq_true rfl⟩) hS (fun q _ h => hFc q h) hFc (fun r_6 u t H1 locs ht hvm hw hB hz1 hk1 hS => ?_)
  have hP1 : va_P (dC, dI) vwCl [] H1 := fun k q h => by simp at h
  have hD1 : va_D (va_A [(m0, .inr (11, [.int 0, .ref m_tape, .int 0, .int 0, .int 0, .ref m_read, .int 0, .int 0, .int 0, .ref m_tets, .int 0, .int 0, .int 0, .int 0, .int 0, .int 0, .int 0, .int 0, .ref m_primes, .ref m_often, .ref m_normal, .ref m_termM, .ref m_termP, .ref m_termV, .ref m_sumFrom, .ref m_sumMany, .int 0, .int 0, .int 0, .int 0, .ref m_part, .ref m_fair, .ref m_heap, .ref m_pickTet, .ref m_pickEdge, .ref m_base, .ref m_baseM, .ref m_baseP, .ref m_rowsOf, .int 0, .ref m_grid, .ref m_times, .ref m_boxes, .ref m_cameFrom, .ref m_cameBy, .ref m_steps, .ref m_sides, .int 0, .int (-1), .ref m_next, .ref m_cube, .ref m_ways]))] H.size) [] := ⟨fun i j p q h => by simp at h, fun k q h => by simp at h⟩
  obtain ⟨hP, hD⟩ := va_join (wr := []) (w1 := []) hP hD [0] [] rfl rfl (by decide) (by decide) hk1 hFc hP1 hD1
  generalize H1 = H at hP hS ⊢
  have hP : va_P (dC, dI) vwCl [] H := hP
  have hD : va_D (fun q : Nat => s.heap.size ≤ q) [] := hD
  have hr_6 := hw
  refine lv_icmp_eq (tgt := 1744) hx hb dL_law_301 (by decide) (fun _ => ?_) (fun c => absurd (hr_3.trans hr_6.symm) c)
  refine W.widen (k := 600002) (n := 7302232) (Nat.le_of_ble_eq_true rfl) (Nat.le_of_ble_eq_true rfl) ?_
  exact la_end l C0 H _ hS ls hl
set_option maxHeartbeats 8000000 in
set_option maxRecDepth 100000 in
theorem la_2 {p : Program} {e : Env} {s : State} {m : MethodId} {below : List Frame} {meth : Method} {c : Code} (l : Launch) {b : Nat} {xs : Nat → Int32} (C0 : lw_At p s m meth c b 7 xs) (dC : Nat → ClassId) (dI : Nat → Nat → Nat) (cB cI cJ : ClassId) {x0 xTape xReader xBag xBld xAng xSum xPik xHan xIns xShr xSta xTur tB rN m0 m_tape m_read m_tets m_primes m_often m_normal m_termM m_termP m_termV m_sumFrom m_sumMany m_part m_fair m_heap m_pickTet m_pickEdge m_base m_baseM m_baseP m_rowsOf m_grid m_times m_boxes m_cameFrom m_cameBy m_steps m_sides m_next m_cube m_ways o0 : Nat} (H : Heap) (locs : List Loc) (hK : va_K (dC, dI) vwCl [(cB, .byte), (cI, .int), (cJ, .long)] s) (hP : va_P (dC, dI) vwCl [(x0, .inr (10, [.ref xTape, .ref xReader, .ref xBag, .ref xBld, .ref xAng, .ref xSum, .ref xPik, .int 0, .ref xHan, .ref xIns, .ref xShr, .ref xSta, .ref xTur])), (xTape, .inr (9, [.ref tB, .int 0])), (xReader, .inr (5, [.ref xTape, .ref rN, .int 0, .int 0, .int 0, .int 0, .int 0])), (m0, .inr (11, [.int 0, .ref m_tape, .int 0, .int 0, .int 0, .ref m_read, .int 0, .int 0, .int 0, .ref m_tets, .int 0, .int 0, .int 0, .int 0, .int 0, .int 0, .int 0, .int 0, .ref m_primes, .ref m_often, .ref m_normal, .ref m_termM, .ref m_termP, .ref m_termV, .ref m_sumFrom, .ref m_sumMany, .int 0, .int 0, .int 0, .int 0, .ref m_part, .ref m_fair, .ref m_heap, .ref m_pickTet, .ref m_pickEdge, .ref m_base, .ref m_baseM, .ref m_baseP, .ref m_rowsOf, .int 0, .ref m_grid, .ref m_times, .ref m_boxes, .ref m_cameFrom, .ref m_cameBy, .ref m_steps, .ref m_sides, .int 0, .int (-1), .ref m_next, .ref m_cube, .ref m_ways]))] H) (hD : va_D (fun q : Nat => s.heap.size ≤ q) [(x0, .inr (10, [.ref xTape, .ref xReader, .ref xBag, .ref xBld, .ref xAng, .ref xSum, .ref xPik, .int 0, .ref xHan, .ref xIns, .ref xShr, .ref xSta, .ref xTur])), (xTape, .inr (9, [.ref tB, .int 0])), (xReader, .inr (5, [.ref xTape, .ref rN, .int 0, .int 0, .int 0, .int 0, .int 0])), (m0, .inr (11, [.int 0, .ref m_tape, .int 0, .int 0, .int 0, .ref m_read, .int 0, .int 0, .int 0, .ref m_tets, .int 0, .int 0, .int 0, .int 0, .int 0, .int 0, .int 0, .int 0, .ref m_primes, .ref m_often, .ref m_normal, .ref m_termM, .ref m_termP, .ref m_termV, .ref m_sumFrom, .ref m_sumMany, .int 0, .int 0, .int 0, .int 0, .ref m_part, .ref m_fair, .ref m_heap, .ref m_pickTet, .ref m_pickEdge, .ref m_base, .ref m_baseM, .ref m_baseP, .ref m_rowsOf, .int 0, .ref m_grid, .ref m_times, .ref m_boxes, .ref m_cameFrom, .ref m_cameBy, .ref m_steps, .ref m_sides, .int 0, .int (-1), .ref m_next, .ref m_cube, .ref m_ways]))]) (hS : va_S (fun q : Nat => s.heap.size ≤ q) s.heap H locs) (ls : Array Slot) (hl : lv_has ls 7 [(4, .int 0), (3, .ref o0), (2, .ref m0), (1, .ref x0), (0, .ref b)]) : W p l e room_1 s m #[Value.ref b] below meth c H locs 82 28049 (lw_Z below #[Value.ref b] s) (F0 m 306 ls []) := by
  obtain ⟨hx, hb, hr, hml, hown, htb, hX, hbl, hlocks, hgv⟩ := id C0
  have hts := htb
  have hbA : ¬ (fun q : Nat => s.heap.size ≤ q) b := Nat.not_le.mpr hbl
  have hA : ∀ q : Nat, s.heap.size ≤ q → (fun q : Nat => s.heap.size ≤ q) q := fun _ h => h
  refine lv_aload_n hx hb dL_law_306 rfl (lv_at hl 3 rfl) ?_
  have hPc := hP.sub (ws' := [(x0, .inr (10, [.ref xTape, .ref xReader, .ref xBag, .ref xBld, .ref xAng, .ref xSum, .ref xPik, .int 0, .ref xHan, .ref xIns, .ref xShr, .ref xSta, .ref xTur])), (xTape, .inr (9, [.ref tB, .int 0])), (xReader, .inr (5, [.ref xTape, .ref rN, .int 0, .int 0, .int 0, .int 0, .int 0]))]) [0, 1, 2] rfl
  have hDc := hD.sub (ws' := [(x0, .inr (10, [.ref xTape, .ref xReader, .ref xBag, .ref xBld, .ref xAng, .ref xSum, .ref xPik, .int 0, .ref xHan, .ref xIns, .ref xShr, .ref xSta, .ref xTur])), (xTape, .inr (9, [.ref tB, .int 0])), (xReader, .inr (5, [.ref xTape, .ref rN, .int 0, .int 0, .int 0, .int 0, .int 0]))]) [0, 1, 2] (by decide) rfl
  have hFc := va_free (wc := [(x0, .inr (10, [.ref xTape, .ref xReader, .ref xBag, .ref xBld, .ref xAng, .ref xSum, .ref xPik, .int 0, .ref xHan, .ref xIns, .ref xShr, .ref xSta, .ref xTur])), (xTape, .inr (9, [.ref tB, .int 0])), (xReader, .inr (5, [.ref xTape, .ref rN, .int 0, .int 0, .int 0, .int 0, .int 0]))]) hD hS hA [0, 1, 2] rfl
  refine va_calli (va_runV (As := []) (rest := []) ⟨hx, hb, hml, hown, hts⟩ (c_X10_fault l dC dI cB cI cJ H.size x0 xTape xReader xBag xBld xAng xSum xPik xHan xIns xShr xSta xTur tB rN) (cwV 0 hts hL_law_X10_fault rfl rfl rfl (by decide +kernel) ⟨Nat.le_of_ble_eq_true rfl, Nat.le_of_ble_eq_true rfl⟩) ⟨fun a U g mk q => by obtain ⟨q0, q1, qP, qK, qD⟩ := q; exact ⟨q0, q1, qP, va_K.moved (u := U) (U := U.calling g mk a) (Vm.Alike.refl U.vm) qK, qD⟩, va_recv hK hP (ci := 10) (q0 := 0) rfl rfl, fun U hU hW => ⟨rfl, by rw [hU], by rw [hU]; exact hPc, va_K.moved hW.alike hK, hDc.weaken (fun _ _ _ _ => trivial)⟩⟩ rfl rfl hl.1 rfl (lv_room (Nat.le_of_ble_eq_true rfl)) dL_law_307 ⟨Nat.le_of_ble_eq_true rfl, Nat.le_of_ble_eq_true rfl⟩) hS (fun q _ h => hFc q h) hFc (fun r_1 u t H1 locs ht hvm hw hB hz1 hk1 hS => ?_)
  have hP1 : va_P (dC, dI) vwCl [] H1 := fun k q h => by simp at h
  have hD1 : va_D (va_A [(x0, .inr (10, [.ref xTape, .ref xReader, .ref xBag, .ref xBld, .ref xAng, .ref xSum, .ref xPik, .int 0, .ref xHan, .ref xIns, .ref xShr, .ref xSta, .ref xTur])), (xTape, .inr (9, [.ref tB, .int 0])), (xReader, .inr (5, [.ref xTape, .ref rN, .int 0, .int 0, .int 0, .int 0, .int 0]))] H.size) [] := ⟨fun i j p q h => by simp at h, fun k q h => by simp at h⟩
  obtain ⟨hP, hD⟩ := va_join (wr := [(m0, .inr (11, [.int 0, .ref m_tape, .int 0, .int 0, .int 0, .ref m_read, .int 0, .int 0, .int 0, .ref m_tets, .int 0, .int 0, .int 0, .int 0, .int 0, .int 0, .int 0, .int 0, .ref m_primes, .ref m_often, .ref m_normal, .ref m_termM, .ref m_termP, .ref m_termV, .ref m_sumFrom, .ref m_sumMany, .int 0, .int 0, .int 0, .int 0, .ref m_part, .ref m_fair, .ref m_heap, .ref m_pickTet, .ref m_pickEdge, .ref m_base, .ref m_baseM, .ref m_baseP, .ref m_rowsOf, .int 0, .ref m_grid, .ref m_times, .ref m_boxes, .ref m_cameFrom, .ref m_cameBy, .ref m_steps, .ref m_sides, .int 0, .int (-1), .ref m_next, .ref m_cube, .ref m_ways]))]) (w1 := []) hP hD [0, 1, 2] [3] rfl rfl (by decide) (by decide) hk1 hFc hP1 hD1
  generalize H1 = H at hP hS ⊢
  have hP : va_P (dC, dI) vwCl [(m0, .inr (11, [.int 0, .ref m_tape, .int 0, .int 0, .int 0, .ref m_read, .int 0, .int 0, .int 0, .ref m_tets, .int 0, .int 0, .int 0, .int 0, .int 0, .int 0, .int 0, .int 0, .ref m_primes, .ref m_often, .ref m_normal, .ref m_termM, .ref m_termP, .ref m_termV, .ref m_sumFrom, .ref m_sumMany, .int 0, .int 0, .int 0, .int 0, .ref m_part, .ref m_fair, .ref m_heap, .ref m_pickTet, .ref m_pickEdge, .ref m_base, .ref m_baseM, .ref m_baseP, .ref m_rowsOf, .int 0, .ref m_grid, .ref m_times, .ref m_boxes, .ref m_cameFrom, .ref m_cameBy, .ref m_steps, .ref m_sides, .int 0, .int (-1), .ref m_next, .ref m_cube, .ref m_ways]))] H := hP
  have hD : va_D (fun q : Nat => s.heap.size ≤ q) [(m0, .inr (11, [.int 0, .ref m_tape, .int 0, .int 0, .int 0, .ref m_read, .int 0, .int 0, .int 0, .ref m_tets, .int 0, .int 0, .int 0, .int 0, .int 0, .int 0, .int 0, .int 0, .ref m_primes, .ref m_often, .ref m_normal, .ref m_termM, .ref m_termP, .ref m_termV, .ref m_sumFrom, .ref m_sumMany, .int 0, .int 0, .int 0, .int 0, .ref m_part, .ref m_fair, .ref m_heap, .ref m_pickTet, .ref m_pickEdge, .ref m_base, .ref m_baseM, .ref m_baseP, .ref m_rowsOf, .int 0, .ref m_grid, .ref m_times, .ref m_boxes, .ref m_cameFrom, .ref m_cameBy, .ref m_steps, .ref m_sides, .int 0, .int (-1), .ref m_next, .ref m_cube, .ref m_ways]))] := hD
  have hr_1 := hw
  obtain rfl : r_1 = 0 := hr_1
  refine lv_aload_n hx hb dL_law_310 rfl (lv_at hl 2 rfl) ?_
  have hPc := hP.sub (ws' := [(m0, .inr (11, [.int 0, .ref m_tape, .int 0, .int 0, .int 0, .ref m_read, .int 0, .int 0, .int 0, .ref m_tets, .int 0, .int 0, .int 0, .int 0, .int 0, .int 0, .int 0, .int 0, .ref m_primes, .ref m_often, .ref m_normal, .ref m_termM, .ref m_termP, .ref m_termV, .ref m_sumFrom, .ref m_sumMany, .int 0, .int 0, .int 0, .int 0, .ref m_part, .ref m_fair, .ref m_heap, .ref m_pickTet, .ref m_pickEdge, .ref m_base, .ref m_baseM, .ref m_baseP, .ref m_rowsOf, .int 0, .ref m_grid, .ref m_times, .ref m_boxes, .ref m_cameFrom, .ref m_cameBy, .ref m_steps, .ref m_sides, .int 0, .int (-1), .ref m_next, .ref m_cube, .ref m_ways]))]) [0] rfl
  have hDc := hD.sub (ws' := [(m0, .inr (11, [.int 0, .ref m_tape, .int 0, .int 0, .int 0, .ref m_read, .int 0, .int 0, .int 0, .ref m_tets, .int 0, .int 0, .int 0, .int 0, .int 0, .int 0, .int 0, .int 0, .ref m_primes, .ref m_often, .ref m_normal, .ref m_termM, .ref m_termP, .ref m_termV, .ref m_sumFrom, .ref m_sumMany, .int 0, .int 0, .int 0, .int 0, .ref m_part, .ref m_fair, .ref m_heap, .ref m_pickTet, .ref m_pickEdge, .ref m_base, .ref m_baseM, .ref m_baseP, .ref m_rowsOf, .int 0, .ref m_grid, .ref m_times, .ref m_boxes, .ref m_cameFrom, .ref m_cameBy, .ref m_steps, .ref m_sides, .int 0, .int (-1), .ref m_next, .ref m_cube, .ref m_ways]))]) [0] (by decide) rfl
  have hFc := va_free (wc := [(m0, .inr (11, [.int 0, .ref m_tape, .int 0, .int 0, .int 0, .ref m_read, .int 0, .int 0, .int 0, .ref m_tets, .int 0, .int 0, .int 0, .int 0, .int 0, .int 0, .int 0, .int 0, .ref m_primes, .ref m_often, .ref m_normal, .ref m_termM, .ref m_termP, .ref m_termV, .ref m_sumFrom, .ref m_sumMany, .int 0, .int 0, .int 0, .int 0, .ref m_part, .ref m_fair, .ref m_heap, .ref m_pickTet, .ref m_pickEdge, .ref m_base, .ref m_baseM, .ref m_baseP, .ref m_rowsOf, .int 0, .ref m_grid, .ref m_times, .ref m_boxes, .ref m_cameFrom, .ref m_cameBy, .ref m_steps, .ref m_sides, .int 0, .int (-1), .ref m_next, .ref m_cube, .ref m_ways]))]) hD hS hA [0] rfl
  refine va_calli (va_runV (As := []) (rest := [.int 0]) ⟨hx, hb, hml, hown, hts⟩ (c_X11_fault l dC dI cB cI cJ H.size m0 m_tape m_read m_tets m_primes m_often m_normal m_termM m_termP m_termV m_sumFrom m_sumMany m_part m_fair m_heap m_pickTet m_pickEdge m_base m_baseM m_baseP m_rowsOf m_grid m_times m_boxes m_cameFrom m_cameBy m_steps m_sides m_next m_cube m_ways) (cwV 0 hts hL_law_X11_fault rfl rfl rfl (by decide +kernel) ⟨Nat.le_of_ble_eq_true rfl, Nat.le_of_ble_eq_true rfl⟩) ⟨fun a U g mk q => by obtain ⟨q0, q1, qP, qK, qD⟩ := q; exact ⟨q0, q1, qP, va_K.moved (u := U) (U := U.calling g mk a) (Vm.Alike.refl U.vm) qK, qD⟩, va_recv hK hP (ci := 11) (q0 := 0) rfl rfl, fun U hU hW => ⟨rfl, by rw [hU], by rw [hU]; exact hPc, va_K.moved hW.alike hK, hDc.weaken (fun _ _ _ _ => trivial)⟩⟩ rfl rfl hl.1 rfl (lv_room (Nat.le_of_ble_eq_true rfl)) dL_law_311 ⟨Nat.le_of_ble_eq_true rfl, Nat.le_of_ble_eq_true rfl⟩) hS (fun q _ h => hFc q h) hFc (fun r_2 u t H1 locs ht hvm hw hB hz1 hk1 hS => ?_)
  have hP1 : va_P (dC, dI) vwCl [] H1 := fun k q h => by simp at h
  have hD1 : va_D (va_A [(m0, .inr (11, [.int 0, .ref m_tape, .int 0, .int 0, .int 0, .ref m_read, .int 0, .int 0, .int 0, .ref m_tets, .int 0, .int 0, .int 0, .int 0, .int 0, .int 0, .int 0, .int 0, .ref m_primes, .ref m_often, .ref m_normal, .ref m_termM, .ref m_termP, .ref m_termV, .ref m_sumFrom, .ref m_sumMany, .int 0, .int 0, .int 0, .int 0, .ref m_part, .ref m_fair, .ref m_heap, .ref m_pickTet, .ref m_pickEdge, .ref m_base, .ref m_baseM, .ref m_baseP, .ref m_rowsOf, .int 0, .ref m_grid, .ref m_times, .ref m_boxes, .ref m_cameFrom, .ref m_cameBy, .ref m_steps, .ref m_sides, .int 0, .int (-1), .ref m_next, .ref m_cube, .ref m_ways]))] H.size) [] := ⟨fun i j p q h => by simp at h, fun k q h => by simp at h⟩
  obtain ⟨hP, hD⟩ := va_join (wr := []) (w1 := []) hP hD [0] [] rfl rfl (by decide) (by decide) hk1 hFc hP1 hD1
  generalize H1 = H at hP hS ⊢
  have hP : va_P (dC, dI) vwCl [] H := hP
  have hD : va_D (fun q : Nat => s.heap.size ≤ q) [] := hD
  have hr_2 := hw
  obtain rfl : r_2 = 0 := hr_2
  refine lv_icmp_eq (tgt := 1744) hx hb dL_law_314 (by decide) (fun _ => ?_) (fun c => absurd (by decide) c)
  refine W.widen (k := 600002) (n := 7302232) (Nat.le_of_ble_eq_true rfl) (Nat.le_of_ble_eq_true rfl) ?_
  exact la_end l C0 H _ hS ls hl
set_option maxHeartbeats 8000000 in
set_option maxRecDepth 100000 in
theorem la_3 {p : Program} {e : Env} {s : State} {m : MethodId} {below : List Frame} {meth : Method} {c : Code} (l : Launch) {b : Nat} {xs : Nat → Int32} (C0 : lw_At p s m meth c b 7 xs) (dC : Nat → ClassId) (dI : Nat → Nat → Nat) (cB cI cJ : ClassId) {x0 xTape xReader xBag xBld xAng xSum xPik xHan xIns xShr xSta xTur tB rN m0 m_tape m_read m_tets m_primes m_often m_normal m_termM m_termP m_termV m_sumFrom m_sumMany m_part m_fair m_heap m_pickTet m_pickEdge m_base m_baseM m_baseP m_rowsOf m_grid m_times m_boxes m_cameFrom m_cameBy m_steps m_sides m_next m_cube m_ways o0 : Nat} (H : Heap) (locs : List Loc) (hK : va_K (dC, dI) vwCl [(cB, .byte), (cI, .int), (cJ, .long)] s) (hP : va_P (dC, dI) vwCl [(x0, .inr (10, [.ref xTape, .ref xReader, .ref xBag, .ref xBld, .ref xAng, .ref xSum, .ref xPik, .int 0, .ref xHan, .ref xIns, .ref xShr, .ref xSta, .ref xTur])), (xTape, .inr (9, [.ref tB, .int 0])), (xReader, .inr (5, [.ref xTape, .ref rN, .int 0, .int 0, .int 0, .int 0, .int 0])), (m0, .inr (11, [.int 0, .ref m_tape, .int 0, .int 0, .int 0, .ref m_read, .int 0, .int 0, .int 0, .ref m_tets, .int 0, .int 0, .int 0, .int 0, .int 0, .int 0, .int 0, .int 0, .ref m_primes, .ref m_often, .ref m_normal, .ref m_termM, .ref m_termP, .ref m_termV, .ref m_sumFrom, .ref m_sumMany, .int 0, .int 0, .int 0, .int 0, .ref m_part, .ref m_fair, .ref m_heap, .ref m_pickTet, .ref m_pickEdge, .ref m_base, .ref m_baseM, .ref m_baseP, .ref m_rowsOf, .int 0, .ref m_grid, .ref m_times, .ref m_boxes, .ref m_cameFrom, .ref m_cameBy, .ref m_steps, .ref m_sides, .int 0, .int (-1), .ref m_next, .ref m_cube, .ref m_ways]))] H) (hD : va_D (fun q : Nat => s.heap.size ≤ q) [(x0, .inr (10, [.ref xTape, .ref xReader, .ref xBag, .ref xBld, .ref xAng, .ref xSum, .ref xPik, .int 0, .ref xHan, .ref xIns, .ref xShr, .ref xSta, .ref xTur])), (xTape, .inr (9, [.ref tB, .int 0])), (xReader, .inr (5, [.ref xTape, .ref rN, .int 0, .int 0, .int 0, .int 0, .int 0])), (m0, .inr (11, [.int 0, .ref m_tape, .int 0, .int 0, .int 0, .ref m_read, .int 0, .int 0, .int 0, .ref m_tets, .int 0, .int 0, .int 0, .int 0, .int 0, .int 0, .int 0, .int 0, .ref m_primes, .ref m_often, .ref m_normal, .ref m_termM, .ref m_termP, .ref m_termV, .ref m_sumFrom, .ref m_sumMany, .int 0, .int 0, .int 0, .int 0, .ref m_part, .ref m_fair, .ref m_heap, .ref m_pickTet, .ref m_pickEdge, .ref m_base, .ref m_baseM, .ref m_baseP, .ref m_rowsOf, .int 0, .ref m_grid, .ref m_times, .ref m_boxes, .ref m_cameFrom, .ref m_cameBy, .ref m_steps, .ref m_sides, .int 0, .int (-1), .ref m_next, .ref m_cube, .ref m_ways]))]) (hS : va_S (fun q : Nat => s.heap.size ≤ q) s.heap H locs) (ls : Array Slot) (hl : lv_has ls 7 [(4, .int 0), (3, .ref o0), (2, .ref m0), (1, .ref x0), (0, .ref b)]) : W p l e room_1 s m #[Value.ref b] below meth c H locs 82 28049 (lw_Z below #[Value.ref b] s) (F0 m 319 ls []) := by
  obtain ⟨hx, hb, hr, hml, hown, htb, hX, hbl, hlocks, hgv⟩ := id C0
  have hts := htb
  have hbA : ¬ (fun q : Nat => s.heap.size ≤ q) b := Nat.not_le.mpr hbl
  have hA : ∀ q : Nat, s.heap.size ≤ q → (fun q : Nat => s.heap.size ≤ q) q := fun _ h => h
  refine lv_aload_n hx hb dL_law_319 rfl (lv_at hl 3 rfl) ?_
  have hPc := hP.sub (ws' := [(x0, .inr (10, [.ref xTape, .ref xReader, .ref xBag, .ref xBld, .ref xAng, .ref xSum, .ref xPik, .int 0, .ref xHan, .ref xIns, .ref xShr, .ref xSta, .ref xTur])), (xTape, .inr (9, [.ref tB, .int 0])), (xReader, .inr (5, [.ref xTape, .ref rN, .int 0, .int 0, .int 0, .int 0, .int 0]))]) [0, 1, 2] rfl
  have hDc := hD.sub (ws' := [(x0, .inr (10, [.ref xTape, .ref xReader, .ref xBag, .ref xBld, .ref xAng, .ref xSum, .ref xPik, .int 0, .ref xHan, .ref xIns, .ref xShr, .ref xSta, .ref xTur])), (xTape, .inr (9, [.ref tB, .int 0])), (xReader, .inr (5, [.ref xTape, .ref rN, .int 0, .int 0, .int 0, .int 0, .int 0]))]) [0, 1, 2] (by decide) rfl
  have hFc := va_free (wc := [(x0, .inr (10, [.ref xTape, .ref xReader, .ref xBag, .ref xBld, .ref xAng, .ref xSum, .ref xPik, .int 0, .ref xHan, .ref xIns, .ref xShr, .ref xSta, .ref xTur])), (xTape, .inr (9, [.ref tB, .int 0])), (xReader, .inr (5, [.ref xTape, .ref rN, .int 0, .int 0, .int 0, .int 0, .int 0]))]) hD hS hA [0, 1, 2] rfl
  refine va_calli (va_runV (As := []) (rest := []) ⟨hx, hb, hml, hown, hts⟩ (c_X10_text l dC dI cB cI cJ H.size x0 xTape xReader xBag xBld xAng xSum xPik xHan xIns xShr xSta xTur tB rN) (cwV 0 hts hL_law_X10_text rfl rfl rfl (by decide +kernel) ⟨Nat.le_of_ble_eq_true rfl, Nat.le_of_ble_eq_true rfl⟩) ⟨fun a U g mk q => by obtain ⟨q0, q1, qP, qK, qD⟩ := q; exact ⟨q0, q1, qP, va_K.moved (u := U) (U := U.calling g mk a) (Vm.Alike.refl U.vm) qK, qD⟩, va_recv hK hP (ci := 10) (q0 := 0) rfl rfl, fun U hU hW => ⟨rfl, by rw [hU], by rw [hU]; exact hPc, va_K.moved hW.alike hK, hDc.weaken (fun _ _ _ _ => trivial)⟩⟩ rfl rfl hl.1 rfl (lv_room (Nat.le_of_ble_eq_true rfl)) dL_law_320 ⟨Nat.le_of_ble_eq_true rfl, Nat.le_of_ble_eq_true rfl⟩) hS (fun q _ h => hFc q h) hFc (fun r_1 u t H1 locs ht hvm hw hB hz1 hk1 hS => ?_)
  have hP1 : va_P (dC, dI) vwCl [] H1 := fun k q h => by simp at h
  have hD1 : va_D (va_A [(x0, .inr (10, [.ref xTape, .ref xReader, .ref xBag, .ref xBld, .ref xAng, .ref xSum, .ref xPik, .int 0, .ref xHan, .ref xIns, .ref xShr, .ref xSta, .ref xTur])), (xTape, .inr (9, [.ref tB, .int 0])), (xReader, .inr (5, [.ref xTape, .ref rN, .int 0, .int 0, .int 0, .int 0, .int 0]))] H.size) [] := ⟨fun i j p q h => by simp at h, fun k q h => by simp at h⟩
  obtain ⟨hP, hD⟩ := va_join (wr := [(m0, .inr (11, [.int 0, .ref m_tape, .int 0, .int 0, .int 0, .ref m_read, .int 0, .int 0, .int 0, .ref m_tets, .int 0, .int 0, .int 0, .int 0, .int 0, .int 0, .int 0, .int 0, .ref m_primes, .ref m_often, .ref m_normal, .ref m_termM, .ref m_termP, .ref m_termV, .ref m_sumFrom, .ref m_sumMany, .int 0, .int 0, .int 0, .int 0, .ref m_part, .ref m_fair, .ref m_heap, .ref m_pickTet, .ref m_pickEdge, .ref m_base, .ref m_baseM, .ref m_baseP, .ref m_rowsOf, .int 0, .ref m_grid, .ref m_times, .ref m_boxes, .ref m_cameFrom, .ref m_cameBy, .ref m_steps, .ref m_sides, .int 0, .int (-1), .ref m_next, .ref m_cube, .ref m_ways]))]) (w1 := []) hP hD [0, 1, 2] [3] rfl rfl (by decide) (by decide) hk1 hFc hP1 hD1
  generalize H1 = H at hP hS ⊢
  have hP : va_P (dC, dI) vwCl [(m0, .inr (11, [.int 0, .ref m_tape, .int 0, .int 0, .int 0, .ref m_read, .int 0, .int 0, .int 0, .ref m_tets, .int 0, .int 0, .int 0, .int 0, .int 0, .int 0, .int 0, .int 0, .ref m_primes, .ref m_often, .ref m_normal, .ref m_termM, .ref m_termP, .ref m_termV, .ref m_sumFrom, .ref m_sumMany, .int 0, .int 0, .int 0, .int 0, .ref m_part, .ref m_fair, .ref m_heap, .ref m_pickTet, .ref m_pickEdge, .ref m_base, .ref m_baseM, .ref m_baseP, .ref m_rowsOf, .int 0, .ref m_grid, .ref m_times, .ref m_boxes, .ref m_cameFrom, .ref m_cameBy, .ref m_steps, .ref m_sides, .int 0, .int (-1), .ref m_next, .ref m_cube, .ref m_ways]))] H := hP
  have hD : va_D (fun q : Nat => s.heap.size ≤ q) [(m0, .inr (11, [.int 0, .ref m_tape, .int 0, .int 0, .int 0, .ref m_read, .int 0, .int 0, .int 0, .ref m_tets, .int 0, .int 0, .int 0, .int 0, .int 0, .int 0, .int 0, .int 0, .ref m_primes, .ref m_often, .ref m_normal, .ref m_termM, .ref m_termP, .ref m_termV, .ref m_sumFrom, .ref m_sumMany, .int 0, .int 0, .int 0, .int 0, .ref m_part, .ref m_fair, .ref m_heap, .ref m_pickTet, .ref m_pickEdge, .ref m_base, .ref m_baseM, .ref m_baseP, .ref m_rowsOf, .int 0, .ref m_grid, .ref m_times, .ref m_boxes, .ref m_cameFrom, .ref m_cameBy, .ref m_steps, .ref m_sides, .int 0, .int (-1), .ref m_next, .ref m_cube, .ref m_ways]))] := hD
  have hr_1 := hw
  obtain rfl : r_1 = (-1) := hr_1
  refine lv_aload_n hx hb dL_law_323 rfl (lv_at hl 2 rfl) ?_
  have hPc := hP.sub (ws' := [(m0, .inr (11, [.int 0, .ref m_tape, .int 0, .int 0, .int 0, .ref m_read, .int 0, .int 0, .int 0, .ref m_tets, .int 0, .int 0, .int 0, .int 0, .int 0, .int 0, .int 0, .int 0, .ref m_primes, .ref m_often, .ref m_normal, .ref m_termM, .ref m_termP, .ref m_termV, .ref m_sumFrom, .ref m_sumMany, .int 0, .int 0, .int 0, .int 0, .ref m_part, .ref m_fair, .ref m_heap, .ref m_pickTet, .ref m_pickEdge, .ref m_base, .ref m_baseM, .ref m_baseP, .ref m_rowsOf, .int 0, .ref m_grid, .ref m_times, .ref m_boxes, .ref m_cameFrom, .ref m_cameBy, .ref m_steps, .ref m_sides, .int 0, .int (-1), .ref m_next, .ref m_cube, .ref m_ways]))]) [0] rfl
  have hDc := hD.sub (ws' := [(m0, .inr (11, [.int 0, .ref m_tape, .int 0, .int 0, .int 0, .ref m_read, .int 0, .int 0, .int 0, .ref m_tets, .int 0, .int 0, .int 0, .int 0, .int 0, .int 0, .int 0, .int 0, .ref m_primes, .ref m_often, .ref m_normal, .ref m_termM, .ref m_termP, .ref m_termV, .ref m_sumFrom, .ref m_sumMany, .int 0, .int 0, .int 0, .int 0, .ref m_part, .ref m_fair, .ref m_heap, .ref m_pickTet, .ref m_pickEdge, .ref m_base, .ref m_baseM, .ref m_baseP, .ref m_rowsOf, .int 0, .ref m_grid, .ref m_times, .ref m_boxes, .ref m_cameFrom, .ref m_cameBy, .ref m_steps, .ref m_sides, .int 0, .int (-1), .ref m_next, .ref m_cube, .ref m_ways]))]) [0] (by decide) rfl
  have hFc := va_free (wc := [(m0, .inr (11, [.int 0, .ref m_tape, .int 0, .int 0, .int 0, .ref m_read, .int 0, .int 0, .int 0, .ref m_tets, .int 0, .int 0, .int 0, .int 0, .int 0, .int 0, .int 0, .int 0, .ref m_primes, .ref m_often, .ref m_normal, .ref m_termM, .ref m_termP, .ref m_termV, .ref m_sumFrom, .ref m_sumMany, .int 0, .int 0, .int 0, .int 0, .ref m_part, .ref m_fair, .ref m_heap, .ref m_pickTet, .ref m_pickEdge, .ref m_base, .ref m_baseM, .ref m_baseP, .ref m_rowsOf, .int 0, .ref m_grid, .ref m_times, .ref m_boxes, .ref m_cameFrom, .ref m_cameBy, .ref m_steps, .ref m_sides, .int 0, .int (-1), .ref m_next, .ref m_cube, .ref m_ways]))]) hD hS hA [0] rfl
  refine va_calli (va_runV (As := []) (rest := [.int (-1)]) ⟨hx, hb, hml, hown, hts⟩ (c_X11_text l dC dI cB cI cJ H.size m0 m_tape m_read m_tets m_primes m_often m_normal m_termM m_termP m_termV m_sumFrom m_sumMany m_part m_fair m_heap m_pickTet m_pickEdge m_base m_baseM m_baseP m_rowsOf m_grid m_times m_boxes m_cameFrom m_cameBy m_steps m_sides m_next m_cube m_ways) (cwV 0 hts hL_law_X11_text rfl rfl rfl (by decide +kernel) ⟨Nat.le_of_ble_eq_true rfl, Nat.le_of_ble_eq_true rfl⟩) ⟨fun a U g mk q => by obtain ⟨q0, q1, qP, qK, qD⟩ := q; exact ⟨q0, q1, qP, va_K.moved (u := U) (U := U.calling g mk a) (Vm.Alike.refl U.vm) qK, qD⟩, va_recv hK hP (ci := 11) (q0 := 0) rfl rfl, fun U hU hW => ⟨rfl, by rw [hU], by rw [hU]; exact hPc, va_K.moved hW.alike hK, hDc.weaken (fun _ _ _ _ => trivial)⟩⟩ rfl rfl hl.1 rfl (lv_room (Nat.le_of_ble_eq_true rfl)) dL_law_324 ⟨Nat.le_of_ble_eq_true rfl, Nat.le_of_ble_eq_true rfl⟩) hS (fun q _ h => hFc q h) hFc (fun r_2 u t H1 locs ht hvm hw hB hz1 hk1 hS => ?_)
  have hP1 : va_P (dC, dI) vwCl [] H1 := fun k q h => by simp at h
  have hD1 : va_D (va_A [(m0, .inr (11, [.int 0, .ref m_tape, .int 0, .int 0, .int 0, .ref m_read, .int 0, .int 0, .int 0, .ref m_tets, .int 0, .int 0, .int 0, .int 0, .int 0, .int 0, .int 0, .int 0, .ref m_primes, .ref m_often, .ref m_normal, .ref m_termM, .ref m_termP, .ref m_termV, .ref m_sumFrom, .ref m_sumMany, .int 0, .int 0, .int 0, .int 0, .ref m_part, .ref m_fair, .ref m_heap, .ref m_pickTet, .ref m_pickEdge, .ref m_base, .ref m_baseM, .ref m_baseP, .ref m_rowsOf, .int 0, .ref m_grid, .ref m_times, .ref m_boxes, .ref m_cameFrom, .ref m_cameBy, .ref m_steps, .ref m_sides, .int 0, .int (-1), .ref m_next, .ref m_cube, .ref m_ways]))] H.size) [] := ⟨fun i j p q h => by simp at h, fun k q h => by simp at h⟩
  obtain ⟨hP, hD⟩ := va_join (wr := []) (w1 := []) hP hD [0] [] rfl rfl (by decide) (by decide) hk1 hFc hP1 hD1
  generalize H1 = H at hP hS ⊢
  have hP : va_P (dC, dI) vwCl [] H := hP
  have hD : va_D (fun q : Nat => s.heap.size ≤ q) [] := hD
  have hr_2 := hw
  obtain rfl : r_2 = (-1) := hr_2
  refine lv_icmp_eq (tgt := 1744) hx hb dL_law_327 (by decide) (fun _ => ?_) (fun c => absurd (by decide) c)
  refine W.widen (k := 600002) (n := 7302232) (Nat.le_of_ble_eq_true rfl) (Nat.le_of_ble_eq_true rfl) ?_
  exact la_end l C0 H _ hS ls hl
set_option maxHeartbeats 8000000 in
set_option maxRecDepth 100000 in
theorem la_4 {p : Program} {e : Env} {s : State} {m : MethodId} {below : List Frame} {meth : Method} {c : Code} (l : Launch) {b : Nat} {xs : Nat → Int32} (C0 : lw_At p s m meth c b 7 xs) (dC : Nat → ClassId) (dI : Nat → Nat → Nat) (cB cI cJ : ClassId) {x0 xTape xReader xBag xBld xAng xSum xPik xHan xIns xShr xSta xTur tB bC bS bX bW bP fL fS fP fT fA fQ fR fN m0 m_tape m_read m_tets m_primes m_often m_normal m_termM m_termP m_termV m_sumFrom m_sumMany m_part m_fair m_heap m_pickTet m_pickEdge m_base m_baseM m_baseP m_rowsOf m_grid m_times m_boxes m_cameFrom m_cameBy m_steps m_sides m_next m_cube m_ways o0 : Nat} (H : Heap) (locs : List Loc) (hK : va_K (dC, dI) vwCl [(cB, .byte), (cI, .int), (cJ, .long)] s) (hP : va_P (dC, dI) vwCl [(x0, .inr (10, [.ref xTape, .ref xReader, .ref xBag, .ref xBld, .ref xAng, .ref xSum, .ref xPik, .int 0, .ref xHan, .ref xIns, .ref xShr, .ref xSta, .ref xTur])), (xTape, .inr (9, [.ref tB, .int 0])), (xBag, .inr (1, [.ref bC, .ref bS, .ref bX, .ref bW, .ref bP, .int 0])), (xSta, .inr (7, [.int (-1), .ref fL, .ref fS, .ref fP, .ref fT, .ref fA, .ref fQ, .ref fR, .int 0, .ref fN])), (m0, .inr (11, [.int 0, .ref m_tape, .int 0, .int 0, .int 0, .ref m_read, .int 0, .int 0, .int 0, .ref m_tets, .int 0, .int 0, .int 0, .int 0, .int 0, .int 0, .int 0, .int 0, .ref m_primes, .ref m_often, .ref m_normal, .ref m_termM, .ref m_termP, .ref m_termV, .ref m_sumFrom, .ref m_sumMany, .int 0, .int 0, .int 0, .int 0, .ref m_part, .ref m_fair, .ref m_heap, .ref m_pickTet, .ref m_pickEdge, .ref m_base, .ref m_baseM, .ref m_baseP, .ref m_rowsOf, .int 0, .ref m_grid, .ref m_times, .ref m_boxes, .ref m_cameFrom, .ref m_cameBy, .ref m_steps, .ref m_sides, .int 0, .int (-1), .ref m_next, .ref m_cube, .ref m_ways]))] H) (hD : va_D (fun q : Nat => s.heap.size ≤ q) [(x0, .inr (10, [.ref xTape, .ref xReader, .ref xBag, .ref xBld, .ref xAng, .ref xSum, .ref xPik, .int 0, .ref xHan, .ref xIns, .ref xShr, .ref xSta, .ref xTur])), (xTape, .inr (9, [.ref tB, .int 0])), (xBag, .inr (1, [.ref bC, .ref bS, .ref bX, .ref bW, .ref bP, .int 0])), (xSta, .inr (7, [.int (-1), .ref fL, .ref fS, .ref fP, .ref fT, .ref fA, .ref fQ, .ref fR, .int 0, .ref fN])), (m0, .inr (11, [.int 0, .ref m_tape, .int 0, .int 0, .int 0, .ref m_read, .int 0, .int 0, .int 0, .ref m_tets, .int 0, .int 0, .int 0, .int 0, .int 0, .int 0, .int 0, .int 0, .ref m_primes, .ref m_often, .ref m_normal, .ref m_termM, .ref m_termP, .ref m_termV, .ref m_sumFrom, .ref m_sumMany, .int 0, .int 0, .int 0, .int 0, .ref m_part, .ref m_fair, .ref m_heap, .ref m_pickTet, .ref m_pickEdge, .ref m_base, .ref m_baseM, .ref m_baseP, .ref m_rowsOf, .int 0, .ref m_grid, .ref m_times, .ref m_boxes, .ref m_cameFrom, .ref m_cameBy, .ref m_steps, .ref m_sides, .int 0, .int (-1), .ref m_next, .ref m_cube, .ref m_ways]))]) (hS : va_S (fun q : Nat => s.heap.size ≤ q) s.heap H locs) (ls : Array Slot) (hl : lv_has ls 7 [(4, .int 0), (3, .ref o0), (2, .ref m0), (1, .ref x0), (0, .ref b)]) : W p l e room_1 s m #[Value.ref b] below meth c H locs 82 28049 (lw_Z below #[Value.ref b] s) (F0 m 332 ls []) := by
  obtain ⟨hx, hb, hr, hml, hown, htb, hX, hbl, hlocks, hgv⟩ := id C0
  have hts := htb
  have hbA : ¬ (fun q : Nat => s.heap.size ≤ q) b := Nat.not_le.mpr hbl
  have hA : ∀ q : Nat, s.heap.size ≤ q → (fun q : Nat => s.heap.size ≤ q) q := fun _ h => h
  obtain ⟨y1, hy1⟩ : ∃ y : Int32, y = xs (1 : Int32).toNatClampNeg := ⟨_, rfl⟩
  refine lv_aload_n hx hb dL_law_332 rfl (lv_at hl 3 rfl) ?_
  refine lv_aload_n hx hb dL_law_333 rfl (lv_at hl 4 rfl) ?_
  refine lv_iload hx hb dL_law_334 (lv_at hl 0 rfl) ?_
  refine lv_iconst (v := 1) hx hb dL_law_336 (by decide) ?_
  refine lv_iadd hx hb dL_law_337 ?_
  refine lv_topi (fun x_1 ex_1 => ?_)
  obtain rfl : x_1 = 1 := ex_1.trans (by first | rfl | decide)
  refine va_sld hx hb hX hbl hbA hS (by show ¬ (_ ∨ _); decide) dL_law_338 ?_
  refine lv_topi (fun x_2 ex_2 => ?_)
  obtain rfl : y1 = x_2 := hy1.trans ex_2.symm
  have hPc := hP.sub (ws' := [(x0, .inr (10, [.ref xTape, .ref xReader, .ref xBag, .ref xBld, .ref xAng, .ref xSum, .ref xPik, .int 0, .ref xHan, .ref xIns, .ref xShr, .ref xSta, .ref xTur])), (xTape, .inr (9, [.ref tB, .int 0])), (xBag, .inr (1, [.ref bC, .ref bS, .ref bX, .ref bW, .ref bP, .int 0])), (xSta, .inr (7, [.int (-1), .ref fL, .ref fS, .ref fP, .ref fT, .ref fA, .ref fQ, .ref fR, .int 0, .ref fN]))]) [0, 1, 2, 3] rfl
  have hDc := hD.sub (ws' := [(x0, .inr (10, [.ref xTape, .ref xReader, .ref xBag, .ref xBld, .ref xAng, .ref xSum, .ref xPik, .int 0, .ref xHan, .ref xIns, .ref xShr, .ref xSta, .ref xTur])), (xTape, .inr (9, [.ref tB, .int 0])), (xBag, .inr (1, [.ref bC, .ref bS, .ref bX, .ref bW, .ref bP, .int 0])), (xSta, .inr (7, [.int (-1), .ref fL, .ref fS, .ref fP, .ref fT, .ref fA, .ref fQ, .ref fR, .int 0, .ref fN]))]) [0, 1, 2, 3] (by decide) rfl
  have hFc := va_free (wc := [(x0, .inr (10, [.ref xTape, .ref xReader, .ref xBag, .ref xBld, .ref xAng, .ref xSum, .ref xPik, .int 0, .ref xHan, .ref xIns, .ref xShr, .ref xSta, .ref xTur])), (xTape, .inr (9, [.ref tB, .int 0])), (xBag, .inr (1, [.ref bC, .ref bS, .ref bX, .ref bW, .ref bP, .int 0])), (xSta, .inr (7, [.int (-1), .ref fL, .ref fS, .ref fP, .ref fT, .ref fA, .ref fQ, .ref fR, .int 0, .ref fN]))]) hD hS hA [0, 1, 2, 3] rfl
  refine va_calli (va_runV (As := [.int y1]) (rest := []) ⟨hx, hb, hml, hown, hts⟩ (c_X10_count l dC dI cB cI cJ H.size x0 xTape xReader xBag xBld xAng xSum xPik xHan xIns xShr xSta xTur tB bC bS bX bW bP fL fS fP fT fA fQ fR fN y1) (cwV 1 hts hL_law_X10_count rfl rfl rfl (by decide +kernel) ⟨Nat.le_of_ble_eq_true rfl, Nat.le_of_ble_eq_true rfl⟩) ⟨fun a U g mk q => by obtain ⟨q0, q1, qP, qK, qD⟩ := q; exact ⟨q0, q1, qP, va_K.moved (u := U) (U := U.calling g mk a) (Vm.Alike.refl U.vm) qK, qD⟩, va_recv hK hP (ci := 10) (q0 := 0) rfl rfl, fun U hU hW => ⟨rfl, by rw [hU], by rw [hU]; exact hPc, va_K.moved hW.alike hK, hDc.weaken (fun _ _ _ _ => trivial)⟩⟩ rfl rfl hl.1 rfl (lv_room (Nat.le_of_ble_eq_true rfl)) dL_law_339 ⟨Nat.le_of_ble_eq_true rfl, Nat.le_of_ble_eq_true rfl⟩) hS (fun q _ h => hFc q h) hFc (fun r_3 u t H1 locs ht hvm hw hB hz1 hk1 hS => ?_)
  have hP1 : va_P (dC, dI) vwCl [] H1 := fun k q h => by simp at h
  have hD1 : va_D (va_A [(x0, .inr (10, [.ref xTape, .ref xReader, .ref xBag, .ref xBld, .ref xAng, .ref xSum, .ref xPik, .int 0, .ref xHan, .ref xIns, .ref xShr, .ref xSta, .ref xTur])), (xTape, .inr (9, [.ref tB, .int 0])), (xBag, .inr (1, [.ref bC, .ref bS, .ref bX, .ref bW, .ref bP, .int 0])), (xSta, .inr (7, [.int (-1), .ref fL, .ref fS, .ref fP, .ref fT, .ref fA, .ref fQ, .ref fR, .int 0, .ref fN]))] H.size) [] := ⟨fun i j p q h => by simp at h, fun k q h => by simp at h⟩
  obtain ⟨hP, hD⟩ := va_join (wr := [(m0, .inr (11, [.int 0, .ref m_tape, .int 0, .int 0, .int 0, .ref m_read, .int 0, .int 0, .int 0, .ref m_tets, .int 0, .int 0, .int 0, .int 0, .int 0, .int 0, .int 0, .int 0, .ref m_primes, .ref m_often, .ref m_normal, .ref m_termM, .ref m_termP, .ref m_termV, .ref m_sumFrom, .ref m_sumMany, .int 0, .int 0, .int 0, .int 0, .ref m_part, .ref m_fair, .ref m_heap, .ref m_pickTet, .ref m_pickEdge, .ref m_base, .ref m_baseM, .ref m_baseP, .ref m_rowsOf, .int 0, .ref m_grid, .ref m_times, .ref m_boxes, .ref m_cameFrom, .ref m_cameBy, .ref m_steps, .ref m_sides, .int 0, .int (-1), .ref m_next, .ref m_cube, .ref m_ways]))]) (w1 := []) hP hD [0, 1, 2, 3] [4] rfl rfl (by decide) (by decide) hk1 hFc hP1 hD1
  generalize H1 = H at hP hS ⊢
  have hP : va_P (dC, dI) vwCl [(m0, .inr (11, [.int 0, .ref m_tape, .int 0, .int 0, .int 0, .ref m_read, .int 0, .int 0, .int 0, .ref m_tets, .int 0, .int 0, .int 0, .int 0, .int 0, .int 0, .int 0, .int 0, .ref m_primes, .ref m_often, .ref m_normal, .ref m_termM, .ref m_termP, .ref m_termV, .ref m_sumFrom, .ref m_sumMany, .int 0, .int 0, .int 0, .int 0, .ref m_part, .ref m_fair, .ref m_heap, .ref m_pickTet, .ref m_pickEdge, .ref m_base, .ref m_baseM, .ref m_baseP, .ref m_rowsOf, .int 0, .ref m_grid, .ref m_times, .ref m_boxes, .ref m_cameFrom, .ref m_cameBy, .ref m_steps, .ref m_sides, .int 0, .int (-1), .ref m_next, .ref m_cube, .ref m_ways]))] H := hP
  have hD : va_D (fun q : Nat => s.heap.size ≤ q) [(m0, .inr (11, [.int 0, .ref m_tape, .int 0, .int 0, .int 0, .ref m_read, .int 0, .int 0, .int 0, .ref m_tets, .int 0, .int 0, .int 0, .int 0, .int 0, .int 0, .int 0, .int 0, .ref m_primes, .ref m_often, .ref m_normal, .ref m_termM, .ref m_termP, .ref m_termV, .ref m_sumFrom, .ref m_sumMany, .int 0, .int 0, .int 0, .int 0, .ref m_part, .ref m_fair, .ref m_heap, .ref m_pickTet, .ref m_pickEdge, .ref m_base, .ref m_baseM, .ref m_baseP, .ref m_rowsOf, .int 0, .ref m_grid, .ref m_times, .ref m_boxes, .ref m_cameFrom, .ref m_cameBy, .ref m_steps, .ref m_sides, .int 0, .int (-1), .ref m_next, .ref m_cube, .ref m_ways]))] := hD
  have hr_3 := hw
  refine lv_aload_n hx hb dL_law_342 rfl (lv_at hl 2 rfl) ?_
  refine lv_aload_n hx hb dL_law_343 rfl (lv_at hl 4 rfl) ?_
  refine lv_iload hx hb dL_law_344 (lv_at hl 0 rfl) ?_
  refine lv_iconst (v := 1) hx hb dL_law_346 (by decide) ?_
  refine lv_iadd hx hb dL_law_347 ?_
  refine lv_topi (fun x_4 ex_4 => ?_)
  obtain rfl : x_4 = 1 := ex_4.trans (by first | rfl | decide)
  refine va_sld hx hb hX hbl hbA hS (by show ¬ (_ ∨ _); decide) dL_law_348 ?_
  refine lv_topi (fun x_5 ex_5 => ?_)
  obtain rfl : y1 = x_5 := hy1.trans ex_5.symm
  have hPc := hP.sub (ws' := [(m0, .inr (11, [.int 0, .ref m_tape, .int 0, .int 0, .int 0, .ref m_read, .int 0, .int 0, .int 0, .ref m_tets, .int 0, .int 0, .int 0, .int 0, .int 0, .int 0, .int 0, .int 0, .ref m_primes, .ref m_often, .ref m_normal, .ref m_termM, .ref m_termP, .ref m_termV, .ref m_sumFrom, .ref m_sumMany, .int 0, .int 0, .int 0, .int 0, .ref m_part, .ref m_fair, .ref m_heap, .ref m_pickTet, .ref m_pickEdge, .ref m_base, .ref m_baseM, .ref m_baseP, .ref m_rowsOf, .int 0, .ref m_grid, .ref m_times, .ref m_boxes, .ref m_cameFrom, .ref m_cameBy, .ref m_steps, .ref m_sides, .int 0, .int (-1), .ref m_next, .ref m_cube, .ref m_ways]))]) [0] rfl
  have hDc := hD.sub (ws' := [(m0, .inr (11, [.int 0, .ref m_tape, .int 0, .int 0, .int 0, .ref m_read, .int 0, .int 0, .int 0, .ref m_tets, .int 0, .int 0, .int 0, .int 0, .int 0, .int 0, .int 0, .int 0, .ref m_primes, .ref m_often, .ref m_normal, .ref m_termM, .ref m_termP, .ref m_termV, .ref m_sumFrom, .ref m_sumMany, .int 0, .int 0, .int 0, .int 0, .ref m_part, .ref m_fair, .ref m_heap, .ref m_pickTet, .ref m_pickEdge, .ref m_base, .ref m_baseM, .ref m_baseP, .ref m_rowsOf, .int 0, .ref m_grid, .ref m_times, .ref m_boxes, .ref m_cameFrom, .ref m_cameBy, .ref m_steps, .ref m_sides, .int 0, .int (-1), .ref m_next, .ref m_cube, .ref m_ways]))]) [0] (by decide) rfl
  have hFc := va_free (wc := [(m0, .inr (11, [.int 0, .ref m_tape, .int 0, .int 0, .int 0, .ref m_read, .int 0, .int 0, .int 0, .ref m_tets, .int 0, .int 0, .int 0, .int 0, .int 0, .int 0, .int 0, .int 0, .ref m_primes, .ref m_often, .ref m_normal, .ref m_termM, .ref m_termP, .ref m_termV, .ref m_sumFrom, .ref m_sumMany, .int 0, .int 0, .int 0, .int 0, .ref m_part, .ref m_fair, .ref m_heap, .ref m_pickTet, .ref m_pickEdge, .ref m_base, .ref m_baseM, .ref m_baseP, .ref m_rowsOf, .int 0, .ref m_grid, .ref m_times, .ref m_boxes, .ref m_cameFrom, .ref m_cameBy, .ref m_steps, .ref m_sides, .int 0, .int (-1), .ref m_next, .ref m_cube, .ref m_ways]))]) hD hS hA [0] rfl
  refine va_calli (va_runV (As := [.int y1]) (rest := [.int r_3]) ⟨hx, hb, hml, hown, hts⟩ (c_X11_count l dC dI cB cI cJ H.size m0 m_tape m_read m_tets m_primes m_often m_normal m_termM m_termP m_termV m_sumFrom m_sumMany m_part m_fair m_heap m_pickTet m_pickEdge m_base m_baseM m_baseP m_rowsOf m_grid m_times m_boxes m_cameFrom m_cameBy m_steps m_sides m_next m_cube m_ways y1) (cwV 1 hts hL_law_X11_count rfl rfl rfl (by decide +kernel) ⟨Nat.le_of_ble_eq_true rfl, Nat.le_of_ble_eq_true rfl⟩) ⟨fun a U g mk q => by obtain ⟨q0, q1, qP, qK, qD⟩ := q; exact ⟨q0, q1, qP, va_K.moved (u := U) (U := U.calling g mk a) (Vm.Alike.refl U.vm) qK, qD⟩, va_recv hK hP (ci := 11) (q0 := 0) rfl rfl, fun U hU hW => ⟨rfl, by rw [hU], by rw [hU]; exact hPc, va_K.moved hW.alike hK, hDc.weaken (fun _ _ _ _ => trivial)⟩⟩ rfl rfl hl.1 rfl (lv_room (Nat.le_of_ble_eq_true rfl)) dL_law_349 ⟨Nat.le_of_ble_eq_true rfl, Nat.le_of_ble_eq_true rfl⟩) hS (fun q _ h => hFc q h) hFc (fun r_6 u t H1 locs ht hvm hw hB hz1 hk1 hS => ?_)
  have hP1 : va_P (dC, dI) vwCl [] H1 := fun k q h => by simp at h
  have hD1 : va_D (va_A [(m0, .inr (11, [.int 0, .ref m_tape, .int 0, .int 0, .int 0, .ref m_read, .int 0, .int 0, .int 0, .ref m_tets, .int 0, .int 0, .int 0, .int 0, .int 0, .int 0, .int 0, .int 0, .ref m_primes, .ref m_often, .ref m_normal, .ref m_termM, .ref m_termP, .ref m_termV, .ref m_sumFrom, .ref m_sumMany, .int 0, .int 0, .int 0, .int 0, .ref m_part, .ref m_fair, .ref m_heap, .ref m_pickTet, .ref m_pickEdge, .ref m_base, .ref m_baseM, .ref m_baseP, .ref m_rowsOf, .int 0, .ref m_grid, .ref m_times, .ref m_boxes, .ref m_cameFrom, .ref m_cameBy, .ref m_steps, .ref m_sides, .int 0, .int (-1), .ref m_next, .ref m_cube, .ref m_ways]))] H.size) [] := ⟨fun i j p q h => by simp at h, fun k q h => by simp at h⟩
  obtain ⟨hP, hD⟩ := va_join (wr := []) (w1 := []) hP hD [0] [] rfl rfl (by decide) (by decide) hk1 hFc hP1 hD1
  generalize H1 = H at hP hS ⊢
  have hP : va_P (dC, dI) vwCl [] H := hP
  have hD : va_D (fun q : Nat => s.heap.size ≤ q) [] := hD
  have hr_6 := hw
  refine lv_icmp_eq (tgt := 1744) hx hb dL_law_352 (by decide) (fun _ => ?_) (fun c => absurd (hr_3.trans hr_6.symm) c)
  refine W.widen (k := 600002) (n := 7302232) (Nat.le_of_ble_eq_true rfl) (Nat.le_of_ble_eq_true rfl) ?_
  exact la_end l C0 H _ hS ls hl
set_option maxHeartbeats 8000000 in
set_option maxRecDepth 100000 in
theorem la_5 {p : Program} {e : Env} {s : State} {m : MethodId} {below : List Frame} {meth : Method} {c : Code} (l : Launch) {b : Nat} {xs : Nat → Int32} (C0 : lw_At p s m meth c b 7 xs) (hst : l.stackTraces = false) (dC : Nat → ClassId) (dI : Nat → Nat → Nat) (cB cI cJ : ClassId) {x0 xTape xReader xBag xBld xAng xSum xPik xHan xIns xShr xSta xTur bC bS bX bW bP m0 m_tape m_read m_tets m_primes m_often m_normal m_termM m_termP m_termV m_sumFrom m_sumMany m_part m_fair m_heap m_pickTet m_pickEdge m_base m_baseM m_baseP m_rowsOf m_grid m_times m_boxes m_cameFrom m_cameBy m_steps m_sides m_next m_cube m_ways o0 : Nat} (H : Heap) (locs : List Loc) (hK : va_K (dC, dI) vwCl [(cB, .byte), (cI, .int), (cJ, .long)] s) (hP : va_P (dC, dI) vwCl [(x0, .inr (10, [.ref xTape, .ref xReader, .ref xBag, .ref xBld, .ref xAng, .ref xSum, .ref xPik, .int 0, .ref xHan, .ref xIns, .ref xShr, .ref xSta, .ref xTur])), (xBag, .inr (1, [.ref bC, .ref bS, .ref bX, .ref bW, .ref bP, .int 0])), (m0, .inr (11, [.int 0, .ref m_tape, .int 0, .int 0, .int 0, .ref m_read, .int 0, .int 0, .int 0, .ref m_tets, .int 0, .int 0, .int 0, .int 0, .int 0, .int 0, .int 0, .int 0, .ref m_primes, .ref m_often, .ref m_normal, .ref m_termM, .ref m_termP, .ref m_termV, .ref m_sumFrom, .ref m_sumMany, .int 0, .int 0, .int 0, .int 0, .ref m_part, .ref m_fair, .ref m_heap, .ref m_pickTet, .ref m_pickEdge, .ref m_base, .ref m_baseM, .ref m_baseP, .ref m_rowsOf, .int 0, .ref m_grid, .ref m_times, .ref m_boxes, .ref m_cameFrom, .ref m_cameBy, .ref m_steps, .ref m_sides, .int 0, .int (-1), .ref m_next, .ref m_cube, .ref m_ways]))] H) (hD : va_D (fun q : Nat => s.heap.size ≤ q) [(x0, .inr (10, [.ref xTape, .ref xReader, .ref xBag, .ref xBld, .ref xAng, .ref xSum, .ref xPik, .int 0, .ref xHan, .ref xIns, .ref xShr, .ref xSta, .ref xTur])), (xBag, .inr (1, [.ref bC, .ref bS, .ref bX, .ref bW, .ref bP, .int 0])), (m0, .inr (11, [.int 0, .ref m_tape, .int 0, .int 0, .int 0, .ref m_read, .int 0, .int 0, .int 0, .ref m_tets, .int 0, .int 0, .int 0, .int 0, .int 0, .int 0, .int 0, .int 0, .ref m_primes, .ref m_often, .ref m_normal, .ref m_termM, .ref m_termP, .ref m_termV, .ref m_sumFrom, .ref m_sumMany, .int 0, .int 0, .int 0, .int 0, .ref m_part, .ref m_fair, .ref m_heap, .ref m_pickTet, .ref m_pickEdge, .ref m_base, .ref m_baseM, .ref m_baseP, .ref m_rowsOf, .int 0, .ref m_grid, .ref m_times, .ref m_boxes, .ref m_cameFrom, .ref m_cameBy, .ref m_steps, .ref m_sides, .int 0, .int (-1), .ref m_next, .ref m_cube, .ref m_ways]))]) (hS : va_S (fun q : Nat => s.heap.size ≤ q) s.heap H locs) (ls : Array Slot) (hl : lv_has ls 7 [(4, .int 0), (3, .ref o0), (2, .ref m0), (1, .ref x0), (0, .ref b)]) : W p l e room_1 s m #[Value.ref b] below meth c H locs 82 28049 (lw_Z below #[Value.ref b] s) (F0 m 357 ls []) := by
  obtain ⟨hx, hb, hr, hml, hown, htb, hX, hbl, hlocks, hgv⟩ := id C0
  have hts := htb
  have hbA : ¬ (fun q : Nat => s.heap.size ≤ q) b := Nat.not_le.mpr hbl
  have hA : ∀ q : Nat, s.heap.size ≤ q → (fun q : Nat => s.heap.size ≤ q) q := fun _ h => h
  obtain ⟨y1, hy1⟩ : ∃ y : Int32, y = xs (1 : Int32).toNatClampNeg := ⟨_, rfl⟩
  obtain ⟨y2, hy2⟩ : ∃ y : Int32, y = xs (2 : Int32).toNatClampNeg := ⟨_, rfl⟩
  refine lv_aload_n hx hb dL_law_357 rfl (lv_at hl 3 rfl) ?_
  refine lv_aload_n hx hb dL_law_358 rfl (lv_at hl 4 rfl) ?_
  refine lv_iload hx hb dL_law_359 (lv_at hl 0 rfl) ?_
  refine lv_iconst (v := 1) hx hb dL_law_361 (by decide) ?_
  refine lv_iadd hx hb dL_law_362 ?_
  refine lv_topi (fun x_1 ex_1 => ?_)
  obtain rfl : x_1 = 1 := ex_1.trans (by first | rfl | decide)
  refine va_sld hx hb hX hbl hbA hS (by show ¬ (_ ∨ _); decide) dL_law_363 ?_
  refine lv_topi (fun x_2 ex_2 => ?_)
  obtain rfl : y1 = x_2 := hy1.trans ex_2.symm
  refine lv_aload_n hx hb dL_law_364 rfl (lv_at hl 4 rfl) ?_
  refine lv_iload hx hb dL_law_365 (lv_at hl 0 rfl) ?_
  refine lv_iconst (v := 2) hx hb dL_law_367 (by decide) ?_
  refine lv_iadd hx hb dL_law_368 ?_
  refine lv_topi (fun x_3 ex_3 => ?_)
  obtain rfl : x_3 = 2 := ex_3.trans (by first | rfl | decide)
  refine va_sld hx hb hX hbl hbA hS (by show ¬ (_ ∨ _); decide) dL_law_369 ?_
  refine lv_topi (fun x_4 ex_4 => ?_)
  obtain rfl : y2 = x_4 := hy2.trans ex_4.symm
  refine lv_aload_n hx hb dL_law_370 rfl (lv_at hl 1 rfl) ?_
  have zU : vx_Zq Bundle.tN "UNASSIGNED_STACK" Bundle.steD (fun q : Nat => s.heap.size ≤ q) s s.heap := vx_Zqof (hts (.laysStatic Bundle.tN "UNASSIGNED_STACK" Bundle.steD) (List.mem_of_getElem? (i := 1178) (by decide +kernel))) (hts (.initialized Bundle.tN) (List.mem_of_getElem? (i := 136) (by decide +kernel))) (flat_of_before _ hgv (Cond.isRef (.static Bundle.tN "UNASSIGNED_STACK" Bundle.steD)) (by decide +kernel)) (fun a h => Nat.not_le.mpr h)
  have zN : vx_Zq Bundle.tN "SUPPRESSED_SENTINEL" Bundle.listD (fun q : Nat => s.heap.size ≤ q) s s.heap := vx_Zqof (hts (.laysStatic Bundle.tN "SUPPRESSED_SENTINEL" Bundle.listD) (List.mem_of_getElem? (i := 1180) (by decide +kernel))) (hts (.initialized Bundle.tN) (List.mem_of_getElem? (i := 136) (by decide +kernel))) (flat_of_before _ hgv (Cond.isRef (.static Bundle.tN "SUPPRESSED_SENTINEL" Bundle.listD)) (by decide +kernel)) (fun a h => Nat.not_le.mpr h)
  obtain ⟨-, -, -, sa, -, -, -, -, -, hev⟩ := Cond.stringRef_spec (hK.1 10 _ rfl).2.1 (hts (.stringRef RX10 147 "no such TET or no such what") (List.mem_of_getElem? (i := 1190) (by decide +kernel)))
  have hstr : vk_R RX10 147 "no such TET or no such what" sa s := vk_R.of (hts (.stringRef RX10 147 "no such TET or no such what") (List.mem_of_getElem? (i := 1190) (by decide +kernel))) hev
  have hBw : nq_Bw s := ⟨va_Nw.of rfl (hts (.declares (Bundle.initS "java/lang/RuntimeException")) (List.mem_of_getElem? (i := 1155) (by decide +kernel))), va_Nw.of rfl (hts (.declares (Bundle.initS "java/lang/Exception")) (List.mem_of_getElem? (i := 1157) (by decide +kernel))), va_Nw.of rfl (hts (.declares (Bundle.initS Bundle.tN)) (List.mem_of_getElem? (i := 1159) (by decide +kernel))), va_Nw.of rfl (hts (.castable nq_N nq_N) (List.mem_of_getElem? (i := 1153) (by decide +kernel)))⟩
  have hPc := hP.sub (ws' := [(x0, .inr (10, [.ref xTape, .ref xReader, .ref xBag, .ref xBld, .ref xAng, .ref xSum, .ref xPik, .int 0, .ref xHan, .ref xIns, .ref xShr, .ref xSta, .ref xTur])), (xBag, .inr (1, [.ref bC, .ref bS, .ref bX, .ref bW, .ref bP, .int 0]))]) [0, 1] rfl
  have hDc := hD.sub (ws' := [(x0, .inr (10, [.ref xTape, .ref xReader, .ref xBag, .ref xBld, .ref xAng, .ref xSum, .ref xPik, .int 0, .ref xHan, .ref xIns, .ref xShr, .ref xSta, .ref xTur])), (xBag, .inr (1, [.ref bC, .ref bS, .ref bX, .ref bW, .ref bP, .int 0]))]) [0, 1] (by decide) rfl
  have hFc := va_free (wc := [(x0, .inr (10, [.ref xTape, .ref xReader, .ref xBag, .ref xBld, .ref xAng, .ref xSum, .ref xPik, .int 0, .ref xHan, .ref xIns, .ref xShr, .ref xSta, .ref xTur])), (xBag, .inr (1, [.ref bC, .ref bS, .ref bX, .ref bW, .ref bP, .int 0]))]) hD hS hA [0, 1] rfl
  refine vx_calli (vx_runSX (hh := [(0, 10, 13, 13)]) (As := [.ref x0, .int y1, .int y2, .ref o0]) (rest := []) ⟨hx, hb, hml, hown, hts⟩ (c_L_tet l hst dC dI cB cI cJ H.size x0 xTape xReader xBag xBld xAng xSum xPik xHan xIns xShr xSta xTur bC bS bX bW bP o0 y1 y2 sa) (vx_cwSW 4 hts nq_g3 rfl rfl rfl (by decide +kernel) ⟨Nat.le_of_ble_eq_true rfl, Nat.le_of_ble_eq_true rfl⟩) ⟨fun a U g mk q => by obtain ⟨q0, q1, qP, qK, qD, qs, qU, qN, qB⟩ := q; exact ⟨q0, q1, qP, va_K.moved (u := U) (U := U.calling g mk a) (Vm.Alike.refl U.vm) qK, qD, vk_R.same rfl qs, vx_Zq.moved (u := U) (U := U.calling g mk a) (Vm.Alike.refl U.vm) qU, vx_Zq.moved (u := U) (U := U.calling g mk a) (Vm.Alike.refl U.vm) qN, nq_Bw_same rfl qB⟩, fun U hU hW => ⟨rfl, by rw [hU], by rw [hU]; exact hPc, va_K.moved hW.alike hK, hDc.weaken (fun _ _ _ _ => trivial), vk_R.warm hW hstr, by rw [hU]; exact vx_Zq.moved hW.alike ((zU.kept hS.2.1).narrow hFc), by rw [hU]; exact vx_Zq.moved hW.alike ((zN.kept hS.2.1).narrow hFc), nq_Bw_warm hW hBw⟩⟩ rfl rfl hl.1 rfl (lv_room (Nat.le_of_ble_eq_true rfl)) dL_law_371 ⟨Nat.le_of_ble_eq_true rfl, Nat.le_of_ble_eq_true rfl⟩) hS (fun q _ h => hFc q h) hFc (fun q _ h => hFc q h) (fun E ce q9 u t H1 locs ht hal hpx hBX hsz9 hkp hS hce hcv hcl => hpx.elim) (fun r_1 u t H1 locs ht hvm hw hB hz1 hk1 hS => ?_)
  have hP1 : va_P (dC, dI) vwCl [] H1 := fun k q h => by simp at h
  have hD1 : va_D (va_A [(x0, .inr (10, [.ref xTape, .ref xReader, .ref xBag, .ref xBld, .ref xAng, .ref xSum, .ref xPik, .int 0, .ref xHan, .ref xIns, .ref xShr, .ref xSta, .ref xTur])), (xBag, .inr (1, [.ref bC, .ref bS, .ref bX, .ref bW, .ref bP, .int 0]))] H.size) [] := ⟨fun i j p q h => by simp at h, fun k q h => by simp at h⟩
  obtain ⟨hP, hD⟩ := va_join (wr := [(m0, .inr (11, [.int 0, .ref m_tape, .int 0, .int 0, .int 0, .ref m_read, .int 0, .int 0, .int 0, .ref m_tets, .int 0, .int 0, .int 0, .int 0, .int 0, .int 0, .int 0, .int 0, .ref m_primes, .ref m_often, .ref m_normal, .ref m_termM, .ref m_termP, .ref m_termV, .ref m_sumFrom, .ref m_sumMany, .int 0, .int 0, .int 0, .int 0, .ref m_part, .ref m_fair, .ref m_heap, .ref m_pickTet, .ref m_pickEdge, .ref m_base, .ref m_baseM, .ref m_baseP, .ref m_rowsOf, .int 0, .ref m_grid, .ref m_times, .ref m_boxes, .ref m_cameFrom, .ref m_cameBy, .ref m_steps, .ref m_sides, .int 0, .int (-1), .ref m_next, .ref m_cube, .ref m_ways]))]) (w1 := []) hP hD [0, 1] [2] rfl rfl (by decide) (by decide) hk1 hFc hP1 hD1
  generalize H1 = H at hP hS ⊢
  have hP : va_P (dC, dI) vwCl [(m0, .inr (11, [.int 0, .ref m_tape, .int 0, .int 0, .int 0, .ref m_read, .int 0, .int 0, .int 0, .ref m_tets, .int 0, .int 0, .int 0, .int 0, .int 0, .int 0, .int 0, .int 0, .ref m_primes, .ref m_often, .ref m_normal, .ref m_termM, .ref m_termP, .ref m_termV, .ref m_sumFrom, .ref m_sumMany, .int 0, .int 0, .int 0, .int 0, .ref m_part, .ref m_fair, .ref m_heap, .ref m_pickTet, .ref m_pickEdge, .ref m_base, .ref m_baseM, .ref m_baseP, .ref m_rowsOf, .int 0, .ref m_grid, .ref m_times, .ref m_boxes, .ref m_cameFrom, .ref m_cameBy, .ref m_steps, .ref m_sides, .int 0, .int (-1), .ref m_next, .ref m_cube, .ref m_ways]))] H := hP
  have hD : va_D (fun q : Nat => s.heap.size ≤ q) [(m0, .inr (11, [.int 0, .ref m_tape, .int 0, .int 0, .int 0, .ref m_read, .int 0, .int 0, .int 0, .ref m_tets, .int 0, .int 0, .int 0, .int 0, .int 0, .int 0, .int 0, .int 0, .ref m_primes, .ref m_often, .ref m_normal, .ref m_termM, .ref m_termP, .ref m_termV, .ref m_sumFrom, .ref m_sumMany, .int 0, .int 0, .int 0, .int 0, .ref m_part, .ref m_fair, .ref m_heap, .ref m_pickTet, .ref m_pickEdge, .ref m_base, .ref m_baseM, .ref m_baseP, .ref m_rowsOf, .int 0, .ref m_grid, .ref m_times, .ref m_boxes, .ref m_cameFrom, .ref m_cameBy, .ref m_steps, .ref m_sides, .int 0, .int (-1), .ref m_next, .ref m_cube, .ref m_ways]))] := hD
  refine W.widen (k := 83) (n := 28055) (Nat.le_of_ble_eq_true rfl) (Nat.le_of_ble_eq_true rfl) ?_
  obtain rfl : r_1 = 1 := hw
  refine lv_istore (lv' := [(5, .int 1), (4, .int 0), (3, .ref o0), (2, .ref m0), (1, .ref x0), (0, .ref b)]) hx hb dL_law_374 hl (by decide) rfl (fun ls hl => ?_)
  refine lv_aload_n hx hb dL_law_376 rfl (lv_at hl 3 rfl) ?_
  refine lv_aload_n hx hb dL_law_377 rfl (lv_at hl 5 rfl) ?_
  refine lv_iload hx hb dL_law_378 (lv_at hl 1 rfl) ?_
  refine lv_iconst (v := 1) hx hb dL_law_380 (by decide) ?_
  refine lv_iadd hx hb dL_law_381 ?_
  refine lv_topi (fun x_5 ex_5 => ?_)
  obtain rfl : x_5 = 1 := ex_5.trans (by first | rfl | decide)
  refine va_sld hx hb hX hbl hbA hS (by show ¬ (_ ∨ _); decide) dL_law_382 ?_
  refine lv_topi (fun x_6 ex_6 => ?_)
  obtain rfl : y1 = x_6 := hy1.trans ex_6.symm
  refine lv_aload_n hx hb dL_law_383 rfl (lv_at hl 5 rfl) ?_
  refine lv_iload hx hb dL_law_384 (lv_at hl 1 rfl) ?_
  refine lv_iconst (v := 2) hx hb dL_law_386 (by decide) ?_
  refine lv_iadd hx hb dL_law_387 ?_
  refine lv_topi (fun x_7 ex_7 => ?_)
  obtain rfl : x_7 = 2 := ex_7.trans (by first | rfl | decide)
  refine va_sld hx hb hX hbl hbA hS (by show ¬ (_ ∨ _); decide) dL_law_388 ?_
  refine lv_topi (fun x_8 ex_8 => ?_)
  obtain rfl : y2 = x_8 := hy2.trans ex_8.symm
  have hPc := hP.sub (ws' := [(m0, .inr (11, [.int 0, .ref m_tape, .int 0, .int 0, .int 0, .ref m_read, .int 0, .int 0, .int 0, .ref m_tets, .int 0, .int 0, .int 0, .int 0, .int 0, .int 0, .int 0, .int 0, .ref m_primes, .ref m_often, .ref m_normal, .ref m_termM, .ref m_termP, .ref m_termV, .ref m_sumFrom, .ref m_sumMany, .int 0, .int 0, .int 0, .int 0, .ref m_part, .ref m_fair, .ref m_heap, .ref m_pickTet, .ref m_pickEdge, .ref m_base, .ref m_baseM, .ref m_baseP, .ref m_rowsOf, .int 0, .ref m_grid, .ref m_times, .ref m_boxes, .ref m_cameFrom, .ref m_cameBy, .ref m_steps, .ref m_sides, .int 0, .int (-1), .ref m_next, .ref m_cube, .ref m_ways]))]) [0] rfl
  have hDc := hD.sub (ws' := [(m0, .inr (11, [.int 0, .ref m_tape, .int 0, .int 0, .int 0, .ref m_read, .int 0, .int 0, .int 0, .ref m_tets, .int 0, .int 0, .int 0, .int 0, .int 0, .int 0, .int 0, .int 0, .ref m_primes, .ref m_often, .ref m_normal, .ref m_termM, .ref m_termP, .ref m_termV, .ref m_sumFrom, .ref m_sumMany, .int 0, .int 0, .int 0, .int 0, .ref m_part, .ref m_fair, .ref m_heap, .ref m_pickTet, .ref m_pickEdge, .ref m_base, .ref m_baseM, .ref m_baseP, .ref m_rowsOf, .int 0, .ref m_grid, .ref m_times, .ref m_boxes, .ref m_cameFrom, .ref m_cameBy, .ref m_steps, .ref m_sides, .int 0, .int (-1), .ref m_next, .ref m_cube, .ref m_ways]))]) [0] (by decide) rfl
  have hFc := va_free (wc := [(m0, .inr (11, [.int 0, .ref m_tape, .int 0, .int 0, .int 0, .ref m_read, .int 0, .int 0, .int 0, .ref m_tets, .int 0, .int 0, .int 0, .int 0, .int 0, .int 0, .int 0, .int 0, .ref m_primes, .ref m_often, .ref m_normal, .ref m_termM, .ref m_termP, .ref m_termV, .ref m_sumFrom, .ref m_sumMany, .int 0, .int 0, .int 0, .int 0, .ref m_part, .ref m_fair, .ref m_heap, .ref m_pickTet, .ref m_pickEdge, .ref m_base, .ref m_baseM, .ref m_baseP, .ref m_rowsOf, .int 0, .ref m_grid, .ref m_times, .ref m_boxes, .ref m_cameFrom, .ref m_cameBy, .ref m_steps, .ref m_sides, .int 0, .int (-1), .ref m_next, .ref m_cube, .ref m_ways]))]) hD hS hA [0] rfl
  refine va_calli (va_runV (As := [.int y1, .int y2]) (rest := []) ⟨hx, hb, hml, hown, hts⟩ (c_X11_tet l dC dI cB cI cJ H.size m0 m_tape m_read m_tets m_primes m_often m_normal m_termM m_termP m_termV m_sumFrom m_sumMany m_part m_fair m_heap m_pickTet m_pickEdge m_base m_baseM m_baseP m_rowsOf m_grid m_times m_boxes m_cameFrom m_cameBy m_steps m_sides m_next m_cube m_ways y1 y2) (cwV 2 hts hL_law_X11_tet rfl rfl rfl (by decide +kernel) ⟨Nat.le_of_ble_eq_true rfl, Nat.le_of_ble_eq_true rfl⟩) ⟨fun a U g mk q => by obtain ⟨q0, q1, qP, qK, qD⟩ := q; exact ⟨q0, q1, qP, va_K.moved (u := U) (U := U.calling g mk a) (Vm.Alike.refl U.vm) qK, qD⟩, va_recv hK hP (ci := 11) (q0 := 0) rfl rfl, fun U hU hW => ⟨rfl, by rw [hU], by rw [hU]; exact hPc, va_K.moved hW.alike hK, hDc.weaken (fun _ _ _ _ => trivial)⟩⟩ rfl rfl hl.1 rfl (lv_room (Nat.le_of_ble_eq_true rfl)) dL_law_389 ⟨Nat.le_of_ble_eq_true rfl, Nat.le_of_ble_eq_true rfl⟩) hS (fun q _ h => hFc q h) hFc (fun r_9 u t H1 locs ht hvm hw hB hz1 hk1 hS => ?_)
  obtain ⟨hP1, hK1, hD1⟩ := hB
  rw [ht] at hP1
  obtain ⟨hP, hD⟩ := va_join (wr := []) (w1 := [(m0, .inr (11, [.int 1, .ref m_tape, .int 0, .int 0, .int 0, .ref m_read, .int 0, .int 0, .int 0, .ref m_tets, .int 0, .int 0, .int 0, .int 0, .int 0, .int 0, .int 0, .int 0, .ref m_primes, .ref m_often, .ref m_normal, .ref m_termM, .ref m_termP, .ref m_termV, .ref m_sumFrom, .ref m_sumMany, .int 0, .int 0, .int 0, .int 0, .ref m_part, .ref m_fair, .ref m_heap, .ref m_pickTet, .ref m_pickEdge, .ref m_base, .ref m_baseM, .ref m_baseP, .ref m_rowsOf, .int 0, .ref m_grid, .ref m_times, .ref m_boxes, .ref m_cameFrom, .ref m_cameBy, .ref m_steps, .ref m_sides, .int 0, .int (-1), .ref m_next, .ref m_cube, .ref m_ways]))]) hP hD [0] [] rfl rfl (by decide) (by decide) hk1 hFc hP1 hD1
  generalize H1 = H at hP hS ⊢
  have hP : va_P (dC, dI) vwCl [(m0, .inr (11, [.int 1, .ref m_tape, .int 0, .int 0, .int 0, .ref m_read, .int 0, .int 0, .int 0, .ref m_tets, .int 0, .int 0, .int 0, .int 0, .int 0, .int 0, .int 0, .int 0, .ref m_primes, .ref m_often, .ref m_normal, .ref m_termM, .ref m_termP, .ref m_termV, .ref m_sumFrom, .ref m_sumMany, .int 0, .int 0, .int 0, .int 0, .ref m_part, .ref m_fair, .ref m_heap, .ref m_pickTet, .ref m_pickEdge, .ref m_base, .ref m_baseM, .ref m_baseP, .ref m_rowsOf, .int 0, .ref m_grid, .ref m_times, .ref m_boxes, .ref m_cameFrom, .ref m_cameBy, .ref m_steps, .ref m_sides, .int 0, .int (-1), .ref m_next, .ref m_cube, .ref m_ways]))] H := hP
  have hD : va_D (fun q : Nat => s.heap.size ≤ q) [(m0, .inr (11, [.int 1, .ref m_tape, .int 0, .int 0, .int 0, .ref m_read, .int 0, .int 0, .int 0, .ref m_tets, .int 0, .int 0, .int 0, .int 0, .int 0, .int 0, .int 0, .int 0, .ref m_primes, .ref m_often, .ref m_normal, .ref m_termM, .ref m_termP, .ref m_termV, .ref m_sumFrom, .ref m_sumMany, .int 0, .int 0, .int 0, .int 0, .ref m_part, .ref m_fair, .ref m_heap, .ref m_pickTet, .ref m_pickEdge, .ref m_base, .ref m_baseM, .ref m_baseP, .ref m_rowsOf, .int 0, .ref m_grid, .ref m_times, .ref m_boxes, .ref m_cameFrom, .ref m_cameBy, .ref m_steps, .ref m_sides, .int 0, .int (-1), .ref m_next, .ref m_cube, .ref m_ways]))] := hD
  have hr_9 := hw
  obtain rfl : r_9 = 0 := hr_9
  refine lv_istore (lv' := [(6, .int 0), (5, .int 1), (4, .int 0), (3, .ref o0), (2, .ref m0), (1, .ref x0), (0, .ref b)]) hx hb dL_law_392 hl (by decide) rfl (fun ls hl => ?_)
  refine lv_aload_n hx hb dL_law_394 rfl (lv_at hl 4 rfl) ?_
  have hPc := hP.sub (ws' := [(m0, .inr (11, [.int 1, .ref m_tape, .int 0, .int 0, .int 0, .ref m_read, .int 0, .int 0, .int 0, .ref m_tets, .int 0, .int 0, .int 0, .int 0, .int 0, .int 0, .int 0, .int 0, .ref m_primes, .ref m_often, .ref m_normal, .ref m_termM, .ref m_termP, .ref m_termV, .ref m_sumFrom, .ref m_sumMany, .int 0, .int 0, .int 0, .int 0, .ref m_part, .ref m_fair, .ref m_heap, .ref m_pickTet, .ref m_pickEdge, .ref m_base, .ref m_baseM, .ref m_baseP, .ref m_rowsOf, .int 0, .ref m_grid, .ref m_times, .ref m_boxes, .ref m_cameFrom, .ref m_cameBy, .ref m_steps, .ref m_sides, .int 0, .int (-1), .ref m_next, .ref m_cube, .ref m_ways]))]) [0] rfl
  have hDc := hD.sub (ws' := [(m0, .inr (11, [.int 1, .ref m_tape, .int 0, .int 0, .int 0, .ref m_read, .int 0, .int 0, .int 0, .ref m_tets, .int 0, .int 0, .int 0, .int 0, .int 0, .int 0, .int 0, .int 0, .ref m_primes, .ref m_often, .ref m_normal, .ref m_termM, .ref m_termP, .ref m_termV, .ref m_sumFrom, .ref m_sumMany, .int 0, .int 0, .int 0, .int 0, .ref m_part, .ref m_fair, .ref m_heap, .ref m_pickTet, .ref m_pickEdge, .ref m_base, .ref m_baseM, .ref m_baseP, .ref m_rowsOf, .int 0, .ref m_grid, .ref m_times, .ref m_boxes, .ref m_cameFrom, .ref m_cameBy, .ref m_steps, .ref m_sides, .int 0, .int (-1), .ref m_next, .ref m_cube, .ref m_ways]))]) [0] (by decide) rfl
  have hFc := va_free (wc := [(m0, .inr (11, [.int 1, .ref m_tape, .int 0, .int 0, .int 0, .ref m_read, .int 0, .int 0, .int 0, .ref m_tets, .int 0, .int 0, .int 0, .int 0, .int 0, .int 0, .int 0, .int 0, .ref m_primes, .ref m_often, .ref m_normal, .ref m_termM, .ref m_termP, .ref m_termV, .ref m_sumFrom, .ref m_sumMany, .int 0, .int 0, .int 0, .int 0, .ref m_part, .ref m_fair, .ref m_heap, .ref m_pickTet, .ref m_pickEdge, .ref m_base, .ref m_baseM, .ref m_baseP, .ref m_rowsOf, .int 0, .ref m_grid, .ref m_times, .ref m_boxes, .ref m_cameFrom, .ref m_cameBy, .ref m_steps, .ref m_sides, .int 0, .int (-1), .ref m_next, .ref m_cube, .ref m_ways]))]) hD hS hA [0] rfl
  refine va_calli (va_runV (As := []) (rest := []) ⟨hx, hb, hml, hown, hts⟩ (c_X11_thrown l dC dI cB cI cJ H.size m0 m_tape m_read m_tets m_primes m_often m_normal m_termM m_termP m_termV m_sumFrom m_sumMany m_part m_fair m_heap m_pickTet m_pickEdge m_base m_baseM m_baseP m_rowsOf m_grid m_times m_boxes m_cameFrom m_cameBy m_steps m_sides m_next m_cube m_ways) (cwV 0 hts hL_law_X11_thrown rfl rfl rfl (by decide +kernel) ⟨Nat.le_of_ble_eq_true rfl, Nat.le_of_ble_eq_true rfl⟩) ⟨fun a U g mk q => by obtain ⟨q0, q1, qP, qK, qD⟩ := q; exact ⟨q0, q1, qP, va_K.moved (u := U) (U := U.calling g mk a) (Vm.Alike.refl U.vm) qK, qD⟩, va_recv hK hP (ci := 11) (q0 := 0) rfl rfl, fun U hU hW => ⟨rfl, by rw [hU], by rw [hU]; exact hPc, va_K.moved hW.alike hK, hDc.weaken (fun _ _ _ _ => trivial)⟩⟩ rfl rfl hl.1 rfl (lv_room (Nat.le_of_ble_eq_true rfl)) dL_law_395 ⟨Nat.le_of_ble_eq_true rfl, Nat.le_of_ble_eq_true rfl⟩) hS (fun q _ h => hFc q h) hFc (fun r_10 u t H1 locs ht hvm hw hB hz1 hk1 hS => ?_)
  obtain ⟨hP1, hK1, hD1⟩ := hB
  rw [ht] at hP1
  obtain ⟨hP, hD⟩ := va_join (wr := []) (w1 := [(m0, .inr (11, [.int 1, .ref m_tape, .int 0, .int 0, .int 0, .ref m_read, .int 0, .int 0, .int 0, .ref m_tets, .int 0, .int 0, .int 0, .int 0, .int 0, .int 0, .int 0, .int 0, .ref m_primes, .ref m_often, .ref m_normal, .ref m_termM, .ref m_termP, .ref m_termV, .ref m_sumFrom, .ref m_sumMany, .int 0, .int 0, .int 0, .int 0, .ref m_part, .ref m_fair, .ref m_heap, .ref m_pickTet, .ref m_pickEdge, .ref m_base, .ref m_baseM, .ref m_baseP, .ref m_rowsOf, .int 0, .ref m_grid, .ref m_times, .ref m_boxes, .ref m_cameFrom, .ref m_cameBy, .ref m_steps, .ref m_sides, .int 0, .int (-1), .ref m_next, .ref m_cube, .ref m_ways]))]) hP hD [0] [] rfl rfl (by decide) (by decide) hk1 hFc hP1 hD1
  generalize H1 = H at hP hS ⊢
  have hP : va_P (dC, dI) vwCl [(m0, .inr (11, [.int 1, .ref m_tape, .int 0, .int 0, .int 0, .ref m_read, .int 0, .int 0, .int 0, .ref m_tets, .int 0, .int 0, .int 0, .int 0, .int 0, .int 0, .int 0, .int 0, .ref m_primes, .ref m_often, .ref m_normal, .ref m_termM, .ref m_termP, .ref m_termV, .ref m_sumFrom, .ref m_sumMany, .int 0, .int 0, .int 0, .int 0, .ref m_part, .ref m_fair, .ref m_heap, .ref m_pickTet, .ref m_pickEdge, .ref m_base, .ref m_baseM, .ref m_baseP, .ref m_rowsOf, .int 0, .ref m_grid, .ref m_times, .ref m_boxes, .ref m_cameFrom, .ref m_cameBy, .ref m_steps, .ref m_sides, .int 0, .int (-1), .ref m_next, .ref m_cube, .ref m_ways]))] H := hP
  have hD : va_D (fun q : Nat => s.heap.size ≤ q) [(m0, .inr (11, [.int 1, .ref m_tape, .int 0, .int 0, .int 0, .ref m_read, .int 0, .int 0, .int 0, .ref m_tets, .int 0, .int 0, .int 0, .int 0, .int 0, .int 0, .int 0, .int 0, .ref m_primes, .ref m_often, .ref m_normal, .ref m_termM, .ref m_termP, .ref m_termV, .ref m_sumFrom, .ref m_sumMany, .int 0, .int 0, .int 0, .int 0, .ref m_part, .ref m_fair, .ref m_heap, .ref m_pickTet, .ref m_pickEdge, .ref m_base, .ref m_baseM, .ref m_baseP, .ref m_rowsOf, .int 0, .ref m_grid, .ref m_times, .ref m_boxes, .ref m_cameFrom, .ref m_cameBy, .ref m_steps, .ref m_sides, .int 0, .int (-1), .ref m_next, .ref m_cube, .ref m_ways]))] := hD
  have hr_10 := hw
  obtain rfl : r_10 = 1 := hr_10
  refine lv_iload hx hb dL_law_398 (lv_at hl 1 rfl) ?_
  refine lv_icmp_eq (tgt := 405) hx hb dL_law_400 (by decide) (fun _ => ?_) (fun c => absurd (by decide) c)
  refine lv_iload hx hb dL_law_405 (lv_at hl 1 rfl) ?_
  refine lv_if_ne (tgt := 422) hx hb dL_law_407 (by decide) (fun _ => ?_) (fun c => absurd c (by decide))
  refine lv_goto (tgt := 1744) hx hb dL_law_422 (by decide) ?_
  refine W.widen (k := 600002) (n := 7302232) (Nat.le_of_ble_eq_true rfl) (Nat.le_of_ble_eq_true rfl) ?_
  exact la_end l C0 H _ hS ls (lv_sub hl [2, 3, 4, 5, 6] rfl)
set_option maxHeartbeats 8000000 in
set_option maxRecDepth 100000 in
theorem la_6 {p : Program} {e : Env} {s : State} {m : MethodId} {below : List Frame} {meth : Method} {c : Code} (l : Launch) {b : Nat} {xs : Nat → Int32} (C0 : lw_At p s m meth c b 7 xs) (dC : Nat → ClassId) (dI : Nat → Nat → Nat) (cB cI cJ : ClassId) {x0 xTape xReader xBag xBld xAng xSum xPik xHan xIns xShr xSta xTur bC bS bX bW bP m0 m_tape m_read m_tets m_primes m_often m_normal m_termM m_termP m_termV m_sumFrom m_sumMany m_part m_fair m_heap m_pickTet m_pickEdge m_base m_baseM m_baseP m_rowsOf m_grid m_times m_boxes m_cameFrom m_cameBy m_steps m_sides m_next m_cube m_ways o0 : Nat} (H : Heap) (locs : List Loc) (hK : va_K (dC, dI) vwCl [(cB, .byte), (cI, .int), (cJ, .long)] s) (hP : va_P (dC, dI) vwCl [(x0, .inr (10, [.ref xTape, .ref xReader, .ref xBag, .ref xBld, .ref xAng, .ref xSum, .ref xPik, .int 0, .ref xHan, .ref xIns, .ref xShr, .ref xSta, .ref xTur])), (xBag, .inr (1, [.ref bC, .ref bS, .ref bX, .ref bW, .ref bP, .int 0])), (m0, .inr (11, [.int 0, .ref m_tape, .int 0, .int 0, .int 0, .ref m_read, .int 0, .int 0, .int 0, .ref m_tets, .int 0, .int 0, .int 0, .int 0, .int 0, .int 0, .int 0, .int 0, .ref m_primes, .ref m_often, .ref m_normal, .ref m_termM, .ref m_termP, .ref m_termV, .ref m_sumFrom, .ref m_sumMany, .int 0, .int 0, .int 0, .int 0, .ref m_part, .ref m_fair, .ref m_heap, .ref m_pickTet, .ref m_pickEdge, .ref m_base, .ref m_baseM, .ref m_baseP, .ref m_rowsOf, .int 0, .ref m_grid, .ref m_times, .ref m_boxes, .ref m_cameFrom, .ref m_cameBy, .ref m_steps, .ref m_sides, .int 0, .int (-1), .ref m_next, .ref m_cube, .ref m_ways]))] H) (hD : va_D (fun q : Nat => s.heap.size ≤ q) [(x0, .inr (10, [.ref xTape, .ref xReader, .ref xBag, .ref xBld, .ref xAng, .ref xSum, .ref xPik, .int 0, .ref xHan, .ref xIns, .ref xShr, .ref xSta, .ref xTur])), (xBag, .inr (1, [.ref bC, .ref bS, .ref bX, .ref bW, .ref bP, .int 0])), (m0, .inr (11, [.int 0, .ref m_tape, .int 0, .int 0, .int 0, .ref m_read, .int 0, .int 0, .int 0, .ref m_tets, .int 0, .int 0, .int 0, .int 0, .int 0, .int 0, .int 0, .int 0, .ref m_primes, .ref m_often, .ref m_normal, .ref m_termM, .ref m_termP, .ref m_termV, .ref m_sumFrom, .ref m_sumMany, .int 0, .int 0, .int 0, .int 0, .ref m_part, .ref m_fair, .ref m_heap, .ref m_pickTet, .ref m_pickEdge, .ref m_base, .ref m_baseM, .ref m_baseP, .ref m_rowsOf, .int 0, .ref m_grid, .ref m_times, .ref m_boxes, .ref m_cameFrom, .ref m_cameBy, .ref m_steps, .ref m_sides, .int 0, .int (-1), .ref m_next, .ref m_cube, .ref m_ways]))]) (hS : va_S (fun q : Nat => s.heap.size ≤ q) s.heap H locs) (ls : Array Slot) (hl : lv_has ls 7 [(4, .int 0), (3, .ref o0), (2, .ref m0), (1, .ref x0), (0, .ref b)]) : W p l e room_1 s m #[Value.ref b] below meth c H locs 82 28049 (lw_Z below #[Value.ref b] s) (F0 m 425 ls []) := by
  obtain ⟨hx, hb, hr, hml, hown, htb, hX, hbl, hlocks, hgv⟩ := id C0
  have hts := htb
  have hbA : ¬ (fun q : Nat => s.heap.size ≤ q) b := Nat.not_le.mpr hbl
  have hA : ∀ q : Nat, s.heap.size ≤ q → (fun q : Nat => s.heap.size ≤ q) q := fun _ h => h
  obtain ⟨y1, hy1⟩ : ∃ y : Int32, y = xs (1 : Int32).toNatClampNeg := ⟨_, rfl⟩
  obtain ⟨y2, hy2⟩ : ∃ y : Int32, y = xs (2 : Int32).toNatClampNeg := ⟨_, rfl⟩
  obtain ⟨y3, hy3⟩ : ∃ y : Int32, y = xs (3 : Int32).toNatClampNeg := ⟨_, rfl⟩
  refine lv_aload_n hx hb dL_law_425 rfl (lv_at hl 3 rfl) ?_
  refine lv_aload_n hx hb dL_law_426 rfl (lv_at hl 4 rfl) ?_
  refine lv_iload hx hb dL_law_427 (lv_at hl 0 rfl) ?_
  refine lv_iconst (v := 1) hx hb dL_law_429 (by decide) ?_
  refine lv_iadd hx hb dL_law_430 ?_
  refine lv_topi (fun x_1 ex_1 => ?_)
  obtain rfl : x_1 = 1 := ex_1.trans (by first | rfl | decide)
  refine va_sld hx hb hX hbl hbA hS (by show ¬ (_ ∨ _); decide) dL_law_431 ?_
  refine lv_topi (fun x_2 ex_2 => ?_)
  obtain rfl : y1 = x_2 := hy1.trans ex_2.symm
  refine lv_aload_n hx hb dL_law_432 rfl (lv_at hl 4 rfl) ?_
  refine lv_iload hx hb dL_law_433 (lv_at hl 0 rfl) ?_
  refine lv_iconst (v := 2) hx hb dL_law_435 (by decide) ?_
  refine lv_iadd hx hb dL_law_436 ?_
  refine lv_topi (fun x_3 ex_3 => ?_)
  obtain rfl : x_3 = 2 := ex_3.trans (by first | rfl | decide)
  refine va_sld hx hb hX hbl hbA hS (by show ¬ (_ ∨ _); decide) dL_law_437 ?_
  refine lv_topi (fun x_4 ex_4 => ?_)
  obtain rfl : y2 = x_4 := hy2.trans ex_4.symm
  refine lv_aload_n hx hb dL_law_438 rfl (lv_at hl 4 rfl) ?_
  refine lv_iload hx hb dL_law_439 (lv_at hl 0 rfl) ?_
  refine lv_iconst (v := 3) hx hb dL_law_441 (by decide) ?_
  refine lv_iadd hx hb dL_law_442 ?_
  refine lv_topi (fun x_5 ex_5 => ?_)
  obtain rfl : x_5 = 3 := ex_5.trans (by first | rfl | decide)
  refine va_sld hx hb hX hbl hbA hS (by show ¬ (_ ∨ _); decide) dL_law_443 ?_
  refine lv_topi (fun x_6 ex_6 => ?_)
  obtain rfl : y3 = x_6 := hy3.trans ex_6.symm
  have hPc := hP.sub (ws' := [(x0, .inr (10, [.ref xTape, .ref xReader, .ref xBag, .ref xBld, .ref xAng, .ref xSum, .ref xPik, .int 0, .ref xHan, .ref xIns, .ref xShr, .ref xSta, .ref xTur])), (xBag, .inr (1, [.ref bC, .ref bS, .ref bX, .ref bW, .ref bP, .int 0]))]) [0, 1] rfl
  have hDc := hD.sub (ws' := [(x0, .inr (10, [.ref xTape, .ref xReader, .ref xBag, .ref xBld, .ref xAng, .ref xSum, .ref xPik, .int 0, .ref xHan, .ref xIns, .ref xShr, .ref xSta, .ref xTur])), (xBag, .inr (1, [.ref bC, .ref bS, .ref bX, .ref bW, .ref bP, .int 0]))]) [0, 1] (by decide) rfl
  have hFc := va_free (wc := [(x0, .inr (10, [.ref xTape, .ref xReader, .ref xBag, .ref xBld, .ref xAng, .ref xSum, .ref xPik, .int 0, .ref xHan, .ref xIns, .ref xShr, .ref xSta, .ref xTur])), (xBag, .inr (1, [.ref bC, .ref bS, .ref bX, .ref bW, .ref bP, .int 0]))]) hD hS hA [0, 1] rfl
  refine va_calli (va_runV (As := [.int y1, .int y2, .int y3]) (rest := []) ⟨hx, hb, hml, hown, hts⟩ (c_X10_corner l dC dI cB cI cJ H.size x0 xTape xReader xBag xBld xAng xSum xPik xHan xIns xShr xSta xTur bC bS bX bW bP y1 y2 y3) (cwV 3 hts hL_law_X10_corner rfl rfl rfl (by decide +kernel) ⟨Nat.le_of_ble_eq_true rfl, Nat.le_of_ble_eq_true rfl⟩) ⟨fun a U g mk q => by obtain ⟨q0, q1, qP, qK, qD⟩ := q; exact ⟨q0, q1, qP, va_K.moved (u := U) (U := U.calling g mk a) (Vm.Alike.refl U.vm) qK, qD⟩, va_recv hK hP (ci := 10) (q0 := 0) rfl rfl, fun U hU hW => ⟨rfl, by rw [hU], by rw [hU]; exact hPc, va_K.moved hW.alike hK, hDc.weaken (fun _ _ _ _ => trivial)⟩⟩ rfl rfl hl.1 rfl (lv_room (Nat.le_of_ble_eq_true rfl)) dL_law_444 ⟨Nat.le_of_ble_eq_true rfl, Nat.le_of_ble_eq_true rfl⟩) hS (fun q _ h => hFc q h) hFc (fun r_7 u t H1 locs ht hvm hw hB hz1 hk1 hS => ?_)
  have hP1 : va_P (dC, dI) vwCl [] H1 := fun k q h => by simp at h
  have hD1 : va_D (va_A [(x0, .inr (10, [.ref xTape, .ref xReader, .ref xBag, .ref xBld, .ref xAng, .ref xSum, .ref xPik, .int 0, .ref xHan, .ref xIns, .ref xShr, .ref xSta, .ref xTur])), (xBag, .inr (1, [.ref bC, .ref bS, .ref bX, .ref bW, .ref bP, .int 0]))] H.size) [] := ⟨fun i j p q h => by simp at h, fun k q h => by simp at h⟩
  obtain ⟨hP, hD⟩ := va_join (wr := [(m0, .inr (11, [.int 0, .ref m_tape, .int 0, .int 0, .int 0, .ref m_read, .int 0, .int 0, .int 0, .ref m_tets, .int 0, .int 0, .int 0, .int 0, .int 0, .int 0, .int 0, .int 0, .ref m_primes, .ref m_often, .ref m_normal, .ref m_termM, .ref m_termP, .ref m_termV, .ref m_sumFrom, .ref m_sumMany, .int 0, .int 0, .int 0, .int 0, .ref m_part, .ref m_fair, .ref m_heap, .ref m_pickTet, .ref m_pickEdge, .ref m_base, .ref m_baseM, .ref m_baseP, .ref m_rowsOf, .int 0, .ref m_grid, .ref m_times, .ref m_boxes, .ref m_cameFrom, .ref m_cameBy, .ref m_steps, .ref m_sides, .int 0, .int (-1), .ref m_next, .ref m_cube, .ref m_ways]))]) (w1 := []) hP hD [0, 1] [2] rfl rfl (by decide) (by decide) hk1 hFc hP1 hD1
  generalize H1 = H at hP hS ⊢
  have hP : va_P (dC, dI) vwCl [(m0, .inr (11, [.int 0, .ref m_tape, .int 0, .int 0, .int 0, .ref m_read, .int 0, .int 0, .int 0, .ref m_tets, .int 0, .int 0, .int 0, .int 0, .int 0, .int 0, .int 0, .int 0, .ref m_primes, .ref m_often, .ref m_normal, .ref m_termM, .ref m_termP, .ref m_termV, .ref m_sumFrom, .ref m_sumMany, .int 0, .int 0, .int 0, .int 0, .ref m_part, .ref m_fair, .ref m_heap, .ref m_pickTet, .ref m_pickEdge, .ref m_base, .ref m_baseM, .ref m_baseP, .ref m_rowsOf, .int 0, .ref m_grid, .ref m_times, .ref m_boxes, .ref m_cameFrom, .ref m_cameBy, .ref m_steps, .ref m_sides, .int 0, .int (-1), .ref m_next, .ref m_cube, .ref m_ways]))] H := hP
  have hD : va_D (fun q : Nat => s.heap.size ≤ q) [(m0, .inr (11, [.int 0, .ref m_tape, .int 0, .int 0, .int 0, .ref m_read, .int 0, .int 0, .int 0, .ref m_tets, .int 0, .int 0, .int 0, .int 0, .int 0, .int 0, .int 0, .int 0, .ref m_primes, .ref m_often, .ref m_normal, .ref m_termM, .ref m_termP, .ref m_termV, .ref m_sumFrom, .ref m_sumMany, .int 0, .int 0, .int 0, .int 0, .ref m_part, .ref m_fair, .ref m_heap, .ref m_pickTet, .ref m_pickEdge, .ref m_base, .ref m_baseM, .ref m_baseP, .ref m_rowsOf, .int 0, .ref m_grid, .ref m_times, .ref m_boxes, .ref m_cameFrom, .ref m_cameBy, .ref m_steps, .ref m_sides, .int 0, .int (-1), .ref m_next, .ref m_cube, .ref m_ways]))] := hD
  have hr_7 := hw
  obtain rfl : r_7 = (-1000000) := hr_7
  refine lv_aload_n hx hb dL_law_447 rfl (lv_at hl 2 rfl) ?_
  refine lv_aload_n hx hb dL_law_448 rfl (lv_at hl 4 rfl) ?_
  refine lv_iload hx hb dL_law_449 (lv_at hl 0 rfl) ?_
  refine lv_iconst (v := 1) hx hb dL_law_451 (by decide) ?_
  refine lv_iadd hx hb dL_law_452 ?_
  refine lv_topi (fun x_8 ex_8 => ?_)
  obtain rfl : x_8 = 1 := ex_8.trans (by first | rfl | decide)
  refine va_sld hx hb hX hbl hbA hS (by show ¬ (_ ∨ _); decide) dL_law_453 ?_
  refine lv_topi (fun x_9 ex_9 => ?_)
  obtain rfl : y1 = x_9 := hy1.trans ex_9.symm
  refine lv_aload_n hx hb dL_law_454 rfl (lv_at hl 4 rfl) ?_
  refine lv_iload hx hb dL_law_455 (lv_at hl 0 rfl) ?_
  refine lv_iconst (v := 2) hx hb dL_law_457 (by decide) ?_
  refine lv_iadd hx hb dL_law_458 ?_
  refine lv_topi (fun x_10 ex_10 => ?_)
  obtain rfl : x_10 = 2 := ex_10.trans (by first | rfl | decide)
  refine va_sld hx hb hX hbl hbA hS (by show ¬ (_ ∨ _); decide) dL_law_459 ?_
  refine lv_topi (fun x_11 ex_11 => ?_)
  obtain rfl : y2 = x_11 := hy2.trans ex_11.symm
  refine lv_aload_n hx hb dL_law_460 rfl (lv_at hl 4 rfl) ?_
  refine lv_iload hx hb dL_law_461 (lv_at hl 0 rfl) ?_
  refine lv_iconst (v := 3) hx hb dL_law_463 (by decide) ?_
  refine lv_iadd hx hb dL_law_464 ?_
  refine lv_topi (fun x_12 ex_12 => ?_)
  obtain rfl : x_12 = 3 := ex_12.trans (by first | rfl | decide)
  refine va_sld hx hb hX hbl hbA hS (by show ¬ (_ ∨ _); decide) dL_law_465 ?_
  refine lv_topi (fun x_13 ex_13 => ?_)
  obtain rfl : y3 = x_13 := hy3.trans ex_13.symm
  have hPc := hP.sub (ws' := [(m0, .inr (11, [.int 0, .ref m_tape, .int 0, .int 0, .int 0, .ref m_read, .int 0, .int 0, .int 0, .ref m_tets, .int 0, .int 0, .int 0, .int 0, .int 0, .int 0, .int 0, .int 0, .ref m_primes, .ref m_often, .ref m_normal, .ref m_termM, .ref m_termP, .ref m_termV, .ref m_sumFrom, .ref m_sumMany, .int 0, .int 0, .int 0, .int 0, .ref m_part, .ref m_fair, .ref m_heap, .ref m_pickTet, .ref m_pickEdge, .ref m_base, .ref m_baseM, .ref m_baseP, .ref m_rowsOf, .int 0, .ref m_grid, .ref m_times, .ref m_boxes, .ref m_cameFrom, .ref m_cameBy, .ref m_steps, .ref m_sides, .int 0, .int (-1), .ref m_next, .ref m_cube, .ref m_ways]))]) [0] rfl
  have hDc := hD.sub (ws' := [(m0, .inr (11, [.int 0, .ref m_tape, .int 0, .int 0, .int 0, .ref m_read, .int 0, .int 0, .int 0, .ref m_tets, .int 0, .int 0, .int 0, .int 0, .int 0, .int 0, .int 0, .int 0, .ref m_primes, .ref m_often, .ref m_normal, .ref m_termM, .ref m_termP, .ref m_termV, .ref m_sumFrom, .ref m_sumMany, .int 0, .int 0, .int 0, .int 0, .ref m_part, .ref m_fair, .ref m_heap, .ref m_pickTet, .ref m_pickEdge, .ref m_base, .ref m_baseM, .ref m_baseP, .ref m_rowsOf, .int 0, .ref m_grid, .ref m_times, .ref m_boxes, .ref m_cameFrom, .ref m_cameBy, .ref m_steps, .ref m_sides, .int 0, .int (-1), .ref m_next, .ref m_cube, .ref m_ways]))]) [0] (by decide) rfl
  have hFc := va_free (wc := [(m0, .inr (11, [.int 0, .ref m_tape, .int 0, .int 0, .int 0, .ref m_read, .int 0, .int 0, .int 0, .ref m_tets, .int 0, .int 0, .int 0, .int 0, .int 0, .int 0, .int 0, .int 0, .ref m_primes, .ref m_often, .ref m_normal, .ref m_termM, .ref m_termP, .ref m_termV, .ref m_sumFrom, .ref m_sumMany, .int 0, .int 0, .int 0, .int 0, .ref m_part, .ref m_fair, .ref m_heap, .ref m_pickTet, .ref m_pickEdge, .ref m_base, .ref m_baseM, .ref m_baseP, .ref m_rowsOf, .int 0, .ref m_grid, .ref m_times, .ref m_boxes, .ref m_cameFrom, .ref m_cameBy, .ref m_steps, .ref m_sides, .int 0, .int (-1), .ref m_next, .ref m_cube, .ref m_ways]))]) hD hS hA [0] rfl
  refine va_calli (va_runV (As := [.int y1, .int y2, .int y3]) (rest := [.int (-1000000)]) ⟨hx, hb, hml, hown, hts⟩ (c_X11_corner l dC dI cB cI cJ H.size m0 m_tape m_read m_tets m_primes m_often m_normal m_termM m_termP m_termV m_sumFrom m_sumMany m_part m_fair m_heap m_pickTet m_pickEdge m_base m_baseM m_baseP m_rowsOf m_grid m_times m_boxes m_cameFrom m_cameBy m_steps m_sides m_next m_cube m_ways y1 y2 y3) (cwV 3 hts hL_law_X11_corner rfl rfl rfl (by decide +kernel) ⟨Nat.le_of_ble_eq_true rfl, Nat.le_of_ble_eq_true rfl⟩) ⟨fun a U g mk q => by obtain ⟨q0, q1, qP, qK, qD⟩ := q; exact ⟨q0, q1, qP, va_K.moved (u := U) (U := U.calling g mk a) (Vm.Alike.refl U.vm) qK, qD⟩, va_recv hK hP (ci := 11) (q0 := 0) rfl rfl, fun U hU hW => ⟨rfl, by rw [hU], by rw [hU]; exact hPc, va_K.moved hW.alike hK, hDc.weaken (fun _ _ _ _ => trivial)⟩⟩ rfl rfl hl.1 rfl (lv_room (Nat.le_of_ble_eq_true rfl)) dL_law_466 ⟨Nat.le_of_ble_eq_true rfl, Nat.le_of_ble_eq_true rfl⟩) hS (fun q _ h => hFc q h) hFc (fun r_14 u t H1 locs ht hvm hw hB hz1 hk1 hS => ?_)
  have hP1 : va_P (dC, dI) vwCl [] H1 := fun k q h => by simp at h
  have hD1 : va_D (va_A [(m0, .inr (11, [.int 0, .ref m_tape, .int 0, .int 0, .int 0, .ref m_read, .int 0, .int 0, .int 0, .ref m_tets, .int 0, .int 0, .int 0, .int 0, .int 0, .int 0, .int 0, .int 0, .ref m_primes, .ref m_often, .ref m_normal, .ref m_termM, .ref m_termP, .ref m_termV, .ref m_sumFrom, .ref m_sumMany, .int 0, .int 0, .int 0, .int 0, .ref m_part, .ref m_fair, .ref m_heap, .ref m_pickTet, .ref m_pickEdge, .ref m_base, .ref m_baseM, .ref m_baseP, .ref m_rowsOf, .int 0, .ref m_grid, .ref m_times, .ref m_boxes, .ref m_cameFrom, .ref m_cameBy, .ref m_steps, .ref m_sides, .int 0, .int (-1), .ref m_next, .ref m_cube, .ref m_ways]))] H.size) [] := ⟨fun i j p q h => by simp at h, fun k q h => by simp at h⟩
  obtain ⟨hP, hD⟩ := va_join (wr := []) (w1 := []) hP hD [0] [] rfl rfl (by decide) (by decide) hk1 hFc hP1 hD1
  generalize H1 = H at hP hS ⊢
  have hP : va_P (dC, dI) vwCl [] H := hP
  have hD : va_D (fun q : Nat => s.heap.size ≤ q) [] := hD
  have hr_14 := hw
  obtain rfl : r_14 = (-1000000) := hr_14
  refine lv_icmp_eq (tgt := 1744) hx hb dL_law_469 (by decide) (fun _ => ?_) (fun c => absurd (by decide) c)
  refine W.widen (k := 600002) (n := 7302232) (Nat.le_of_ble_eq_true rfl) (Nat.le_of_ble_eq_true rfl) ?_
  exact la_end l C0 H _ hS ls hl
set_option maxHeartbeats 8000000 in
set_option maxRecDepth 100000 in
theorem la_7 {p : Program} {e : Env} {s : State} {m : MethodId} {below : List Frame} {meth : Method} {c : Code} (l : Launch) {b : Nat} {xs : Nat → Int32} (C0 : lw_At p s m meth c b 7 xs) (dC : Nat → ClassId) (dI : Nat → Nat → Nat) (cB cI cJ : ClassId) {x0 xTape xReader xBag xBld xAng xSum xPik xHan xIns xShr xSta xTur bC bS bX bW bP m0 m_tape m_read m_tets m_primes m_often m_normal m_termM m_termP m_termV m_sumFrom m_sumMany m_part m_fair m_heap m_pickTet m_pickEdge m_base m_baseM m_baseP m_rowsOf m_grid m_times m_boxes m_cameFrom m_cameBy m_steps m_sides m_next m_cube m_ways o0 : Nat} (H : Heap) (locs : List Loc) (hK : va_K (dC, dI) vwCl [(cB, .byte), (cI, .int), (cJ, .long)] s) (hP : va_P (dC, dI) vwCl [(x0, .inr (10, [.ref xTape, .ref xReader, .ref xBag, .ref xBld, .ref xAng, .ref xSum, .ref xPik, .int 0, .ref xHan, .ref xIns, .ref xShr, .ref xSta, .ref xTur])), (xBag, .inr (1, [.ref bC, .ref bS, .ref bX, .ref bW, .ref bP, .int 0])), (m0, .inr (11, [.int 0, .ref m_tape, .int 0, .int 0, .int 0, .ref m_read, .int 0, .int 0, .int 0, .ref m_tets, .int 0, .int 0, .int 0, .int 0, .int 0, .int 0, .int 0, .int 0, .ref m_primes, .ref m_often, .ref m_normal, .ref m_termM, .ref m_termP, .ref m_termV, .ref m_sumFrom, .ref m_sumMany, .int 0, .int 0, .int 0, .int 0, .ref m_part, .ref m_fair, .ref m_heap, .ref m_pickTet, .ref m_pickEdge, .ref m_base, .ref m_baseM, .ref m_baseP, .ref m_rowsOf, .int 0, .ref m_grid, .ref m_times, .ref m_boxes, .ref m_cameFrom, .ref m_cameBy, .ref m_steps, .ref m_sides, .int 0, .int (-1), .ref m_next, .ref m_cube, .ref m_ways]))] H) (hD : va_D (fun q : Nat => s.heap.size ≤ q) [(x0, .inr (10, [.ref xTape, .ref xReader, .ref xBag, .ref xBld, .ref xAng, .ref xSum, .ref xPik, .int 0, .ref xHan, .ref xIns, .ref xShr, .ref xSta, .ref xTur])), (xBag, .inr (1, [.ref bC, .ref bS, .ref bX, .ref bW, .ref bP, .int 0])), (m0, .inr (11, [.int 0, .ref m_tape, .int 0, .int 0, .int 0, .ref m_read, .int 0, .int 0, .int 0, .ref m_tets, .int 0, .int 0, .int 0, .int 0, .int 0, .int 0, .int 0, .int 0, .ref m_primes, .ref m_often, .ref m_normal, .ref m_termM, .ref m_termP, .ref m_termV, .ref m_sumFrom, .ref m_sumMany, .int 0, .int 0, .int 0, .int 0, .ref m_part, .ref m_fair, .ref m_heap, .ref m_pickTet, .ref m_pickEdge, .ref m_base, .ref m_baseM, .ref m_baseP, .ref m_rowsOf, .int 0, .ref m_grid, .ref m_times, .ref m_boxes, .ref m_cameFrom, .ref m_cameBy, .ref m_steps, .ref m_sides, .int 0, .int (-1), .ref m_next, .ref m_cube, .ref m_ways]))]) (hS : va_S (fun q : Nat => s.heap.size ≤ q) s.heap H locs) (ls : Array Slot) (hl : lv_has ls 7 [(4, .int 0), (3, .ref o0), (2, .ref m0), (1, .ref x0), (0, .ref b)]) : W p l e room_1 s m #[Value.ref b] below meth c H locs 82 28049 (lw_Z below #[Value.ref b] s) (F0 m 474 ls []) := by
  obtain ⟨hx, hb, hr, hml, hown, htb, hX, hbl, hlocks, hgv⟩ := id C0
  have hts := htb
  have hbA : ¬ (fun q : Nat => s.heap.size ≤ q) b := Nat.not_le.mpr hbl
  have hA : ∀ q : Nat, s.heap.size ≤ q → (fun q : Nat => s.heap.size ≤ q) q := fun _ h => h
  obtain ⟨y1, hy1⟩ : ∃ y : Int32, y = xs (1 : Int32).toNatClampNeg := ⟨_, rfl⟩
  obtain ⟨y2, hy2⟩ : ∃ y : Int32, y = xs (2 : Int32).toNatClampNeg := ⟨_, rfl⟩
  obtain ⟨y3, hy3⟩ : ∃ y : Int32, y = xs (3 : Int32).toNatClampNeg := ⟨_, rfl⟩
  refine lv_aload_n hx hb dL_law_474 rfl (lv_at hl 3 rfl) ?_
  refine lv_aload_n hx hb dL_law_475 rfl (lv_at hl 4 rfl) ?_
  refine lv_iload hx hb dL_law_476 (lv_at hl 0 rfl) ?_
  refine lv_iconst (v := 1) hx hb dL_law_478 (by decide) ?_
  refine lv_iadd hx hb dL_law_479 ?_
  refine lv_topi (fun x_1 ex_1 => ?_)
  obtain rfl : x_1 = 1 := ex_1.trans (by first | rfl | decide)
  refine va_sld hx hb hX hbl hbA hS (by show ¬ (_ ∨ _); decide) dL_law_480 ?_
  refine lv_topi (fun x_2 ex_2 => ?_)
  obtain rfl : y1 = x_2 := hy1.trans ex_2.symm
  refine lv_aload_n hx hb dL_law_481 rfl (lv_at hl 4 rfl) ?_
  refine lv_iload hx hb dL_law_482 (lv_at hl 0 rfl) ?_
  refine lv_iconst (v := 2) hx hb dL_law_484 (by decide) ?_
  refine lv_iadd hx hb dL_law_485 ?_
  refine lv_topi (fun x_3 ex_3 => ?_)
  obtain rfl : x_3 = 2 := ex_3.trans (by first | rfl | decide)
  refine va_sld hx hb hX hbl hbA hS (by show ¬ (_ ∨ _); decide) dL_law_486 ?_
  refine lv_topi (fun x_4 ex_4 => ?_)
  obtain rfl : y2 = x_4 := hy2.trans ex_4.symm
  refine lv_aload_n hx hb dL_law_487 rfl (lv_at hl 4 rfl) ?_
  refine lv_iload hx hb dL_law_488 (lv_at hl 0 rfl) ?_
  refine lv_iconst (v := 3) hx hb dL_law_490 (by decide) ?_
  refine lv_iadd hx hb dL_law_491 ?_
  refine lv_topi (fun x_5 ex_5 => ?_)
  obtain rfl : x_5 = 3 := ex_5.trans (by first | rfl | decide)
  refine va_sld hx hb hX hbl hbA hS (by show ¬ (_ ∨ _); decide) dL_law_492 ?_
  refine lv_topi (fun x_6 ex_6 => ?_)
  obtain rfl : y3 = x_6 := hy3.trans ex_6.symm
  have hPc := hP.sub (ws' := [(x0, .inr (10, [.ref xTape, .ref xReader, .ref xBag, .ref xBld, .ref xAng, .ref xSum, .ref xPik, .int 0, .ref xHan, .ref xIns, .ref xShr, .ref xSta, .ref xTur])), (xBag, .inr (1, [.ref bC, .ref bS, .ref bX, .ref bW, .ref bP, .int 0]))]) [0, 1] rfl
  have hDc := hD.sub (ws' := [(x0, .inr (10, [.ref xTape, .ref xReader, .ref xBag, .ref xBld, .ref xAng, .ref xSum, .ref xPik, .int 0, .ref xHan, .ref xIns, .ref xShr, .ref xSta, .ref xTur])), (xBag, .inr (1, [.ref bC, .ref bS, .ref bX, .ref bW, .ref bP, .int 0]))]) [0, 1] (by decide) rfl
  have hFc := va_free (wc := [(x0, .inr (10, [.ref xTape, .ref xReader, .ref xBag, .ref xBld, .ref xAng, .ref xSum, .ref xPik, .int 0, .ref xHan, .ref xIns, .ref xShr, .ref xSta, .ref xTur])), (xBag, .inr (1, [.ref bC, .ref bS, .ref bX, .ref bW, .ref bP, .int 0]))]) hD hS hA [0, 1] rfl
  refine va_calli (va_runV (As := [.int y1, .int y2, .int y3]) (rest := []) ⟨hx, hb, hml, hown, hts⟩ (c_X10_edge l dC dI cB cI cJ H.size x0 xTape xReader xBag xBld xAng xSum xPik xHan xIns xShr xSta xTur bC bS bX bW bP y1 y2 y3) (cwV 3 hts hL_law_X10_edge rfl rfl rfl (by decide +kernel) ⟨Nat.le_of_ble_eq_true rfl, Nat.le_of_ble_eq_true rfl⟩) ⟨fun a U g mk q => by obtain ⟨q0, q1, qP, qK, qD⟩ := q; exact ⟨q0, q1, qP, va_K.moved (u := U) (U := U.calling g mk a) (Vm.Alike.refl U.vm) qK, qD⟩, va_recv hK hP (ci := 10) (q0 := 0) rfl rfl, fun U hU hW => ⟨rfl, by rw [hU], by rw [hU]; exact hPc, va_K.moved hW.alike hK, hDc.weaken (fun _ _ _ _ => trivial)⟩⟩ rfl rfl hl.1 rfl (lv_room (Nat.le_of_ble_eq_true rfl)) dL_law_493 ⟨Nat.le_of_ble_eq_true rfl, Nat.le_of_ble_eq_true rfl⟩) hS (fun q _ h => hFc q h) hFc (fun r_7 u t H1 locs ht hvm hw hB hz1 hk1 hS => ?_)
  have hP1 : va_P (dC, dI) vwCl [] H1 := fun k q h => by simp at h
  have hD1 : va_D (va_A [(x0, .inr (10, [.ref xTape, .ref xReader, .ref xBag, .ref xBld, .ref xAng, .ref xSum, .ref xPik, .int 0, .ref xHan, .ref xIns, .ref xShr, .ref xSta, .ref xTur])), (xBag, .inr (1, [.ref bC, .ref bS, .ref bX, .ref bW, .ref bP, .int 0]))] H.size) [] := ⟨fun i j p q h => by simp at h, fun k q h => by simp at h⟩
  obtain ⟨hP, hD⟩ := va_join (wr := [(m0, .inr (11, [.int 0, .ref m_tape, .int 0, .int 0, .int 0, .ref m_read, .int 0, .int 0, .int 0, .ref m_tets, .int 0, .int 0, .int 0, .int 0, .int 0, .int 0, .int 0, .int 0, .ref m_primes, .ref m_often, .ref m_normal, .ref m_termM, .ref m_termP, .ref m_termV, .ref m_sumFrom, .ref m_sumMany, .int 0, .int 0, .int 0, .int 0, .ref m_part, .ref m_fair, .ref m_heap, .ref m_pickTet, .ref m_pickEdge, .ref m_base, .ref m_baseM, .ref m_baseP, .ref m_rowsOf, .int 0, .ref m_grid, .ref m_times, .ref m_boxes, .ref m_cameFrom, .ref m_cameBy, .ref m_steps, .ref m_sides, .int 0, .int (-1), .ref m_next, .ref m_cube, .ref m_ways]))]) (w1 := []) hP hD [0, 1] [2] rfl rfl (by decide) (by decide) hk1 hFc hP1 hD1
  generalize H1 = H at hP hS ⊢
  have hP : va_P (dC, dI) vwCl [(m0, .inr (11, [.int 0, .ref m_tape, .int 0, .int 0, .int 0, .ref m_read, .int 0, .int 0, .int 0, .ref m_tets, .int 0, .int 0, .int 0, .int 0, .int 0, .int 0, .int 0, .int 0, .ref m_primes, .ref m_often, .ref m_normal, .ref m_termM, .ref m_termP, .ref m_termV, .ref m_sumFrom, .ref m_sumMany, .int 0, .int 0, .int 0, .int 0, .ref m_part, .ref m_fair, .ref m_heap, .ref m_pickTet, .ref m_pickEdge, .ref m_base, .ref m_baseM, .ref m_baseP, .ref m_rowsOf, .int 0, .ref m_grid, .ref m_times, .ref m_boxes, .ref m_cameFrom, .ref m_cameBy, .ref m_steps, .ref m_sides, .int 0, .int (-1), .ref m_next, .ref m_cube, .ref m_ways]))] H := hP
  have hD : va_D (fun q : Nat => s.heap.size ≤ q) [(m0, .inr (11, [.int 0, .ref m_tape, .int 0, .int 0, .int 0, .ref m_read, .int 0, .int 0, .int 0, .ref m_tets, .int 0, .int 0, .int 0, .int 0, .int 0, .int 0, .int 0, .int 0, .ref m_primes, .ref m_often, .ref m_normal, .ref m_termM, .ref m_termP, .ref m_termV, .ref m_sumFrom, .ref m_sumMany, .int 0, .int 0, .int 0, .int 0, .ref m_part, .ref m_fair, .ref m_heap, .ref m_pickTet, .ref m_pickEdge, .ref m_base, .ref m_baseM, .ref m_baseP, .ref m_rowsOf, .int 0, .ref m_grid, .ref m_times, .ref m_boxes, .ref m_cameFrom, .ref m_cameBy, .ref m_steps, .ref m_sides, .int 0, .int (-1), .ref m_next, .ref m_cube, .ref m_ways]))] := hD
  have hr_7 := hw
  obtain rfl : r_7 = (-1000000) := hr_7
  refine lv_aload_n hx hb dL_law_496 rfl (lv_at hl 2 rfl) ?_
  refine lv_aload_n hx hb dL_law_497 rfl (lv_at hl 4 rfl) ?_
  refine lv_iload hx hb dL_law_498 (lv_at hl 0 rfl) ?_
  refine lv_iconst (v := 1) hx hb dL_law_500 (by decide) ?_
  refine lv_iadd hx hb dL_law_501 ?_
  refine lv_topi (fun x_8 ex_8 => ?_)
  obtain rfl : x_8 = 1 := ex_8.trans (by first | rfl | decide)
  refine va_sld hx hb hX hbl hbA hS (by show ¬ (_ ∨ _); decide) dL_law_502 ?_
  refine lv_topi (fun x_9 ex_9 => ?_)
  obtain rfl : y1 = x_9 := hy1.trans ex_9.symm
  refine lv_aload_n hx hb dL_law_503 rfl (lv_at hl 4 rfl) ?_
  refine lv_iload hx hb dL_law_504 (lv_at hl 0 rfl) ?_
  refine lv_iconst (v := 2) hx hb dL_law_506 (by decide) ?_
  refine lv_iadd hx hb dL_law_507 ?_
  refine lv_topi (fun x_10 ex_10 => ?_)
  obtain rfl : x_10 = 2 := ex_10.trans (by first | rfl | decide)
  refine va_sld hx hb hX hbl hbA hS (by show ¬ (_ ∨ _); decide) dL_law_508 ?_
  refine lv_topi (fun x_11 ex_11 => ?_)
  obtain rfl : y2 = x_11 := hy2.trans ex_11.symm
  refine lv_aload_n hx hb dL_law_509 rfl (lv_at hl 4 rfl) ?_
  refine lv_iload hx hb dL_law_510 (lv_at hl 0 rfl) ?_
  refine lv_iconst (v := 3) hx hb dL_law_512 (by decide) ?_
  refine lv_iadd hx hb dL_law_513 ?_
  refine lv_topi (fun x_12 ex_12 => ?_)
  obtain rfl : x_12 = 3 := ex_12.trans (by first | rfl | decide)
  refine va_sld hx hb hX hbl hbA hS (by show ¬ (_ ∨ _); decide) dL_law_514 ?_
  refine lv_topi (fun x_13 ex_13 => ?_)
  obtain rfl : y3 = x_13 := hy3.trans ex_13.symm
  have hPc := hP.sub (ws' := [(m0, .inr (11, [.int 0, .ref m_tape, .int 0, .int 0, .int 0, .ref m_read, .int 0, .int 0, .int 0, .ref m_tets, .int 0, .int 0, .int 0, .int 0, .int 0, .int 0, .int 0, .int 0, .ref m_primes, .ref m_often, .ref m_normal, .ref m_termM, .ref m_termP, .ref m_termV, .ref m_sumFrom, .ref m_sumMany, .int 0, .int 0, .int 0, .int 0, .ref m_part, .ref m_fair, .ref m_heap, .ref m_pickTet, .ref m_pickEdge, .ref m_base, .ref m_baseM, .ref m_baseP, .ref m_rowsOf, .int 0, .ref m_grid, .ref m_times, .ref m_boxes, .ref m_cameFrom, .ref m_cameBy, .ref m_steps, .ref m_sides, .int 0, .int (-1), .ref m_next, .ref m_cube, .ref m_ways]))]) [0] rfl
  have hDc := hD.sub (ws' := [(m0, .inr (11, [.int 0, .ref m_tape, .int 0, .int 0, .int 0, .ref m_read, .int 0, .int 0, .int 0, .ref m_tets, .int 0, .int 0, .int 0, .int 0, .int 0, .int 0, .int 0, .int 0, .ref m_primes, .ref m_often, .ref m_normal, .ref m_termM, .ref m_termP, .ref m_termV, .ref m_sumFrom, .ref m_sumMany, .int 0, .int 0, .int 0, .int 0, .ref m_part, .ref m_fair, .ref m_heap, .ref m_pickTet, .ref m_pickEdge, .ref m_base, .ref m_baseM, .ref m_baseP, .ref m_rowsOf, .int 0, .ref m_grid, .ref m_times, .ref m_boxes, .ref m_cameFrom, .ref m_cameBy, .ref m_steps, .ref m_sides, .int 0, .int (-1), .ref m_next, .ref m_cube, .ref m_ways]))]) [0] (by decide) rfl
  have hFc := va_free (wc := [(m0, .inr (11, [.int 0, .ref m_tape, .int 0, .int 0, .int 0, .ref m_read, .int 0, .int 0, .int 0, .ref m_tets, .int 0, .int 0, .int 0, .int 0, .int 0, .int 0, .int 0, .int 0, .ref m_primes, .ref m_often, .ref m_normal, .ref m_termM, .ref m_termP, .ref m_termV, .ref m_sumFrom, .ref m_sumMany, .int 0, .int 0, .int 0, .int 0, .ref m_part, .ref m_fair, .ref m_heap, .ref m_pickTet, .ref m_pickEdge, .ref m_base, .ref m_baseM, .ref m_baseP, .ref m_rowsOf, .int 0, .ref m_grid, .ref m_times, .ref m_boxes, .ref m_cameFrom, .ref m_cameBy, .ref m_steps, .ref m_sides, .int 0, .int (-1), .ref m_next, .ref m_cube, .ref m_ways]))]) hD hS hA [0] rfl
  refine va_calli (va_runV (As := [.int y1, .int y2, .int y3]) (rest := [.int (-1000000)]) ⟨hx, hb, hml, hown, hts⟩ (c_X11_edge l dC dI cB cI cJ H.size m0 m_tape m_read m_tets m_primes m_often m_normal m_termM m_termP m_termV m_sumFrom m_sumMany m_part m_fair m_heap m_pickTet m_pickEdge m_base m_baseM m_baseP m_rowsOf m_grid m_times m_boxes m_cameFrom m_cameBy m_steps m_sides m_next m_cube m_ways y1 y2 y3) (cwV 3 hts hL_law_X11_edge rfl rfl rfl (by decide +kernel) ⟨Nat.le_of_ble_eq_true rfl, Nat.le_of_ble_eq_true rfl⟩) ⟨fun a U g mk q => by obtain ⟨q0, q1, qP, qK, qD⟩ := q; exact ⟨q0, q1, qP, va_K.moved (u := U) (U := U.calling g mk a) (Vm.Alike.refl U.vm) qK, qD⟩, va_recv hK hP (ci := 11) (q0 := 0) rfl rfl, fun U hU hW => ⟨rfl, by rw [hU], by rw [hU]; exact hPc, va_K.moved hW.alike hK, hDc.weaken (fun _ _ _ _ => trivial)⟩⟩ rfl rfl hl.1 rfl (lv_room (Nat.le_of_ble_eq_true rfl)) dL_law_515 ⟨Nat.le_of_ble_eq_true rfl, Nat.le_of_ble_eq_true rfl⟩) hS (fun q _ h => hFc q h) hFc (fun r_14 u t H1 locs ht hvm hw hB hz1 hk1 hS => ?_)
  have hP1 : va_P (dC, dI) vwCl [] H1 := fun k q h => by simp at h
  have hD1 : va_D (va_A [(m0, .inr (11, [.int 0, .ref m_tape, .int 0, .int 0, .int 0, .ref m_read, .int 0, .int 0, .int 0, .ref m_tets, .int 0, .int 0, .int 0, .int 0, .int 0, .int 0, .int 0, .int 0, .ref m_primes, .ref m_often, .ref m_normal, .ref m_termM, .ref m_termP, .ref m_termV, .ref m_sumFrom, .ref m_sumMany, .int 0, .int 0, .int 0, .int 0, .ref m_part, .ref m_fair, .ref m_heap, .ref m_pickTet, .ref m_pickEdge, .ref m_base, .ref m_baseM, .ref m_baseP, .ref m_rowsOf, .int 0, .ref m_grid, .ref m_times, .ref m_boxes, .ref m_cameFrom, .ref m_cameBy, .ref m_steps, .ref m_sides, .int 0, .int (-1), .ref m_next, .ref m_cube, .ref m_ways]))] H.size) [] := ⟨fun i j p q h => by simp at h, fun k q h => by simp at h⟩
  obtain ⟨hP, hD⟩ := va_join (wr := []) (w1 := []) hP hD [0] [] rfl rfl (by decide) (by decide) hk1 hFc hP1 hD1
  generalize H1 = H at hP hS ⊢
  have hP : va_P (dC, dI) vwCl [] H := hP
  have hD : va_D (fun q : Nat => s.heap.size ≤ q) [] := hD
  have hr_14 := hw
  obtain rfl : r_14 = (-1000000) := hr_14
  refine lv_icmp_eq (tgt := 1744) hx hb dL_law_518 (by decide) (fun _ => ?_) (fun c => absurd (by decide) c)
  refine W.widen (k := 600002) (n := 7302232) (Nat.le_of_ble_eq_true rfl) (Nat.le_of_ble_eq_true rfl) ?_
  exact la_end l C0 H _ hS ls hl
set_option maxHeartbeats 8000000 in
set_option maxRecDepth 100000 in
theorem la_8 {p : Program} {e : Env} {s : State} {m : MethodId} {below : List Frame} {meth : Method} {c : Code} (l : Launch) {b : Nat} {xs : Nat → Int32} (C0 : lw_At p s m meth c b 7 xs) (dC : Nat → ClassId) (dI : Nat → Nat → Nat) (cB cI cJ : ClassId) {x0 xTape xReader xBag xBld xAng xSum xPik xHan xIns xShr xSta xTur bC bS bX bW bP m0 m_tape m_read m_tets m_primes m_often m_normal m_termM m_termP m_termV m_sumFrom m_sumMany m_part m_fair m_heap m_pickTet m_pickEdge m_base m_baseM m_baseP m_rowsOf m_grid m_times m_boxes m_cameFrom m_cameBy m_steps m_sides m_next m_cube m_ways o0 : Nat} (H : Heap) (locs : List Loc) (hK : va_K (dC, dI) vwCl [(cB, .byte), (cI, .int), (cJ, .long)] s) (hP : va_P (dC, dI) vwCl [(x0, .inr (10, [.ref xTape, .ref xReader, .ref xBag, .ref xBld, .ref xAng, .ref xSum, .ref xPik, .int 0, .ref xHan, .ref xIns, .ref xShr, .ref xSta, .ref xTur])), (xBag, .inr (1, [.ref bC, .ref bS, .ref bX, .ref bW, .ref bP, .int 0])), (m0, .inr (11, [.int 0, .ref m_tape, .int 0, .int 0, .int 0, .ref m_read, .int 0, .int 0, .int 0, .ref m_tets, .int 0, .int 0, .int 0, .int 0, .int 0, .int 0, .int 0, .int 0, .ref m_primes, .ref m_often, .ref m_normal, .ref m_termM, .ref m_termP, .ref m_termV, .ref m_sumFrom, .ref m_sumMany, .int 0, .int 0, .int 0, .int 0, .ref m_part, .ref m_fair, .ref m_heap, .ref m_pickTet, .ref m_pickEdge, .ref m_base, .ref m_baseM, .ref m_baseP, .ref m_rowsOf, .int 0, .ref m_grid, .ref m_times, .ref m_boxes, .ref m_cameFrom, .ref m_cameBy, .ref m_steps, .ref m_sides, .int 0, .int (-1), .ref m_next, .ref m_cube, .ref m_ways]))] H) (hD : va_D (fun q : Nat => s.heap.size ≤ q) [(x0, .inr (10, [.ref xTape, .ref xReader, .ref xBag, .ref xBld, .ref xAng, .ref xSum, .ref xPik, .int 0, .ref xHan, .ref xIns, .ref xShr, .ref xSta, .ref xTur])), (xBag, .inr (1, [.ref bC, .ref bS, .ref bX, .ref bW, .ref bP, .int 0])), (m0, .inr (11, [.int 0, .ref m_tape, .int 0, .int 0, .int 0, .ref m_read, .int 0, .int 0, .int 0, .ref m_tets, .int 0, .int 0, .int 0, .int 0, .int 0, .int 0, .int 0, .int 0, .ref m_primes, .ref m_often, .ref m_normal, .ref m_termM, .ref m_termP, .ref m_termV, .ref m_sumFrom, .ref m_sumMany, .int 0, .int 0, .int 0, .int 0, .ref m_part, .ref m_fair, .ref m_heap, .ref m_pickTet, .ref m_pickEdge, .ref m_base, .ref m_baseM, .ref m_baseP, .ref m_rowsOf, .int 0, .ref m_grid, .ref m_times, .ref m_boxes, .ref m_cameFrom, .ref m_cameBy, .ref m_steps, .ref m_sides, .int 0, .int (-1), .ref m_next, .ref m_cube, .ref m_ways]))]) (hS : va_S (fun q : Nat => s.heap.size ≤ q) s.heap H locs) (ls : Array Slot) (hl : lv_has ls 7 [(4, .int 0), (3, .ref o0), (2, .ref m0), (1, .ref x0), (0, .ref b)]) : W p l e room_1 s m #[Value.ref b] below meth c H locs 82 28049 (lw_Z below #[Value.ref b] s) (F0 m 523 ls []) := by
  obtain ⟨hx, hb, hr, hml, hown, htb, hX, hbl, hlocks, hgv⟩ := id C0
  have hts := htb
  have hbA : ¬ (fun q : Nat => s.heap.size ≤ q) b := Nat.not_le.mpr hbl
  have hA : ∀ q : Nat, s.heap.size ≤ q → (fun q : Nat => s.heap.size ≤ q) q := fun _ h => h
  obtain ⟨y1, hy1⟩ : ∃ y : Int32, y = xs (1 : Int32).toNatClampNeg := ⟨_, rfl⟩
  obtain ⟨y2, hy2⟩ : ∃ y : Int32, y = xs (2 : Int32).toNatClampNeg := ⟨_, rfl⟩
  obtain ⟨y3, hy3⟩ : ∃ y : Int32, y = xs (3 : Int32).toNatClampNeg := ⟨_, rfl⟩
  obtain ⟨y4, hy4⟩ : ∃ y : Int32, y = xs (4 : Int32).toNatClampNeg := ⟨_, rfl⟩
  refine lv_aload_n hx hb dL_law_523 rfl (lv_at hl 3 rfl) ?_
  refine lv_aload_n hx hb dL_law_524 rfl (lv_at hl 4 rfl) ?_
  refine lv_iload hx hb dL_law_525 (lv_at hl 0 rfl) ?_
  refine lv_iconst (v := 1) hx hb dL_law_527 (by decide) ?_
  refine lv_iadd hx hb dL_law_528 ?_
  refine lv_topi (fun x_1 ex_1 => ?_)
  obtain rfl : x_1 = 1 := ex_1.trans (by first | rfl | decide)
  refine va_sld hx hb hX hbl hbA hS (by show ¬ (_ ∨ _); decide) dL_law_529 ?_
  refine lv_topi (fun x_2 ex_2 => ?_)
  obtain rfl : y1 = x_2 := hy1.trans ex_2.symm
  refine lv_aload_n hx hb dL_law_530 rfl (lv_at hl 4 rfl) ?_
  refine lv_iload hx hb dL_law_531 (lv_at hl 0 rfl) ?_
  refine lv_iconst (v := 2) hx hb dL_law_533 (by decide) ?_
  refine lv_iadd hx hb dL_law_534 ?_
  refine lv_topi (fun x_3 ex_3 => ?_)
  obtain rfl : x_3 = 2 := ex_3.trans (by first | rfl | decide)
  refine va_sld hx hb hX hbl hbA hS (by show ¬ (_ ∨ _); decide) dL_law_535 ?_
  refine lv_topi (fun x_4 ex_4 => ?_)
  obtain rfl : y2 = x_4 := hy2.trans ex_4.symm
  refine lv_aload_n hx hb dL_law_536 rfl (lv_at hl 4 rfl) ?_
  refine lv_iload hx hb dL_law_537 (lv_at hl 0 rfl) ?_
  refine lv_iconst (v := 3) hx hb dL_law_539 (by decide) ?_
  refine lv_iadd hx hb dL_law_540 ?_
  refine lv_topi (fun x_5 ex_5 => ?_)
  obtain rfl : x_5 = 3 := ex_5.trans (by first | rfl | decide)
  refine va_sld hx hb hX hbl hbA hS (by show ¬ (_ ∨ _); decide) dL_law_541 ?_
  refine lv_topi (fun x_6 ex_6 => ?_)
  obtain rfl : y3 = x_6 := hy3.trans ex_6.symm
  refine lv_aload_n hx hb dL_law_542 rfl (lv_at hl 4 rfl) ?_
  refine lv_iload hx hb dL_law_543 (lv_at hl 0 rfl) ?_
  refine lv_iconst (v := 4) hx hb dL_law_545 (by decide) ?_
  refine lv_iadd hx hb dL_law_546 ?_
  refine lv_topi (fun x_7 ex_7 => ?_)
  obtain rfl : x_7 = 4 := ex_7.trans (by first | rfl | decide)
  refine va_sld hx hb hX hbl hbA hS (by show ¬ (_ ∨ _); decide) dL_law_547 ?_
  refine lv_topi (fun x_8 ex_8 => ?_)
  obtain rfl : y4 = x_8 := hy4.trans ex_8.symm
  have hPc := hP.sub (ws' := [(x0, .inr (10, [.ref xTape, .ref xReader, .ref xBag, .ref xBld, .ref xAng, .ref xSum, .ref xPik, .int 0, .ref xHan, .ref xIns, .ref xShr, .ref xSta, .ref xTur])), (xBag, .inr (1, [.ref bC, .ref bS, .ref bX, .ref bW, .ref bP, .int 0]))]) [0, 1] rfl
  have hDc := hD.sub (ws' := [(x0, .inr (10, [.ref xTape, .ref xReader, .ref xBag, .ref xBld, .ref xAng, .ref xSum, .ref xPik, .int 0, .ref xHan, .ref xIns, .ref xShr, .ref xSta, .ref xTur])), (xBag, .inr (1, [.ref bC, .ref bS, .ref bX, .ref bW, .ref bP, .int 0]))]) [0, 1] (by decide) rfl
  have hFc := va_free (wc := [(x0, .inr (10, [.ref xTape, .ref xReader, .ref xBag, .ref xBld, .ref xAng, .ref xSum, .ref xPik, .int 0, .ref xHan, .ref xIns, .ref xShr, .ref xSta, .ref xTur])), (xBag, .inr (1, [.ref bC, .ref bS, .ref bX, .ref bW, .ref bP, .int 0]))]) hD hS hA [0, 1] rfl
  refine va_calli (va_runV (As := [.int y1, .int y2, .int y3, .int y4]) (rest := []) ⟨hx, hb, hml, hown, hts⟩ (c_X10_prime l dC dI cB cI cJ H.size x0 xTape xReader xBag xBld xAng xSum xPik xHan xIns xShr xSta xTur bC bS bX bW bP y1 y2 y3 y4) (cwV 4 hts hL_law_X10_prime rfl rfl rfl (by decide +kernel) ⟨Nat.le_of_ble_eq_true rfl, Nat.le_of_ble_eq_true rfl⟩) ⟨fun a U g mk q => by obtain ⟨q0, q1, qP, qK, qD⟩ := q; exact ⟨q0, q1, qP, va_K.moved (u := U) (U := U.calling g mk a) (Vm.Alike.refl U.vm) qK, qD⟩, va_recv hK hP (ci := 10) (q0 := 0) rfl rfl, fun U hU hW => ⟨rfl, by rw [hU], by rw [hU]; exact hPc, va_K.moved hW.alike hK, hDc.weaken (fun _ _ _ _ => trivial)⟩⟩ rfl rfl hl.1 rfl (lv_room (Nat.le_of_ble_eq_true rfl)) dL_law_548 ⟨Nat.le_of_ble_eq_true rfl, Nat.le_of_ble_eq_true rfl⟩) hS (fun q _ h => hFc q h) hFc (fun r_9 u t H1 locs ht hvm hw hB hz1 hk1 hS => ?_)
  have hP1 : va_P (dC, dI) vwCl [] H1 := fun k q h => by simp at h
  have hD1 : va_D (va_A [(x0, .inr (10, [.ref xTape, .ref xReader, .ref xBag, .ref xBld, .ref xAng, .ref xSum, .ref xPik, .int 0, .ref xHan, .ref xIns, .ref xShr, .ref xSta, .ref xTur])), (xBag, .inr (1, [.ref bC, .ref bS, .ref bX, .ref bW, .ref bP, .int 0]))] H.size) [] := ⟨fun i j p q h => by simp at h, fun k q h => by simp at h⟩
  obtain ⟨hP, hD⟩ := va_join (wr := [(m0, .inr (11, [.int 0, .ref m_tape, .int 0, .int 0, .int 0, .ref m_read, .int 0, .int 0, .int 0, .ref m_tets, .int 0, .int 0, .int 0, .int 0, .int 0, .int 0, .int 0, .int 0, .ref m_primes, .ref m_often, .ref m_normal, .ref m_termM, .ref m_termP, .ref m_termV, .ref m_sumFrom, .ref m_sumMany, .int 0, .int 0, .int 0, .int 0, .ref m_part, .ref m_fair, .ref m_heap, .ref m_pickTet, .ref m_pickEdge, .ref m_base, .ref m_baseM, .ref m_baseP, .ref m_rowsOf, .int 0, .ref m_grid, .ref m_times, .ref m_boxes, .ref m_cameFrom, .ref m_cameBy, .ref m_steps, .ref m_sides, .int 0, .int (-1), .ref m_next, .ref m_cube, .ref m_ways]))]) (w1 := []) hP hD [0, 1] [2] rfl rfl (by decide) (by decide) hk1 hFc hP1 hD1
  generalize H1 = H at hP hS ⊢
  have hP : va_P (dC, dI) vwCl [(m0, .inr (11, [.int 0, .ref m_tape, .int 0, .int 0, .int 0, .ref m_read, .int 0, .int 0, .int 0, .ref m_tets, .int 0, .int 0, .int 0, .int 0, .int 0, .int 0, .int 0, .int 0, .ref m_primes, .ref m_often, .ref m_normal, .ref m_termM, .ref m_termP, .ref m_termV, .ref m_sumFrom, .ref m_sumMany, .int 0, .int 0, .int 0, .int 0, .ref m_part, .ref m_fair, .ref m_heap, .ref m_pickTet, .ref m_pickEdge, .ref m_base, .ref m_baseM, .ref m_baseP, .ref m_rowsOf, .int 0, .ref m_grid, .ref m_times, .ref m_boxes, .ref m_cameFrom, .ref m_cameBy, .ref m_steps, .ref m_sides, .int 0, .int (-1), .ref m_next, .ref m_cube, .ref m_ways]))] H := hP
  have hD : va_D (fun q : Nat => s.heap.size ≤ q) [(m0, .inr (11, [.int 0, .ref m_tape, .int 0, .int 0, .int 0, .ref m_read, .int 0, .int 0, .int 0, .ref m_tets, .int 0, .int 0, .int 0, .int 0, .int 0, .int 0, .int 0, .int 0, .ref m_primes, .ref m_often, .ref m_normal, .ref m_termM, .ref m_termP, .ref m_termV, .ref m_sumFrom, .ref m_sumMany, .int 0, .int 0, .int 0, .int 0, .ref m_part, .ref m_fair, .ref m_heap, .ref m_pickTet, .ref m_pickEdge, .ref m_base, .ref m_baseM, .ref m_baseP, .ref m_rowsOf, .int 0, .ref m_grid, .ref m_times, .ref m_boxes, .ref m_cameFrom, .ref m_cameBy, .ref m_steps, .ref m_sides, .int 0, .int (-1), .ref m_next, .ref m_cube, .ref m_ways]))] := hD
  have hr_9 := hw
  obtain rfl : r_9 = (-1000000) := hr_9
  refine lv_aload_n hx hb dL_law_551 rfl (lv_at hl 2 rfl) ?_
  refine lv_aload_n hx hb dL_law_552 rfl (lv_at hl 4 rfl) ?_
  refine lv_iload hx hb dL_law_553 (lv_at hl 0 rfl) ?_
  refine lv_iconst (v := 1) hx hb dL_law_555 (by decide) ?_
  refine lv_iadd hx hb dL_law_556 ?_
  refine lv_topi (fun x_10 ex_10 => ?_)
  obtain rfl : x_10 = 1 := ex_10.trans (by first | rfl | decide)
  refine va_sld hx hb hX hbl hbA hS (by show ¬ (_ ∨ _); decide) dL_law_557 ?_
  refine lv_topi (fun x_11 ex_11 => ?_)
  obtain rfl : y1 = x_11 := hy1.trans ex_11.symm
  refine lv_aload_n hx hb dL_law_558 rfl (lv_at hl 4 rfl) ?_
  refine lv_iload hx hb dL_law_559 (lv_at hl 0 rfl) ?_
  refine lv_iconst (v := 2) hx hb dL_law_561 (by decide) ?_
  refine lv_iadd hx hb dL_law_562 ?_
  refine lv_topi (fun x_12 ex_12 => ?_)
  obtain rfl : x_12 = 2 := ex_12.trans (by first | rfl | decide)
  refine va_sld hx hb hX hbl hbA hS (by show ¬ (_ ∨ _); decide) dL_law_563 ?_
  refine lv_topi (fun x_13 ex_13 => ?_)
  obtain rfl : y2 = x_13 := hy2.trans ex_13.symm
  refine lv_aload_n hx hb dL_law_564 rfl (lv_at hl 4 rfl) ?_
  refine lv_iload hx hb dL_law_565 (lv_at hl 0 rfl) ?_
  refine lv_iconst (v := 3) hx hb dL_law_567 (by decide) ?_
  refine lv_iadd hx hb dL_law_568 ?_
  refine lv_topi (fun x_14 ex_14 => ?_)
  obtain rfl : x_14 = 3 := ex_14.trans (by first | rfl | decide)
  refine va_sld hx hb hX hbl hbA hS (by show ¬ (_ ∨ _); decide) dL_law_569 ?_
  refine lv_topi (fun x_15 ex_15 => ?_)
  obtain rfl : y3 = x_15 := hy3.trans ex_15.symm
  refine lv_aload_n hx hb dL_law_570 rfl (lv_at hl 4 rfl) ?_
  refine lv_iload hx hb dL_law_571 (lv_at hl 0 rfl) ?_
  refine lv_iconst (v := 4) hx hb dL_law_573 (by decide) ?_
  refine lv_iadd hx hb dL_law_574 ?_
  refine lv_topi (fun x_16 ex_16 => ?_)
  obtain rfl : x_16 = 4 := ex_16.trans (by first | rfl | decide)
  refine va_sld hx hb hX hbl hbA hS (by show ¬ (_ ∨ _); decide) dL_law_575 ?_
  refine lv_topi (fun x_17 ex_17 => ?_)
  obtain rfl : y4 = x_17 := hy4.trans ex_17.symm
  have hPc := hP.sub (ws' := [(m0, .inr (11, [.int 0, .ref m_tape, .int 0, .int 0, .int 0, .ref m_read, .int 0, .int 0, .int 0, .ref m_tets, .int 0, .int 0, .int 0, .int 0, .int 0, .int 0, .int 0, .int 0, .ref m_primes, .ref m_often, .ref m_normal, .ref m_termM, .ref m_termP, .ref m_termV, .ref m_sumFrom, .ref m_sumMany, .int 0, .int 0, .int 0, .int 0, .ref m_part, .ref m_fair, .ref m_heap, .ref m_pickTet, .ref m_pickEdge, .ref m_base, .ref m_baseM, .ref m_baseP, .ref m_rowsOf, .int 0, .ref m_grid, .ref m_times, .ref m_boxes, .ref m_cameFrom, .ref m_cameBy, .ref m_steps, .ref m_sides, .int 0, .int (-1), .ref m_next, .ref m_cube, .ref m_ways]))]) [0] rfl
  have hDc := hD.sub (ws' := [(m0, .inr (11, [.int 0, .ref m_tape, .int 0, .int 0, .int 0, .ref m_read, .int 0, .int 0, .int 0, .ref m_tets, .int 0, .int 0, .int 0, .int 0, .int 0, .int 0, .int 0, .int 0, .ref m_primes, .ref m_often, .ref m_normal, .ref m_termM, .ref m_termP, .ref m_termV, .ref m_sumFrom, .ref m_sumMany, .int 0, .int 0, .int 0, .int 0, .ref m_part, .ref m_fair, .ref m_heap, .ref m_pickTet, .ref m_pickEdge, .ref m_base, .ref m_baseM, .ref m_baseP, .ref m_rowsOf, .int 0, .ref m_grid, .ref m_times, .ref m_boxes, .ref m_cameFrom, .ref m_cameBy, .ref m_steps, .ref m_sides, .int 0, .int (-1), .ref m_next, .ref m_cube, .ref m_ways]))]) [0] (by decide) rfl
  have hFc := va_free (wc := [(m0, .inr (11, [.int 0, .ref m_tape, .int 0, .int 0, .int 0, .ref m_read, .int 0, .int 0, .int 0, .ref m_tets, .int 0, .int 0, .int 0, .int 0, .int 0, .int 0, .int 0, .int 0, .ref m_primes, .ref m_often, .ref m_normal, .ref m_termM, .ref m_termP, .ref m_termV, .ref m_sumFrom, .ref m_sumMany, .int 0, .int 0, .int 0, .int 0, .ref m_part, .ref m_fair, .ref m_heap, .ref m_pickTet, .ref m_pickEdge, .ref m_base, .ref m_baseM, .ref m_baseP, .ref m_rowsOf, .int 0, .ref m_grid, .ref m_times, .ref m_boxes, .ref m_cameFrom, .ref m_cameBy, .ref m_steps, .ref m_sides, .int 0, .int (-1), .ref m_next, .ref m_cube, .ref m_ways]))]) hD hS hA [0] rfl
  refine va_calli (va_runV (As := [.int y1, .int y2, .int y3, .int y4]) (rest := [.int (-1000000)]) ⟨hx, hb, hml, hown, hts⟩ (c_X11_prime l dC dI cB cI cJ H.size m0 m_tape m_read m_tets m_primes m_often m_normal m_termM m_termP m_termV m_sumFrom m_sumMany m_part m_fair m_heap m_pickTet m_pickEdge m_base m_baseM m_baseP m_rowsOf m_grid m_times m_boxes m_cameFrom m_cameBy m_steps m_sides m_next m_cube m_ways y1 y2 y3 y4) (cwV 4 hts hL_law_X11_prime rfl rfl rfl (by decide +kernel) ⟨Nat.le_of_ble_eq_true rfl, Nat.le_of_ble_eq_true rfl⟩) ⟨fun a U g mk q => by obtain ⟨q0, q1, qP, qK, qD⟩ := q; exact ⟨q0, q1, qP, va_K.moved (u := U) (U := U.calling g mk a) (Vm.Alike.refl U.vm) qK, qD⟩, va_recv hK hP (ci := 11) (q0 := 0) rfl rfl, fun U hU hW => ⟨rfl, by rw [hU], by rw [hU]; exact hPc, va_K.moved hW.alike hK, hDc.weaken (fun _ _ _ _ => trivial)⟩⟩ rfl rfl hl.1 rfl (lv_room (Nat.le_of_ble_eq_true rfl)) dL_law_576 ⟨Nat.le_of_ble_eq_true rfl, Nat.le_of_ble_eq_true rfl⟩) hS (fun q _ h => hFc q h) hFc (fun r_18 u t H1 locs ht hvm hw hB hz1 hk1 hS => ?_)
  have hP1 : va_P (dC, dI) vwCl [] H1 := fun k q h => by simp at h
  have hD1 : va_D (va_A [(m0, .inr (11, [.int 0, .ref m_tape, .int 0, .int 0, .int 0, .ref m_read, .int 0, .int 0, .int 0, .ref m_tets, .int 0, .int 0, .int 0, .int 0, .int 0, .int 0, .int 0, .int 0, .ref m_primes, .ref m_often, .ref m_normal, .ref m_termM, .ref m_termP, .ref m_termV, .ref m_sumFrom, .ref m_sumMany, .int 0, .int 0, .int 0, .int 0, .ref m_part, .ref m_fair, .ref m_heap, .ref m_pickTet, .ref m_pickEdge, .ref m_base, .ref m_baseM, .ref m_baseP, .ref m_rowsOf, .int 0, .ref m_grid, .ref m_times, .ref m_boxes, .ref m_cameFrom, .ref m_cameBy, .ref m_steps, .ref m_sides, .int 0, .int (-1), .ref m_next, .ref m_cube, .ref m_ways]))] H.size) [] := ⟨fun i j p q h => by simp at h, fun k q h => by simp at h⟩
  obtain ⟨hP, hD⟩ := va_join (wr := []) (w1 := []) hP hD [0] [] rfl rfl (by decide) (by decide) hk1 hFc hP1 hD1
  generalize H1 = H at hP hS ⊢
  have hP : va_P (dC, dI) vwCl [] H := hP
  have hD : va_D (fun q : Nat => s.heap.size ≤ q) [] := hD
  have hr_18 := hw
  obtain rfl : r_18 = (-1000000) := hr_18
  refine lv_icmp_eq (tgt := 1744) hx hb dL_law_579 (by decide) (fun _ => ?_) (fun c => absurd (by decide) c)
  refine W.widen (k := 600002) (n := 7302232) (Nat.le_of_ble_eq_true rfl) (Nat.le_of_ble_eq_true rfl) ?_
  exact la_end l C0 H _ hS ls hl
set_option maxHeartbeats 8000000 in
set_option maxRecDepth 100000 in
theorem la_9 {p : Program} {e : Env} {s : State} {m : MethodId} {below : List Frame} {meth : Method} {c : Code} (l : Launch) {b : Nat} {xs : Nat → Int32} (C0 : lw_At p s m meth c b 7 xs) (dC : Nat → ClassId) (dI : Nat → Nat → Nat) (cB cI cJ : ClassId) {x0 xTape xReader xBag xBld xAng xSum xPik xHan xIns xShr xSta xTur bC bS bX bW bP sM sP sA m0 m_tape m_read m_tets m_primes m_often m_normal m_termM m_termP m_termV m_sumFrom m_sumMany m_part m_fair m_heap m_pickTet m_pickEdge m_base m_baseM m_baseP m_rowsOf m_grid m_times m_boxes m_cameFrom m_cameBy m_steps m_sides m_next m_cube m_ways o0 : Nat} (H : Heap) (locs : List Loc) (hK : va_K (dC, dI) vwCl [(cB, .byte), (cI, .int), (cJ, .long)] s) (hP : va_P (dC, dI) vwCl [(x0, .inr (10, [.ref xTape, .ref xReader, .ref xBag, .ref xBld, .ref xAng, .ref xSum, .ref xPik, .int 0, .ref xHan, .ref xIns, .ref xShr, .ref xSta, .ref xTur])), (xBag, .inr (1, [.ref bC, .ref bS, .ref bX, .ref bW, .ref bP, .int 0])), (xSum, .inr (8, [.ref sM, .ref sP, .ref sA, .int 0])), (m0, .inr (11, [.int 0, .ref m_tape, .int 0, .int 0, .int 0, .ref m_read, .int 0, .int 0, .int 0, .ref m_tets, .int 0, .int 0, .int 0, .int 0, .int 0, .int 0, .int 0, .int 0, .ref m_primes, .ref m_often, .ref m_normal, .ref m_termM, .ref m_termP, .ref m_termV, .ref m_sumFrom, .ref m_sumMany, .int 0, .int 0, .int 0, .int 0, .ref m_part, .ref m_fair, .ref m_heap, .ref m_pickTet, .ref m_pickEdge, .ref m_base, .ref m_baseM, .ref m_baseP, .ref m_rowsOf, .int 0, .ref m_grid, .ref m_times, .ref m_boxes, .ref m_cameFrom, .ref m_cameBy, .ref m_steps, .ref m_sides, .int 0, .int (-1), .ref m_next, .ref m_cube, .ref m_ways])), (m_sumFrom, .inl (cI, 6, (.inl (fun _ => 0)))), (m_sumMany, .inl (cI, 6, (.inl (fun _ => 0))))] H) (hD : va_D (fun q : Nat => s.heap.size ≤ q) [(x0, .inr (10, [.ref xTape, .ref xReader, .ref xBag, .ref xBld, .ref xAng, .ref xSum, .ref xPik, .int 0, .ref xHan, .ref xIns, .ref xShr, .ref xSta, .ref xTur])), (xBag, .inr (1, [.ref bC, .ref bS, .ref bX, .ref bW, .ref bP, .int 0])), (xSum, .inr (8, [.ref sM, .ref sP, .ref sA, .int 0])), (m0, .inr (11, [.int 0, .ref m_tape, .int 0, .int 0, .int 0, .ref m_read, .int 0, .int 0, .int 0, .ref m_tets, .int 0, .int 0, .int 0, .int 0, .int 0, .int 0, .int 0, .int 0, .ref m_primes, .ref m_often, .ref m_normal, .ref m_termM, .ref m_termP, .ref m_termV, .ref m_sumFrom, .ref m_sumMany, .int 0, .int 0, .int 0, .int 0, .ref m_part, .ref m_fair, .ref m_heap, .ref m_pickTet, .ref m_pickEdge, .ref m_base, .ref m_baseM, .ref m_baseP, .ref m_rowsOf, .int 0, .ref m_grid, .ref m_times, .ref m_boxes, .ref m_cameFrom, .ref m_cameBy, .ref m_steps, .ref m_sides, .int 0, .int (-1), .ref m_next, .ref m_cube, .ref m_ways])), (m_sumFrom, .inl (cI, 6, (.inl (fun _ => 0)))), (m_sumMany, .inl (cI, 6, (.inl (fun _ => 0))))]) (hS : va_S (fun q : Nat => s.heap.size ≤ q) s.heap H locs) (ls : Array Slot) (hl : lv_has ls 7 [(4, .int 0), (3, .ref o0), (2, .ref m0), (1, .ref x0), (0, .ref b)]) : W p l e room_1 s m #[Value.ref b] below meth c H locs 82 28049 (lw_Z below #[Value.ref b] s) (F0 m 584 ls []) := by
  obtain ⟨hx, hb, hr, hml, hown, htb, hX, hbl, hlocks, hgv⟩ := id C0
  have hts := htb
  have hbA : ¬ (fun q : Nat => s.heap.size ≤ q) b := Nat.not_le.mpr hbl
  have hA : ∀ q : Nat, s.heap.size ≤ q → (fun q : Nat => s.heap.size ≤ q) q := fun _ h => h
  obtain ⟨y1, hy1⟩ : ∃ y : Int32, y = xs (1 : Int32).toNatClampNeg := ⟨_, rfl⟩
  obtain ⟨y2, hy2⟩ : ∃ y : Int32, y = xs (2 : Int32).toNatClampNeg := ⟨_, rfl⟩
  refine lv_aload_n hx hb dL_law_584 rfl (lv_at hl 3 rfl) ?_
  refine lv_aload_n hx hb dL_law_585 rfl (lv_at hl 4 rfl) ?_
  refine lv_iload hx hb dL_law_586 (lv_at hl 0 rfl) ?_
  refine lv_iconst (v := 1) hx hb dL_law_588 (by decide) ?_
  refine lv_iadd hx hb dL_law_589 ?_
  refine lv_topi (fun x_1 ex_1 => ?_)
  obtain rfl : x_1 = 1 := ex_1.trans (by first | rfl | decide)
  refine va_sld hx hb hX hbl hbA hS (by show ¬ (_ ∨ _); decide) dL_law_590 ?_
  refine lv_topi (fun x_2 ex_2 => ?_)
  obtain rfl : y1 = x_2 := hy1.trans ex_2.symm
  refine lv_aload_n hx hb dL_law_591 rfl (lv_at hl 4 rfl) ?_
  refine lv_iload hx hb dL_law_592 (lv_at hl 0 rfl) ?_
  refine lv_iconst (v := 2) hx hb dL_law_594 (by decide) ?_
  refine lv_iadd hx hb dL_law_595 ?_
  refine lv_topi (fun x_3 ex_3 => ?_)
  obtain rfl : x_3 = 2 := ex_3.trans (by first | rfl | decide)
  refine va_sld hx hb hX hbl hbA hS (by show ¬ (_ ∨ _); decide) dL_law_596 ?_
  refine lv_topi (fun x_4 ex_4 => ?_)
  obtain rfl : y2 = x_4 := hy2.trans ex_4.symm
  have hPc := hP.sub (ws' := [(x0, .inr (10, [.ref xTape, .ref xReader, .ref xBag, .ref xBld, .ref xAng, .ref xSum, .ref xPik, .int 0, .ref xHan, .ref xIns, .ref xShr, .ref xSta, .ref xTur])), (xBag, .inr (1, [.ref bC, .ref bS, .ref bX, .ref bW, .ref bP, .int 0])), (xSum, .inr (8, [.ref sM, .ref sP, .ref sA, .int 0]))]) [0, 1, 2] rfl
  have hDc := hD.sub (ws' := [(x0, .inr (10, [.ref xTape, .ref xReader, .ref xBag, .ref xBld, .ref xAng, .ref xSum, .ref xPik, .int 0, .ref xHan, .ref xIns, .ref xShr, .ref xSta, .ref xTur])), (xBag, .inr (1, [.ref bC, .ref bS, .ref bX, .ref bW, .ref bP, .int 0])), (xSum, .inr (8, [.ref sM, .ref sP, .ref sA, .int 0]))]) [0, 1, 2] (by decide) rfl
  have hFc := va_free (wc := [(x0, .inr (10, [.ref xTape, .ref xReader, .ref xBag, .ref xBld, .ref xAng, .ref xSum, .ref xPik, .int 0, .ref xHan, .ref xIns, .ref xShr, .ref xSta, .ref xTur])), (xBag, .inr (1, [.ref bC, .ref bS, .ref bX, .ref bW, .ref bP, .int 0])), (xSum, .inr (8, [.ref sM, .ref sP, .ref sA, .int 0]))]) hD hS hA [0, 1, 2] rfl
  refine va_calli (va_runV (As := [.int y1, .int y2]) (rest := []) ⟨hx, hb, hml, hown, hts⟩ (c_X10_solid l dC dI cB cI cJ H.size x0 xTape xReader xBag xBld xAng xSum xPik xHan xIns xShr xSta xTur bC bS bX bW bP sM sP sA y1 y2) (cwV 2 hts hL_law_X10_solid rfl rfl rfl (by decide +kernel) ⟨Nat.le_of_ble_eq_true rfl, Nat.le_of_ble_eq_true rfl⟩) ⟨fun a U g mk q => by obtain ⟨q0, q1, qP, qK, qD⟩ := q; exact ⟨q0, q1, qP, va_K.moved (u := U) (U := U.calling g mk a) (Vm.Alike.refl U.vm) qK, qD⟩, va_recv hK hP (ci := 10) (q0 := 0) rfl rfl, fun U hU hW => ⟨rfl, by rw [hU], by rw [hU]; exact hPc, va_K.moved hW.alike hK, hDc.weaken (fun _ _ _ _ => trivial)⟩⟩ rfl rfl hl.1 rfl (lv_room (Nat.le_of_ble_eq_true rfl)) dL_law_597 ⟨Nat.le_of_ble_eq_true rfl, Nat.le_of_ble_eq_true rfl⟩) hS (fun q _ h => hFc q h) hFc (fun r_5 u t H1 locs ht hvm hw hB hz1 hk1 hS => ?_)
  have hP1 : va_P (dC, dI) vwCl [] H1 := fun k q h => by simp at h
  have hD1 : va_D (va_A [(x0, .inr (10, [.ref xTape, .ref xReader, .ref xBag, .ref xBld, .ref xAng, .ref xSum, .ref xPik, .int 0, .ref xHan, .ref xIns, .ref xShr, .ref xSta, .ref xTur])), (xBag, .inr (1, [.ref bC, .ref bS, .ref bX, .ref bW, .ref bP, .int 0])), (xSum, .inr (8, [.ref sM, .ref sP, .ref sA, .int 0]))] H.size) [] := ⟨fun i j p q h => by simp at h, fun k q h => by simp at h⟩
  obtain ⟨hP, hD⟩ := va_join (wr := [(m0, .inr (11, [.int 0, .ref m_tape, .int 0, .int 0, .int 0, .ref m_read, .int 0, .int 0, .int 0, .ref m_tets, .int 0, .int 0, .int 0, .int 0, .int 0, .int 0, .int 0, .int 0, .ref m_primes, .ref m_often, .ref m_normal, .ref m_termM, .ref m_termP, .ref m_termV, .ref m_sumFrom, .ref m_sumMany, .int 0, .int 0, .int 0, .int 0, .ref m_part, .ref m_fair, .ref m_heap, .ref m_pickTet, .ref m_pickEdge, .ref m_base, .ref m_baseM, .ref m_baseP, .ref m_rowsOf, .int 0, .ref m_grid, .ref m_times, .ref m_boxes, .ref m_cameFrom, .ref m_cameBy, .ref m_steps, .ref m_sides, .int 0, .int (-1), .ref m_next, .ref m_cube, .ref m_ways])), (m_sumFrom, .inl (cI, 6, (.inl (fun _ => 0)))), (m_sumMany, .inl (cI, 6, (.inl (fun _ => 0))))]) (w1 := []) hP hD [0, 1, 2] [3, 4, 5] rfl rfl (by decide) (by decide) hk1 hFc hP1 hD1
  generalize H1 = H at hP hS ⊢
  have hP : va_P (dC, dI) vwCl [(m0, .inr (11, [.int 0, .ref m_tape, .int 0, .int 0, .int 0, .ref m_read, .int 0, .int 0, .int 0, .ref m_tets, .int 0, .int 0, .int 0, .int 0, .int 0, .int 0, .int 0, .int 0, .ref m_primes, .ref m_often, .ref m_normal, .ref m_termM, .ref m_termP, .ref m_termV, .ref m_sumFrom, .ref m_sumMany, .int 0, .int 0, .int 0, .int 0, .ref m_part, .ref m_fair, .ref m_heap, .ref m_pickTet, .ref m_pickEdge, .ref m_base, .ref m_baseM, .ref m_baseP, .ref m_rowsOf, .int 0, .ref m_grid, .ref m_times, .ref m_boxes, .ref m_cameFrom, .ref m_cameBy, .ref m_steps, .ref m_sides, .int 0, .int (-1), .ref m_next, .ref m_cube, .ref m_ways])), (m_sumFrom, .inl (cI, 6, (.inl (fun _ => 0)))), (m_sumMany, .inl (cI, 6, (.inl (fun _ => 0))))] H := hP
  have hD : va_D (fun q : Nat => s.heap.size ≤ q) [(m0, .inr (11, [.int 0, .ref m_tape, .int 0, .int 0, .int 0, .ref m_read, .int 0, .int 0, .int 0, .ref m_tets, .int 0, .int 0, .int 0, .int 0, .int 0, .int 0, .int 0, .int 0, .ref m_primes, .ref m_often, .ref m_normal, .ref m_termM, .ref m_termP, .ref m_termV, .ref m_sumFrom, .ref m_sumMany, .int 0, .int 0, .int 0, .int 0, .ref m_part, .ref m_fair, .ref m_heap, .ref m_pickTet, .ref m_pickEdge, .ref m_base, .ref m_baseM, .ref m_baseP, .ref m_rowsOf, .int 0, .ref m_grid, .ref m_times, .ref m_boxes, .ref m_cameFrom, .ref m_cameBy, .ref m_steps, .ref m_sides, .int 0, .int (-1), .ref m_next, .ref m_cube, .ref m_ways])), (m_sumFrom, .inl (cI, 6, (.inl (fun _ => 0)))), (m_sumMany, .inl (cI, 6, (.inl (fun _ => 0))))] := hD
  have hr_5 := hw
  refine lv_aload_n hx hb dL_law_600 rfl (lv_at hl 2 rfl) ?_
  refine lv_aload_n hx hb dL_law_601 rfl (lv_at hl 4 rfl) ?_
  refine lv_iload hx hb dL_law_602 (lv_at hl 0 rfl) ?_
  refine lv_iconst (v := 1) hx hb dL_law_604 (by decide) ?_
  refine lv_iadd hx hb dL_law_605 ?_
  refine lv_topi (fun x_6 ex_6 => ?_)
  obtain rfl : x_6 = 1 := ex_6.trans (by first | rfl | decide)
  refine va_sld hx hb hX hbl hbA hS (by show ¬ (_ ∨ _); decide) dL_law_606 ?_
  refine lv_topi (fun x_7 ex_7 => ?_)
  obtain rfl : y1 = x_7 := hy1.trans ex_7.symm
  refine lv_aload_n hx hb dL_law_607 rfl (lv_at hl 4 rfl) ?_
  refine lv_iload hx hb dL_law_608 (lv_at hl 0 rfl) ?_
  refine lv_iconst (v := 2) hx hb dL_law_610 (by decide) ?_
  refine lv_iadd hx hb dL_law_611 ?_
  refine lv_topi (fun x_8 ex_8 => ?_)
  obtain rfl : x_8 = 2 := ex_8.trans (by first | rfl | decide)
  refine va_sld hx hb hX hbl hbA hS (by show ¬ (_ ∨ _); decide) dL_law_612 ?_
  refine lv_topi (fun x_9 ex_9 => ?_)
  obtain rfl : y2 = x_9 := hy2.trans ex_9.symm
  have hPc := hP.sub (ws' := [(m0, .inr (11, [.int 0, .ref m_tape, .int 0, .int 0, .int 0, .ref m_read, .int 0, .int 0, .int 0, .ref m_tets, .int 0, .int 0, .int 0, .int 0, .int 0, .int 0, .int 0, .int 0, .ref m_primes, .ref m_often, .ref m_normal, .ref m_termM, .ref m_termP, .ref m_termV, .ref m_sumFrom, .ref m_sumMany, .int 0, .int 0, .int 0, .int 0, .ref m_part, .ref m_fair, .ref m_heap, .ref m_pickTet, .ref m_pickEdge, .ref m_base, .ref m_baseM, .ref m_baseP, .ref m_rowsOf, .int 0, .ref m_grid, .ref m_times, .ref m_boxes, .ref m_cameFrom, .ref m_cameBy, .ref m_steps, .ref m_sides, .int 0, .int (-1), .ref m_next, .ref m_cube, .ref m_ways])), (m_sumFrom, .inl (cI, 6, (.inl (fun _ => 0)))), (m_sumMany, .inl (cI, 6, (.inl (fun _ => 0))))]) [0, 1, 2] rfl
  have hDc := hD.sub (ws' := [(m0, .inr (11, [.int 0, .ref m_tape, .int 0, .int 0, .int 0, .ref m_read, .int 0, .int 0, .int 0, .ref m_tets, .int 0, .int 0, .int 0, .int 0, .int 0, .int 0, .int 0, .int 0, .ref m_primes, .ref m_often, .ref m_normal, .ref m_termM, .ref m_termP, .ref m_termV, .ref m_sumFrom, .ref m_sumMany, .int 0, .int 0, .int 0, .int 0, .ref m_part, .ref m_fair, .ref m_heap, .ref m_pickTet, .ref m_pickEdge, .ref m_base, .ref m_baseM, .ref m_baseP, .ref m_rowsOf, .int 0, .ref m_grid, .ref m_times, .ref m_boxes, .ref m_cameFrom, .ref m_cameBy, .ref m_steps, .ref m_sides, .int 0, .int (-1), .ref m_next, .ref m_cube, .ref m_ways])), (m_sumFrom, .inl (cI, 6, (.inl (fun _ => 0)))), (m_sumMany, .inl (cI, 6, (.inl (fun _ => 0))))]) [0, 1, 2] (by decide) rfl
  have hFc := va_free (wc := [(m0, .inr (11, [.int 0, .ref m_tape, .int 0, .int 0, .int 0, .ref m_read, .int 0, .int 0, .int 0, .ref m_tets, .int 0, .int 0, .int 0, .int 0, .int 0, .int 0, .int 0, .int 0, .ref m_primes, .ref m_often, .ref m_normal, .ref m_termM, .ref m_termP, .ref m_termV, .ref m_sumFrom, .ref m_sumMany, .int 0, .int 0, .int 0, .int 0, .ref m_part, .ref m_fair, .ref m_heap, .ref m_pickTet, .ref m_pickEdge, .ref m_base, .ref m_baseM, .ref m_baseP, .ref m_rowsOf, .int 0, .ref m_grid, .ref m_times, .ref m_boxes, .ref m_cameFrom, .ref m_cameBy, .ref m_steps, .ref m_sides, .int 0, .int (-1), .ref m_next, .ref m_cube, .ref m_ways])), (m_sumFrom, .inl (cI, 6, (.inl (fun _ => 0)))), (m_sumMany, .inl (cI, 6, (.inl (fun _ => 0))))]) hD hS hA [0, 1, 2] rfl
  refine va_calli (va_runV (As := [.int y1, .int y2]) (rest := [.int r_5]) ⟨hx, hb, hml, hown, hts⟩ (c_X11_solid l dC dI cB cI cJ H.size m0 m_tape m_read m_tets m_primes m_often m_normal m_termM m_termP m_termV m_sumFrom m_sumMany m_part m_fair m_heap m_pickTet m_pickEdge m_base m_baseM m_baseP m_rowsOf m_grid m_times m_boxes m_cameFrom m_cameBy m_steps m_sides m_next m_cube m_ways y1 y2) (cwV 2 hts hL_law_X11_solid rfl rfl rfl (by decide +kernel) ⟨Nat.le_of_ble_eq_true rfl, Nat.le_of_ble_eq_true rfl⟩) ⟨fun a U g mk q => by obtain ⟨q0, q1, qP, qK, qD⟩ := q; exact ⟨q0, q1, qP, va_K.moved (u := U) (U := U.calling g mk a) (Vm.Alike.refl U.vm) qK, qD⟩, va_recv hK hP (ci := 11) (q0 := 0) rfl rfl, fun U hU hW => ⟨rfl, by rw [hU], by rw [hU]; exact hPc, va_K.moved hW.alike hK, hDc.weaken (fun _ _ _ _ => trivial)⟩⟩ rfl rfl hl.1 rfl (lv_room (Nat.le_of_ble_eq_true rfl)) dL_law_613 ⟨Nat.le_of_ble_eq_true rfl, Nat.le_of_ble_eq_true rfl⟩) hS (fun q _ h => hFc q h) hFc (fun r_10 u t H1 locs ht hvm hw hB hz1 hk1 hS => ?_)
  have hP1 : va_P (dC, dI) vwCl [] H1 := fun k q h => by simp at h
  have hD1 : va_D (va_A [(m0, .inr (11, [.int 0, .ref m_tape, .int 0, .int 0, .int 0, .ref m_read, .int 0, .int 0, .int 0, .ref m_tets, .int 0, .int 0, .int 0, .int 0, .int 0, .int 0, .int 0, .int 0, .ref m_primes, .ref m_often, .ref m_normal, .ref m_termM, .ref m_termP, .ref m_termV, .ref m_sumFrom, .ref m_sumMany, .int 0, .int 0, .int 0, .int 0, .ref m_part, .ref m_fair, .ref m_heap, .ref m_pickTet, .ref m_pickEdge, .ref m_base, .ref m_baseM, .ref m_baseP, .ref m_rowsOf, .int 0, .ref m_grid, .ref m_times, .ref m_boxes, .ref m_cameFrom, .ref m_cameBy, .ref m_steps, .ref m_sides, .int 0, .int (-1), .ref m_next, .ref m_cube, .ref m_ways])), (m_sumFrom, .inl (cI, 6, (.inl (fun _ => 0)))), (m_sumMany, .inl (cI, 6, (.inl (fun _ => 0))))] H.size) [] := ⟨fun i j p q h => by simp at h, fun k q h => by simp at h⟩
  obtain ⟨hP, hD⟩ := va_join (wr := []) (w1 := []) hP hD [0, 1, 2] [] rfl rfl (by decide) (by decide) hk1 hFc hP1 hD1
  generalize H1 = H at hP hS ⊢
  have hP : va_P (dC, dI) vwCl [] H := hP
  have hD : va_D (fun q : Nat => s.heap.size ≤ q) [] := hD
  have hr_10 := hw
  refine lv_icmp_eq (tgt := 1744) hx hb dL_law_616 (by decide) (fun _ => ?_) (fun c => absurd (hr_5.trans hr_10.symm) c)
  refine W.widen (k := 600002) (n := 7302232) (Nat.le_of_ble_eq_true rfl) (Nat.le_of_ble_eq_true rfl) ?_
  exact la_end l C0 H _ hS ls hl
set_option maxHeartbeats 8000000 in
set_option maxRecDepth 100000 in
theorem la_10 {p : Program} {e : Env} {s : State} {m : MethodId} {below : List Frame} {meth : Method} {c : Code} (l : Launch) {b : Nat} {xs : Nat → Int32} (C0 : lw_At p s m meth c b 7 xs) (dC : Nat → ClassId) (dI : Nat → Nat → Nat) (cB cI cJ : ClassId) {x0 xTape xReader xBag xBld xAng xSum xPik xHan xIns xShr xSta xTur sM sP sA m0 m_tape m_read m_tets m_primes m_often m_normal m_termM m_termP m_termV m_sumFrom m_sumMany m_part m_fair m_heap m_pickTet m_pickEdge m_base m_baseM m_baseP m_rowsOf m_grid m_times m_boxes m_cameFrom m_cameBy m_steps m_sides m_next m_cube m_ways o0 : Nat} (H : Heap) (locs : List Loc) (hK : va_K (dC, dI) vwCl [(cB, .byte), (cI, .int), (cJ, .long)] s) (hP : va_P (dC, dI) vwCl [(x0, .inr (10, [.ref xTape, .ref xReader, .ref xBag, .ref xBld, .ref xAng, .ref xSum, .ref xPik, .int 0, .ref xHan, .ref xIns, .ref xShr, .ref xSta, .ref xTur])), (xSum, .inr (8, [.ref sM, .ref sP, .ref sA, .int 0])), (m0, .inr (11, [.int 0, .ref m_tape, .int 0, .int 0, .int 0, .ref m_read, .int 0, .int 0, .int 0, .ref m_tets, .int 0, .int 0, .int 0, .int 0, .int 0, .int 0, .int 0, .int 0, .ref m_primes, .ref m_often, .ref m_normal, .ref m_termM, .ref m_termP, .ref m_termV, .ref m_sumFrom, .ref m_sumMany, .int 0, .int 0, .int 0, .int 0, .ref m_part, .ref m_fair, .ref m_heap, .ref m_pickTet, .ref m_pickEdge, .ref m_base, .ref m_baseM, .ref m_baseP, .ref m_rowsOf, .int 0, .ref m_grid, .ref m_times, .ref m_boxes, .ref m_cameFrom, .ref m_cameBy, .ref m_steps, .ref m_sides, .int 0, .int (-1), .ref m_next, .ref m_cube, .ref m_ways])), (m_sumFrom, .inl (cI, 6, (.inl (fun _ => 0)))), (m_sumMany, .inl (cI, 6, (.inl (fun _ => 0))))] H) (hD : va_D (fun q : Nat => s.heap.size ≤ q) [(x0, .inr (10, [.ref xTape, .ref xReader, .ref xBag, .ref xBld, .ref xAng, .ref xSum, .ref xPik, .int 0, .ref xHan, .ref xIns, .ref xShr, .ref xSta, .ref xTur])), (xSum, .inr (8, [.ref sM, .ref sP, .ref sA, .int 0])), (m0, .inr (11, [.int 0, .ref m_tape, .int 0, .int 0, .int 0, .ref m_read, .int 0, .int 0, .int 0, .ref m_tets, .int 0, .int 0, .int 0, .int 0, .int 0, .int 0, .int 0, .int 0, .ref m_primes, .ref m_often, .ref m_normal, .ref m_termM, .ref m_termP, .ref m_termV, .ref m_sumFrom, .ref m_sumMany, .int 0, .int 0, .int 0, .int 0, .ref m_part, .ref m_fair, .ref m_heap, .ref m_pickTet, .ref m_pickEdge, .ref m_base, .ref m_baseM, .ref m_baseP, .ref m_rowsOf, .int 0, .ref m_grid, .ref m_times, .ref m_boxes, .ref m_cameFrom, .ref m_cameBy, .ref m_steps, .ref m_sides, .int 0, .int (-1), .ref m_next, .ref m_cube, .ref m_ways])), (m_sumFrom, .inl (cI, 6, (.inl (fun _ => 0)))), (m_sumMany, .inl (cI, 6, (.inl (fun _ => 0))))]) (hS : va_S (fun q : Nat => s.heap.size ≤ q) s.heap H locs) (ls : Array Slot) (hl : lv_has ls 7 [(4, .int 0), (3, .ref o0), (2, .ref m0), (1, .ref x0), (0, .ref b)]) : W p l e room_1 s m #[Value.ref b] below meth c H locs 82 28049 (lw_Z below #[Value.ref b] s) (F0 m 621 ls []) := by
  obtain ⟨hx, hb, hr, hml, hown, htb, hX, hbl, hlocks, hgv⟩ := id C0
  have hts := htb
  have hbA : ¬ (fun q : Nat => s.heap.size ≤ q) b := Nat.not_le.mpr hbl
  have hA : ∀ q : Nat, s.heap.size ≤ q → (fun q : Nat => s.heap.size ≤ q) q := fun _ h => h
  obtain ⟨y1, hy1⟩ : ∃ y : Int32, y = xs (1 : Int32).toNatClampNeg := ⟨_, rfl⟩
  obtain ⟨y2, hy2⟩ : ∃ y : Int32, y = xs (2 : Int32).toNatClampNeg := ⟨_, rfl⟩
  obtain ⟨y3, hy3⟩ : ∃ y : Int32, y = xs (3 : Int32).toNatClampNeg := ⟨_, rfl⟩
  refine lv_aload_n hx hb dL_law_621 rfl (lv_at hl 3 rfl) ?_
  refine lv_aload_n hx hb dL_law_622 rfl (lv_at hl 4 rfl) ?_
  refine lv_iload hx hb dL_law_623 (lv_at hl 0 rfl) ?_
  refine lv_iconst (v := 1) hx hb dL_law_625 (by decide) ?_
  refine lv_iadd hx hb dL_law_626 ?_
  refine lv_topi (fun x_1 ex_1 => ?_)
  obtain rfl : x_1 = 1 := ex_1.trans (by first | rfl | decide)
  refine va_sld hx hb hX hbl hbA hS (by show ¬ (_ ∨ _); decide) dL_law_627 ?_
  refine lv_topi (fun x_2 ex_2 => ?_)
  obtain rfl : y1 = x_2 := hy1.trans ex_2.symm
  refine lv_aload_n hx hb dL_law_628 rfl (lv_at hl 4 rfl) ?_
  refine lv_iload hx hb dL_law_629 (lv_at hl 0 rfl) ?_
  refine lv_iconst (v := 2) hx hb dL_law_631 (by decide) ?_
  refine lv_iadd hx hb dL_law_632 ?_
  refine lv_topi (fun x_3 ex_3 => ?_)
  obtain rfl : x_3 = 2 := ex_3.trans (by first | rfl | decide)
  refine va_sld hx hb hX hbl hbA hS (by show ¬ (_ ∨ _); decide) dL_law_633 ?_
  refine lv_topi (fun x_4 ex_4 => ?_)
  obtain rfl : y2 = x_4 := hy2.trans ex_4.symm
  refine lv_aload_n hx hb dL_law_634 rfl (lv_at hl 4 rfl) ?_
  refine lv_iload hx hb dL_law_635 (lv_at hl 0 rfl) ?_
  refine lv_iconst (v := 3) hx hb dL_law_637 (by decide) ?_
  refine lv_iadd hx hb dL_law_638 ?_
  refine lv_topi (fun x_5 ex_5 => ?_)
  obtain rfl : x_5 = 3 := ex_5.trans (by first | rfl | decide)
  refine va_sld hx hb hX hbl hbA hS (by show ¬ (_ ∨ _); decide) dL_law_639 ?_
  refine lv_topi (fun x_6 ex_6 => ?_)
  obtain rfl : y3 = x_6 := hy3.trans ex_6.symm
  have hPc := hP.sub (ws' := [(x0, .inr (10, [.ref xTape, .ref xReader, .ref xBag, .ref xBld, .ref xAng, .ref xSum, .ref xPik, .int 0, .ref xHan, .ref xIns, .ref xShr, .ref xSta, .ref xTur])), (xSum, .inr (8, [.ref sM, .ref sP, .ref sA, .int 0]))]) [0, 1] rfl
  have hDc := hD.sub (ws' := [(x0, .inr (10, [.ref xTape, .ref xReader, .ref xBag, .ref xBld, .ref xAng, .ref xSum, .ref xPik, .int 0, .ref xHan, .ref xIns, .ref xShr, .ref xSta, .ref xTur])), (xSum, .inr (8, [.ref sM, .ref sP, .ref sA, .int 0]))]) [0, 1] (by decide) rfl
  have hFc := va_free (wc := [(x0, .inr (10, [.ref xTape, .ref xReader, .ref xBag, .ref xBld, .ref xAng, .ref xSum, .ref xPik, .int 0, .ref xHan, .ref xIns, .ref xShr, .ref xSta, .ref xTur])), (xSum, .inr (8, [.ref sM, .ref sP, .ref sA, .int 0]))]) hD hS hA [0, 1] rfl
  refine va_calli (va_runV (As := [.int y1, .int y2, .int y3]) (rest := []) ⟨hx, hb, hml, hown, hts⟩ (c_X10_term l dC dI cB cI cJ H.size x0 xTape xReader xBag xBld xAng xSum xPik xHan xIns xShr xSta xTur sM sP sA y1 y2 y3) (cwV 3 hts hL_law_X10_term rfl rfl rfl (by decide +kernel) ⟨Nat.le_of_ble_eq_true rfl, Nat.le_of_ble_eq_true rfl⟩) ⟨fun a U g mk q => by obtain ⟨q0, q1, qP, qK, qD⟩ := q; exact ⟨q0, q1, qP, va_K.moved (u := U) (U := U.calling g mk a) (Vm.Alike.refl U.vm) qK, qD⟩, va_recv hK hP (ci := 10) (q0 := 0) rfl rfl, fun U hU hW => ⟨rfl, by rw [hU], by rw [hU]; exact hPc, va_K.moved hW.alike hK, hDc.weaken (fun _ _ _ _ => trivial)⟩⟩ rfl rfl hl.1 rfl (lv_room (Nat.le_of_ble_eq_true rfl)) dL_law_640 ⟨Nat.le_of_ble_eq_true rfl, Nat.le_of_ble_eq_true rfl⟩) hS (fun q _ h => hFc q h) hFc (fun r_7 u t H1 locs ht hvm hw hB hz1 hk1 hS => ?_)
  have hP1 : va_P (dC, dI) vwCl [] H1 := fun k q h => by simp at h
  have hD1 : va_D (va_A [(x0, .inr (10, [.ref xTape, .ref xReader, .ref xBag, .ref xBld, .ref xAng, .ref xSum, .ref xPik, .int 0, .ref xHan, .ref xIns, .ref xShr, .ref xSta, .ref xTur])), (xSum, .inr (8, [.ref sM, .ref sP, .ref sA, .int 0]))] H.size) [] := ⟨fun i j p q h => by simp at h, fun k q h => by simp at h⟩
  obtain ⟨hP, hD⟩ := va_join (wr := [(m0, .inr (11, [.int 0, .ref m_tape, .int 0, .int 0, .int 0, .ref m_read, .int 0, .int 0, .int 0, .ref m_tets, .int 0, .int 0, .int 0, .int 0, .int 0, .int 0, .int 0, .int 0, .ref m_primes, .ref m_often, .ref m_normal, .ref m_termM, .ref m_termP, .ref m_termV, .ref m_sumFrom, .ref m_sumMany, .int 0, .int 0, .int 0, .int 0, .ref m_part, .ref m_fair, .ref m_heap, .ref m_pickTet, .ref m_pickEdge, .ref m_base, .ref m_baseM, .ref m_baseP, .ref m_rowsOf, .int 0, .ref m_grid, .ref m_times, .ref m_boxes, .ref m_cameFrom, .ref m_cameBy, .ref m_steps, .ref m_sides, .int 0, .int (-1), .ref m_next, .ref m_cube, .ref m_ways])), (m_sumFrom, .inl (cI, 6, (.inl (fun _ => 0)))), (m_sumMany, .inl (cI, 6, (.inl (fun _ => 0))))]) (w1 := []) hP hD [0, 1] [2, 3, 4] rfl rfl (by decide) (by decide) hk1 hFc hP1 hD1
  generalize H1 = H at hP hS ⊢
  have hP : va_P (dC, dI) vwCl [(m0, .inr (11, [.int 0, .ref m_tape, .int 0, .int 0, .int 0, .ref m_read, .int 0, .int 0, .int 0, .ref m_tets, .int 0, .int 0, .int 0, .int 0, .int 0, .int 0, .int 0, .int 0, .ref m_primes, .ref m_often, .ref m_normal, .ref m_termM, .ref m_termP, .ref m_termV, .ref m_sumFrom, .ref m_sumMany, .int 0, .int 0, .int 0, .int 0, .ref m_part, .ref m_fair, .ref m_heap, .ref m_pickTet, .ref m_pickEdge, .ref m_base, .ref m_baseM, .ref m_baseP, .ref m_rowsOf, .int 0, .ref m_grid, .ref m_times, .ref m_boxes, .ref m_cameFrom, .ref m_cameBy, .ref m_steps, .ref m_sides, .int 0, .int (-1), .ref m_next, .ref m_cube, .ref m_ways])), (m_sumFrom, .inl (cI, 6, (.inl (fun _ => 0)))), (m_sumMany, .inl (cI, 6, (.inl (fun _ => 0))))] H := hP
  have hD : va_D (fun q : Nat => s.heap.size ≤ q) [(m0, .inr (11, [.int 0, .ref m_tape, .int 0, .int 0, .int 0, .ref m_read, .int 0, .int 0, .int 0, .ref m_tets, .int 0, .int 0, .int 0, .int 0, .int 0, .int 0, .int 0, .int 0, .ref m_primes, .ref m_often, .ref m_normal, .ref m_termM, .ref m_termP, .ref m_termV, .ref m_sumFrom, .ref m_sumMany, .int 0, .int 0, .int 0, .int 0, .ref m_part, .ref m_fair, .ref m_heap, .ref m_pickTet, .ref m_pickEdge, .ref m_base, .ref m_baseM, .ref m_baseP, .ref m_rowsOf, .int 0, .ref m_grid, .ref m_times, .ref m_boxes, .ref m_cameFrom, .ref m_cameBy, .ref m_steps, .ref m_sides, .int 0, .int (-1), .ref m_next, .ref m_cube, .ref m_ways])), (m_sumFrom, .inl (cI, 6, (.inl (fun _ => 0)))), (m_sumMany, .inl (cI, 6, (.inl (fun _ => 0))))] := hD
  have hr_7 := hw
  obtain rfl : r_7 = (-1000000) := hr_7
  refine lv_aload_n hx hb dL_law_643 rfl (lv_at hl 2 rfl) ?_
  refine lv_aload_n hx hb dL_law_644 rfl (lv_at hl 4 rfl) ?_
  refine lv_iload hx hb dL_law_645 (lv_at hl 0 rfl) ?_
  refine lv_iconst (v := 1) hx hb dL_law_647 (by decide) ?_
  refine lv_iadd hx hb dL_law_648 ?_
  refine lv_topi (fun x_8 ex_8 => ?_)
  obtain rfl : x_8 = 1 := ex_8.trans (by first | rfl | decide)
  refine va_sld hx hb hX hbl hbA hS (by show ¬ (_ ∨ _); decide) dL_law_649 ?_
  refine lv_topi (fun x_9 ex_9 => ?_)
  obtain rfl : y1 = x_9 := hy1.trans ex_9.symm
  refine lv_aload_n hx hb dL_law_650 rfl (lv_at hl 4 rfl) ?_
  refine lv_iload hx hb dL_law_651 (lv_at hl 0 rfl) ?_
  refine lv_iconst (v := 2) hx hb dL_law_653 (by decide) ?_
  refine lv_iadd hx hb dL_law_654 ?_
  refine lv_topi (fun x_10 ex_10 => ?_)
  obtain rfl : x_10 = 2 := ex_10.trans (by first | rfl | decide)
  refine va_sld hx hb hX hbl hbA hS (by show ¬ (_ ∨ _); decide) dL_law_655 ?_
  refine lv_topi (fun x_11 ex_11 => ?_)
  obtain rfl : y2 = x_11 := hy2.trans ex_11.symm
  refine lv_aload_n hx hb dL_law_656 rfl (lv_at hl 4 rfl) ?_
  refine lv_iload hx hb dL_law_657 (lv_at hl 0 rfl) ?_
  refine lv_iconst (v := 3) hx hb dL_law_659 (by decide) ?_
  refine lv_iadd hx hb dL_law_660 ?_
  refine lv_topi (fun x_12 ex_12 => ?_)
  obtain rfl : x_12 = 3 := ex_12.trans (by first | rfl | decide)
  refine va_sld hx hb hX hbl hbA hS (by show ¬ (_ ∨ _); decide) dL_law_661 ?_
  refine lv_topi (fun x_13 ex_13 => ?_)
  obtain rfl : y3 = x_13 := hy3.trans ex_13.symm
  have hPc := hP.sub (ws' := [(m0, .inr (11, [.int 0, .ref m_tape, .int 0, .int 0, .int 0, .ref m_read, .int 0, .int 0, .int 0, .ref m_tets, .int 0, .int 0, .int 0, .int 0, .int 0, .int 0, .int 0, .int 0, .ref m_primes, .ref m_often, .ref m_normal, .ref m_termM, .ref m_termP, .ref m_termV, .ref m_sumFrom, .ref m_sumMany, .int 0, .int 0, .int 0, .int 0, .ref m_part, .ref m_fair, .ref m_heap, .ref m_pickTet, .ref m_pickEdge, .ref m_base, .ref m_baseM, .ref m_baseP, .ref m_rowsOf, .int 0, .ref m_grid, .ref m_times, .ref m_boxes, .ref m_cameFrom, .ref m_cameBy, .ref m_steps, .ref m_sides, .int 0, .int (-1), .ref m_next, .ref m_cube, .ref m_ways])), (m_sumFrom, .inl (cI, 6, (.inl (fun _ => 0)))), (m_sumMany, .inl (cI, 6, (.inl (fun _ => 0))))]) [0, 1, 2] rfl
  have hDc := hD.sub (ws' := [(m0, .inr (11, [.int 0, .ref m_tape, .int 0, .int 0, .int 0, .ref m_read, .int 0, .int 0, .int 0, .ref m_tets, .int 0, .int 0, .int 0, .int 0, .int 0, .int 0, .int 0, .int 0, .ref m_primes, .ref m_often, .ref m_normal, .ref m_termM, .ref m_termP, .ref m_termV, .ref m_sumFrom, .ref m_sumMany, .int 0, .int 0, .int 0, .int 0, .ref m_part, .ref m_fair, .ref m_heap, .ref m_pickTet, .ref m_pickEdge, .ref m_base, .ref m_baseM, .ref m_baseP, .ref m_rowsOf, .int 0, .ref m_grid, .ref m_times, .ref m_boxes, .ref m_cameFrom, .ref m_cameBy, .ref m_steps, .ref m_sides, .int 0, .int (-1), .ref m_next, .ref m_cube, .ref m_ways])), (m_sumFrom, .inl (cI, 6, (.inl (fun _ => 0)))), (m_sumMany, .inl (cI, 6, (.inl (fun _ => 0))))]) [0, 1, 2] (by decide) rfl
  have hFc := va_free (wc := [(m0, .inr (11, [.int 0, .ref m_tape, .int 0, .int 0, .int 0, .ref m_read, .int 0, .int 0, .int 0, .ref m_tets, .int 0, .int 0, .int 0, .int 0, .int 0, .int 0, .int 0, .int 0, .ref m_primes, .ref m_often, .ref m_normal, .ref m_termM, .ref m_termP, .ref m_termV, .ref m_sumFrom, .ref m_sumMany, .int 0, .int 0, .int 0, .int 0, .ref m_part, .ref m_fair, .ref m_heap, .ref m_pickTet, .ref m_pickEdge, .ref m_base, .ref m_baseM, .ref m_baseP, .ref m_rowsOf, .int 0, .ref m_grid, .ref m_times, .ref m_boxes, .ref m_cameFrom, .ref m_cameBy, .ref m_steps, .ref m_sides, .int 0, .int (-1), .ref m_next, .ref m_cube, .ref m_ways])), (m_sumFrom, .inl (cI, 6, (.inl (fun _ => 0)))), (m_sumMany, .inl (cI, 6, (.inl (fun _ => 0))))]) hD hS hA [0, 1, 2] rfl
  refine va_calli (va_runV (As := [.int y1, .int y2, .int y3]) (rest := [.int (-1000000)]) ⟨hx, hb, hml, hown, hts⟩ (c_X11_term l dC dI cB cI cJ H.size m0 m_tape m_read m_tets m_primes m_often m_normal m_termM m_termP m_termV m_sumFrom m_sumMany m_part m_fair m_heap m_pickTet m_pickEdge m_base m_baseM m_baseP m_rowsOf m_grid m_times m_boxes m_cameFrom m_cameBy m_steps m_sides m_next m_cube m_ways y1 y2 y3) (cwV 3 hts hL_law_X11_term rfl rfl rfl (by decide +kernel) ⟨Nat.le_of_ble_eq_true rfl, Nat.le_of_ble_eq_true rfl⟩) ⟨fun a U g mk q => by obtain ⟨q0, q1, qP, qK, qD⟩ := q; exact ⟨q0, q1, qP, va_K.moved (u := U) (U := U.calling g mk a) (Vm.Alike.refl U.vm) qK, qD⟩, va_recv hK hP (ci := 11) (q0 := 0) rfl rfl, fun U hU hW => ⟨rfl, by rw [hU], by rw [hU]; exact hPc, va_K.moved hW.alike hK, hDc.weaken (fun _ _ _ _ => trivial)⟩⟩ rfl rfl hl.1 rfl (lv_room (Nat.le_of_ble_eq_true rfl)) dL_law_662 ⟨Nat.le_of_ble_eq_true rfl, Nat.le_of_ble_eq_true rfl⟩) hS (fun q _ h => hFc q h) hFc (fun r_14 u t H1 locs ht hvm hw hB hz1 hk1 hS => ?_)
  have hP1 : va_P (dC, dI) vwCl [] H1 := fun k q h => by simp at h
  have hD1 : va_D (va_A [(m0, .inr (11, [.int 0, .ref m_tape, .int 0, .int 0, .int 0, .ref m_read, .int 0, .int 0, .int 0, .ref m_tets, .int 0, .int 0, .int 0, .int 0, .int 0, .int 0, .int 0, .int 0, .ref m_primes, .ref m_often, .ref m_normal, .ref m_termM, .ref m_termP, .ref m_termV, .ref m_sumFrom, .ref m_sumMany, .int 0, .int 0, .int 0, .int 0, .ref m_part, .ref m_fair, .ref m_heap, .ref m_pickTet, .ref m_pickEdge, .ref m_base, .ref m_baseM, .ref m_baseP, .ref m_rowsOf, .int 0, .ref m_grid, .ref m_times, .ref m_boxes, .ref m_cameFrom, .ref m_cameBy, .ref m_steps, .ref m_sides, .int 0, .int (-1), .ref m_next, .ref m_cube, .ref m_ways])), (m_sumFrom, .inl (cI, 6, (.inl (fun _ => 0)))), (m_sumMany, .inl (cI, 6, (.inl (fun _ => 0))))] H.size) [] := ⟨fun i j p q h => by simp at h, fun k q h => by simp at h⟩
  obtain ⟨hP, hD⟩ := va_join (wr := []) (w1 := []) hP hD [0, 1, 2] [] rfl rfl (by decide) (by decide) hk1 hFc hP1 hD1
  generalize H1 = H at hP hS ⊢
  have hP : va_P (dC, dI) vwCl [] H := hP
  have hD : va_D (fun q : Nat => s.heap.size ≤ q) [] := hD
  have hr_14 := hw
  obtain rfl : r_14 = (-1000000) := hr_14
  refine lv_icmp_eq (tgt := 1744) hx hb dL_law_665 (by decide) (fun _ => ?_) (fun c => absurd (by decide) c)
  refine W.widen (k := 600002) (n := 7302232) (Nat.le_of_ble_eq_true rfl) (Nat.le_of_ble_eq_true rfl) ?_
  exact la_end l C0 H _ hS ls hl
set_option maxHeartbeats 8000000 in
set_option maxRecDepth 100000 in
theorem la_11 {p : Program} {e : Env} {s : State} {m : MethodId} {below : List Frame} {meth : Method} {c : Code} (l : Launch) {b : Nat} {xs : Nat → Int32} (C0 : lw_At p s m meth c b 7 xs) (dC : Nat → ClassId) (dI : Nat → Nat → Nat) (cB cI cJ : ClassId) {x0 xTape xReader xBag xBld xAng xSum xPik xHan xIns xShr xSta xTur sM sP sA m0 m_tape m_read m_tets m_primes m_often m_normal m_termM m_termP m_termV m_sumFrom m_sumMany m_part m_fair m_heap m_pickTet m_pickEdge m_base m_baseM m_baseP m_rowsOf m_grid m_times m_boxes m_cameFrom m_cameBy m_steps m_sides m_next m_cube m_ways o0 : Nat} (H : Heap) (locs : List Loc) (hK : va_K (dC, dI) vwCl [(cB, .byte), (cI, .int), (cJ, .long)] s) (hP : va_P (dC, dI) vwCl [(x0, .inr (10, [.ref xTape, .ref xReader, .ref xBag, .ref xBld, .ref xAng, .ref xSum, .ref xPik, .int 0, .ref xHan, .ref xIns, .ref xShr, .ref xSta, .ref xTur])), (xSum, .inr (8, [.ref sM, .ref sP, .ref sA, .int 0])), (m0, .inr (11, [.int 0, .ref m_tape, .int 0, .int 0, .int 0, .ref m_read, .int 0, .int 0, .int 0, .ref m_tets, .int 0, .int 0, .int 0, .int 0, .int 0, .int 0, .int 0, .int 0, .ref m_primes, .ref m_often, .ref m_normal, .ref m_termM, .ref m_termP, .ref m_termV, .ref m_sumFrom, .ref m_sumMany, .int 0, .int 0, .int 0, .int 0, .ref m_part, .ref m_fair, .ref m_heap, .ref m_pickTet, .ref m_pickEdge, .ref m_base, .ref m_baseM, .ref m_baseP, .ref m_rowsOf, .int 0, .ref m_grid, .ref m_times, .ref m_boxes, .ref m_cameFrom, .ref m_cameBy, .ref m_steps, .ref m_sides, .int 0, .int (-1), .ref m_next, .ref m_cube, .ref m_ways])), (m_sumFrom, .inl (cI, 6, (.inl (fun _ => 0)))), (m_sumMany, .inl (cI, 6, (.inl (fun _ => 0))))] H) (hD : va_D (fun q : Nat => s.heap.size ≤ q) [(x0, .inr (10, [.ref xTape, .ref xReader, .ref xBag, .ref xBld, .ref xAng, .ref xSum, .ref xPik, .int 0, .ref xHan, .ref xIns, .ref xShr, .ref xSta, .ref xTur])), (xSum, .inr (8, [.ref sM, .ref sP, .ref sA, .int 0])), (m0, .inr (11, [.int 0, .ref m_tape, .int 0, .int 0, .int 0, .ref m_read, .int 0, .int 0, .int 0, .ref m_tets, .int 0, .int 0, .int 0, .int 0, .int 0, .int 0, .int 0, .int 0, .ref m_primes, .ref m_often, .ref m_normal, .ref m_termM, .ref m_termP, .ref m_termV, .ref m_sumFrom, .ref m_sumMany, .int 0, .int 0, .int 0, .int 0, .ref m_part, .ref m_fair, .ref m_heap, .ref m_pickTet, .ref m_pickEdge, .ref m_base, .ref m_baseM, .ref m_baseP, .ref m_rowsOf, .int 0, .ref m_grid, .ref m_times, .ref m_boxes, .ref m_cameFrom, .ref m_cameBy, .ref m_steps, .ref m_sides, .int 0, .int (-1), .ref m_next, .ref m_cube, .ref m_ways])), (m_sumFrom, .inl (cI, 6, (.inl (fun _ => 0)))), (m_sumMany, .inl (cI, 6, (.inl (fun _ => 0))))]) (hS : va_S (fun q : Nat => s.heap.size ≤ q) s.heap H locs) (ls : Array Slot) (hl : lv_has ls 7 [(4, .int 0), (3, .ref o0), (2, .ref m0), (1, .ref x0), (0, .ref b)]) : W p l e room_1 s m #[Value.ref b] below meth c H locs 82 28049 (lw_Z below #[Value.ref b] s) (F0 m 670 ls []) := by
  obtain ⟨hx, hb, hr, hml, hown, htb, hX, hbl, hlocks, hgv⟩ := id C0
  have hts := htb
  have hbA : ¬ (fun q : Nat => s.heap.size ≤ q) b := Nat.not_le.mpr hbl
  have hA : ∀ q : Nat, s.heap.size ≤ q → (fun q : Nat => s.heap.size ≤ q) q := fun _ h => h
  obtain ⟨y1, hy1⟩ : ∃ y : Int32, y = xs (1 : Int32).toNatClampNeg := ⟨_, rfl⟩
  obtain ⟨y2, hy2⟩ : ∃ y : Int32, y = xs (2 : Int32).toNatClampNeg := ⟨_, rfl⟩
  obtain ⟨y3, hy3⟩ : ∃ y : Int32, y = xs (3 : Int32).toNatClampNeg := ⟨_, rfl⟩
  refine lv_aload_n hx hb dL_law_670 rfl (lv_at hl 3 rfl) ?_
  refine lv_aload_n hx hb dL_law_671 rfl (lv_at hl 4 rfl) ?_
  refine lv_iload hx hb dL_law_672 (lv_at hl 0 rfl) ?_
  refine lv_iconst (v := 1) hx hb dL_law_674 (by decide) ?_
  refine lv_iadd hx hb dL_law_675 ?_
  refine lv_topi (fun x_1 ex_1 => ?_)
  obtain rfl : x_1 = 1 := ex_1.trans (by first | rfl | decide)
  refine va_sld hx hb hX hbl hbA hS (by show ¬ (_ ∨ _); decide) dL_law_676 ?_
  refine lv_topi (fun x_2 ex_2 => ?_)
  obtain rfl : y1 = x_2 := hy1.trans ex_2.symm
  refine lv_aload_n hx hb dL_law_677 rfl (lv_at hl 4 rfl) ?_
  refine lv_iload hx hb dL_law_678 (lv_at hl 0 rfl) ?_
  refine lv_iconst (v := 2) hx hb dL_law_680 (by decide) ?_
  refine lv_iadd hx hb dL_law_681 ?_
  refine lv_topi (fun x_3 ex_3 => ?_)
  obtain rfl : x_3 = 2 := ex_3.trans (by first | rfl | decide)
  refine va_sld hx hb hX hbl hbA hS (by show ¬ (_ ∨ _); decide) dL_law_682 ?_
  refine lv_topi (fun x_4 ex_4 => ?_)
  obtain rfl : y2 = x_4 := hy2.trans ex_4.symm
  refine lv_aload_n hx hb dL_law_683 rfl (lv_at hl 4 rfl) ?_
  refine lv_iload hx hb dL_law_684 (lv_at hl 0 rfl) ?_
  refine lv_iconst (v := 3) hx hb dL_law_686 (by decide) ?_
  refine lv_iadd hx hb dL_law_687 ?_
  refine lv_topi (fun x_5 ex_5 => ?_)
  obtain rfl : x_5 = 3 := ex_5.trans (by first | rfl | decide)
  refine va_sld hx hb hX hbl hbA hS (by show ¬ (_ ∨ _); decide) dL_law_688 ?_
  refine lv_topi (fun x_6 ex_6 => ?_)
  obtain rfl : y3 = x_6 := hy3.trans ex_6.symm
  have hPc := hP.sub (ws' := [(x0, .inr (10, [.ref xTape, .ref xReader, .ref xBag, .ref xBld, .ref xAng, .ref xSum, .ref xPik, .int 0, .ref xHan, .ref xIns, .ref xShr, .ref xSta, .ref xTur])), (xSum, .inr (8, [.ref sM, .ref sP, .ref sA, .int 0]))]) [0, 1] rfl
  have hDc := hD.sub (ws' := [(x0, .inr (10, [.ref xTape, .ref xReader, .ref xBag, .ref xBld, .ref xAng, .ref xSum, .ref xPik, .int 0, .ref xHan, .ref xIns, .ref xShr, .ref xSta, .ref xTur])), (xSum, .inr (8, [.ref sM, .ref sP, .ref sA, .int 0]))]) [0, 1] (by decide) rfl
  have hFc := va_free (wc := [(x0, .inr (10, [.ref xTape, .ref xReader, .ref xBag, .ref xBld, .ref xAng, .ref xSum, .ref xPik, .int 0, .ref xHan, .ref xIns, .ref xShr, .ref xSta, .ref xTur])), (xSum, .inr (8, [.ref sM, .ref sP, .ref sA, .int 0]))]) hD hS hA [0, 1] rfl
  refine va_calli (va_runV (As := [.int y1, .int y2, .int y3]) (rest := []) ⟨hx, hb, hml, hown, hts⟩ (c_X10_much l dC dI cB cI cJ H.size x0 xTape xReader xBag xBld xAng xSum xPik xHan xIns xShr xSta xTur sM sP sA y1 y2 y3) (cwV 3 hts hL_law_X10_much rfl rfl rfl (by decide +kernel) ⟨Nat.le_of_ble_eq_true rfl, Nat.le_of_ble_eq_true rfl⟩) ⟨fun a U g mk q => by obtain ⟨q0, q1, qP, qK, qD⟩ := q; exact ⟨q0, q1, qP, va_K.moved (u := U) (U := U.calling g mk a) (Vm.Alike.refl U.vm) qK, qD⟩, va_recv hK hP (ci := 10) (q0 := 0) rfl rfl, fun U hU hW => ⟨rfl, by rw [hU], by rw [hU]; exact hPc, va_K.moved hW.alike hK, hDc.weaken (fun _ _ _ _ => trivial)⟩⟩ rfl rfl hl.1 rfl (lv_room (Nat.le_of_ble_eq_true rfl)) dL_law_689 ⟨Nat.le_of_ble_eq_true rfl, Nat.le_of_ble_eq_true rfl⟩) hS (fun q _ h => hFc q h) hFc (fun r_7 u t H1 locs ht hvm hw hB hz1 hk1 hS => ?_)
  have hP1 : va_P (dC, dI) vwCl [] H1 := fun k q h => by simp at h
  have hD1 : va_D (va_A [(x0, .inr (10, [.ref xTape, .ref xReader, .ref xBag, .ref xBld, .ref xAng, .ref xSum, .ref xPik, .int 0, .ref xHan, .ref xIns, .ref xShr, .ref xSta, .ref xTur])), (xSum, .inr (8, [.ref sM, .ref sP, .ref sA, .int 0]))] H.size) [] := ⟨fun i j p q h => by simp at h, fun k q h => by simp at h⟩
  obtain ⟨hP, hD⟩ := va_join (wr := [(m0, .inr (11, [.int 0, .ref m_tape, .int 0, .int 0, .int 0, .ref m_read, .int 0, .int 0, .int 0, .ref m_tets, .int 0, .int 0, .int 0, .int 0, .int 0, .int 0, .int 0, .int 0, .ref m_primes, .ref m_often, .ref m_normal, .ref m_termM, .ref m_termP, .ref m_termV, .ref m_sumFrom, .ref m_sumMany, .int 0, .int 0, .int 0, .int 0, .ref m_part, .ref m_fair, .ref m_heap, .ref m_pickTet, .ref m_pickEdge, .ref m_base, .ref m_baseM, .ref m_baseP, .ref m_rowsOf, .int 0, .ref m_grid, .ref m_times, .ref m_boxes, .ref m_cameFrom, .ref m_cameBy, .ref m_steps, .ref m_sides, .int 0, .int (-1), .ref m_next, .ref m_cube, .ref m_ways])), (m_sumFrom, .inl (cI, 6, (.inl (fun _ => 0)))), (m_sumMany, .inl (cI, 6, (.inl (fun _ => 0))))]) (w1 := []) hP hD [0, 1] [2, 3, 4] rfl rfl (by decide) (by decide) hk1 hFc hP1 hD1
  generalize H1 = H at hP hS ⊢
  have hP : va_P (dC, dI) vwCl [(m0, .inr (11, [.int 0, .ref m_tape, .int 0, .int 0, .int 0, .ref m_read, .int 0, .int 0, .int 0, .ref m_tets, .int 0, .int 0, .int 0, .int 0, .int 0, .int 0, .int 0, .int 0, .ref m_primes, .ref m_often, .ref m_normal, .ref m_termM, .ref m_termP, .ref m_termV, .ref m_sumFrom, .ref m_sumMany, .int 0, .int 0, .int 0, .int 0, .ref m_part, .ref m_fair, .ref m_heap, .ref m_pickTet, .ref m_pickEdge, .ref m_base, .ref m_baseM, .ref m_baseP, .ref m_rowsOf, .int 0, .ref m_grid, .ref m_times, .ref m_boxes, .ref m_cameFrom, .ref m_cameBy, .ref m_steps, .ref m_sides, .int 0, .int (-1), .ref m_next, .ref m_cube, .ref m_ways])), (m_sumFrom, .inl (cI, 6, (.inl (fun _ => 0)))), (m_sumMany, .inl (cI, 6, (.inl (fun _ => 0))))] H := hP
  have hD : va_D (fun q : Nat => s.heap.size ≤ q) [(m0, .inr (11, [.int 0, .ref m_tape, .int 0, .int 0, .int 0, .ref m_read, .int 0, .int 0, .int 0, .ref m_tets, .int 0, .int 0, .int 0, .int 0, .int 0, .int 0, .int 0, .int 0, .ref m_primes, .ref m_often, .ref m_normal, .ref m_termM, .ref m_termP, .ref m_termV, .ref m_sumFrom, .ref m_sumMany, .int 0, .int 0, .int 0, .int 0, .ref m_part, .ref m_fair, .ref m_heap, .ref m_pickTet, .ref m_pickEdge, .ref m_base, .ref m_baseM, .ref m_baseP, .ref m_rowsOf, .int 0, .ref m_grid, .ref m_times, .ref m_boxes, .ref m_cameFrom, .ref m_cameBy, .ref m_steps, .ref m_sides, .int 0, .int (-1), .ref m_next, .ref m_cube, .ref m_ways])), (m_sumFrom, .inl (cI, 6, (.inl (fun _ => 0)))), (m_sumMany, .inl (cI, 6, (.inl (fun _ => 0))))] := hD
  have hr_7 := hw
  refine lv_aload_n hx hb dL_law_692 rfl (lv_at hl 2 rfl) ?_
  refine lv_aload_n hx hb dL_law_693 rfl (lv_at hl 4 rfl) ?_
  refine lv_iload hx hb dL_law_694 (lv_at hl 0 rfl) ?_
  refine lv_iconst (v := 1) hx hb dL_law_696 (by decide) ?_
  refine lv_iadd hx hb dL_law_697 ?_
  refine lv_topi (fun x_8 ex_8 => ?_)
  obtain rfl : x_8 = 1 := ex_8.trans (by first | rfl | decide)
  refine va_sld hx hb hX hbl hbA hS (by show ¬ (_ ∨ _); decide) dL_law_698 ?_
  refine lv_topi (fun x_9 ex_9 => ?_)
  obtain rfl : y1 = x_9 := hy1.trans ex_9.symm
  refine lv_aload_n hx hb dL_law_699 rfl (lv_at hl 4 rfl) ?_
  refine lv_iload hx hb dL_law_700 (lv_at hl 0 rfl) ?_
  refine lv_iconst (v := 2) hx hb dL_law_702 (by decide) ?_
  refine lv_iadd hx hb dL_law_703 ?_
  refine lv_topi (fun x_10 ex_10 => ?_)
  obtain rfl : x_10 = 2 := ex_10.trans (by first | rfl | decide)
  refine va_sld hx hb hX hbl hbA hS (by show ¬ (_ ∨ _); decide) dL_law_704 ?_
  refine lv_topi (fun x_11 ex_11 => ?_)
  obtain rfl : y2 = x_11 := hy2.trans ex_11.symm
  refine lv_aload_n hx hb dL_law_705 rfl (lv_at hl 4 rfl) ?_
  refine lv_iload hx hb dL_law_706 (lv_at hl 0 rfl) ?_
  refine lv_iconst (v := 3) hx hb dL_law_708 (by decide) ?_
  refine lv_iadd hx hb dL_law_709 ?_
  refine lv_topi (fun x_12 ex_12 => ?_)
  obtain rfl : x_12 = 3 := ex_12.trans (by first | rfl | decide)
  refine va_sld hx hb hX hbl hbA hS (by show ¬ (_ ∨ _); decide) dL_law_710 ?_
  refine lv_topi (fun x_13 ex_13 => ?_)
  obtain rfl : y3 = x_13 := hy3.trans ex_13.symm
  have hPc := hP.sub (ws' := [(m0, .inr (11, [.int 0, .ref m_tape, .int 0, .int 0, .int 0, .ref m_read, .int 0, .int 0, .int 0, .ref m_tets, .int 0, .int 0, .int 0, .int 0, .int 0, .int 0, .int 0, .int 0, .ref m_primes, .ref m_often, .ref m_normal, .ref m_termM, .ref m_termP, .ref m_termV, .ref m_sumFrom, .ref m_sumMany, .int 0, .int 0, .int 0, .int 0, .ref m_part, .ref m_fair, .ref m_heap, .ref m_pickTet, .ref m_pickEdge, .ref m_base, .ref m_baseM, .ref m_baseP, .ref m_rowsOf, .int 0, .ref m_grid, .ref m_times, .ref m_boxes, .ref m_cameFrom, .ref m_cameBy, .ref m_steps, .ref m_sides, .int 0, .int (-1), .ref m_next, .ref m_cube, .ref m_ways])), (m_sumFrom, .inl (cI, 6, (.inl (fun _ => 0)))), (m_sumMany, .inl (cI, 6, (.inl (fun _ => 0))))]) [0, 1, 2] rfl
  have hDc := hD.sub (ws' := [(m0, .inr (11, [.int 0, .ref m_tape, .int 0, .int 0, .int 0, .ref m_read, .int 0, .int 0, .int 0, .ref m_tets, .int 0, .int 0, .int 0, .int 0, .int 0, .int 0, .int 0, .int 0, .ref m_primes, .ref m_often, .ref m_normal, .ref m_termM, .ref m_termP, .ref m_termV, .ref m_sumFrom, .ref m_sumMany, .int 0, .int 0, .int 0, .int 0, .ref m_part, .ref m_fair, .ref m_heap, .ref m_pickTet, .ref m_pickEdge, .ref m_base, .ref m_baseM, .ref m_baseP, .ref m_rowsOf, .int 0, .ref m_grid, .ref m_times, .ref m_boxes, .ref m_cameFrom, .ref m_cameBy, .ref m_steps, .ref m_sides, .int 0, .int (-1), .ref m_next, .ref m_cube, .ref m_ways])), (m_sumFrom, .inl (cI, 6, (.inl (fun _ => 0)))), (m_sumMany, .inl (cI, 6, (.inl (fun _ => 0))))]) [0, 1, 2] (by decide) rfl
  have hFc := va_free (wc := [(m0, .inr (11, [.int 0, .ref m_tape, .int 0, .int 0, .int 0, .ref m_read, .int 0, .int 0, .int 0, .ref m_tets, .int 0, .int 0, .int 0, .int 0, .int 0, .int 0, .int 0, .int 0, .ref m_primes, .ref m_often, .ref m_normal, .ref m_termM, .ref m_termP, .ref m_termV, .ref m_sumFrom, .ref m_sumMany, .int 0, .int 0, .int 0, .int 0, .ref m_part, .ref m_fair, .ref m_heap, .ref m_pickTet, .ref m_pickEdge, .ref m_base, .ref m_baseM, .ref m_baseP, .ref m_rowsOf, .int 0, .ref m_grid, .ref m_times, .ref m_boxes, .ref m_cameFrom, .ref m_cameBy, .ref m_steps, .ref m_sides, .int 0, .int (-1), .ref m_next, .ref m_cube, .ref m_ways])), (m_sumFrom, .inl (cI, 6, (.inl (fun _ => 0)))), (m_sumMany, .inl (cI, 6, (.inl (fun _ => 0))))]) hD hS hA [0, 1, 2] rfl
  refine va_calli (va_runV (As := [.int y1, .int y2, .int y3]) (rest := [.int r_7]) ⟨hx, hb, hml, hown, hts⟩ (c_X11_much l dC dI cB cI cJ H.size m0 m_tape m_read m_tets m_primes m_often m_normal m_termM m_termP m_termV m_sumFrom m_sumMany m_part m_fair m_heap m_pickTet m_pickEdge m_base m_baseM m_baseP m_rowsOf m_grid m_times m_boxes m_cameFrom m_cameBy m_steps m_sides m_next m_cube m_ways y1 y2 y3) (cwV 3 hts hL_law_X11_much rfl rfl rfl (by decide +kernel) ⟨Nat.le_of_ble_eq_true rfl, Nat.le_of_ble_eq_true rfl⟩) ⟨fun a U g mk q => by obtain ⟨q0, q1, qP, qK, qD⟩ := q; exact ⟨q0, q1, qP, va_K.moved (u := U) (U := U.calling g mk a) (Vm.Alike.refl U.vm) qK, qD⟩, va_recv hK hP (ci := 11) (q0 := 0) rfl rfl, fun U hU hW => ⟨rfl, by rw [hU], by rw [hU]; exact hPc, va_K.moved hW.alike hK, hDc.weaken (fun _ _ _ _ => trivial)⟩⟩ rfl rfl hl.1 rfl (lv_room (Nat.le_of_ble_eq_true rfl)) dL_law_711 ⟨Nat.le_of_ble_eq_true rfl, Nat.le_of_ble_eq_true rfl⟩) hS (fun q _ h => hFc q h) hFc (fun r_14 u t H1 locs ht hvm hw hB hz1 hk1 hS => ?_)
  have hP1 : va_P (dC, dI) vwCl [] H1 := fun k q h => by simp at h
  have hD1 : va_D (va_A [(m0, .inr (11, [.int 0, .ref m_tape, .int 0, .int 0, .int 0, .ref m_read, .int 0, .int 0, .int 0, .ref m_tets, .int 0, .int 0, .int 0, .int 0, .int 0, .int 0, .int 0, .int 0, .ref m_primes, .ref m_often, .ref m_normal, .ref m_termM, .ref m_termP, .ref m_termV, .ref m_sumFrom, .ref m_sumMany, .int 0, .int 0, .int 0, .int 0, .ref m_part, .ref m_fair, .ref m_heap, .ref m_pickTet, .ref m_pickEdge, .ref m_base, .ref m_baseM, .ref m_baseP, .ref m_rowsOf, .int 0, .ref m_grid, .ref m_times, .ref m_boxes, .ref m_cameFrom, .ref m_cameBy, .ref m_steps, .ref m_sides, .int 0, .int (-1), .ref m_next, .ref m_cube, .ref m_ways])), (m_sumFrom, .inl (cI, 6, (.inl (fun _ => 0)))), (m_sumMany, .inl (cI, 6, (.inl (fun _ => 0))))] H.size) [] := ⟨fun i j p q h => by simp at h, fun k q h => by simp at h⟩
  obtain ⟨hP, hD⟩ := va_join (wr := []) (w1 := []) hP hD [0, 1, 2] [] rfl rfl (by decide) (by decide) hk1 hFc hP1 hD1
  generalize H1 = H at hP hS ⊢
  have hP : va_P (dC, dI) vwCl [] H := hP
  have hD : va_D (fun q : Nat => s.heap.size ≤ q) [] := hD
  have hr_14 := hw
  refine lv_icmp_eq (tgt := 1744) hx hb dL_law_714 (by decide) (fun _ => ?_) (fun c => absurd (hr_7.trans hr_14.symm) c)
  refine W.widen (k := 600002) (n := 7302232) (Nat.le_of_ble_eq_true rfl) (Nat.le_of_ble_eq_true rfl) ?_
  exact la_end l C0 H _ hS ls hl
set_option maxHeartbeats 8000000 in
set_option maxRecDepth 100000 in
theorem la_12 {p : Program} {e : Env} {s : State} {m : MethodId} {below : List Frame} {meth : Method} {c : Code} (l : Launch) {b : Nat} {xs : Nat → Int32} (C0 : lw_At p s m meth c b 7 xs) (dC : Nat → ClassId) (dI : Nat → Nat → Nat) (cB cI cJ : ClassId) {x0 xTape xReader xBag xBld xAng xSum xPik xHan xIns xShr xSta xTur bC bS bX bW bP sM sP sA m0 m_tape m_read m_tets m_primes m_often m_normal m_termM m_termP m_termV m_sumFrom m_sumMany m_part m_fair m_heap m_pickTet m_pickEdge m_base m_baseM m_baseP m_rowsOf m_grid m_times m_boxes m_cameFrom m_cameBy m_steps m_sides m_next m_cube m_ways o0 : Nat} (H : Heap) (locs : List Loc) (hK : va_K (dC, dI) vwCl [(cB, .byte), (cI, .int), (cJ, .long)] s) (hP : va_P (dC, dI) vwCl [(x0, .inr (10, [.ref xTape, .ref xReader, .ref xBag, .ref xBld, .ref xAng, .ref xSum, .ref xPik, .int 0, .ref xHan, .ref xIns, .ref xShr, .ref xSta, .ref xTur])), (xBag, .inr (1, [.ref bC, .ref bS, .ref bX, .ref bW, .ref bP, .int 0])), (xSum, .inr (8, [.ref sM, .ref sP, .ref sA, .int 0])), (m0, .inr (11, [.int 0, .ref m_tape, .int 0, .int 0, .int 0, .ref m_read, .int 0, .int 0, .int 0, .ref m_tets, .int 0, .int 0, .int 0, .int 0, .int 0, .int 0, .int 0, .int 0, .ref m_primes, .ref m_often, .ref m_normal, .ref m_termM, .ref m_termP, .ref m_termV, .ref m_sumFrom, .ref m_sumMany, .int 0, .int 0, .int 0, .int 0, .ref m_part, .ref m_fair, .ref m_heap, .ref m_pickTet, .ref m_pickEdge, .ref m_base, .ref m_baseM, .ref m_baseP, .ref m_rowsOf, .int 0, .ref m_grid, .ref m_times, .ref m_boxes, .ref m_cameFrom, .ref m_cameBy, .ref m_steps, .ref m_sides, .int 0, .int (-1), .ref m_next, .ref m_cube, .ref m_ways])), (m_sumFrom, .inl (cI, 6, (.inl (fun _ => 0)))), (m_sumMany, .inl (cI, 6, (.inl (fun _ => 0))))] H) (hD : va_D (fun q : Nat => s.heap.size ≤ q) [(x0, .inr (10, [.ref xTape, .ref xReader, .ref xBag, .ref xBld, .ref xAng, .ref xSum, .ref xPik, .int 0, .ref xHan, .ref xIns, .ref xShr, .ref xSta, .ref xTur])), (xBag, .inr (1, [.ref bC, .ref bS, .ref bX, .ref bW, .ref bP, .int 0])), (xSum, .inr (8, [.ref sM, .ref sP, .ref sA, .int 0])), (m0, .inr (11, [.int 0, .ref m_tape, .int 0, .int 0, .int 0, .ref m_read, .int 0, .int 0, .int 0, .ref m_tets, .int 0, .int 0, .int 0, .int 0, .int 0, .int 0, .int 0, .int 0, .ref m_primes, .ref m_often, .ref m_normal, .ref m_termM, .ref m_termP, .ref m_termV, .ref m_sumFrom, .ref m_sumMany, .int 0, .int 0, .int 0, .int 0, .ref m_part, .ref m_fair, .ref m_heap, .ref m_pickTet, .ref m_pickEdge, .ref m_base, .ref m_baseM, .ref m_baseP, .ref m_rowsOf, .int 0, .ref m_grid, .ref m_times, .ref m_boxes, .ref m_cameFrom, .ref m_cameBy, .ref m_steps, .ref m_sides, .int 0, .int (-1), .ref m_next, .ref m_cube, .ref m_ways])), (m_sumFrom, .inl (cI, 6, (.inl (fun _ => 0)))), (m_sumMany, .inl (cI, 6, (.inl (fun _ => 0))))]) (hS : va_S (fun q : Nat => s.heap.size ≤ q) s.heap H locs) (ls : Array Slot) (hl : lv_has ls 7 [(4, .int 0), (3, .ref o0), (2, .ref m0), (1, .ref x0), (0, .ref b)]) : W p l e room_1 s m #[Value.ref b] below meth c H locs 82 28049 (lw_Z below #[Value.ref b] s) (F0 m 719 ls []) := by
  obtain ⟨hx, hb, hr, hml, hown, htb, hX, hbl, hlocks, hgv⟩ := id C0
  have hts := htb
  have hbA : ¬ (fun q : Nat => s.heap.size ≤ q) b := Nat.not_le.mpr hbl
  have hA : ∀ q : Nat, s.heap.size ≤ q → (fun q : Nat => s.heap.size ≤ q) q := fun _ h => h
  obtain ⟨y1, hy1⟩ : ∃ y : Int32, y = xs (1 : Int32).toNatClampNeg := ⟨_, rfl⟩
  obtain ⟨y2, hy2⟩ : ∃ y : Int32, y = xs (2 : Int32).toNatClampNeg := ⟨_, rfl⟩
  refine lv_aload_n hx hb dL_law_719 rfl (lv_at hl 3 rfl) ?_
  refine lv_aload_n hx hb dL_law_720 rfl (lv_at hl 4 rfl) ?_
  refine lv_iload hx hb dL_law_721 (lv_at hl 0 rfl) ?_
  refine lv_iconst (v := 1) hx hb dL_law_723 (by decide) ?_
  refine lv_iadd hx hb dL_law_724 ?_
  refine lv_topi (fun x_1 ex_1 => ?_)
  obtain rfl : x_1 = 1 := ex_1.trans (by first | rfl | decide)
  refine va_sld hx hb hX hbl hbA hS (by show ¬ (_ ∨ _); decide) dL_law_725 ?_
  refine lv_topi (fun x_2 ex_2 => ?_)
  obtain rfl : y1 = x_2 := hy1.trans ex_2.symm
  refine lv_aload_n hx hb dL_law_726 rfl (lv_at hl 4 rfl) ?_
  refine lv_iload hx hb dL_law_727 (lv_at hl 0 rfl) ?_
  refine lv_iconst (v := 2) hx hb dL_law_729 (by decide) ?_
  refine lv_iadd hx hb dL_law_730 ?_
  refine lv_topi (fun x_3 ex_3 => ?_)
  obtain rfl : x_3 = 2 := ex_3.trans (by first | rfl | decide)
  refine va_sld hx hb hX hbl hbA hS (by show ¬ (_ ∨ _); decide) dL_law_731 ?_
  refine lv_topi (fun x_4 ex_4 => ?_)
  obtain rfl : y2 = x_4 := hy2.trans ex_4.symm
  have hPc := hP.sub (ws' := [(x0, .inr (10, [.ref xTape, .ref xReader, .ref xBag, .ref xBld, .ref xAng, .ref xSum, .ref xPik, .int 0, .ref xHan, .ref xIns, .ref xShr, .ref xSta, .ref xTur])), (xBag, .inr (1, [.ref bC, .ref bS, .ref bX, .ref bW, .ref bP, .int 0])), (xSum, .inr (8, [.ref sM, .ref sP, .ref sA, .int 0]))]) [0, 1, 2] rfl
  have hDc := hD.sub (ws' := [(x0, .inr (10, [.ref xTape, .ref xReader, .ref xBag, .ref xBld, .ref xAng, .ref xSum, .ref xPik, .int 0, .ref xHan, .ref xIns, .ref xShr, .ref xSta, .ref xTur])), (xBag, .inr (1, [.ref bC, .ref bS, .ref bX, .ref bW, .ref bP, .int 0])), (xSum, .inr (8, [.ref sM, .ref sP, .ref sA, .int 0]))]) [0, 1, 2] (by decide) rfl
  have hFc := va_free (wc := [(x0, .inr (10, [.ref xTape, .ref xReader, .ref xBag, .ref xBld, .ref xAng, .ref xSum, .ref xPik, .int 0, .ref xHan, .ref xIns, .ref xShr, .ref xSta, .ref xTur])), (xBag, .inr (1, [.ref bC, .ref bS, .ref bX, .ref bW, .ref bP, .int 0])), (xSum, .inr (8, [.ref sM, .ref sP, .ref sA, .int 0]))]) hD hS hA [0, 1, 2] rfl
  refine va_calli (va_runV (As := [.int y1, .int y2]) (rest := []) ⟨hx, hb, hml, hown, hts⟩ (c_X10_alike l dC dI cB cI cJ H.size x0 xTape xReader xBag xBld xAng xSum xPik xHan xIns xShr xSta xTur bC bS bX bW bP sM sP sA y1 y2) (cwV 2 hts hL_law_X10_alike rfl rfl rfl (by decide +kernel) ⟨Nat.le_of_ble_eq_true rfl, Nat.le_of_ble_eq_true rfl⟩) ⟨fun a U g mk q => by obtain ⟨q0, q1, qP, qK, qD⟩ := q; exact ⟨q0, q1, qP, va_K.moved (u := U) (U := U.calling g mk a) (Vm.Alike.refl U.vm) qK, qD⟩, va_recv hK hP (ci := 10) (q0 := 0) rfl rfl, fun U hU hW => ⟨rfl, by rw [hU], by rw [hU]; exact hPc, va_K.moved hW.alike hK, hDc.weaken (fun _ _ _ _ => trivial)⟩⟩ rfl rfl hl.1 rfl (lv_room (Nat.le_of_ble_eq_true rfl)) dL_law_732 ⟨Nat.le_of_ble_eq_true rfl, Nat.le_of_ble_eq_true rfl⟩) hS (fun q _ h => hFc q h) hFc (fun r_5 u t H1 locs ht hvm hw hB hz1 hk1 hS => ?_)
  have hP1 : va_P (dC, dI) vwCl [] H1 := fun k q h => by simp at h
  have hD1 : va_D (va_A [(x0, .inr (10, [.ref xTape, .ref xReader, .ref xBag, .ref xBld, .ref xAng, .ref xSum, .ref xPik, .int 0, .ref xHan, .ref xIns, .ref xShr, .ref xSta, .ref xTur])), (xBag, .inr (1, [.ref bC, .ref bS, .ref bX, .ref bW, .ref bP, .int 0])), (xSum, .inr (8, [.ref sM, .ref sP, .ref sA, .int 0]))] H.size) [] := ⟨fun i j p q h => by simp at h, fun k q h => by simp at h⟩
  obtain ⟨hP, hD⟩ := va_join (wr := [(m0, .inr (11, [.int 0, .ref m_tape, .int 0, .int 0, .int 0, .ref m_read, .int 0, .int 0, .int 0, .ref m_tets, .int 0, .int 0, .int 0, .int 0, .int 0, .int 0, .int 0, .int 0, .ref m_primes, .ref m_often, .ref m_normal, .ref m_termM, .ref m_termP, .ref m_termV, .ref m_sumFrom, .ref m_sumMany, .int 0, .int 0, .int 0, .int 0, .ref m_part, .ref m_fair, .ref m_heap, .ref m_pickTet, .ref m_pickEdge, .ref m_base, .ref m_baseM, .ref m_baseP, .ref m_rowsOf, .int 0, .ref m_grid, .ref m_times, .ref m_boxes, .ref m_cameFrom, .ref m_cameBy, .ref m_steps, .ref m_sides, .int 0, .int (-1), .ref m_next, .ref m_cube, .ref m_ways])), (m_sumFrom, .inl (cI, 6, (.inl (fun _ => 0)))), (m_sumMany, .inl (cI, 6, (.inl (fun _ => 0))))]) (w1 := []) hP hD [0, 1, 2] [3, 4, 5] rfl rfl (by decide) (by decide) hk1 hFc hP1 hD1
  generalize H1 = H at hP hS ⊢
  have hP : va_P (dC, dI) vwCl [(m0, .inr (11, [.int 0, .ref m_tape, .int 0, .int 0, .int 0, .ref m_read, .int 0, .int 0, .int 0, .ref m_tets, .int 0, .int 0, .int 0, .int 0, .int 0, .int 0, .int 0, .int 0, .ref m_primes, .ref m_often, .ref m_normal, .ref m_termM, .ref m_termP, .ref m_termV, .ref m_sumFrom, .ref m_sumMany, .int 0, .int 0, .int 0, .int 0, .ref m_part, .ref m_fair, .ref m_heap, .ref m_pickTet, .ref m_pickEdge, .ref m_base, .ref m_baseM, .ref m_baseP, .ref m_rowsOf, .int 0, .ref m_grid, .ref m_times, .ref m_boxes, .ref m_cameFrom, .ref m_cameBy, .ref m_steps, .ref m_sides, .int 0, .int (-1), .ref m_next, .ref m_cube, .ref m_ways])), (m_sumFrom, .inl (cI, 6, (.inl (fun _ => 0)))), (m_sumMany, .inl (cI, 6, (.inl (fun _ => 0))))] H := hP
  have hD : va_D (fun q : Nat => s.heap.size ≤ q) [(m0, .inr (11, [.int 0, .ref m_tape, .int 0, .int 0, .int 0, .ref m_read, .int 0, .int 0, .int 0, .ref m_tets, .int 0, .int 0, .int 0, .int 0, .int 0, .int 0, .int 0, .int 0, .ref m_primes, .ref m_often, .ref m_normal, .ref m_termM, .ref m_termP, .ref m_termV, .ref m_sumFrom, .ref m_sumMany, .int 0, .int 0, .int 0, .int 0, .ref m_part, .ref m_fair, .ref m_heap, .ref m_pickTet, .ref m_pickEdge, .ref m_base, .ref m_baseM, .ref m_baseP, .ref m_rowsOf, .int 0, .ref m_grid, .ref m_times, .ref m_boxes, .ref m_cameFrom, .ref m_cameBy, .ref m_steps, .ref m_sides, .int 0, .int (-1), .ref m_next, .ref m_cube, .ref m_ways])), (m_sumFrom, .inl (cI, 6, (.inl (fun _ => 0)))), (m_sumMany, .inl (cI, 6, (.inl (fun _ => 0))))] := hD
  have hr_5 := hw
  refine lv_aload_n hx hb dL_law_735 rfl (lv_at hl 2 rfl) ?_
  refine lv_aload_n hx hb dL_law_736 rfl (lv_at hl 4 rfl) ?_
  refine lv_iload hx hb dL_law_737 (lv_at hl 0 rfl) ?_
  refine lv_iconst (v := 1) hx hb dL_law_739 (by decide) ?_
  refine lv_iadd hx hb dL_law_740 ?_
  refine lv_topi (fun x_6 ex_6 => ?_)
  obtain rfl : x_6 = 1 := ex_6.trans (by first | rfl | decide)
  refine va_sld hx hb hX hbl hbA hS (by show ¬ (_ ∨ _); decide) dL_law_741 ?_
  refine lv_topi (fun x_7 ex_7 => ?_)
  obtain rfl : y1 = x_7 := hy1.trans ex_7.symm
  refine lv_aload_n hx hb dL_law_742 rfl (lv_at hl 4 rfl) ?_
  refine lv_iload hx hb dL_law_743 (lv_at hl 0 rfl) ?_
  refine lv_iconst (v := 2) hx hb dL_law_745 (by decide) ?_
  refine lv_iadd hx hb dL_law_746 ?_
  refine lv_topi (fun x_8 ex_8 => ?_)
  obtain rfl : x_8 = 2 := ex_8.trans (by first | rfl | decide)
  refine va_sld hx hb hX hbl hbA hS (by show ¬ (_ ∨ _); decide) dL_law_747 ?_
  refine lv_topi (fun x_9 ex_9 => ?_)
  obtain rfl : y2 = x_9 := hy2.trans ex_9.symm
  have hPc := hP.sub (ws' := [(m0, .inr (11, [.int 0, .ref m_tape, .int 0, .int 0, .int 0, .ref m_read, .int 0, .int 0, .int 0, .ref m_tets, .int 0, .int 0, .int 0, .int 0, .int 0, .int 0, .int 0, .int 0, .ref m_primes, .ref m_often, .ref m_normal, .ref m_termM, .ref m_termP, .ref m_termV, .ref m_sumFrom, .ref m_sumMany, .int 0, .int 0, .int 0, .int 0, .ref m_part, .ref m_fair, .ref m_heap, .ref m_pickTet, .ref m_pickEdge, .ref m_base, .ref m_baseM, .ref m_baseP, .ref m_rowsOf, .int 0, .ref m_grid, .ref m_times, .ref m_boxes, .ref m_cameFrom, .ref m_cameBy, .ref m_steps, .ref m_sides, .int 0, .int (-1), .ref m_next, .ref m_cube, .ref m_ways])), (m_sumFrom, .inl (cI, 6, (.inl (fun _ => 0)))), (m_sumMany, .inl (cI, 6, (.inl (fun _ => 0))))]) [0, 1, 2] rfl
  have hDc := hD.sub (ws' := [(m0, .inr (11, [.int 0, .ref m_tape, .int 0, .int 0, .int 0, .ref m_read, .int 0, .int 0, .int 0, .ref m_tets, .int 0, .int 0, .int 0, .int 0, .int 0, .int 0, .int 0, .int 0, .ref m_primes, .ref m_often, .ref m_normal, .ref m_termM, .ref m_termP, .ref m_termV, .ref m_sumFrom, .ref m_sumMany, .int 0, .int 0, .int 0, .int 0, .ref m_part, .ref m_fair, .ref m_heap, .ref m_pickTet, .ref m_pickEdge, .ref m_base, .ref m_baseM, .ref m_baseP, .ref m_rowsOf, .int 0, .ref m_grid, .ref m_times, .ref m_boxes, .ref m_cameFrom, .ref m_cameBy, .ref m_steps, .ref m_sides, .int 0, .int (-1), .ref m_next, .ref m_cube, .ref m_ways])), (m_sumFrom, .inl (cI, 6, (.inl (fun _ => 0)))), (m_sumMany, .inl (cI, 6, (.inl (fun _ => 0))))]) [0, 1, 2] (by decide) rfl
  have hFc := va_free (wc := [(m0, .inr (11, [.int 0, .ref m_tape, .int 0, .int 0, .int 0, .ref m_read, .int 0, .int 0, .int 0, .ref m_tets, .int 0, .int 0, .int 0, .int 0, .int 0, .int 0, .int 0, .int 0, .ref m_primes, .ref m_often, .ref m_normal, .ref m_termM, .ref m_termP, .ref m_termV, .ref m_sumFrom, .ref m_sumMany, .int 0, .int 0, .int 0, .int 0, .ref m_part, .ref m_fair, .ref m_heap, .ref m_pickTet, .ref m_pickEdge, .ref m_base, .ref m_baseM, .ref m_baseP, .ref m_rowsOf, .int 0, .ref m_grid, .ref m_times, .ref m_boxes, .ref m_cameFrom, .ref m_cameBy, .ref m_steps, .ref m_sides, .int 0, .int (-1), .ref m_next, .ref m_cube, .ref m_ways])), (m_sumFrom, .inl (cI, 6, (.inl (fun _ => 0)))), (m_sumMany, .inl (cI, 6, (.inl (fun _ => 0))))]) hD hS hA [0, 1, 2] rfl
  refine va_calli (va_runV (As := [.int y1, .int y2]) (rest := [.int r_5]) ⟨hx, hb, hml, hown, hts⟩ (c_X11_alike l dC dI cB cI cJ H.size m0 m_tape m_read m_tets m_primes m_often m_normal m_termM m_termP m_termV m_sumFrom m_sumMany m_part m_fair m_heap m_pickTet m_pickEdge m_base m_baseM m_baseP m_rowsOf m_grid m_times m_boxes m_cameFrom m_cameBy m_steps m_sides m_next m_cube m_ways y1 y2) (cwV 2 hts hL_law_X11_alike rfl rfl rfl (by decide +kernel) ⟨Nat.le_of_ble_eq_true rfl, Nat.le_of_ble_eq_true rfl⟩) ⟨fun a U g mk q => by obtain ⟨q0, q1, qP, qK, qD⟩ := q; exact ⟨q0, q1, qP, va_K.moved (u := U) (U := U.calling g mk a) (Vm.Alike.refl U.vm) qK, qD⟩, va_recv hK hP (ci := 11) (q0 := 0) rfl rfl, fun U hU hW => ⟨rfl, by rw [hU], by rw [hU]; exact hPc, va_K.moved hW.alike hK, hDc.weaken (fun _ _ _ _ => trivial)⟩⟩ rfl rfl hl.1 rfl (lv_room (Nat.le_of_ble_eq_true rfl)) dL_law_748 ⟨Nat.le_of_ble_eq_true rfl, Nat.le_of_ble_eq_true rfl⟩) hS (fun q _ h => hFc q h) hFc (fun r_10 u t H1 locs ht hvm hw hB hz1 hk1 hS => ?_)
  have hP1 : va_P (dC, dI) vwCl [] H1 := fun k q h => by simp at h
  have hD1 : va_D (va_A [(m0, .inr (11, [.int 0, .ref m_tape, .int 0, .int 0, .int 0, .ref m_read, .int 0, .int 0, .int 0, .ref m_tets, .int 0, .int 0, .int 0, .int 0, .int 0, .int 0, .int 0, .int 0, .ref m_primes, .ref m_often, .ref m_normal, .ref m_termM, .ref m_termP, .ref m_termV, .ref m_sumFrom, .ref m_sumMany, .int 0, .int 0, .int 0, .int 0, .ref m_part, .ref m_fair, .ref m_heap, .ref m_pickTet, .ref m_pickEdge, .ref m_base, .ref m_baseM, .ref m_baseP, .ref m_rowsOf, .int 0, .ref m_grid, .ref m_times, .ref m_boxes, .ref m_cameFrom, .ref m_cameBy, .ref m_steps, .ref m_sides, .int 0, .int (-1), .ref m_next, .ref m_cube, .ref m_ways])), (m_sumFrom, .inl (cI, 6, (.inl (fun _ => 0)))), (m_sumMany, .inl (cI, 6, (.inl (fun _ => 0))))] H.size) [] := ⟨fun i j p q h => by simp at h, fun k q h => by simp at h⟩
  obtain ⟨hP, hD⟩ := va_join (wr := []) (w1 := []) hP hD [0, 1, 2] [] rfl rfl (by decide) (by decide) hk1 hFc hP1 hD1
  generalize H1 = H at hP hS ⊢
  have hP : va_P (dC, dI) vwCl [] H := hP
  have hD : va_D (fun q : Nat => s.heap.size ≤ q) [] := hD
  have hr_10 := hw
  refine lv_icmp_eq (tgt := 1744) hx hb dL_law_751 (by decide) (fun _ => ?_) (fun c => absurd (hr_5.trans hr_10.symm) c)
  refine W.widen (k := 600002) (n := 7302232) (Nat.le_of_ble_eq_true rfl) (Nat.le_of_ble_eq_true rfl) ?_
  exact la_end l C0 H _ hS ls hl
set_option maxHeartbeats 8000000 in
set_option maxRecDepth 100000 in
theorem la_13 {p : Program} {e : Env} {s : State} {m : MethodId} {below : List Frame} {meth : Method} {c : Code} (l : Launch) {b : Nat} {xs : Nat → Int32} (C0 : lw_At p s m meth c b 7 xs) (dC : Nat → ClassId) (dI : Nat → Nat → Nat) (cB cI cJ : ClassId) {x0 xTape xReader xBag xBld xAng xSum xPik xHan xIns xShr xSta xTur sM sP sA m0 m_tape m_read m_tets m_primes m_often m_normal m_termM m_termP m_termV m_sumFrom m_sumMany m_part m_fair m_heap m_pickTet m_pickEdge m_base m_baseM m_baseP m_rowsOf m_grid m_times m_boxes m_cameFrom m_cameBy m_steps m_sides m_next m_cube m_ways o0 : Nat} (H : Heap) (locs : List Loc) (hK : va_K (dC, dI) vwCl [(cB, .byte), (cI, .int), (cJ, .long)] s) (hP : va_P (dC, dI) vwCl [(x0, .inr (10, [.ref xTape, .ref xReader, .ref xBag, .ref xBld, .ref xAng, .ref xSum, .ref xPik, .int 0, .ref xHan, .ref xIns, .ref xShr, .ref xSta, .ref xTur])), (xSum, .inr (8, [.ref sM, .ref sP, .ref sA, .int 0])), (m0, .inr (11, [.int 0, .ref m_tape, .int 0, .int 0, .int 0, .ref m_read, .int 0, .int 0, .int 0, .ref m_tets, .int 0, .int 0, .int 0, .int 0, .int 0, .int 0, .int 0, .int 0, .ref m_primes, .ref m_often, .ref m_normal, .ref m_termM, .ref m_termP, .ref m_termV, .ref m_sumFrom, .ref m_sumMany, .int 0, .int 0, .int 0, .int 0, .ref m_part, .ref m_fair, .ref m_heap, .ref m_pickTet, .ref m_pickEdge, .ref m_base, .ref m_baseM, .ref m_baseP, .ref m_rowsOf, .int 0, .ref m_grid, .ref m_times, .ref m_boxes, .ref m_cameFrom, .ref m_cameBy, .ref m_steps, .ref m_sides, .int 0, .int (-1), .ref m_next, .ref m_cube, .ref m_ways])), (m_sumFrom, .inl (cI, 6, (.inl (fun _ => 0)))), (m_sumMany, .inl (cI, 6, (.inl (fun _ => 0))))] H) (hD : va_D (fun q : Nat => s.heap.size ≤ q) [(x0, .inr (10, [.ref xTape, .ref xReader, .ref xBag, .ref xBld, .ref xAng, .ref xSum, .ref xPik, .int 0, .ref xHan, .ref xIns, .ref xShr, .ref xSta, .ref xTur])), (xSum, .inr (8, [.ref sM, .ref sP, .ref sA, .int 0])), (m0, .inr (11, [.int 0, .ref m_tape, .int 0, .int 0, .int 0, .ref m_read, .int 0, .int 0, .int 0, .ref m_tets, .int 0, .int 0, .int 0, .int 0, .int 0, .int 0, .int 0, .int 0, .ref m_primes, .ref m_often, .ref m_normal, .ref m_termM, .ref m_termP, .ref m_termV, .ref m_sumFrom, .ref m_sumMany, .int 0, .int 0, .int 0, .int 0, .ref m_part, .ref m_fair, .ref m_heap, .ref m_pickTet, .ref m_pickEdge, .ref m_base, .ref m_baseM, .ref m_baseP, .ref m_rowsOf, .int 0, .ref m_grid, .ref m_times, .ref m_boxes, .ref m_cameFrom, .ref m_cameBy, .ref m_steps, .ref m_sides, .int 0, .int (-1), .ref m_next, .ref m_cube, .ref m_ways])), (m_sumFrom, .inl (cI, 6, (.inl (fun _ => 0)))), (m_sumMany, .inl (cI, 6, (.inl (fun _ => 0))))]) (hS : va_S (fun q : Nat => s.heap.size ≤ q) s.heap H locs) (ls : Array Slot) (hl : lv_has ls 7 [(4, .int 0), (3, .ref o0), (2, .ref m0), (1, .ref x0), (0, .ref b)]) : W p l e room_1 s m #[Value.ref b] below meth c H locs 82 28049 (lw_Z below #[Value.ref b] s) (F0 m 756 ls []) := by
  obtain ⟨hx, hb, hr, hml, hown, htb, hX, hbl, hlocks, hgv⟩ := id C0
  have hts := htb
  have hbA : ¬ (fun q : Nat => s.heap.size ≤ q) b := Nat.not_le.mpr hbl
  have hA : ∀ q : Nat, s.heap.size ≤ q → (fun q : Nat => s.heap.size ≤ q) q := fun _ h => h
  obtain ⟨y1, hy1⟩ : ∃ y : Int32, y = xs (1 : Int32).toNatClampNeg := ⟨_, rfl⟩
  obtain ⟨y2, hy2⟩ : ∃ y : Int32, y = xs (2 : Int32).toNatClampNeg := ⟨_, rfl⟩
  obtain ⟨y3, hy3⟩ : ∃ y : Int32, y = xs (3 : Int32).toNatClampNeg := ⟨_, rfl⟩
  refine lv_aload_n hx hb dL_law_756 rfl (lv_at hl 3 rfl) ?_
  refine lv_aload_n hx hb dL_law_757 rfl (lv_at hl 4 rfl) ?_
  refine lv_iload hx hb dL_law_758 (lv_at hl 0 rfl) ?_
  refine lv_iconst (v := 1) hx hb dL_law_760 (by decide) ?_
  refine lv_iadd hx hb dL_law_761 ?_
  refine lv_topi (fun x_1 ex_1 => ?_)
  obtain rfl : x_1 = 1 := ex_1.trans (by first | rfl | decide)
  refine va_sld hx hb hX hbl hbA hS (by show ¬ (_ ∨ _); decide) dL_law_762 ?_
  refine lv_topi (fun x_2 ex_2 => ?_)
  obtain rfl : y1 = x_2 := hy1.trans ex_2.symm
  refine lv_aload_n hx hb dL_law_763 rfl (lv_at hl 4 rfl) ?_
  refine lv_iload hx hb dL_law_764 (lv_at hl 0 rfl) ?_
  refine lv_iconst (v := 2) hx hb dL_law_766 (by decide) ?_
  refine lv_iadd hx hb dL_law_767 ?_
  refine lv_topi (fun x_3 ex_3 => ?_)
  obtain rfl : x_3 = 2 := ex_3.trans (by first | rfl | decide)
  refine va_sld hx hb hX hbl hbA hS (by show ¬ (_ ∨ _); decide) dL_law_768 ?_
  refine lv_topi (fun x_4 ex_4 => ?_)
  obtain rfl : y2 = x_4 := hy2.trans ex_4.symm
  refine lv_aload_n hx hb dL_law_769 rfl (lv_at hl 4 rfl) ?_
  refine lv_iload hx hb dL_law_770 (lv_at hl 0 rfl) ?_
  refine lv_iconst (v := 3) hx hb dL_law_772 (by decide) ?_
  refine lv_iadd hx hb dL_law_773 ?_
  refine lv_topi (fun x_5 ex_5 => ?_)
  obtain rfl : x_5 = 3 := ex_5.trans (by first | rfl | decide)
  refine va_sld hx hb hX hbl hbA hS (by show ¬ (_ ∨ _); decide) dL_law_774 ?_
  refine lv_topi (fun x_6 ex_6 => ?_)
  obtain rfl : y3 = x_6 := hy3.trans ex_6.symm
  have hPc := hP.sub (ws' := [(x0, .inr (10, [.ref xTape, .ref xReader, .ref xBag, .ref xBld, .ref xAng, .ref xSum, .ref xPik, .int 0, .ref xHan, .ref xIns, .ref xShr, .ref xSta, .ref xTur])), (xSum, .inr (8, [.ref sM, .ref sP, .ref sA, .int 0]))]) [0, 1] rfl
  have hDc := hD.sub (ws' := [(x0, .inr (10, [.ref xTape, .ref xReader, .ref xBag, .ref xBld, .ref xAng, .ref xSum, .ref xPik, .int 0, .ref xHan, .ref xIns, .ref xShr, .ref xSta, .ref xTur])), (xSum, .inr (8, [.ref sM, .ref sP, .ref sA, .int 0]))]) [0, 1] (by decide) rfl
  have hFc := va_free (wc := [(x0, .inr (10, [.ref xTape, .ref xReader, .ref xBag, .ref xBld, .ref xAng, .ref xSum, .ref xPik, .int 0, .ref xHan, .ref xIns, .ref xShr, .ref xSta, .ref xTur])), (xSum, .inr (8, [.ref sM, .ref sP, .ref sA, .int 0]))]) hD hS hA [0, 1] rfl
  refine va_calli (va_runV (As := [.int y1, .int y2, .int y3]) (rest := []) ⟨hx, hb, hml, hown, hts⟩ (c_X10_unlike l dC dI cB cI cJ H.size x0 xTape xReader xBag xBld xAng xSum xPik xHan xIns xShr xSta xTur sM sP sA y1 y2 y3) (cwV 3 hts hL_law_X10_unlike rfl rfl rfl (by decide +kernel) ⟨Nat.le_of_ble_eq_true rfl, Nat.le_of_ble_eq_true rfl⟩) ⟨fun a U g mk q => by obtain ⟨q0, q1, qP, qK, qD⟩ := q; exact ⟨q0, q1, qP, va_K.moved (u := U) (U := U.calling g mk a) (Vm.Alike.refl U.vm) qK, qD⟩, va_recv hK hP (ci := 10) (q0 := 0) rfl rfl, fun U hU hW => ⟨rfl, by rw [hU], by rw [hU]; exact hPc, va_K.moved hW.alike hK, hDc.weaken (fun _ _ _ _ => trivial)⟩⟩ rfl rfl hl.1 rfl (lv_room (Nat.le_of_ble_eq_true rfl)) dL_law_775 ⟨Nat.le_of_ble_eq_true rfl, Nat.le_of_ble_eq_true rfl⟩) hS (fun q _ h => hFc q h) hFc (fun r_7 u t H1 locs ht hvm hw hB hz1 hk1 hS => ?_)
  have hP1 : va_P (dC, dI) vwCl [] H1 := fun k q h => by simp at h
  have hD1 : va_D (va_A [(x0, .inr (10, [.ref xTape, .ref xReader, .ref xBag, .ref xBld, .ref xAng, .ref xSum, .ref xPik, .int 0, .ref xHan, .ref xIns, .ref xShr, .ref xSta, .ref xTur])), (xSum, .inr (8, [.ref sM, .ref sP, .ref sA, .int 0]))] H.size) [] := ⟨fun i j p q h => by simp at h, fun k q h => by simp at h⟩
  obtain ⟨hP, hD⟩ := va_join (wr := [(m0, .inr (11, [.int 0, .ref m_tape, .int 0, .int 0, .int 0, .ref m_read, .int 0, .int 0, .int 0, .ref m_tets, .int 0, .int 0, .int 0, .int 0, .int 0, .int 0, .int 0, .int 0, .ref m_primes, .ref m_often, .ref m_normal, .ref m_termM, .ref m_termP, .ref m_termV, .ref m_sumFrom, .ref m_sumMany, .int 0, .int 0, .int 0, .int 0, .ref m_part, .ref m_fair, .ref m_heap, .ref m_pickTet, .ref m_pickEdge, .ref m_base, .ref m_baseM, .ref m_baseP, .ref m_rowsOf, .int 0, .ref m_grid, .ref m_times, .ref m_boxes, .ref m_cameFrom, .ref m_cameBy, .ref m_steps, .ref m_sides, .int 0, .int (-1), .ref m_next, .ref m_cube, .ref m_ways])), (m_sumFrom, .inl (cI, 6, (.inl (fun _ => 0)))), (m_sumMany, .inl (cI, 6, (.inl (fun _ => 0))))]) (w1 := []) hP hD [0, 1] [2, 3, 4] rfl rfl (by decide) (by decide) hk1 hFc hP1 hD1
  generalize H1 = H at hP hS ⊢
  have hP : va_P (dC, dI) vwCl [(m0, .inr (11, [.int 0, .ref m_tape, .int 0, .int 0, .int 0, .ref m_read, .int 0, .int 0, .int 0, .ref m_tets, .int 0, .int 0, .int 0, .int 0, .int 0, .int 0, .int 0, .int 0, .ref m_primes, .ref m_often, .ref m_normal, .ref m_termM, .ref m_termP, .ref m_termV, .ref m_sumFrom, .ref m_sumMany, .int 0, .int 0, .int 0, .int 0, .ref m_part, .ref m_fair, .ref m_heap, .ref m_pickTet, .ref m_pickEdge, .ref m_base, .ref m_baseM, .ref m_baseP, .ref m_rowsOf, .int 0, .ref m_grid, .ref m_times, .ref m_boxes, .ref m_cameFrom, .ref m_cameBy, .ref m_steps, .ref m_sides, .int 0, .int (-1), .ref m_next, .ref m_cube, .ref m_ways])), (m_sumFrom, .inl (cI, 6, (.inl (fun _ => 0)))), (m_sumMany, .inl (cI, 6, (.inl (fun _ => 0))))] H := hP
  have hD : va_D (fun q : Nat => s.heap.size ≤ q) [(m0, .inr (11, [.int 0, .ref m_tape, .int 0, .int 0, .int 0, .ref m_read, .int 0, .int 0, .int 0, .ref m_tets, .int 0, .int 0, .int 0, .int 0, .int 0, .int 0, .int 0, .int 0, .ref m_primes, .ref m_often, .ref m_normal, .ref m_termM, .ref m_termP, .ref m_termV, .ref m_sumFrom, .ref m_sumMany, .int 0, .int 0, .int 0, .int 0, .ref m_part, .ref m_fair, .ref m_heap, .ref m_pickTet, .ref m_pickEdge, .ref m_base, .ref m_baseM, .ref m_baseP, .ref m_rowsOf, .int 0, .ref m_grid, .ref m_times, .ref m_boxes, .ref m_cameFrom, .ref m_cameBy, .ref m_steps, .ref m_sides, .int 0, .int (-1), .ref m_next, .ref m_cube, .ref m_ways])), (m_sumFrom, .inl (cI, 6, (.inl (fun _ => 0)))), (m_sumMany, .inl (cI, 6, (.inl (fun _ => 0))))] := hD
  have hr_7 := hw
  obtain rfl : r_7 = (-1000000) := hr_7
  refine lv_aload_n hx hb dL_law_778 rfl (lv_at hl 2 rfl) ?_
  refine lv_aload_n hx hb dL_law_779 rfl (lv_at hl 4 rfl) ?_
  refine lv_iload hx hb dL_law_780 (lv_at hl 0 rfl) ?_
  refine lv_iconst (v := 1) hx hb dL_law_782 (by decide) ?_
  refine lv_iadd hx hb dL_law_783 ?_
  refine lv_topi (fun x_8 ex_8 => ?_)
  obtain rfl : x_8 = 1 := ex_8.trans (by first | rfl | decide)
  refine va_sld hx hb hX hbl hbA hS (by show ¬ (_ ∨ _); decide) dL_law_784 ?_
  refine lv_topi (fun x_9 ex_9 => ?_)
  obtain rfl : y1 = x_9 := hy1.trans ex_9.symm
  refine lv_aload_n hx hb dL_law_785 rfl (lv_at hl 4 rfl) ?_
  refine lv_iload hx hb dL_law_786 (lv_at hl 0 rfl) ?_
  refine lv_iconst (v := 2) hx hb dL_law_788 (by decide) ?_
  refine lv_iadd hx hb dL_law_789 ?_
  refine lv_topi (fun x_10 ex_10 => ?_)
  obtain rfl : x_10 = 2 := ex_10.trans (by first | rfl | decide)
  refine va_sld hx hb hX hbl hbA hS (by show ¬ (_ ∨ _); decide) dL_law_790 ?_
  refine lv_topi (fun x_11 ex_11 => ?_)
  obtain rfl : y2 = x_11 := hy2.trans ex_11.symm
  refine lv_aload_n hx hb dL_law_791 rfl (lv_at hl 4 rfl) ?_
  refine lv_iload hx hb dL_law_792 (lv_at hl 0 rfl) ?_
  refine lv_iconst (v := 3) hx hb dL_law_794 (by decide) ?_
  refine lv_iadd hx hb dL_law_795 ?_
  refine lv_topi (fun x_12 ex_12 => ?_)
  obtain rfl : x_12 = 3 := ex_12.trans (by first | rfl | decide)
  refine va_sld hx hb hX hbl hbA hS (by show ¬ (_ ∨ _); decide) dL_law_796 ?_
  refine lv_topi (fun x_13 ex_13 => ?_)
  obtain rfl : y3 = x_13 := hy3.trans ex_13.symm
  have hPc := hP.sub (ws' := [(m0, .inr (11, [.int 0, .ref m_tape, .int 0, .int 0, .int 0, .ref m_read, .int 0, .int 0, .int 0, .ref m_tets, .int 0, .int 0, .int 0, .int 0, .int 0, .int 0, .int 0, .int 0, .ref m_primes, .ref m_often, .ref m_normal, .ref m_termM, .ref m_termP, .ref m_termV, .ref m_sumFrom, .ref m_sumMany, .int 0, .int 0, .int 0, .int 0, .ref m_part, .ref m_fair, .ref m_heap, .ref m_pickTet, .ref m_pickEdge, .ref m_base, .ref m_baseM, .ref m_baseP, .ref m_rowsOf, .int 0, .ref m_grid, .ref m_times, .ref m_boxes, .ref m_cameFrom, .ref m_cameBy, .ref m_steps, .ref m_sides, .int 0, .int (-1), .ref m_next, .ref m_cube, .ref m_ways])), (m_sumFrom, .inl (cI, 6, (.inl (fun _ => 0)))), (m_sumMany, .inl (cI, 6, (.inl (fun _ => 0))))]) [0, 1, 2] rfl
  have hDc := hD.sub (ws' := [(m0, .inr (11, [.int 0, .ref m_tape, .int 0, .int 0, .int 0, .ref m_read, .int 0, .int 0, .int 0, .ref m_tets, .int 0, .int 0, .int 0, .int 0, .int 0, .int 0, .int 0, .int 0, .ref m_primes, .ref m_often, .ref m_normal, .ref m_termM, .ref m_termP, .ref m_termV, .ref m_sumFrom, .ref m_sumMany, .int 0, .int 0, .int 0, .int 0, .ref m_part, .ref m_fair, .ref m_heap, .ref m_pickTet, .ref m_pickEdge, .ref m_base, .ref m_baseM, .ref m_baseP, .ref m_rowsOf, .int 0, .ref m_grid, .ref m_times, .ref m_boxes, .ref m_cameFrom, .ref m_cameBy, .ref m_steps, .ref m_sides, .int 0, .int (-1), .ref m_next, .ref m_cube, .ref m_ways])), (m_sumFrom, .inl (cI, 6, (.inl (fun _ => 0)))), (m_sumMany, .inl (cI, 6, (.inl (fun _ => 0))))]) [0, 1, 2] (by decide) rfl
  have hFc := va_free (wc := [(m0, .inr (11, [.int 0, .ref m_tape, .int 0, .int 0, .int 0, .ref m_read, .int 0, .int 0, .int 0, .ref m_tets, .int 0, .int 0, .int 0, .int 0, .int 0, .int 0, .int 0, .int 0, .ref m_primes, .ref m_often, .ref m_normal, .ref m_termM, .ref m_termP, .ref m_termV, .ref m_sumFrom, .ref m_sumMany, .int 0, .int 0, .int 0, .int 0, .ref m_part, .ref m_fair, .ref m_heap, .ref m_pickTet, .ref m_pickEdge, .ref m_base, .ref m_baseM, .ref m_baseP, .ref m_rowsOf, .int 0, .ref m_grid, .ref m_times, .ref m_boxes, .ref m_cameFrom, .ref m_cameBy, .ref m_steps, .ref m_sides, .int 0, .int (-1), .ref m_next, .ref m_cube, .ref m_ways])), (m_sumFrom, .inl (cI, 6, (.inl (fun _ => 0)))), (m_sumMany, .inl (cI, 6, (.inl (fun _ => 0))))]) hD hS hA [0, 1, 2] rfl
  refine va_calli (va_runV (As := [.int y1, .int y2, .int y3]) (rest := [.int (-1000000)]) ⟨hx, hb, hml, hown, hts⟩ (c_X11_unlike l dC dI cB cI cJ H.size m0 m_tape m_read m_tets m_primes m_often m_normal m_termM m_termP m_termV m_sumFrom m_sumMany m_part m_fair m_heap m_pickTet m_pickEdge m_base m_baseM m_baseP m_rowsOf m_grid m_times m_boxes m_cameFrom m_cameBy m_steps m_sides m_next m_cube m_ways y1 y2 y3) (cwV 3 hts hL_law_X11_unlike rfl rfl rfl (by decide +kernel) ⟨Nat.le_of_ble_eq_true rfl, Nat.le_of_ble_eq_true rfl⟩) ⟨fun a U g mk q => by obtain ⟨q0, q1, qP, qK, qD⟩ := q; exact ⟨q0, q1, qP, va_K.moved (u := U) (U := U.calling g mk a) (Vm.Alike.refl U.vm) qK, qD⟩, va_recv hK hP (ci := 11) (q0 := 0) rfl rfl, fun U hU hW => ⟨rfl, by rw [hU], by rw [hU]; exact hPc, va_K.moved hW.alike hK, hDc.weaken (fun _ _ _ _ => trivial)⟩⟩ rfl rfl hl.1 rfl (lv_room (Nat.le_of_ble_eq_true rfl)) dL_law_797 ⟨Nat.le_of_ble_eq_true rfl, Nat.le_of_ble_eq_true rfl⟩) hS (fun q _ h => hFc q h) hFc (fun r_14 u t H1 locs ht hvm hw hB hz1 hk1 hS => ?_)
  have hP1 : va_P (dC, dI) vwCl [] H1 := fun k q h => by simp at h
  have hD1 : va_D (va_A [(m0, .inr (11, [.int 0, .ref m_tape, .int 0, .int 0, .int 0, .ref m_read, .int 0, .int 0, .int 0, .ref m_tets, .int 0, .int 0, .int 0, .int 0, .int 0, .int 0, .int 0, .int 0, .ref m_primes, .ref m_often, .ref m_normal, .ref m_termM, .ref m_termP, .ref m_termV, .ref m_sumFrom, .ref m_sumMany, .int 0, .int 0, .int 0, .int 0, .ref m_part, .ref m_fair, .ref m_heap, .ref m_pickTet, .ref m_pickEdge, .ref m_base, .ref m_baseM, .ref m_baseP, .ref m_rowsOf, .int 0, .ref m_grid, .ref m_times, .ref m_boxes, .ref m_cameFrom, .ref m_cameBy, .ref m_steps, .ref m_sides, .int 0, .int (-1), .ref m_next, .ref m_cube, .ref m_ways])), (m_sumFrom, .inl (cI, 6, (.inl (fun _ => 0)))), (m_sumMany, .inl (cI, 6, (.inl (fun _ => 0))))] H.size) [] := ⟨fun i j p q h => by simp at h, fun k q h => by simp at h⟩
  obtain ⟨hP, hD⟩ := va_join (wr := []) (w1 := []) hP hD [0, 1, 2] [] rfl rfl (by decide) (by decide) hk1 hFc hP1 hD1
  generalize H1 = H at hP hS ⊢
  have hP : va_P (dC, dI) vwCl [] H := hP
  have hD : va_D (fun q : Nat => s.heap.size ≤ q) [] := hD
  have hr_14 := hw
  obtain rfl : r_14 = (-1000000) := hr_14
  refine lv_icmp_eq (tgt := 1744) hx hb dL_law_800 (by decide) (fun _ => ?_) (fun c => absurd (by decide) c)
  refine W.widen (k := 600002) (n := 7302232) (Nat.le_of_ble_eq_true rfl) (Nat.le_of_ble_eq_true rfl) ?_
  exact la_end l C0 H _ hS ls hl
set_option maxHeartbeats 8000000 in
set_option maxRecDepth 100000 in
theorem la_14 {p : Program} {e : Env} {s : State} {m : MethodId} {below : List Frame} {meth : Method} {c : Code} (l : Launch) {b : Nat} {xs : Nat → Int32} (C0 : lw_At p s m meth c b 7 xs) (dC : Nat → ClassId) (dI : Nat → Nat → Nat) (cB cI cJ : ClassId) {x0 xTape xReader xBag xBld xAng xSum xPik xHan xIns xShr xSta xTur bC bS bX bW bP m0 m_tape m_read m_tets m_primes m_often m_normal m_termM m_termP m_termV m_sumFrom m_sumMany m_part m_fair m_heap m_pickTet m_pickEdge m_base m_baseM m_baseP m_rowsOf m_grid m_times m_boxes m_cameFrom m_cameBy m_steps m_sides m_next m_cube m_ways o0 : Nat} (H : Heap) (locs : List Loc) (hK : va_K (dC, dI) vwCl [(cB, .byte), (cI, .int), (cJ, .long)] s) (hP : va_P (dC, dI) vwCl [(x0, .inr (10, [.ref xTape, .ref xReader, .ref xBag, .ref xBld, .ref xAng, .ref xSum, .ref xPik, .int 0, .ref xHan, .ref xIns, .ref xShr, .ref xSta, .ref xTur])), (xBag, .inr (1, [.ref bC, .ref bS, .ref bX, .ref bW, .ref bP, .int 0])), (m0, .inr (11, [.int 0, .ref m_tape, .int 0, .int 0, .int 0, .ref m_read, .int 0, .int 0, .int 0, .ref m_tets, .int 0, .int 0, .int 0, .int 0, .int 0, .int 0, .int 0, .int 0, .ref m_primes, .ref m_often, .ref m_normal, .ref m_termM, .ref m_termP, .ref m_termV, .ref m_sumFrom, .ref m_sumMany, .int 0, .int 0, .int 0, .int 0, .ref m_part, .ref m_fair, .ref m_heap, .ref m_pickTet, .ref m_pickEdge, .ref m_base, .ref m_baseM, .ref m_baseP, .ref m_rowsOf, .int 0, .ref m_grid, .ref m_times, .ref m_boxes, .ref m_cameFrom, .ref m_cameBy, .ref m_steps, .ref m_sides, .int 0, .int (-1), .ref m_next, .ref m_cube, .ref m_ways]))] H) (hD : va_D (fun q : Nat => s.heap.size ≤ q) [(x0, .inr (10, [.ref xTape, .ref xReader, .ref xBag, .ref xBld, .ref xAng, .ref xSum, .ref xPik, .int 0, .ref xHan, .ref xIns, .ref xShr, .ref xSta, .ref xTur])), (xBag, .inr (1, [.ref bC, .ref bS, .ref bX, .ref bW, .ref bP, .int 0])), (m0, .inr (11, [.int 0, .ref m_tape, .int 0, .int 0, .int 0, .ref m_read, .int 0, .int 0, .int 0, .ref m_tets, .int 0, .int 0, .int 0, .int 0, .int 0, .int 0, .int 0, .int 0, .ref m_primes, .ref m_often, .ref m_normal, .ref m_termM, .ref m_termP, .ref m_termV, .ref m_sumFrom, .ref m_sumMany, .int 0, .int 0, .int 0, .int 0, .ref m_part, .ref m_fair, .ref m_heap, .ref m_pickTet, .ref m_pickEdge, .ref m_base, .ref m_baseM, .ref m_baseP, .ref m_rowsOf, .int 0, .ref m_grid, .ref m_times, .ref m_boxes, .ref m_cameFrom, .ref m_cameBy, .ref m_steps, .ref m_sides, .int 0, .int (-1), .ref m_next, .ref m_cube, .ref m_ways]))]) (hS : va_S (fun q : Nat => s.heap.size ≤ q) s.heap H locs) (ls : Array Slot) (hl : lv_has ls 7 [(4, .int 0), (3, .ref o0), (2, .ref m0), (1, .ref x0), (0, .ref b)]) : W p l e room_1 s m #[Value.ref b] below meth c H locs 82 28049 (lw_Z below #[Value.ref b] s) (F0 m 805 ls []) := by
  obtain ⟨hx, hb, hr, hml, hown, htb, hX, hbl, hlocks, hgv⟩ := id C0
  have hts := htb
  have hbA : ¬ (fun q : Nat => s.heap.size ≤ q) b := Nat.not_le.mpr hbl
  have hA : ∀ q : Nat, s.heap.size ≤ q → (fun q : Nat => s.heap.size ≤ q) q := fun _ h => h
  obtain ⟨y1, hy1⟩ : ∃ y : Int32, y = xs (1 : Int32).toNatClampNeg := ⟨_, rfl⟩
  obtain ⟨y2, hy2⟩ : ∃ y : Int32, y = xs (2 : Int32).toNatClampNeg := ⟨_, rfl⟩
  refine lv_aload_n hx hb dL_law_805 rfl (lv_at hl 3 rfl) ?_
  refine lv_aload_n hx hb dL_law_806 rfl (lv_at hl 4 rfl) ?_
  refine lv_iload hx hb dL_law_807 (lv_at hl 0 rfl) ?_
  refine lv_iconst (v := 1) hx hb dL_law_809 (by decide) ?_
  refine lv_iadd hx hb dL_law_810 ?_
  refine lv_topi (fun x_1 ex_1 => ?_)
  obtain rfl : x_1 = 1 := ex_1.trans (by first | rfl | decide)
  refine va_sld hx hb hX hbl hbA hS (by show ¬ (_ ∨ _); decide) dL_law_811 ?_
  refine lv_topi (fun x_2 ex_2 => ?_)
  obtain rfl : y1 = x_2 := hy1.trans ex_2.symm
  refine lv_aload_n hx hb dL_law_812 rfl (lv_at hl 4 rfl) ?_
  refine lv_iload hx hb dL_law_813 (lv_at hl 0 rfl) ?_
  refine lv_iconst (v := 2) hx hb dL_law_815 (by decide) ?_
  refine lv_iadd hx hb dL_law_816 ?_
  refine lv_topi (fun x_3 ex_3 => ?_)
  obtain rfl : x_3 = 2 := ex_3.trans (by first | rfl | decide)
  refine va_sld hx hb hX hbl hbA hS (by show ¬ (_ ∨ _); decide) dL_law_817 ?_
  refine lv_topi (fun x_4 ex_4 => ?_)
  obtain rfl : y2 = x_4 := hy2.trans ex_4.symm
  have hPc := hP.sub (ws' := [(x0, .inr (10, [.ref xTape, .ref xReader, .ref xBag, .ref xBld, .ref xAng, .ref xSum, .ref xPik, .int 0, .ref xHan, .ref xIns, .ref xShr, .ref xSta, .ref xTur])), (xBag, .inr (1, [.ref bC, .ref bS, .ref bX, .ref bW, .ref bP, .int 0]))]) [0, 1] rfl
  have hDc := hD.sub (ws' := [(x0, .inr (10, [.ref xTape, .ref xReader, .ref xBag, .ref xBld, .ref xAng, .ref xSum, .ref xPik, .int 0, .ref xHan, .ref xIns, .ref xShr, .ref xSta, .ref xTur])), (xBag, .inr (1, [.ref bC, .ref bS, .ref bX, .ref bW, .ref bP, .int 0]))]) [0, 1] (by decide) rfl
  have hFc := va_free (wc := [(x0, .inr (10, [.ref xTape, .ref xReader, .ref xBag, .ref xBld, .ref xAng, .ref xSum, .ref xPik, .int 0, .ref xHan, .ref xIns, .ref xShr, .ref xSta, .ref xTur])), (xBag, .inr (1, [.ref bC, .ref bS, .ref bX, .ref bW, .ref bP, .int 0]))]) hD hS hA [0, 1] rfl
  refine va_calli (va_runV (As := [.int y1, .int y2]) (rest := []) ⟨hx, hb, hml, hown, hts⟩ (c_X10_lacks l dC dI cB cI cJ H.size x0 xTape xReader xBag xBld xAng xSum xPik xHan xIns xShr xSta xTur bC bS bX bW bP y1 y2) (cwV 2 hts hL_law_X10_lacks rfl rfl rfl (by decide +kernel) ⟨Nat.le_of_ble_eq_true rfl, Nat.le_of_ble_eq_true rfl⟩) ⟨fun a U g mk q => by obtain ⟨q0, q1, qP, qK, qD⟩ := q; exact ⟨q0, q1, qP, va_K.moved (u := U) (U := U.calling g mk a) (Vm.Alike.refl U.vm) qK, qD⟩, va_recv hK hP (ci := 10) (q0 := 0) rfl rfl, fun U hU hW => ⟨rfl, by rw [hU], by rw [hU]; exact hPc, va_K.moved hW.alike hK, hDc.weaken (fun _ _ _ _ => trivial)⟩⟩ rfl rfl hl.1 rfl (lv_room (Nat.le_of_ble_eq_true rfl)) dL_law_818 ⟨Nat.le_of_ble_eq_true rfl, Nat.le_of_ble_eq_true rfl⟩) hS (fun q _ h => hFc q h) hFc (fun r_5 u t H1 locs ht hvm hw hB hz1 hk1 hS => ?_)
  have hP1 : va_P (dC, dI) vwCl [] H1 := fun k q h => by simp at h
  have hD1 : va_D (va_A [(x0, .inr (10, [.ref xTape, .ref xReader, .ref xBag, .ref xBld, .ref xAng, .ref xSum, .ref xPik, .int 0, .ref xHan, .ref xIns, .ref xShr, .ref xSta, .ref xTur])), (xBag, .inr (1, [.ref bC, .ref bS, .ref bX, .ref bW, .ref bP, .int 0]))] H.size) [] := ⟨fun i j p q h => by simp at h, fun k q h => by simp at h⟩
  obtain ⟨hP, hD⟩ := va_join (wr := [(m0, .inr (11, [.int 0, .ref m_tape, .int 0, .int 0, .int 0, .ref m_read, .int 0, .int 0, .int 0, .ref m_tets, .int 0, .int 0, .int 0, .int 0, .int 0, .int 0, .int 0, .int 0, .ref m_primes, .ref m_often, .ref m_normal, .ref m_termM, .ref m_termP, .ref m_termV, .ref m_sumFrom, .ref m_sumMany, .int 0, .int 0, .int 0, .int 0, .ref m_part, .ref m_fair, .ref m_heap, .ref m_pickTet, .ref m_pickEdge, .ref m_base, .ref m_baseM, .ref m_baseP, .ref m_rowsOf, .int 0, .ref m_grid, .ref m_times, .ref m_boxes, .ref m_cameFrom, .ref m_cameBy, .ref m_steps, .ref m_sides, .int 0, .int (-1), .ref m_next, .ref m_cube, .ref m_ways]))]) (w1 := []) hP hD [0, 1] [2] rfl rfl (by decide) (by decide) hk1 hFc hP1 hD1
  generalize H1 = H at hP hS ⊢
  have hP : va_P (dC, dI) vwCl [(m0, .inr (11, [.int 0, .ref m_tape, .int 0, .int 0, .int 0, .ref m_read, .int 0, .int 0, .int 0, .ref m_tets, .int 0, .int 0, .int 0, .int 0, .int 0, .int 0, .int 0, .int 0, .ref m_primes, .ref m_often, .ref m_normal, .ref m_termM, .ref m_termP, .ref m_termV, .ref m_sumFrom, .ref m_sumMany, .int 0, .int 0, .int 0, .int 0, .ref m_part, .ref m_fair, .ref m_heap, .ref m_pickTet, .ref m_pickEdge, .ref m_base, .ref m_baseM, .ref m_baseP, .ref m_rowsOf, .int 0, .ref m_grid, .ref m_times, .ref m_boxes, .ref m_cameFrom, .ref m_cameBy, .ref m_steps, .ref m_sides, .int 0, .int (-1), .ref m_next, .ref m_cube, .ref m_ways]))] H := hP
  have hD : va_D (fun q : Nat => s.heap.size ≤ q) [(m0, .inr (11, [.int 0, .ref m_tape, .int 0, .int 0, .int 0, .ref m_read, .int 0, .int 0, .int 0, .ref m_tets, .int 0, .int 0, .int 0, .int 0, .int 0, .int 0, .int 0, .int 0, .ref m_primes, .ref m_often, .ref m_normal, .ref m_termM, .ref m_termP, .ref m_termV, .ref m_sumFrom, .ref m_sumMany, .int 0, .int 0, .int 0, .int 0, .ref m_part, .ref m_fair, .ref m_heap, .ref m_pickTet, .ref m_pickEdge, .ref m_base, .ref m_baseM, .ref m_baseP, .ref m_rowsOf, .int 0, .ref m_grid, .ref m_times, .ref m_boxes, .ref m_cameFrom, .ref m_cameBy, .ref m_steps, .ref m_sides, .int 0, .int (-1), .ref m_next, .ref m_cube, .ref m_ways]))] := hD
  have hr_5 := hw
  refine lv_aload_n hx hb dL_law_821 rfl (lv_at hl 2 rfl) ?_
  refine lv_aload_n hx hb dL_law_822 rfl (lv_at hl 4 rfl) ?_
  refine lv_iload hx hb dL_law_823 (lv_at hl 0 rfl) ?_
  refine lv_iconst (v := 1) hx hb dL_law_825 (by decide) ?_
  refine lv_iadd hx hb dL_law_826 ?_
  refine lv_topi (fun x_6 ex_6 => ?_)
  obtain rfl : x_6 = 1 := ex_6.trans (by first | rfl | decide)
  refine va_sld hx hb hX hbl hbA hS (by show ¬ (_ ∨ _); decide) dL_law_827 ?_
  refine lv_topi (fun x_7 ex_7 => ?_)
  obtain rfl : y1 = x_7 := hy1.trans ex_7.symm
  refine lv_aload_n hx hb dL_law_828 rfl (lv_at hl 4 rfl) ?_
  refine lv_iload hx hb dL_law_829 (lv_at hl 0 rfl) ?_
  refine lv_iconst (v := 2) hx hb dL_law_831 (by decide) ?_
  refine lv_iadd hx hb dL_law_832 ?_
  refine lv_topi (fun x_8 ex_8 => ?_)
  obtain rfl : x_8 = 2 := ex_8.trans (by first | rfl | decide)
  refine va_sld hx hb hX hbl hbA hS (by show ¬ (_ ∨ _); decide) dL_law_833 ?_
  refine lv_topi (fun x_9 ex_9 => ?_)
  obtain rfl : y2 = x_9 := hy2.trans ex_9.symm
  have hPc := hP.sub (ws' := [(m0, .inr (11, [.int 0, .ref m_tape, .int 0, .int 0, .int 0, .ref m_read, .int 0, .int 0, .int 0, .ref m_tets, .int 0, .int 0, .int 0, .int 0, .int 0, .int 0, .int 0, .int 0, .ref m_primes, .ref m_often, .ref m_normal, .ref m_termM, .ref m_termP, .ref m_termV, .ref m_sumFrom, .ref m_sumMany, .int 0, .int 0, .int 0, .int 0, .ref m_part, .ref m_fair, .ref m_heap, .ref m_pickTet, .ref m_pickEdge, .ref m_base, .ref m_baseM, .ref m_baseP, .ref m_rowsOf, .int 0, .ref m_grid, .ref m_times, .ref m_boxes, .ref m_cameFrom, .ref m_cameBy, .ref m_steps, .ref m_sides, .int 0, .int (-1), .ref m_next, .ref m_cube, .ref m_ways]))]) [0] rfl
  have hDc := hD.sub (ws' := [(m0, .inr (11, [.int 0, .ref m_tape, .int 0, .int 0, .int 0, .ref m_read, .int 0, .int 0, .int 0, .ref m_tets, .int 0, .int 0, .int 0, .int 0, .int 0, .int 0, .int 0, .int 0, .ref m_primes, .ref m_often, .ref m_normal, .ref m_termM, .ref m_termP, .ref m_termV, .ref m_sumFrom, .ref m_sumMany, .int 0, .int 0, .int 0, .int 0, .ref m_part, .ref m_fair, .ref m_heap, .ref m_pickTet, .ref m_pickEdge, .ref m_base, .ref m_baseM, .ref m_baseP, .ref m_rowsOf, .int 0, .ref m_grid, .ref m_times, .ref m_boxes, .ref m_cameFrom, .ref m_cameBy, .ref m_steps, .ref m_sides, .int 0, .int (-1), .ref m_next, .ref m_cube, .ref m_ways]))]) [0] (by decide) rfl
  have hFc := va_free (wc := [(m0, .inr (11, [.int 0, .ref m_tape, .int 0, .int 0, .int 0, .ref m_read, .int 0, .int 0, .int 0, .ref m_tets, .int 0, .int 0, .int 0, .int 0, .int 0, .int 0, .int 0, .int 0, .ref m_primes, .ref m_often, .ref m_normal, .ref m_termM, .ref m_termP, .ref m_termV, .ref m_sumFrom, .ref m_sumMany, .int 0, .int 0, .int 0, .int 0, .ref m_part, .ref m_fair, .ref m_heap, .ref m_pickTet, .ref m_pickEdge, .ref m_base, .ref m_baseM, .ref m_baseP, .ref m_rowsOf, .int 0, .ref m_grid, .ref m_times, .ref m_boxes, .ref m_cameFrom, .ref m_cameBy, .ref m_steps, .ref m_sides, .int 0, .int (-1), .ref m_next, .ref m_cube, .ref m_ways]))]) hD hS hA [0] rfl
  refine va_calli (va_runV (As := [.int y1, .int y2]) (rest := [.int r_5]) ⟨hx, hb, hml, hown, hts⟩ (c_X11_lacks l dC dI cB cI cJ H.size m0 m_tape m_read m_tets m_primes m_often m_normal m_termM m_termP m_termV m_sumFrom m_sumMany m_part m_fair m_heap m_pickTet m_pickEdge m_base m_baseM m_baseP m_rowsOf m_grid m_times m_boxes m_cameFrom m_cameBy m_steps m_sides m_next m_cube m_ways y1 y2) (cwV 2 hts hL_law_X11_lacks rfl rfl rfl (by decide +kernel) ⟨Nat.le_of_ble_eq_true rfl, Nat.le_of_ble_eq_true rfl⟩) ⟨fun a U g mk q => by obtain ⟨q0, q1, qP, qK, qD⟩ := q; exact ⟨q0, q1, qP, va_K.moved (u := U) (U := U.calling g mk a) (Vm.Alike.refl U.vm) qK, qD⟩, va_recv hK hP (ci := 11) (q0 := 0) rfl rfl, fun U hU hW => ⟨rfl, by rw [hU], by rw [hU]; exact hPc, va_K.moved hW.alike hK, hDc.weaken (fun _ _ _ _ => trivial)⟩⟩ rfl rfl hl.1 rfl (lv_room (Nat.le_of_ble_eq_true rfl)) dL_law_834 ⟨Nat.le_of_ble_eq_true rfl, Nat.le_of_ble_eq_true rfl⟩) hS (fun q _ h => hFc q h) hFc (fun r_10 u t H1 locs ht hvm hw hB hz1 hk1 hS => ?_)
  have hP1 : va_P (dC, dI) vwCl [] H1 := fun k q h => by simp at h
  have hD1 : va_D (va_A [(m0, .inr (11, [.int 0, .ref m_tape, .int 0, .int 0, .int 0, .ref m_read, .int 0, .int 0, .int 0, .ref m_tets, .int 0, .int 0, .int 0, .int 0, .int 0, .int 0, .int 0, .int 0, .ref m_primes, .ref m_often, .ref m_normal, .ref m_termM, .ref m_termP, .ref m_termV, .ref m_sumFrom, .ref m_sumMany, .int 0, .int 0, .int 0, .int 0, .ref m_part, .ref m_fair, .ref m_heap, .ref m_pickTet, .ref m_pickEdge, .ref m_base, .ref m_baseM, .ref m_baseP, .ref m_rowsOf, .int 0, .ref m_grid, .ref m_times, .ref m_boxes, .ref m_cameFrom, .ref m_cameBy, .ref m_steps, .ref m_sides, .int 0, .int (-1), .ref m_next, .ref m_cube, .ref m_ways]))] H.size) [] := ⟨fun i j p q h => by simp at h, fun k q h => by simp at h⟩
  obtain ⟨hP, hD⟩ := va_join (wr := []) (w1 := []) hP hD [0] [] rfl rfl (by decide) (by decide) hk1 hFc hP1 hD1
  generalize H1 = H at hP hS ⊢
  have hP : va_P (dC, dI) vwCl [] H := hP
  have hD : va_D (fun q : Nat => s.heap.size ≤ q) [] := hD
  have hr_10 := hw
  refine lv_icmp_eq (tgt := 1744) hx hb dL_law_837 (by decide) (fun _ => ?_) (fun c => absurd (hr_5.trans hr_10.symm) c)
  refine W.widen (k := 600002) (n := 7302232) (Nat.le_of_ble_eq_true rfl) (Nat.le_of_ble_eq_true rfl) ?_
  exact la_end l C0 H _ hS ls hl
set_option maxHeartbeats 8000000 in
set_option maxRecDepth 100000 in
theorem la_15 {p : Program} {e : Env} {s : State} {m : MethodId} {below : List Frame} {meth : Method} {c : Code} (l : Launch) {b : Nat} {xs : Nat → Int32} (C0 : lw_At p s m meth c b 7 xs) (dC : Nat → ClassId) (dI : Nat → Nat → Nat) (cB cI cJ : ClassId) {x0 xTape xReader xBag xBld xAng xSum xPik xHan xIns xShr xSta xTur bC bS bX bW bP m0 m_tape m_read m_tets m_primes m_often m_normal m_termM m_termP m_termV m_sumFrom m_sumMany m_part m_fair m_heap m_pickTet m_pickEdge m_base m_baseM m_baseP m_rowsOf m_grid m_times m_boxes m_cameFrom m_cameBy m_steps m_sides m_next m_cube m_ways o0 : Nat} (H : Heap) (locs : List Loc) (hK : va_K (dC, dI) vwCl [(cB, .byte), (cI, .int), (cJ, .long)] s) (hP : va_P (dC, dI) vwCl [(x0, .inr (10, [.ref xTape, .ref xReader, .ref xBag, .ref xBld, .ref xAng, .ref xSum, .ref xPik, .int 0, .ref xHan, .ref xIns, .ref xShr, .ref xSta, .ref xTur])), (xBag, .inr (1, [.ref bC, .ref bS, .ref bX, .ref bW, .ref bP, .int 0])), (m0, .inr (11, [.int 0, .ref m_tape, .int 0, .int 0, .int 0, .ref m_read, .int 0, .int 0, .int 0, .ref m_tets, .int 0, .int 0, .int 0, .int 0, .int 0, .int 0, .int 0, .int 0, .ref m_primes, .ref m_often, .ref m_normal, .ref m_termM, .ref m_termP, .ref m_termV, .ref m_sumFrom, .ref m_sumMany, .int 0, .int 0, .int 0, .int 0, .ref m_part, .ref m_fair, .ref m_heap, .ref m_pickTet, .ref m_pickEdge, .ref m_base, .ref m_baseM, .ref m_baseP, .ref m_rowsOf, .int 0, .ref m_grid, .ref m_times, .ref m_boxes, .ref m_cameFrom, .ref m_cameBy, .ref m_steps, .ref m_sides, .int 0, .int (-1), .ref m_next, .ref m_cube, .ref m_ways]))] H) (hD : va_D (fun q : Nat => s.heap.size ≤ q) [(x0, .inr (10, [.ref xTape, .ref xReader, .ref xBag, .ref xBld, .ref xAng, .ref xSum, .ref xPik, .int 0, .ref xHan, .ref xIns, .ref xShr, .ref xSta, .ref xTur])), (xBag, .inr (1, [.ref bC, .ref bS, .ref bX, .ref bW, .ref bP, .int 0])), (m0, .inr (11, [.int 0, .ref m_tape, .int 0, .int 0, .int 0, .ref m_read, .int 0, .int 0, .int 0, .ref m_tets, .int 0, .int 0, .int 0, .int 0, .int 0, .int 0, .int 0, .int 0, .ref m_primes, .ref m_often, .ref m_normal, .ref m_termM, .ref m_termP, .ref m_termV, .ref m_sumFrom, .ref m_sumMany, .int 0, .int 0, .int 0, .int 0, .ref m_part, .ref m_fair, .ref m_heap, .ref m_pickTet, .ref m_pickEdge, .ref m_base, .ref m_baseM, .ref m_baseP, .ref m_rowsOf, .int 0, .ref m_grid, .ref m_times, .ref m_boxes, .ref m_cameFrom, .ref m_cameBy, .ref m_steps, .ref m_sides, .int 0, .int (-1), .ref m_next, .ref m_cube, .ref m_ways]))]) (hS : va_S (fun q : Nat => s.heap.size ≤ q) s.heap H locs) (ls : Array Slot) (hl : lv_has ls 7 [(4, .int 0), (3, .ref o0), (2, .ref m0), (1, .ref x0), (0, .ref b)]) : W p l e room_1 s m #[Value.ref b] below meth c H locs 82 28049 (lw_Z below #[Value.ref b] s) (F0 m 842 ls []) := by
  obtain ⟨hx, hb, hr, hml, hown, htb, hX, hbl, hlocks, hgv⟩ := id C0
  have hts := htb
  have hbA : ¬ (fun q : Nat => s.heap.size ≤ q) b := Nat.not_le.mpr hbl
  have hA : ∀ q : Nat, s.heap.size ≤ q → (fun q : Nat => s.heap.size ≤ q) q := fun _ h => h
  obtain ⟨y1, hy1⟩ : ∃ y : Int32, y = xs (1 : Int32).toNatClampNeg := ⟨_, rfl⟩
  obtain ⟨y2, hy2⟩ : ∃ y : Int32, y = xs (2 : Int32).toNatClampNeg := ⟨_, rfl⟩
  obtain ⟨y3, hy3⟩ : ∃ y : Int32, y = xs (3 : Int32).toNatClampNeg := ⟨_, rfl⟩
  obtain ⟨y4, hy4⟩ : ∃ y : Int32, y = xs (4 : Int32).toNatClampNeg := ⟨_, rfl⟩
  refine lv_aload_n hx hb dL_law_842 rfl (lv_at hl 3 rfl) ?_
  refine lv_aload_n hx hb dL_law_843 rfl (lv_at hl 4 rfl) ?_
  refine lv_iload hx hb dL_law_844 (lv_at hl 0 rfl) ?_
  refine lv_iconst (v := 1) hx hb dL_law_846 (by decide) ?_
  refine lv_iadd hx hb dL_law_847 ?_
  refine lv_topi (fun x_1 ex_1 => ?_)
  obtain rfl : x_1 = 1 := ex_1.trans (by first | rfl | decide)
  refine va_sld hx hb hX hbl hbA hS (by show ¬ (_ ∨ _); decide) dL_law_848 ?_
  refine lv_topi (fun x_2 ex_2 => ?_)
  obtain rfl : y1 = x_2 := hy1.trans ex_2.symm
  refine lv_aload_n hx hb dL_law_849 rfl (lv_at hl 4 rfl) ?_
  refine lv_iload hx hb dL_law_850 (lv_at hl 0 rfl) ?_
  refine lv_iconst (v := 2) hx hb dL_law_852 (by decide) ?_
  refine lv_iadd hx hb dL_law_853 ?_
  refine lv_topi (fun x_3 ex_3 => ?_)
  obtain rfl : x_3 = 2 := ex_3.trans (by first | rfl | decide)
  refine va_sld hx hb hX hbl hbA hS (by show ¬ (_ ∨ _); decide) dL_law_854 ?_
  refine lv_topi (fun x_4 ex_4 => ?_)
  obtain rfl : y2 = x_4 := hy2.trans ex_4.symm
  refine lv_aload_n hx hb dL_law_855 rfl (lv_at hl 4 rfl) ?_
  refine lv_iload hx hb dL_law_856 (lv_at hl 0 rfl) ?_
  refine lv_iconst (v := 3) hx hb dL_law_858 (by decide) ?_
  refine lv_iadd hx hb dL_law_859 ?_
  refine lv_topi (fun x_5 ex_5 => ?_)
  obtain rfl : x_5 = 3 := ex_5.trans (by first | rfl | decide)
  refine va_sld hx hb hX hbl hbA hS (by show ¬ (_ ∨ _); decide) dL_law_860 ?_
  refine lv_topi (fun x_6 ex_6 => ?_)
  obtain rfl : y3 = x_6 := hy3.trans ex_6.symm
  refine lv_aload_n hx hb dL_law_861 rfl (lv_at hl 4 rfl) ?_
  refine lv_iload hx hb dL_law_862 (lv_at hl 0 rfl) ?_
  refine lv_iconst (v := 4) hx hb dL_law_864 (by decide) ?_
  refine lv_iadd hx hb dL_law_865 ?_
  refine lv_topi (fun x_7 ex_7 => ?_)
  obtain rfl : x_7 = 4 := ex_7.trans (by first | rfl | decide)
  refine va_sld hx hb hX hbl hbA hS (by show ¬ (_ ∨ _); decide) dL_law_866 ?_
  refine lv_topi (fun x_8 ex_8 => ?_)
  obtain rfl : y4 = x_8 := hy4.trans ex_8.symm
  have hPc := hP.sub (ws' := [(x0, .inr (10, [.ref xTape, .ref xReader, .ref xBag, .ref xBld, .ref xAng, .ref xSum, .ref xPik, .int 0, .ref xHan, .ref xIns, .ref xShr, .ref xSta, .ref xTur])), (xBag, .inr (1, [.ref bC, .ref bS, .ref bX, .ref bW, .ref bP, .int 0]))]) [0, 1] rfl
  have hDc := hD.sub (ws' := [(x0, .inr (10, [.ref xTape, .ref xReader, .ref xBag, .ref xBld, .ref xAng, .ref xSum, .ref xPik, .int 0, .ref xHan, .ref xIns, .ref xShr, .ref xSta, .ref xTur])), (xBag, .inr (1, [.ref bC, .ref bS, .ref bX, .ref bW, .ref bP, .int 0]))]) [0, 1] (by decide) rfl
  have hFc := va_free (wc := [(x0, .inr (10, [.ref xTape, .ref xReader, .ref xBag, .ref xBld, .ref xAng, .ref xSum, .ref xPik, .int 0, .ref xHan, .ref xIns, .ref xShr, .ref xSta, .ref xTur])), (xBag, .inr (1, [.ref bC, .ref bS, .ref bX, .ref bW, .ref bP, .int 0]))]) hD hS hA [0, 1] rfl
  refine va_calli (va_runV (As := [.int y1, .int y2, .int y3, .int y4]) (rest := []) ⟨hx, hb, hml, hown, hts⟩ (c_X10_where l dC dI cB cI cJ H.size x0 xTape xReader xBag xBld xAng xSum xPik xHan xIns xShr xSta xTur bC bS bX bW bP y1 y2 y3 y4) (cwV 4 hts hL_law_X10_where rfl rfl rfl (by decide +kernel) ⟨Nat.le_of_ble_eq_true rfl, Nat.le_of_ble_eq_true rfl⟩) ⟨fun a U g mk q => by obtain ⟨q0, q1, qP, qK, qD⟩ := q; exact ⟨q0, q1, qP, va_K.moved (u := U) (U := U.calling g mk a) (Vm.Alike.refl U.vm) qK, qD⟩, va_recv hK hP (ci := 10) (q0 := 0) rfl rfl, fun U hU hW => ⟨rfl, by rw [hU], by rw [hU]; exact hPc, va_K.moved hW.alike hK, hDc.weaken (fun _ _ _ _ => trivial)⟩⟩ rfl rfl hl.1 rfl (lv_room (Nat.le_of_ble_eq_true rfl)) dL_law_867 ⟨Nat.le_of_ble_eq_true rfl, Nat.le_of_ble_eq_true rfl⟩) hS (fun q _ h => hFc q h) hFc (fun r_9 u t H1 locs ht hvm hw hB hz1 hk1 hS => ?_)
  have hP1 : va_P (dC, dI) vwCl [] H1 := fun k q h => by simp at h
  have hD1 : va_D (va_A [(x0, .inr (10, [.ref xTape, .ref xReader, .ref xBag, .ref xBld, .ref xAng, .ref xSum, .ref xPik, .int 0, .ref xHan, .ref xIns, .ref xShr, .ref xSta, .ref xTur])), (xBag, .inr (1, [.ref bC, .ref bS, .ref bX, .ref bW, .ref bP, .int 0]))] H.size) [] := ⟨fun i j p q h => by simp at h, fun k q h => by simp at h⟩
  obtain ⟨hP, hD⟩ := va_join (wr := [(m0, .inr (11, [.int 0, .ref m_tape, .int 0, .int 0, .int 0, .ref m_read, .int 0, .int 0, .int 0, .ref m_tets, .int 0, .int 0, .int 0, .int 0, .int 0, .int 0, .int 0, .int 0, .ref m_primes, .ref m_often, .ref m_normal, .ref m_termM, .ref m_termP, .ref m_termV, .ref m_sumFrom, .ref m_sumMany, .int 0, .int 0, .int 0, .int 0, .ref m_part, .ref m_fair, .ref m_heap, .ref m_pickTet, .ref m_pickEdge, .ref m_base, .ref m_baseM, .ref m_baseP, .ref m_rowsOf, .int 0, .ref m_grid, .ref m_times, .ref m_boxes, .ref m_cameFrom, .ref m_cameBy, .ref m_steps, .ref m_sides, .int 0, .int (-1), .ref m_next, .ref m_cube, .ref m_ways]))]) (w1 := []) hP hD [0, 1] [2] rfl rfl (by decide) (by decide) hk1 hFc hP1 hD1
  generalize H1 = H at hP hS ⊢
  have hP : va_P (dC, dI) vwCl [(m0, .inr (11, [.int 0, .ref m_tape, .int 0, .int 0, .int 0, .ref m_read, .int 0, .int 0, .int 0, .ref m_tets, .int 0, .int 0, .int 0, .int 0, .int 0, .int 0, .int 0, .int 0, .ref m_primes, .ref m_often, .ref m_normal, .ref m_termM, .ref m_termP, .ref m_termV, .ref m_sumFrom, .ref m_sumMany, .int 0, .int 0, .int 0, .int 0, .ref m_part, .ref m_fair, .ref m_heap, .ref m_pickTet, .ref m_pickEdge, .ref m_base, .ref m_baseM, .ref m_baseP, .ref m_rowsOf, .int 0, .ref m_grid, .ref m_times, .ref m_boxes, .ref m_cameFrom, .ref m_cameBy, .ref m_steps, .ref m_sides, .int 0, .int (-1), .ref m_next, .ref m_cube, .ref m_ways]))] H := hP
  have hD : va_D (fun q : Nat => s.heap.size ≤ q) [(m0, .inr (11, [.int 0, .ref m_tape, .int 0, .int 0, .int 0, .ref m_read, .int 0, .int 0, .int 0, .ref m_tets, .int 0, .int 0, .int 0, .int 0, .int 0, .int 0, .int 0, .int 0, .ref m_primes, .ref m_often, .ref m_normal, .ref m_termM, .ref m_termP, .ref m_termV, .ref m_sumFrom, .ref m_sumMany, .int 0, .int 0, .int 0, .int 0, .ref m_part, .ref m_fair, .ref m_heap, .ref m_pickTet, .ref m_pickEdge, .ref m_base, .ref m_baseM, .ref m_baseP, .ref m_rowsOf, .int 0, .ref m_grid, .ref m_times, .ref m_boxes, .ref m_cameFrom, .ref m_cameBy, .ref m_steps, .ref m_sides, .int 0, .int (-1), .ref m_next, .ref m_cube, .ref m_ways]))] := hD
  have hr_9 := hw
  obtain rfl : r_9 = (-1) := hr_9
  refine lv_aload_n hx hb dL_law_870 rfl (lv_at hl 2 rfl) ?_
  refine lv_aload_n hx hb dL_law_871 rfl (lv_at hl 4 rfl) ?_
  refine lv_iload hx hb dL_law_872 (lv_at hl 0 rfl) ?_
  refine lv_iconst (v := 1) hx hb dL_law_874 (by decide) ?_
  refine lv_iadd hx hb dL_law_875 ?_
  refine lv_topi (fun x_10 ex_10 => ?_)
  obtain rfl : x_10 = 1 := ex_10.trans (by first | rfl | decide)
  refine va_sld hx hb hX hbl hbA hS (by show ¬ (_ ∨ _); decide) dL_law_876 ?_
  refine lv_topi (fun x_11 ex_11 => ?_)
  obtain rfl : y1 = x_11 := hy1.trans ex_11.symm
  refine lv_aload_n hx hb dL_law_877 rfl (lv_at hl 4 rfl) ?_
  refine lv_iload hx hb dL_law_878 (lv_at hl 0 rfl) ?_
  refine lv_iconst (v := 2) hx hb dL_law_880 (by decide) ?_
  refine lv_iadd hx hb dL_law_881 ?_
  refine lv_topi (fun x_12 ex_12 => ?_)
  obtain rfl : x_12 = 2 := ex_12.trans (by first | rfl | decide)
  refine va_sld hx hb hX hbl hbA hS (by show ¬ (_ ∨ _); decide) dL_law_882 ?_
  refine lv_topi (fun x_13 ex_13 => ?_)
  obtain rfl : y2 = x_13 := hy2.trans ex_13.symm
  refine lv_aload_n hx hb dL_law_883 rfl (lv_at hl 4 rfl) ?_
  refine lv_iload hx hb dL_law_884 (lv_at hl 0 rfl) ?_
  refine lv_iconst (v := 3) hx hb dL_law_886 (by decide) ?_
  refine lv_iadd hx hb dL_law_887 ?_
  refine lv_topi (fun x_14 ex_14 => ?_)
  obtain rfl : x_14 = 3 := ex_14.trans (by first | rfl | decide)
  refine va_sld hx hb hX hbl hbA hS (by show ¬ (_ ∨ _); decide) dL_law_888 ?_
  refine lv_topi (fun x_15 ex_15 => ?_)
  obtain rfl : y3 = x_15 := hy3.trans ex_15.symm
  refine lv_aload_n hx hb dL_law_889 rfl (lv_at hl 4 rfl) ?_
  refine lv_iload hx hb dL_law_890 (lv_at hl 0 rfl) ?_
  refine lv_iconst (v := 4) hx hb dL_law_892 (by decide) ?_
  refine lv_iadd hx hb dL_law_893 ?_
  refine lv_topi (fun x_16 ex_16 => ?_)
  obtain rfl : x_16 = 4 := ex_16.trans (by first | rfl | decide)
  refine va_sld hx hb hX hbl hbA hS (by show ¬ (_ ∨ _); decide) dL_law_894 ?_
  refine lv_topi (fun x_17 ex_17 => ?_)
  obtain rfl : y4 = x_17 := hy4.trans ex_17.symm
  have hPc := hP.sub (ws' := [(m0, .inr (11, [.int 0, .ref m_tape, .int 0, .int 0, .int 0, .ref m_read, .int 0, .int 0, .int 0, .ref m_tets, .int 0, .int 0, .int 0, .int 0, .int 0, .int 0, .int 0, .int 0, .ref m_primes, .ref m_often, .ref m_normal, .ref m_termM, .ref m_termP, .ref m_termV, .ref m_sumFrom, .ref m_sumMany, .int 0, .int 0, .int 0, .int 0, .ref m_part, .ref m_fair, .ref m_heap, .ref m_pickTet, .ref m_pickEdge, .ref m_base, .ref m_baseM, .ref m_baseP, .ref m_rowsOf, .int 0, .ref m_grid, .ref m_times, .ref m_boxes, .ref m_cameFrom, .ref m_cameBy, .ref m_steps, .ref m_sides, .int 0, .int (-1), .ref m_next, .ref m_cube, .ref m_ways]))]) [0] rfl
  have hDc := hD.sub (ws' := [(m0, .inr (11, [.int 0, .ref m_tape, .int 0, .int 0, .int 0, .ref m_read, .int 0, .int 0, .int 0, .ref m_tets, .int 0, .int 0, .int 0, .int 0, .int 0, .int 0, .int 0, .int 0, .ref m_primes, .ref m_often, .ref m_normal, .ref m_termM, .ref m_termP, .ref m_termV, .ref m_sumFrom, .ref m_sumMany, .int 0, .int 0, .int 0, .int 0, .ref m_part, .ref m_fair, .ref m_heap, .ref m_pickTet, .ref m_pickEdge, .ref m_base, .ref m_baseM, .ref m_baseP, .ref m_rowsOf, .int 0, .ref m_grid, .ref m_times, .ref m_boxes, .ref m_cameFrom, .ref m_cameBy, .ref m_steps, .ref m_sides, .int 0, .int (-1), .ref m_next, .ref m_cube, .ref m_ways]))]) [0] (by decide) rfl
  have hFc := va_free (wc := [(m0, .inr (11, [.int 0, .ref m_tape, .int 0, .int 0, .int 0, .ref m_read, .int 0, .int 0, .int 0, .ref m_tets, .int 0, .int 0, .int 0, .int 0, .int 0, .int 0, .int 0, .int 0, .ref m_primes, .ref m_often, .ref m_normal, .ref m_termM, .ref m_termP, .ref m_termV, .ref m_sumFrom, .ref m_sumMany, .int 0, .int 0, .int 0, .int 0, .ref m_part, .ref m_fair, .ref m_heap, .ref m_pickTet, .ref m_pickEdge, .ref m_base, .ref m_baseM, .ref m_baseP, .ref m_rowsOf, .int 0, .ref m_grid, .ref m_times, .ref m_boxes, .ref m_cameFrom, .ref m_cameBy, .ref m_steps, .ref m_sides, .int 0, .int (-1), .ref m_next, .ref m_cube, .ref m_ways]))]) hD hS hA [0] rfl
  refine va_calli (va_runV (As := [.int y1, .int y2, .int y3, .int y4]) (rest := [.int (-1)]) ⟨hx, hb, hml, hown, hts⟩ (c_X11_where l dC dI cB cI cJ H.size m0 m_tape m_read m_tets m_primes m_often m_normal m_termM m_termP m_termV m_sumFrom m_sumMany m_part m_fair m_heap m_pickTet m_pickEdge m_base m_baseM m_baseP m_rowsOf m_grid m_times m_boxes m_cameFrom m_cameBy m_steps m_sides m_next m_cube m_ways y1 y2 y3 y4) (cwV 4 hts hL_law_X11_where rfl rfl rfl (by decide +kernel) ⟨Nat.le_of_ble_eq_true rfl, Nat.le_of_ble_eq_true rfl⟩) ⟨fun a U g mk q => by obtain ⟨q0, q1, qP, qK, qD⟩ := q; exact ⟨q0, q1, qP, va_K.moved (u := U) (U := U.calling g mk a) (Vm.Alike.refl U.vm) qK, qD⟩, va_recv hK hP (ci := 11) (q0 := 0) rfl rfl, fun U hU hW => ⟨rfl, by rw [hU], by rw [hU]; exact hPc, va_K.moved hW.alike hK, hDc.weaken (fun _ _ _ _ => trivial)⟩⟩ rfl rfl hl.1 rfl (lv_room (Nat.le_of_ble_eq_true rfl)) dL_law_895 ⟨Nat.le_of_ble_eq_true rfl, Nat.le_of_ble_eq_true rfl⟩) hS (fun q _ h => hFc q h) hFc (fun r_18 u t H1 locs ht hvm hw hB hz1 hk1 hS => ?_)
  have hP1 : va_P (dC, dI) vwCl [] H1 := fun k q h => by simp at h
  have hD1 : va_D (va_A [(m0, .inr (11, [.int 0, .ref m_tape, .int 0, .int 0, .int 0, .ref m_read, .int 0, .int 0, .int 0, .ref m_tets, .int 0, .int 0, .int 0, .int 0, .int 0, .int 0, .int 0, .int 0, .ref m_primes, .ref m_often, .ref m_normal, .ref m_termM, .ref m_termP, .ref m_termV, .ref m_sumFrom, .ref m_sumMany, .int 0, .int 0, .int 0, .int 0, .ref m_part, .ref m_fair, .ref m_heap, .ref m_pickTet, .ref m_pickEdge, .ref m_base, .ref m_baseM, .ref m_baseP, .ref m_rowsOf, .int 0, .ref m_grid, .ref m_times, .ref m_boxes, .ref m_cameFrom, .ref m_cameBy, .ref m_steps, .ref m_sides, .int 0, .int (-1), .ref m_next, .ref m_cube, .ref m_ways]))] H.size) [] := ⟨fun i j p q h => by simp at h, fun k q h => by simp at h⟩
  obtain ⟨hP, hD⟩ := va_join (wr := []) (w1 := []) hP hD [0] [] rfl rfl (by decide) (by decide) hk1 hFc hP1 hD1
  generalize H1 = H at hP hS ⊢
  have hP : va_P (dC, dI) vwCl [] H := hP
  have hD : va_D (fun q : Nat => s.heap.size ≤ q) [] := hD
  have hr_18 := hw
  obtain rfl : r_18 = (-1) := hr_18
  refine lv_icmp_eq (tgt := 1744) hx hb dL_law_898 (by decide) (fun _ => ?_) (fun c => absurd (by decide) c)
  refine W.widen (k := 600002) (n := 7302232) (Nat.le_of_ble_eq_true rfl) (Nat.le_of_ble_eq_true rfl) ?_
  exact la_end l C0 H _ hS ls hl
set_option maxHeartbeats 8000000 in
set_option maxRecDepth 100000 in
theorem la_16 {p : Program} {e : Env} {s : State} {m : MethodId} {below : List Frame} {meth : Method} {c : Code} (l : Launch) {b : Nat} {xs : Nat → Int32} (C0 : lw_At p s m meth c b 7 xs) (dC : Nat → ClassId) (dI : Nat → Nat → Nat) (cB cI cJ : ClassId) {x0 xTape xReader xBag xBld xAng xSum xPik xHan xIns xShr xSta xTur bC bS bX bW bP m0 m_tape m_read m_tets m_primes m_often m_normal m_termM m_termP m_termV m_sumFrom m_sumMany m_part m_fair m_heap m_pickTet m_pickEdge m_base m_baseM m_baseP m_rowsOf m_grid m_times m_boxes m_cameFrom m_cameBy m_steps m_sides m_next m_cube m_ways o0 : Nat} (H : Heap) (locs : List Loc) (hK : va_K (dC, dI) vwCl [(cB, .byte), (cI, .int), (cJ, .long)] s) (hP : va_P (dC, dI) vwCl [(x0, .inr (10, [.ref xTape, .ref xReader, .ref xBag, .ref xBld, .ref xAng, .ref xSum, .ref xPik, .int 0, .ref xHan, .ref xIns, .ref xShr, .ref xSta, .ref xTur])), (xBag, .inr (1, [.ref bC, .ref bS, .ref bX, .ref bW, .ref bP, .int 0])), (m0, .inr (11, [.int 0, .ref m_tape, .int 0, .int 0, .int 0, .ref m_read, .int 0, .int 0, .int 0, .ref m_tets, .int 0, .int 0, .int 0, .int 0, .int 0, .int 0, .int 0, .int 0, .ref m_primes, .ref m_often, .ref m_normal, .ref m_termM, .ref m_termP, .ref m_termV, .ref m_sumFrom, .ref m_sumMany, .int 0, .int 0, .int 0, .int 0, .ref m_part, .ref m_fair, .ref m_heap, .ref m_pickTet, .ref m_pickEdge, .ref m_base, .ref m_baseM, .ref m_baseP, .ref m_rowsOf, .int 0, .ref m_grid, .ref m_times, .ref m_boxes, .ref m_cameFrom, .ref m_cameBy, .ref m_steps, .ref m_sides, .int 0, .int (-1), .ref m_next, .ref m_cube, .ref m_ways]))] H) (hD : va_D (fun q : Nat => s.heap.size ≤ q) [(x0, .inr (10, [.ref xTape, .ref xReader, .ref xBag, .ref xBld, .ref xAng, .ref xSum, .ref xPik, .int 0, .ref xHan, .ref xIns, .ref xShr, .ref xSta, .ref xTur])), (xBag, .inr (1, [.ref bC, .ref bS, .ref bX, .ref bW, .ref bP, .int 0])), (m0, .inr (11, [.int 0, .ref m_tape, .int 0, .int 0, .int 0, .ref m_read, .int 0, .int 0, .int 0, .ref m_tets, .int 0, .int 0, .int 0, .int 0, .int 0, .int 0, .int 0, .int 0, .ref m_primes, .ref m_often, .ref m_normal, .ref m_termM, .ref m_termP, .ref m_termV, .ref m_sumFrom, .ref m_sumMany, .int 0, .int 0, .int 0, .int 0, .ref m_part, .ref m_fair, .ref m_heap, .ref m_pickTet, .ref m_pickEdge, .ref m_base, .ref m_baseM, .ref m_baseP, .ref m_rowsOf, .int 0, .ref m_grid, .ref m_times, .ref m_boxes, .ref m_cameFrom, .ref m_cameBy, .ref m_steps, .ref m_sides, .int 0, .int (-1), .ref m_next, .ref m_cube, .ref m_ways]))]) (hS : va_S (fun q : Nat => s.heap.size ≤ q) s.heap H locs) (ls : Array Slot) (hl : lv_has ls 7 [(4, .int 0), (3, .ref o0), (2, .ref m0), (1, .ref x0), (0, .ref b)]) : W p l e room_1 s m #[Value.ref b] below meth c H locs 82 28049 (lw_Z below #[Value.ref b] s) (F0 m 903 ls []) := by
  obtain ⟨hx, hb, hr, hml, hown, htb, hX, hbl, hlocks, hgv⟩ := id C0
  have hts := htb
  have hbA : ¬ (fun q : Nat => s.heap.size ≤ q) b := Nat.not_le.mpr hbl
  have hA : ∀ q : Nat, s.heap.size ≤ q → (fun q : Nat => s.heap.size ≤ q) q := fun _ h => h
  obtain ⟨y1, hy1⟩ : ∃ y : Int32, y = xs (1 : Int32).toNatClampNeg := ⟨_, rfl⟩
  obtain ⟨y2, hy2⟩ : ∃ y : Int32, y = xs (2 : Int32).toNatClampNeg := ⟨_, rfl⟩
  obtain ⟨y3, hy3⟩ : ∃ y : Int32, y = xs (3 : Int32).toNatClampNeg := ⟨_, rfl⟩
  obtain ⟨y4, hy4⟩ : ∃ y : Int32, y = xs (4 : Int32).toNatClampNeg := ⟨_, rfl⟩
  refine lv_aload_n hx hb dL_law_903 rfl (lv_at hl 3 rfl) ?_
  refine lv_aload_n hx hb dL_law_904 rfl (lv_at hl 4 rfl) ?_
  refine lv_iload hx hb dL_law_905 (lv_at hl 0 rfl) ?_
  refine lv_iconst (v := 1) hx hb dL_law_907 (by decide) ?_
  refine lv_iadd hx hb dL_law_908 ?_
  refine lv_topi (fun x_1 ex_1 => ?_)
  obtain rfl : x_1 = 1 := ex_1.trans (by first | rfl | decide)
  refine va_sld hx hb hX hbl hbA hS (by show ¬ (_ ∨ _); decide) dL_law_909 ?_
  refine lv_topi (fun x_2 ex_2 => ?_)
  obtain rfl : y1 = x_2 := hy1.trans ex_2.symm
  refine lv_aload_n hx hb dL_law_910 rfl (lv_at hl 4 rfl) ?_
  refine lv_iload hx hb dL_law_911 (lv_at hl 0 rfl) ?_
  refine lv_iconst (v := 2) hx hb dL_law_913 (by decide) ?_
  refine lv_iadd hx hb dL_law_914 ?_
  refine lv_topi (fun x_3 ex_3 => ?_)
  obtain rfl : x_3 = 2 := ex_3.trans (by first | rfl | decide)
  refine va_sld hx hb hX hbl hbA hS (by show ¬ (_ ∨ _); decide) dL_law_915 ?_
  refine lv_topi (fun x_4 ex_4 => ?_)
  obtain rfl : y2 = x_4 := hy2.trans ex_4.symm
  refine lv_aload_n hx hb dL_law_916 rfl (lv_at hl 4 rfl) ?_
  refine lv_iload hx hb dL_law_917 (lv_at hl 0 rfl) ?_
  refine lv_iconst (v := 3) hx hb dL_law_919 (by decide) ?_
  refine lv_iadd hx hb dL_law_920 ?_
  refine lv_topi (fun x_5 ex_5 => ?_)
  obtain rfl : x_5 = 3 := ex_5.trans (by first | rfl | decide)
  refine va_sld hx hb hX hbl hbA hS (by show ¬ (_ ∨ _); decide) dL_law_921 ?_
  refine lv_topi (fun x_6 ex_6 => ?_)
  obtain rfl : y3 = x_6 := hy3.trans ex_6.symm
  refine lv_aload_n hx hb dL_law_922 rfl (lv_at hl 4 rfl) ?_
  refine lv_iload hx hb dL_law_923 (lv_at hl 0 rfl) ?_
  refine lv_iconst (v := 4) hx hb dL_law_925 (by decide) ?_
  refine lv_iadd hx hb dL_law_926 ?_
  refine lv_topi (fun x_7 ex_7 => ?_)
  obtain rfl : x_7 = 4 := ex_7.trans (by first | rfl | decide)
  refine va_sld hx hb hX hbl hbA hS (by show ¬ (_ ∨ _); decide) dL_law_927 ?_
  refine lv_topi (fun x_8 ex_8 => ?_)
  obtain rfl : y4 = x_8 := hy4.trans ex_8.symm
  have hPc := hP.sub (ws' := [(x0, .inr (10, [.ref xTape, .ref xReader, .ref xBag, .ref xBld, .ref xAng, .ref xSum, .ref xPik, .int 0, .ref xHan, .ref xIns, .ref xShr, .ref xSta, .ref xTur])), (xBag, .inr (1, [.ref bC, .ref bS, .ref bX, .ref bW, .ref bP, .int 0]))]) [0, 1] rfl
  have hDc := hD.sub (ws' := [(x0, .inr (10, [.ref xTape, .ref xReader, .ref xBag, .ref xBld, .ref xAng, .ref xSum, .ref xPik, .int 0, .ref xHan, .ref xIns, .ref xShr, .ref xSta, .ref xTur])), (xBag, .inr (1, [.ref bC, .ref bS, .ref bX, .ref bW, .ref bP, .int 0]))]) [0, 1] (by decide) rfl
  have hFc := va_free (wc := [(x0, .inr (10, [.ref xTape, .ref xReader, .ref xBag, .ref xBld, .ref xAng, .ref xSum, .ref xPik, .int 0, .ref xHan, .ref xIns, .ref xShr, .ref xSta, .ref xTur])), (xBag, .inr (1, [.ref bC, .ref bS, .ref bX, .ref bW, .ref bP, .int 0]))]) hD hS hA [0, 1] rfl
  refine va_calli (va_runV (As := [.int y1, .int y2, .int y3, .int y4]) (rest := []) ⟨hx, hb, hml, hown, hts⟩ (c_X10_cut l dC dI cB cI cJ H.size x0 xTape xReader xBag xBld xAng xSum xPik xHan xIns xShr xSta xTur bC bS bX bW bP y1 y2 y3 y4) (cwV 4 hts hL_law_X10_cut rfl rfl rfl (by decide +kernel) ⟨Nat.le_of_ble_eq_true rfl, Nat.le_of_ble_eq_true rfl⟩) ⟨fun a U g mk q => by obtain ⟨q0, q1, qP, qK, qD⟩ := q; exact ⟨q0, q1, qP, va_K.moved (u := U) (U := U.calling g mk a) (Vm.Alike.refl U.vm) qK, qD⟩, va_recv hK hP (ci := 10) (q0 := 0) rfl rfl, fun U hU hW => ⟨rfl, by rw [hU], by rw [hU]; exact hPc, va_K.moved hW.alike hK, hDc.weaken (fun _ _ _ _ => trivial)⟩⟩ rfl rfl hl.1 rfl (lv_room (Nat.le_of_ble_eq_true rfl)) dL_law_928 ⟨Nat.le_of_ble_eq_true rfl, Nat.le_of_ble_eq_true rfl⟩) hS (fun q _ h => hFc q h) hFc (fun r_9 u t H1 locs ht hvm hw hB hz1 hk1 hS => ?_)
  have hP1 : va_P (dC, dI) vwCl [] H1 := fun k q h => by simp at h
  have hD1 : va_D (va_A [(x0, .inr (10, [.ref xTape, .ref xReader, .ref xBag, .ref xBld, .ref xAng, .ref xSum, .ref xPik, .int 0, .ref xHan, .ref xIns, .ref xShr, .ref xSta, .ref xTur])), (xBag, .inr (1, [.ref bC, .ref bS, .ref bX, .ref bW, .ref bP, .int 0]))] H.size) [] := ⟨fun i j p q h => by simp at h, fun k q h => by simp at h⟩
  obtain ⟨hP, hD⟩ := va_join (wr := [(m0, .inr (11, [.int 0, .ref m_tape, .int 0, .int 0, .int 0, .ref m_read, .int 0, .int 0, .int 0, .ref m_tets, .int 0, .int 0, .int 0, .int 0, .int 0, .int 0, .int 0, .int 0, .ref m_primes, .ref m_often, .ref m_normal, .ref m_termM, .ref m_termP, .ref m_termV, .ref m_sumFrom, .ref m_sumMany, .int 0, .int 0, .int 0, .int 0, .ref m_part, .ref m_fair, .ref m_heap, .ref m_pickTet, .ref m_pickEdge, .ref m_base, .ref m_baseM, .ref m_baseP, .ref m_rowsOf, .int 0, .ref m_grid, .ref m_times, .ref m_boxes, .ref m_cameFrom, .ref m_cameBy, .ref m_steps, .ref m_sides, .int 0, .int (-1), .ref m_next, .ref m_cube, .ref m_ways]))]) (w1 := []) hP hD [0, 1] [2] rfl rfl (by decide) (by decide) hk1 hFc hP1 hD1
  generalize H1 = H at hP hS ⊢
  have hP : va_P (dC, dI) vwCl [(m0, .inr (11, [.int 0, .ref m_tape, .int 0, .int 0, .int 0, .ref m_read, .int 0, .int 0, .int 0, .ref m_tets, .int 0, .int 0, .int 0, .int 0, .int 0, .int 0, .int 0, .int 0, .ref m_primes, .ref m_often, .ref m_normal, .ref m_termM, .ref m_termP, .ref m_termV, .ref m_sumFrom, .ref m_sumMany, .int 0, .int 0, .int 0, .int 0, .ref m_part, .ref m_fair, .ref m_heap, .ref m_pickTet, .ref m_pickEdge, .ref m_base, .ref m_baseM, .ref m_baseP, .ref m_rowsOf, .int 0, .ref m_grid, .ref m_times, .ref m_boxes, .ref m_cameFrom, .ref m_cameBy, .ref m_steps, .ref m_sides, .int 0, .int (-1), .ref m_next, .ref m_cube, .ref m_ways]))] H := hP
  have hD : va_D (fun q : Nat => s.heap.size ≤ q) [(m0, .inr (11, [.int 0, .ref m_tape, .int 0, .int 0, .int 0, .ref m_read, .int 0, .int 0, .int 0, .ref m_tets, .int 0, .int 0, .int 0, .int 0, .int 0, .int 0, .int 0, .int 0, .ref m_primes, .ref m_often, .ref m_normal, .ref m_termM, .ref m_termP, .ref m_termV, .ref m_sumFrom, .ref m_sumMany, .int 0, .int 0, .int 0, .int 0, .ref m_part, .ref m_fair, .ref m_heap, .ref m_pickTet, .ref m_pickEdge, .ref m_base, .ref m_baseM, .ref m_baseP, .ref m_rowsOf, .int 0, .ref m_grid, .ref m_times, .ref m_boxes, .ref m_cameFrom, .ref m_cameBy, .ref m_steps, .ref m_sides, .int 0, .int (-1), .ref m_next, .ref m_cube, .ref m_ways]))] := hD
  have hr_9 := hw
  obtain rfl : r_9 = (-1) := hr_9
  refine lv_aload_n hx hb dL_law_931 rfl (lv_at hl 2 rfl) ?_
  refine lv_aload_n hx hb dL_law_932 rfl (lv_at hl 4 rfl) ?_
  refine lv_iload hx hb dL_law_933 (lv_at hl 0 rfl) ?_
  refine lv_iconst (v := 1) hx hb dL_law_935 (by decide) ?_
  refine lv_iadd hx hb dL_law_936 ?_
  refine lv_topi (fun x_10 ex_10 => ?_)
  obtain rfl : x_10 = 1 := ex_10.trans (by first | rfl | decide)
  refine va_sld hx hb hX hbl hbA hS (by show ¬ (_ ∨ _); decide) dL_law_937 ?_
  refine lv_topi (fun x_11 ex_11 => ?_)
  obtain rfl : y1 = x_11 := hy1.trans ex_11.symm
  refine lv_aload_n hx hb dL_law_938 rfl (lv_at hl 4 rfl) ?_
  refine lv_iload hx hb dL_law_939 (lv_at hl 0 rfl) ?_
  refine lv_iconst (v := 2) hx hb dL_law_941 (by decide) ?_
  refine lv_iadd hx hb dL_law_942 ?_
  refine lv_topi (fun x_12 ex_12 => ?_)
  obtain rfl : x_12 = 2 := ex_12.trans (by first | rfl | decide)
  refine va_sld hx hb hX hbl hbA hS (by show ¬ (_ ∨ _); decide) dL_law_943 ?_
  refine lv_topi (fun x_13 ex_13 => ?_)
  obtain rfl : y2 = x_13 := hy2.trans ex_13.symm
  refine lv_aload_n hx hb dL_law_944 rfl (lv_at hl 4 rfl) ?_
  refine lv_iload hx hb dL_law_945 (lv_at hl 0 rfl) ?_
  refine lv_iconst (v := 3) hx hb dL_law_947 (by decide) ?_
  refine lv_iadd hx hb dL_law_948 ?_
  refine lv_topi (fun x_14 ex_14 => ?_)
  obtain rfl : x_14 = 3 := ex_14.trans (by first | rfl | decide)
  refine va_sld hx hb hX hbl hbA hS (by show ¬ (_ ∨ _); decide) dL_law_949 ?_
  refine lv_topi (fun x_15 ex_15 => ?_)
  obtain rfl : y3 = x_15 := hy3.trans ex_15.symm
  refine lv_aload_n hx hb dL_law_950 rfl (lv_at hl 4 rfl) ?_
  refine lv_iload hx hb dL_law_951 (lv_at hl 0 rfl) ?_
  refine lv_iconst (v := 4) hx hb dL_law_953 (by decide) ?_
  refine lv_iadd hx hb dL_law_954 ?_
  refine lv_topi (fun x_16 ex_16 => ?_)
  obtain rfl : x_16 = 4 := ex_16.trans (by first | rfl | decide)
  refine va_sld hx hb hX hbl hbA hS (by show ¬ (_ ∨ _); decide) dL_law_955 ?_
  refine lv_topi (fun x_17 ex_17 => ?_)
  obtain rfl : y4 = x_17 := hy4.trans ex_17.symm
  have hPc := hP.sub (ws' := [(m0, .inr (11, [.int 0, .ref m_tape, .int 0, .int 0, .int 0, .ref m_read, .int 0, .int 0, .int 0, .ref m_tets, .int 0, .int 0, .int 0, .int 0, .int 0, .int 0, .int 0, .int 0, .ref m_primes, .ref m_often, .ref m_normal, .ref m_termM, .ref m_termP, .ref m_termV, .ref m_sumFrom, .ref m_sumMany, .int 0, .int 0, .int 0, .int 0, .ref m_part, .ref m_fair, .ref m_heap, .ref m_pickTet, .ref m_pickEdge, .ref m_base, .ref m_baseM, .ref m_baseP, .ref m_rowsOf, .int 0, .ref m_grid, .ref m_times, .ref m_boxes, .ref m_cameFrom, .ref m_cameBy, .ref m_steps, .ref m_sides, .int 0, .int (-1), .ref m_next, .ref m_cube, .ref m_ways]))]) [0] rfl
  have hDc := hD.sub (ws' := [(m0, .inr (11, [.int 0, .ref m_tape, .int 0, .int 0, .int 0, .ref m_read, .int 0, .int 0, .int 0, .ref m_tets, .int 0, .int 0, .int 0, .int 0, .int 0, .int 0, .int 0, .int 0, .ref m_primes, .ref m_often, .ref m_normal, .ref m_termM, .ref m_termP, .ref m_termV, .ref m_sumFrom, .ref m_sumMany, .int 0, .int 0, .int 0, .int 0, .ref m_part, .ref m_fair, .ref m_heap, .ref m_pickTet, .ref m_pickEdge, .ref m_base, .ref m_baseM, .ref m_baseP, .ref m_rowsOf, .int 0, .ref m_grid, .ref m_times, .ref m_boxes, .ref m_cameFrom, .ref m_cameBy, .ref m_steps, .ref m_sides, .int 0, .int (-1), .ref m_next, .ref m_cube, .ref m_ways]))]) [0] (by decide) rfl
  have hFc := va_free (wc := [(m0, .inr (11, [.int 0, .ref m_tape, .int 0, .int 0, .int 0, .ref m_read, .int 0, .int 0, .int 0, .ref m_tets, .int 0, .int 0, .int 0, .int 0, .int 0, .int 0, .int 0, .int 0, .ref m_primes, .ref m_often, .ref m_normal, .ref m_termM, .ref m_termP, .ref m_termV, .ref m_sumFrom, .ref m_sumMany, .int 0, .int 0, .int 0, .int 0, .ref m_part, .ref m_fair, .ref m_heap, .ref m_pickTet, .ref m_pickEdge, .ref m_base, .ref m_baseM, .ref m_baseP, .ref m_rowsOf, .int 0, .ref m_grid, .ref m_times, .ref m_boxes, .ref m_cameFrom, .ref m_cameBy, .ref m_steps, .ref m_sides, .int 0, .int (-1), .ref m_next, .ref m_cube, .ref m_ways]))]) hD hS hA [0] rfl
  refine va_calli (va_runV (As := [.int y1, .int y2, .int y3, .int y4]) (rest := [.int (-1)]) ⟨hx, hb, hml, hown, hts⟩ (c_X11_cut l dC dI cB cI cJ H.size m0 m_tape m_read m_tets m_primes m_often m_normal m_termM m_termP m_termV m_sumFrom m_sumMany m_part m_fair m_heap m_pickTet m_pickEdge m_base m_baseM m_baseP m_rowsOf m_grid m_times m_boxes m_cameFrom m_cameBy m_steps m_sides m_next m_cube m_ways y1 y2 y3 y4) (cwV 4 hts hL_law_X11_cut rfl rfl rfl (by decide +kernel) ⟨Nat.le_of_ble_eq_true rfl, Nat.le_of_ble_eq_true rfl⟩) ⟨fun a U g mk q => by obtain ⟨q0, q1, qP, qK, qD⟩ := q; exact ⟨q0, q1, qP, va_K.moved (u := U) (U := U.calling g mk a) (Vm.Alike.refl U.vm) qK, qD⟩, va_recv hK hP (ci := 11) (q0 := 0) rfl rfl, fun U hU hW => ⟨rfl, by rw [hU], by rw [hU]; exact hPc, va_K.moved hW.alike hK, hDc.weaken (fun _ _ _ _ => trivial)⟩⟩ rfl rfl hl.1 rfl (lv_room (Nat.le_of_ble_eq_true rfl)) dL_law_956 ⟨Nat.le_of_ble_eq_true rfl, Nat.le_of_ble_eq_true rfl⟩) hS (fun q _ h => hFc q h) hFc (fun r_18 u t H1 locs ht hvm hw hB hz1 hk1 hS => ?_)
  have hP1 : va_P (dC, dI) vwCl [] H1 := fun k q h => by simp at h
  have hD1 : va_D (va_A [(m0, .inr (11, [.int 0, .ref m_tape, .int 0, .int 0, .int 0, .ref m_read, .int 0, .int 0, .int 0, .ref m_tets, .int 0, .int 0, .int 0, .int 0, .int 0, .int 0, .int 0, .int 0, .ref m_primes, .ref m_often, .ref m_normal, .ref m_termM, .ref m_termP, .ref m_termV, .ref m_sumFrom, .ref m_sumMany, .int 0, .int 0, .int 0, .int 0, .ref m_part, .ref m_fair, .ref m_heap, .ref m_pickTet, .ref m_pickEdge, .ref m_base, .ref m_baseM, .ref m_baseP, .ref m_rowsOf, .int 0, .ref m_grid, .ref m_times, .ref m_boxes, .ref m_cameFrom, .ref m_cameBy, .ref m_steps, .ref m_sides, .int 0, .int (-1), .ref m_next, .ref m_cube, .ref m_ways]))] H.size) [] := ⟨fun i j p q h => by simp at h, fun k q h => by simp at h⟩
  obtain ⟨hP, hD⟩ := va_join (wr := []) (w1 := []) hP hD [0] [] rfl rfl (by decide) (by decide) hk1 hFc hP1 hD1
  generalize H1 = H at hP hS ⊢
  have hP : va_P (dC, dI) vwCl [] H := hP
  have hD : va_D (fun q : Nat => s.heap.size ≤ q) [] := hD
  have hr_18 := hw
  obtain rfl : r_18 = (-1) := hr_18
  refine lv_icmp_eq (tgt := 1744) hx hb dL_law_959 (by decide) (fun _ => ?_) (fun c => absurd (by decide) c)
  refine W.widen (k := 600002) (n := 7302232) (Nat.le_of_ble_eq_true rfl) (Nat.le_of_ble_eq_true rfl) ?_
  exact la_end l C0 H _ hS ls hl
set_option maxHeartbeats 8000000 in
set_option maxRecDepth 100000 in
theorem la_17 {p : Program} {e : Env} {s : State} {m : MethodId} {below : List Frame} {meth : Method} {c : Code} (l : Launch) {b : Nat} {xs : Nat → Int32} (C0 : lw_At p s m meth c b 7 xs) (dC : Nat → ClassId) (dI : Nat → Nat → Nat) (cB cI cJ : ClassId) {x0 xTape xReader xBag xBld xAng xSum xPik xHan xIns xShr xSta xTur bC bS bX bW bP m0 m_tape m_read m_tets m_primes m_often m_normal m_termM m_termP m_termV m_sumFrom m_sumMany m_part m_fair m_heap m_pickTet m_pickEdge m_base m_baseM m_baseP m_rowsOf m_grid m_times m_boxes m_cameFrom m_cameBy m_steps m_sides m_next m_cube m_ways o0 : Nat} (H : Heap) (locs : List Loc) (hK : va_K (dC, dI) vwCl [(cB, .byte), (cI, .int), (cJ, .long)] s) (hP : va_P (dC, dI) vwCl [(x0, .inr (10, [.ref xTape, .ref xReader, .ref xBag, .ref xBld, .ref xAng, .ref xSum, .ref xPik, .int 0, .ref xHan, .ref xIns, .ref xShr, .ref xSta, .ref xTur])), (xBag, .inr (1, [.ref bC, .ref bS, .ref bX, .ref bW, .ref bP, .int 0])), (m0, .inr (11, [.int 0, .ref m_tape, .int 0, .int 0, .int 0, .ref m_read, .int 0, .int 0, .int 0, .ref m_tets, .int 0, .int 0, .int 0, .int 0, .int 0, .int 0, .int 0, .int 0, .ref m_primes, .ref m_often, .ref m_normal, .ref m_termM, .ref m_termP, .ref m_termV, .ref m_sumFrom, .ref m_sumMany, .int 0, .int 0, .int 0, .int 0, .ref m_part, .ref m_fair, .ref m_heap, .ref m_pickTet, .ref m_pickEdge, .ref m_base, .ref m_baseM, .ref m_baseP, .ref m_rowsOf, .int 0, .ref m_grid, .ref m_times, .ref m_boxes, .ref m_cameFrom, .ref m_cameBy, .ref m_steps, .ref m_sides, .int 0, .int (-1), .ref m_next, .ref m_cube, .ref m_ways]))] H) (hD : va_D (fun q : Nat => s.heap.size ≤ q) [(x0, .inr (10, [.ref xTape, .ref xReader, .ref xBag, .ref xBld, .ref xAng, .ref xSum, .ref xPik, .int 0, .ref xHan, .ref xIns, .ref xShr, .ref xSta, .ref xTur])), (xBag, .inr (1, [.ref bC, .ref bS, .ref bX, .ref bW, .ref bP, .int 0])), (m0, .inr (11, [.int 0, .ref m_tape, .int 0, .int 0, .int 0, .ref m_read, .int 0, .int 0, .int 0, .ref m_tets, .int 0, .int 0, .int 0, .int 0, .int 0, .int 0, .int 0, .int 0, .ref m_primes, .ref m_often, .ref m_normal, .ref m_termM, .ref m_termP, .ref m_termV, .ref m_sumFrom, .ref m_sumMany, .int 0, .int 0, .int 0, .int 0, .ref m_part, .ref m_fair, .ref m_heap, .ref m_pickTet, .ref m_pickEdge, .ref m_base, .ref m_baseM, .ref m_baseP, .ref m_rowsOf, .int 0, .ref m_grid, .ref m_times, .ref m_boxes, .ref m_cameFrom, .ref m_cameBy, .ref m_steps, .ref m_sides, .int 0, .int (-1), .ref m_next, .ref m_cube, .ref m_ways]))]) (hS : va_S (fun q : Nat => s.heap.size ≤ q) s.heap H locs) (ls : Array Slot) (hl : lv_has ls 7 [(4, .int 0), (3, .ref o0), (2, .ref m0), (1, .ref x0), (0, .ref b)]) : W p l e room_1 s m #[Value.ref b] below meth c H locs 82 28049 (lw_Z below #[Value.ref b] s) (F0 m 964 ls []) := by
  obtain ⟨hx, hb, hr, hml, hown, htb, hX, hbl, hlocks, hgv⟩ := id C0
  have hts := htb
  have hbA : ¬ (fun q : Nat => s.heap.size ≤ q) b := Nat.not_le.mpr hbl
  have hA : ∀ q : Nat, s.heap.size ≤ q → (fun q : Nat => s.heap.size ≤ q) q := fun _ h => h
  obtain ⟨y1, hy1⟩ : ∃ y : Int32, y = xs (1 : Int32).toNatClampNeg := ⟨_, rfl⟩
  obtain ⟨y2, hy2⟩ : ∃ y : Int32, y = xs (2 : Int32).toNatClampNeg := ⟨_, rfl⟩
  refine lv_aload_n hx hb dL_law_964 rfl (lv_at hl 3 rfl) ?_
  refine lv_aload_n hx hb dL_law_965 rfl (lv_at hl 4 rfl) ?_
  refine lv_iload hx hb dL_law_966 (lv_at hl 0 rfl) ?_
  refine lv_iconst (v := 1) hx hb dL_law_968 (by decide) ?_
  refine lv_iadd hx hb dL_law_969 ?_
  refine lv_topi (fun x_1 ex_1 => ?_)
  obtain rfl : x_1 = 1 := ex_1.trans (by first | rfl | decide)
  refine va_sld hx hb hX hbl hbA hS (by show ¬ (_ ∨ _); decide) dL_law_970 ?_
  refine lv_topi (fun x_2 ex_2 => ?_)
  obtain rfl : y1 = x_2 := hy1.trans ex_2.symm
  refine lv_aload_n hx hb dL_law_971 rfl (lv_at hl 4 rfl) ?_
  refine lv_iload hx hb dL_law_972 (lv_at hl 0 rfl) ?_
  refine lv_iconst (v := 2) hx hb dL_law_974 (by decide) ?_
  refine lv_iadd hx hb dL_law_975 ?_
  refine lv_topi (fun x_3 ex_3 => ?_)
  obtain rfl : x_3 = 2 := ex_3.trans (by first | rfl | decide)
  refine va_sld hx hb hX hbl hbA hS (by show ¬ (_ ∨ _); decide) dL_law_976 ?_
  refine lv_topi (fun x_4 ex_4 => ?_)
  obtain rfl : y2 = x_4 := hy2.trans ex_4.symm
  have hPc := hP.sub (ws' := [(x0, .inr (10, [.ref xTape, .ref xReader, .ref xBag, .ref xBld, .ref xAng, .ref xSum, .ref xPik, .int 0, .ref xHan, .ref xIns, .ref xShr, .ref xSta, .ref xTur])), (xBag, .inr (1, [.ref bC, .ref bS, .ref bX, .ref bW, .ref bP, .int 0]))]) [0, 1] rfl
  have hDc := hD.sub (ws' := [(x0, .inr (10, [.ref xTape, .ref xReader, .ref xBag, .ref xBld, .ref xAng, .ref xSum, .ref xPik, .int 0, .ref xHan, .ref xIns, .ref xShr, .ref xSta, .ref xTur])), (xBag, .inr (1, [.ref bC, .ref bS, .ref bX, .ref bW, .ref bP, .int 0]))]) [0, 1] (by decide) rfl
  have hFc := va_free (wc := [(x0, .inr (10, [.ref xTape, .ref xReader, .ref xBag, .ref xBld, .ref xAng, .ref xSum, .ref xPik, .int 0, .ref xHan, .ref xIns, .ref xShr, .ref xSta, .ref xTur])), (xBag, .inr (1, [.ref bC, .ref bS, .ref bX, .ref bW, .ref bP, .int 0]))]) hD hS hA [0, 1] rfl
  refine va_calli (va_runV (As := [.int y1, .int y2]) (rest := []) ⟨hx, hb, hml, hown, hts⟩ (c_X10_join l dC dI cB cI cJ H.size x0 xTape xReader xBag xBld xAng xSum xPik xHan xIns xShr xSta xTur bC bS bX bW bP y1 y2) (cwV 2 hts hL_law_X10_join rfl rfl rfl (by decide +kernel) ⟨Nat.le_of_ble_eq_true rfl, Nat.le_of_ble_eq_true rfl⟩) ⟨fun a U g mk q => by obtain ⟨q0, q1, qP, qK, qD⟩ := q; exact ⟨q0, q1, qP, va_K.moved (u := U) (U := U.calling g mk a) (Vm.Alike.refl U.vm) qK, qD⟩, va_recv hK hP (ci := 10) (q0 := 0) rfl rfl, fun U hU hW => ⟨rfl, by rw [hU], by rw [hU]; exact hPc, va_K.moved hW.alike hK, hDc.weaken (fun _ _ _ _ => trivial)⟩⟩ rfl rfl hl.1 rfl (lv_room (Nat.le_of_ble_eq_true rfl)) dL_law_977 ⟨Nat.le_of_ble_eq_true rfl, Nat.le_of_ble_eq_true rfl⟩) hS (fun q _ h => hFc q h) hFc (fun r_5 u t H1 locs ht hvm hw hB hz1 hk1 hS => ?_)
  have hP1 : va_P (dC, dI) vwCl [] H1 := fun k q h => by simp at h
  have hD1 : va_D (va_A [(x0, .inr (10, [.ref xTape, .ref xReader, .ref xBag, .ref xBld, .ref xAng, .ref xSum, .ref xPik, .int 0, .ref xHan, .ref xIns, .ref xShr, .ref xSta, .ref xTur])), (xBag, .inr (1, [.ref bC, .ref bS, .ref bX, .ref bW, .ref bP, .int 0]))] H.size) [] := ⟨fun i j p q h => by simp at h, fun k q h => by simp at h⟩
  obtain ⟨hP, hD⟩ := va_join (wr := [(m0, .inr (11, [.int 0, .ref m_tape, .int 0, .int 0, .int 0, .ref m_read, .int 0, .int 0, .int 0, .ref m_tets, .int 0, .int 0, .int 0, .int 0, .int 0, .int 0, .int 0, .int 0, .ref m_primes, .ref m_often, .ref m_normal, .ref m_termM, .ref m_termP, .ref m_termV, .ref m_sumFrom, .ref m_sumMany, .int 0, .int 0, .int 0, .int 0, .ref m_part, .ref m_fair, .ref m_heap, .ref m_pickTet, .ref m_pickEdge, .ref m_base, .ref m_baseM, .ref m_baseP, .ref m_rowsOf, .int 0, .ref m_grid, .ref m_times, .ref m_boxes, .ref m_cameFrom, .ref m_cameBy, .ref m_steps, .ref m_sides, .int 0, .int (-1), .ref m_next, .ref m_cube, .ref m_ways]))]) (w1 := []) hP hD [0, 1] [2] rfl rfl (by decide) (by decide) hk1 hFc hP1 hD1
  generalize H1 = H at hP hS ⊢
  have hP : va_P (dC, dI) vwCl [(m0, .inr (11, [.int 0, .ref m_tape, .int 0, .int 0, .int 0, .ref m_read, .int 0, .int 0, .int 0, .ref m_tets, .int 0, .int 0, .int 0, .int 0, .int 0, .int 0, .int 0, .int 0, .ref m_primes, .ref m_often, .ref m_normal, .ref m_termM, .ref m_termP, .ref m_termV, .ref m_sumFrom, .ref m_sumMany, .int 0, .int 0, .int 0, .int 0, .ref m_part, .ref m_fair, .ref m_heap, .ref m_pickTet, .ref m_pickEdge, .ref m_base, .ref m_baseM, .ref m_baseP, .ref m_rowsOf, .int 0, .ref m_grid, .ref m_times, .ref m_boxes, .ref m_cameFrom, .ref m_cameBy, .ref m_steps, .ref m_sides, .int 0, .int (-1), .ref m_next, .ref m_cube, .ref m_ways]))] H := hP
  have hD : va_D (fun q : Nat => s.heap.size ≤ q) [(m0, .inr (11, [.int 0, .ref m_tape, .int 0, .int 0, .int 0, .ref m_read, .int 0, .int 0, .int 0, .ref m_tets, .int 0, .int 0, .int 0, .int 0, .int 0, .int 0, .int 0, .int 0, .ref m_primes, .ref m_often, .ref m_normal, .ref m_termM, .ref m_termP, .ref m_termV, .ref m_sumFrom, .ref m_sumMany, .int 0, .int 0, .int 0, .int 0, .ref m_part, .ref m_fair, .ref m_heap, .ref m_pickTet, .ref m_pickEdge, .ref m_base, .ref m_baseM, .ref m_baseP, .ref m_rowsOf, .int 0, .ref m_grid, .ref m_times, .ref m_boxes, .ref m_cameFrom, .ref m_cameBy, .ref m_steps, .ref m_sides, .int 0, .int (-1), .ref m_next, .ref m_cube, .ref m_ways]))] := hD
  have hr_5 := hw
  obtain rfl : r_5 = (-1) := hr_5
  refine lv_aload_n hx hb dL_law_980 rfl (lv_at hl 2 rfl) ?_
  refine lv_aload_n hx hb dL_law_981 rfl (lv_at hl 4 rfl) ?_
  refine lv_iload hx hb dL_law_982 (lv_at hl 0 rfl) ?_
  refine lv_iconst (v := 1) hx hb dL_law_984 (by decide) ?_
  refine lv_iadd hx hb dL_law_985 ?_
  refine lv_topi (fun x_6 ex_6 => ?_)
  obtain rfl : x_6 = 1 := ex_6.trans (by first | rfl | decide)
  refine va_sld hx hb hX hbl hbA hS (by show ¬ (_ ∨ _); decide) dL_law_986 ?_
  refine lv_topi (fun x_7 ex_7 => ?_)
  obtain rfl : y1 = x_7 := hy1.trans ex_7.symm
  refine lv_aload_n hx hb dL_law_987 rfl (lv_at hl 4 rfl) ?_
  refine lv_iload hx hb dL_law_988 (lv_at hl 0 rfl) ?_
  refine lv_iconst (v := 2) hx hb dL_law_990 (by decide) ?_
  refine lv_iadd hx hb dL_law_991 ?_
  refine lv_topi (fun x_8 ex_8 => ?_)
  obtain rfl : x_8 = 2 := ex_8.trans (by first | rfl | decide)
  refine va_sld hx hb hX hbl hbA hS (by show ¬ (_ ∨ _); decide) dL_law_992 ?_
  refine lv_topi (fun x_9 ex_9 => ?_)
  obtain rfl : y2 = x_9 := hy2.trans ex_9.symm
  have hPc := hP.sub (ws' := [(m0, .inr (11, [.int 0, .ref m_tape, .int 0, .int 0, .int 0, .ref m_read, .int 0, .int 0, .int 0, .ref m_tets, .int 0, .int 0, .int 0, .int 0, .int 0, .int 0, .int 0, .int 0, .ref m_primes, .ref m_often, .ref m_normal, .ref m_termM, .ref m_termP, .ref m_termV, .ref m_sumFrom, .ref m_sumMany, .int 0, .int 0, .int 0, .int 0, .ref m_part, .ref m_fair, .ref m_heap, .ref m_pickTet, .ref m_pickEdge, .ref m_base, .ref m_baseM, .ref m_baseP, .ref m_rowsOf, .int 0, .ref m_grid, .ref m_times, .ref m_boxes, .ref m_cameFrom, .ref m_cameBy, .ref m_steps, .ref m_sides, .int 0, .int (-1), .ref m_next, .ref m_cube, .ref m_ways]))]) [0] rfl
  have hDc := hD.sub (ws' := [(m0, .inr (11, [.int 0, .ref m_tape, .int 0, .int 0, .int 0, .ref m_read, .int 0, .int 0, .int 0, .ref m_tets, .int 0, .int 0, .int 0, .int 0, .int 0, .int 0, .int 0, .int 0, .ref m_primes, .ref m_often, .ref m_normal, .ref m_termM, .ref m_termP, .ref m_termV, .ref m_sumFrom, .ref m_sumMany, .int 0, .int 0, .int 0, .int 0, .ref m_part, .ref m_fair, .ref m_heap, .ref m_pickTet, .ref m_pickEdge, .ref m_base, .ref m_baseM, .ref m_baseP, .ref m_rowsOf, .int 0, .ref m_grid, .ref m_times, .ref m_boxes, .ref m_cameFrom, .ref m_cameBy, .ref m_steps, .ref m_sides, .int 0, .int (-1), .ref m_next, .ref m_cube, .ref m_ways]))]) [0] (by decide) rfl
  have hFc := va_free (wc := [(m0, .inr (11, [.int 0, .ref m_tape, .int 0, .int 0, .int 0, .ref m_read, .int 0, .int 0, .int 0, .ref m_tets, .int 0, .int 0, .int 0, .int 0, .int 0, .int 0, .int 0, .int 0, .ref m_primes, .ref m_often, .ref m_normal, .ref m_termM, .ref m_termP, .ref m_termV, .ref m_sumFrom, .ref m_sumMany, .int 0, .int 0, .int 0, .int 0, .ref m_part, .ref m_fair, .ref m_heap, .ref m_pickTet, .ref m_pickEdge, .ref m_base, .ref m_baseM, .ref m_baseP, .ref m_rowsOf, .int 0, .ref m_grid, .ref m_times, .ref m_boxes, .ref m_cameFrom, .ref m_cameBy, .ref m_steps, .ref m_sides, .int 0, .int (-1), .ref m_next, .ref m_cube, .ref m_ways]))]) hD hS hA [0] rfl
  refine va_calli (va_runV (As := [.int y1, .int y2]) (rest := [.int (-1)]) ⟨hx, hb, hml, hown, hts⟩ (c_X11_join l dC dI cB cI cJ H.size m0 m_tape m_read m_tets m_primes m_often m_normal m_termM m_termP m_termV m_sumFrom m_sumMany m_part m_fair m_heap m_pickTet m_pickEdge m_base m_baseM m_baseP m_rowsOf m_grid m_times m_boxes m_cameFrom m_cameBy m_steps m_sides m_next m_cube m_ways y1 y2) (cwV 2 hts hL_law_X11_join rfl rfl rfl (by decide +kernel) ⟨Nat.le_of_ble_eq_true rfl, Nat.le_of_ble_eq_true rfl⟩) ⟨fun a U g mk q => by obtain ⟨q0, q1, qP, qK, qD⟩ := q; exact ⟨q0, q1, qP, va_K.moved (u := U) (U := U.calling g mk a) (Vm.Alike.refl U.vm) qK, qD⟩, va_recv hK hP (ci := 11) (q0 := 0) rfl rfl, fun U hU hW => ⟨rfl, by rw [hU], by rw [hU]; exact hPc, va_K.moved hW.alike hK, hDc.weaken (fun _ _ _ _ => trivial)⟩⟩ rfl rfl hl.1 rfl (lv_room (Nat.le_of_ble_eq_true rfl)) dL_law_993 ⟨Nat.le_of_ble_eq_true rfl, Nat.le_of_ble_eq_true rfl⟩) hS (fun q _ h => hFc q h) hFc (fun r_10 u t H1 locs ht hvm hw hB hz1 hk1 hS => ?_)
  have hP1 : va_P (dC, dI) vwCl [] H1 := fun k q h => by simp at h
  have hD1 : va_D (va_A [(m0, .inr (11, [.int 0, .ref m_tape, .int 0, .int 0, .int 0, .ref m_read, .int 0, .int 0, .int 0, .ref m_tets, .int 0, .int 0, .int 0, .int 0, .int 0, .int 0, .int 0, .int 0, .ref m_primes, .ref m_often, .ref m_normal, .ref m_termM, .ref m_termP, .ref m_termV, .ref m_sumFrom, .ref m_sumMany, .int 0, .int 0, .int 0, .int 0, .ref m_part, .ref m_fair, .ref m_heap, .ref m_pickTet, .ref m_pickEdge, .ref m_base, .ref m_baseM, .ref m_baseP, .ref m_rowsOf, .int 0, .ref m_grid, .ref m_times, .ref m_boxes, .ref m_cameFrom, .ref m_cameBy, .ref m_steps, .ref m_sides, .int 0, .int (-1), .ref m_next, .ref m_cube, .ref m_ways]))] H.size) [] := ⟨fun i j p q h => by simp at h, fun k q h => by simp at h⟩
  obtain ⟨hP, hD⟩ := va_join (wr := []) (w1 := []) hP hD [0] [] rfl rfl (by decide) (by decide) hk1 hFc hP1 hD1
  generalize H1 = H at hP hS ⊢
  have hP : va_P (dC, dI) vwCl [] H := hP
  have hD : va_D (fun q : Nat => s.heap.size ≤ q) [] := hD
  have hr_10 := hw
  obtain rfl : r_10 = (-1) := hr_10
  refine lv_icmp_eq (tgt := 1744) hx hb dL_law_996 (by decide) (fun _ => ?_) (fun c => absurd (by decide) c)
  refine W.widen (k := 600002) (n := 7302232) (Nat.le_of_ble_eq_true rfl) (Nat.le_of_ble_eq_true rfl) ?_
  exact la_end l C0 H _ hS ls hl
set_option maxHeartbeats 8000000 in
set_option maxRecDepth 100000 in
theorem la_18 {p : Program} {e : Env} {s : State} {m : MethodId} {below : List Frame} {meth : Method} {c : Code} (l : Launch) {b : Nat} {xs : Nat → Int32} (C0 : lw_At p s m meth c b 7 xs) (dC : Nat → ClassId) (dI : Nat → Nat → Nat) (cB cI cJ : ClassId) {x0 xTape xReader xBag xBld xAng xSum xPik xHan xIns xShr xSta xTur bC bS bX bW bP m0 m_tape m_read m_tets m_primes m_often m_normal m_termM m_termP m_termV m_sumFrom m_sumMany m_part m_fair m_heap m_pickTet m_pickEdge m_base m_baseM m_baseP m_rowsOf m_grid m_times m_boxes m_cameFrom m_cameBy m_steps m_sides m_next m_cube m_ways o0 : Nat} (H : Heap) (locs : List Loc) (hK : va_K (dC, dI) vwCl [(cB, .byte), (cI, .int), (cJ, .long)] s) (hP : va_P (dC, dI) vwCl [(x0, .inr (10, [.ref xTape, .ref xReader, .ref xBag, .ref xBld, .ref xAng, .ref xSum, .ref xPik, .int 0, .ref xHan, .ref xIns, .ref xShr, .ref xSta, .ref xTur])), (xBag, .inr (1, [.ref bC, .ref bS, .ref bX, .ref bW, .ref bP, .int 0])), (m0, .inr (11, [.int 0, .ref m_tape, .int 0, .int 0, .int 0, .ref m_read, .int 0, .int 0, .int 0, .ref m_tets, .int 0, .int 0, .int 0, .int 0, .int 0, .int 0, .int 0, .int 0, .ref m_primes, .ref m_often, .ref m_normal, .ref m_termM, .ref m_termP, .ref m_termV, .ref m_sumFrom, .ref m_sumMany, .int 0, .int 0, .int 0, .int 0, .ref m_part, .ref m_fair, .ref m_heap, .ref m_pickTet, .ref m_pickEdge, .ref m_base, .ref m_baseM, .ref m_baseP, .ref m_rowsOf, .int 0, .ref m_grid, .ref m_times, .ref m_boxes, .ref m_cameFrom, .ref m_cameBy, .ref m_steps, .ref m_sides, .int 0, .int (-1), .ref m_next, .ref m_cube, .ref m_ways]))] H) (hD : va_D (fun q : Nat => s.heap.size ≤ q) [(x0, .inr (10, [.ref xTape, .ref xReader, .ref xBag, .ref xBld, .ref xAng, .ref xSum, .ref xPik, .int 0, .ref xHan, .ref xIns, .ref xShr, .ref xSta, .ref xTur])), (xBag, .inr (1, [.ref bC, .ref bS, .ref bX, .ref bW, .ref bP, .int 0])), (m0, .inr (11, [.int 0, .ref m_tape, .int 0, .int 0, .int 0, .ref m_read, .int 0, .int 0, .int 0, .ref m_tets, .int 0, .int 0, .int 0, .int 0, .int 0, .int 0, .int 0, .int 0, .ref m_primes, .ref m_often, .ref m_normal, .ref m_termM, .ref m_termP, .ref m_termV, .ref m_sumFrom, .ref m_sumMany, .int 0, .int 0, .int 0, .int 0, .ref m_part, .ref m_fair, .ref m_heap, .ref m_pickTet, .ref m_pickEdge, .ref m_base, .ref m_baseM, .ref m_baseP, .ref m_rowsOf, .int 0, .ref m_grid, .ref m_times, .ref m_boxes, .ref m_cameFrom, .ref m_cameBy, .ref m_steps, .ref m_sides, .int 0, .int (-1), .ref m_next, .ref m_cube, .ref m_ways]))]) (hS : va_S (fun q : Nat => s.heap.size ≤ q) s.heap H locs) (ls : Array Slot) (hl : lv_has ls 7 [(4, .int 0), (3, .ref o0), (2, .ref m0), (1, .ref x0), (0, .ref b)]) : W p l e room_1 s m #[Value.ref b] below meth c H locs 82 28049 (lw_Z below #[Value.ref b] s) (F0 m 1001 ls []) := by
  obtain ⟨hx, hb, hr, hml, hown, htb, hX, hbl, hlocks, hgv⟩ := id C0
  have hts := htb
  have hbA : ¬ (fun q : Nat => s.heap.size ≤ q) b := Nat.not_le.mpr hbl
  have hA : ∀ q : Nat, s.heap.size ≤ q → (fun q : Nat => s.heap.size ≤ q) q := fun _ h => h
  obtain ⟨y1, hy1⟩ : ∃ y : Int32, y = xs (1 : Int32).toNatClampNeg := ⟨_, rfl⟩
  obtain ⟨y2, hy2⟩ : ∃ y : Int32, y = xs (2 : Int32).toNatClampNeg := ⟨_, rfl⟩
  refine lv_aload_n hx hb dL_law_1001 rfl (lv_at hl 3 rfl) ?_
  refine lv_aload_n hx hb dL_law_1002 rfl (lv_at hl 4 rfl) ?_
  refine lv_iload hx hb dL_law_1003 (lv_at hl 0 rfl) ?_
  refine lv_iconst (v := 1) hx hb dL_law_1005 (by decide) ?_
  refine lv_iadd hx hb dL_law_1006 ?_
  refine lv_topi (fun x_1 ex_1 => ?_)
  obtain rfl : x_1 = 1 := ex_1.trans (by first | rfl | decide)
  refine va_sld hx hb hX hbl hbA hS (by show ¬ (_ ∨ _); decide) dL_law_1007 ?_
  refine lv_topi (fun x_2 ex_2 => ?_)
  obtain rfl : y1 = x_2 := hy1.trans ex_2.symm
  refine lv_aload_n hx hb dL_law_1008 rfl (lv_at hl 4 rfl) ?_
  refine lv_iload hx hb dL_law_1009 (lv_at hl 0 rfl) ?_
  refine lv_iconst (v := 2) hx hb dL_law_1011 (by decide) ?_
  refine lv_iadd hx hb dL_law_1012 ?_
  refine lv_topi (fun x_3 ex_3 => ?_)
  obtain rfl : x_3 = 2 := ex_3.trans (by first | rfl | decide)
  refine va_sld hx hb hX hbl hbA hS (by show ¬ (_ ∨ _); decide) dL_law_1013 ?_
  refine lv_topi (fun x_4 ex_4 => ?_)
  obtain rfl : y2 = x_4 := hy2.trans ex_4.symm
  have hPc := hP.sub (ws' := [(x0, .inr (10, [.ref xTape, .ref xReader, .ref xBag, .ref xBld, .ref xAng, .ref xSum, .ref xPik, .int 0, .ref xHan, .ref xIns, .ref xShr, .ref xSta, .ref xTur])), (xBag, .inr (1, [.ref bC, .ref bS, .ref bX, .ref bW, .ref bP, .int 0]))]) [0, 1] rfl
  have hDc := hD.sub (ws' := [(x0, .inr (10, [.ref xTape, .ref xReader, .ref xBag, .ref xBld, .ref xAng, .ref xSum, .ref xPik, .int 0, .ref xHan, .ref xIns, .ref xShr, .ref xSta, .ref xTur])), (xBag, .inr (1, [.ref bC, .ref bS, .ref bX, .ref bW, .ref bP, .int 0]))]) [0, 1] (by decide) rfl
  have hFc := va_free (wc := [(x0, .inr (10, [.ref xTape, .ref xReader, .ref xBag, .ref xBld, .ref xAng, .ref xSum, .ref xPik, .int 0, .ref xHan, .ref xIns, .ref xShr, .ref xSta, .ref xTur])), (xBag, .inr (1, [.ref bC, .ref bS, .ref bX, .ref bW, .ref bP, .int 0]))]) hD hS hA [0, 1] rfl
  refine va_calli (va_runV (As := [.int y1, .int y2]) (rest := []) ⟨hx, hb, hml, hown, hts⟩ (c_X10_turn l dC dI cB cI cJ H.size x0 xTape xReader xBag xBld xAng xSum xPik xHan xIns xShr xSta xTur bC bS bX bW bP y1 y2) (cwV 2 hts hL_law_X10_turn rfl rfl rfl (by decide +kernel) ⟨Nat.le_of_ble_eq_true rfl, Nat.le_of_ble_eq_true rfl⟩) ⟨fun a U g mk q => by obtain ⟨q0, q1, qP, qK, qD⟩ := q; exact ⟨q0, q1, qP, va_K.moved (u := U) (U := U.calling g mk a) (Vm.Alike.refl U.vm) qK, qD⟩, va_recv hK hP (ci := 10) (q0 := 0) rfl rfl, fun U hU hW => ⟨rfl, by rw [hU], by rw [hU]; exact hPc, va_K.moved hW.alike hK, hDc.weaken (fun _ _ _ _ => trivial)⟩⟩ rfl rfl hl.1 rfl (lv_room (Nat.le_of_ble_eq_true rfl)) dL_law_1014 ⟨Nat.le_of_ble_eq_true rfl, Nat.le_of_ble_eq_true rfl⟩) hS (fun q _ h => hFc q h) hFc (fun r_5 u t H1 locs ht hvm hw hB hz1 hk1 hS => ?_)
  have hP1 : va_P (dC, dI) vwCl [] H1 := fun k q h => by simp at h
  have hD1 : va_D (va_A [(x0, .inr (10, [.ref xTape, .ref xReader, .ref xBag, .ref xBld, .ref xAng, .ref xSum, .ref xPik, .int 0, .ref xHan, .ref xIns, .ref xShr, .ref xSta, .ref xTur])), (xBag, .inr (1, [.ref bC, .ref bS, .ref bX, .ref bW, .ref bP, .int 0]))] H.size) [] := ⟨fun i j p q h => by simp at h, fun k q h => by simp at h⟩
  obtain ⟨hP, hD⟩ := va_join (wr := [(m0, .inr (11, [.int 0, .ref m_tape, .int 0, .int 0, .int 0, .ref m_read, .int 0, .int 0, .int 0, .ref m_tets, .int 0, .int 0, .int 0, .int 0, .int 0, .int 0, .int 0, .int 0, .ref m_primes, .ref m_often, .ref m_normal, .ref m_termM, .ref m_termP, .ref m_termV, .ref m_sumFrom, .ref m_sumMany, .int 0, .int 0, .int 0, .int 0, .ref m_part, .ref m_fair, .ref m_heap, .ref m_pickTet, .ref m_pickEdge, .ref m_base, .ref m_baseM, .ref m_baseP, .ref m_rowsOf, .int 0, .ref m_grid, .ref m_times, .ref m_boxes, .ref m_cameFrom, .ref m_cameBy, .ref m_steps, .ref m_sides, .int 0, .int (-1), .ref m_next, .ref m_cube, .ref m_ways]))]) (w1 := []) hP hD [0, 1] [2] rfl rfl (by decide) (by decide) hk1 hFc hP1 hD1
  generalize H1 = H at hP hS ⊢
  have hP : va_P (dC, dI) vwCl [(m0, .inr (11, [.int 0, .ref m_tape, .int 0, .int 0, .int 0, .ref m_read, .int 0, .int 0, .int 0, .ref m_tets, .int 0, .int 0, .int 0, .int 0, .int 0, .int 0, .int 0, .int 0, .ref m_primes, .ref m_often, .ref m_normal, .ref m_termM, .ref m_termP, .ref m_termV, .ref m_sumFrom, .ref m_sumMany, .int 0, .int 0, .int 0, .int 0, .ref m_part, .ref m_fair, .ref m_heap, .ref m_pickTet, .ref m_pickEdge, .ref m_base, .ref m_baseM, .ref m_baseP, .ref m_rowsOf, .int 0, .ref m_grid, .ref m_times, .ref m_boxes, .ref m_cameFrom, .ref m_cameBy, .ref m_steps, .ref m_sides, .int 0, .int (-1), .ref m_next, .ref m_cube, .ref m_ways]))] H := hP
  have hD : va_D (fun q : Nat => s.heap.size ≤ q) [(m0, .inr (11, [.int 0, .ref m_tape, .int 0, .int 0, .int 0, .ref m_read, .int 0, .int 0, .int 0, .ref m_tets, .int 0, .int 0, .int 0, .int 0, .int 0, .int 0, .int 0, .int 0, .ref m_primes, .ref m_often, .ref m_normal, .ref m_termM, .ref m_termP, .ref m_termV, .ref m_sumFrom, .ref m_sumMany, .int 0, .int 0, .int 0, .int 0, .ref m_part, .ref m_fair, .ref m_heap, .ref m_pickTet, .ref m_pickEdge, .ref m_base, .ref m_baseM, .ref m_baseP, .ref m_rowsOf, .int 0, .ref m_grid, .ref m_times, .ref m_boxes, .ref m_cameFrom, .ref m_cameBy, .ref m_steps, .ref m_sides, .int 0, .int (-1), .ref m_next, .ref m_cube, .ref m_ways]))] := hD
  have hr_5 := hw
  obtain rfl : r_5 = (-1) := hr_5
  refine lv_aload_n hx hb dL_law_1017 rfl (lv_at hl 2 rfl) ?_
  refine lv_aload_n hx hb dL_law_1018 rfl (lv_at hl 4 rfl) ?_
  refine lv_iload hx hb dL_law_1019 (lv_at hl 0 rfl) ?_
  refine lv_iconst (v := 1) hx hb dL_law_1021 (by decide) ?_
  refine lv_iadd hx hb dL_law_1022 ?_
  refine lv_topi (fun x_6 ex_6 => ?_)
  obtain rfl : x_6 = 1 := ex_6.trans (by first | rfl | decide)
  refine va_sld hx hb hX hbl hbA hS (by show ¬ (_ ∨ _); decide) dL_law_1023 ?_
  refine lv_topi (fun x_7 ex_7 => ?_)
  obtain rfl : y1 = x_7 := hy1.trans ex_7.symm
  refine lv_aload_n hx hb dL_law_1024 rfl (lv_at hl 4 rfl) ?_
  refine lv_iload hx hb dL_law_1025 (lv_at hl 0 rfl) ?_
  refine lv_iconst (v := 2) hx hb dL_law_1027 (by decide) ?_
  refine lv_iadd hx hb dL_law_1028 ?_
  refine lv_topi (fun x_8 ex_8 => ?_)
  obtain rfl : x_8 = 2 := ex_8.trans (by first | rfl | decide)
  refine va_sld hx hb hX hbl hbA hS (by show ¬ (_ ∨ _); decide) dL_law_1029 ?_
  refine lv_topi (fun x_9 ex_9 => ?_)
  obtain rfl : y2 = x_9 := hy2.trans ex_9.symm
  have hPc := hP.sub (ws' := [(m0, .inr (11, [.int 0, .ref m_tape, .int 0, .int 0, .int 0, .ref m_read, .int 0, .int 0, .int 0, .ref m_tets, .int 0, .int 0, .int 0, .int 0, .int 0, .int 0, .int 0, .int 0, .ref m_primes, .ref m_often, .ref m_normal, .ref m_termM, .ref m_termP, .ref m_termV, .ref m_sumFrom, .ref m_sumMany, .int 0, .int 0, .int 0, .int 0, .ref m_part, .ref m_fair, .ref m_heap, .ref m_pickTet, .ref m_pickEdge, .ref m_base, .ref m_baseM, .ref m_baseP, .ref m_rowsOf, .int 0, .ref m_grid, .ref m_times, .ref m_boxes, .ref m_cameFrom, .ref m_cameBy, .ref m_steps, .ref m_sides, .int 0, .int (-1), .ref m_next, .ref m_cube, .ref m_ways]))]) [0] rfl
  have hDc := hD.sub (ws' := [(m0, .inr (11, [.int 0, .ref m_tape, .int 0, .int 0, .int 0, .ref m_read, .int 0, .int 0, .int 0, .ref m_tets, .int 0, .int 0, .int 0, .int 0, .int 0, .int 0, .int 0, .int 0, .ref m_primes, .ref m_often, .ref m_normal, .ref m_termM, .ref m_termP, .ref m_termV, .ref m_sumFrom, .ref m_sumMany, .int 0, .int 0, .int 0, .int 0, .ref m_part, .ref m_fair, .ref m_heap, .ref m_pickTet, .ref m_pickEdge, .ref m_base, .ref m_baseM, .ref m_baseP, .ref m_rowsOf, .int 0, .ref m_grid, .ref m_times, .ref m_boxes, .ref m_cameFrom, .ref m_cameBy, .ref m_steps, .ref m_sides, .int 0, .int (-1), .ref m_next, .ref m_cube, .ref m_ways]))]) [0] (by decide) rfl
  have hFc := va_free (wc := [(m0, .inr (11, [.int 0, .ref m_tape, .int 0, .int 0, .int 0, .ref m_read, .int 0, .int 0, .int 0, .ref m_tets, .int 0, .int 0, .int 0, .int 0, .int 0, .int 0, .int 0, .int 0, .ref m_primes, .ref m_often, .ref m_normal, .ref m_termM, .ref m_termP, .ref m_termV, .ref m_sumFrom, .ref m_sumMany, .int 0, .int 0, .int 0, .int 0, .ref m_part, .ref m_fair, .ref m_heap, .ref m_pickTet, .ref m_pickEdge, .ref m_base, .ref m_baseM, .ref m_baseP, .ref m_rowsOf, .int 0, .ref m_grid, .ref m_times, .ref m_boxes, .ref m_cameFrom, .ref m_cameBy, .ref m_steps, .ref m_sides, .int 0, .int (-1), .ref m_next, .ref m_cube, .ref m_ways]))]) hD hS hA [0] rfl
  refine va_calli (va_runV (As := [.int y1, .int y2]) (rest := [.int (-1)]) ⟨hx, hb, hml, hown, hts⟩ (c_X11_turn l dC dI cB cI cJ H.size m0 m_tape m_read m_tets m_primes m_often m_normal m_termM m_termP m_termV m_sumFrom m_sumMany m_part m_fair m_heap m_pickTet m_pickEdge m_base m_baseM m_baseP m_rowsOf m_grid m_times m_boxes m_cameFrom m_cameBy m_steps m_sides m_next m_cube m_ways y1 y2) (cwV 2 hts hL_law_X11_turn rfl rfl rfl (by decide +kernel) ⟨Nat.le_of_ble_eq_true rfl, Nat.le_of_ble_eq_true rfl⟩) ⟨fun a U g mk q => by obtain ⟨q0, q1, qP, qK, qD⟩ := q; exact ⟨q0, q1, qP, va_K.moved (u := U) (U := U.calling g mk a) (Vm.Alike.refl U.vm) qK, qD⟩, va_recv hK hP (ci := 11) (q0 := 0) rfl rfl, fun U hU hW => ⟨rfl, by rw [hU], by rw [hU]; exact hPc, va_K.moved hW.alike hK, hDc.weaken (fun _ _ _ _ => trivial)⟩⟩ rfl rfl hl.1 rfl (lv_room (Nat.le_of_ble_eq_true rfl)) dL_law_1030 ⟨Nat.le_of_ble_eq_true rfl, Nat.le_of_ble_eq_true rfl⟩) hS (fun q _ h => hFc q h) hFc (fun r_10 u t H1 locs ht hvm hw hB hz1 hk1 hS => ?_)
  have hP1 : va_P (dC, dI) vwCl [] H1 := fun k q h => by simp at h
  have hD1 : va_D (va_A [(m0, .inr (11, [.int 0, .ref m_tape, .int 0, .int 0, .int 0, .ref m_read, .int 0, .int 0, .int 0, .ref m_tets, .int 0, .int 0, .int 0, .int 0, .int 0, .int 0, .int 0, .int 0, .ref m_primes, .ref m_often, .ref m_normal, .ref m_termM, .ref m_termP, .ref m_termV, .ref m_sumFrom, .ref m_sumMany, .int 0, .int 0, .int 0, .int 0, .ref m_part, .ref m_fair, .ref m_heap, .ref m_pickTet, .ref m_pickEdge, .ref m_base, .ref m_baseM, .ref m_baseP, .ref m_rowsOf, .int 0, .ref m_grid, .ref m_times, .ref m_boxes, .ref m_cameFrom, .ref m_cameBy, .ref m_steps, .ref m_sides, .int 0, .int (-1), .ref m_next, .ref m_cube, .ref m_ways]))] H.size) [] := ⟨fun i j p q h => by simp at h, fun k q h => by simp at h⟩
  obtain ⟨hP, hD⟩ := va_join (wr := []) (w1 := []) hP hD [0] [] rfl rfl (by decide) (by decide) hk1 hFc hP1 hD1
  generalize H1 = H at hP hS ⊢
  have hP : va_P (dC, dI) vwCl [] H := hP
  have hD : va_D (fun q : Nat => s.heap.size ≤ q) [] := hD
  have hr_10 := hw
  obtain rfl : r_10 = (-1) := hr_10
  refine lv_icmp_eq (tgt := 1744) hx hb dL_law_1033 (by decide) (fun _ => ?_) (fun c => absurd (by decide) c)
  refine W.widen (k := 600002) (n := 7302232) (Nat.le_of_ble_eq_true rfl) (Nat.le_of_ble_eq_true rfl) ?_
  exact la_end l C0 H _ hS ls hl
set_option maxHeartbeats 8000000 in
set_option maxRecDepth 100000 in
theorem la_19 {p : Program} {e : Env} {s : State} {m : MethodId} {below : List Frame} {meth : Method} {c : Code} (l : Launch) {b : Nat} {xs : Nat → Int32} (C0 : lw_At p s m meth c b 7 xs) (dC : Nat → ClassId) (dI : Nat → Nat → Nat) (cB cI cJ : ClassId) {x0 xTape xReader xBag xBld xAng xSum xPik xHan xIns xShr xSta xTur bC bS bX bW bP m0 m_tape m_read m_tets m_primes m_often m_normal m_termM m_termP m_termV m_sumFrom m_sumMany m_part m_fair m_heap m_pickTet m_pickEdge m_base m_baseM m_baseP m_rowsOf m_grid m_times m_boxes m_cameFrom m_cameBy m_steps m_sides m_next m_cube m_ways o0 : Nat} (H : Heap) (locs : List Loc) (hK : va_K (dC, dI) vwCl [(cB, .byte), (cI, .int), (cJ, .long)] s) (hP : va_P (dC, dI) vwCl [(x0, .inr (10, [.ref xTape, .ref xReader, .ref xBag, .ref xBld, .ref xAng, .ref xSum, .ref xPik, .int 0, .ref xHan, .ref xIns, .ref xShr, .ref xSta, .ref xTur])), (xBag, .inr (1, [.ref bC, .ref bS, .ref bX, .ref bW, .ref bP, .int 0])), (m0, .inr (11, [.int 0, .ref m_tape, .int 0, .int 0, .int 0, .ref m_read, .int 0, .int 0, .int 0, .ref m_tets, .int 0, .int 0, .int 0, .int 0, .int 0, .int 0, .int 0, .int 0, .ref m_primes, .ref m_often, .ref m_normal, .ref m_termM, .ref m_termP, .ref m_termV, .ref m_sumFrom, .ref m_sumMany, .int 0, .int 0, .int 0, .int 0, .ref m_part, .ref m_fair, .ref m_heap, .ref m_pickTet, .ref m_pickEdge, .ref m_base, .ref m_baseM, .ref m_baseP, .ref m_rowsOf, .int 0, .ref m_grid, .ref m_times, .ref m_boxes, .ref m_cameFrom, .ref m_cameBy, .ref m_steps, .ref m_sides, .int 0, .int (-1), .ref m_next, .ref m_cube, .ref m_ways]))] H) (hD : va_D (fun q : Nat => s.heap.size ≤ q) [(x0, .inr (10, [.ref xTape, .ref xReader, .ref xBag, .ref xBld, .ref xAng, .ref xSum, .ref xPik, .int 0, .ref xHan, .ref xIns, .ref xShr, .ref xSta, .ref xTur])), (xBag, .inr (1, [.ref bC, .ref bS, .ref bX, .ref bW, .ref bP, .int 0])), (m0, .inr (11, [.int 0, .ref m_tape, .int 0, .int 0, .int 0, .ref m_read, .int 0, .int 0, .int 0, .ref m_tets, .int 0, .int 0, .int 0, .int 0, .int 0, .int 0, .int 0, .int 0, .ref m_primes, .ref m_often, .ref m_normal, .ref m_termM, .ref m_termP, .ref m_termV, .ref m_sumFrom, .ref m_sumMany, .int 0, .int 0, .int 0, .int 0, .ref m_part, .ref m_fair, .ref m_heap, .ref m_pickTet, .ref m_pickEdge, .ref m_base, .ref m_baseM, .ref m_baseP, .ref m_rowsOf, .int 0, .ref m_grid, .ref m_times, .ref m_boxes, .ref m_cameFrom, .ref m_cameBy, .ref m_steps, .ref m_sides, .int 0, .int (-1), .ref m_next, .ref m_cube, .ref m_ways]))]) (hS : va_S (fun q : Nat => s.heap.size ≤ q) s.heap H locs) (ls : Array Slot) (hl : lv_has ls 7 [(4, .int 0), (3, .ref o0), (2, .ref m0), (1, .ref x0), (0, .ref b)]) : W p l e room_1 s m #[Value.ref b] below meth c H locs 82 28049 (lw_Z below #[Value.ref b] s) (F0 m 1038 ls []) := by
  obtain ⟨hx, hb, hr, hml, hown, htb, hX, hbl, hlocks, hgv⟩ := id C0
  have hts := htb
  have hbA : ¬ (fun q : Nat => s.heap.size ≤ q) b := Nat.not_le.mpr hbl
  have hA : ∀ q : Nat, s.heap.size ≤ q → (fun q : Nat => s.heap.size ≤ q) q := fun _ h => h
  obtain ⟨y1, hy1⟩ : ∃ y : Int32, y = xs (1 : Int32).toNatClampNeg := ⟨_, rfl⟩
  obtain ⟨y2, hy2⟩ : ∃ y : Int32, y = xs (2 : Int32).toNatClampNeg := ⟨_, rfl⟩
  obtain ⟨y3, hy3⟩ : ∃ y : Int32, y = xs (3 : Int32).toNatClampNeg := ⟨_, rfl⟩
  obtain ⟨y4, hy4⟩ : ∃ y : Int32, y = xs (4 : Int32).toNatClampNeg := ⟨_, rfl⟩
  refine lv_aload_n hx hb dL_law_1038 rfl (lv_at hl 3 rfl) ?_
  refine lv_aload_n hx hb dL_law_1039 rfl (lv_at hl 4 rfl) ?_
  refine lv_iload hx hb dL_law_1040 (lv_at hl 0 rfl) ?_
  refine lv_iconst (v := 1) hx hb dL_law_1042 (by decide) ?_
  refine lv_iadd hx hb dL_law_1043 ?_
  refine lv_topi (fun x_1 ex_1 => ?_)
  obtain rfl : x_1 = 1 := ex_1.trans (by first | rfl | decide)
  refine va_sld hx hb hX hbl hbA hS (by show ¬ (_ ∨ _); decide) dL_law_1044 ?_
  refine lv_topi (fun x_2 ex_2 => ?_)
  obtain rfl : y1 = x_2 := hy1.trans ex_2.symm
  refine lv_aload_n hx hb dL_law_1045 rfl (lv_at hl 4 rfl) ?_
  refine lv_iload hx hb dL_law_1046 (lv_at hl 0 rfl) ?_
  refine lv_iconst (v := 2) hx hb dL_law_1048 (by decide) ?_
  refine lv_iadd hx hb dL_law_1049 ?_
  refine lv_topi (fun x_3 ex_3 => ?_)
  obtain rfl : x_3 = 2 := ex_3.trans (by first | rfl | decide)
  refine va_sld hx hb hX hbl hbA hS (by show ¬ (_ ∨ _); decide) dL_law_1050 ?_
  refine lv_topi (fun x_4 ex_4 => ?_)
  obtain rfl : y2 = x_4 := hy2.trans ex_4.symm
  refine lv_aload_n hx hb dL_law_1051 rfl (lv_at hl 4 rfl) ?_
  refine lv_iload hx hb dL_law_1052 (lv_at hl 0 rfl) ?_
  refine lv_iconst (v := 3) hx hb dL_law_1054 (by decide) ?_
  refine lv_iadd hx hb dL_law_1055 ?_
  refine lv_topi (fun x_5 ex_5 => ?_)
  obtain rfl : x_5 = 3 := ex_5.trans (by first | rfl | decide)
  refine va_sld hx hb hX hbl hbA hS (by show ¬ (_ ∨ _); decide) dL_law_1056 ?_
  refine lv_topi (fun x_6 ex_6 => ?_)
  obtain rfl : y3 = x_6 := hy3.trans ex_6.symm
  refine lv_aload_n hx hb dL_law_1057 rfl (lv_at hl 4 rfl) ?_
  refine lv_iload hx hb dL_law_1058 (lv_at hl 0 rfl) ?_
  refine lv_iconst (v := 4) hx hb dL_law_1060 (by decide) ?_
  refine lv_iadd hx hb dL_law_1061 ?_
  refine lv_topi (fun x_7 ex_7 => ?_)
  obtain rfl : x_7 = 4 := ex_7.trans (by first | rfl | decide)
  refine va_sld hx hb hX hbl hbA hS (by show ¬ (_ ∨ _); decide) dL_law_1062 ?_
  refine lv_topi (fun x_8 ex_8 => ?_)
  obtain rfl : y4 = x_8 := hy4.trans ex_8.symm
  have hPc := hP.sub (ws' := [(x0, .inr (10, [.ref xTape, .ref xReader, .ref xBag, .ref xBld, .ref xAng, .ref xSum, .ref xPik, .int 0, .ref xHan, .ref xIns, .ref xShr, .ref xSta, .ref xTur])), (xBag, .inr (1, [.ref bC, .ref bS, .ref bX, .ref bW, .ref bP, .int 0]))]) [0, 1] rfl
  have hDc := hD.sub (ws' := [(x0, .inr (10, [.ref xTape, .ref xReader, .ref xBag, .ref xBld, .ref xAng, .ref xSum, .ref xPik, .int 0, .ref xHan, .ref xIns, .ref xShr, .ref xSta, .ref xTur])), (xBag, .inr (1, [.ref bC, .ref bS, .ref bX, .ref bW, .ref bP, .int 0]))]) [0, 1] (by decide) rfl
  have hFc := va_free (wc := [(x0, .inr (10, [.ref xTape, .ref xReader, .ref xBag, .ref xBld, .ref xAng, .ref xSum, .ref xPik, .int 0, .ref xHan, .ref xIns, .ref xShr, .ref xSta, .ref xTur])), (xBag, .inr (1, [.ref bC, .ref bS, .ref bX, .ref bW, .ref bP, .int 0]))]) hD hS hA [0, 1] rfl
  refine va_calli (va_runV (As := [.int y1, .int y2, .int y3, .int y4]) (rest := []) ⟨hx, hb, hml, hown, hts⟩ (c_X10_move l dC dI cB cI cJ H.size x0 xTape xReader xBag xBld xAng xSum xPik xHan xIns xShr xSta xTur bC bS bX bW bP y1 y2 y3 y4) (cwV 4 hts hL_law_X10_move rfl rfl rfl (by decide +kernel) ⟨Nat.le_of_ble_eq_true rfl, Nat.le_of_ble_eq_true rfl⟩) ⟨fun a U g mk q => by obtain ⟨q0, q1, qP, qK, qD⟩ := q; exact ⟨q0, q1, qP, va_K.moved (u := U) (U := U.calling g mk a) (Vm.Alike.refl U.vm) qK, qD⟩, va_recv hK hP (ci := 10) (q0 := 0) rfl rfl, fun U hU hW => ⟨rfl, by rw [hU], by rw [hU]; exact hPc, va_K.moved hW.alike hK, hDc.weaken (fun _ _ _ _ => trivial)⟩⟩ rfl rfl hl.1 rfl (lv_room (Nat.le_of_ble_eq_true rfl)) dL_law_1063 ⟨Nat.le_of_ble_eq_true rfl, Nat.le_of_ble_eq_true rfl⟩) hS (fun q _ h => hFc q h) hFc (fun r_9 u t H1 locs ht hvm hw hB hz1 hk1 hS => ?_)
  have hP1 : va_P (dC, dI) vwCl [] H1 := fun k q h => by simp at h
  have hD1 : va_D (va_A [(x0, .inr (10, [.ref xTape, .ref xReader, .ref xBag, .ref xBld, .ref xAng, .ref xSum, .ref xPik, .int 0, .ref xHan, .ref xIns, .ref xShr, .ref xSta, .ref xTur])), (xBag, .inr (1, [.ref bC, .ref bS, .ref bX, .ref bW, .ref bP, .int 0]))] H.size) [] := ⟨fun i j p q h => by simp at h, fun k q h => by simp at h⟩
  obtain ⟨hP, hD⟩ := va_join (wr := [(m0, .inr (11, [.int 0, .ref m_tape, .int 0, .int 0, .int 0, .ref m_read, .int 0, .int 0, .int 0, .ref m_tets, .int 0, .int 0, .int 0, .int 0, .int 0, .int 0, .int 0, .int 0, .ref m_primes, .ref m_often, .ref m_normal, .ref m_termM, .ref m_termP, .ref m_termV, .ref m_sumFrom, .ref m_sumMany, .int 0, .int 0, .int 0, .int 0, .ref m_part, .ref m_fair, .ref m_heap, .ref m_pickTet, .ref m_pickEdge, .ref m_base, .ref m_baseM, .ref m_baseP, .ref m_rowsOf, .int 0, .ref m_grid, .ref m_times, .ref m_boxes, .ref m_cameFrom, .ref m_cameBy, .ref m_steps, .ref m_sides, .int 0, .int (-1), .ref m_next, .ref m_cube, .ref m_ways]))]) (w1 := []) hP hD [0, 1] [2] rfl rfl (by decide) (by decide) hk1 hFc hP1 hD1
  generalize H1 = H at hP hS ⊢
  have hP : va_P (dC, dI) vwCl [(m0, .inr (11, [.int 0, .ref m_tape, .int 0, .int 0, .int 0, .ref m_read, .int 0, .int 0, .int 0, .ref m_tets, .int 0, .int 0, .int 0, .int 0, .int 0, .int 0, .int 0, .int 0, .ref m_primes, .ref m_often, .ref m_normal, .ref m_termM, .ref m_termP, .ref m_termV, .ref m_sumFrom, .ref m_sumMany, .int 0, .int 0, .int 0, .int 0, .ref m_part, .ref m_fair, .ref m_heap, .ref m_pickTet, .ref m_pickEdge, .ref m_base, .ref m_baseM, .ref m_baseP, .ref m_rowsOf, .int 0, .ref m_grid, .ref m_times, .ref m_boxes, .ref m_cameFrom, .ref m_cameBy, .ref m_steps, .ref m_sides, .int 0, .int (-1), .ref m_next, .ref m_cube, .ref m_ways]))] H := hP
  have hD : va_D (fun q : Nat => s.heap.size ≤ q) [(m0, .inr (11, [.int 0, .ref m_tape, .int 0, .int 0, .int 0, .ref m_read, .int 0, .int 0, .int 0, .ref m_tets, .int 0, .int 0, .int 0, .int 0, .int 0, .int 0, .int 0, .int 0, .ref m_primes, .ref m_often, .ref m_normal, .ref m_termM, .ref m_termP, .ref m_termV, .ref m_sumFrom, .ref m_sumMany, .int 0, .int 0, .int 0, .int 0, .ref m_part, .ref m_fair, .ref m_heap, .ref m_pickTet, .ref m_pickEdge, .ref m_base, .ref m_baseM, .ref m_baseP, .ref m_rowsOf, .int 0, .ref m_grid, .ref m_times, .ref m_boxes, .ref m_cameFrom, .ref m_cameBy, .ref m_steps, .ref m_sides, .int 0, .int (-1), .ref m_next, .ref m_cube, .ref m_ways]))] := hD
  have hr_9 := hw
  obtain rfl : r_9 = (-1) := hr_9
  refine lv_aload_n hx hb dL_law_1066 rfl (lv_at hl 2 rfl) ?_
  refine lv_aload_n hx hb dL_law_1067 rfl (lv_at hl 4 rfl) ?_
  refine lv_iload hx hb dL_law_1068 (lv_at hl 0 rfl) ?_
  refine lv_iconst (v := 1) hx hb dL_law_1070 (by decide) ?_
  refine lv_iadd hx hb dL_law_1071 ?_
  refine lv_topi (fun x_10 ex_10 => ?_)
  obtain rfl : x_10 = 1 := ex_10.trans (by first | rfl | decide)
  refine va_sld hx hb hX hbl hbA hS (by show ¬ (_ ∨ _); decide) dL_law_1072 ?_
  refine lv_topi (fun x_11 ex_11 => ?_)
  obtain rfl : y1 = x_11 := hy1.trans ex_11.symm
  refine lv_aload_n hx hb dL_law_1073 rfl (lv_at hl 4 rfl) ?_
  refine lv_iload hx hb dL_law_1074 (lv_at hl 0 rfl) ?_
  refine lv_iconst (v := 2) hx hb dL_law_1076 (by decide) ?_
  refine lv_iadd hx hb dL_law_1077 ?_
  refine lv_topi (fun x_12 ex_12 => ?_)
  obtain rfl : x_12 = 2 := ex_12.trans (by first | rfl | decide)
  refine va_sld hx hb hX hbl hbA hS (by show ¬ (_ ∨ _); decide) dL_law_1078 ?_
  refine lv_topi (fun x_13 ex_13 => ?_)
  obtain rfl : y2 = x_13 := hy2.trans ex_13.symm
  refine lv_aload_n hx hb dL_law_1079 rfl (lv_at hl 4 rfl) ?_
  refine lv_iload hx hb dL_law_1080 (lv_at hl 0 rfl) ?_
  refine lv_iconst (v := 3) hx hb dL_law_1082 (by decide) ?_
  refine lv_iadd hx hb dL_law_1083 ?_
  refine lv_topi (fun x_14 ex_14 => ?_)
  obtain rfl : x_14 = 3 := ex_14.trans (by first | rfl | decide)
  refine va_sld hx hb hX hbl hbA hS (by show ¬ (_ ∨ _); decide) dL_law_1084 ?_
  refine lv_topi (fun x_15 ex_15 => ?_)
  obtain rfl : y3 = x_15 := hy3.trans ex_15.symm
  refine lv_aload_n hx hb dL_law_1085 rfl (lv_at hl 4 rfl) ?_
  refine lv_iload hx hb dL_law_1086 (lv_at hl 0 rfl) ?_
  refine lv_iconst (v := 4) hx hb dL_law_1088 (by decide) ?_
  refine lv_iadd hx hb dL_law_1089 ?_
  refine lv_topi (fun x_16 ex_16 => ?_)
  obtain rfl : x_16 = 4 := ex_16.trans (by first | rfl | decide)
  refine va_sld hx hb hX hbl hbA hS (by show ¬ (_ ∨ _); decide) dL_law_1090 ?_
  refine lv_topi (fun x_17 ex_17 => ?_)
  obtain rfl : y4 = x_17 := hy4.trans ex_17.symm
  have hPc := hP.sub (ws' := [(m0, .inr (11, [.int 0, .ref m_tape, .int 0, .int 0, .int 0, .ref m_read, .int 0, .int 0, .int 0, .ref m_tets, .int 0, .int 0, .int 0, .int 0, .int 0, .int 0, .int 0, .int 0, .ref m_primes, .ref m_often, .ref m_normal, .ref m_termM, .ref m_termP, .ref m_termV, .ref m_sumFrom, .ref m_sumMany, .int 0, .int 0, .int 0, .int 0, .ref m_part, .ref m_fair, .ref m_heap, .ref m_pickTet, .ref m_pickEdge, .ref m_base, .ref m_baseM, .ref m_baseP, .ref m_rowsOf, .int 0, .ref m_grid, .ref m_times, .ref m_boxes, .ref m_cameFrom, .ref m_cameBy, .ref m_steps, .ref m_sides, .int 0, .int (-1), .ref m_next, .ref m_cube, .ref m_ways]))]) [0] rfl
  have hDc := hD.sub (ws' := [(m0, .inr (11, [.int 0, .ref m_tape, .int 0, .int 0, .int 0, .ref m_read, .int 0, .int 0, .int 0, .ref m_tets, .int 0, .int 0, .int 0, .int 0, .int 0, .int 0, .int 0, .int 0, .ref m_primes, .ref m_often, .ref m_normal, .ref m_termM, .ref m_termP, .ref m_termV, .ref m_sumFrom, .ref m_sumMany, .int 0, .int 0, .int 0, .int 0, .ref m_part, .ref m_fair, .ref m_heap, .ref m_pickTet, .ref m_pickEdge, .ref m_base, .ref m_baseM, .ref m_baseP, .ref m_rowsOf, .int 0, .ref m_grid, .ref m_times, .ref m_boxes, .ref m_cameFrom, .ref m_cameBy, .ref m_steps, .ref m_sides, .int 0, .int (-1), .ref m_next, .ref m_cube, .ref m_ways]))]) [0] (by decide) rfl
  have hFc := va_free (wc := [(m0, .inr (11, [.int 0, .ref m_tape, .int 0, .int 0, .int 0, .ref m_read, .int 0, .int 0, .int 0, .ref m_tets, .int 0, .int 0, .int 0, .int 0, .int 0, .int 0, .int 0, .int 0, .ref m_primes, .ref m_often, .ref m_normal, .ref m_termM, .ref m_termP, .ref m_termV, .ref m_sumFrom, .ref m_sumMany, .int 0, .int 0, .int 0, .int 0, .ref m_part, .ref m_fair, .ref m_heap, .ref m_pickTet, .ref m_pickEdge, .ref m_base, .ref m_baseM, .ref m_baseP, .ref m_rowsOf, .int 0, .ref m_grid, .ref m_times, .ref m_boxes, .ref m_cameFrom, .ref m_cameBy, .ref m_steps, .ref m_sides, .int 0, .int (-1), .ref m_next, .ref m_cube, .ref m_ways]))]) hD hS hA [0] rfl
  refine va_calli (va_runV (As := [.int y1, .int y2, .int y3, .int y4]) (rest := [.int (-1)]) ⟨hx, hb, hml, hown, hts⟩ (c_X11_move l dC dI cB cI cJ H.size m0 m_tape m_read m_tets m_primes m_often m_normal m_termM m_termP m_termV m_sumFrom m_sumMany m_part m_fair m_heap m_pickTet m_pickEdge m_base m_baseM m_baseP m_rowsOf m_grid m_times m_boxes m_cameFrom m_cameBy m_steps m_sides m_next m_cube m_ways y1 y2 y3 y4) (cwV 4 hts hL_law_X11_move rfl rfl rfl (by decide +kernel) ⟨Nat.le_of_ble_eq_true rfl, Nat.le_of_ble_eq_true rfl⟩) ⟨fun a U g mk q => by obtain ⟨q0, q1, qP, qK, qD⟩ := q; exact ⟨q0, q1, qP, va_K.moved (u := U) (U := U.calling g mk a) (Vm.Alike.refl U.vm) qK, qD⟩, va_recv hK hP (ci := 11) (q0 := 0) rfl rfl, fun U hU hW => ⟨rfl, by rw [hU], by rw [hU]; exact hPc, va_K.moved hW.alike hK, hDc.weaken (fun _ _ _ _ => trivial)⟩⟩ rfl rfl hl.1 rfl (lv_room (Nat.le_of_ble_eq_true rfl)) dL_law_1091 ⟨Nat.le_of_ble_eq_true rfl, Nat.le_of_ble_eq_true rfl⟩) hS (fun q _ h => hFc q h) hFc (fun r_18 u t H1 locs ht hvm hw hB hz1 hk1 hS => ?_)
  have hP1 : va_P (dC, dI) vwCl [] H1 := fun k q h => by simp at h
  have hD1 : va_D (va_A [(m0, .inr (11, [.int 0, .ref m_tape, .int 0, .int 0, .int 0, .ref m_read, .int 0, .int 0, .int 0, .ref m_tets, .int 0, .int 0, .int 0, .int 0, .int 0, .int 0, .int 0, .int 0, .ref m_primes, .ref m_often, .ref m_normal, .ref m_termM, .ref m_termP, .ref m_termV, .ref m_sumFrom, .ref m_sumMany, .int 0, .int 0, .int 0, .int 0, .ref m_part, .ref m_fair, .ref m_heap, .ref m_pickTet, .ref m_pickEdge, .ref m_base, .ref m_baseM, .ref m_baseP, .ref m_rowsOf, .int 0, .ref m_grid, .ref m_times, .ref m_boxes, .ref m_cameFrom, .ref m_cameBy, .ref m_steps, .ref m_sides, .int 0, .int (-1), .ref m_next, .ref m_cube, .ref m_ways]))] H.size) [] := ⟨fun i j p q h => by simp at h, fun k q h => by simp at h⟩
  obtain ⟨hP, hD⟩ := va_join (wr := []) (w1 := []) hP hD [0] [] rfl rfl (by decide) (by decide) hk1 hFc hP1 hD1
  generalize H1 = H at hP hS ⊢
  have hP : va_P (dC, dI) vwCl [] H := hP
  have hD : va_D (fun q : Nat => s.heap.size ≤ q) [] := hD
  have hr_18 := hw
  obtain rfl : r_18 = (-1) := hr_18
  refine lv_icmp_eq (tgt := 1744) hx hb dL_law_1094 (by decide) (fun _ => ?_) (fun c => absurd (by decide) c)
  refine W.widen (k := 600002) (n := 7302232) (Nat.le_of_ble_eq_true rfl) (Nat.le_of_ble_eq_true rfl) ?_
  exact la_end l C0 H _ hS ls hl
set_option maxHeartbeats 8000000 in
set_option maxRecDepth 100000 in
theorem la_20 {p : Program} {e : Env} {s : State} {m : MethodId} {below : List Frame} {meth : Method} {c : Code} (l : Launch) {b : Nat} {xs : Nat → Int32} (C0 : lw_At p s m meth c b 7 xs) (dC : Nat → ClassId) (dI : Nat → Nat → Nat) (cB cI cJ : ClassId) {x0 xTape xReader xBag xBld xAng xSum xPik xHan xIns xShr xSta xTur bC bS bX bW bP m0 m_tape m_read m_tets m_primes m_often m_normal m_termM m_termP m_termV m_sumFrom m_sumMany m_part m_fair m_heap m_pickTet m_pickEdge m_base m_baseM m_baseP m_rowsOf m_grid m_times m_boxes m_cameFrom m_cameBy m_steps m_sides m_next m_cube m_ways o0 : Nat} (H : Heap) (locs : List Loc) (hK : va_K (dC, dI) vwCl [(cB, .byte), (cI, .int), (cJ, .long)] s) (hP : va_P (dC, dI) vwCl [(x0, .inr (10, [.ref xTape, .ref xReader, .ref xBag, .ref xBld, .ref xAng, .ref xSum, .ref xPik, .int 0, .ref xHan, .ref xIns, .ref xShr, .ref xSta, .ref xTur])), (xBag, .inr (1, [.ref bC, .ref bS, .ref bX, .ref bW, .ref bP, .int 0])), (m0, .inr (11, [.int 0, .ref m_tape, .int 0, .int 0, .int 0, .ref m_read, .int 0, .int 0, .int 0, .ref m_tets, .int 0, .int 0, .int 0, .int 0, .int 0, .int 0, .int 0, .int 0, .ref m_primes, .ref m_often, .ref m_normal, .ref m_termM, .ref m_termP, .ref m_termV, .ref m_sumFrom, .ref m_sumMany, .int 0, .int 0, .int 0, .int 0, .ref m_part, .ref m_fair, .ref m_heap, .ref m_pickTet, .ref m_pickEdge, .ref m_base, .ref m_baseM, .ref m_baseP, .ref m_rowsOf, .int 0, .ref m_grid, .ref m_times, .ref m_boxes, .ref m_cameFrom, .ref m_cameBy, .ref m_steps, .ref m_sides, .int 0, .int (-1), .ref m_next, .ref m_cube, .ref m_ways]))] H) (hD : va_D (fun q : Nat => s.heap.size ≤ q) [(x0, .inr (10, [.ref xTape, .ref xReader, .ref xBag, .ref xBld, .ref xAng, .ref xSum, .ref xPik, .int 0, .ref xHan, .ref xIns, .ref xShr, .ref xSta, .ref xTur])), (xBag, .inr (1, [.ref bC, .ref bS, .ref bX, .ref bW, .ref bP, .int 0])), (m0, .inr (11, [.int 0, .ref m_tape, .int 0, .int 0, .int 0, .ref m_read, .int 0, .int 0, .int 0, .ref m_tets, .int 0, .int 0, .int 0, .int 0, .int 0, .int 0, .int 0, .int 0, .ref m_primes, .ref m_often, .ref m_normal, .ref m_termM, .ref m_termP, .ref m_termV, .ref m_sumFrom, .ref m_sumMany, .int 0, .int 0, .int 0, .int 0, .ref m_part, .ref m_fair, .ref m_heap, .ref m_pickTet, .ref m_pickEdge, .ref m_base, .ref m_baseM, .ref m_baseP, .ref m_rowsOf, .int 0, .ref m_grid, .ref m_times, .ref m_boxes, .ref m_cameFrom, .ref m_cameBy, .ref m_steps, .ref m_sides, .int 0, .int (-1), .ref m_next, .ref m_cube, .ref m_ways]))]) (hS : va_S (fun q : Nat => s.heap.size ≤ q) s.heap H locs) (ls : Array Slot) (hl : lv_has ls 7 [(4, .int 0), (3, .ref o0), (2, .ref m0), (1, .ref x0), (0, .ref b)]) : W p l e room_1 s m #[Value.ref b] below meth c H locs 82 28049 (lw_Z below #[Value.ref b] s) (F0 m 1099 ls []) := by
  obtain ⟨hx, hb, hr, hml, hown, htb, hX, hbl, hlocks, hgv⟩ := id C0
  have hts := htb
  have hbA : ¬ (fun q : Nat => s.heap.size ≤ q) b := Nat.not_le.mpr hbl
  have hA : ∀ q : Nat, s.heap.size ≤ q → (fun q : Nat => s.heap.size ≤ q) q := fun _ h => h
  obtain ⟨y1, hy1⟩ : ∃ y : Int32, y = xs (1 : Int32).toNatClampNeg := ⟨_, rfl⟩
  obtain ⟨y2, hy2⟩ : ∃ y : Int32, y = xs (2 : Int32).toNatClampNeg := ⟨_, rfl⟩
  refine lv_aload_n hx hb dL_law_1099 rfl (lv_at hl 3 rfl) ?_
  refine lv_aload_n hx hb dL_law_1100 rfl (lv_at hl 4 rfl) ?_
  refine lv_iload hx hb dL_law_1101 (lv_at hl 0 rfl) ?_
  refine lv_iconst (v := 1) hx hb dL_law_1103 (by decide) ?_
  refine lv_iadd hx hb dL_law_1104 ?_
  refine lv_topi (fun x_1 ex_1 => ?_)
  obtain rfl : x_1 = 1 := ex_1.trans (by first | rfl | decide)
  refine va_sld hx hb hX hbl hbA hS (by show ¬ (_ ∨ _); decide) dL_law_1105 ?_
  refine lv_topi (fun x_2 ex_2 => ?_)
  obtain rfl : y1 = x_2 := hy1.trans ex_2.symm
  refine lv_aload_n hx hb dL_law_1106 rfl (lv_at hl 4 rfl) ?_
  refine lv_iload hx hb dL_law_1107 (lv_at hl 0 rfl) ?_
  refine lv_iconst (v := 2) hx hb dL_law_1109 (by decide) ?_
  refine lv_iadd hx hb dL_law_1110 ?_
  refine lv_topi (fun x_3 ex_3 => ?_)
  obtain rfl : x_3 = 2 := ex_3.trans (by first | rfl | decide)
  refine va_sld hx hb hX hbl hbA hS (by show ¬ (_ ∨ _); decide) dL_law_1111 ?_
  refine lv_topi (fun x_4 ex_4 => ?_)
  obtain rfl : y2 = x_4 := hy2.trans ex_4.symm
  have hPc := hP.sub (ws' := [(x0, .inr (10, [.ref xTape, .ref xReader, .ref xBag, .ref xBld, .ref xAng, .ref xSum, .ref xPik, .int 0, .ref xHan, .ref xIns, .ref xShr, .ref xSta, .ref xTur])), (xBag, .inr (1, [.ref bC, .ref bS, .ref bX, .ref bW, .ref bP, .int 0]))]) [0, 1] rfl
  have hDc := hD.sub (ws' := [(x0, .inr (10, [.ref xTape, .ref xReader, .ref xBag, .ref xBld, .ref xAng, .ref xSum, .ref xPik, .int 0, .ref xHan, .ref xIns, .ref xShr, .ref xSta, .ref xTur])), (xBag, .inr (1, [.ref bC, .ref bS, .ref bX, .ref bW, .ref bP, .int 0]))]) [0, 1] (by decide) rfl
  have hFc := va_free (wc := [(x0, .inr (10, [.ref xTape, .ref xReader, .ref xBag, .ref xBld, .ref xAng, .ref xSum, .ref xPik, .int 0, .ref xHan, .ref xIns, .ref xShr, .ref xSta, .ref xTur])), (xBag, .inr (1, [.ref bC, .ref bS, .ref bX, .ref bW, .ref bP, .int 0]))]) hD hS hA [0, 1] rfl
  refine va_calli (va_runV (As := [.int y1, .int y2]) (rest := []) ⟨hx, hb, hml, hown, hts⟩ (c_X10_give l dC dI cB cI cJ H.size x0 xTape xReader xBag xBld xAng xSum xPik xHan xIns xShr xSta xTur bC bS bX bW bP y1 y2) (cwV 2 hts hL_law_X10_give rfl rfl rfl (by decide +kernel) ⟨Nat.le_of_ble_eq_true rfl, Nat.le_of_ble_eq_true rfl⟩) ⟨fun a U g mk q => by obtain ⟨q0, q1, qP, qK, qD⟩ := q; exact ⟨q0, q1, qP, va_K.moved (u := U) (U := U.calling g mk a) (Vm.Alike.refl U.vm) qK, qD⟩, va_recv hK hP (ci := 10) (q0 := 0) rfl rfl, fun U hU hW => ⟨rfl, by rw [hU], by rw [hU]; exact hPc, va_K.moved hW.alike hK, hDc.weaken (fun _ _ _ _ => trivial)⟩⟩ rfl rfl hl.1 rfl (lv_room (Nat.le_of_ble_eq_true rfl)) dL_law_1112 ⟨Nat.le_of_ble_eq_true rfl, Nat.le_of_ble_eq_true rfl⟩) hS (fun q _ h => hFc q h) hFc (fun r_5 u t H1 locs ht hvm hw hB hz1 hk1 hS => ?_)
  have hP1 : va_P (dC, dI) vwCl [] H1 := fun k q h => by simp at h
  have hD1 : va_D (va_A [(x0, .inr (10, [.ref xTape, .ref xReader, .ref xBag, .ref xBld, .ref xAng, .ref xSum, .ref xPik, .int 0, .ref xHan, .ref xIns, .ref xShr, .ref xSta, .ref xTur])), (xBag, .inr (1, [.ref bC, .ref bS, .ref bX, .ref bW, .ref bP, .int 0]))] H.size) [] := ⟨fun i j p q h => by simp at h, fun k q h => by simp at h⟩
  obtain ⟨hP, hD⟩ := va_join (wr := [(m0, .inr (11, [.int 0, .ref m_tape, .int 0, .int 0, .int 0, .ref m_read, .int 0, .int 0, .int 0, .ref m_tets, .int 0, .int 0, .int 0, .int 0, .int 0, .int 0, .int 0, .int 0, .ref m_primes, .ref m_often, .ref m_normal, .ref m_termM, .ref m_termP, .ref m_termV, .ref m_sumFrom, .ref m_sumMany, .int 0, .int 0, .int 0, .int 0, .ref m_part, .ref m_fair, .ref m_heap, .ref m_pickTet, .ref m_pickEdge, .ref m_base, .ref m_baseM, .ref m_baseP, .ref m_rowsOf, .int 0, .ref m_grid, .ref m_times, .ref m_boxes, .ref m_cameFrom, .ref m_cameBy, .ref m_steps, .ref m_sides, .int 0, .int (-1), .ref m_next, .ref m_cube, .ref m_ways]))]) (w1 := []) hP hD [0, 1] [2] rfl rfl (by decide) (by decide) hk1 hFc hP1 hD1
  generalize H1 = H at hP hS ⊢
  have hP : va_P (dC, dI) vwCl [(m0, .inr (11, [.int 0, .ref m_tape, .int 0, .int 0, .int 0, .ref m_read, .int 0, .int 0, .int 0, .ref m_tets, .int 0, .int 0, .int 0, .int 0, .int 0, .int 0, .int 0, .int 0, .ref m_primes, .ref m_often, .ref m_normal, .ref m_termM, .ref m_termP, .ref m_termV, .ref m_sumFrom, .ref m_sumMany, .int 0, .int 0, .int 0, .int 0, .ref m_part, .ref m_fair, .ref m_heap, .ref m_pickTet, .ref m_pickEdge, .ref m_base, .ref m_baseM, .ref m_baseP, .ref m_rowsOf, .int 0, .ref m_grid, .ref m_times, .ref m_boxes, .ref m_cameFrom, .ref m_cameBy, .ref m_steps, .ref m_sides, .int 0, .int (-1), .ref m_next, .ref m_cube, .ref m_ways]))] H := hP
  have hD : va_D (fun q : Nat => s.heap.size ≤ q) [(m0, .inr (11, [.int 0, .ref m_tape, .int 0, .int 0, .int 0, .ref m_read, .int 0, .int 0, .int 0, .ref m_tets, .int 0, .int 0, .int 0, .int 0, .int 0, .int 0, .int 0, .int 0, .ref m_primes, .ref m_often, .ref m_normal, .ref m_termM, .ref m_termP, .ref m_termV, .ref m_sumFrom, .ref m_sumMany, .int 0, .int 0, .int 0, .int 0, .ref m_part, .ref m_fair, .ref m_heap, .ref m_pickTet, .ref m_pickEdge, .ref m_base, .ref m_baseM, .ref m_baseP, .ref m_rowsOf, .int 0, .ref m_grid, .ref m_times, .ref m_boxes, .ref m_cameFrom, .ref m_cameBy, .ref m_steps, .ref m_sides, .int 0, .int (-1), .ref m_next, .ref m_cube, .ref m_ways]))] := hD
  have hr_5 := hw
  obtain rfl : r_5 = (-1) := hr_5
  refine lv_aload_n hx hb dL_law_1115 rfl (lv_at hl 2 rfl) ?_
  refine lv_aload_n hx hb dL_law_1116 rfl (lv_at hl 4 rfl) ?_
  refine lv_iload hx hb dL_law_1117 (lv_at hl 0 rfl) ?_
  refine lv_iconst (v := 1) hx hb dL_law_1119 (by decide) ?_
  refine lv_iadd hx hb dL_law_1120 ?_
  refine lv_topi (fun x_6 ex_6 => ?_)
  obtain rfl : x_6 = 1 := ex_6.trans (by first | rfl | decide)
  refine va_sld hx hb hX hbl hbA hS (by show ¬ (_ ∨ _); decide) dL_law_1121 ?_
  refine lv_topi (fun x_7 ex_7 => ?_)
  obtain rfl : y1 = x_7 := hy1.trans ex_7.symm
  refine lv_aload_n hx hb dL_law_1122 rfl (lv_at hl 4 rfl) ?_
  refine lv_iload hx hb dL_law_1123 (lv_at hl 0 rfl) ?_
  refine lv_iconst (v := 2) hx hb dL_law_1125 (by decide) ?_
  refine lv_iadd hx hb dL_law_1126 ?_
  refine lv_topi (fun x_8 ex_8 => ?_)
  obtain rfl : x_8 = 2 := ex_8.trans (by first | rfl | decide)
  refine va_sld hx hb hX hbl hbA hS (by show ¬ (_ ∨ _); decide) dL_law_1127 ?_
  refine lv_topi (fun x_9 ex_9 => ?_)
  obtain rfl : y2 = x_9 := hy2.trans ex_9.symm
  have hPc := hP.sub (ws' := [(m0, .inr (11, [.int 0, .ref m_tape, .int 0, .int 0, .int 0, .ref m_read, .int 0, .int 0, .int 0, .ref m_tets, .int 0, .int 0, .int 0, .int 0, .int 0, .int 0, .int 0, .int 0, .ref m_primes, .ref m_often, .ref m_normal, .ref m_termM, .ref m_termP, .ref m_termV, .ref m_sumFrom, .ref m_sumMany, .int 0, .int 0, .int 0, .int 0, .ref m_part, .ref m_fair, .ref m_heap, .ref m_pickTet, .ref m_pickEdge, .ref m_base, .ref m_baseM, .ref m_baseP, .ref m_rowsOf, .int 0, .ref m_grid, .ref m_times, .ref m_boxes, .ref m_cameFrom, .ref m_cameBy, .ref m_steps, .ref m_sides, .int 0, .int (-1), .ref m_next, .ref m_cube, .ref m_ways]))]) [0] rfl
  have hDc := hD.sub (ws' := [(m0, .inr (11, [.int 0, .ref m_tape, .int 0, .int 0, .int 0, .ref m_read, .int 0, .int 0, .int 0, .ref m_tets, .int 0, .int 0, .int 0, .int 0, .int 0, .int 0, .int 0, .int 0, .ref m_primes, .ref m_often, .ref m_normal, .ref m_termM, .ref m_termP, .ref m_termV, .ref m_sumFrom, .ref m_sumMany, .int 0, .int 0, .int 0, .int 0, .ref m_part, .ref m_fair, .ref m_heap, .ref m_pickTet, .ref m_pickEdge, .ref m_base, .ref m_baseM, .ref m_baseP, .ref m_rowsOf, .int 0, .ref m_grid, .ref m_times, .ref m_boxes, .ref m_cameFrom, .ref m_cameBy, .ref m_steps, .ref m_sides, .int 0, .int (-1), .ref m_next, .ref m_cube, .ref m_ways]))]) [0] (by decide) rfl
  have hFc := va_free (wc := [(m0, .inr (11, [.int 0, .ref m_tape, .int 0, .int 0, .int 0, .ref m_read, .int 0, .int 0, .int 0, .ref m_tets, .int 0, .int 0, .int 0, .int 0, .int 0, .int 0, .int 0, .int 0, .ref m_primes, .ref m_often, .ref m_normal, .ref m_termM, .ref m_termP, .ref m_termV, .ref m_sumFrom, .ref m_sumMany, .int 0, .int 0, .int 0, .int 0, .ref m_part, .ref m_fair, .ref m_heap, .ref m_pickTet, .ref m_pickEdge, .ref m_base, .ref m_baseM, .ref m_baseP, .ref m_rowsOf, .int 0, .ref m_grid, .ref m_times, .ref m_boxes, .ref m_cameFrom, .ref m_cameBy, .ref m_steps, .ref m_sides, .int 0, .int (-1), .ref m_next, .ref m_cube, .ref m_ways]))]) hD hS hA [0] rfl
  refine va_calli (va_runV (As := [.int y1, .int y2]) (rest := [.int (-1)]) ⟨hx, hb, hml, hown, hts⟩ (c_X11_give l dC dI cB cI cJ H.size m0 m_tape m_read m_tets m_primes m_often m_normal m_termM m_termP m_termV m_sumFrom m_sumMany m_part m_fair m_heap m_pickTet m_pickEdge m_base m_baseM m_baseP m_rowsOf m_grid m_times m_boxes m_cameFrom m_cameBy m_steps m_sides m_next m_cube m_ways y1 y2) (cwV 2 hts hL_law_X11_give rfl rfl rfl (by decide +kernel) ⟨Nat.le_of_ble_eq_true rfl, Nat.le_of_ble_eq_true rfl⟩) ⟨fun a U g mk q => by obtain ⟨q0, q1, qP, qK, qD⟩ := q; exact ⟨q0, q1, qP, va_K.moved (u := U) (U := U.calling g mk a) (Vm.Alike.refl U.vm) qK, qD⟩, va_recv hK hP (ci := 11) (q0 := 0) rfl rfl, fun U hU hW => ⟨rfl, by rw [hU], by rw [hU]; exact hPc, va_K.moved hW.alike hK, hDc.weaken (fun _ _ _ _ => trivial)⟩⟩ rfl rfl hl.1 rfl (lv_room (Nat.le_of_ble_eq_true rfl)) dL_law_1128 ⟨Nat.le_of_ble_eq_true rfl, Nat.le_of_ble_eq_true rfl⟩) hS (fun q _ h => hFc q h) hFc (fun r_10 u t H1 locs ht hvm hw hB hz1 hk1 hS => ?_)
  have hP1 : va_P (dC, dI) vwCl [] H1 := fun k q h => by simp at h
  have hD1 : va_D (va_A [(m0, .inr (11, [.int 0, .ref m_tape, .int 0, .int 0, .int 0, .ref m_read, .int 0, .int 0, .int 0, .ref m_tets, .int 0, .int 0, .int 0, .int 0, .int 0, .int 0, .int 0, .int 0, .ref m_primes, .ref m_often, .ref m_normal, .ref m_termM, .ref m_termP, .ref m_termV, .ref m_sumFrom, .ref m_sumMany, .int 0, .int 0, .int 0, .int 0, .ref m_part, .ref m_fair, .ref m_heap, .ref m_pickTet, .ref m_pickEdge, .ref m_base, .ref m_baseM, .ref m_baseP, .ref m_rowsOf, .int 0, .ref m_grid, .ref m_times, .ref m_boxes, .ref m_cameFrom, .ref m_cameBy, .ref m_steps, .ref m_sides, .int 0, .int (-1), .ref m_next, .ref m_cube, .ref m_ways]))] H.size) [] := ⟨fun i j p q h => by simp at h, fun k q h => by simp at h⟩
  obtain ⟨hP, hD⟩ := va_join (wr := []) (w1 := []) hP hD [0] [] rfl rfl (by decide) (by decide) hk1 hFc hP1 hD1
  generalize H1 = H at hP hS ⊢
  have hP : va_P (dC, dI) vwCl [] H := hP
  have hD : va_D (fun q : Nat => s.heap.size ≤ q) [] := hD
  have hr_10 := hw
  obtain rfl : r_10 = (-1) := hr_10
  refine lv_icmp_eq (tgt := 1744) hx hb dL_law_1131 (by decide) (fun _ => ?_) (fun c => absurd (by decide) c)
  refine W.widen (k := 600002) (n := 7302232) (Nat.le_of_ble_eq_true rfl) (Nat.le_of_ble_eq_true rfl) ?_
  exact la_end l C0 H _ hS ls hl
set_option maxHeartbeats 8000000 in
set_option maxRecDepth 100000 in
theorem la_21 {p : Program} {e : Env} {s : State} {m : MethodId} {below : List Frame} {meth : Method} {c : Code} (l : Launch) {b : Nat} {xs : Nat → Int32} (C0 : lw_At p s m meth c b 7 xs) (dC : Nat → ClassId) (dI : Nat → Nat → Nat) (cB cI cJ : ClassId) {x0 xTape xReader xBag xBld xAng xSum xPik xHan xIns xShr xSta xTur bC bS bX bW bP m0 m_tape m_read m_tets m_primes m_often m_normal m_termM m_termP m_termV m_sumFrom m_sumMany m_part m_fair m_heap m_pickTet m_pickEdge m_base m_baseM m_baseP m_rowsOf m_grid m_times m_boxes m_cameFrom m_cameBy m_steps m_sides m_next m_cube m_ways o0 : Nat} (H : Heap) (locs : List Loc) (hK : va_K (dC, dI) vwCl [(cB, .byte), (cI, .int), (cJ, .long)] s) (hP : va_P (dC, dI) vwCl [(x0, .inr (10, [.ref xTape, .ref xReader, .ref xBag, .ref xBld, .ref xAng, .ref xSum, .ref xPik, .int 0, .ref xHan, .ref xIns, .ref xShr, .ref xSta, .ref xTur])), (xBag, .inr (1, [.ref bC, .ref bS, .ref bX, .ref bW, .ref bP, .int 0])), (m0, .inr (11, [.int 0, .ref m_tape, .int 0, .int 0, .int 0, .ref m_read, .int 0, .int 0, .int 0, .ref m_tets, .int 0, .int 0, .int 0, .int 0, .int 0, .int 0, .int 0, .int 0, .ref m_primes, .ref m_often, .ref m_normal, .ref m_termM, .ref m_termP, .ref m_termV, .ref m_sumFrom, .ref m_sumMany, .int 0, .int 0, .int 0, .int 0, .ref m_part, .ref m_fair, .ref m_heap, .ref m_pickTet, .ref m_pickEdge, .ref m_base, .ref m_baseM, .ref m_baseP, .ref m_rowsOf, .int 0, .ref m_grid, .ref m_times, .ref m_boxes, .ref m_cameFrom, .ref m_cameBy, .ref m_steps, .ref m_sides, .int 0, .int (-1), .ref m_next, .ref m_cube, .ref m_ways]))] H) (hD : va_D (fun q : Nat => s.heap.size ≤ q) [(x0, .inr (10, [.ref xTape, .ref xReader, .ref xBag, .ref xBld, .ref xAng, .ref xSum, .ref xPik, .int 0, .ref xHan, .ref xIns, .ref xShr, .ref xSta, .ref xTur])), (xBag, .inr (1, [.ref bC, .ref bS, .ref bX, .ref bW, .ref bP, .int 0])), (m0, .inr (11, [.int 0, .ref m_tape, .int 0, .int 0, .int 0, .ref m_read, .int 0, .int 0, .int 0, .ref m_tets, .int 0, .int 0, .int 0, .int 0, .int 0, .int 0, .int 0, .int 0, .ref m_primes, .ref m_often, .ref m_normal, .ref m_termM, .ref m_termP, .ref m_termV, .ref m_sumFrom, .ref m_sumMany, .int 0, .int 0, .int 0, .int 0, .ref m_part, .ref m_fair, .ref m_heap, .ref m_pickTet, .ref m_pickEdge, .ref m_base, .ref m_baseM, .ref m_baseP, .ref m_rowsOf, .int 0, .ref m_grid, .ref m_times, .ref m_boxes, .ref m_cameFrom, .ref m_cameBy, .ref m_steps, .ref m_sides, .int 0, .int (-1), .ref m_next, .ref m_cube, .ref m_ways]))]) (hS : va_S (fun q : Nat => s.heap.size ≤ q) s.heap H locs) (ls : Array Slot) (hl : lv_has ls 7 [(4, .int 0), (3, .ref o0), (2, .ref m0), (1, .ref x0), (0, .ref b)]) : W p l e room_1 s m #[Value.ref b] below meth c H locs 82 28049 (lw_Z below #[Value.ref b] s) (F0 m 1136 ls []) := by
  obtain ⟨hx, hb, hr, hml, hown, htb, hX, hbl, hlocks, hgv⟩ := id C0
  have hts := htb
  have hbA : ¬ (fun q : Nat => s.heap.size ≤ q) b := Nat.not_le.mpr hbl
  have hA : ∀ q : Nat, s.heap.size ≤ q → (fun q : Nat => s.heap.size ≤ q) q := fun _ h => h
  obtain ⟨y1, hy1⟩ : ∃ y : Int32, y = xs (1 : Int32).toNatClampNeg := ⟨_, rfl⟩
  refine lv_aload_n hx hb dL_law_1136 rfl (lv_at hl 3 rfl) ?_
  refine lv_aload_n hx hb dL_law_1137 rfl (lv_at hl 4 rfl) ?_
  refine lv_iload hx hb dL_law_1138 (lv_at hl 0 rfl) ?_
  refine lv_iconst (v := 1) hx hb dL_law_1140 (by decide) ?_
  refine lv_iadd hx hb dL_law_1141 ?_
  refine lv_topi (fun x_1 ex_1 => ?_)
  obtain rfl : x_1 = 1 := ex_1.trans (by first | rfl | decide)
  refine va_sld hx hb hX hbl hbA hS (by show ¬ (_ ∨ _); decide) dL_law_1142 ?_
  refine lv_topi (fun x_2 ex_2 => ?_)
  obtain rfl : y1 = x_2 := hy1.trans ex_2.symm
  have hPc := hP.sub (ws' := [(x0, .inr (10, [.ref xTape, .ref xReader, .ref xBag, .ref xBld, .ref xAng, .ref xSum, .ref xPik, .int 0, .ref xHan, .ref xIns, .ref xShr, .ref xSta, .ref xTur])), (xBag, .inr (1, [.ref bC, .ref bS, .ref bX, .ref bW, .ref bP, .int 0]))]) [0, 1] rfl
  have hDc := hD.sub (ws' := [(x0, .inr (10, [.ref xTape, .ref xReader, .ref xBag, .ref xBld, .ref xAng, .ref xSum, .ref xPik, .int 0, .ref xHan, .ref xIns, .ref xShr, .ref xSta, .ref xTur])), (xBag, .inr (1, [.ref bC, .ref bS, .ref bX, .ref bW, .ref bP, .int 0]))]) [0, 1] (by decide) rfl
  have hFc := va_free (wc := [(x0, .inr (10, [.ref xTape, .ref xReader, .ref xBag, .ref xBld, .ref xAng, .ref xSum, .ref xPik, .int 0, .ref xHan, .ref xIns, .ref xShr, .ref xSta, .ref xTur])), (xBag, .inr (1, [.ref bC, .ref bS, .ref bX, .ref bW, .ref bP, .int 0]))]) hD hS hA [0, 1] rfl
  refine va_calli (va_runV (As := [.int y1]) (rest := []) ⟨hx, hb, hml, hown, hts⟩ (c_X10_drop l dC dI cB cI cJ H.size x0 xTape xReader xBag xBld xAng xSum xPik xHan xIns xShr xSta xTur bC bS bX bW bP y1) (cwV 1 hts hL_law_X10_drop rfl rfl rfl (by decide +kernel) ⟨Nat.le_of_ble_eq_true rfl, Nat.le_of_ble_eq_true rfl⟩) ⟨fun a U g mk q => by obtain ⟨q0, q1, qP, qK, qD⟩ := q; exact ⟨q0, q1, qP, va_K.moved (u := U) (U := U.calling g mk a) (Vm.Alike.refl U.vm) qK, qD⟩, va_recv hK hP (ci := 10) (q0 := 0) rfl rfl, fun U hU hW => ⟨rfl, by rw [hU], by rw [hU]; exact hPc, va_K.moved hW.alike hK, hDc.weaken (fun _ _ _ _ => trivial)⟩⟩ rfl rfl hl.1 rfl (lv_room (Nat.le_of_ble_eq_true rfl)) dL_law_1143 ⟨Nat.le_of_ble_eq_true rfl, Nat.le_of_ble_eq_true rfl⟩) hS (fun q _ h => hFc q h) hFc (fun r_3 u t H1 locs ht hvm hw hB hz1 hk1 hS => ?_)
  have hP1 : va_P (dC, dI) vwCl [] H1 := fun k q h => by simp at h
  have hD1 : va_D (va_A [(x0, .inr (10, [.ref xTape, .ref xReader, .ref xBag, .ref xBld, .ref xAng, .ref xSum, .ref xPik, .int 0, .ref xHan, .ref xIns, .ref xShr, .ref xSta, .ref xTur])), (xBag, .inr (1, [.ref bC, .ref bS, .ref bX, .ref bW, .ref bP, .int 0]))] H.size) [] := ⟨fun i j p q h => by simp at h, fun k q h => by simp at h⟩
  obtain ⟨hP, hD⟩ := va_join (wr := [(m0, .inr (11, [.int 0, .ref m_tape, .int 0, .int 0, .int 0, .ref m_read, .int 0, .int 0, .int 0, .ref m_tets, .int 0, .int 0, .int 0, .int 0, .int 0, .int 0, .int 0, .int 0, .ref m_primes, .ref m_often, .ref m_normal, .ref m_termM, .ref m_termP, .ref m_termV, .ref m_sumFrom, .ref m_sumMany, .int 0, .int 0, .int 0, .int 0, .ref m_part, .ref m_fair, .ref m_heap, .ref m_pickTet, .ref m_pickEdge, .ref m_base, .ref m_baseM, .ref m_baseP, .ref m_rowsOf, .int 0, .ref m_grid, .ref m_times, .ref m_boxes, .ref m_cameFrom, .ref m_cameBy, .ref m_steps, .ref m_sides, .int 0, .int (-1), .ref m_next, .ref m_cube, .ref m_ways]))]) (w1 := []) hP hD [0, 1] [2] rfl rfl (by decide) (by decide) hk1 hFc hP1 hD1
  generalize H1 = H at hP hS ⊢
  have hP : va_P (dC, dI) vwCl [(m0, .inr (11, [.int 0, .ref m_tape, .int 0, .int 0, .int 0, .ref m_read, .int 0, .int 0, .int 0, .ref m_tets, .int 0, .int 0, .int 0, .int 0, .int 0, .int 0, .int 0, .int 0, .ref m_primes, .ref m_often, .ref m_normal, .ref m_termM, .ref m_termP, .ref m_termV, .ref m_sumFrom, .ref m_sumMany, .int 0, .int 0, .int 0, .int 0, .ref m_part, .ref m_fair, .ref m_heap, .ref m_pickTet, .ref m_pickEdge, .ref m_base, .ref m_baseM, .ref m_baseP, .ref m_rowsOf, .int 0, .ref m_grid, .ref m_times, .ref m_boxes, .ref m_cameFrom, .ref m_cameBy, .ref m_steps, .ref m_sides, .int 0, .int (-1), .ref m_next, .ref m_cube, .ref m_ways]))] H := hP
  have hD : va_D (fun q : Nat => s.heap.size ≤ q) [(m0, .inr (11, [.int 0, .ref m_tape, .int 0, .int 0, .int 0, .ref m_read, .int 0, .int 0, .int 0, .ref m_tets, .int 0, .int 0, .int 0, .int 0, .int 0, .int 0, .int 0, .int 0, .ref m_primes, .ref m_often, .ref m_normal, .ref m_termM, .ref m_termP, .ref m_termV, .ref m_sumFrom, .ref m_sumMany, .int 0, .int 0, .int 0, .int 0, .ref m_part, .ref m_fair, .ref m_heap, .ref m_pickTet, .ref m_pickEdge, .ref m_base, .ref m_baseM, .ref m_baseP, .ref m_rowsOf, .int 0, .ref m_grid, .ref m_times, .ref m_boxes, .ref m_cameFrom, .ref m_cameBy, .ref m_steps, .ref m_sides, .int 0, .int (-1), .ref m_next, .ref m_cube, .ref m_ways]))] := hD
  have hr_3 := hw
  obtain rfl : r_3 = (-1) := hr_3
  refine lv_aload_n hx hb dL_law_1146 rfl (lv_at hl 2 rfl) ?_
  refine lv_aload_n hx hb dL_law_1147 rfl (lv_at hl 4 rfl) ?_
  refine lv_iload hx hb dL_law_1148 (lv_at hl 0 rfl) ?_
  refine lv_iconst (v := 1) hx hb dL_law_1150 (by decide) ?_
  refine lv_iadd hx hb dL_law_1151 ?_
  refine lv_topi (fun x_4 ex_4 => ?_)
  obtain rfl : x_4 = 1 := ex_4.trans (by first | rfl | decide)
  refine va_sld hx hb hX hbl hbA hS (by show ¬ (_ ∨ _); decide) dL_law_1152 ?_
  refine lv_topi (fun x_5 ex_5 => ?_)
  obtain rfl : y1 = x_5 := hy1.trans ex_5.symm
  have hPc := hP.sub (ws' := [(m0, .inr (11, [.int 0, .ref m_tape, .int 0, .int 0, .int 0, .ref m_read, .int 0, .int 0, .int 0, .ref m_tets, .int 0, .int 0, .int 0, .int 0, .int 0, .int 0, .int 0, .int 0, .ref m_primes, .ref m_often, .ref m_normal, .ref m_termM, .ref m_termP, .ref m_termV, .ref m_sumFrom, .ref m_sumMany, .int 0, .int 0, .int 0, .int 0, .ref m_part, .ref m_fair, .ref m_heap, .ref m_pickTet, .ref m_pickEdge, .ref m_base, .ref m_baseM, .ref m_baseP, .ref m_rowsOf, .int 0, .ref m_grid, .ref m_times, .ref m_boxes, .ref m_cameFrom, .ref m_cameBy, .ref m_steps, .ref m_sides, .int 0, .int (-1), .ref m_next, .ref m_cube, .ref m_ways]))]) [0] rfl
  have hDc := hD.sub (ws' := [(m0, .inr (11, [.int 0, .ref m_tape, .int 0, .int 0, .int 0, .ref m_read, .int 0, .int 0, .int 0, .ref m_tets, .int 0, .int 0, .int 0, .int 0, .int 0, .int 0, .int 0, .int 0, .ref m_primes, .ref m_often, .ref m_normal, .ref m_termM, .ref m_termP, .ref m_termV, .ref m_sumFrom, .ref m_sumMany, .int 0, .int 0, .int 0, .int 0, .ref m_part, .ref m_fair, .ref m_heap, .ref m_pickTet, .ref m_pickEdge, .ref m_base, .ref m_baseM, .ref m_baseP, .ref m_rowsOf, .int 0, .ref m_grid, .ref m_times, .ref m_boxes, .ref m_cameFrom, .ref m_cameBy, .ref m_steps, .ref m_sides, .int 0, .int (-1), .ref m_next, .ref m_cube, .ref m_ways]))]) [0] (by decide) rfl
  have hFc := va_free (wc := [(m0, .inr (11, [.int 0, .ref m_tape, .int 0, .int 0, .int 0, .ref m_read, .int 0, .int 0, .int 0, .ref m_tets, .int 0, .int 0, .int 0, .int 0, .int 0, .int 0, .int 0, .int 0, .ref m_primes, .ref m_often, .ref m_normal, .ref m_termM, .ref m_termP, .ref m_termV, .ref m_sumFrom, .ref m_sumMany, .int 0, .int 0, .int 0, .int 0, .ref m_part, .ref m_fair, .ref m_heap, .ref m_pickTet, .ref m_pickEdge, .ref m_base, .ref m_baseM, .ref m_baseP, .ref m_rowsOf, .int 0, .ref m_grid, .ref m_times, .ref m_boxes, .ref m_cameFrom, .ref m_cameBy, .ref m_steps, .ref m_sides, .int 0, .int (-1), .ref m_next, .ref m_cube, .ref m_ways]))]) hD hS hA [0] rfl
  refine va_calli (va_runV (As := [.int y1]) (rest := [.int (-1)]) ⟨hx, hb, hml, hown, hts⟩ (c_X11_drop l dC dI cB cI cJ H.size m0 m_tape m_read m_tets m_primes m_often m_normal m_termM m_termP m_termV m_sumFrom m_sumMany m_part m_fair m_heap m_pickTet m_pickEdge m_base m_baseM m_baseP m_rowsOf m_grid m_times m_boxes m_cameFrom m_cameBy m_steps m_sides m_next m_cube m_ways y1) (cwV 1 hts hL_law_X11_drop rfl rfl rfl (by decide +kernel) ⟨Nat.le_of_ble_eq_true rfl, Nat.le_of_ble_eq_true rfl⟩) ⟨fun a U g mk q => by obtain ⟨q0, q1, qP, qK, qD⟩ := q; exact ⟨q0, q1, qP, va_K.moved (u := U) (U := U.calling g mk a) (Vm.Alike.refl U.vm) qK, qD⟩, va_recv hK hP (ci := 11) (q0 := 0) rfl rfl, fun U hU hW => ⟨rfl, by rw [hU], by rw [hU]; exact hPc, va_K.moved hW.alike hK, hDc.weaken (fun _ _ _ _ => trivial)⟩⟩ rfl rfl hl.1 rfl (lv_room (Nat.le_of_ble_eq_true rfl)) dL_law_1153 ⟨Nat.le_of_ble_eq_true rfl, Nat.le_of_ble_eq_true rfl⟩) hS (fun q _ h => hFc q h) hFc (fun r_6 u t H1 locs ht hvm hw hB hz1 hk1 hS => ?_)
  have hP1 : va_P (dC, dI) vwCl [] H1 := fun k q h => by simp at h
  have hD1 : va_D (va_A [(m0, .inr (11, [.int 0, .ref m_tape, .int 0, .int 0, .int 0, .ref m_read, .int 0, .int 0, .int 0, .ref m_tets, .int 0, .int 0, .int 0, .int 0, .int 0, .int 0, .int 0, .int 0, .ref m_primes, .ref m_often, .ref m_normal, .ref m_termM, .ref m_termP, .ref m_termV, .ref m_sumFrom, .ref m_sumMany, .int 0, .int 0, .int 0, .int 0, .ref m_part, .ref m_fair, .ref m_heap, .ref m_pickTet, .ref m_pickEdge, .ref m_base, .ref m_baseM, .ref m_baseP, .ref m_rowsOf, .int 0, .ref m_grid, .ref m_times, .ref m_boxes, .ref m_cameFrom, .ref m_cameBy, .ref m_steps, .ref m_sides, .int 0, .int (-1), .ref m_next, .ref m_cube, .ref m_ways]))] H.size) [] := ⟨fun i j p q h => by simp at h, fun k q h => by simp at h⟩
  obtain ⟨hP, hD⟩ := va_join (wr := []) (w1 := []) hP hD [0] [] rfl rfl (by decide) (by decide) hk1 hFc hP1 hD1
  generalize H1 = H at hP hS ⊢
  have hP : va_P (dC, dI) vwCl [] H := hP
  have hD : va_D (fun q : Nat => s.heap.size ≤ q) [] := hD
  have hr_6 := hw
  obtain rfl : r_6 = (-1) := hr_6
  refine lv_icmp_eq (tgt := 1744) hx hb dL_law_1156 (by decide) (fun _ => ?_) (fun c => absurd (by decide) c)
  refine W.widen (k := 600002) (n := 7302232) (Nat.le_of_ble_eq_true rfl) (Nat.le_of_ble_eq_true rfl) ?_
  exact la_end l C0 H _ hS ls hl
set_option maxHeartbeats 8000000 in
set_option maxRecDepth 100000 in
theorem la_22 {p : Program} {e : Env} {s : State} {m : MethodId} {below : List Frame} {meth : Method} {c : Code} (l : Launch) {b : Nat} {xs : Nat → Int32} (C0 : lw_At p s m meth c b 7 xs) (dC : Nat → ClassId) (dI : Nat → Nat → Nat) (cB cI cJ : ClassId) {x0 xTape xReader xBag xBld xAng xSum xPik xHan xIns xShr xSta xTur bC bS bX bW bP m0 m_tape m_read m_tets m_primes m_often m_normal m_termM m_termP m_termV m_sumFrom m_sumMany m_part m_fair m_heap m_pickTet m_pickEdge m_base m_baseM m_baseP m_rowsOf m_grid m_times m_boxes m_cameFrom m_cameBy m_steps m_sides m_next m_cube m_ways o0 : Nat} (H : Heap) (locs : List Loc) (hK : va_K (dC, dI) vwCl [(cB, .byte), (cI, .int), (cJ, .long)] s) (hP : va_P (dC, dI) vwCl [(x0, .inr (10, [.ref xTape, .ref xReader, .ref xBag, .ref xBld, .ref xAng, .ref xSum, .ref xPik, .int 0, .ref xHan, .ref xIns, .ref xShr, .ref xSta, .ref xTur])), (xBag, .inr (1, [.ref bC, .ref bS, .ref bX, .ref bW, .ref bP, .int 0])), (m0, .inr (11, [.int 0, .ref m_tape, .int 0, .int 0, .int 0, .ref m_read, .int 0, .int 0, .int 0, .ref m_tets, .int 0, .int 0, .int 0, .int 0, .int 0, .int 0, .int 0, .int 0, .ref m_primes, .ref m_often, .ref m_normal, .ref m_termM, .ref m_termP, .ref m_termV, .ref m_sumFrom, .ref m_sumMany, .int 0, .int 0, .int 0, .int 0, .ref m_part, .ref m_fair, .ref m_heap, .ref m_pickTet, .ref m_pickEdge, .ref m_base, .ref m_baseM, .ref m_baseP, .ref m_rowsOf, .int 0, .ref m_grid, .ref m_times, .ref m_boxes, .ref m_cameFrom, .ref m_cameBy, .ref m_steps, .ref m_sides, .int 0, .int (-1), .ref m_next, .ref m_cube, .ref m_ways]))] H) (hD : va_D (fun q : Nat => s.heap.size ≤ q) [(x0, .inr (10, [.ref xTape, .ref xReader, .ref xBag, .ref xBld, .ref xAng, .ref xSum, .ref xPik, .int 0, .ref xHan, .ref xIns, .ref xShr, .ref xSta, .ref xTur])), (xBag, .inr (1, [.ref bC, .ref bS, .ref bX, .ref bW, .ref bP, .int 0])), (m0, .inr (11, [.int 0, .ref m_tape, .int 0, .int 0, .int 0, .ref m_read, .int 0, .int 0, .int 0, .ref m_tets, .int 0, .int 0, .int 0, .int 0, .int 0, .int 0, .int 0, .int 0, .ref m_primes, .ref m_often, .ref m_normal, .ref m_termM, .ref m_termP, .ref m_termV, .ref m_sumFrom, .ref m_sumMany, .int 0, .int 0, .int 0, .int 0, .ref m_part, .ref m_fair, .ref m_heap, .ref m_pickTet, .ref m_pickEdge, .ref m_base, .ref m_baseM, .ref m_baseP, .ref m_rowsOf, .int 0, .ref m_grid, .ref m_times, .ref m_boxes, .ref m_cameFrom, .ref m_cameBy, .ref m_steps, .ref m_sides, .int 0, .int (-1), .ref m_next, .ref m_cube, .ref m_ways]))]) (hS : va_S (fun q : Nat => s.heap.size ≤ q) s.heap H locs) (ls : Array Slot) (hl : lv_has ls 7 [(4, .int 0), (3, .ref o0), (2, .ref m0), (1, .ref x0), (0, .ref b)]) : W p l e room_1 s m #[Value.ref b] below meth c H locs 82 28049 (lw_Z below #[Value.ref b] s) (F0 m 1161 ls []) := by
  obtain ⟨hx, hb, hr, hml, hown, htb, hX, hbl, hlocks, hgv⟩ := id C0
  have hts := htb
  have hbA : ¬ (fun q : Nat => s.heap.size ≤ q) b := Nat.not_le.mpr hbl
  have hA : ∀ q : Nat, s.heap.size ≤ q → (fun q : Nat => s.heap.size ≤ q) q := fun _ h => h
  obtain ⟨y1, hy1⟩ : ∃ y : Int32, y = xs (1 : Int32).toNatClampNeg := ⟨_, rfl⟩
  refine lv_aload_n hx hb dL_law_1161 rfl (lv_at hl 3 rfl) ?_
  refine lv_aload_n hx hb dL_law_1162 rfl (lv_at hl 4 rfl) ?_
  refine lv_iload hx hb dL_law_1163 (lv_at hl 0 rfl) ?_
  refine lv_iconst (v := 1) hx hb dL_law_1165 (by decide) ?_
  refine lv_iadd hx hb dL_law_1166 ?_
  refine lv_topi (fun x_1 ex_1 => ?_)
  obtain rfl : x_1 = 1 := ex_1.trans (by first | rfl | decide)
  refine va_sld hx hb hX hbl hbA hS (by show ¬ (_ ∨ _); decide) dL_law_1167 ?_
  refine lv_topi (fun x_2 ex_2 => ?_)
  obtain rfl : y1 = x_2 := hy1.trans ex_2.symm
  have hPc := hP.sub (ws' := [(x0, .inr (10, [.ref xTape, .ref xReader, .ref xBag, .ref xBld, .ref xAng, .ref xSum, .ref xPik, .int 0, .ref xHan, .ref xIns, .ref xShr, .ref xSta, .ref xTur])), (xBag, .inr (1, [.ref bC, .ref bS, .ref bX, .ref bW, .ref bP, .int 0]))]) [0, 1] rfl
  have hDc := hD.sub (ws' := [(x0, .inr (10, [.ref xTape, .ref xReader, .ref xBag, .ref xBld, .ref xAng, .ref xSum, .ref xPik, .int 0, .ref xHan, .ref xIns, .ref xShr, .ref xSta, .ref xTur])), (xBag, .inr (1, [.ref bC, .ref bS, .ref bX, .ref bW, .ref bP, .int 0]))]) [0, 1] (by decide) rfl
  have hFc := va_free (wc := [(x0, .inr (10, [.ref xTape, .ref xReader, .ref xBag, .ref xBld, .ref xAng, .ref xSum, .ref xPik, .int 0, .ref xHan, .ref xIns, .ref xShr, .ref xSta, .ref xTur])), (xBag, .inr (1, [.ref bC, .ref bS, .ref bX, .ref bW, .ref bP, .int 0]))]) hD hS hA [0, 1] rfl
  refine va_calli (va_runV (As := [.int y1]) (rest := []) ⟨hx, hb, hml, hown, hts⟩ (c_X10_points l dC dI cB cI cJ H.size x0 xTape xReader xBag xBld xAng xSum xPik xHan xIns xShr xSta xTur bC bS bX bW bP y1) (cwV 1 hts hL_law_X10_points rfl rfl rfl (by decide +kernel) ⟨Nat.le_of_ble_eq_true rfl, Nat.le_of_ble_eq_true rfl⟩) ⟨fun a U g mk q => by obtain ⟨q0, q1, qP, qK, qD⟩ := q; exact ⟨q0, q1, qP, va_K.moved (u := U) (U := U.calling g mk a) (Vm.Alike.refl U.vm) qK, qD⟩, va_recv hK hP (ci := 10) (q0 := 0) rfl rfl, fun U hU hW => ⟨rfl, by rw [hU], by rw [hU]; exact hPc, va_K.moved hW.alike hK, hDc.weaken (fun _ _ _ _ => trivial)⟩⟩ rfl rfl hl.1 rfl (lv_room (Nat.le_of_ble_eq_true rfl)) dL_law_1168 ⟨Nat.le_of_ble_eq_true rfl, Nat.le_of_ble_eq_true rfl⟩) hS (fun q _ h => hFc q h) hFc (fun r_3 u t H1 locs ht hvm hw hB hz1 hk1 hS => ?_)
  have hP1 : va_P (dC, dI) vwCl [] H1 := fun k q h => by simp at h
  have hD1 : va_D (va_A [(x0, .inr (10, [.ref xTape, .ref xReader, .ref xBag, .ref xBld, .ref xAng, .ref xSum, .ref xPik, .int 0, .ref xHan, .ref xIns, .ref xShr, .ref xSta, .ref xTur])), (xBag, .inr (1, [.ref bC, .ref bS, .ref bX, .ref bW, .ref bP, .int 0]))] H.size) [] := ⟨fun i j p q h => by simp at h, fun k q h => by simp at h⟩
  obtain ⟨hP, hD⟩ := va_join (wr := [(m0, .inr (11, [.int 0, .ref m_tape, .int 0, .int 0, .int 0, .ref m_read, .int 0, .int 0, .int 0, .ref m_tets, .int 0, .int 0, .int 0, .int 0, .int 0, .int 0, .int 0, .int 0, .ref m_primes, .ref m_often, .ref m_normal, .ref m_termM, .ref m_termP, .ref m_termV, .ref m_sumFrom, .ref m_sumMany, .int 0, .int 0, .int 0, .int 0, .ref m_part, .ref m_fair, .ref m_heap, .ref m_pickTet, .ref m_pickEdge, .ref m_base, .ref m_baseM, .ref m_baseP, .ref m_rowsOf, .int 0, .ref m_grid, .ref m_times, .ref m_boxes, .ref m_cameFrom, .ref m_cameBy, .ref m_steps, .ref m_sides, .int 0, .int (-1), .ref m_next, .ref m_cube, .ref m_ways]))]) (w1 := []) hP hD [0, 1] [2] rfl rfl (by decide) (by decide) hk1 hFc hP1 hD1
  generalize H1 = H at hP hS ⊢
  have hP : va_P (dC, dI) vwCl [(m0, .inr (11, [.int 0, .ref m_tape, .int 0, .int 0, .int 0, .ref m_read, .int 0, .int 0, .int 0, .ref m_tets, .int 0, .int 0, .int 0, .int 0, .int 0, .int 0, .int 0, .int 0, .ref m_primes, .ref m_often, .ref m_normal, .ref m_termM, .ref m_termP, .ref m_termV, .ref m_sumFrom, .ref m_sumMany, .int 0, .int 0, .int 0, .int 0, .ref m_part, .ref m_fair, .ref m_heap, .ref m_pickTet, .ref m_pickEdge, .ref m_base, .ref m_baseM, .ref m_baseP, .ref m_rowsOf, .int 0, .ref m_grid, .ref m_times, .ref m_boxes, .ref m_cameFrom, .ref m_cameBy, .ref m_steps, .ref m_sides, .int 0, .int (-1), .ref m_next, .ref m_cube, .ref m_ways]))] H := hP
  have hD : va_D (fun q : Nat => s.heap.size ≤ q) [(m0, .inr (11, [.int 0, .ref m_tape, .int 0, .int 0, .int 0, .ref m_read, .int 0, .int 0, .int 0, .ref m_tets, .int 0, .int 0, .int 0, .int 0, .int 0, .int 0, .int 0, .int 0, .ref m_primes, .ref m_often, .ref m_normal, .ref m_termM, .ref m_termP, .ref m_termV, .ref m_sumFrom, .ref m_sumMany, .int 0, .int 0, .int 0, .int 0, .ref m_part, .ref m_fair, .ref m_heap, .ref m_pickTet, .ref m_pickEdge, .ref m_base, .ref m_baseM, .ref m_baseP, .ref m_rowsOf, .int 0, .ref m_grid, .ref m_times, .ref m_boxes, .ref m_cameFrom, .ref m_cameBy, .ref m_steps, .ref m_sides, .int 0, .int (-1), .ref m_next, .ref m_cube, .ref m_ways]))] := hD
  have hr_3 := hw
  obtain rfl : r_3 = (-1) := hr_3
  refine lv_aload_n hx hb dL_law_1171 rfl (lv_at hl 2 rfl) ?_
  refine lv_aload_n hx hb dL_law_1172 rfl (lv_at hl 4 rfl) ?_
  refine lv_iload hx hb dL_law_1173 (lv_at hl 0 rfl) ?_
  refine lv_iconst (v := 1) hx hb dL_law_1175 (by decide) ?_
  refine lv_iadd hx hb dL_law_1176 ?_
  refine lv_topi (fun x_4 ex_4 => ?_)
  obtain rfl : x_4 = 1 := ex_4.trans (by first | rfl | decide)
  refine va_sld hx hb hX hbl hbA hS (by show ¬ (_ ∨ _); decide) dL_law_1177 ?_
  refine lv_topi (fun x_5 ex_5 => ?_)
  obtain rfl : y1 = x_5 := hy1.trans ex_5.symm
  have hPc := hP.sub (ws' := [(m0, .inr (11, [.int 0, .ref m_tape, .int 0, .int 0, .int 0, .ref m_read, .int 0, .int 0, .int 0, .ref m_tets, .int 0, .int 0, .int 0, .int 0, .int 0, .int 0, .int 0, .int 0, .ref m_primes, .ref m_often, .ref m_normal, .ref m_termM, .ref m_termP, .ref m_termV, .ref m_sumFrom, .ref m_sumMany, .int 0, .int 0, .int 0, .int 0, .ref m_part, .ref m_fair, .ref m_heap, .ref m_pickTet, .ref m_pickEdge, .ref m_base, .ref m_baseM, .ref m_baseP, .ref m_rowsOf, .int 0, .ref m_grid, .ref m_times, .ref m_boxes, .ref m_cameFrom, .ref m_cameBy, .ref m_steps, .ref m_sides, .int 0, .int (-1), .ref m_next, .ref m_cube, .ref m_ways]))]) [0] rfl
  have hDc := hD.sub (ws' := [(m0, .inr (11, [.int 0, .ref m_tape, .int 0, .int 0, .int 0, .ref m_read, .int 0, .int 0, .int 0, .ref m_tets, .int 0, .int 0, .int 0, .int 0, .int 0, .int 0, .int 0, .int 0, .ref m_primes, .ref m_often, .ref m_normal, .ref m_termM, .ref m_termP, .ref m_termV, .ref m_sumFrom, .ref m_sumMany, .int 0, .int 0, .int 0, .int 0, .ref m_part, .ref m_fair, .ref m_heap, .ref m_pickTet, .ref m_pickEdge, .ref m_base, .ref m_baseM, .ref m_baseP, .ref m_rowsOf, .int 0, .ref m_grid, .ref m_times, .ref m_boxes, .ref m_cameFrom, .ref m_cameBy, .ref m_steps, .ref m_sides, .int 0, .int (-1), .ref m_next, .ref m_cube, .ref m_ways]))]) [0] (by decide) rfl
  have hFc := va_free (wc := [(m0, .inr (11, [.int 0, .ref m_tape, .int 0, .int 0, .int 0, .ref m_read, .int 0, .int 0, .int 0, .ref m_tets, .int 0, .int 0, .int 0, .int 0, .int 0, .int 0, .int 0, .int 0, .ref m_primes, .ref m_often, .ref m_normal, .ref m_termM, .ref m_termP, .ref m_termV, .ref m_sumFrom, .ref m_sumMany, .int 0, .int 0, .int 0, .int 0, .ref m_part, .ref m_fair, .ref m_heap, .ref m_pickTet, .ref m_pickEdge, .ref m_base, .ref m_baseM, .ref m_baseP, .ref m_rowsOf, .int 0, .ref m_grid, .ref m_times, .ref m_boxes, .ref m_cameFrom, .ref m_cameBy, .ref m_steps, .ref m_sides, .int 0, .int (-1), .ref m_next, .ref m_cube, .ref m_ways]))]) hD hS hA [0] rfl
  refine va_calli (va_runV (As := [.int y1]) (rest := [.int (-1)]) ⟨hx, hb, hml, hown, hts⟩ (c_X11_points l dC dI cB cI cJ H.size m0 m_tape m_read m_tets m_primes m_often m_normal m_termM m_termP m_termV m_sumFrom m_sumMany m_part m_fair m_heap m_pickTet m_pickEdge m_base m_baseM m_baseP m_rowsOf m_grid m_times m_boxes m_cameFrom m_cameBy m_steps m_sides m_next m_cube m_ways y1) (cwV 1 hts hL_law_X11_points rfl rfl rfl (by decide +kernel) ⟨Nat.le_of_ble_eq_true rfl, Nat.le_of_ble_eq_true rfl⟩) ⟨fun a U g mk q => by obtain ⟨q0, q1, qP, qK, qD⟩ := q; exact ⟨q0, q1, qP, va_K.moved (u := U) (U := U.calling g mk a) (Vm.Alike.refl U.vm) qK, qD⟩, va_recv hK hP (ci := 11) (q0 := 0) rfl rfl, fun U hU hW => ⟨rfl, by rw [hU], by rw [hU]; exact hPc, va_K.moved hW.alike hK, hDc.weaken (fun _ _ _ _ => trivial)⟩⟩ rfl rfl hl.1 rfl (lv_room (Nat.le_of_ble_eq_true rfl)) dL_law_1178 ⟨Nat.le_of_ble_eq_true rfl, Nat.le_of_ble_eq_true rfl⟩) hS (fun q _ h => hFc q h) hFc (fun r_6 u t H1 locs ht hvm hw hB hz1 hk1 hS => ?_)
  have hP1 : va_P (dC, dI) vwCl [] H1 := fun k q h => by simp at h
  have hD1 : va_D (va_A [(m0, .inr (11, [.int 0, .ref m_tape, .int 0, .int 0, .int 0, .ref m_read, .int 0, .int 0, .int 0, .ref m_tets, .int 0, .int 0, .int 0, .int 0, .int 0, .int 0, .int 0, .int 0, .ref m_primes, .ref m_often, .ref m_normal, .ref m_termM, .ref m_termP, .ref m_termV, .ref m_sumFrom, .ref m_sumMany, .int 0, .int 0, .int 0, .int 0, .ref m_part, .ref m_fair, .ref m_heap, .ref m_pickTet, .ref m_pickEdge, .ref m_base, .ref m_baseM, .ref m_baseP, .ref m_rowsOf, .int 0, .ref m_grid, .ref m_times, .ref m_boxes, .ref m_cameFrom, .ref m_cameBy, .ref m_steps, .ref m_sides, .int 0, .int (-1), .ref m_next, .ref m_cube, .ref m_ways]))] H.size) [] := ⟨fun i j p q h => by simp at h, fun k q h => by simp at h⟩
  obtain ⟨hP, hD⟩ := va_join (wr := []) (w1 := []) hP hD [0] [] rfl rfl (by decide) (by decide) hk1 hFc hP1 hD1
  generalize H1 = H at hP hS ⊢
  have hP : va_P (dC, dI) vwCl [] H := hP
  have hD : va_D (fun q : Nat => s.heap.size ≤ q) [] := hD
  have hr_6 := hw
  obtain rfl : r_6 = (-1) := hr_6
  refine lv_icmp_eq (tgt := 1744) hx hb dL_law_1181 (by decide) (fun _ => ?_) (fun c => absurd (by decide) c)
  refine W.widen (k := 600002) (n := 7302232) (Nat.le_of_ble_eq_true rfl) (Nat.le_of_ble_eq_true rfl) ?_
  exact la_end l C0 H _ hS ls hl
set_option maxHeartbeats 8000000 in
set_option maxRecDepth 100000 in
theorem la_23 {p : Program} {e : Env} {s : State} {m : MethodId} {below : List Frame} {meth : Method} {c : Code} (l : Launch) {b : Nat} {xs : Nat → Int32} (C0 : lw_At p s m meth c b 7 xs) (dC : Nat → ClassId) (dI : Nat → Nat → Nat) (cB cI cJ : ClassId) {x0 xTape xReader xBag xBld xAng xSum xPik xHan xIns xShr xSta xTur bC bS bX bW bP m0 m_tape m_read m_tets m_primes m_often m_normal m_termM m_termP m_termV m_sumFrom m_sumMany m_part m_fair m_heap m_pickTet m_pickEdge m_base m_baseM m_baseP m_rowsOf m_grid m_times m_boxes m_cameFrom m_cameBy m_steps m_sides m_next m_cube m_ways o0 : Nat} (H : Heap) (locs : List Loc) (hK : va_K (dC, dI) vwCl [(cB, .byte), (cI, .int), (cJ, .long)] s) (hP : va_P (dC, dI) vwCl [(x0, .inr (10, [.ref xTape, .ref xReader, .ref xBag, .ref xBld, .ref xAng, .ref xSum, .ref xPik, .int 0, .ref xHan, .ref xIns, .ref xShr, .ref xSta, .ref xTur])), (xBag, .inr (1, [.ref bC, .ref bS, .ref bX, .ref bW, .ref bP, .int 0])), (m0, .inr (11, [.int 0, .ref m_tape, .int 0, .int 0, .int 0, .ref m_read, .int 0, .int 0, .int 0, .ref m_tets, .int 0, .int 0, .int 0, .int 0, .int 0, .int 0, .int 0, .int 0, .ref m_primes, .ref m_often, .ref m_normal, .ref m_termM, .ref m_termP, .ref m_termV, .ref m_sumFrom, .ref m_sumMany, .int 0, .int 0, .int 0, .int 0, .ref m_part, .ref m_fair, .ref m_heap, .ref m_pickTet, .ref m_pickEdge, .ref m_base, .ref m_baseM, .ref m_baseP, .ref m_rowsOf, .int 0, .ref m_grid, .ref m_times, .ref m_boxes, .ref m_cameFrom, .ref m_cameBy, .ref m_steps, .ref m_sides, .int 0, .int (-1), .ref m_next, .ref m_cube, .ref m_ways]))] H) (hD : va_D (fun q : Nat => s.heap.size ≤ q) [(x0, .inr (10, [.ref xTape, .ref xReader, .ref xBag, .ref xBld, .ref xAng, .ref xSum, .ref xPik, .int 0, .ref xHan, .ref xIns, .ref xShr, .ref xSta, .ref xTur])), (xBag, .inr (1, [.ref bC, .ref bS, .ref bX, .ref bW, .ref bP, .int 0])), (m0, .inr (11, [.int 0, .ref m_tape, .int 0, .int 0, .int 0, .ref m_read, .int 0, .int 0, .int 0, .ref m_tets, .int 0, .int 0, .int 0, .int 0, .int 0, .int 0, .int 0, .int 0, .ref m_primes, .ref m_often, .ref m_normal, .ref m_termM, .ref m_termP, .ref m_termV, .ref m_sumFrom, .ref m_sumMany, .int 0, .int 0, .int 0, .int 0, .ref m_part, .ref m_fair, .ref m_heap, .ref m_pickTet, .ref m_pickEdge, .ref m_base, .ref m_baseM, .ref m_baseP, .ref m_rowsOf, .int 0, .ref m_grid, .ref m_times, .ref m_boxes, .ref m_cameFrom, .ref m_cameBy, .ref m_steps, .ref m_sides, .int 0, .int (-1), .ref m_next, .ref m_cube, .ref m_ways]))]) (hS : va_S (fun q : Nat => s.heap.size ≤ q) s.heap H locs) (ls : Array Slot) (hl : lv_has ls 7 [(4, .int 0), (3, .ref o0), (2, .ref m0), (1, .ref x0), (0, .ref b)]) : W p l e room_1 s m #[Value.ref b] below meth c H locs 82 28049 (lw_Z below #[Value.ref b] s) (F0 m 1186 ls []) := by
  obtain ⟨hx, hb, hr, hml, hown, htb, hX, hbl, hlocks, hgv⟩ := id C0
  have hts := htb
  have hbA : ¬ (fun q : Nat => s.heap.size ≤ q) b := Nat.not_le.mpr hbl
  have hA : ∀ q : Nat, s.heap.size ≤ q → (fun q : Nat => s.heap.size ≤ q) q := fun _ h => h
  obtain ⟨y1, hy1⟩ : ∃ y : Int32, y = xs (1 : Int32).toNatClampNeg := ⟨_, rfl⟩
  obtain ⟨y2, hy2⟩ : ∃ y : Int32, y = xs (2 : Int32).toNatClampNeg := ⟨_, rfl⟩
  refine lv_aload_n hx hb dL_law_1186 rfl (lv_at hl 3 rfl) ?_
  refine lv_aload_n hx hb dL_law_1187 rfl (lv_at hl 4 rfl) ?_
  refine lv_iload hx hb dL_law_1188 (lv_at hl 0 rfl) ?_
  refine lv_iconst (v := 1) hx hb dL_law_1190 (by decide) ?_
  refine lv_iadd hx hb dL_law_1191 ?_
  refine lv_topi (fun x_1 ex_1 => ?_)
  obtain rfl : x_1 = 1 := ex_1.trans (by first | rfl | decide)
  refine va_sld hx hb hX hbl hbA hS (by show ¬ (_ ∨ _); decide) dL_law_1192 ?_
  refine lv_topi (fun x_2 ex_2 => ?_)
  obtain rfl : y1 = x_2 := hy1.trans ex_2.symm
  refine lv_aload_n hx hb dL_law_1193 rfl (lv_at hl 4 rfl) ?_
  refine lv_iload hx hb dL_law_1194 (lv_at hl 0 rfl) ?_
  refine lv_iconst (v := 2) hx hb dL_law_1196 (by decide) ?_
  refine lv_iadd hx hb dL_law_1197 ?_
  refine lv_topi (fun x_3 ex_3 => ?_)
  obtain rfl : x_3 = 2 := ex_3.trans (by first | rfl | decide)
  refine va_sld hx hb hX hbl hbA hS (by show ¬ (_ ∨ _); decide) dL_law_1198 ?_
  refine lv_topi (fun x_4 ex_4 => ?_)
  obtain rfl : y2 = x_4 := hy2.trans ex_4.symm
  have hPc := hP.sub (ws' := [(x0, .inr (10, [.ref xTape, .ref xReader, .ref xBag, .ref xBld, .ref xAng, .ref xSum, .ref xPik, .int 0, .ref xHan, .ref xIns, .ref xShr, .ref xSta, .ref xTur])), (xBag, .inr (1, [.ref bC, .ref bS, .ref bX, .ref bW, .ref bP, .int 0]))]) [0, 1] rfl
  have hDc := hD.sub (ws' := [(x0, .inr (10, [.ref xTape, .ref xReader, .ref xBag, .ref xBld, .ref xAng, .ref xSum, .ref xPik, .int 0, .ref xHan, .ref xIns, .ref xShr, .ref xSta, .ref xTur])), (xBag, .inr (1, [.ref bC, .ref bS, .ref bX, .ref bW, .ref bP, .int 0]))]) [0, 1] (by decide) rfl
  have hFc := va_free (wc := [(x0, .inr (10, [.ref xTape, .ref xReader, .ref xBag, .ref xBld, .ref xAng, .ref xSum, .ref xPik, .int 0, .ref xHan, .ref xIns, .ref xShr, .ref xSta, .ref xTur])), (xBag, .inr (1, [.ref bC, .ref bS, .ref bX, .ref bW, .ref bP, .int 0]))]) hD hS hA [0, 1] rfl
  refine va_calli (va_runV (As := [.int y1, .int y2]) (rest := []) ⟨hx, hb, hml, hown, hts⟩ (c_X10_fairest l dC dI cB cI cJ H.size x0 xTape xReader xBag xBld xAng xSum xPik xHan xIns xShr xSta xTur bC bS bX bW bP y1 y2) (cwV 2 hts hL_law_X10_fairest rfl rfl rfl (by decide +kernel) ⟨Nat.le_of_ble_eq_true rfl, Nat.le_of_ble_eq_true rfl⟩) ⟨fun a U g mk q => by obtain ⟨q0, q1, qP, qK, qD⟩ := q; exact ⟨q0, q1, qP, va_K.moved (u := U) (U := U.calling g mk a) (Vm.Alike.refl U.vm) qK, qD⟩, va_recv hK hP (ci := 10) (q0 := 0) rfl rfl, fun U hU hW => ⟨rfl, by rw [hU], by rw [hU]; exact hPc, va_K.moved hW.alike hK, hDc.weaken (fun _ _ _ _ => trivial)⟩⟩ rfl rfl hl.1 rfl (lv_room (Nat.le_of_ble_eq_true rfl)) dL_law_1199 ⟨Nat.le_of_ble_eq_true rfl, Nat.le_of_ble_eq_true rfl⟩) hS (fun q _ h => hFc q h) hFc (fun r_5 u t H1 locs ht hvm hw hB hz1 hk1 hS => ?_)
  have hP1 : va_P (dC, dI) vwCl [] H1 := fun k q h => by simp at h
  have hD1 : va_D (va_A [(x0, .inr (10, [.ref xTape, .ref xReader, .ref xBag, .ref xBld, .ref xAng, .ref xSum, .ref xPik, .int 0, .ref xHan, .ref xIns, .ref xShr, .ref xSta, .ref xTur])), (xBag, .inr (1, [.ref bC, .ref bS, .ref bX, .ref bW, .ref bP, .int 0]))] H.size) [] := ⟨fun i j p q h => by simp at h, fun k q h => by simp at h⟩
  obtain ⟨hP, hD⟩ := va_join (wr := [(m0, .inr (11, [.int 0, .ref m_tape, .int 0, .int 0, .int 0, .ref m_read, .int 0, .int 0, .int 0, .ref m_tets, .int 0, .int 0, .int 0, .int 0, .int 0, .int 0, .int 0, .int 0, .ref m_primes, .ref m_often, .ref m_normal, .ref m_termM, .ref m_termP, .ref m_termV, .ref m_sumFrom, .ref m_sumMany, .int 0, .int 0, .int 0, .int 0, .ref m_part, .ref m_fair, .ref m_heap, .ref m_pickTet, .ref m_pickEdge, .ref m_base, .ref m_baseM, .ref m_baseP, .ref m_rowsOf, .int 0, .ref m_grid, .ref m_times, .ref m_boxes, .ref m_cameFrom, .ref m_cameBy, .ref m_steps, .ref m_sides, .int 0, .int (-1), .ref m_next, .ref m_cube, .ref m_ways]))]) (w1 := []) hP hD [0, 1] [2] rfl rfl (by decide) (by decide) hk1 hFc hP1 hD1
  generalize H1 = H at hP hS ⊢
  have hP : va_P (dC, dI) vwCl [(m0, .inr (11, [.int 0, .ref m_tape, .int 0, .int 0, .int 0, .ref m_read, .int 0, .int 0, .int 0, .ref m_tets, .int 0, .int 0, .int 0, .int 0, .int 0, .int 0, .int 0, .int 0, .ref m_primes, .ref m_often, .ref m_normal, .ref m_termM, .ref m_termP, .ref m_termV, .ref m_sumFrom, .ref m_sumMany, .int 0, .int 0, .int 0, .int 0, .ref m_part, .ref m_fair, .ref m_heap, .ref m_pickTet, .ref m_pickEdge, .ref m_base, .ref m_baseM, .ref m_baseP, .ref m_rowsOf, .int 0, .ref m_grid, .ref m_times, .ref m_boxes, .ref m_cameFrom, .ref m_cameBy, .ref m_steps, .ref m_sides, .int 0, .int (-1), .ref m_next, .ref m_cube, .ref m_ways]))] H := hP
  have hD : va_D (fun q : Nat => s.heap.size ≤ q) [(m0, .inr (11, [.int 0, .ref m_tape, .int 0, .int 0, .int 0, .ref m_read, .int 0, .int 0, .int 0, .ref m_tets, .int 0, .int 0, .int 0, .int 0, .int 0, .int 0, .int 0, .int 0, .ref m_primes, .ref m_often, .ref m_normal, .ref m_termM, .ref m_termP, .ref m_termV, .ref m_sumFrom, .ref m_sumMany, .int 0, .int 0, .int 0, .int 0, .ref m_part, .ref m_fair, .ref m_heap, .ref m_pickTet, .ref m_pickEdge, .ref m_base, .ref m_baseM, .ref m_baseP, .ref m_rowsOf, .int 0, .ref m_grid, .ref m_times, .ref m_boxes, .ref m_cameFrom, .ref m_cameBy, .ref m_steps, .ref m_sides, .int 0, .int (-1), .ref m_next, .ref m_cube, .ref m_ways]))] := hD
  have hr_5 := hw
  obtain rfl : r_5 = (-1000000) := hr_5
  refine lv_aload_n hx hb dL_law_1202 rfl (lv_at hl 2 rfl) ?_
  refine lv_aload_n hx hb dL_law_1203 rfl (lv_at hl 4 rfl) ?_
  refine lv_iload hx hb dL_law_1204 (lv_at hl 0 rfl) ?_
  refine lv_iconst (v := 1) hx hb dL_law_1206 (by decide) ?_
  refine lv_iadd hx hb dL_law_1207 ?_
  refine lv_topi (fun x_6 ex_6 => ?_)
  obtain rfl : x_6 = 1 := ex_6.trans (by first | rfl | decide)
  refine va_sld hx hb hX hbl hbA hS (by show ¬ (_ ∨ _); decide) dL_law_1208 ?_
  refine lv_topi (fun x_7 ex_7 => ?_)
  obtain rfl : y1 = x_7 := hy1.trans ex_7.symm
  refine lv_aload_n hx hb dL_law_1209 rfl (lv_at hl 4 rfl) ?_
  refine lv_iload hx hb dL_law_1210 (lv_at hl 0 rfl) ?_
  refine lv_iconst (v := 2) hx hb dL_law_1212 (by decide) ?_
  refine lv_iadd hx hb dL_law_1213 ?_
  refine lv_topi (fun x_8 ex_8 => ?_)
  obtain rfl : x_8 = 2 := ex_8.trans (by first | rfl | decide)
  refine va_sld hx hb hX hbl hbA hS (by show ¬ (_ ∨ _); decide) dL_law_1214 ?_
  refine lv_topi (fun x_9 ex_9 => ?_)
  obtain rfl : y2 = x_9 := hy2.trans ex_9.symm
  have hPc := hP.sub (ws' := [(m0, .inr (11, [.int 0, .ref m_tape, .int 0, .int 0, .int 0, .ref m_read, .int 0, .int 0, .int 0, .ref m_tets, .int 0, .int 0, .int 0, .int 0, .int 0, .int 0, .int 0, .int 0, .ref m_primes, .ref m_often, .ref m_normal, .ref m_termM, .ref m_termP, .ref m_termV, .ref m_sumFrom, .ref m_sumMany, .int 0, .int 0, .int 0, .int 0, .ref m_part, .ref m_fair, .ref m_heap, .ref m_pickTet, .ref m_pickEdge, .ref m_base, .ref m_baseM, .ref m_baseP, .ref m_rowsOf, .int 0, .ref m_grid, .ref m_times, .ref m_boxes, .ref m_cameFrom, .ref m_cameBy, .ref m_steps, .ref m_sides, .int 0, .int (-1), .ref m_next, .ref m_cube, .ref m_ways]))]) [0] rfl
  have hDc := hD.sub (ws' := [(m0, .inr (11, [.int 0, .ref m_tape, .int 0, .int 0, .int 0, .ref m_read, .int 0, .int 0, .int 0, .ref m_tets, .int 0, .int 0, .int 0, .int 0, .int 0, .int 0, .int 0, .int 0, .ref m_primes, .ref m_often, .ref m_normal, .ref m_termM, .ref m_termP, .ref m_termV, .ref m_sumFrom, .ref m_sumMany, .int 0, .int 0, .int 0, .int 0, .ref m_part, .ref m_fair, .ref m_heap, .ref m_pickTet, .ref m_pickEdge, .ref m_base, .ref m_baseM, .ref m_baseP, .ref m_rowsOf, .int 0, .ref m_grid, .ref m_times, .ref m_boxes, .ref m_cameFrom, .ref m_cameBy, .ref m_steps, .ref m_sides, .int 0, .int (-1), .ref m_next, .ref m_cube, .ref m_ways]))]) [0] (by decide) rfl
  have hFc := va_free (wc := [(m0, .inr (11, [.int 0, .ref m_tape, .int 0, .int 0, .int 0, .ref m_read, .int 0, .int 0, .int 0, .ref m_tets, .int 0, .int 0, .int 0, .int 0, .int 0, .int 0, .int 0, .int 0, .ref m_primes, .ref m_often, .ref m_normal, .ref m_termM, .ref m_termP, .ref m_termV, .ref m_sumFrom, .ref m_sumMany, .int 0, .int 0, .int 0, .int 0, .ref m_part, .ref m_fair, .ref m_heap, .ref m_pickTet, .ref m_pickEdge, .ref m_base, .ref m_baseM, .ref m_baseP, .ref m_rowsOf, .int 0, .ref m_grid, .ref m_times, .ref m_boxes, .ref m_cameFrom, .ref m_cameBy, .ref m_steps, .ref m_sides, .int 0, .int (-1), .ref m_next, .ref m_cube, .ref m_ways]))]) hD hS hA [0] rfl
  refine va_calli (va_runV (As := [.int y1, .int y2]) (rest := [.int (-1000000)]) ⟨hx, hb, hml, hown, hts⟩ (c_X11_fairest l dC dI cB cI cJ H.size m0 m_tape m_read m_tets m_primes m_often m_normal m_termM m_termP m_termV m_sumFrom m_sumMany m_part m_fair m_heap m_pickTet m_pickEdge m_base m_baseM m_baseP m_rowsOf m_grid m_times m_boxes m_cameFrom m_cameBy m_steps m_sides m_next m_cube m_ways y1 y2) (cwV 2 hts hL_law_X11_fairest rfl rfl rfl (by decide +kernel) ⟨Nat.le_of_ble_eq_true rfl, Nat.le_of_ble_eq_true rfl⟩) ⟨fun a U g mk q => by obtain ⟨q0, q1, qP, qK, qD⟩ := q; exact ⟨q0, q1, qP, va_K.moved (u := U) (U := U.calling g mk a) (Vm.Alike.refl U.vm) qK, qD⟩, va_recv hK hP (ci := 11) (q0 := 0) rfl rfl, fun U hU hW => ⟨rfl, by rw [hU], by rw [hU]; exact hPc, va_K.moved hW.alike hK, hDc.weaken (fun _ _ _ _ => trivial)⟩⟩ rfl rfl hl.1 rfl (lv_room (Nat.le_of_ble_eq_true rfl)) dL_law_1215 ⟨Nat.le_of_ble_eq_true rfl, Nat.le_of_ble_eq_true rfl⟩) hS (fun q _ h => hFc q h) hFc (fun r_10 u t H1 locs ht hvm hw hB hz1 hk1 hS => ?_)
  have hP1 : va_P (dC, dI) vwCl [] H1 := fun k q h => by simp at h
  have hD1 : va_D (va_A [(m0, .inr (11, [.int 0, .ref m_tape, .int 0, .int 0, .int 0, .ref m_read, .int 0, .int 0, .int 0, .ref m_tets, .int 0, .int 0, .int 0, .int 0, .int 0, .int 0, .int 0, .int 0, .ref m_primes, .ref m_often, .ref m_normal, .ref m_termM, .ref m_termP, .ref m_termV, .ref m_sumFrom, .ref m_sumMany, .int 0, .int 0, .int 0, .int 0, .ref m_part, .ref m_fair, .ref m_heap, .ref m_pickTet, .ref m_pickEdge, .ref m_base, .ref m_baseM, .ref m_baseP, .ref m_rowsOf, .int 0, .ref m_grid, .ref m_times, .ref m_boxes, .ref m_cameFrom, .ref m_cameBy, .ref m_steps, .ref m_sides, .int 0, .int (-1), .ref m_next, .ref m_cube, .ref m_ways]))] H.size) [] := ⟨fun i j p q h => by simp at h, fun k q h => by simp at h⟩
  obtain ⟨hP, hD⟩ := va_join (wr := []) (w1 := []) hP hD [0] [] rfl rfl (by decide) (by decide) hk1 hFc hP1 hD1
  generalize H1 = H at hP hS ⊢
  have hP : va_P (dC, dI) vwCl [] H := hP
  have hD : va_D (fun q : Nat => s.heap.size ≤ q) [] := hD
  have hr_10 := hw
  obtain rfl : r_10 = (-1000000) := hr_10
  refine lv_icmp_eq (tgt := 1744) hx hb dL_law_1218 (by decide) (fun _ => ?_) (fun c => absurd (by decide) c)
  refine W.widen (k := 600002) (n := 7302232) (Nat.le_of_ble_eq_true rfl) (Nat.le_of_ble_eq_true rfl) ?_
  exact la_end l C0 H _ hS ls hl
set_option maxHeartbeats 8000000 in
set_option maxRecDepth 100000 in
theorem la_24 {p : Program} {e : Env} {s : State} {m : MethodId} {below : List Frame} {meth : Method} {c : Code} (l : Launch) {b : Nat} {xs : Nat → Int32} (C0 : lw_At p s m meth c b 7 xs) (dC : Nat → ClassId) (dI : Nat → Nat → Nat) (cB cI cJ : ClassId) {x0 xTape xReader xBag xBld xAng xSum xPik xHan xIns xShr xSta xTur bC bS bX bW bP m0 m_tape m_read m_tets m_primes m_often m_normal m_termM m_termP m_termV m_sumFrom m_sumMany m_part m_fair m_heap m_pickTet m_pickEdge m_base m_baseM m_baseP m_rowsOf m_grid m_times m_boxes m_cameFrom m_cameBy m_steps m_sides m_next m_cube m_ways o0 : Nat} (H : Heap) (locs : List Loc) (hK : va_K (dC, dI) vwCl [(cB, .byte), (cI, .int), (cJ, .long)] s) (hP : va_P (dC, dI) vwCl [(x0, .inr (10, [.ref xTape, .ref xReader, .ref xBag, .ref xBld, .ref xAng, .ref xSum, .ref xPik, .int 0, .ref xHan, .ref xIns, .ref xShr, .ref xSta, .ref xTur])), (xBag, .inr (1, [.ref bC, .ref bS, .ref bX, .ref bW, .ref bP, .int 0])), (m0, .inr (11, [.int 0, .ref m_tape, .int 0, .int 0, .int 0, .ref m_read, .int 0, .int 0, .int 0, .ref m_tets, .int 0, .int 0, .int 0, .int 0, .int 0, .int 0, .int 0, .int 0, .ref m_primes, .ref m_often, .ref m_normal, .ref m_termM, .ref m_termP, .ref m_termV, .ref m_sumFrom, .ref m_sumMany, .int 0, .int 0, .int 0, .int 0, .ref m_part, .ref m_fair, .ref m_heap, .ref m_pickTet, .ref m_pickEdge, .ref m_base, .ref m_baseM, .ref m_baseP, .ref m_rowsOf, .int 0, .ref m_grid, .ref m_times, .ref m_boxes, .ref m_cameFrom, .ref m_cameBy, .ref m_steps, .ref m_sides, .int 0, .int (-1), .ref m_next, .ref m_cube, .ref m_ways]))] H) (hD : va_D (fun q : Nat => s.heap.size ≤ q) [(x0, .inr (10, [.ref xTape, .ref xReader, .ref xBag, .ref xBld, .ref xAng, .ref xSum, .ref xPik, .int 0, .ref xHan, .ref xIns, .ref xShr, .ref xSta, .ref xTur])), (xBag, .inr (1, [.ref bC, .ref bS, .ref bX, .ref bW, .ref bP, .int 0])), (m0, .inr (11, [.int 0, .ref m_tape, .int 0, .int 0, .int 0, .ref m_read, .int 0, .int 0, .int 0, .ref m_tets, .int 0, .int 0, .int 0, .int 0, .int 0, .int 0, .int 0, .int 0, .ref m_primes, .ref m_often, .ref m_normal, .ref m_termM, .ref m_termP, .ref m_termV, .ref m_sumFrom, .ref m_sumMany, .int 0, .int 0, .int 0, .int 0, .ref m_part, .ref m_fair, .ref m_heap, .ref m_pickTet, .ref m_pickEdge, .ref m_base, .ref m_baseM, .ref m_baseP, .ref m_rowsOf, .int 0, .ref m_grid, .ref m_times, .ref m_boxes, .ref m_cameFrom, .ref m_cameBy, .ref m_steps, .ref m_sides, .int 0, .int (-1), .ref m_next, .ref m_cube, .ref m_ways]))]) (hS : va_S (fun q : Nat => s.heap.size ≤ q) s.heap H locs) (ls : Array Slot) (hl : lv_has ls 7 [(4, .int 0), (3, .ref o0), (2, .ref m0), (1, .ref x0), (0, .ref b)]) : W p l e room_1 s m #[Value.ref b] below meth c H locs 82 28049 (lw_Z below #[Value.ref b] s) (F0 m 1223 ls []) := by
  obtain ⟨hx, hb, hr, hml, hown, htb, hX, hbl, hlocks, hgv⟩ := id C0
  have hts := htb
  have hbA : ¬ (fun q : Nat => s.heap.size ≤ q) b := Nat.not_le.mpr hbl
  have hA : ∀ q : Nat, s.heap.size ≤ q → (fun q : Nat => s.heap.size ≤ q) q := fun _ h => h
  obtain ⟨y1, hy1⟩ : ∃ y : Int32, y = xs (1 : Int32).toNatClampNeg := ⟨_, rfl⟩
  obtain ⟨y2, hy2⟩ : ∃ y : Int32, y = xs (2 : Int32).toNatClampNeg := ⟨_, rfl⟩
  refine lv_aload_n hx hb dL_law_1223 rfl (lv_at hl 3 rfl) ?_
  refine lv_aload_n hx hb dL_law_1224 rfl (lv_at hl 4 rfl) ?_
  refine lv_iload hx hb dL_law_1225 (lv_at hl 0 rfl) ?_
  refine lv_iconst (v := 1) hx hb dL_law_1227 (by decide) ?_
  refine lv_iadd hx hb dL_law_1228 ?_
  refine lv_topi (fun x_1 ex_1 => ?_)
  obtain rfl : x_1 = 1 := ex_1.trans (by first | rfl | decide)
  refine va_sld hx hb hX hbl hbA hS (by show ¬ (_ ∨ _); decide) dL_law_1229 ?_
  refine lv_topi (fun x_2 ex_2 => ?_)
  obtain rfl : y1 = x_2 := hy1.trans ex_2.symm
  refine lv_aload_n hx hb dL_law_1230 rfl (lv_at hl 4 rfl) ?_
  refine lv_iload hx hb dL_law_1231 (lv_at hl 0 rfl) ?_
  refine lv_iconst (v := 2) hx hb dL_law_1233 (by decide) ?_
  refine lv_iadd hx hb dL_law_1234 ?_
  refine lv_topi (fun x_3 ex_3 => ?_)
  obtain rfl : x_3 = 2 := ex_3.trans (by first | rfl | decide)
  refine va_sld hx hb hX hbl hbA hS (by show ¬ (_ ∨ _); decide) dL_law_1235 ?_
  refine lv_topi (fun x_4 ex_4 => ?_)
  obtain rfl : y2 = x_4 := hy2.trans ex_4.symm
  have hPc := hP.sub (ws' := [(x0, .inr (10, [.ref xTape, .ref xReader, .ref xBag, .ref xBld, .ref xAng, .ref xSum, .ref xPik, .int 0, .ref xHan, .ref xIns, .ref xShr, .ref xSta, .ref xTur])), (xBag, .inr (1, [.ref bC, .ref bS, .ref bX, .ref bW, .ref bP, .int 0]))]) [0, 1] rfl
  have hDc := hD.sub (ws' := [(x0, .inr (10, [.ref xTape, .ref xReader, .ref xBag, .ref xBld, .ref xAng, .ref xSum, .ref xPik, .int 0, .ref xHan, .ref xIns, .ref xShr, .ref xSta, .ref xTur])), (xBag, .inr (1, [.ref bC, .ref bS, .ref bX, .ref bW, .ref bP, .int 0]))]) [0, 1] (by decide) rfl
  have hFc := va_free (wc := [(x0, .inr (10, [.ref xTape, .ref xReader, .ref xBag, .ref xBld, .ref xAng, .ref xSum, .ref xPik, .int 0, .ref xHan, .ref xIns, .ref xShr, .ref xSta, .ref xTur])), (xBag, .inr (1, [.ref bC, .ref bS, .ref bX, .ref bW, .ref bP, .int 0]))]) hD hS hA [0, 1] rfl
  refine va_calli (va_runV (As := [.int y1, .int y2]) (rest := []) ⟨hx, hb, hml, hown, hts⟩ (c_X10_cutsTo l dC dI cB cI cJ H.size x0 xTape xReader xBag xBld xAng xSum xPik xHan xIns xShr xSta xTur bC bS bX bW bP y1 y2) (cwV 2 hts hL_law_X10_cutsTo rfl rfl rfl (by decide +kernel) ⟨Nat.le_of_ble_eq_true rfl, Nat.le_of_ble_eq_true rfl⟩) ⟨fun a U g mk q => by obtain ⟨q0, q1, qP, qK, qD⟩ := q; exact ⟨q0, q1, qP, va_K.moved (u := U) (U := U.calling g mk a) (Vm.Alike.refl U.vm) qK, qD⟩, va_recv hK hP (ci := 10) (q0 := 0) rfl rfl, fun U hU hW => ⟨rfl, by rw [hU], by rw [hU]; exact hPc, va_K.moved hW.alike hK, hDc.weaken (fun _ _ _ _ => trivial)⟩⟩ rfl rfl hl.1 rfl (lv_room (Nat.le_of_ble_eq_true rfl)) dL_law_1236 ⟨Nat.le_of_ble_eq_true rfl, Nat.le_of_ble_eq_true rfl⟩) hS (fun q _ h => hFc q h) hFc (fun r_5 u t H1 locs ht hvm hw hB hz1 hk1 hS => ?_)
  have hP1 : va_P (dC, dI) vwCl [] H1 := fun k q h => by simp at h
  have hD1 : va_D (va_A [(x0, .inr (10, [.ref xTape, .ref xReader, .ref xBag, .ref xBld, .ref xAng, .ref xSum, .ref xPik, .int 0, .ref xHan, .ref xIns, .ref xShr, .ref xSta, .ref xTur])), (xBag, .inr (1, [.ref bC, .ref bS, .ref bX, .ref bW, .ref bP, .int 0]))] H.size) [] := ⟨fun i j p q h => by simp at h, fun k q h => by simp at h⟩
  obtain ⟨hP, hD⟩ := va_join (wr := [(m0, .inr (11, [.int 0, .ref m_tape, .int 0, .int 0, .int 0, .ref m_read, .int 0, .int 0, .int 0, .ref m_tets, .int 0, .int 0, .int 0, .int 0, .int 0, .int 0, .int 0, .int 0, .ref m_primes, .ref m_often, .ref m_normal, .ref m_termM, .ref m_termP, .ref m_termV, .ref m_sumFrom, .ref m_sumMany, .int 0, .int 0, .int 0, .int 0, .ref m_part, .ref m_fair, .ref m_heap, .ref m_pickTet, .ref m_pickEdge, .ref m_base, .ref m_baseM, .ref m_baseP, .ref m_rowsOf, .int 0, .ref m_grid, .ref m_times, .ref m_boxes, .ref m_cameFrom, .ref m_cameBy, .ref m_steps, .ref m_sides, .int 0, .int (-1), .ref m_next, .ref m_cube, .ref m_ways]))]) (w1 := []) hP hD [0, 1] [2] rfl rfl (by decide) (by decide) hk1 hFc hP1 hD1
  generalize H1 = H at hP hS ⊢
  have hP : va_P (dC, dI) vwCl [(m0, .inr (11, [.int 0, .ref m_tape, .int 0, .int 0, .int 0, .ref m_read, .int 0, .int 0, .int 0, .ref m_tets, .int 0, .int 0, .int 0, .int 0, .int 0, .int 0, .int 0, .int 0, .ref m_primes, .ref m_often, .ref m_normal, .ref m_termM, .ref m_termP, .ref m_termV, .ref m_sumFrom, .ref m_sumMany, .int 0, .int 0, .int 0, .int 0, .ref m_part, .ref m_fair, .ref m_heap, .ref m_pickTet, .ref m_pickEdge, .ref m_base, .ref m_baseM, .ref m_baseP, .ref m_rowsOf, .int 0, .ref m_grid, .ref m_times, .ref m_boxes, .ref m_cameFrom, .ref m_cameBy, .ref m_steps, .ref m_sides, .int 0, .int (-1), .ref m_next, .ref m_cube, .ref m_ways]))] H := hP
  have hD : va_D (fun q : Nat => s.heap.size ≤ q) [(m0, .inr (11, [.int 0, .ref m_tape, .int 0, .int 0, .int 0, .ref m_read, .int 0, .int 0, .int 0, .ref m_tets, .int 0, .int 0, .int 0, .int 0, .int 0, .int 0, .int 0, .int 0, .ref m_primes, .ref m_often, .ref m_normal, .ref m_termM, .ref m_termP, .ref m_termV, .ref m_sumFrom, .ref m_sumMany, .int 0, .int 0, .int 0, .int 0, .ref m_part, .ref m_fair, .ref m_heap, .ref m_pickTet, .ref m_pickEdge, .ref m_base, .ref m_baseM, .ref m_baseP, .ref m_rowsOf, .int 0, .ref m_grid, .ref m_times, .ref m_boxes, .ref m_cameFrom, .ref m_cameBy, .ref m_steps, .ref m_sides, .int 0, .int (-1), .ref m_next, .ref m_cube, .ref m_ways]))] := hD
  have hr_5 := hw
  obtain rfl : r_5 = (-1) := hr_5
  refine lv_aload_n hx hb dL_law_1239 rfl (lv_at hl 2 rfl) ?_
  refine lv_aload_n hx hb dL_law_1240 rfl (lv_at hl 4 rfl) ?_
  refine lv_iload hx hb dL_law_1241 (lv_at hl 0 rfl) ?_
  refine lv_iconst (v := 1) hx hb dL_law_1243 (by decide) ?_
  refine lv_iadd hx hb dL_law_1244 ?_
  refine lv_topi (fun x_6 ex_6 => ?_)
  obtain rfl : x_6 = 1 := ex_6.trans (by first | rfl | decide)
  refine va_sld hx hb hX hbl hbA hS (by show ¬ (_ ∨ _); decide) dL_law_1245 ?_
  refine lv_topi (fun x_7 ex_7 => ?_)
  obtain rfl : y1 = x_7 := hy1.trans ex_7.symm
  refine lv_aload_n hx hb dL_law_1246 rfl (lv_at hl 4 rfl) ?_
  refine lv_iload hx hb dL_law_1247 (lv_at hl 0 rfl) ?_
  refine lv_iconst (v := 2) hx hb dL_law_1249 (by decide) ?_
  refine lv_iadd hx hb dL_law_1250 ?_
  refine lv_topi (fun x_8 ex_8 => ?_)
  obtain rfl : x_8 = 2 := ex_8.trans (by first | rfl | decide)
  refine va_sld hx hb hX hbl hbA hS (by show ¬ (_ ∨ _); decide) dL_law_1251 ?_
  refine lv_topi (fun x_9 ex_9 => ?_)
  obtain rfl : y2 = x_9 := hy2.trans ex_9.symm
  have hPc := hP.sub (ws' := [(m0, .inr (11, [.int 0, .ref m_tape, .int 0, .int 0, .int 0, .ref m_read, .int 0, .int 0, .int 0, .ref m_tets, .int 0, .int 0, .int 0, .int 0, .int 0, .int 0, .int 0, .int 0, .ref m_primes, .ref m_often, .ref m_normal, .ref m_termM, .ref m_termP, .ref m_termV, .ref m_sumFrom, .ref m_sumMany, .int 0, .int 0, .int 0, .int 0, .ref m_part, .ref m_fair, .ref m_heap, .ref m_pickTet, .ref m_pickEdge, .ref m_base, .ref m_baseM, .ref m_baseP, .ref m_rowsOf, .int 0, .ref m_grid, .ref m_times, .ref m_boxes, .ref m_cameFrom, .ref m_cameBy, .ref m_steps, .ref m_sides, .int 0, .int (-1), .ref m_next, .ref m_cube, .ref m_ways]))]) [0] rfl
  have hDc := hD.sub (ws' := [(m0, .inr (11, [.int 0, .ref m_tape, .int 0, .int 0, .int 0, .ref m_read, .int 0, .int 0, .int 0, .ref m_tets, .int 0, .int 0, .int 0, .int 0, .int 0, .int 0, .int 0, .int 0, .ref m_primes, .ref m_often, .ref m_normal, .ref m_termM, .ref m_termP, .ref m_termV, .ref m_sumFrom, .ref m_sumMany, .int 0, .int 0, .int 0, .int 0, .ref m_part, .ref m_fair, .ref m_heap, .ref m_pickTet, .ref m_pickEdge, .ref m_base, .ref m_baseM, .ref m_baseP, .ref m_rowsOf, .int 0, .ref m_grid, .ref m_times, .ref m_boxes, .ref m_cameFrom, .ref m_cameBy, .ref m_steps, .ref m_sides, .int 0, .int (-1), .ref m_next, .ref m_cube, .ref m_ways]))]) [0] (by decide) rfl
  have hFc := va_free (wc := [(m0, .inr (11, [.int 0, .ref m_tape, .int 0, .int 0, .int 0, .ref m_read, .int 0, .int 0, .int 0, .ref m_tets, .int 0, .int 0, .int 0, .int 0, .int 0, .int 0, .int 0, .int 0, .ref m_primes, .ref m_often, .ref m_normal, .ref m_termM, .ref m_termP, .ref m_termV, .ref m_sumFrom, .ref m_sumMany, .int 0, .int 0, .int 0, .int 0, .ref m_part, .ref m_fair, .ref m_heap, .ref m_pickTet, .ref m_pickEdge, .ref m_base, .ref m_baseM, .ref m_baseP, .ref m_rowsOf, .int 0, .ref m_grid, .ref m_times, .ref m_boxes, .ref m_cameFrom, .ref m_cameBy, .ref m_steps, .ref m_sides, .int 0, .int (-1), .ref m_next, .ref m_cube, .ref m_ways]))]) hD hS hA [0] rfl
  refine va_calli (va_runV (As := [.int y1, .int y2]) (rest := [.int (-1)]) ⟨hx, hb, hml, hown, hts⟩ (c_X11_cutsTo l dC dI cB cI cJ H.size m0 m_tape m_read m_tets m_primes m_often m_normal m_termM m_termP m_termV m_sumFrom m_sumMany m_part m_fair m_heap m_pickTet m_pickEdge m_base m_baseM m_baseP m_rowsOf m_grid m_times m_boxes m_cameFrom m_cameBy m_steps m_sides m_next m_cube m_ways y1 y2) (cwV 2 hts hL_law_X11_cutsTo rfl rfl rfl (by decide +kernel) ⟨Nat.le_of_ble_eq_true rfl, Nat.le_of_ble_eq_true rfl⟩) ⟨fun a U g mk q => by obtain ⟨q0, q1, qP, qK, qD⟩ := q; exact ⟨q0, q1, qP, va_K.moved (u := U) (U := U.calling g mk a) (Vm.Alike.refl U.vm) qK, qD⟩, va_recv hK hP (ci := 11) (q0 := 0) rfl rfl, fun U hU hW => ⟨rfl, by rw [hU], by rw [hU]; exact hPc, va_K.moved hW.alike hK, hDc.weaken (fun _ _ _ _ => trivial)⟩⟩ rfl rfl hl.1 rfl (lv_room (Nat.le_of_ble_eq_true rfl)) dL_law_1252 ⟨Nat.le_of_ble_eq_true rfl, Nat.le_of_ble_eq_true rfl⟩) hS (fun q _ h => hFc q h) hFc (fun r_10 u t H1 locs ht hvm hw hB hz1 hk1 hS => ?_)
  have hP1 : va_P (dC, dI) vwCl [] H1 := fun k q h => by simp at h
  have hD1 : va_D (va_A [(m0, .inr (11, [.int 0, .ref m_tape, .int 0, .int 0, .int 0, .ref m_read, .int 0, .int 0, .int 0, .ref m_tets, .int 0, .int 0, .int 0, .int 0, .int 0, .int 0, .int 0, .int 0, .ref m_primes, .ref m_often, .ref m_normal, .ref m_termM, .ref m_termP, .ref m_termV, .ref m_sumFrom, .ref m_sumMany, .int 0, .int 0, .int 0, .int 0, .ref m_part, .ref m_fair, .ref m_heap, .ref m_pickTet, .ref m_pickEdge, .ref m_base, .ref m_baseM, .ref m_baseP, .ref m_rowsOf, .int 0, .ref m_grid, .ref m_times, .ref m_boxes, .ref m_cameFrom, .ref m_cameBy, .ref m_steps, .ref m_sides, .int 0, .int (-1), .ref m_next, .ref m_cube, .ref m_ways]))] H.size) [] := ⟨fun i j p q h => by simp at h, fun k q h => by simp at h⟩
  obtain ⟨hP, hD⟩ := va_join (wr := []) (w1 := []) hP hD [0] [] rfl rfl (by decide) (by decide) hk1 hFc hP1 hD1
  generalize H1 = H at hP hS ⊢
  have hP : va_P (dC, dI) vwCl [] H := hP
  have hD : va_D (fun q : Nat => s.heap.size ≤ q) [] := hD
  have hr_10 := hw
  obtain rfl : r_10 = (-1) := hr_10
  refine lv_icmp_eq (tgt := 1744) hx hb dL_law_1255 (by decide) (fun _ => ?_) (fun c => absurd (by decide) c)
  refine W.widen (k := 600002) (n := 7302232) (Nat.le_of_ble_eq_true rfl) (Nat.le_of_ble_eq_true rfl) ?_
  exact la_end l C0 H _ hS ls hl
set_option maxHeartbeats 8000000 in
set_option maxRecDepth 100000 in
theorem la_25 {p : Program} {e : Env} {s : State} {m : MethodId} {below : List Frame} {meth : Method} {c : Code} (l : Launch) {b : Nat} {xs : Nat → Int32} (C0 : lw_At p s m meth c b 7 xs) (dC : Nat → ClassId) (dI : Nat → Nat → Nat) (cB cI cJ : ClassId) {x0 xTape xReader xBag xBld xAng xSum xPik xHan xIns xShr xSta xTur bC bS bX bW bP m0 m_tape m_read m_tets m_primes m_often m_normal m_termM m_termP m_termV m_sumFrom m_sumMany m_part m_fair m_heap m_pickTet m_pickEdge m_base m_baseM m_baseP m_rowsOf m_grid m_times m_boxes m_cameFrom m_cameBy m_steps m_sides m_next m_cube m_ways o0 : Nat} (H : Heap) (locs : List Loc) (hK : va_K (dC, dI) vwCl [(cB, .byte), (cI, .int), (cJ, .long)] s) (hP : va_P (dC, dI) vwCl [(x0, .inr (10, [.ref xTape, .ref xReader, .ref xBag, .ref xBld, .ref xAng, .ref xSum, .ref xPik, .int 0, .ref xHan, .ref xIns, .ref xShr, .ref xSta, .ref xTur])), (xBag, .inr (1, [.ref bC, .ref bS, .ref bX, .ref bW, .ref bP, .int 0])), (m0, .inr (11, [.int 0, .ref m_tape, .int 0, .int 0, .int 0, .ref m_read, .int 0, .int 0, .int 0, .ref m_tets, .int 0, .int 0, .int 0, .int 0, .int 0, .int 0, .int 0, .int 0, .ref m_primes, .ref m_often, .ref m_normal, .ref m_termM, .ref m_termP, .ref m_termV, .ref m_sumFrom, .ref m_sumMany, .int 0, .int 0, .int 0, .int 0, .ref m_part, .ref m_fair, .ref m_heap, .ref m_pickTet, .ref m_pickEdge, .ref m_base, .ref m_baseM, .ref m_baseP, .ref m_rowsOf, .int 0, .ref m_grid, .ref m_times, .ref m_boxes, .ref m_cameFrom, .ref m_cameBy, .ref m_steps, .ref m_sides, .int 0, .int (-1), .ref m_next, .ref m_cube, .ref m_ways]))] H) (hD : va_D (fun q : Nat => s.heap.size ≤ q) [(x0, .inr (10, [.ref xTape, .ref xReader, .ref xBag, .ref xBld, .ref xAng, .ref xSum, .ref xPik, .int 0, .ref xHan, .ref xIns, .ref xShr, .ref xSta, .ref xTur])), (xBag, .inr (1, [.ref bC, .ref bS, .ref bX, .ref bW, .ref bP, .int 0])), (m0, .inr (11, [.int 0, .ref m_tape, .int 0, .int 0, .int 0, .ref m_read, .int 0, .int 0, .int 0, .ref m_tets, .int 0, .int 0, .int 0, .int 0, .int 0, .int 0, .int 0, .int 0, .ref m_primes, .ref m_often, .ref m_normal, .ref m_termM, .ref m_termP, .ref m_termV, .ref m_sumFrom, .ref m_sumMany, .int 0, .int 0, .int 0, .int 0, .ref m_part, .ref m_fair, .ref m_heap, .ref m_pickTet, .ref m_pickEdge, .ref m_base, .ref m_baseM, .ref m_baseP, .ref m_rowsOf, .int 0, .ref m_grid, .ref m_times, .ref m_boxes, .ref m_cameFrom, .ref m_cameBy, .ref m_steps, .ref m_sides, .int 0, .int (-1), .ref m_next, .ref m_cube, .ref m_ways]))]) (hS : va_S (fun q : Nat => s.heap.size ≤ q) s.heap H locs) (ls : Array Slot) (hl : lv_has ls 7 [(4, .int 0), (3, .ref o0), (2, .ref m0), (1, .ref x0), (0, .ref b)]) : W p l e room_1 s m #[Value.ref b] below meth c H locs 82 28049 (lw_Z below #[Value.ref b] s) (F0 m 1260 ls []) := by
  obtain ⟨hx, hb, hr, hml, hown, htb, hX, hbl, hlocks, hgv⟩ := id C0
  have hts := htb
  have hbA : ¬ (fun q : Nat => s.heap.size ≤ q) b := Nat.not_le.mpr hbl
  have hA : ∀ q : Nat, s.heap.size ≤ q → (fun q : Nat => s.heap.size ≤ q) q := fun _ h => h
  obtain ⟨y1, hy1⟩ : ∃ y : Int32, y = xs (1 : Int32).toNatClampNeg := ⟨_, rfl⟩
  obtain ⟨y2, hy2⟩ : ∃ y : Int32, y = xs (2 : Int32).toNatClampNeg := ⟨_, rfl⟩
  refine lv_aload_n hx hb dL_law_1260 rfl (lv_at hl 3 rfl) ?_
  refine lv_aload_n hx hb dL_law_1261 rfl (lv_at hl 4 rfl) ?_
  refine lv_iload hx hb dL_law_1262 (lv_at hl 0 rfl) ?_
  refine lv_iconst (v := 1) hx hb dL_law_1264 (by decide) ?_
  refine lv_iadd hx hb dL_law_1265 ?_
  refine lv_topi (fun x_1 ex_1 => ?_)
  obtain rfl : x_1 = 1 := ex_1.trans (by first | rfl | decide)
  refine va_sld hx hb hX hbl hbA hS (by show ¬ (_ ∨ _); decide) dL_law_1266 ?_
  refine lv_topi (fun x_2 ex_2 => ?_)
  obtain rfl : y1 = x_2 := hy1.trans ex_2.symm
  refine lv_aload_n hx hb dL_law_1267 rfl (lv_at hl 4 rfl) ?_
  refine lv_iload hx hb dL_law_1268 (lv_at hl 0 rfl) ?_
  refine lv_iconst (v := 2) hx hb dL_law_1270 (by decide) ?_
  refine lv_iadd hx hb dL_law_1271 ?_
  refine lv_topi (fun x_3 ex_3 => ?_)
  obtain rfl : x_3 = 2 := ex_3.trans (by first | rfl | decide)
  refine va_sld hx hb hX hbl hbA hS (by show ¬ (_ ∨ _); decide) dL_law_1272 ?_
  refine lv_topi (fun x_4 ex_4 => ?_)
  obtain rfl : y2 = x_4 := hy2.trans ex_4.symm
  have hPc := hP.sub (ws' := [(x0, .inr (10, [.ref xTape, .ref xReader, .ref xBag, .ref xBld, .ref xAng, .ref xSum, .ref xPik, .int 0, .ref xHan, .ref xIns, .ref xShr, .ref xSta, .ref xTur])), (xBag, .inr (1, [.ref bC, .ref bS, .ref bX, .ref bW, .ref bP, .int 0]))]) [0, 1] rfl
  have hDc := hD.sub (ws' := [(x0, .inr (10, [.ref xTape, .ref xReader, .ref xBag, .ref xBld, .ref xAng, .ref xSum, .ref xPik, .int 0, .ref xHan, .ref xIns, .ref xShr, .ref xSta, .ref xTur])), (xBag, .inr (1, [.ref bC, .ref bS, .ref bX, .ref bW, .ref bP, .int 0]))]) [0, 1] (by decide) rfl
  have hFc := va_free (wc := [(x0, .inr (10, [.ref xTape, .ref xReader, .ref xBag, .ref xBld, .ref xAng, .ref xSum, .ref xPik, .int 0, .ref xHan, .ref xIns, .ref xShr, .ref xSta, .ref xTur])), (xBag, .inr (1, [.ref bC, .ref bS, .ref bX, .ref bW, .ref bP, .int 0]))]) hD hS hA [0, 1] rfl
  refine va_calli (va_runV (As := [.int y1, .int y2]) (rest := []) ⟨hx, hb, hml, hown, hts⟩ (c_X10_pick l dC dI cB cI cJ H.size x0 xTape xReader xBag xBld xAng xSum xPik xHan xIns xShr xSta xTur bC bS bX bW bP y1 y2) (cwV 2 hts hL_law_X10_pick rfl rfl rfl (by decide +kernel) ⟨Nat.le_of_ble_eq_true rfl, Nat.le_of_ble_eq_true rfl⟩) ⟨fun a U g mk q => by obtain ⟨q0, q1, qP, qK, qD⟩ := q; exact ⟨q0, q1, qP, va_K.moved (u := U) (U := U.calling g mk a) (Vm.Alike.refl U.vm) qK, qD⟩, va_recv hK hP (ci := 10) (q0 := 0) rfl rfl, fun U hU hW => ⟨rfl, by rw [hU], by rw [hU]; exact hPc, va_K.moved hW.alike hK, hDc.weaken (fun _ _ _ _ => trivial)⟩⟩ rfl rfl hl.1 rfl (lv_room (Nat.le_of_ble_eq_true rfl)) dL_law_1273 ⟨Nat.le_of_ble_eq_true rfl, Nat.le_of_ble_eq_true rfl⟩) hS (fun q _ h => hFc q h) hFc (fun r_5 u t H1 locs ht hvm hw hB hz1 hk1 hS => ?_)
  have hP1 : va_P (dC, dI) vwCl [] H1 := fun k q h => by simp at h
  have hD1 : va_D (va_A [(x0, .inr (10, [.ref xTape, .ref xReader, .ref xBag, .ref xBld, .ref xAng, .ref xSum, .ref xPik, .int 0, .ref xHan, .ref xIns, .ref xShr, .ref xSta, .ref xTur])), (xBag, .inr (1, [.ref bC, .ref bS, .ref bX, .ref bW, .ref bP, .int 0]))] H.size) [] := ⟨fun i j p q h => by simp at h, fun k q h => by simp at h⟩
  obtain ⟨hP, hD⟩ := va_join (wr := [(m0, .inr (11, [.int 0, .ref m_tape, .int 0, .int 0, .int 0, .ref m_read, .int 0, .int 0, .int 0, .ref m_tets, .int 0, .int 0, .int 0, .int 0, .int 0, .int 0, .int 0, .int 0, .ref m_primes, .ref m_often, .ref m_normal, .ref m_termM, .ref m_termP, .ref m_termV, .ref m_sumFrom, .ref m_sumMany, .int 0, .int 0, .int 0, .int 0, .ref m_part, .ref m_fair, .ref m_heap, .ref m_pickTet, .ref m_pickEdge, .ref m_base, .ref m_baseM, .ref m_baseP, .ref m_rowsOf, .int 0, .ref m_grid, .ref m_times, .ref m_boxes, .ref m_cameFrom, .ref m_cameBy, .ref m_steps, .ref m_sides, .int 0, .int (-1), .ref m_next, .ref m_cube, .ref m_ways]))]) (w1 := []) hP hD [0, 1] [2] rfl rfl (by decide) (by decide) hk1 hFc hP1 hD1
  generalize H1 = H at hP hS ⊢
  have hP : va_P (dC, dI) vwCl [(m0, .inr (11, [.int 0, .ref m_tape, .int 0, .int 0, .int 0, .ref m_read, .int 0, .int 0, .int 0, .ref m_tets, .int 0, .int 0, .int 0, .int 0, .int 0, .int 0, .int 0, .int 0, .ref m_primes, .ref m_often, .ref m_normal, .ref m_termM, .ref m_termP, .ref m_termV, .ref m_sumFrom, .ref m_sumMany, .int 0, .int 0, .int 0, .int 0, .ref m_part, .ref m_fair, .ref m_heap, .ref m_pickTet, .ref m_pickEdge, .ref m_base, .ref m_baseM, .ref m_baseP, .ref m_rowsOf, .int 0, .ref m_grid, .ref m_times, .ref m_boxes, .ref m_cameFrom, .ref m_cameBy, .ref m_steps, .ref m_sides, .int 0, .int (-1), .ref m_next, .ref m_cube, .ref m_ways]))] H := hP
  have hD : va_D (fun q : Nat => s.heap.size ≤ q) [(m0, .inr (11, [.int 0, .ref m_tape, .int 0, .int 0, .int 0, .ref m_read, .int 0, .int 0, .int 0, .ref m_tets, .int 0, .int 0, .int 0, .int 0, .int 0, .int 0, .int 0, .int 0, .ref m_primes, .ref m_often, .ref m_normal, .ref m_termM, .ref m_termP, .ref m_termV, .ref m_sumFrom, .ref m_sumMany, .int 0, .int 0, .int 0, .int 0, .ref m_part, .ref m_fair, .ref m_heap, .ref m_pickTet, .ref m_pickEdge, .ref m_base, .ref m_baseM, .ref m_baseP, .ref m_rowsOf, .int 0, .ref m_grid, .ref m_times, .ref m_boxes, .ref m_cameFrom, .ref m_cameBy, .ref m_steps, .ref m_sides, .int 0, .int (-1), .ref m_next, .ref m_cube, .ref m_ways]))] := hD
  have hr_5 := hw
  obtain rfl : r_5 = (-1) := hr_5
  refine lv_aload_n hx hb dL_law_1276 rfl (lv_at hl 2 rfl) ?_
  refine lv_aload_n hx hb dL_law_1277 rfl (lv_at hl 4 rfl) ?_
  refine lv_iload hx hb dL_law_1278 (lv_at hl 0 rfl) ?_
  refine lv_iconst (v := 1) hx hb dL_law_1280 (by decide) ?_
  refine lv_iadd hx hb dL_law_1281 ?_
  refine lv_topi (fun x_6 ex_6 => ?_)
  obtain rfl : x_6 = 1 := ex_6.trans (by first | rfl | decide)
  refine va_sld hx hb hX hbl hbA hS (by show ¬ (_ ∨ _); decide) dL_law_1282 ?_
  refine lv_topi (fun x_7 ex_7 => ?_)
  obtain rfl : y1 = x_7 := hy1.trans ex_7.symm
  refine lv_aload_n hx hb dL_law_1283 rfl (lv_at hl 4 rfl) ?_
  refine lv_iload hx hb dL_law_1284 (lv_at hl 0 rfl) ?_
  refine lv_iconst (v := 2) hx hb dL_law_1286 (by decide) ?_
  refine lv_iadd hx hb dL_law_1287 ?_
  refine lv_topi (fun x_8 ex_8 => ?_)
  obtain rfl : x_8 = 2 := ex_8.trans (by first | rfl | decide)
  refine va_sld hx hb hX hbl hbA hS (by show ¬ (_ ∨ _); decide) dL_law_1288 ?_
  refine lv_topi (fun x_9 ex_9 => ?_)
  obtain rfl : y2 = x_9 := hy2.trans ex_9.symm
  have hPc := hP.sub (ws' := [(m0, .inr (11, [.int 0, .ref m_tape, .int 0, .int 0, .int 0, .ref m_read, .int 0, .int 0, .int 0, .ref m_tets, .int 0, .int 0, .int 0, .int 0, .int 0, .int 0, .int 0, .int 0, .ref m_primes, .ref m_often, .ref m_normal, .ref m_termM, .ref m_termP, .ref m_termV, .ref m_sumFrom, .ref m_sumMany, .int 0, .int 0, .int 0, .int 0, .ref m_part, .ref m_fair, .ref m_heap, .ref m_pickTet, .ref m_pickEdge, .ref m_base, .ref m_baseM, .ref m_baseP, .ref m_rowsOf, .int 0, .ref m_grid, .ref m_times, .ref m_boxes, .ref m_cameFrom, .ref m_cameBy, .ref m_steps, .ref m_sides, .int 0, .int (-1), .ref m_next, .ref m_cube, .ref m_ways]))]) [0] rfl
  have hDc := hD.sub (ws' := [(m0, .inr (11, [.int 0, .ref m_tape, .int 0, .int 0, .int 0, .ref m_read, .int 0, .int 0, .int 0, .ref m_tets, .int 0, .int 0, .int 0, .int 0, .int 0, .int 0, .int 0, .int 0, .ref m_primes, .ref m_often, .ref m_normal, .ref m_termM, .ref m_termP, .ref m_termV, .ref m_sumFrom, .ref m_sumMany, .int 0, .int 0, .int 0, .int 0, .ref m_part, .ref m_fair, .ref m_heap, .ref m_pickTet, .ref m_pickEdge, .ref m_base, .ref m_baseM, .ref m_baseP, .ref m_rowsOf, .int 0, .ref m_grid, .ref m_times, .ref m_boxes, .ref m_cameFrom, .ref m_cameBy, .ref m_steps, .ref m_sides, .int 0, .int (-1), .ref m_next, .ref m_cube, .ref m_ways]))]) [0] (by decide) rfl
  have hFc := va_free (wc := [(m0, .inr (11, [.int 0, .ref m_tape, .int 0, .int 0, .int 0, .ref m_read, .int 0, .int 0, .int 0, .ref m_tets, .int 0, .int 0, .int 0, .int 0, .int 0, .int 0, .int 0, .int 0, .ref m_primes, .ref m_often, .ref m_normal, .ref m_termM, .ref m_termP, .ref m_termV, .ref m_sumFrom, .ref m_sumMany, .int 0, .int 0, .int 0, .int 0, .ref m_part, .ref m_fair, .ref m_heap, .ref m_pickTet, .ref m_pickEdge, .ref m_base, .ref m_baseM, .ref m_baseP, .ref m_rowsOf, .int 0, .ref m_grid, .ref m_times, .ref m_boxes, .ref m_cameFrom, .ref m_cameBy, .ref m_steps, .ref m_sides, .int 0, .int (-1), .ref m_next, .ref m_cube, .ref m_ways]))]) hD hS hA [0] rfl
  refine va_calli (va_runV (As := [.int y1, .int y2]) (rest := [.int (-1)]) ⟨hx, hb, hml, hown, hts⟩ (c_X11_pick l dC dI cB cI cJ H.size m0 m_tape m_read m_tets m_primes m_often m_normal m_termM m_termP m_termV m_sumFrom m_sumMany m_part m_fair m_heap m_pickTet m_pickEdge m_base m_baseM m_baseP m_rowsOf m_grid m_times m_boxes m_cameFrom m_cameBy m_steps m_sides m_next m_cube m_ways y1 y2) (cwV 2 hts hL_law_X11_pick rfl rfl rfl (by decide +kernel) ⟨Nat.le_of_ble_eq_true rfl, Nat.le_of_ble_eq_true rfl⟩) ⟨fun a U g mk q => by obtain ⟨q0, q1, qP, qK, qD⟩ := q; exact ⟨q0, q1, qP, va_K.moved (u := U) (U := U.calling g mk a) (Vm.Alike.refl U.vm) qK, qD⟩, va_recv hK hP (ci := 11) (q0 := 0) rfl rfl, fun U hU hW => ⟨rfl, by rw [hU], by rw [hU]; exact hPc, va_K.moved hW.alike hK, hDc.weaken (fun _ _ _ _ => trivial)⟩⟩ rfl rfl hl.1 rfl (lv_room (Nat.le_of_ble_eq_true rfl)) dL_law_1289 ⟨Nat.le_of_ble_eq_true rfl, Nat.le_of_ble_eq_true rfl⟩) hS (fun q _ h => hFc q h) hFc (fun r_10 u t H1 locs ht hvm hw hB hz1 hk1 hS => ?_)
  have hP1 : va_P (dC, dI) vwCl [] H1 := fun k q h => by simp at h
  have hD1 : va_D (va_A [(m0, .inr (11, [.int 0, .ref m_tape, .int 0, .int 0, .int 0, .ref m_read, .int 0, .int 0, .int 0, .ref m_tets, .int 0, .int 0, .int 0, .int 0, .int 0, .int 0, .int 0, .int 0, .ref m_primes, .ref m_often, .ref m_normal, .ref m_termM, .ref m_termP, .ref m_termV, .ref m_sumFrom, .ref m_sumMany, .int 0, .int 0, .int 0, .int 0, .ref m_part, .ref m_fair, .ref m_heap, .ref m_pickTet, .ref m_pickEdge, .ref m_base, .ref m_baseM, .ref m_baseP, .ref m_rowsOf, .int 0, .ref m_grid, .ref m_times, .ref m_boxes, .ref m_cameFrom, .ref m_cameBy, .ref m_steps, .ref m_sides, .int 0, .int (-1), .ref m_next, .ref m_cube, .ref m_ways]))] H.size) [] := ⟨fun i j p q h => by simp at h, fun k q h => by simp at h⟩
  obtain ⟨hP, hD⟩ := va_join (wr := []) (w1 := []) hP hD [0] [] rfl rfl (by decide) (by decide) hk1 hFc hP1 hD1
  generalize H1 = H at hP hS ⊢
  have hP : va_P (dC, dI) vwCl [] H := hP
  have hD : va_D (fun q : Nat => s.heap.size ≤ q) [] := hD
  have hr_10 := hw
  obtain rfl : r_10 = (-1) := hr_10
  refine lv_icmp_eq (tgt := 1744) hx hb dL_law_1292 (by decide) (fun _ => ?_) (fun c => absurd (by decide) c)
  refine W.widen (k := 600002) (n := 7302232) (Nat.le_of_ble_eq_true rfl) (Nat.le_of_ble_eq_true rfl) ?_
  exact la_end l C0 H _ hS ls hl
set_option maxHeartbeats 8000000 in
set_option maxRecDepth 100000 in
theorem la_26 {p : Program} {e : Env} {s : State} {m : MethodId} {below : List Frame} {meth : Method} {c : Code} (l : Launch) {b : Nat} {xs : Nat → Int32} (C0 : lw_At p s m meth c b 7 xs) (dC : Nat → ClassId) (dI : Nat → Nat → Nat) (cB cI cJ : ClassId) {x0 xTape xReader xBag xBld xAng xSum xPik xHan xIns xShr xSta xTur kM kP kA m0 m_tape m_read m_tets m_primes m_often m_normal m_termM m_termP m_termV m_sumFrom m_sumMany m_part m_fair m_heap m_pickTet m_pickEdge m_base m_baseM m_baseP m_rowsOf m_grid m_times m_boxes m_cameFrom m_cameBy m_steps m_sides m_next m_cube m_ways o0 : Nat} (H : Heap) (locs : List Loc) (hK : va_K (dC, dI) vwCl [(cB, .byte), (cI, .int), (cJ, .long)] s) (hP : va_P (dC, dI) vwCl [(x0, .inr (10, [.ref xTape, .ref xReader, .ref xBag, .ref xBld, .ref xAng, .ref xSum, .ref xPik, .int 0, .ref xHan, .ref xIns, .ref xShr, .ref xSta, .ref xTur])), (xPik, .inr (8, [.ref kM, .ref kP, .ref kA, .int 0])), (m0, .inr (11, [.int 0, .ref m_tape, .int 0, .int 0, .int 0, .ref m_read, .int 0, .int 0, .int 0, .ref m_tets, .int 0, .int 0, .int 0, .int 0, .int 0, .int 0, .int 0, .int 0, .ref m_primes, .ref m_often, .ref m_normal, .ref m_termM, .ref m_termP, .ref m_termV, .ref m_sumFrom, .ref m_sumMany, .int 0, .int 0, .int 0, .int 0, .ref m_part, .ref m_fair, .ref m_heap, .ref m_pickTet, .ref m_pickEdge, .ref m_base, .ref m_baseM, .ref m_baseP, .ref m_rowsOf, .int 0, .ref m_grid, .ref m_times, .ref m_boxes, .ref m_cameFrom, .ref m_cameBy, .ref m_steps, .ref m_sides, .int 0, .int (-1), .ref m_next, .ref m_cube, .ref m_ways]))] H) (hD : va_D (fun q : Nat => s.heap.size ≤ q) [(x0, .inr (10, [.ref xTape, .ref xReader, .ref xBag, .ref xBld, .ref xAng, .ref xSum, .ref xPik, .int 0, .ref xHan, .ref xIns, .ref xShr, .ref xSta, .ref xTur])), (xPik, .inr (8, [.ref kM, .ref kP, .ref kA, .int 0])), (m0, .inr (11, [.int 0, .ref m_tape, .int 0, .int 0, .int 0, .ref m_read, .int 0, .int 0, .int 0, .ref m_tets, .int 0, .int 0, .int 0, .int 0, .int 0, .int 0, .int 0, .int 0, .ref m_primes, .ref m_often, .ref m_normal, .ref m_termM, .ref m_termP, .ref m_termV, .ref m_sumFrom, .ref m_sumMany, .int 0, .int 0, .int 0, .int 0, .ref m_part, .ref m_fair, .ref m_heap, .ref m_pickTet, .ref m_pickEdge, .ref m_base, .ref m_baseM, .ref m_baseP, .ref m_rowsOf, .int 0, .ref m_grid, .ref m_times, .ref m_boxes, .ref m_cameFrom, .ref m_cameBy, .ref m_steps, .ref m_sides, .int 0, .int (-1), .ref m_next, .ref m_cube, .ref m_ways]))]) (hS : va_S (fun q : Nat => s.heap.size ≤ q) s.heap H locs) (ls : Array Slot) (hl : lv_has ls 7 [(4, .int 0), (3, .ref o0), (2, .ref m0), (1, .ref x0), (0, .ref b)]) : W p l e room_1 s m #[Value.ref b] below meth c H locs 82 28049 (lw_Z below #[Value.ref b] s) (F0 m 1297 ls []) := by
  obtain ⟨hx, hb, hr, hml, hown, htb, hX, hbl, hlocks, hgv⟩ := id C0
  have hts := htb
  have hbA : ¬ (fun q : Nat => s.heap.size ≤ q) b := Nat.not_le.mpr hbl
  have hA : ∀ q : Nat, s.heap.size ≤ q → (fun q : Nat => s.heap.size ≤ q) q := fun _ h => h
  refine lv_aload_n hx hb dL_law_1297 rfl (lv_at hl 3 rfl) ?_
  have hPc := hP.sub (ws' := [(x0, .inr (10, [.ref xTape, .ref xReader, .ref xBag, .ref xBld, .ref xAng, .ref xSum, .ref xPik, .int 0, .ref xHan, .ref xIns, .ref xShr, .ref xSta, .ref xTur])), (xPik, .inr (8, [.ref kM, .ref kP, .ref kA, .int 0]))]) [0, 1] rfl
  have hDc := hD.sub (ws' := [(x0, .inr (10, [.ref xTape, .ref xReader, .ref xBag, .ref xBld, .ref xAng, .ref xSum, .ref xPik, .int 0, .ref xHan, .ref xIns, .ref xShr, .ref xSta, .ref xTur])), (xPik, .inr (8, [.ref kM, .ref kP, .ref kA, .int 0]))]) [0, 1] (by decide) rfl
  have hFc := va_free (wc := [(x0, .inr (10, [.ref xTape, .ref xReader, .ref xBag, .ref xBld, .ref xAng, .ref xSum, .ref xPik, .int 0, .ref xHan, .ref xIns, .ref xShr, .ref xSta, .ref xTur])), (xPik, .inr (8, [.ref kM, .ref kP, .ref kA, .int 0]))]) hD hS hA [0, 1] rfl
  refine va_calli (va_runV (As := []) (rest := []) ⟨hx, hb, hml, hown, hts⟩ (c_X10_unpick l dC dI cB cI cJ H.size x0 xTape xReader xBag xBld xAng xSum xPik xHan xIns xShr xSta xTur kM kP kA) (cwV 0 hts hL_law_X10_unpick rfl rfl rfl (by decide +kernel) ⟨Nat.le_of_ble_eq_true rfl, Nat.le_of_ble_eq_true rfl⟩) ⟨fun a U g mk q => by obtain ⟨q0, q1, qP, qK, qD⟩ := q; exact ⟨q0, q1, qP, va_K.moved (u := U) (U := U.calling g mk a) (Vm.Alike.refl U.vm) qK, qD⟩, va_recv hK hP (ci := 10) (q0 := 0) rfl rfl, fun U hU hW => ⟨rfl, by rw [hU], by rw [hU]; exact hPc, va_K.moved hW.alike hK, hDc.weaken (fun _ _ _ _ => trivial)⟩⟩ rfl rfl hl.1 rfl (lv_room (Nat.le_of_ble_eq_true rfl)) dL_law_1298 ⟨Nat.le_of_ble_eq_true rfl, Nat.le_of_ble_eq_true rfl⟩) hS (fun q _ h => hFc q h) hFc (fun r_1 u t H1 locs ht hvm hw hB hz1 hk1 hS => ?_)
  have hP1 : va_P (dC, dI) vwCl [] H1 := fun k q h => by simp at h
  have hD1 : va_D (va_A [(x0, .inr (10, [.ref xTape, .ref xReader, .ref xBag, .ref xBld, .ref xAng, .ref xSum, .ref xPik, .int 0, .ref xHan, .ref xIns, .ref xShr, .ref xSta, .ref xTur])), (xPik, .inr (8, [.ref kM, .ref kP, .ref kA, .int 0]))] H.size) [] := ⟨fun i j p q h => by simp at h, fun k q h => by simp at h⟩
  obtain ⟨hP, hD⟩ := va_join (wr := [(m0, .inr (11, [.int 0, .ref m_tape, .int 0, .int 0, .int 0, .ref m_read, .int 0, .int 0, .int 0, .ref m_tets, .int 0, .int 0, .int 0, .int 0, .int 0, .int 0, .int 0, .int 0, .ref m_primes, .ref m_often, .ref m_normal, .ref m_termM, .ref m_termP, .ref m_termV, .ref m_sumFrom, .ref m_sumMany, .int 0, .int 0, .int 0, .int 0, .ref m_part, .ref m_fair, .ref m_heap, .ref m_pickTet, .ref m_pickEdge, .ref m_base, .ref m_baseM, .ref m_baseP, .ref m_rowsOf, .int 0, .ref m_grid, .ref m_times, .ref m_boxes, .ref m_cameFrom, .ref m_cameBy, .ref m_steps, .ref m_sides, .int 0, .int (-1), .ref m_next, .ref m_cube, .ref m_ways]))]) (w1 := []) hP hD [0, 1] [2] rfl rfl (by decide) (by decide) hk1 hFc hP1 hD1
  generalize H1 = H at hP hS ⊢
  have hP : va_P (dC, dI) vwCl [(m0, .inr (11, [.int 0, .ref m_tape, .int 0, .int 0, .int 0, .ref m_read, .int 0, .int 0, .int 0, .ref m_tets, .int 0, .int 0, .int 0, .int 0, .int 0, .int 0, .int 0, .int 0, .ref m_primes, .ref m_often, .ref m_normal, .ref m_termM, .ref m_termP, .ref m_termV, .ref m_sumFrom, .ref m_sumMany, .int 0, .int 0, .int 0, .int 0, .ref m_part, .ref m_fair, .ref m_heap, .ref m_pickTet, .ref m_pickEdge, .ref m_base, .ref m_baseM, .ref m_baseP, .ref m_rowsOf, .int 0, .ref m_grid, .ref m_times, .ref m_boxes, .ref m_cameFrom, .ref m_cameBy, .ref m_steps, .ref m_sides, .int 0, .int (-1), .ref m_next, .ref m_cube, .ref m_ways]))] H := hP
  have hD : va_D (fun q : Nat => s.heap.size ≤ q) [(m0, .inr (11, [.int 0, .ref m_tape, .int 0, .int 0, .int 0, .ref m_read, .int 0, .int 0, .int 0, .ref m_tets, .int 0, .int 0, .int 0, .int 0, .int 0, .int 0, .int 0, .int 0, .ref m_primes, .ref m_often, .ref m_normal, .ref m_termM, .ref m_termP, .ref m_termV, .ref m_sumFrom, .ref m_sumMany, .int 0, .int 0, .int 0, .int 0, .ref m_part, .ref m_fair, .ref m_heap, .ref m_pickTet, .ref m_pickEdge, .ref m_base, .ref m_baseM, .ref m_baseP, .ref m_rowsOf, .int 0, .ref m_grid, .ref m_times, .ref m_boxes, .ref m_cameFrom, .ref m_cameBy, .ref m_steps, .ref m_sides, .int 0, .int (-1), .ref m_next, .ref m_cube, .ref m_ways]))] := hD
  have hr_1 := hw
  obtain rfl : r_1 = 0 := hr_1
  refine lv_aload_n hx hb dL_law_1301 rfl (lv_at hl 2 rfl) ?_
  have hPc := hP.sub (ws' := [(m0, .inr (11, [.int 0, .ref m_tape, .int 0, .int 0, .int 0, .ref m_read, .int 0, .int 0, .int 0, .ref m_tets, .int 0, .int 0, .int 0, .int 0, .int 0, .int 0, .int 0, .int 0, .ref m_primes, .ref m_often, .ref m_normal, .ref m_termM, .ref m_termP, .ref m_termV, .ref m_sumFrom, .ref m_sumMany, .int 0, .int 0, .int 0, .int 0, .ref m_part, .ref m_fair, .ref m_heap, .ref m_pickTet, .ref m_pickEdge, .ref m_base, .ref m_baseM, .ref m_baseP, .ref m_rowsOf, .int 0, .ref m_grid, .ref m_times, .ref m_boxes, .ref m_cameFrom, .ref m_cameBy, .ref m_steps, .ref m_sides, .int 0, .int (-1), .ref m_next, .ref m_cube, .ref m_ways]))]) [0] rfl
  have hDc := hD.sub (ws' := [(m0, .inr (11, [.int 0, .ref m_tape, .int 0, .int 0, .int 0, .ref m_read, .int 0, .int 0, .int 0, .ref m_tets, .int 0, .int 0, .int 0, .int 0, .int 0, .int 0, .int 0, .int 0, .ref m_primes, .ref m_often, .ref m_normal, .ref m_termM, .ref m_termP, .ref m_termV, .ref m_sumFrom, .ref m_sumMany, .int 0, .int 0, .int 0, .int 0, .ref m_part, .ref m_fair, .ref m_heap, .ref m_pickTet, .ref m_pickEdge, .ref m_base, .ref m_baseM, .ref m_baseP, .ref m_rowsOf, .int 0, .ref m_grid, .ref m_times, .ref m_boxes, .ref m_cameFrom, .ref m_cameBy, .ref m_steps, .ref m_sides, .int 0, .int (-1), .ref m_next, .ref m_cube, .ref m_ways]))]) [0] (by decide) rfl
  have hFc := va_free (wc := [(m0, .inr (11, [.int 0, .ref m_tape, .int 0, .int 0, .int 0, .ref m_read, .int 0, .int 0, .int 0, .ref m_tets, .int 0, .int 0, .int 0, .int 0, .int 0, .int 0, .int 0, .int 0, .ref m_primes, .ref m_often, .ref m_normal, .ref m_termM, .ref m_termP, .ref m_termV, .ref m_sumFrom, .ref m_sumMany, .int 0, .int 0, .int 0, .int 0, .ref m_part, .ref m_fair, .ref m_heap, .ref m_pickTet, .ref m_pickEdge, .ref m_base, .ref m_baseM, .ref m_baseP, .ref m_rowsOf, .int 0, .ref m_grid, .ref m_times, .ref m_boxes, .ref m_cameFrom, .ref m_cameBy, .ref m_steps, .ref m_sides, .int 0, .int (-1), .ref m_next, .ref m_cube, .ref m_ways]))]) hD hS hA [0] rfl
  refine va_calli (va_runV (As := []) (rest := [.int 0]) ⟨hx, hb, hml, hown, hts⟩ (c_X11_unpick l dC dI cB cI cJ H.size m0 m_tape m_read m_tets m_primes m_often m_normal m_termM m_termP m_termV m_sumFrom m_sumMany m_part m_fair m_heap m_pickTet m_pickEdge m_base m_baseM m_baseP m_rowsOf m_grid m_times m_boxes m_cameFrom m_cameBy m_steps m_sides m_next m_cube m_ways) (cwV 0 hts hL_law_X11_unpick rfl rfl rfl (by decide +kernel) ⟨Nat.le_of_ble_eq_true rfl, Nat.le_of_ble_eq_true rfl⟩) ⟨fun a U g mk q => by obtain ⟨q0, q1, qP, qK, qD⟩ := q; exact ⟨q0, q1, qP, va_K.moved (u := U) (U := U.calling g mk a) (Vm.Alike.refl U.vm) qK, qD⟩, va_recv hK hP (ci := 11) (q0 := 0) rfl rfl, fun U hU hW => ⟨rfl, by rw [hU], by rw [hU]; exact hPc, va_K.moved hW.alike hK, hDc.weaken (fun _ _ _ _ => trivial)⟩⟩ rfl rfl hl.1 rfl (lv_room (Nat.le_of_ble_eq_true rfl)) dL_law_1302 ⟨Nat.le_of_ble_eq_true rfl, Nat.le_of_ble_eq_true rfl⟩) hS (fun q _ h => hFc q h) hFc (fun r_2 u t H1 locs ht hvm hw hB hz1 hk1 hS => ?_)
  have hP1 : va_P (dC, dI) vwCl [] H1 := fun k q h => by simp at h
  have hD1 : va_D (va_A [(m0, .inr (11, [.int 0, .ref m_tape, .int 0, .int 0, .int 0, .ref m_read, .int 0, .int 0, .int 0, .ref m_tets, .int 0, .int 0, .int 0, .int 0, .int 0, .int 0, .int 0, .int 0, .ref m_primes, .ref m_often, .ref m_normal, .ref m_termM, .ref m_termP, .ref m_termV, .ref m_sumFrom, .ref m_sumMany, .int 0, .int 0, .int 0, .int 0, .ref m_part, .ref m_fair, .ref m_heap, .ref m_pickTet, .ref m_pickEdge, .ref m_base, .ref m_baseM, .ref m_baseP, .ref m_rowsOf, .int 0, .ref m_grid, .ref m_times, .ref m_boxes, .ref m_cameFrom, .ref m_cameBy, .ref m_steps, .ref m_sides, .int 0, .int (-1), .ref m_next, .ref m_cube, .ref m_ways]))] H.size) [] := ⟨fun i j p q h => by simp at h, fun k q h => by simp at h⟩
  obtain ⟨hP, hD⟩ := va_join (wr := []) (w1 := []) hP hD [0] [] rfl rfl (by decide) (by decide) hk1 hFc hP1 hD1
  generalize H1 = H at hP hS ⊢
  have hP : va_P (dC, dI) vwCl [] H := hP
  have hD : va_D (fun q : Nat => s.heap.size ≤ q) [] := hD
  have hr_2 := hw
  obtain rfl : r_2 = 0 := hr_2
  refine lv_icmp_eq (tgt := 1744) hx hb dL_law_1305 (by decide) (fun _ => ?_) (fun c => absurd (by decide) c)
  refine W.widen (k := 600002) (n := 7302232) (Nat.le_of_ble_eq_true rfl) (Nat.le_of_ble_eq_true rfl) ?_
  exact la_end l C0 H _ hS ls hl
set_option maxHeartbeats 8000000 in
set_option maxRecDepth 100000 in
theorem la_27 {p : Program} {e : Env} {s : State} {m : MethodId} {below : List Frame} {meth : Method} {c : Code} (l : Launch) {b : Nat} {xs : Nat → Int32} (C0 : lw_At p s m meth c b 7 xs) (dC : Nat → ClassId) (dI : Nat → Nat → Nat) (cB cI cJ : ClassId) {x0 xTape xReader xBag xBld xAng xSum xPik xHan xIns xShr xSta xTur hH hR hT hM m0 m_tape m_read m_tets m_primes m_often m_normal m_termM m_termP m_termV m_sumFrom m_sumMany m_part m_fair m_heap m_pickTet m_pickEdge m_base m_baseM m_baseP m_rowsOf m_grid m_times m_boxes m_cameFrom m_cameBy m_steps m_sides m_next m_cube m_ways o0 : Nat} (H : Heap) (locs : List Loc) (hK : va_K (dC, dI) vwCl [(cB, .byte), (cI, .int), (cJ, .long)] s) (hP : va_P (dC, dI) vwCl [(x0, .inr (10, [.ref xTape, .ref xReader, .ref xBag, .ref xBld, .ref xAng, .ref xSum, .ref xPik, .int 0, .ref xHan, .ref xIns, .ref xShr, .ref xSta, .ref xTur])), (xHan, .inr (3, [.int 0, .int 0, .int 0, .ref hH, .ref hR, .ref hT, .ref hM])), (m0, .inr (11, [.int 0, .ref m_tape, .int 0, .int 0, .int 0, .ref m_read, .int 0, .int 0, .int 0, .ref m_tets, .int 0, .int 0, .int 0, .int 0, .int 0, .int 0, .int 0, .int 0, .ref m_primes, .ref m_often, .ref m_normal, .ref m_termM, .ref m_termP, .ref m_termV, .ref m_sumFrom, .ref m_sumMany, .int 0, .int 0, .int 0, .int 0, .ref m_part, .ref m_fair, .ref m_heap, .ref m_pickTet, .ref m_pickEdge, .ref m_base, .ref m_baseM, .ref m_baseP, .ref m_rowsOf, .int 0, .ref m_grid, .ref m_times, .ref m_boxes, .ref m_cameFrom, .ref m_cameBy, .ref m_steps, .ref m_sides, .int 0, .int (-1), .ref m_next, .ref m_cube, .ref m_ways]))] H) (hD : va_D (fun q : Nat => s.heap.size ≤ q) [(x0, .inr (10, [.ref xTape, .ref xReader, .ref xBag, .ref xBld, .ref xAng, .ref xSum, .ref xPik, .int 0, .ref xHan, .ref xIns, .ref xShr, .ref xSta, .ref xTur])), (xHan, .inr (3, [.int 0, .int 0, .int 0, .ref hH, .ref hR, .ref hT, .ref hM])), (m0, .inr (11, [.int 0, .ref m_tape, .int 0, .int 0, .int 0, .ref m_read, .int 0, .int 0, .int 0, .ref m_tets, .int 0, .int 0, .int 0, .int 0, .int 0, .int 0, .int 0, .int 0, .ref m_primes, .ref m_often, .ref m_normal, .ref m_termM, .ref m_termP, .ref m_termV, .ref m_sumFrom, .ref m_sumMany, .int 0, .int 0, .int 0, .int 0, .ref m_part, .ref m_fair, .ref m_heap, .ref m_pickTet, .ref m_pickEdge, .ref m_base, .ref m_baseM, .ref m_baseP, .ref m_rowsOf, .int 0, .ref m_grid, .ref m_times, .ref m_boxes, .ref m_cameFrom, .ref m_cameBy, .ref m_steps, .ref m_sides, .int 0, .int (-1), .ref m_next, .ref m_cube, .ref m_ways]))]) (hS : va_S (fun q : Nat => s.heap.size ≤ q) s.heap H locs) (ls : Array Slot) (hl : lv_has ls 7 [(4, .int 0), (3, .ref o0), (2, .ref m0), (1, .ref x0), (0, .ref b)]) : W p l e room_1 s m #[Value.ref b] below meth c H locs 82 28049 (lw_Z below #[Value.ref b] s) (F0 m 1310 ls []) := by
  obtain ⟨hx, hb, hr, hml, hown, htb, hX, hbl, hlocks, hgv⟩ := id C0
  have hts := htb
  have hbA : ¬ (fun q : Nat => s.heap.size ≤ q) b := Nat.not_le.mpr hbl
  have hA : ∀ q : Nat, s.heap.size ≤ q → (fun q : Nat => s.heap.size ≤ q) q := fun _ h => h
  refine lv_aload_n hx hb dL_law_1310 rfl (lv_at hl 3 rfl) ?_
  have hPc := hP.sub (ws' := [(x0, .inr (10, [.ref xTape, .ref xReader, .ref xBag, .ref xBld, .ref xAng, .ref xSum, .ref xPik, .int 0, .ref xHan, .ref xIns, .ref xShr, .ref xSta, .ref xTur])), (xHan, .inr (3, [.int 0, .int 0, .int 0, .ref hH, .ref hR, .ref hT, .ref hM]))]) [0, 1] rfl
  have hDc := hD.sub (ws' := [(x0, .inr (10, [.ref xTape, .ref xReader, .ref xBag, .ref xBld, .ref xAng, .ref xSum, .ref xPik, .int 0, .ref xHan, .ref xIns, .ref xShr, .ref xSta, .ref xTur])), (xHan, .inr (3, [.int 0, .int 0, .int 0, .ref hH, .ref hR, .ref hT, .ref hM]))]) [0, 1] (by decide) rfl
  have hFc := va_free (wc := [(x0, .inr (10, [.ref xTape, .ref xReader, .ref xBag, .ref xBld, .ref xAng, .ref xSum, .ref xPik, .int 0, .ref xHan, .ref xIns, .ref xShr, .ref xSta, .ref xTur])), (xHan, .inr (3, [.int 0, .int 0, .int 0, .ref hH, .ref hR, .ref hT, .ref hM]))]) hD hS hA [0, 1] rfl
  refine va_calli (va_runV (As := []) (rest := []) ⟨hx, hb, hml, hown, hts⟩ (c_X10_rank l dC dI cB cI cJ H.size x0 xTape xReader xBag xBld xAng xSum xPik xHan xIns xShr xSta xTur hH hR hT hM) (cwV 0 hts hL_law_X10_rank rfl rfl rfl (by decide +kernel) ⟨Nat.le_of_ble_eq_true rfl, Nat.le_of_ble_eq_true rfl⟩) ⟨fun a U g mk q => by obtain ⟨q0, q1, qP, qK, qD⟩ := q; exact ⟨q0, q1, qP, va_K.moved (u := U) (U := U.calling g mk a) (Vm.Alike.refl U.vm) qK, qD⟩, va_recv hK hP (ci := 10) (q0 := 0) rfl rfl, fun U hU hW => ⟨rfl, by rw [hU], by rw [hU]; exact hPc, va_K.moved hW.alike hK, hDc.weaken (fun _ _ _ _ => trivial)⟩⟩ rfl rfl hl.1 rfl (lv_room (Nat.le_of_ble_eq_true rfl)) dL_law_1311 ⟨Nat.le_of_ble_eq_true rfl, Nat.le_of_ble_eq_true rfl⟩) hS (fun q _ h => hFc q h) hFc (fun r_1 u t H1 locs ht hvm hw hB hz1 hk1 hS => ?_)
  have hP1 : va_P (dC, dI) vwCl [] H1 := fun k q h => by simp at h
  have hD1 : va_D (va_A [(x0, .inr (10, [.ref xTape, .ref xReader, .ref xBag, .ref xBld, .ref xAng, .ref xSum, .ref xPik, .int 0, .ref xHan, .ref xIns, .ref xShr, .ref xSta, .ref xTur])), (xHan, .inr (3, [.int 0, .int 0, .int 0, .ref hH, .ref hR, .ref hT, .ref hM]))] H.size) [] := ⟨fun i j p q h => by simp at h, fun k q h => by simp at h⟩
  obtain ⟨hP, hD⟩ := va_join (wr := [(m0, .inr (11, [.int 0, .ref m_tape, .int 0, .int 0, .int 0, .ref m_read, .int 0, .int 0, .int 0, .ref m_tets, .int 0, .int 0, .int 0, .int 0, .int 0, .int 0, .int 0, .int 0, .ref m_primes, .ref m_often, .ref m_normal, .ref m_termM, .ref m_termP, .ref m_termV, .ref m_sumFrom, .ref m_sumMany, .int 0, .int 0, .int 0, .int 0, .ref m_part, .ref m_fair, .ref m_heap, .ref m_pickTet, .ref m_pickEdge, .ref m_base, .ref m_baseM, .ref m_baseP, .ref m_rowsOf, .int 0, .ref m_grid, .ref m_times, .ref m_boxes, .ref m_cameFrom, .ref m_cameBy, .ref m_steps, .ref m_sides, .int 0, .int (-1), .ref m_next, .ref m_cube, .ref m_ways]))]) (w1 := []) hP hD [0, 1] [2] rfl rfl (by decide) (by decide) hk1 hFc hP1 hD1
  generalize H1 = H at hP hS ⊢
  have hP : va_P (dC, dI) vwCl [(m0, .inr (11, [.int 0, .ref m_tape, .int 0, .int 0, .int 0, .ref m_read, .int 0, .int 0, .int 0, .ref m_tets, .int 0, .int 0, .int 0, .int 0, .int 0, .int 0, .int 0, .int 0, .ref m_primes, .ref m_often, .ref m_normal, .ref m_termM, .ref m_termP, .ref m_termV, .ref m_sumFrom, .ref m_sumMany, .int 0, .int 0, .int 0, .int 0, .ref m_part, .ref m_fair, .ref m_heap, .ref m_pickTet, .ref m_pickEdge, .ref m_base, .ref m_baseM, .ref m_baseP, .ref m_rowsOf, .int 0, .ref m_grid, .ref m_times, .ref m_boxes, .ref m_cameFrom, .ref m_cameBy, .ref m_steps, .ref m_sides, .int 0, .int (-1), .ref m_next, .ref m_cube, .ref m_ways]))] H := hP
  have hD : va_D (fun q : Nat => s.heap.size ≤ q) [(m0, .inr (11, [.int 0, .ref m_tape, .int 0, .int 0, .int 0, .ref m_read, .int 0, .int 0, .int 0, .ref m_tets, .int 0, .int 0, .int 0, .int 0, .int 0, .int 0, .int 0, .int 0, .ref m_primes, .ref m_often, .ref m_normal, .ref m_termM, .ref m_termP, .ref m_termV, .ref m_sumFrom, .ref m_sumMany, .int 0, .int 0, .int 0, .int 0, .ref m_part, .ref m_fair, .ref m_heap, .ref m_pickTet, .ref m_pickEdge, .ref m_base, .ref m_baseM, .ref m_baseP, .ref m_rowsOf, .int 0, .ref m_grid, .ref m_times, .ref m_boxes, .ref m_cameFrom, .ref m_cameBy, .ref m_steps, .ref m_sides, .int 0, .int (-1), .ref m_next, .ref m_cube, .ref m_ways]))] := hD
  have hr_1 := hw
  obtain rfl : r_1 = 0 := hr_1
  refine lv_aload_n hx hb dL_law_1314 rfl (lv_at hl 2 rfl) ?_
  have hPc := hP.sub (ws' := [(m0, .inr (11, [.int 0, .ref m_tape, .int 0, .int 0, .int 0, .ref m_read, .int 0, .int 0, .int 0, .ref m_tets, .int 0, .int 0, .int 0, .int 0, .int 0, .int 0, .int 0, .int 0, .ref m_primes, .ref m_often, .ref m_normal, .ref m_termM, .ref m_termP, .ref m_termV, .ref m_sumFrom, .ref m_sumMany, .int 0, .int 0, .int 0, .int 0, .ref m_part, .ref m_fair, .ref m_heap, .ref m_pickTet, .ref m_pickEdge, .ref m_base, .ref m_baseM, .ref m_baseP, .ref m_rowsOf, .int 0, .ref m_grid, .ref m_times, .ref m_boxes, .ref m_cameFrom, .ref m_cameBy, .ref m_steps, .ref m_sides, .int 0, .int (-1), .ref m_next, .ref m_cube, .ref m_ways]))]) [0] rfl
  have hDc := hD.sub (ws' := [(m0, .inr (11, [.int 0, .ref m_tape, .int 0, .int 0, .int 0, .ref m_read, .int 0, .int 0, .int 0, .ref m_tets, .int 0, .int 0, .int 0, .int 0, .int 0, .int 0, .int 0, .int 0, .ref m_primes, .ref m_often, .ref m_normal, .ref m_termM, .ref m_termP, .ref m_termV, .ref m_sumFrom, .ref m_sumMany, .int 0, .int 0, .int 0, .int 0, .ref m_part, .ref m_fair, .ref m_heap, .ref m_pickTet, .ref m_pickEdge, .ref m_base, .ref m_baseM, .ref m_baseP, .ref m_rowsOf, .int 0, .ref m_grid, .ref m_times, .ref m_boxes, .ref m_cameFrom, .ref m_cameBy, .ref m_steps, .ref m_sides, .int 0, .int (-1), .ref m_next, .ref m_cube, .ref m_ways]))]) [0] (by decide) rfl
  have hFc := va_free (wc := [(m0, .inr (11, [.int 0, .ref m_tape, .int 0, .int 0, .int 0, .ref m_read, .int 0, .int 0, .int 0, .ref m_tets, .int 0, .int 0, .int 0, .int 0, .int 0, .int 0, .int 0, .int 0, .ref m_primes, .ref m_often, .ref m_normal, .ref m_termM, .ref m_termP, .ref m_termV, .ref m_sumFrom, .ref m_sumMany, .int 0, .int 0, .int 0, .int 0, .ref m_part, .ref m_fair, .ref m_heap, .ref m_pickTet, .ref m_pickEdge, .ref m_base, .ref m_baseM, .ref m_baseP, .ref m_rowsOf, .int 0, .ref m_grid, .ref m_times, .ref m_boxes, .ref m_cameFrom, .ref m_cameBy, .ref m_steps, .ref m_sides, .int 0, .int (-1), .ref m_next, .ref m_cube, .ref m_ways]))]) hD hS hA [0] rfl
  refine va_calli (va_runV (As := []) (rest := [.int 0]) ⟨hx, hb, hml, hown, hts⟩ (c_X11_rank l dC dI cB cI cJ H.size m0 m_tape m_read m_tets m_primes m_often m_normal m_termM m_termP m_termV m_sumFrom m_sumMany m_part m_fair m_heap m_pickTet m_pickEdge m_base m_baseM m_baseP m_rowsOf m_grid m_times m_boxes m_cameFrom m_cameBy m_steps m_sides m_next m_cube m_ways) (cwV 0 hts hL_law_X11_rank rfl rfl rfl (by decide +kernel) ⟨Nat.le_of_ble_eq_true rfl, Nat.le_of_ble_eq_true rfl⟩) ⟨fun a U g mk q => by obtain ⟨q0, q1, qP, qK, qD⟩ := q; exact ⟨q0, q1, qP, va_K.moved (u := U) (U := U.calling g mk a) (Vm.Alike.refl U.vm) qK, qD⟩, va_recv hK hP (ci := 11) (q0 := 0) rfl rfl, fun U hU hW => ⟨rfl, by rw [hU], by rw [hU]; exact hPc, va_K.moved hW.alike hK, hDc.weaken (fun _ _ _ _ => trivial)⟩⟩ rfl rfl hl.1 rfl (lv_room (Nat.le_of_ble_eq_true rfl)) dL_law_1315 ⟨Nat.le_of_ble_eq_true rfl, Nat.le_of_ble_eq_true rfl⟩) hS (fun q _ h => hFc q h) hFc (fun r_2 u t H1 locs ht hvm hw hB hz1 hk1 hS => ?_)
  have hP1 : va_P (dC, dI) vwCl [] H1 := fun k q h => by simp at h
  have hD1 : va_D (va_A [(m0, .inr (11, [.int 0, .ref m_tape, .int 0, .int 0, .int 0, .ref m_read, .int 0, .int 0, .int 0, .ref m_tets, .int 0, .int 0, .int 0, .int 0, .int 0, .int 0, .int 0, .int 0, .ref m_primes, .ref m_often, .ref m_normal, .ref m_termM, .ref m_termP, .ref m_termV, .ref m_sumFrom, .ref m_sumMany, .int 0, .int 0, .int 0, .int 0, .ref m_part, .ref m_fair, .ref m_heap, .ref m_pickTet, .ref m_pickEdge, .ref m_base, .ref m_baseM, .ref m_baseP, .ref m_rowsOf, .int 0, .ref m_grid, .ref m_times, .ref m_boxes, .ref m_cameFrom, .ref m_cameBy, .ref m_steps, .ref m_sides, .int 0, .int (-1), .ref m_next, .ref m_cube, .ref m_ways]))] H.size) [] := ⟨fun i j p q h => by simp at h, fun k q h => by simp at h⟩
  obtain ⟨hP, hD⟩ := va_join (wr := []) (w1 := []) hP hD [0] [] rfl rfl (by decide) (by decide) hk1 hFc hP1 hD1
  generalize H1 = H at hP hS ⊢
  have hP : va_P (dC, dI) vwCl [] H := hP
  have hD : va_D (fun q : Nat => s.heap.size ≤ q) [] := hD
  have hr_2 := hw
  obtain rfl : r_2 = 0 := hr_2
  refine lv_icmp_eq (tgt := 1744) hx hb dL_law_1318 (by decide) (fun _ => ?_) (fun c => absurd (by decide) c)
  refine W.widen (k := 600002) (n := 7302232) (Nat.le_of_ble_eq_true rfl) (Nat.le_of_ble_eq_true rfl) ?_
  exact la_end l C0 H _ hS ls hl
set_option maxHeartbeats 8000000 in
set_option maxRecDepth 100000 in
theorem la_28 {p : Program} {e : Env} {s : State} {m : MethodId} {below : List Frame} {meth : Method} {c : Code} (l : Launch) {b : Nat} {xs : Nat → Int32} (C0 : lw_At p s m meth c b 7 xs) (dC : Nat → ClassId) (dI : Nat → Nat → Nat) (cB cI cJ : ClassId) {x0 xTape xReader xBag xBld xAng xSum xPik xHan xIns xShr xSta xTur m0 m_tape m_read m_tets m_primes m_often m_normal m_termM m_termP m_termV m_sumFrom m_sumMany m_part m_fair m_heap m_pickTet m_pickEdge m_base m_baseM m_baseP m_rowsOf m_grid m_times m_boxes m_cameFrom m_cameBy m_steps m_sides m_next m_cube m_ways o0 : Nat} (H : Heap) (locs : List Loc) (hK : va_K (dC, dI) vwCl [(cB, .byte), (cI, .int), (cJ, .long)] s) (hP : va_P (dC, dI) vwCl [(x0, .inr (10, [.ref xTape, .ref xReader, .ref xBag, .ref xBld, .ref xAng, .ref xSum, .ref xPik, .int 0, .ref xHan, .ref xIns, .ref xShr, .ref xSta, .ref xTur])), (m0, .inr (11, [.int 0, .ref m_tape, .int 0, .int 0, .int 0, .ref m_read, .int 0, .int 0, .int 0, .ref m_tets, .int 0, .int 0, .int 0, .int 0, .int 0, .int 0, .int 0, .int 0, .ref m_primes, .ref m_often, .ref m_normal, .ref m_termM, .ref m_termP, .ref m_termV, .ref m_sumFrom, .ref m_sumMany, .int 0, .int 0, .int 0, .int 0, .ref m_part, .ref m_fair, .ref m_heap, .ref m_pickTet, .ref m_pickEdge, .ref m_base, .ref m_baseM, .ref m_baseP, .ref m_rowsOf, .int 0, .ref m_grid, .ref m_times, .ref m_boxes, .ref m_cameFrom, .ref m_cameBy, .ref m_steps, .ref m_sides, .int 0, .int (-1), .ref m_next, .ref m_cube, .ref m_ways]))] H) (hD : va_D (fun q : Nat => s.heap.size ≤ q) [(x0, .inr (10, [.ref xTape, .ref xReader, .ref xBag, .ref xBld, .ref xAng, .ref xSum, .ref xPik, .int 0, .ref xHan, .ref xIns, .ref xShr, .ref xSta, .ref xTur])), (m0, .inr (11, [.int 0, .ref m_tape, .int 0, .int 0, .int 0, .ref m_read, .int 0, .int 0, .int 0, .ref m_tets, .int 0, .int 0, .int 0, .int 0, .int 0, .int 0, .int 0, .int 0, .ref m_primes, .ref m_often, .ref m_normal, .ref m_termM, .ref m_termP, .ref m_termV, .ref m_sumFrom, .ref m_sumMany, .int 0, .int 0, .int 0, .int 0, .ref m_part, .ref m_fair, .ref m_heap, .ref m_pickTet, .ref m_pickEdge, .ref m_base, .ref m_baseM, .ref m_baseP, .ref m_rowsOf, .int 0, .ref m_grid, .ref m_times, .ref m_boxes, .ref m_cameFrom, .ref m_cameBy, .ref m_steps, .ref m_sides, .int 0, .int (-1), .ref m_next, .ref m_cube, .ref m_ways]))]) (hS : va_S (fun q : Nat => s.heap.size ≤ q) s.heap H locs) (ls : Array Slot) (hl : lv_has ls 7 [(4, .int 0), (3, .ref o0), (2, .ref m0), (1, .ref x0), (0, .ref b)]) : W p l e room_1 s m #[Value.ref b] below meth c H locs 82 28049 (lw_Z below #[Value.ref b] s) (F0 m 1323 ls []) := by
  obtain ⟨hx, hb, hr, hml, hown, htb, hX, hbl, hlocks, hgv⟩ := id C0
  have hts := htb
  have hbA : ¬ (fun q : Nat => s.heap.size ≤ q) b := Nat.not_le.mpr hbl
  have hA : ∀ q : Nat, s.heap.size ≤ q → (fun q : Nat => s.heap.size ≤ q) q := fun _ h => h
  obtain ⟨y1, hy1⟩ : ∃ y : Int32, y = xs (1 : Int32).toNatClampNeg := ⟨_, rfl⟩
  refine lv_aload_n hx hb dL_law_1323 rfl (lv_at hl 3 rfl) ?_
  refine lv_aload_n hx hb dL_law_1324 rfl (lv_at hl 4 rfl) ?_
  refine lv_iload hx hb dL_law_1325 (lv_at hl 0 rfl) ?_
  refine lv_iconst (v := 1) hx hb dL_law_1327 (by decide) ?_
  refine lv_iadd hx hb dL_law_1328 ?_
  refine lv_topi (fun x_1 ex_1 => ?_)
  obtain rfl : x_1 = 1 := ex_1.trans (by first | rfl | decide)
  refine va_sld hx hb hX hbl hbA hS (by show ¬ (_ ∨ _); decide) dL_law_1329 ?_
  refine lv_topi (fun x_2 ex_2 => ?_)
  obtain rfl : y1 = x_2 := hy1.trans ex_2.symm
  have hPc := hP.sub (ws' := [(x0, .inr (10, [.ref xTape, .ref xReader, .ref xBag, .ref xBld, .ref xAng, .ref xSum, .ref xPik, .int 0, .ref xHan, .ref xIns, .ref xShr, .ref xSta, .ref xTur]))]) [0] rfl
  have hDc := hD.sub (ws' := [(x0, .inr (10, [.ref xTape, .ref xReader, .ref xBag, .ref xBld, .ref xAng, .ref xSum, .ref xPik, .int 0, .ref xHan, .ref xIns, .ref xShr, .ref xSta, .ref xTur]))]) [0] (by decide) rfl
  have hFc := va_free (wc := [(x0, .inr (10, [.ref xTape, .ref xReader, .ref xBag, .ref xBld, .ref xAng, .ref xSum, .ref xPik, .int 0, .ref xHan, .ref xIns, .ref xShr, .ref xSta, .ref xTur]))]) hD hS hA [0] rfl
  refine va_calli (va_runV (As := [.int y1]) (rest := []) ⟨hx, hb, hml, hown, hts⟩ (c_X10_relation l dC dI cB cI cJ H.size x0 xTape xReader xBag xBld xAng xSum xPik xHan xIns xShr xSta xTur y1) (cwV 1 hts hL_law_X10_relation rfl rfl rfl (by decide +kernel) ⟨Nat.le_of_ble_eq_true rfl, Nat.le_of_ble_eq_true rfl⟩) ⟨fun a U g mk q => by obtain ⟨q0, q1, qP, qK, qD⟩ := q; exact ⟨q0, q1, qP, va_K.moved (u := U) (U := U.calling g mk a) (Vm.Alike.refl U.vm) qK, qD⟩, va_recv hK hP (ci := 10) (q0 := 0) rfl rfl, fun U hU hW => ⟨rfl, by rw [hU], by rw [hU]; exact hPc, va_K.moved hW.alike hK, hDc.weaken (fun _ _ _ _ => trivial)⟩⟩ rfl rfl hl.1 rfl (lv_room (Nat.le_of_ble_eq_true rfl)) dL_law_1330 ⟨Nat.le_of_ble_eq_true rfl, Nat.le_of_ble_eq_true rfl⟩) hS (fun q _ h => hFc q h) hFc (fun r_3 u t H1 locs ht hvm hw hB hz1 hk1 hS => ?_)
  have hP1 : va_P (dC, dI) vwCl [] H1 := fun k q h => by simp at h
  have hD1 : va_D (va_A [(x0, .inr (10, [.ref xTape, .ref xReader, .ref xBag, .ref xBld, .ref xAng, .ref xSum, .ref xPik, .int 0, .ref xHan, .ref xIns, .ref xShr, .ref xSta, .ref xTur]))] H.size) [] := ⟨fun i j p q h => by simp at h, fun k q h => by simp at h⟩
  obtain ⟨hP, hD⟩ := va_join (wr := [(m0, .inr (11, [.int 0, .ref m_tape, .int 0, .int 0, .int 0, .ref m_read, .int 0, .int 0, .int 0, .ref m_tets, .int 0, .int 0, .int 0, .int 0, .int 0, .int 0, .int 0, .int 0, .ref m_primes, .ref m_often, .ref m_normal, .ref m_termM, .ref m_termP, .ref m_termV, .ref m_sumFrom, .ref m_sumMany, .int 0, .int 0, .int 0, .int 0, .ref m_part, .ref m_fair, .ref m_heap, .ref m_pickTet, .ref m_pickEdge, .ref m_base, .ref m_baseM, .ref m_baseP, .ref m_rowsOf, .int 0, .ref m_grid, .ref m_times, .ref m_boxes, .ref m_cameFrom, .ref m_cameBy, .ref m_steps, .ref m_sides, .int 0, .int (-1), .ref m_next, .ref m_cube, .ref m_ways]))]) (w1 := []) hP hD [0] [1] rfl rfl (by decide) (by decide) hk1 hFc hP1 hD1
  generalize H1 = H at hP hS ⊢
  have hP : va_P (dC, dI) vwCl [(m0, .inr (11, [.int 0, .ref m_tape, .int 0, .int 0, .int 0, .ref m_read, .int 0, .int 0, .int 0, .ref m_tets, .int 0, .int 0, .int 0, .int 0, .int 0, .int 0, .int 0, .int 0, .ref m_primes, .ref m_often, .ref m_normal, .ref m_termM, .ref m_termP, .ref m_termV, .ref m_sumFrom, .ref m_sumMany, .int 0, .int 0, .int 0, .int 0, .ref m_part, .ref m_fair, .ref m_heap, .ref m_pickTet, .ref m_pickEdge, .ref m_base, .ref m_baseM, .ref m_baseP, .ref m_rowsOf, .int 0, .ref m_grid, .ref m_times, .ref m_boxes, .ref m_cameFrom, .ref m_cameBy, .ref m_steps, .ref m_sides, .int 0, .int (-1), .ref m_next, .ref m_cube, .ref m_ways]))] H := hP
  have hD : va_D (fun q : Nat => s.heap.size ≤ q) [(m0, .inr (11, [.int 0, .ref m_tape, .int 0, .int 0, .int 0, .ref m_read, .int 0, .int 0, .int 0, .ref m_tets, .int 0, .int 0, .int 0, .int 0, .int 0, .int 0, .int 0, .int 0, .ref m_primes, .ref m_often, .ref m_normal, .ref m_termM, .ref m_termP, .ref m_termV, .ref m_sumFrom, .ref m_sumMany, .int 0, .int 0, .int 0, .int 0, .ref m_part, .ref m_fair, .ref m_heap, .ref m_pickTet, .ref m_pickEdge, .ref m_base, .ref m_baseM, .ref m_baseP, .ref m_rowsOf, .int 0, .ref m_grid, .ref m_times, .ref m_boxes, .ref m_cameFrom, .ref m_cameBy, .ref m_steps, .ref m_sides, .int 0, .int (-1), .ref m_next, .ref m_cube, .ref m_ways]))] := hD
  have hr_3 := hw
  obtain rfl : r_3 = (-1000000) := hr_3
  refine lv_aload_n hx hb dL_law_1333 rfl (lv_at hl 2 rfl) ?_
  refine lv_aload_n hx hb dL_law_1334 rfl (lv_at hl 4 rfl) ?_
  refine lv_iload hx hb dL_law_1335 (lv_at hl 0 rfl) ?_
  refine lv_iconst (v := 1) hx hb dL_law_1337 (by decide) ?_
  refine lv_iadd hx hb dL_law_1338 ?_
  refine lv_topi (fun x_4 ex_4 => ?_)
  obtain rfl : x_4 = 1 := ex_4.trans (by first | rfl | decide)
  refine va_sld hx hb hX hbl hbA hS (by show ¬ (_ ∨ _); decide) dL_law_1339 ?_
  refine lv_topi (fun x_5 ex_5 => ?_)
  obtain rfl : y1 = x_5 := hy1.trans ex_5.symm
  have hPc := hP.sub (ws' := [(m0, .inr (11, [.int 0, .ref m_tape, .int 0, .int 0, .int 0, .ref m_read, .int 0, .int 0, .int 0, .ref m_tets, .int 0, .int 0, .int 0, .int 0, .int 0, .int 0, .int 0, .int 0, .ref m_primes, .ref m_often, .ref m_normal, .ref m_termM, .ref m_termP, .ref m_termV, .ref m_sumFrom, .ref m_sumMany, .int 0, .int 0, .int 0, .int 0, .ref m_part, .ref m_fair, .ref m_heap, .ref m_pickTet, .ref m_pickEdge, .ref m_base, .ref m_baseM, .ref m_baseP, .ref m_rowsOf, .int 0, .ref m_grid, .ref m_times, .ref m_boxes, .ref m_cameFrom, .ref m_cameBy, .ref m_steps, .ref m_sides, .int 0, .int (-1), .ref m_next, .ref m_cube, .ref m_ways]))]) [0] rfl
  have hDc := hD.sub (ws' := [(m0, .inr (11, [.int 0, .ref m_tape, .int 0, .int 0, .int 0, .ref m_read, .int 0, .int 0, .int 0, .ref m_tets, .int 0, .int 0, .int 0, .int 0, .int 0, .int 0, .int 0, .int 0, .ref m_primes, .ref m_often, .ref m_normal, .ref m_termM, .ref m_termP, .ref m_termV, .ref m_sumFrom, .ref m_sumMany, .int 0, .int 0, .int 0, .int 0, .ref m_part, .ref m_fair, .ref m_heap, .ref m_pickTet, .ref m_pickEdge, .ref m_base, .ref m_baseM, .ref m_baseP, .ref m_rowsOf, .int 0, .ref m_grid, .ref m_times, .ref m_boxes, .ref m_cameFrom, .ref m_cameBy, .ref m_steps, .ref m_sides, .int 0, .int (-1), .ref m_next, .ref m_cube, .ref m_ways]))]) [0] (by decide) rfl
  have hFc := va_free (wc := [(m0, .inr (11, [.int 0, .ref m_tape, .int 0, .int 0, .int 0, .ref m_read, .int 0, .int 0, .int 0, .ref m_tets, .int 0, .int 0, .int 0, .int 0, .int 0, .int 0, .int 0, .int 0, .ref m_primes, .ref m_often, .ref m_normal, .ref m_termM, .ref m_termP, .ref m_termV, .ref m_sumFrom, .ref m_sumMany, .int 0, .int 0, .int 0, .int 0, .ref m_part, .ref m_fair, .ref m_heap, .ref m_pickTet, .ref m_pickEdge, .ref m_base, .ref m_baseM, .ref m_baseP, .ref m_rowsOf, .int 0, .ref m_grid, .ref m_times, .ref m_boxes, .ref m_cameFrom, .ref m_cameBy, .ref m_steps, .ref m_sides, .int 0, .int (-1), .ref m_next, .ref m_cube, .ref m_ways]))]) hD hS hA [0] rfl
  refine va_calli (va_runV (As := [.int y1]) (rest := [.int (-1000000)]) ⟨hx, hb, hml, hown, hts⟩ (c_X11_relation l dC dI cB cI cJ H.size m0 m_tape m_read m_tets m_primes m_often m_normal m_termM m_termP m_termV m_sumFrom m_sumMany m_part m_fair m_heap m_pickTet m_pickEdge m_base m_baseM m_baseP m_rowsOf m_grid m_times m_boxes m_cameFrom m_cameBy m_steps m_sides m_next m_cube m_ways y1) (cwV 1 hts hL_law_X11_relation rfl rfl rfl (by decide +kernel) ⟨Nat.le_of_ble_eq_true rfl, Nat.le_of_ble_eq_true rfl⟩) ⟨fun a U g mk q => by obtain ⟨q0, q1, qP, qK, qD⟩ := q; exact ⟨q0, q1, qP, va_K.moved (u := U) (U := U.calling g mk a) (Vm.Alike.refl U.vm) qK, qD⟩, va_recv hK hP (ci := 11) (q0 := 0) rfl rfl, fun U hU hW => ⟨rfl, by rw [hU], by rw [hU]; exact hPc, va_K.moved hW.alike hK, hDc.weaken (fun _ _ _ _ => trivial)⟩⟩ rfl rfl hl.1 rfl (lv_room (Nat.le_of_ble_eq_true rfl)) dL_law_1340 ⟨Nat.le_of_ble_eq_true rfl, Nat.le_of_ble_eq_true rfl⟩) hS (fun q _ h => hFc q h) hFc (fun r_6 u t H1 locs ht hvm hw hB hz1 hk1 hS => ?_)
  have hP1 : va_P (dC, dI) vwCl [] H1 := fun k q h => by simp at h
  have hD1 : va_D (va_A [(m0, .inr (11, [.int 0, .ref m_tape, .int 0, .int 0, .int 0, .ref m_read, .int 0, .int 0, .int 0, .ref m_tets, .int 0, .int 0, .int 0, .int 0, .int 0, .int 0, .int 0, .int 0, .ref m_primes, .ref m_often, .ref m_normal, .ref m_termM, .ref m_termP, .ref m_termV, .ref m_sumFrom, .ref m_sumMany, .int 0, .int 0, .int 0, .int 0, .ref m_part, .ref m_fair, .ref m_heap, .ref m_pickTet, .ref m_pickEdge, .ref m_base, .ref m_baseM, .ref m_baseP, .ref m_rowsOf, .int 0, .ref m_grid, .ref m_times, .ref m_boxes, .ref m_cameFrom, .ref m_cameBy, .ref m_steps, .ref m_sides, .int 0, .int (-1), .ref m_next, .ref m_cube, .ref m_ways]))] H.size) [] := ⟨fun i j p q h => by simp at h, fun k q h => by simp at h⟩
  obtain ⟨hP, hD⟩ := va_join (wr := []) (w1 := []) hP hD [0] [] rfl rfl (by decide) (by decide) hk1 hFc hP1 hD1
  generalize H1 = H at hP hS ⊢
  have hP : va_P (dC, dI) vwCl [] H := hP
  have hD : va_D (fun q : Nat => s.heap.size ≤ q) [] := hD
  have hr_6 := hw
  obtain rfl : r_6 = (-1000000) := hr_6
  refine lv_icmp_eq (tgt := 1744) hx hb dL_law_1343 (by decide) (fun _ => ?_) (fun c => absurd (by decide) c)
  refine W.widen (k := 600002) (n := 7302232) (Nat.le_of_ble_eq_true rfl) (Nat.le_of_ble_eq_true rfl) ?_
  exact la_end l C0 H _ hS ls hl
set_option maxHeartbeats 8000000 in
set_option maxRecDepth 100000 in
theorem la_29 {p : Program} {e : Env} {s : State} {m : MethodId} {below : List Frame} {meth : Method} {c : Code} (l : Launch) {b : Nat} {xs : Nat → Int32} (C0 : lw_At p s m meth c b 7 xs) (dC : Nat → ClassId) (dI : Nat → Nat → Nat) (cB cI cJ : ClassId) {x0 xTape xReader xBag xBld xAng xSum xPik xHan xIns xShr xSta xTur sM sP sA hH hR hT hM m0 m_tape m_read m_tets m_primes m_often m_normal m_termM m_termP m_termV m_sumFrom m_sumMany m_part m_fair m_heap m_pickTet m_pickEdge m_base m_baseM m_baseP m_rowsOf m_grid m_times m_boxes m_cameFrom m_cameBy m_steps m_sides m_next m_cube m_ways o0 : Nat} (H : Heap) (locs : List Loc) (hK : va_K (dC, dI) vwCl [(cB, .byte), (cI, .int), (cJ, .long)] s) (hP : va_P (dC, dI) vwCl [(x0, .inr (10, [.ref xTape, .ref xReader, .ref xBag, .ref xBld, .ref xAng, .ref xSum, .ref xPik, .int 0, .ref xHan, .ref xIns, .ref xShr, .ref xSta, .ref xTur])), (xSum, .inr (8, [.ref sM, .ref sP, .ref sA, .int 0])), (xHan, .inr (3, [.int 0, .int 0, .int 0, .ref hH, .ref hR, .ref hT, .ref hM])), (hH, .inl (cI, 7, (.inl (fun _ => 0)))), (hT, .inl (cJ, 7, (.inr (.inl (fun _ => 0))))), (hM, .inl (cJ, 6, (.inr (.inl (fun _ => 0))))), (m0, .inr (11, [.int 0, .ref m_tape, .int 0, .int 0, .int 0, .ref m_read, .int 0, .int 0, .int 0, .ref m_tets, .int 0, .int 0, .int 0, .int 0, .int 0, .int 0, .int 0, .int 0, .ref m_primes, .ref m_often, .ref m_normal, .ref m_termM, .ref m_termP, .ref m_termV, .ref m_sumFrom, .ref m_sumMany, .int 0, .int 0, .int 0, .int 0, .ref m_part, .ref m_fair, .ref m_heap, .ref m_pickTet, .ref m_pickEdge, .ref m_base, .ref m_baseM, .ref m_baseP, .ref m_rowsOf, .int 0, .ref m_grid, .ref m_times, .ref m_boxes, .ref m_cameFrom, .ref m_cameBy, .ref m_steps, .ref m_sides, .int 0, .int (-1), .ref m_next, .ref m_cube, .ref m_ways])), (m_sumFrom, .inl (cI, 6, (.inl (fun _ => 0)))), (m_sumMany, .inl (cI, 6, (.inl (fun _ => 0)))), (m_rowsOf, .inl (cI, 7, (.inl (fun _ => 0))))] H) (hD : va_D (fun q : Nat => s.heap.size ≤ q) [(x0, .inr (10, [.ref xTape, .ref xReader, .ref xBag, .ref xBld, .ref xAng, .ref xSum, .ref xPik, .int 0, .ref xHan, .ref xIns, .ref xShr, .ref xSta, .ref xTur])), (xSum, .inr (8, [.ref sM, .ref sP, .ref sA, .int 0])), (xHan, .inr (3, [.int 0, .int 0, .int 0, .ref hH, .ref hR, .ref hT, .ref hM])), (hH, .inl (cI, 7, (.inl (fun _ => 0)))), (hT, .inl (cJ, 7, (.inr (.inl (fun _ => 0))))), (hM, .inl (cJ, 6, (.inr (.inl (fun _ => 0))))), (m0, .inr (11, [.int 0, .ref m_tape, .int 0, .int 0, .int 0, .ref m_read, .int 0, .int 0, .int 0, .ref m_tets, .int 0, .int 0, .int 0, .int 0, .int 0, .int 0, .int 0, .int 0, .ref m_primes, .ref m_often, .ref m_normal, .ref m_termM, .ref m_termP, .ref m_termV, .ref m_sumFrom, .ref m_sumMany, .int 0, .int 0, .int 0, .int 0, .ref m_part, .ref m_fair, .ref m_heap, .ref m_pickTet, .ref m_pickEdge, .ref m_base, .ref m_baseM, .ref m_baseP, .ref m_rowsOf, .int 0, .ref m_grid, .ref m_times, .ref m_boxes, .ref m_cameFrom, .ref m_cameBy, .ref m_steps, .ref m_sides, .int 0, .int (-1), .ref m_next, .ref m_cube, .ref m_ways])), (m_sumFrom, .inl (cI, 6, (.inl (fun _ => 0)))), (m_sumMany, .inl (cI, 6, (.inl (fun _ => 0)))), (m_rowsOf, .inl (cI, 7, (.inl (fun _ => 0))))]) (hS : va_S (fun q : Nat => s.heap.size ≤ q) s.heap H locs) (ls : Array Slot) (hl : lv_has ls 7 [(4, .int 0), (3, .ref o0), (2, .ref m0), (1, .ref x0), (0, .ref b)]) : W p l e room_1 s m #[Value.ref b] below meth c H locs 82 28049 (lw_Z below #[Value.ref b] s) (F0 m 1348 ls []) := by
  obtain ⟨hx, hb, hr, hml, hown, htb, hX, hbl, hlocks, hgv⟩ := id C0
  have hts := htb
  have hbA : ¬ (fun q : Nat => s.heap.size ≤ q) b := Nat.not_le.mpr hbl
  have hA : ∀ q : Nat, s.heap.size ≤ q → (fun q : Nat => s.heap.size ≤ q) q := fun _ h => h
  have hN0 : va_Nw (.methodLinkNest RX3 62 yX10_gcd "ScissorsTable") s := va_Nw.of rfl (htb (.methodLinkNest RX3 62 yX10_gcd "ScissorsTable") (List.mem_of_getElem? (i := 988) (by decide +kernel)))
  obtain ⟨y1, hy1⟩ : ∃ y : Int32, y = xs (1 : Int32).toNatClampNeg := ⟨_, rfl⟩
  refine lv_aload_n hx hb dL_law_1348 rfl (lv_at hl 3 rfl) ?_
  refine lv_aload_n hx hb dL_law_1349 rfl (lv_at hl 4 rfl) ?_
  refine lv_iload hx hb dL_law_1350 (lv_at hl 0 rfl) ?_
  refine lv_iconst (v := 1) hx hb dL_law_1352 (by decide) ?_
  refine lv_iadd hx hb dL_law_1353 ?_
  refine lv_topi (fun x_1 ex_1 => ?_)
  obtain rfl : x_1 = 1 := ex_1.trans (by first | rfl | decide)
  refine va_sld hx hb hX hbl hbA hS (by show ¬ (_ ∨ _); decide) dL_law_1354 ?_
  refine lv_topi (fun x_2 ex_2 => ?_)
  obtain rfl : y1 = x_2 := hy1.trans ex_2.symm
  have hPc := hP.sub (ws' := [(x0, .inr (10, [.ref xTape, .ref xReader, .ref xBag, .ref xBld, .ref xAng, .ref xSum, .ref xPik, .int 0, .ref xHan, .ref xIns, .ref xShr, .ref xSta, .ref xTur])), (xSum, .inr (8, [.ref sM, .ref sP, .ref sA, .int 0])), (xHan, .inr (3, [.int 0, .int 0, .int 0, .ref hH, .ref hR, .ref hT, .ref hM])), (hH, .inl (cI, 7, (.inl (fun _ => 0)))), (hT, .inl (cJ, 7, (.inr (.inl (fun _ => 0))))), (hM, .inl (cJ, 6, (.inr (.inl (fun _ => 0)))))]) [0, 1, 2, 3, 4, 5] rfl
  have hDc := hD.sub (ws' := [(x0, .inr (10, [.ref xTape, .ref xReader, .ref xBag, .ref xBld, .ref xAng, .ref xSum, .ref xPik, .int 0, .ref xHan, .ref xIns, .ref xShr, .ref xSta, .ref xTur])), (xSum, .inr (8, [.ref sM, .ref sP, .ref sA, .int 0])), (xHan, .inr (3, [.int 0, .int 0, .int 0, .ref hH, .ref hR, .ref hT, .ref hM])), (hH, .inl (cI, 7, (.inl (fun _ => 0)))), (hT, .inl (cJ, 7, (.inr (.inl (fun _ => 0))))), (hM, .inl (cJ, 6, (.inr (.inl (fun _ => 0)))))]) [0, 1, 2, 3, 4, 5] (by decide) rfl
  have hFc := va_free (wc := [(x0, .inr (10, [.ref xTape, .ref xReader, .ref xBag, .ref xBld, .ref xAng, .ref xSum, .ref xPik, .int 0, .ref xHan, .ref xIns, .ref xShr, .ref xSta, .ref xTur])), (xSum, .inr (8, [.ref sM, .ref sP, .ref sA, .int 0])), (xHan, .inr (3, [.int 0, .int 0, .int 0, .ref hH, .ref hR, .ref hT, .ref hM])), (hH, .inl (cI, 7, (.inl (fun _ => 0)))), (hT, .inl (cJ, 7, (.inr (.inl (fun _ => 0))))), (hM, .inl (cJ, 6, (.inr (.inl (fun _ => 0)))))]) hD hS hA [0, 1, 2, 3, 4, 5] rfl
  refine va_calli (va_runV (As := [.int y1]) (rest := []) ⟨hx, hb, hml, hown, hts⟩ (c_X10_rankOf l dC dI cB cI cJ H.size x0 xTape xReader xBag xBld xAng xSum xPik xHan xIns xShr xSta xTur sM sP sA hH hR hT hM y1) (cwV 1 hts hL_law_X10_rankOf rfl rfl rfl (by decide +kernel) ⟨Nat.le_of_ble_eq_true rfl, Nat.le_of_ble_eq_true rfl⟩) ⟨fun a U g mk q => by obtain ⟨q0, q1, qP, qK, qD, qN0⟩ := q; exact ⟨q0, q1, qP, va_K.moved (u := U) (U := U.calling g mk a) (Vm.Alike.refl U.vm) qK, qD, va_Nw.same rfl rfl qN0⟩, va_recv hK hP (ci := 10) (q0 := 0) rfl rfl, fun U hU hW => ⟨rfl, by rw [hU], by rw [hU]; exact hPc, va_K.moved hW.alike hK, hDc.weaken (fun _ _ _ _ => trivial), va_Nw.warmM hW hN0⟩⟩ rfl rfl hl.1 rfl (lv_room (Nat.le_of_ble_eq_true rfl)) dL_law_1355 ⟨Nat.le_of_ble_eq_true rfl, Nat.le_of_ble_eq_true rfl⟩) hS (fun q _ h => hFc q h) hFc (fun r_3 u t H1 locs ht hvm hw hB hz1 hk1 hS => ?_)
  have hP1 : va_P (dC, dI) vwCl [] H1 := fun k q h => by simp at h
  have hD1 : va_D (va_A [(x0, .inr (10, [.ref xTape, .ref xReader, .ref xBag, .ref xBld, .ref xAng, .ref xSum, .ref xPik, .int 0, .ref xHan, .ref xIns, .ref xShr, .ref xSta, .ref xTur])), (xSum, .inr (8, [.ref sM, .ref sP, .ref sA, .int 0])), (xHan, .inr (3, [.int 0, .int 0, .int 0, .ref hH, .ref hR, .ref hT, .ref hM])), (hH, .inl (cI, 7, (.inl (fun _ => 0)))), (hT, .inl (cJ, 7, (.inr (.inl (fun _ => 0))))), (hM, .inl (cJ, 6, (.inr (.inl (fun _ => 0)))))] H.size) [] := ⟨fun i j p q h => by simp at h, fun k q h => by simp at h⟩
  obtain ⟨hP, hD⟩ := va_join (wr := [(m0, .inr (11, [.int 0, .ref m_tape, .int 0, .int 0, .int 0, .ref m_read, .int 0, .int 0, .int 0, .ref m_tets, .int 0, .int 0, .int 0, .int 0, .int 0, .int 0, .int 0, .int 0, .ref m_primes, .ref m_often, .ref m_normal, .ref m_termM, .ref m_termP, .ref m_termV, .ref m_sumFrom, .ref m_sumMany, .int 0, .int 0, .int 0, .int 0, .ref m_part, .ref m_fair, .ref m_heap, .ref m_pickTet, .ref m_pickEdge, .ref m_base, .ref m_baseM, .ref m_baseP, .ref m_rowsOf, .int 0, .ref m_grid, .ref m_times, .ref m_boxes, .ref m_cameFrom, .ref m_cameBy, .ref m_steps, .ref m_sides, .int 0, .int (-1), .ref m_next, .ref m_cube, .ref m_ways])), (m_sumFrom, .inl (cI, 6, (.inl (fun _ => 0)))), (m_sumMany, .inl (cI, 6, (.inl (fun _ => 0)))), (m_rowsOf, .inl (cI, 7, (.inl (fun _ => 0))))]) (w1 := []) hP hD [0, 1, 2, 3, 4, 5] [6, 7, 8, 9] rfl rfl (by decide) (by decide) hk1 hFc hP1 hD1
  generalize H1 = H at hP hS ⊢
  have hP : va_P (dC, dI) vwCl [(m0, .inr (11, [.int 0, .ref m_tape, .int 0, .int 0, .int 0, .ref m_read, .int 0, .int 0, .int 0, .ref m_tets, .int 0, .int 0, .int 0, .int 0, .int 0, .int 0, .int 0, .int 0, .ref m_primes, .ref m_often, .ref m_normal, .ref m_termM, .ref m_termP, .ref m_termV, .ref m_sumFrom, .ref m_sumMany, .int 0, .int 0, .int 0, .int 0, .ref m_part, .ref m_fair, .ref m_heap, .ref m_pickTet, .ref m_pickEdge, .ref m_base, .ref m_baseM, .ref m_baseP, .ref m_rowsOf, .int 0, .ref m_grid, .ref m_times, .ref m_boxes, .ref m_cameFrom, .ref m_cameBy, .ref m_steps, .ref m_sides, .int 0, .int (-1), .ref m_next, .ref m_cube, .ref m_ways])), (m_sumFrom, .inl (cI, 6, (.inl (fun _ => 0)))), (m_sumMany, .inl (cI, 6, (.inl (fun _ => 0)))), (m_rowsOf, .inl (cI, 7, (.inl (fun _ => 0))))] H := hP
  have hD : va_D (fun q : Nat => s.heap.size ≤ q) [(m0, .inr (11, [.int 0, .ref m_tape, .int 0, .int 0, .int 0, .ref m_read, .int 0, .int 0, .int 0, .ref m_tets, .int 0, .int 0, .int 0, .int 0, .int 0, .int 0, .int 0, .int 0, .ref m_primes, .ref m_often, .ref m_normal, .ref m_termM, .ref m_termP, .ref m_termV, .ref m_sumFrom, .ref m_sumMany, .int 0, .int 0, .int 0, .int 0, .ref m_part, .ref m_fair, .ref m_heap, .ref m_pickTet, .ref m_pickEdge, .ref m_base, .ref m_baseM, .ref m_baseP, .ref m_rowsOf, .int 0, .ref m_grid, .ref m_times, .ref m_boxes, .ref m_cameFrom, .ref m_cameBy, .ref m_steps, .ref m_sides, .int 0, .int (-1), .ref m_next, .ref m_cube, .ref m_ways])), (m_sumFrom, .inl (cI, 6, (.inl (fun _ => 0)))), (m_sumMany, .inl (cI, 6, (.inl (fun _ => 0)))), (m_rowsOf, .inl (cI, 7, (.inl (fun _ => 0))))] := hD
  have hr_3 := hw
  refine lv_aload_n hx hb dL_law_1358 rfl (lv_at hl 2 rfl) ?_
  refine lv_aload_n hx hb dL_law_1359 rfl (lv_at hl 4 rfl) ?_
  refine lv_iload hx hb dL_law_1360 (lv_at hl 0 rfl) ?_
  refine lv_iconst (v := 1) hx hb dL_law_1362 (by decide) ?_
  refine lv_iadd hx hb dL_law_1363 ?_
  refine lv_topi (fun x_4 ex_4 => ?_)
  obtain rfl : x_4 = 1 := ex_4.trans (by first | rfl | decide)
  refine va_sld hx hb hX hbl hbA hS (by show ¬ (_ ∨ _); decide) dL_law_1364 ?_
  refine lv_topi (fun x_5 ex_5 => ?_)
  obtain rfl : y1 = x_5 := hy1.trans ex_5.symm
  have hPc := hP.sub (ws' := [(m0, .inr (11, [.int 0, .ref m_tape, .int 0, .int 0, .int 0, .ref m_read, .int 0, .int 0, .int 0, .ref m_tets, .int 0, .int 0, .int 0, .int 0, .int 0, .int 0, .int 0, .int 0, .ref m_primes, .ref m_often, .ref m_normal, .ref m_termM, .ref m_termP, .ref m_termV, .ref m_sumFrom, .ref m_sumMany, .int 0, .int 0, .int 0, .int 0, .ref m_part, .ref m_fair, .ref m_heap, .ref m_pickTet, .ref m_pickEdge, .ref m_base, .ref m_baseM, .ref m_baseP, .ref m_rowsOf, .int 0, .ref m_grid, .ref m_times, .ref m_boxes, .ref m_cameFrom, .ref m_cameBy, .ref m_steps, .ref m_sides, .int 0, .int (-1), .ref m_next, .ref m_cube, .ref m_ways])), (m_sumFrom, .inl (cI, 6, (.inl (fun _ => 0)))), (m_sumMany, .inl (cI, 6, (.inl (fun _ => 0)))), (m_rowsOf, .inl (cI, 7, (.inl (fun _ => 0))))]) [0, 1, 2, 3] rfl
  have hDc := hD.sub (ws' := [(m0, .inr (11, [.int 0, .ref m_tape, .int 0, .int 0, .int 0, .ref m_read, .int 0, .int 0, .int 0, .ref m_tets, .int 0, .int 0, .int 0, .int 0, .int 0, .int 0, .int 0, .int 0, .ref m_primes, .ref m_often, .ref m_normal, .ref m_termM, .ref m_termP, .ref m_termV, .ref m_sumFrom, .ref m_sumMany, .int 0, .int 0, .int 0, .int 0, .ref m_part, .ref m_fair, .ref m_heap, .ref m_pickTet, .ref m_pickEdge, .ref m_base, .ref m_baseM, .ref m_baseP, .ref m_rowsOf, .int 0, .ref m_grid, .ref m_times, .ref m_boxes, .ref m_cameFrom, .ref m_cameBy, .ref m_steps, .ref m_sides, .int 0, .int (-1), .ref m_next, .ref m_cube, .ref m_ways])), (m_sumFrom, .inl (cI, 6, (.inl (fun _ => 0)))), (m_sumMany, .inl (cI, 6, (.inl (fun _ => 0)))), (m_rowsOf, .inl (cI, 7, (.inl (fun _ => 0))))]) [0, 1, 2, 3] (by decide) rfl
  have hFc := va_free (wc := [(m0, .inr (11, [.int 0, .ref m_tape, .int 0, .int 0, .int 0, .ref m_read, .int 0, .int 0, .int 0, .ref m_tets, .int 0, .int 0, .int 0, .int 0, .int 0, .int 0, .int 0, .int 0, .ref m_primes, .ref m_often, .ref m_normal, .ref m_termM, .ref m_termP, .ref m_termV, .ref m_sumFrom, .ref m_sumMany, .int 0, .int 0, .int 0, .int 0, .ref m_part, .ref m_fair, .ref m_heap, .ref m_pickTet, .ref m_pickEdge, .ref m_base, .ref m_baseM, .ref m_baseP, .ref m_rowsOf, .int 0, .ref m_grid, .ref m_times, .ref m_boxes, .ref m_cameFrom, .ref m_cameBy, .ref m_steps, .ref m_sides, .int 0, .int (-1), .ref m_next, .ref m_cube, .ref m_ways])), (m_sumFrom, .inl (cI, 6, (.inl (fun _ => 0)))), (m_sumMany, .inl (cI, 6, (.inl (fun _ => 0)))), (m_rowsOf, .inl (cI, 7, (.inl (fun _ => 0))))]) hD hS hA [0, 1, 2, 3] rfl
  refine va_calli (va_runV (As := [.int y1]) (rest := [.int r_3]) ⟨hx, hb, hml, hown, hts⟩ (c_X11_rankOf l dC dI cB cI cJ H.size m0 m_tape m_read m_tets m_primes m_often m_normal m_termM m_termP m_termV m_sumFrom m_sumMany m_part m_fair m_heap m_pickTet m_pickEdge m_base m_baseM m_baseP m_rowsOf m_grid m_times m_boxes m_cameFrom m_cameBy m_steps m_sides m_next m_cube m_ways y1) (cwV 1 hts hL_law_X11_rankOf rfl rfl rfl (by decide +kernel) ⟨Nat.le_of_ble_eq_true rfl, Nat.le_of_ble_eq_true rfl⟩) ⟨fun a U g mk q => by obtain ⟨q0, q1, qP, qK, qD⟩ := q; exact ⟨q0, q1, qP, va_K.moved (u := U) (U := U.calling g mk a) (Vm.Alike.refl U.vm) qK, qD⟩, va_recv hK hP (ci := 11) (q0 := 0) rfl rfl, fun U hU hW => ⟨rfl, by rw [hU], by rw [hU]; exact hPc, va_K.moved hW.alike hK, hDc.weaken (fun _ _ _ _ => trivial)⟩⟩ rfl rfl hl.1 rfl (lv_room (Nat.le_of_ble_eq_true rfl)) dL_law_1365 ⟨Nat.le_of_ble_eq_true rfl, Nat.le_of_ble_eq_true rfl⟩) hS (fun q _ h => hFc q h) hFc (fun r_6 u t H1 locs ht hvm hw hB hz1 hk1 hS => ?_)
  have hP1 : va_P (dC, dI) vwCl [] H1 := fun k q h => by simp at h
  have hD1 : va_D (va_A [(m0, .inr (11, [.int 0, .ref m_tape, .int 0, .int 0, .int 0, .ref m_read, .int 0, .int 0, .int 0, .ref m_tets, .int 0, .int 0, .int 0, .int 0, .int 0, .int 0, .int 0, .int 0, .ref m_primes, .ref m_often, .ref m_normal, .ref m_termM, .ref m_termP, .ref m_termV, .ref m_sumFrom, .ref m_sumMany, .int 0, .int 0, .int 0, .int 0, .ref m_part, .ref m_fair, .ref m_heap, .ref m_pickTet, .ref m_pickEdge, .ref m_base, .ref m_baseM, .ref m_baseP, .ref m_rowsOf, .int 0, .ref m_grid, .ref m_times, .ref m_boxes, .ref m_cameFrom, .ref m_cameBy, .ref m_steps, .ref m_sides, .int 0, .int (-1), .ref m_next, .ref m_cube, .ref m_ways])), (m_sumFrom, .inl (cI, 6, (.inl (fun _ => 0)))), (m_sumMany, .inl (cI, 6, (.inl (fun _ => 0)))), (m_rowsOf, .inl (cI, 7, (.inl (fun _ => 0))))] H.size) [] := ⟨fun i j p q h => by simp at h, fun k q h => by simp at h⟩
  obtain ⟨hP, hD⟩ := va_join (wr := []) (w1 := []) hP hD [0, 1, 2, 3] [] rfl rfl (by decide) (by decide) hk1 hFc hP1 hD1
  generalize H1 = H at hP hS ⊢
  have hP : va_P (dC, dI) vwCl [] H := hP
  have hD : va_D (fun q : Nat => s.heap.size ≤ q) [] := hD
  have hr_6 := hw
  refine lv_icmp_eq (tgt := 1744) hx hb dL_law_1368 (by decide) (fun _ => ?_) (fun c => absurd (hr_3.trans hr_6.symm) c)
  refine W.widen (k := 600002) (n := 7302232) (Nat.le_of_ble_eq_true rfl) (Nat.le_of_ble_eq_true rfl) ?_
  exact la_end l C0 H _ hS ls hl
set_option maxHeartbeats 8000000 in
set_option maxRecDepth 100000 in
theorem la_30 {p : Program} {e : Env} {s : State} {m : MethodId} {below : List Frame} {meth : Method} {c : Code} (l : Launch) {b : Nat} {xs : Nat → Int32} (C0 : lw_At p s m meth c b 7 xs) (dC : Nat → ClassId) (dI : Nat → Nat → Nat) (cB cI cJ : ClassId) {x0 xTape xReader xBag xBld xAng xSum xPik xHan xIns xShr xSta xTur sM sP sA hH hR hT hM m0 m_tape m_read m_tets m_primes m_often m_normal m_termM m_termP m_termV m_sumFrom m_sumMany m_part m_fair m_heap m_pickTet m_pickEdge m_base m_baseM m_baseP m_rowsOf m_grid m_times m_boxes m_cameFrom m_cameBy m_steps m_sides m_next m_cube m_ways o0 : Nat} (H : Heap) (locs : List Loc) (hK : va_K (dC, dI) vwCl [(cB, .byte), (cI, .int), (cJ, .long)] s) (hP : va_P (dC, dI) vwCl [(x0, .inr (10, [.ref xTape, .ref xReader, .ref xBag, .ref xBld, .ref xAng, .ref xSum, .ref xPik, .int 0, .ref xHan, .ref xIns, .ref xShr, .ref xSta, .ref xTur])), (xSum, .inr (8, [.ref sM, .ref sP, .ref sA, .int 0])), (xHan, .inr (3, [.int 0, .int 0, .int 0, .ref hH, .ref hR, .ref hT, .ref hM])), (hH, .inl (cI, 7, (.inl (fun _ => 0)))), (hT, .inl (cJ, 7, (.inr (.inl (fun _ => 0))))), (hM, .inl (cJ, 6, (.inr (.inl (fun _ => 0))))), (m0, .inr (11, [.int 0, .ref m_tape, .int 0, .int 0, .int 0, .ref m_read, .int 0, .int 0, .int 0, .ref m_tets, .int 0, .int 0, .int 0, .int 0, .int 0, .int 0, .int 0, .int 0, .ref m_primes, .ref m_often, .ref m_normal, .ref m_termM, .ref m_termP, .ref m_termV, .ref m_sumFrom, .ref m_sumMany, .int 0, .int 0, .int 0, .int 0, .ref m_part, .ref m_fair, .ref m_heap, .ref m_pickTet, .ref m_pickEdge, .ref m_base, .ref m_baseM, .ref m_baseP, .ref m_rowsOf, .int 0, .ref m_grid, .ref m_times, .ref m_boxes, .ref m_cameFrom, .ref m_cameBy, .ref m_steps, .ref m_sides, .int 0, .int (-1), .ref m_next, .ref m_cube, .ref m_ways])), (m_sumFrom, .inl (cI, 6, (.inl (fun _ => 0)))), (m_sumMany, .inl (cI, 6, (.inl (fun _ => 0)))), (m_rowsOf, .inl (cI, 7, (.inl (fun _ => 0)))), (m_times, .inl (cJ, 6, (.inr (.inl (fun _ => 0)))))] H) (hD : va_D (fun q : Nat => s.heap.size ≤ q) [(x0, .inr (10, [.ref xTape, .ref xReader, .ref xBag, .ref xBld, .ref xAng, .ref xSum, .ref xPik, .int 0, .ref xHan, .ref xIns, .ref xShr, .ref xSta, .ref xTur])), (xSum, .inr (8, [.ref sM, .ref sP, .ref sA, .int 0])), (xHan, .inr (3, [.int 0, .int 0, .int 0, .ref hH, .ref hR, .ref hT, .ref hM])), (hH, .inl (cI, 7, (.inl (fun _ => 0)))), (hT, .inl (cJ, 7, (.inr (.inl (fun _ => 0))))), (hM, .inl (cJ, 6, (.inr (.inl (fun _ => 0))))), (m0, .inr (11, [.int 0, .ref m_tape, .int 0, .int 0, .int 0, .ref m_read, .int 0, .int 0, .int 0, .ref m_tets, .int 0, .int 0, .int 0, .int 0, .int 0, .int 0, .int 0, .int 0, .ref m_primes, .ref m_often, .ref m_normal, .ref m_termM, .ref m_termP, .ref m_termV, .ref m_sumFrom, .ref m_sumMany, .int 0, .int 0, .int 0, .int 0, .ref m_part, .ref m_fair, .ref m_heap, .ref m_pickTet, .ref m_pickEdge, .ref m_base, .ref m_baseM, .ref m_baseP, .ref m_rowsOf, .int 0, .ref m_grid, .ref m_times, .ref m_boxes, .ref m_cameFrom, .ref m_cameBy, .ref m_steps, .ref m_sides, .int 0, .int (-1), .ref m_next, .ref m_cube, .ref m_ways])), (m_sumFrom, .inl (cI, 6, (.inl (fun _ => 0)))), (m_sumMany, .inl (cI, 6, (.inl (fun _ => 0)))), (m_rowsOf, .inl (cI, 7, (.inl (fun _ => 0)))), (m_times, .inl (cJ, 6, (.inr (.inl (fun _ => 0)))))]) (hS : va_S (fun q : Nat => s.heap.size ≤ q) s.heap H locs) (ls : Array Slot) (hl : lv_has ls 7 [(4, .int 0), (3, .ref o0), (2, .ref m0), (1, .ref x0), (0, .ref b)]) : W p l e room_1 s m #[Value.ref b] below meth c H locs 82 28049 (lw_Z below #[Value.ref b] s) (F0 m 1373 ls []) := by
  obtain ⟨hx, hb, hr, hml, hown, htb, hX, hbl, hlocks, hgv⟩ := id C0
  have hts := htb
  have hbA : ¬ (fun q : Nat => s.heap.size ≤ q) b := Nat.not_le.mpr hbl
  have hA : ∀ q : Nat, s.heap.size ≤ q → (fun q : Nat => s.heap.size ≤ q) q := fun _ h => h
  have hN0 : va_Nw (.methodLinkNest RX3 62 yX10_gcd "ScissorsTable") s := va_Nw.of rfl (htb (.methodLinkNest RX3 62 yX10_gcd "ScissorsTable") (List.mem_of_getElem? (i := 988) (by decide +kernel)))
  obtain ⟨y1, hy1⟩ : ∃ y : Int32, y = xs (1 : Int32).toNatClampNeg := ⟨_, rfl⟩
  obtain ⟨y2, hy2⟩ : ∃ y : Int32, y = xs (2 : Int32).toNatClampNeg := ⟨_, rfl⟩
  refine lv_aload_n hx hb dL_law_1373 rfl (lv_at hl 3 rfl) ?_
  refine lv_aload_n hx hb dL_law_1374 rfl (lv_at hl 4 rfl) ?_
  refine lv_iload hx hb dL_law_1375 (lv_at hl 0 rfl) ?_
  refine lv_iconst (v := 1) hx hb dL_law_1377 (by decide) ?_
  refine lv_iadd hx hb dL_law_1378 ?_
  refine lv_topi (fun x_1 ex_1 => ?_)
  obtain rfl : x_1 = 1 := ex_1.trans (by first | rfl | decide)
  refine va_sld hx hb hX hbl hbA hS (by show ¬ (_ ∨ _); decide) dL_law_1379 ?_
  refine lv_topi (fun x_2 ex_2 => ?_)
  obtain rfl : y1 = x_2 := hy1.trans ex_2.symm
  refine lv_aload_n hx hb dL_law_1380 rfl (lv_at hl 4 rfl) ?_
  refine lv_iload hx hb dL_law_1381 (lv_at hl 0 rfl) ?_
  refine lv_iconst (v := 2) hx hb dL_law_1383 (by decide) ?_
  refine lv_iadd hx hb dL_law_1384 ?_
  refine lv_topi (fun x_3 ex_3 => ?_)
  obtain rfl : x_3 = 2 := ex_3.trans (by first | rfl | decide)
  refine va_sld hx hb hX hbl hbA hS (by show ¬ (_ ∨ _); decide) dL_law_1385 ?_
  refine lv_topi (fun x_4 ex_4 => ?_)
  obtain rfl : y2 = x_4 := hy2.trans ex_4.symm
  have hPc := hP.sub (ws' := [(x0, .inr (10, [.ref xTape, .ref xReader, .ref xBag, .ref xBld, .ref xAng, .ref xSum, .ref xPik, .int 0, .ref xHan, .ref xIns, .ref xShr, .ref xSta, .ref xTur])), (xSum, .inr (8, [.ref sM, .ref sP, .ref sA, .int 0])), (xHan, .inr (3, [.int 0, .int 0, .int 0, .ref hH, .ref hR, .ref hT, .ref hM])), (hH, .inl (cI, 7, (.inl (fun _ => 0)))), (hT, .inl (cJ, 7, (.inr (.inl (fun _ => 0))))), (hM, .inl (cJ, 6, (.inr (.inl (fun _ => 0)))))]) [0, 1, 2, 3, 4, 5] rfl
  have hDc := hD.sub (ws' := [(x0, .inr (10, [.ref xTape, .ref xReader, .ref xBag, .ref xBld, .ref xAng, .ref xSum, .ref xPik, .int 0, .ref xHan, .ref xIns, .ref xShr, .ref xSta, .ref xTur])), (xSum, .inr (8, [.ref sM, .ref sP, .ref sA, .int 0])), (xHan, .inr (3, [.int 0, .int 0, .int 0, .ref hH, .ref hR, .ref hT, .ref hM])), (hH, .inl (cI, 7, (.inl (fun _ => 0)))), (hT, .inl (cJ, 7, (.inr (.inl (fun _ => 0))))), (hM, .inl (cJ, 6, (.inr (.inl (fun _ => 0)))))]) [0, 1, 2, 3, 4, 5] (by decide) rfl
  have hFc := va_free (wc := [(x0, .inr (10, [.ref xTape, .ref xReader, .ref xBag, .ref xBld, .ref xAng, .ref xSum, .ref xPik, .int 0, .ref xHan, .ref xIns, .ref xShr, .ref xSta, .ref xTur])), (xSum, .inr (8, [.ref sM, .ref sP, .ref sA, .int 0])), (xHan, .inr (3, [.int 0, .int 0, .int 0, .ref hH, .ref hR, .ref hT, .ref hM])), (hH, .inl (cI, 7, (.inl (fun _ => 0)))), (hT, .inl (cJ, 7, (.inr (.inl (fun _ => 0))))), (hM, .inl (cJ, 6, (.inr (.inl (fun _ => 0)))))]) hD hS hA [0, 1, 2, 3, 4, 5] rfl
  refine va_calli (va_runV (As := [.int y1, .int y2]) (rest := []) ⟨hx, hb, hml, hown, hts⟩ (c_X10_relationOf l dC dI cB cI cJ H.size x0 xTape xReader xBag xBld xAng xSum xPik xHan xIns xShr xSta xTur sM sP sA hH hR hT hM y1 y2) (cwV 2 hts hL_law_X10_relationOf rfl rfl rfl (by decide +kernel) ⟨Nat.le_of_ble_eq_true rfl, Nat.le_of_ble_eq_true rfl⟩) ⟨fun a U g mk q => by obtain ⟨q0, q1, qP, qK, qD, qN0⟩ := q; exact ⟨q0, q1, qP, va_K.moved (u := U) (U := U.calling g mk a) (Vm.Alike.refl U.vm) qK, qD, va_Nw.same rfl rfl qN0⟩, va_recv hK hP (ci := 10) (q0 := 0) rfl rfl, fun U hU hW => ⟨rfl, by rw [hU], by rw [hU]; exact hPc, va_K.moved hW.alike hK, hDc.weaken (fun _ _ _ _ => trivial), va_Nw.warmM hW hN0⟩⟩ rfl rfl hl.1 rfl (lv_room (Nat.le_of_ble_eq_true rfl)) dL_law_1386 ⟨Nat.le_of_ble_eq_true rfl, Nat.le_of_ble_eq_true rfl⟩) hS (fun q _ h => hFc q h) hFc (fun r_5 u t H1 locs ht hvm hw hB hz1 hk1 hS => ?_)
  have hP1 : va_P (dC, dI) vwCl [] H1 := fun k q h => by simp at h
  have hD1 : va_D (va_A [(x0, .inr (10, [.ref xTape, .ref xReader, .ref xBag, .ref xBld, .ref xAng, .ref xSum, .ref xPik, .int 0, .ref xHan, .ref xIns, .ref xShr, .ref xSta, .ref xTur])), (xSum, .inr (8, [.ref sM, .ref sP, .ref sA, .int 0])), (xHan, .inr (3, [.int 0, .int 0, .int 0, .ref hH, .ref hR, .ref hT, .ref hM])), (hH, .inl (cI, 7, (.inl (fun _ => 0)))), (hT, .inl (cJ, 7, (.inr (.inl (fun _ => 0))))), (hM, .inl (cJ, 6, (.inr (.inl (fun _ => 0)))))] H.size) [] := ⟨fun i j p q h => by simp at h, fun k q h => by simp at h⟩
  obtain ⟨hP, hD⟩ := va_join (wr := [(m0, .inr (11, [.int 0, .ref m_tape, .int 0, .int 0, .int 0, .ref m_read, .int 0, .int 0, .int 0, .ref m_tets, .int 0, .int 0, .int 0, .int 0, .int 0, .int 0, .int 0, .int 0, .ref m_primes, .ref m_often, .ref m_normal, .ref m_termM, .ref m_termP, .ref m_termV, .ref m_sumFrom, .ref m_sumMany, .int 0, .int 0, .int 0, .int 0, .ref m_part, .ref m_fair, .ref m_heap, .ref m_pickTet, .ref m_pickEdge, .ref m_base, .ref m_baseM, .ref m_baseP, .ref m_rowsOf, .int 0, .ref m_grid, .ref m_times, .ref m_boxes, .ref m_cameFrom, .ref m_cameBy, .ref m_steps, .ref m_sides, .int 0, .int (-1), .ref m_next, .ref m_cube, .ref m_ways])), (m_sumFrom, .inl (cI, 6, (.inl (fun _ => 0)))), (m_sumMany, .inl (cI, 6, (.inl (fun _ => 0)))), (m_rowsOf, .inl (cI, 7, (.inl (fun _ => 0)))), (m_times, .inl (cJ, 6, (.inr (.inl (fun _ => 0)))))]) (w1 := []) hP hD [0, 1, 2, 3, 4, 5] [6, 7, 8, 9, 10] rfl rfl (by decide) (by decide) hk1 hFc hP1 hD1
  generalize H1 = H at hP hS ⊢
  have hP : va_P (dC, dI) vwCl [(m0, .inr (11, [.int 0, .ref m_tape, .int 0, .int 0, .int 0, .ref m_read, .int 0, .int 0, .int 0, .ref m_tets, .int 0, .int 0, .int 0, .int 0, .int 0, .int 0, .int 0, .int 0, .ref m_primes, .ref m_often, .ref m_normal, .ref m_termM, .ref m_termP, .ref m_termV, .ref m_sumFrom, .ref m_sumMany, .int 0, .int 0, .int 0, .int 0, .ref m_part, .ref m_fair, .ref m_heap, .ref m_pickTet, .ref m_pickEdge, .ref m_base, .ref m_baseM, .ref m_baseP, .ref m_rowsOf, .int 0, .ref m_grid, .ref m_times, .ref m_boxes, .ref m_cameFrom, .ref m_cameBy, .ref m_steps, .ref m_sides, .int 0, .int (-1), .ref m_next, .ref m_cube, .ref m_ways])), (m_sumFrom, .inl (cI, 6, (.inl (fun _ => 0)))), (m_sumMany, .inl (cI, 6, (.inl (fun _ => 0)))), (m_rowsOf, .inl (cI, 7, (.inl (fun _ => 0)))), (m_times, .inl (cJ, 6, (.inr (.inl (fun _ => 0)))))] H := hP
  have hD : va_D (fun q : Nat => s.heap.size ≤ q) [(m0, .inr (11, [.int 0, .ref m_tape, .int 0, .int 0, .int 0, .ref m_read, .int 0, .int 0, .int 0, .ref m_tets, .int 0, .int 0, .int 0, .int 0, .int 0, .int 0, .int 0, .int 0, .ref m_primes, .ref m_often, .ref m_normal, .ref m_termM, .ref m_termP, .ref m_termV, .ref m_sumFrom, .ref m_sumMany, .int 0, .int 0, .int 0, .int 0, .ref m_part, .ref m_fair, .ref m_heap, .ref m_pickTet, .ref m_pickEdge, .ref m_base, .ref m_baseM, .ref m_baseP, .ref m_rowsOf, .int 0, .ref m_grid, .ref m_times, .ref m_boxes, .ref m_cameFrom, .ref m_cameBy, .ref m_steps, .ref m_sides, .int 0, .int (-1), .ref m_next, .ref m_cube, .ref m_ways])), (m_sumFrom, .inl (cI, 6, (.inl (fun _ => 0)))), (m_sumMany, .inl (cI, 6, (.inl (fun _ => 0)))), (m_rowsOf, .inl (cI, 7, (.inl (fun _ => 0)))), (m_times, .inl (cJ, 6, (.inr (.inl (fun _ => 0)))))] := hD
  have hr_5 := hw
  refine lv_aload_n hx hb dL_law_1389 rfl (lv_at hl 2 rfl) ?_
  refine lv_aload_n hx hb dL_law_1390 rfl (lv_at hl 4 rfl) ?_
  refine lv_iload hx hb dL_law_1391 (lv_at hl 0 rfl) ?_
  refine lv_iconst (v := 1) hx hb dL_law_1393 (by decide) ?_
  refine lv_iadd hx hb dL_law_1394 ?_
  refine lv_topi (fun x_6 ex_6 => ?_)
  obtain rfl : x_6 = 1 := ex_6.trans (by first | rfl | decide)
  refine va_sld hx hb hX hbl hbA hS (by show ¬ (_ ∨ _); decide) dL_law_1395 ?_
  refine lv_topi (fun x_7 ex_7 => ?_)
  obtain rfl : y1 = x_7 := hy1.trans ex_7.symm
  refine lv_aload_n hx hb dL_law_1396 rfl (lv_at hl 4 rfl) ?_
  refine lv_iload hx hb dL_law_1397 (lv_at hl 0 rfl) ?_
  refine lv_iconst (v := 2) hx hb dL_law_1399 (by decide) ?_
  refine lv_iadd hx hb dL_law_1400 ?_
  refine lv_topi (fun x_8 ex_8 => ?_)
  obtain rfl : x_8 = 2 := ex_8.trans (by first | rfl | decide)
  refine va_sld hx hb hX hbl hbA hS (by show ¬ (_ ∨ _); decide) dL_law_1401 ?_
  refine lv_topi (fun x_9 ex_9 => ?_)
  obtain rfl : y2 = x_9 := hy2.trans ex_9.symm
  have hPc := hP.sub (ws' := [(m0, .inr (11, [.int 0, .ref m_tape, .int 0, .int 0, .int 0, .ref m_read, .int 0, .int 0, .int 0, .ref m_tets, .int 0, .int 0, .int 0, .int 0, .int 0, .int 0, .int 0, .int 0, .ref m_primes, .ref m_often, .ref m_normal, .ref m_termM, .ref m_termP, .ref m_termV, .ref m_sumFrom, .ref m_sumMany, .int 0, .int 0, .int 0, .int 0, .ref m_part, .ref m_fair, .ref m_heap, .ref m_pickTet, .ref m_pickEdge, .ref m_base, .ref m_baseM, .ref m_baseP, .ref m_rowsOf, .int 0, .ref m_grid, .ref m_times, .ref m_boxes, .ref m_cameFrom, .ref m_cameBy, .ref m_steps, .ref m_sides, .int 0, .int (-1), .ref m_next, .ref m_cube, .ref m_ways])), (m_sumFrom, .inl (cI, 6, (.inl (fun _ => 0)))), (m_sumMany, .inl (cI, 6, (.inl (fun _ => 0)))), (m_rowsOf, .inl (cI, 7, (.inl (fun _ => 0)))), (m_times, .inl (cJ, 6, (.inr (.inl (fun _ => 0)))))]) [0, 1, 2, 3, 4] rfl
  have hDc := hD.sub (ws' := [(m0, .inr (11, [.int 0, .ref m_tape, .int 0, .int 0, .int 0, .ref m_read, .int 0, .int 0, .int 0, .ref m_tets, .int 0, .int 0, .int 0, .int 0, .int 0, .int 0, .int 0, .int 0, .ref m_primes, .ref m_often, .ref m_normal, .ref m_termM, .ref m_termP, .ref m_termV, .ref m_sumFrom, .ref m_sumMany, .int 0, .int 0, .int 0, .int 0, .ref m_part, .ref m_fair, .ref m_heap, .ref m_pickTet, .ref m_pickEdge, .ref m_base, .ref m_baseM, .ref m_baseP, .ref m_rowsOf, .int 0, .ref m_grid, .ref m_times, .ref m_boxes, .ref m_cameFrom, .ref m_cameBy, .ref m_steps, .ref m_sides, .int 0, .int (-1), .ref m_next, .ref m_cube, .ref m_ways])), (m_sumFrom, .inl (cI, 6, (.inl (fun _ => 0)))), (m_sumMany, .inl (cI, 6, (.inl (fun _ => 0)))), (m_rowsOf, .inl (cI, 7, (.inl (fun _ => 0)))), (m_times, .inl (cJ, 6, (.inr (.inl (fun _ => 0)))))]) [0, 1, 2, 3, 4] (by decide) rfl
  have hFc := va_free (wc := [(m0, .inr (11, [.int 0, .ref m_tape, .int 0, .int 0, .int 0, .ref m_read, .int 0, .int 0, .int 0, .ref m_tets, .int 0, .int 0, .int 0, .int 0, .int 0, .int 0, .int 0, .int 0, .ref m_primes, .ref m_often, .ref m_normal, .ref m_termM, .ref m_termP, .ref m_termV, .ref m_sumFrom, .ref m_sumMany, .int 0, .int 0, .int 0, .int 0, .ref m_part, .ref m_fair, .ref m_heap, .ref m_pickTet, .ref m_pickEdge, .ref m_base, .ref m_baseM, .ref m_baseP, .ref m_rowsOf, .int 0, .ref m_grid, .ref m_times, .ref m_boxes, .ref m_cameFrom, .ref m_cameBy, .ref m_steps, .ref m_sides, .int 0, .int (-1), .ref m_next, .ref m_cube, .ref m_ways])), (m_sumFrom, .inl (cI, 6, (.inl (fun _ => 0)))), (m_sumMany, .inl (cI, 6, (.inl (fun _ => 0)))), (m_rowsOf, .inl (cI, 7, (.inl (fun _ => 0)))), (m_times, .inl (cJ, 6, (.inr (.inl (fun _ => 0)))))]) hD hS hA [0, 1, 2, 3, 4] rfl
  refine va_calli (va_runV (As := [.int y1, .int y2]) (rest := [.int r_5]) ⟨hx, hb, hml, hown, hts⟩ (c_X11_relationOf l dC dI cB cI cJ H.size m0 m_tape m_read m_tets m_primes m_often m_normal m_termM m_termP m_termV m_sumFrom m_sumMany m_part m_fair m_heap m_pickTet m_pickEdge m_base m_baseM m_baseP m_rowsOf m_grid m_times m_boxes m_cameFrom m_cameBy m_steps m_sides m_next m_cube m_ways y1 y2) (cwV 2 hts hL_law_X11_relationOf rfl rfl rfl (by decide +kernel) ⟨Nat.le_of_ble_eq_true rfl, Nat.le_of_ble_eq_true rfl⟩) ⟨fun a U g mk q => by obtain ⟨q0, q1, qP, qK, qD⟩ := q; exact ⟨q0, q1, qP, va_K.moved (u := U) (U := U.calling g mk a) (Vm.Alike.refl U.vm) qK, qD⟩, va_recv hK hP (ci := 11) (q0 := 0) rfl rfl, fun U hU hW => ⟨rfl, by rw [hU], by rw [hU]; exact hPc, va_K.moved hW.alike hK, hDc.weaken (fun _ _ _ _ => trivial)⟩⟩ rfl rfl hl.1 rfl (lv_room (Nat.le_of_ble_eq_true rfl)) dL_law_1402 ⟨Nat.le_of_ble_eq_true rfl, Nat.le_of_ble_eq_true rfl⟩) hS (fun q _ h => hFc q h) hFc (fun r_10 u t H1 locs ht hvm hw hB hz1 hk1 hS => ?_)
  have hP1 : va_P (dC, dI) vwCl [] H1 := fun k q h => by simp at h
  have hD1 : va_D (va_A [(m0, .inr (11, [.int 0, .ref m_tape, .int 0, .int 0, .int 0, .ref m_read, .int 0, .int 0, .int 0, .ref m_tets, .int 0, .int 0, .int 0, .int 0, .int 0, .int 0, .int 0, .int 0, .ref m_primes, .ref m_often, .ref m_normal, .ref m_termM, .ref m_termP, .ref m_termV, .ref m_sumFrom, .ref m_sumMany, .int 0, .int 0, .int 0, .int 0, .ref m_part, .ref m_fair, .ref m_heap, .ref m_pickTet, .ref m_pickEdge, .ref m_base, .ref m_baseM, .ref m_baseP, .ref m_rowsOf, .int 0, .ref m_grid, .ref m_times, .ref m_boxes, .ref m_cameFrom, .ref m_cameBy, .ref m_steps, .ref m_sides, .int 0, .int (-1), .ref m_next, .ref m_cube, .ref m_ways])), (m_sumFrom, .inl (cI, 6, (.inl (fun _ => 0)))), (m_sumMany, .inl (cI, 6, (.inl (fun _ => 0)))), (m_rowsOf, .inl (cI, 7, (.inl (fun _ => 0)))), (m_times, .inl (cJ, 6, (.inr (.inl (fun _ => 0)))))] H.size) [] := ⟨fun i j p q h => by simp at h, fun k q h => by simp at h⟩
  obtain ⟨hP, hD⟩ := va_join (wr := []) (w1 := []) hP hD [0, 1, 2, 3, 4] [] rfl rfl (by decide) (by decide) hk1 hFc hP1 hD1
  generalize H1 = H at hP hS ⊢
  have hP : va_P (dC, dI) vwCl [] H := hP
  have hD : va_D (fun q : Nat => s.heap.size ≤ q) [] := hD
  have hr_10 := hw
  refine lv_icmp_eq (tgt := 1744) hx hb dL_law_1405 (by decide) (fun _ => ?_) (fun c => absurd (hr_5.trans hr_10.symm) c)
  refine W.widen (k := 600002) (n := 7302232) (Nat.le_of_ble_eq_true rfl) (Nat.le_of_ble_eq_true rfl) ?_
  exact la_end l C0 H _ hS ls hl
set_option maxHeartbeats 8000000 in
set_option maxRecDepth 100000 in
theorem la_31 {p : Program} {e : Env} {s : State} {m : MethodId} {below : List Frame} {meth : Method} {c : Code} (l : Launch) {b : Nat} {xs : Nat → Int32} (C0 : lw_At p s m meth c b 7 xs) (dC : Nat → ClassId) (dI : Nat → Nat → Nat) (cB cI cJ : ClassId) {x0 xTape xReader xBag xBld xAng xSum xPik xHan xIns xShr xSta xTur sM sP sA m0 m_tape m_read m_tets m_primes m_often m_normal m_termM m_termP m_termV m_sumFrom m_sumMany m_part m_fair m_heap m_pickTet m_pickEdge m_base m_baseM m_baseP m_rowsOf m_grid m_times m_boxes m_cameFrom m_cameBy m_steps m_sides m_next m_cube m_ways o0 : Nat} (H : Heap) (locs : List Loc) (hK : va_K (dC, dI) vwCl [(cB, .byte), (cI, .int), (cJ, .long)] s) (hP : va_P (dC, dI) vwCl [(x0, .inr (10, [.ref xTape, .ref xReader, .ref xBag, .ref xBld, .ref xAng, .ref xSum, .ref xPik, .int 0, .ref xHan, .ref xIns, .ref xShr, .ref xSta, .ref xTur])), (xSum, .inr (8, [.ref sM, .ref sP, .ref sA, .int 0])), (m0, .inr (11, [.int 0, .ref m_tape, .int 0, .int 0, .int 0, .ref m_read, .int 0, .int 0, .int 0, .ref m_tets, .int 0, .int 0, .int 0, .int 0, .int 0, .int 0, .int 0, .int 0, .ref m_primes, .ref m_often, .ref m_normal, .ref m_termM, .ref m_termP, .ref m_termV, .ref m_sumFrom, .ref m_sumMany, .int 0, .int 0, .int 0, .int 0, .ref m_part, .ref m_fair, .ref m_heap, .ref m_pickTet, .ref m_pickEdge, .ref m_base, .ref m_baseM, .ref m_baseP, .ref m_rowsOf, .int 0, .ref m_grid, .ref m_times, .ref m_boxes, .ref m_cameFrom, .ref m_cameBy, .ref m_steps, .ref m_sides, .int 0, .int (-1), .ref m_next, .ref m_cube, .ref m_ways])), (m_sumFrom, .inl (cI, 6, (.inl (fun _ => 0)))), (m_sumMany, .inl (cI, 6, (.inl (fun _ => 0))))] H) (hD : va_D (fun q : Nat => s.heap.size ≤ q) [(x0, .inr (10, [.ref xTape, .ref xReader, .ref xBag, .ref xBld, .ref xAng, .ref xSum, .ref xPik, .int 0, .ref xHan, .ref xIns, .ref xShr, .ref xSta, .ref xTur])), (xSum, .inr (8, [.ref sM, .ref sP, .ref sA, .int 0])), (m0, .inr (11, [.int 0, .ref m_tape, .int 0, .int 0, .int 0, .ref m_read, .int 0, .int 0, .int 0, .ref m_tets, .int 0, .int 0, .int 0, .int 0, .int 0, .int 0, .int 0, .int 0, .ref m_primes, .ref m_often, .ref m_normal, .ref m_termM, .ref m_termP, .ref m_termV, .ref m_sumFrom, .ref m_sumMany, .int 0, .int 0, .int 0, .int 0, .ref m_part, .ref m_fair, .ref m_heap, .ref m_pickTet, .ref m_pickEdge, .ref m_base, .ref m_baseM, .ref m_baseP, .ref m_rowsOf, .int 0, .ref m_grid, .ref m_times, .ref m_boxes, .ref m_cameFrom, .ref m_cameBy, .ref m_steps, .ref m_sides, .int 0, .int (-1), .ref m_next, .ref m_cube, .ref m_ways])), (m_sumFrom, .inl (cI, 6, (.inl (fun _ => 0)))), (m_sumMany, .inl (cI, 6, (.inl (fun _ => 0))))]) (hS : va_S (fun q : Nat => s.heap.size ≤ q) s.heap H locs) (ls : Array Slot) (hl : lv_has ls 7 [(4, .int 0), (3, .ref o0), (2, .ref m0), (1, .ref x0), (0, .ref b)]) : W p l e room_1 s m #[Value.ref b] below meth c H locs 82 28049 (lw_Z below #[Value.ref b] s) (F0 m 1410 ls []) := by
  obtain ⟨hx, hb, hr, hml, hown, htb, hX, hbl, hlocks, hgv⟩ := id C0
  have hts := htb
  have hbA : ¬ (fun q : Nat => s.heap.size ≤ q) b := Nat.not_le.mpr hbl
  have hA : ∀ q : Nat, s.heap.size ≤ q → (fun q : Nat => s.heap.size ≤ q) q := fun _ h => h
  obtain ⟨y1, hy1⟩ : ∃ y : Int32, y = xs (1 : Int32).toNatClampNeg := ⟨_, rfl⟩
  obtain ⟨y2, hy2⟩ : ∃ y : Int32, y = xs (2 : Int32).toNatClampNeg := ⟨_, rfl⟩
  obtain ⟨y3, hy3⟩ : ∃ y : Int32, y = xs (3 : Int32).toNatClampNeg := ⟨_, rfl⟩
  refine lv_aload_n hx hb dL_law_1410 rfl (lv_at hl 3 rfl) ?_
  refine lv_aload_n hx hb dL_law_1411 rfl (lv_at hl 4 rfl) ?_
  refine lv_iload hx hb dL_law_1412 (lv_at hl 0 rfl) ?_
  refine lv_iconst (v := 1) hx hb dL_law_1414 (by decide) ?_
  refine lv_iadd hx hb dL_law_1415 ?_
  refine lv_topi (fun x_1 ex_1 => ?_)
  obtain rfl : x_1 = 1 := ex_1.trans (by first | rfl | decide)
  refine va_sld hx hb hX hbl hbA hS (by show ¬ (_ ∨ _); decide) dL_law_1416 ?_
  refine lv_topi (fun x_2 ex_2 => ?_)
  obtain rfl : y1 = x_2 := hy1.trans ex_2.symm
  refine lv_aload_n hx hb dL_law_1417 rfl (lv_at hl 4 rfl) ?_
  refine lv_iload hx hb dL_law_1418 (lv_at hl 0 rfl) ?_
  refine lv_iconst (v := 2) hx hb dL_law_1420 (by decide) ?_
  refine lv_iadd hx hb dL_law_1421 ?_
  refine lv_topi (fun x_3 ex_3 => ?_)
  obtain rfl : x_3 = 2 := ex_3.trans (by first | rfl | decide)
  refine va_sld hx hb hX hbl hbA hS (by show ¬ (_ ∨ _); decide) dL_law_1422 ?_
  refine lv_topi (fun x_4 ex_4 => ?_)
  obtain rfl : y2 = x_4 := hy2.trans ex_4.symm
  refine lv_aload_n hx hb dL_law_1423 rfl (lv_at hl 4 rfl) ?_
  refine lv_iload hx hb dL_law_1424 (lv_at hl 0 rfl) ?_
  refine lv_iconst (v := 3) hx hb dL_law_1426 (by decide) ?_
  refine lv_iadd hx hb dL_law_1427 ?_
  refine lv_topi (fun x_5 ex_5 => ?_)
  obtain rfl : x_5 = 3 := ex_5.trans (by first | rfl | decide)
  refine va_sld hx hb hX hbl hbA hS (by show ¬ (_ ∨ _); decide) dL_law_1428 ?_
  refine lv_topi (fun x_6 ex_6 => ?_)
  obtain rfl : y3 = x_6 := hy3.trans ex_6.symm
  have hPc := hP.sub (ws' := [(x0, .inr (10, [.ref xTape, .ref xReader, .ref xBag, .ref xBld, .ref xAng, .ref xSum, .ref xPik, .int 0, .ref xHan, .ref xIns, .ref xShr, .ref xSta, .ref xTur])), (xSum, .inr (8, [.ref sM, .ref sP, .ref sA, .int 0]))]) [0, 1] rfl
  have hDc := hD.sub (ws' := [(x0, .inr (10, [.ref xTape, .ref xReader, .ref xBag, .ref xBld, .ref xAng, .ref xSum, .ref xPik, .int 0, .ref xHan, .ref xIns, .ref xShr, .ref xSta, .ref xTur])), (xSum, .inr (8, [.ref sM, .ref sP, .ref sA, .int 0]))]) [0, 1] (by decide) rfl
  have hFc := va_free (wc := [(x0, .inr (10, [.ref xTape, .ref xReader, .ref xBag, .ref xBld, .ref xAng, .ref xSum, .ref xPik, .int 0, .ref xHan, .ref xIns, .ref xShr, .ref xSta, .ref xTur])), (xSum, .inr (8, [.ref sM, .ref sP, .ref sA, .int 0]))]) hD hS hA [0, 1] rfl
  refine va_calll (va_runV (As := [.int y1, .int y2, .int y3]) (rest := []) ⟨hx, hb, hml, hown, hts⟩ (c_X10_multiples l dC dI cB cI cJ H.size x0 xTape xReader xBag xBld xAng xSum xPik xHan xIns xShr xSta xTur sM sP sA y1 y2 y3) (cwV 3 hts hL_law_X10_multiples rfl rfl rfl (by decide +kernel) ⟨Nat.le_of_ble_eq_true rfl, Nat.le_of_ble_eq_true rfl⟩) ⟨fun a U g mk q => by obtain ⟨q0, q1, qP, qK, qD⟩ := q; exact ⟨q0, q1, qP, va_K.moved (u := U) (U := U.calling g mk a) (Vm.Alike.refl U.vm) qK, qD⟩, va_recv hK hP (ci := 10) (q0 := 0) rfl rfl, fun U hU hW => ⟨rfl, by rw [hU], by rw [hU]; exact hPc, va_K.moved hW.alike hK, hDc.weaken (fun _ _ _ _ => trivial)⟩⟩ rfl rfl hl.1 rfl (lv_room (Nat.le_of_ble_eq_true rfl)) dL_law_1429 ⟨Nat.le_of_ble_eq_true rfl, Nat.le_of_ble_eq_true rfl⟩) hS (fun q _ h => hFc q h) hFc (fun r_7 u t H1 locs ht hvm hw hB hz1 hk1 hS => ?_)
  have hP1 : va_P (dC, dI) vwCl [] H1 := fun k q h => by simp at h
  have hD1 : va_D (va_A [(x0, .inr (10, [.ref xTape, .ref xReader, .ref xBag, .ref xBld, .ref xAng, .ref xSum, .ref xPik, .int 0, .ref xHan, .ref xIns, .ref xShr, .ref xSta, .ref xTur])), (xSum, .inr (8, [.ref sM, .ref sP, .ref sA, .int 0]))] H.size) [] := ⟨fun i j p q h => by simp at h, fun k q h => by simp at h⟩
  obtain ⟨hP, hD⟩ := va_join (wr := [(m0, .inr (11, [.int 0, .ref m_tape, .int 0, .int 0, .int 0, .ref m_read, .int 0, .int 0, .int 0, .ref m_tets, .int 0, .int 0, .int 0, .int 0, .int 0, .int 0, .int 0, .int 0, .ref m_primes, .ref m_often, .ref m_normal, .ref m_termM, .ref m_termP, .ref m_termV, .ref m_sumFrom, .ref m_sumMany, .int 0, .int 0, .int 0, .int 0, .ref m_part, .ref m_fair, .ref m_heap, .ref m_pickTet, .ref m_pickEdge, .ref m_base, .ref m_baseM, .ref m_baseP, .ref m_rowsOf, .int 0, .ref m_grid, .ref m_times, .ref m_boxes, .ref m_cameFrom, .ref m_cameBy, .ref m_steps, .ref m_sides, .int 0, .int (-1), .ref m_next, .ref m_cube, .ref m_ways])), (m_sumFrom, .inl (cI, 6, (.inl (fun _ => 0)))), (m_sumMany, .inl (cI, 6, (.inl (fun _ => 0))))]) (w1 := []) hP hD [0, 1] [2, 3, 4] rfl rfl (by decide) (by decide) hk1 hFc hP1 hD1
  generalize H1 = H at hP hS ⊢
  have hP : va_P (dC, dI) vwCl [(m0, .inr (11, [.int 0, .ref m_tape, .int 0, .int 0, .int 0, .ref m_read, .int 0, .int 0, .int 0, .ref m_tets, .int 0, .int 0, .int 0, .int 0, .int 0, .int 0, .int 0, .int 0, .ref m_primes, .ref m_often, .ref m_normal, .ref m_termM, .ref m_termP, .ref m_termV, .ref m_sumFrom, .ref m_sumMany, .int 0, .int 0, .int 0, .int 0, .ref m_part, .ref m_fair, .ref m_heap, .ref m_pickTet, .ref m_pickEdge, .ref m_base, .ref m_baseM, .ref m_baseP, .ref m_rowsOf, .int 0, .ref m_grid, .ref m_times, .ref m_boxes, .ref m_cameFrom, .ref m_cameBy, .ref m_steps, .ref m_sides, .int 0, .int (-1), .ref m_next, .ref m_cube, .ref m_ways])), (m_sumFrom, .inl (cI, 6, (.inl (fun _ => 0)))), (m_sumMany, .inl (cI, 6, (.inl (fun _ => 0))))] H := hP
  have hD : va_D (fun q : Nat => s.heap.size ≤ q) [(m0, .inr (11, [.int 0, .ref m_tape, .int 0, .int 0, .int 0, .ref m_read, .int 0, .int 0, .int 0, .ref m_tets, .int 0, .int 0, .int 0, .int 0, .int 0, .int 0, .int 0, .int 0, .ref m_primes, .ref m_often, .ref m_normal, .ref m_termM, .ref m_termP, .ref m_termV, .ref m_sumFrom, .ref m_sumMany, .int 0, .int 0, .int 0, .int 0, .ref m_part, .ref m_fair, .ref m_heap, .ref m_pickTet, .ref m_pickEdge, .ref m_base, .ref m_baseM, .ref m_baseP, .ref m_rowsOf, .int 0, .ref m_grid, .ref m_times, .ref m_boxes, .ref m_cameFrom, .ref m_cameBy, .ref m_steps, .ref m_sides, .int 0, .int (-1), .ref m_next, .ref m_cube, .ref m_ways])), (m_sumFrom, .inl (cI, 6, (.inl (fun _ => 0)))), (m_sumMany, .inl (cI, 6, (.inl (fun _ => 0))))] := hD
  have hr_7 := hw
  obtain rfl : r_7 = (-1000000) := hr_7
  refine lv_aload_n hx hb dL_law_1432 rfl (lv_at hl 2 rfl) ?_
  refine lv_aload_n hx hb dL_law_1433 rfl (lv_at hl 4 rfl) ?_
  refine lv_iload hx hb dL_law_1434 (lv_at hl 0 rfl) ?_
  refine lv_iconst (v := 1) hx hb dL_law_1436 (by decide) ?_
  refine lv_iadd hx hb dL_law_1437 ?_
  refine lv_topi (fun x_8 ex_8 => ?_)
  obtain rfl : x_8 = 1 := ex_8.trans (by first | rfl | decide)
  refine va_sld hx hb hX hbl hbA hS (by show ¬ (_ ∨ _); decide) dL_law_1438 ?_
  refine lv_topi (fun x_9 ex_9 => ?_)
  obtain rfl : y1 = x_9 := hy1.trans ex_9.symm
  refine lv_aload_n hx hb dL_law_1439 rfl (lv_at hl 4 rfl) ?_
  refine lv_iload hx hb dL_law_1440 (lv_at hl 0 rfl) ?_
  refine lv_iconst (v := 2) hx hb dL_law_1442 (by decide) ?_
  refine lv_iadd hx hb dL_law_1443 ?_
  refine lv_topi (fun x_10 ex_10 => ?_)
  obtain rfl : x_10 = 2 := ex_10.trans (by first | rfl | decide)
  refine va_sld hx hb hX hbl hbA hS (by show ¬ (_ ∨ _); decide) dL_law_1444 ?_
  refine lv_topi (fun x_11 ex_11 => ?_)
  obtain rfl : y2 = x_11 := hy2.trans ex_11.symm
  refine lv_aload_n hx hb dL_law_1445 rfl (lv_at hl 4 rfl) ?_
  refine lv_iload hx hb dL_law_1446 (lv_at hl 0 rfl) ?_
  refine lv_iconst (v := 3) hx hb dL_law_1448 (by decide) ?_
  refine lv_iadd hx hb dL_law_1449 ?_
  refine lv_topi (fun x_12 ex_12 => ?_)
  obtain rfl : x_12 = 3 := ex_12.trans (by first | rfl | decide)
  refine va_sld hx hb hX hbl hbA hS (by show ¬ (_ ∨ _); decide) dL_law_1450 ?_
  refine lv_topi (fun x_13 ex_13 => ?_)
  obtain rfl : y3 = x_13 := hy3.trans ex_13.symm
  have hPc := hP.sub (ws' := [(m0, .inr (11, [.int 0, .ref m_tape, .int 0, .int 0, .int 0, .ref m_read, .int 0, .int 0, .int 0, .ref m_tets, .int 0, .int 0, .int 0, .int 0, .int 0, .int 0, .int 0, .int 0, .ref m_primes, .ref m_often, .ref m_normal, .ref m_termM, .ref m_termP, .ref m_termV, .ref m_sumFrom, .ref m_sumMany, .int 0, .int 0, .int 0, .int 0, .ref m_part, .ref m_fair, .ref m_heap, .ref m_pickTet, .ref m_pickEdge, .ref m_base, .ref m_baseM, .ref m_baseP, .ref m_rowsOf, .int 0, .ref m_grid, .ref m_times, .ref m_boxes, .ref m_cameFrom, .ref m_cameBy, .ref m_steps, .ref m_sides, .int 0, .int (-1), .ref m_next, .ref m_cube, .ref m_ways])), (m_sumFrom, .inl (cI, 6, (.inl (fun _ => 0)))), (m_sumMany, .inl (cI, 6, (.inl (fun _ => 0))))]) [0, 1, 2] rfl
  have hDc := hD.sub (ws' := [(m0, .inr (11, [.int 0, .ref m_tape, .int 0, .int 0, .int 0, .ref m_read, .int 0, .int 0, .int 0, .ref m_tets, .int 0, .int 0, .int 0, .int 0, .int 0, .int 0, .int 0, .int 0, .ref m_primes, .ref m_often, .ref m_normal, .ref m_termM, .ref m_termP, .ref m_termV, .ref m_sumFrom, .ref m_sumMany, .int 0, .int 0, .int 0, .int 0, .ref m_part, .ref m_fair, .ref m_heap, .ref m_pickTet, .ref m_pickEdge, .ref m_base, .ref m_baseM, .ref m_baseP, .ref m_rowsOf, .int 0, .ref m_grid, .ref m_times, .ref m_boxes, .ref m_cameFrom, .ref m_cameBy, .ref m_steps, .ref m_sides, .int 0, .int (-1), .ref m_next, .ref m_cube, .ref m_ways])), (m_sumFrom, .inl (cI, 6, (.inl (fun _ => 0)))), (m_sumMany, .inl (cI, 6, (.inl (fun _ => 0))))]) [0, 1, 2] (by decide) rfl
  have hFc := va_free (wc := [(m0, .inr (11, [.int 0, .ref m_tape, .int 0, .int 0, .int 0, .ref m_read, .int 0, .int 0, .int 0, .ref m_tets, .int 0, .int 0, .int 0, .int 0, .int 0, .int 0, .int 0, .int 0, .ref m_primes, .ref m_often, .ref m_normal, .ref m_termM, .ref m_termP, .ref m_termV, .ref m_sumFrom, .ref m_sumMany, .int 0, .int 0, .int 0, .int 0, .ref m_part, .ref m_fair, .ref m_heap, .ref m_pickTet, .ref m_pickEdge, .ref m_base, .ref m_baseM, .ref m_baseP, .ref m_rowsOf, .int 0, .ref m_grid, .ref m_times, .ref m_boxes, .ref m_cameFrom, .ref m_cameBy, .ref m_steps, .ref m_sides, .int 0, .int (-1), .ref m_next, .ref m_cube, .ref m_ways])), (m_sumFrom, .inl (cI, 6, (.inl (fun _ => 0)))), (m_sumMany, .inl (cI, 6, (.inl (fun _ => 0))))]) hD hS hA [0, 1, 2] rfl
  refine va_calll (va_runV (As := [.int y1, .int y2, .int y3]) (rest := [.long (-1000000)]) ⟨hx, hb, hml, hown, hts⟩ (c_X11_multiples l dC dI cB cI cJ H.size m0 m_tape m_read m_tets m_primes m_often m_normal m_termM m_termP m_termV m_sumFrom m_sumMany m_part m_fair m_heap m_pickTet m_pickEdge m_base m_baseM m_baseP m_rowsOf m_grid m_times m_boxes m_cameFrom m_cameBy m_steps m_sides m_next m_cube m_ways y1 y2 y3) (cwV 3 hts hL_law_X11_multiples rfl rfl rfl (by decide +kernel) ⟨Nat.le_of_ble_eq_true rfl, Nat.le_of_ble_eq_true rfl⟩) ⟨fun a U g mk q => by obtain ⟨q0, q1, qP, qK, qD⟩ := q; exact ⟨q0, q1, qP, va_K.moved (u := U) (U := U.calling g mk a) (Vm.Alike.refl U.vm) qK, qD⟩, va_recv hK hP (ci := 11) (q0 := 0) rfl rfl, fun U hU hW => ⟨rfl, by rw [hU], by rw [hU]; exact hPc, va_K.moved hW.alike hK, hDc.weaken (fun _ _ _ _ => trivial)⟩⟩ rfl rfl hl.1 rfl (lv_room (Nat.le_of_ble_eq_true rfl)) dL_law_1451 ⟨Nat.le_of_ble_eq_true rfl, Nat.le_of_ble_eq_true rfl⟩) hS (fun q _ h => hFc q h) hFc (fun r_14 u t H1 locs ht hvm hw hB hz1 hk1 hS => ?_)
  have hP1 : va_P (dC, dI) vwCl [] H1 := fun k q h => by simp at h
  have hD1 : va_D (va_A [(m0, .inr (11, [.int 0, .ref m_tape, .int 0, .int 0, .int 0, .ref m_read, .int 0, .int 0, .int 0, .ref m_tets, .int 0, .int 0, .int 0, .int 0, .int 0, .int 0, .int 0, .int 0, .ref m_primes, .ref m_often, .ref m_normal, .ref m_termM, .ref m_termP, .ref m_termV, .ref m_sumFrom, .ref m_sumMany, .int 0, .int 0, .int 0, .int 0, .ref m_part, .ref m_fair, .ref m_heap, .ref m_pickTet, .ref m_pickEdge, .ref m_base, .ref m_baseM, .ref m_baseP, .ref m_rowsOf, .int 0, .ref m_grid, .ref m_times, .ref m_boxes, .ref m_cameFrom, .ref m_cameBy, .ref m_steps, .ref m_sides, .int 0, .int (-1), .ref m_next, .ref m_cube, .ref m_ways])), (m_sumFrom, .inl (cI, 6, (.inl (fun _ => 0)))), (m_sumMany, .inl (cI, 6, (.inl (fun _ => 0))))] H.size) [] := ⟨fun i j p q h => by simp at h, fun k q h => by simp at h⟩
  obtain ⟨hP, hD⟩ := va_join (wr := []) (w1 := []) hP hD [0, 1, 2] [] rfl rfl (by decide) (by decide) hk1 hFc hP1 hD1
  generalize H1 = H at hP hS ⊢
  have hP : va_P (dC, dI) vwCl [] H := hP
  have hD : va_D (fun q : Nat => s.heap.size ≤ q) [] := hD
  have hr_14 := hw
  obtain rfl : r_14 = (-1000000) := hr_14
  refine W.lcmp hx hb dL_law_1454 ?_
  refine lv_topi (fun x_15 ex_15 => ?_)
  obtain rfl : x_15 = 0 := ex_15.trans (by first | rfl | decide)
  refine lv_if_eq (tgt := 1744) hx hb dL_law_1455 (by decide) (fun _ => ?_) (fun c => absurd (by decide) c)
  refine W.widen (k := 600002) (n := 7302232) (Nat.le_of_ble_eq_true rfl) (Nat.le_of_ble_eq_true rfl) ?_
  exact la_end l C0 H _ hS ls hl
set_option maxHeartbeats 8000000 in
set_option maxRecDepth 100000 in
theorem la_32 {p : Program} {e : Env} {s : State} {m : MethodId} {below : List Frame} {meth : Method} {c : Code} (l : Launch) {b : Nat} {xs : Nat → Int32} (C0 : lw_At p s m meth c b 7 xs) (dC : Nat → ClassId) (dI : Nat → Nat → Nat) (cB cI cJ : ClassId) {x0 xTape xReader xBag xBld xAng xSum xPik xHan xIns xShr xSta xTur fL fS fP fT fA fQ fR fN m0 m_tape m_read m_tets m_primes m_often m_normal m_termM m_termP m_termV m_sumFrom m_sumMany m_part m_fair m_heap m_pickTet m_pickEdge m_base m_baseM m_baseP m_rowsOf m_grid m_times m_boxes m_cameFrom m_cameBy m_steps m_sides m_next m_cube m_ways o0 : Nat} (H : Heap) (locs : List Loc) (hK : va_K (dC, dI) vwCl [(cB, .byte), (cI, .int), (cJ, .long)] s) (hP : va_P (dC, dI) vwCl [(x0, .inr (10, [.ref xTape, .ref xReader, .ref xBag, .ref xBld, .ref xAng, .ref xSum, .ref xPik, .int 0, .ref xHan, .ref xIns, .ref xShr, .ref xSta, .ref xTur])), (xSta, .inr (7, [.int (-1), .ref fL, .ref fS, .ref fP, .ref fT, .ref fA, .ref fQ, .ref fR, .int 0, .ref fN])), (fL, .inl (cI, 576, (.inl (fun _ => 0)))), (fS, .inl (cI, 3, (.inl (fun _ => 0)))), (fT, .inl (cI, 3, (.inl (fun _ => 0)))), (fA, .inl (cI, 576, (.inl (fun _ => 0)))), (fQ, .inl (cI, 576, (.inl (fun _ => 0)))), (fR, .inl (cI, 576, (.inl (fun _ => 0)))), (m0, .inr (11, [.int 0, .ref m_tape, .int 0, .int 0, .int 0, .ref m_read, .int 0, .int 0, .int 0, .ref m_tets, .int 0, .int 0, .int 0, .int 0, .int 0, .int 0, .int 0, .int 0, .ref m_primes, .ref m_often, .ref m_normal, .ref m_termM, .ref m_termP, .ref m_termV, .ref m_sumFrom, .ref m_sumMany, .int 0, .int 0, .int 0, .int 0, .ref m_part, .ref m_fair, .ref m_heap, .ref m_pickTet, .ref m_pickEdge, .ref m_base, .ref m_baseM, .ref m_baseP, .ref m_rowsOf, .int 0, .ref m_grid, .ref m_times, .ref m_boxes, .ref m_cameFrom, .ref m_cameBy, .ref m_steps, .ref m_sides, .int 0, .int (-1), .ref m_next, .ref m_cube, .ref m_ways])), (m_boxes, .inl (cI, 3600, (.inl (fun _ => 0)))), (m_cameFrom, .inl (cI, 1200, (.inl (fun _ => 0)))), (m_cameBy, .inl (cI, 1200, (.inl (fun _ => 0)))), (m_steps, .inl (cI, 60, (.inl (fun _ => 0)))), (m_sides, .inl (cI, 183, (.inl (fun _ => 0)))), (m_next, .inl (cI, 3, (.inl (fun _ => 0))))] H) (hD : va_D (fun q : Nat => s.heap.size ≤ q) [(x0, .inr (10, [.ref xTape, .ref xReader, .ref xBag, .ref xBld, .ref xAng, .ref xSum, .ref xPik, .int 0, .ref xHan, .ref xIns, .ref xShr, .ref xSta, .ref xTur])), (xSta, .inr (7, [.int (-1), .ref fL, .ref fS, .ref fP, .ref fT, .ref fA, .ref fQ, .ref fR, .int 0, .ref fN])), (fL, .inl (cI, 576, (.inl (fun _ => 0)))), (fS, .inl (cI, 3, (.inl (fun _ => 0)))), (fT, .inl (cI, 3, (.inl (fun _ => 0)))), (fA, .inl (cI, 576, (.inl (fun _ => 0)))), (fQ, .inl (cI, 576, (.inl (fun _ => 0)))), (fR, .inl (cI, 576, (.inl (fun _ => 0)))), (m0, .inr (11, [.int 0, .ref m_tape, .int 0, .int 0, .int 0, .ref m_read, .int 0, .int 0, .int 0, .ref m_tets, .int 0, .int 0, .int 0, .int 0, .int 0, .int 0, .int 0, .int 0, .ref m_primes, .ref m_often, .ref m_normal, .ref m_termM, .ref m_termP, .ref m_termV, .ref m_sumFrom, .ref m_sumMany, .int 0, .int 0, .int 0, .int 0, .ref m_part, .ref m_fair, .ref m_heap, .ref m_pickTet, .ref m_pickEdge, .ref m_base, .ref m_baseM, .ref m_baseP, .ref m_rowsOf, .int 0, .ref m_grid, .ref m_times, .ref m_boxes, .ref m_cameFrom, .ref m_cameBy, .ref m_steps, .ref m_sides, .int 0, .int (-1), .ref m_next, .ref m_cube, .ref m_ways])), (m_boxes, .inl (cI, 3600, (.inl (fun _ => 0)))), (m_cameFrom, .inl (cI, 1200, (.inl (fun _ => 0)))), (m_cameBy, .inl (cI, 1200, (.inl (fun _ => 0)))), (m_steps, .inl (cI, 60, (.inl (fun _ => 0)))), (m_sides, .inl (cI, 183, (.inl (fun _ => 0)))), (m_next, .inl (cI, 3, (.inl (fun _ => 0))))]) (hS : va_S (fun q : Nat => s.heap.size ≤ q) s.heap H locs) (ls : Array Slot) (hl : lv_has ls 7 [(4, .int 0), (3, .ref o0), (2, .ref m0), (1, .ref x0), (0, .ref b)]) : W p l e room_1 s m #[Value.ref b] below meth c H locs 82 28049 (lw_Z below #[Value.ref b] s) (F0 m 1460 ls []) := by
  obtain ⟨hx, hb, hr, hml, hown, htb, hX, hbl, hlocks, hgv⟩ := id C0
  have hts := htb
  have hbA : ¬ (fun q : Nat => s.heap.size ≤ q) b := Nat.not_le.mpr hbl
  have hA : ∀ q : Nat, s.heap.size ≤ q → (fun q : Nat => s.heap.size ≤ q) q := fun _ h => h
  obtain ⟨y1, hy1⟩ : ∃ y : Int32, y = xs (1 : Int32).toNatClampNeg := ⟨_, rfl⟩
  obtain ⟨y2, hy2⟩ : ∃ y : Int32, y = xs (2 : Int32).toNatClampNeg := ⟨_, rfl⟩
  obtain ⟨y3, hy3⟩ : ∃ y : Int32, y = xs (3 : Int32).toNatClampNeg := ⟨_, rfl⟩
  obtain ⟨y4, hy4⟩ : ∃ y : Int32, y = xs (4 : Int32).toNatClampNeg := ⟨_, rfl⟩
  obtain ⟨y5, hy5⟩ : ∃ y : Int32, y = xs (5 : Int32).toNatClampNeg := ⟨_, rfl⟩
  obtain ⟨y6, hy6⟩ : ∃ y : Int32, y = xs (6 : Int32).toNatClampNeg := ⟨_, rfl⟩
  refine lv_aload_n hx hb dL_law_1460 rfl (lv_at hl 3 rfl) ?_
  refine lv_aload_n hx hb dL_law_1461 rfl (lv_at hl 4 rfl) ?_
  refine lv_iload hx hb dL_law_1462 (lv_at hl 0 rfl) ?_
  refine lv_iconst (v := 1) hx hb dL_law_1464 (by decide) ?_
  refine lv_iadd hx hb dL_law_1465 ?_
  refine lv_topi (fun x_1 ex_1 => ?_)
  obtain rfl : x_1 = 1 := ex_1.trans (by first | rfl | decide)
  refine va_sld hx hb hX hbl hbA hS (by show ¬ (_ ∨ _); decide) dL_law_1466 ?_
  refine lv_topi (fun x_2 ex_2 => ?_)
  obtain rfl : y1 = x_2 := hy1.trans ex_2.symm
  refine lv_aload_n hx hb dL_law_1467 rfl (lv_at hl 4 rfl) ?_
  refine lv_iload hx hb dL_law_1468 (lv_at hl 0 rfl) ?_
  refine lv_iconst (v := 2) hx hb dL_law_1470 (by decide) ?_
  refine lv_iadd hx hb dL_law_1471 ?_
  refine lv_topi (fun x_3 ex_3 => ?_)
  obtain rfl : x_3 = 2 := ex_3.trans (by first | rfl | decide)
  refine va_sld hx hb hX hbl hbA hS (by show ¬ (_ ∨ _); decide) dL_law_1472 ?_
  refine lv_topi (fun x_4 ex_4 => ?_)
  obtain rfl : y2 = x_4 := hy2.trans ex_4.symm
  refine lv_aload_n hx hb dL_law_1473 rfl (lv_at hl 4 rfl) ?_
  refine lv_iload hx hb dL_law_1474 (lv_at hl 0 rfl) ?_
  refine lv_iconst (v := 3) hx hb dL_law_1476 (by decide) ?_
  refine lv_iadd hx hb dL_law_1477 ?_
  refine lv_topi (fun x_5 ex_5 => ?_)
  obtain rfl : x_5 = 3 := ex_5.trans (by first | rfl | decide)
  refine va_sld hx hb hX hbl hbA hS (by show ¬ (_ ∨ _); decide) dL_law_1478 ?_
  refine lv_topi (fun x_6 ex_6 => ?_)
  obtain rfl : y3 = x_6 := hy3.trans ex_6.symm
  refine lv_aload_n hx hb dL_law_1479 rfl (lv_at hl 4 rfl) ?_
  refine lv_iload hx hb dL_law_1480 (lv_at hl 0 rfl) ?_
  refine lv_iconst (v := 4) hx hb dL_law_1482 (by decide) ?_
  refine lv_iadd hx hb dL_law_1483 ?_
  refine lv_topi (fun x_7 ex_7 => ?_)
  obtain rfl : x_7 = 4 := ex_7.trans (by first | rfl | decide)
  refine va_sld hx hb hX hbl hbA hS (by show ¬ (_ ∨ _); decide) dL_law_1484 ?_
  refine lv_topi (fun x_8 ex_8 => ?_)
  obtain rfl : y4 = x_8 := hy4.trans ex_8.symm
  refine lv_aload_n hx hb dL_law_1485 rfl (lv_at hl 4 rfl) ?_
  refine lv_iload hx hb dL_law_1486 (lv_at hl 0 rfl) ?_
  refine lv_iconst (v := 5) hx hb dL_law_1488 (by decide) ?_
  refine lv_iadd hx hb dL_law_1489 ?_
  refine lv_topi (fun x_9 ex_9 => ?_)
  obtain rfl : x_9 = 5 := ex_9.trans (by first | rfl | decide)
  refine va_sld hx hb hX hbl hbA hS (by show ¬ (_ ∨ _); decide) dL_law_1490 ?_
  refine lv_topi (fun x_10 ex_10 => ?_)
  obtain rfl : y5 = x_10 := hy5.trans ex_10.symm
  refine lv_aload_n hx hb dL_law_1491 rfl (lv_at hl 4 rfl) ?_
  refine lv_iload hx hb dL_law_1492 (lv_at hl 0 rfl) ?_
  refine lv_bipush (v := 6) hx hb dL_law_1494 (by decide) ?_
  refine lv_iadd hx hb dL_law_1496 ?_
  refine lv_topi (fun x_11 ex_11 => ?_)
  obtain rfl : x_11 = 6 := ex_11.trans (by first | rfl | decide)
  refine va_sld hx hb hX hbl hbA hS (by show ¬ (_ ∨ _); decide) dL_law_1497 ?_
  refine lv_topi (fun x_12 ex_12 => ?_)
  obtain rfl : y6 = x_12 := hy6.trans ex_12.symm
  have hPc := hP.sub (ws' := [(x0, .inr (10, [.ref xTape, .ref xReader, .ref xBag, .ref xBld, .ref xAng, .ref xSum, .ref xPik, .int 0, .ref xHan, .ref xIns, .ref xShr, .ref xSta, .ref xTur])), (xSta, .inr (7, [.int (-1), .ref fL, .ref fS, .ref fP, .ref fT, .ref fA, .ref fQ, .ref fR, .int 0, .ref fN])), (fS, .inl (cI, 3, (.inl (fun _ => 0)))), (fA, .inl (cI, 576, (.inl (fun _ => 0)))), (fQ, .inl (cI, 576, (.inl (fun _ => 0)))), (fR, .inl (cI, 576, (.inl (fun _ => 0)))), (fL, .inl (cI, 576, (.inl (fun _ => 0)))), (fT, .inl (cI, 3, (.inl (fun _ => 0))))]) [0, 1, 3, 5, 6, 7, 2, 4] rfl
  have hDc := hD.sub (ws' := [(x0, .inr (10, [.ref xTape, .ref xReader, .ref xBag, .ref xBld, .ref xAng, .ref xSum, .ref xPik, .int 0, .ref xHan, .ref xIns, .ref xShr, .ref xSta, .ref xTur])), (xSta, .inr (7, [.int (-1), .ref fL, .ref fS, .ref fP, .ref fT, .ref fA, .ref fQ, .ref fR, .int 0, .ref fN])), (fS, .inl (cI, 3, (.inl (fun _ => 0)))), (fA, .inl (cI, 576, (.inl (fun _ => 0)))), (fQ, .inl (cI, 576, (.inl (fun _ => 0)))), (fR, .inl (cI, 576, (.inl (fun _ => 0)))), (fL, .inl (cI, 576, (.inl (fun _ => 0)))), (fT, .inl (cI, 3, (.inl (fun _ => 0))))]) [0, 1, 3, 5, 6, 7, 2, 4] (by decide) rfl
  have hFc := va_free (wc := [(x0, .inr (10, [.ref xTape, .ref xReader, .ref xBag, .ref xBld, .ref xAng, .ref xSum, .ref xPik, .int 0, .ref xHan, .ref xIns, .ref xShr, .ref xSta, .ref xTur])), (xSta, .inr (7, [.int (-1), .ref fL, .ref fS, .ref fP, .ref fT, .ref fA, .ref fQ, .ref fR, .int 0, .ref fN])), (fS, .inl (cI, 3, (.inl (fun _ => 0)))), (fA, .inl (cI, 576, (.inl (fun _ => 0)))), (fQ, .inl (cI, 576, (.inl (fun _ => 0)))), (fR, .inl (cI, 576, (.inl (fun _ => 0)))), (fL, .inl (cI, 576, (.inl (fun _ => 0)))), (fT, .inl (cI, 3, (.inl (fun _ => 0))))]) hD hS hA [0, 1, 3, 5, 6, 7, 2, 4] rfl
  refine va_calli (va_runV (As := [.int y1, .int y2, .int y3, .int y4, .int y5, .int y6]) (rest := []) ⟨hx, hb, hml, hown, hts⟩ (c_X10_plan l dC dI cB cI cJ H.size x0 xTape xReader xBag xBld xAng xSum xPik xHan xIns xShr xSta xTur fL fS fP fT fA fQ fR fN y1 y2 y3 y4 y5 y6) (cwV 6 hts hL_law_X10_plan rfl rfl rfl (by decide +kernel) ⟨Nat.le_of_ble_eq_true rfl, Nat.le_of_ble_eq_true rfl⟩) ⟨fun a U g mk q => by obtain ⟨q0, q1, qP, qK, qD⟩ := q; exact ⟨q0, q1, qP, va_K.moved (u := U) (U := U.calling g mk a) (Vm.Alike.refl U.vm) qK, qD⟩, va_recv hK hP (ci := 10) (q0 := 0) rfl rfl, fun U hU hW => ⟨rfl, by rw [hU], by rw [hU]; exact hPc, va_K.moved hW.alike hK, hDc.weaken (fun _ _ _ _ => trivial)⟩⟩ rfl rfl hl.1 rfl (lv_room (Nat.le_of_ble_eq_true rfl)) dL_law_1498 ⟨Nat.le_of_ble_eq_true rfl, Nat.le_of_ble_eq_true rfl⟩) hS (fun q _ h => hFc q h) hFc (fun r_13 u t H1 locs ht hvm hw hB hz1 hk1 hS => ?_)
  have hP1 : va_P (dC, dI) vwCl [] H1 := fun k q h => by simp at h
  have hD1 : va_D (va_A [(x0, .inr (10, [.ref xTape, .ref xReader, .ref xBag, .ref xBld, .ref xAng, .ref xSum, .ref xPik, .int 0, .ref xHan, .ref xIns, .ref xShr, .ref xSta, .ref xTur])), (xSta, .inr (7, [.int (-1), .ref fL, .ref fS, .ref fP, .ref fT, .ref fA, .ref fQ, .ref fR, .int 0, .ref fN])), (fS, .inl (cI, 3, (.inl (fun _ => 0)))), (fA, .inl (cI, 576, (.inl (fun _ => 0)))), (fQ, .inl (cI, 576, (.inl (fun _ => 0)))), (fR, .inl (cI, 576, (.inl (fun _ => 0)))), (fL, .inl (cI, 576, (.inl (fun _ => 0)))), (fT, .inl (cI, 3, (.inl (fun _ => 0))))] H.size) [] := ⟨fun i j p q h => by simp at h, fun k q h => by simp at h⟩
  obtain ⟨hP, hD⟩ := va_join (wr := [(m0, .inr (11, [.int 0, .ref m_tape, .int 0, .int 0, .int 0, .ref m_read, .int 0, .int 0, .int 0, .ref m_tets, .int 0, .int 0, .int 0, .int 0, .int 0, .int 0, .int 0, .int 0, .ref m_primes, .ref m_often, .ref m_normal, .ref m_termM, .ref m_termP, .ref m_termV, .ref m_sumFrom, .ref m_sumMany, .int 0, .int 0, .int 0, .int 0, .ref m_part, .ref m_fair, .ref m_heap, .ref m_pickTet, .ref m_pickEdge, .ref m_base, .ref m_baseM, .ref m_baseP, .ref m_rowsOf, .int 0, .ref m_grid, .ref m_times, .ref m_boxes, .ref m_cameFrom, .ref m_cameBy, .ref m_steps, .ref m_sides, .int 0, .int (-1), .ref m_next, .ref m_cube, .ref m_ways])), (m_boxes, .inl (cI, 3600, (.inl (fun _ => 0)))), (m_cameFrom, .inl (cI, 1200, (.inl (fun _ => 0)))), (m_cameBy, .inl (cI, 1200, (.inl (fun _ => 0)))), (m_steps, .inl (cI, 60, (.inl (fun _ => 0)))), (m_sides, .inl (cI, 183, (.inl (fun _ => 0)))), (m_next, .inl (cI, 3, (.inl (fun _ => 0))))]) (w1 := []) hP hD [0, 1, 3, 5, 6, 7, 2, 4] [8, 9, 10, 11, 12, 13, 14] rfl rfl (by decide) (by decide) hk1 hFc hP1 hD1
  generalize H1 = H at hP hS ⊢
  have hP : va_P (dC, dI) vwCl [(m0, .inr (11, [.int 0, .ref m_tape, .int 0, .int 0, .int 0, .ref m_read, .int 0, .int 0, .int 0, .ref m_tets, .int 0, .int 0, .int 0, .int 0, .int 0, .int 0, .int 0, .int 0, .ref m_primes, .ref m_often, .ref m_normal, .ref m_termM, .ref m_termP, .ref m_termV, .ref m_sumFrom, .ref m_sumMany, .int 0, .int 0, .int 0, .int 0, .ref m_part, .ref m_fair, .ref m_heap, .ref m_pickTet, .ref m_pickEdge, .ref m_base, .ref m_baseM, .ref m_baseP, .ref m_rowsOf, .int 0, .ref m_grid, .ref m_times, .ref m_boxes, .ref m_cameFrom, .ref m_cameBy, .ref m_steps, .ref m_sides, .int 0, .int (-1), .ref m_next, .ref m_cube, .ref m_ways])), (m_boxes, .inl (cI, 3600, (.inl (fun _ => 0)))), (m_cameFrom, .inl (cI, 1200, (.inl (fun _ => 0)))), (m_cameBy, .inl (cI, 1200, (.inl (fun _ => 0)))), (m_steps, .inl (cI, 60, (.inl (fun _ => 0)))), (m_sides, .inl (cI, 183, (.inl (fun _ => 0)))), (m_next, .inl (cI, 3, (.inl (fun _ => 0))))] H := hP
  have hD : va_D (fun q : Nat => s.heap.size ≤ q) [(m0, .inr (11, [.int 0, .ref m_tape, .int 0, .int 0, .int 0, .ref m_read, .int 0, .int 0, .int 0, .ref m_tets, .int 0, .int 0, .int 0, .int 0, .int 0, .int 0, .int 0, .int 0, .ref m_primes, .ref m_often, .ref m_normal, .ref m_termM, .ref m_termP, .ref m_termV, .ref m_sumFrom, .ref m_sumMany, .int 0, .int 0, .int 0, .int 0, .ref m_part, .ref m_fair, .ref m_heap, .ref m_pickTet, .ref m_pickEdge, .ref m_base, .ref m_baseM, .ref m_baseP, .ref m_rowsOf, .int 0, .ref m_grid, .ref m_times, .ref m_boxes, .ref m_cameFrom, .ref m_cameBy, .ref m_steps, .ref m_sides, .int 0, .int (-1), .ref m_next, .ref m_cube, .ref m_ways])), (m_boxes, .inl (cI, 3600, (.inl (fun _ => 0)))), (m_cameFrom, .inl (cI, 1200, (.inl (fun _ => 0)))), (m_cameBy, .inl (cI, 1200, (.inl (fun _ => 0)))), (m_steps, .inl (cI, 60, (.inl (fun _ => 0)))), (m_sides, .inl (cI, 183, (.inl (fun _ => 0)))), (m_next, .inl (cI, 3, (.inl (fun _ => 0))))] := hD
  have hr_13 := hw
  refine lv_aload_n hx hb dL_law_1501 rfl (lv_at hl 2 rfl) ?_
  refine lv_aload_n hx hb dL_law_1502 rfl (lv_at hl 4 rfl) ?_
  refine lv_iload hx hb dL_law_1503 (lv_at hl 0 rfl) ?_
  refine lv_iconst (v := 1) hx hb dL_law_1505 (by decide) ?_
  refine lv_iadd hx hb dL_law_1506 ?_
  refine lv_topi (fun x_14 ex_14 => ?_)
  obtain rfl : x_14 = 1 := ex_14.trans (by first | rfl | decide)
  refine va_sld hx hb hX hbl hbA hS (by show ¬ (_ ∨ _); decide) dL_law_1507 ?_
  refine lv_topi (fun x_15 ex_15 => ?_)
  obtain rfl : y1 = x_15 := hy1.trans ex_15.symm
  refine lv_aload_n hx hb dL_law_1508 rfl (lv_at hl 4 rfl) ?_
  refine lv_iload hx hb dL_law_1509 (lv_at hl 0 rfl) ?_
  refine lv_iconst (v := 2) hx hb dL_law_1511 (by decide) ?_
  refine lv_iadd hx hb dL_law_1512 ?_
  refine lv_topi (fun x_16 ex_16 => ?_)
  obtain rfl : x_16 = 2 := ex_16.trans (by first | rfl | decide)
  refine va_sld hx hb hX hbl hbA hS (by show ¬ (_ ∨ _); decide) dL_law_1513 ?_
  refine lv_topi (fun x_17 ex_17 => ?_)
  obtain rfl : y2 = x_17 := hy2.trans ex_17.symm
  refine lv_aload_n hx hb dL_law_1514 rfl (lv_at hl 4 rfl) ?_
  refine lv_iload hx hb dL_law_1515 (lv_at hl 0 rfl) ?_
  refine lv_iconst (v := 3) hx hb dL_law_1517 (by decide) ?_
  refine lv_iadd hx hb dL_law_1518 ?_
  refine lv_topi (fun x_18 ex_18 => ?_)
  obtain rfl : x_18 = 3 := ex_18.trans (by first | rfl | decide)
  refine va_sld hx hb hX hbl hbA hS (by show ¬ (_ ∨ _); decide) dL_law_1519 ?_
  refine lv_topi (fun x_19 ex_19 => ?_)
  obtain rfl : y3 = x_19 := hy3.trans ex_19.symm
  refine lv_aload_n hx hb dL_law_1520 rfl (lv_at hl 4 rfl) ?_
  refine lv_iload hx hb dL_law_1521 (lv_at hl 0 rfl) ?_
  refine lv_iconst (v := 4) hx hb dL_law_1523 (by decide) ?_
  refine lv_iadd hx hb dL_law_1524 ?_
  refine lv_topi (fun x_20 ex_20 => ?_)
  obtain rfl : x_20 = 4 := ex_20.trans (by first | rfl | decide)
  refine va_sld hx hb hX hbl hbA hS (by show ¬ (_ ∨ _); decide) dL_law_1525 ?_
  refine lv_topi (fun x_21 ex_21 => ?_)
  obtain rfl : y4 = x_21 := hy4.trans ex_21.symm
  refine lv_aload_n hx hb dL_law_1526 rfl (lv_at hl 4 rfl) ?_
  refine lv_iload hx hb dL_law_1527 (lv_at hl 0 rfl) ?_
  refine lv_iconst (v := 5) hx hb dL_law_1529 (by decide) ?_
  refine lv_iadd hx hb dL_law_1530 ?_
  refine lv_topi (fun x_22 ex_22 => ?_)
  obtain rfl : x_22 = 5 := ex_22.trans (by first | rfl | decide)
  refine va_sld hx hb hX hbl hbA hS (by show ¬ (_ ∨ _); decide) dL_law_1531 ?_
  refine lv_topi (fun x_23 ex_23 => ?_)
  obtain rfl : y5 = x_23 := hy5.trans ex_23.symm
  refine lv_aload_n hx hb dL_law_1532 rfl (lv_at hl 4 rfl) ?_
  refine lv_iload hx hb dL_law_1533 (lv_at hl 0 rfl) ?_
  refine lv_bipush (v := 6) hx hb dL_law_1535 (by decide) ?_
  refine lv_iadd hx hb dL_law_1537 ?_
  refine lv_topi (fun x_24 ex_24 => ?_)
  obtain rfl : x_24 = 6 := ex_24.trans (by first | rfl | decide)
  refine va_sld hx hb hX hbl hbA hS (by show ¬ (_ ∨ _); decide) dL_law_1538 ?_
  refine lv_topi (fun x_25 ex_25 => ?_)
  obtain rfl : y6 = x_25 := hy6.trans ex_25.symm
  have hPc := hP.sub (ws' := [(m0, .inr (11, [.int 0, .ref m_tape, .int 0, .int 0, .int 0, .ref m_read, .int 0, .int 0, .int 0, .ref m_tets, .int 0, .int 0, .int 0, .int 0, .int 0, .int 0, .int 0, .int 0, .ref m_primes, .ref m_often, .ref m_normal, .ref m_termM, .ref m_termP, .ref m_termV, .ref m_sumFrom, .ref m_sumMany, .int 0, .int 0, .int 0, .int 0, .ref m_part, .ref m_fair, .ref m_heap, .ref m_pickTet, .ref m_pickEdge, .ref m_base, .ref m_baseM, .ref m_baseP, .ref m_rowsOf, .int 0, .ref m_grid, .ref m_times, .ref m_boxes, .ref m_cameFrom, .ref m_cameBy, .ref m_steps, .ref m_sides, .int 0, .int (-1), .ref m_next, .ref m_cube, .ref m_ways])), (m_boxes, .inl (cI, 3600, (.inl (fun _ => 0)))), (m_cameFrom, .inl (cI, 1200, (.inl (fun _ => 0)))), (m_cameBy, .inl (cI, 1200, (.inl (fun _ => 0)))), (m_next, .inl (cI, 3, (.inl (fun _ => 0)))), (m_sides, .inl (cI, 183, (.inl (fun _ => 0)))), (m_steps, .inl (cI, 60, (.inl (fun _ => 0))))]) [0, 1, 2, 3, 6, 5, 4] rfl
  have hDc := hD.sub (ws' := [(m0, .inr (11, [.int 0, .ref m_tape, .int 0, .int 0, .int 0, .ref m_read, .int 0, .int 0, .int 0, .ref m_tets, .int 0, .int 0, .int 0, .int 0, .int 0, .int 0, .int 0, .int 0, .ref m_primes, .ref m_often, .ref m_normal, .ref m_termM, .ref m_termP, .ref m_termV, .ref m_sumFrom, .ref m_sumMany, .int 0, .int 0, .int 0, .int 0, .ref m_part, .ref m_fair, .ref m_heap, .ref m_pickTet, .ref m_pickEdge, .ref m_base, .ref m_baseM, .ref m_baseP, .ref m_rowsOf, .int 0, .ref m_grid, .ref m_times, .ref m_boxes, .ref m_cameFrom, .ref m_cameBy, .ref m_steps, .ref m_sides, .int 0, .int (-1), .ref m_next, .ref m_cube, .ref m_ways])), (m_boxes, .inl (cI, 3600, (.inl (fun _ => 0)))), (m_cameFrom, .inl (cI, 1200, (.inl (fun _ => 0)))), (m_cameBy, .inl (cI, 1200, (.inl (fun _ => 0)))), (m_next, .inl (cI, 3, (.inl (fun _ => 0)))), (m_sides, .inl (cI, 183, (.inl (fun _ => 0)))), (m_steps, .inl (cI, 60, (.inl (fun _ => 0))))]) [0, 1, 2, 3, 6, 5, 4] (by decide) rfl
  have hFc := va_free (wc := [(m0, .inr (11, [.int 0, .ref m_tape, .int 0, .int 0, .int 0, .ref m_read, .int 0, .int 0, .int 0, .ref m_tets, .int 0, .int 0, .int 0, .int 0, .int 0, .int 0, .int 0, .int 0, .ref m_primes, .ref m_often, .ref m_normal, .ref m_termM, .ref m_termP, .ref m_termV, .ref m_sumFrom, .ref m_sumMany, .int 0, .int 0, .int 0, .int 0, .ref m_part, .ref m_fair, .ref m_heap, .ref m_pickTet, .ref m_pickEdge, .ref m_base, .ref m_baseM, .ref m_baseP, .ref m_rowsOf, .int 0, .ref m_grid, .ref m_times, .ref m_boxes, .ref m_cameFrom, .ref m_cameBy, .ref m_steps, .ref m_sides, .int 0, .int (-1), .ref m_next, .ref m_cube, .ref m_ways])), (m_boxes, .inl (cI, 3600, (.inl (fun _ => 0)))), (m_cameFrom, .inl (cI, 1200, (.inl (fun _ => 0)))), (m_cameBy, .inl (cI, 1200, (.inl (fun _ => 0)))), (m_next, .inl (cI, 3, (.inl (fun _ => 0)))), (m_sides, .inl (cI, 183, (.inl (fun _ => 0)))), (m_steps, .inl (cI, 60, (.inl (fun _ => 0))))]) hD hS hA [0, 1, 2, 3, 6, 5, 4] rfl
  refine va_calli (va_runV (As := [.int y1, .int y2, .int y3, .int y4, .int y5, .int y6]) (rest := [.int r_13]) ⟨hx, hb, hml, hown, hts⟩ (c_X11_plan l dC dI cB cI cJ H.size m0 m_tape m_read m_tets m_primes m_often m_normal m_termM m_termP m_termV m_sumFrom m_sumMany m_part m_fair m_heap m_pickTet m_pickEdge m_base m_baseM m_baseP m_rowsOf m_grid m_times m_boxes m_cameFrom m_cameBy m_steps m_sides m_next m_cube m_ways y1 y2 y3 y4 y5 y6) (cwV 6 hts hL_law_X11_plan rfl rfl rfl (by decide +kernel) ⟨Nat.le_of_ble_eq_true rfl, Nat.le_of_ble_eq_true rfl⟩) ⟨fun a U g mk q => by obtain ⟨q0, q1, qP, qK, qD⟩ := q; exact ⟨q0, q1, qP, va_K.moved (u := U) (U := U.calling g mk a) (Vm.Alike.refl U.vm) qK, qD⟩, va_recv hK hP (ci := 11) (q0 := 0) rfl rfl, fun U hU hW => ⟨rfl, by rw [hU], by rw [hU]; exact hPc, va_K.moved hW.alike hK, hDc.weaken (fun _ _ _ _ => trivial)⟩⟩ rfl rfl hl.1 rfl (lv_room (Nat.le_of_ble_eq_true rfl)) dL_law_1539 ⟨Nat.le_of_ble_eq_true rfl, Nat.le_of_ble_eq_true rfl⟩) hS (fun q _ h => hFc q h) hFc (fun r_26 u t H1 locs ht hvm hw hB hz1 hk1 hS => ?_)
  have hP1 : va_P (dC, dI) vwCl [] H1 := fun k q h => by simp at h
  have hD1 : va_D (va_A [(m0, .inr (11, [.int 0, .ref m_tape, .int 0, .int 0, .int 0, .ref m_read, .int 0, .int 0, .int 0, .ref m_tets, .int 0, .int 0, .int 0, .int 0, .int 0, .int 0, .int 0, .int 0, .ref m_primes, .ref m_often, .ref m_normal, .ref m_termM, .ref m_termP, .ref m_termV, .ref m_sumFrom, .ref m_sumMany, .int 0, .int 0, .int 0, .int 0, .ref m_part, .ref m_fair, .ref m_heap, .ref m_pickTet, .ref m_pickEdge, .ref m_base, .ref m_baseM, .ref m_baseP, .ref m_rowsOf, .int 0, .ref m_grid, .ref m_times, .ref m_boxes, .ref m_cameFrom, .ref m_cameBy, .ref m_steps, .ref m_sides, .int 0, .int (-1), .ref m_next, .ref m_cube, .ref m_ways])), (m_boxes, .inl (cI, 3600, (.inl (fun _ => 0)))), (m_cameFrom, .inl (cI, 1200, (.inl (fun _ => 0)))), (m_cameBy, .inl (cI, 1200, (.inl (fun _ => 0)))), (m_next, .inl (cI, 3, (.inl (fun _ => 0)))), (m_sides, .inl (cI, 183, (.inl (fun _ => 0)))), (m_steps, .inl (cI, 60, (.inl (fun _ => 0))))] H.size) [] := ⟨fun i j p q h => by simp at h, fun k q h => by simp at h⟩
  obtain ⟨hP, hD⟩ := va_join (wr := []) (w1 := []) hP hD [0, 1, 2, 3, 6, 5, 4] [] rfl rfl (by decide) (by decide) hk1 hFc hP1 hD1
  generalize H1 = H at hP hS ⊢
  have hP : va_P (dC, dI) vwCl [] H := hP
  have hD : va_D (fun q : Nat => s.heap.size ≤ q) [] := hD
  have hr_26 := hw
  refine lv_icmp_eq (tgt := 1744) hx hb dL_law_1542 (by decide) (fun _ => ?_) (fun c => absurd (pl_one hr_13 hr_26) c)
  refine W.widen (k := 600002) (n := 7302232) (Nat.le_of_ble_eq_true rfl) (Nat.le_of_ble_eq_true rfl) ?_
  exact la_end l C0 H _ hS ls hl
set_option maxHeartbeats 8000000 in
set_option maxRecDepth 100000 in
theorem la_33 {p : Program} {e : Env} {s : State} {m : MethodId} {below : List Frame} {meth : Method} {c : Code} (l : Launch) {b : Nat} {xs : Nat → Int32} (C0 : lw_At p s m meth c b 7 xs) (dC : Nat → ClassId) (dI : Nat → Nat → Nat) (cB cI cJ : ClassId) {x0 xTape xReader xBag xBld xAng xSum xPik xHan xIns xShr xSta xTur fL fS fP fT fA fQ fR fN m0 m_tape m_read m_tets m_primes m_often m_normal m_termM m_termP m_termV m_sumFrom m_sumMany m_part m_fair m_heap m_pickTet m_pickEdge m_base m_baseM m_baseP m_rowsOf m_grid m_times m_boxes m_cameFrom m_cameBy m_steps m_sides m_next m_cube m_ways o0 : Nat} (H : Heap) (locs : List Loc) (hK : va_K (dC, dI) vwCl [(cB, .byte), (cI, .int), (cJ, .long)] s) (hP : va_P (dC, dI) vwCl [(x0, .inr (10, [.ref xTape, .ref xReader, .ref xBag, .ref xBld, .ref xAng, .ref xSum, .ref xPik, .int 0, .ref xHan, .ref xIns, .ref xShr, .ref xSta, .ref xTur])), (xSta, .inr (7, [.int (-1), .ref fL, .ref fS, .ref fP, .ref fT, .ref fA, .ref fQ, .ref fR, .int 0, .ref fN])), (m0, .inr (11, [.int 0, .ref m_tape, .int 0, .int 0, .int 0, .ref m_read, .int 0, .int 0, .int 0, .ref m_tets, .int 0, .int 0, .int 0, .int 0, .int 0, .int 0, .int 0, .int 0, .ref m_primes, .ref m_often, .ref m_normal, .ref m_termM, .ref m_termP, .ref m_termV, .ref m_sumFrom, .ref m_sumMany, .int 0, .int 0, .int 0, .int 0, .ref m_part, .ref m_fair, .ref m_heap, .ref m_pickTet, .ref m_pickEdge, .ref m_base, .ref m_baseM, .ref m_baseP, .ref m_rowsOf, .int 0, .ref m_grid, .ref m_times, .ref m_boxes, .ref m_cameFrom, .ref m_cameBy, .ref m_steps, .ref m_sides, .int 0, .int (-1), .ref m_next, .ref m_cube, .ref m_ways]))] H) (hD : va_D (fun q : Nat => s.heap.size ≤ q) [(x0, .inr (10, [.ref xTape, .ref xReader, .ref xBag, .ref xBld, .ref xAng, .ref xSum, .ref xPik, .int 0, .ref xHan, .ref xIns, .ref xShr, .ref xSta, .ref xTur])), (xSta, .inr (7, [.int (-1), .ref fL, .ref fS, .ref fP, .ref fT, .ref fA, .ref fQ, .ref fR, .int 0, .ref fN])), (m0, .inr (11, [.int 0, .ref m_tape, .int 0, .int 0, .int 0, .ref m_read, .int 0, .int 0, .int 0, .ref m_tets, .int 0, .int 0, .int 0, .int 0, .int 0, .int 0, .int 0, .int 0, .ref m_primes, .ref m_often, .ref m_normal, .ref m_termM, .ref m_termP, .ref m_termV, .ref m_sumFrom, .ref m_sumMany, .int 0, .int 0, .int 0, .int 0, .ref m_part, .ref m_fair, .ref m_heap, .ref m_pickTet, .ref m_pickEdge, .ref m_base, .ref m_baseM, .ref m_baseP, .ref m_rowsOf, .int 0, .ref m_grid, .ref m_times, .ref m_boxes, .ref m_cameFrom, .ref m_cameBy, .ref m_steps, .ref m_sides, .int 0, .int (-1), .ref m_next, .ref m_cube, .ref m_ways]))]) (hS : va_S (fun q : Nat => s.heap.size ≤ q) s.heap H locs) (ls : Array Slot) (hl : lv_has ls 7 [(4, .int 0), (3, .ref o0), (2, .ref m0), (1, .ref x0), (0, .ref b)]) : W p l e room_1 s m #[Value.ref b] below meth c H locs 82 28049 (lw_Z below #[Value.ref b] s) (F0 m 1547 ls []) := by
  obtain ⟨hx, hb, hr, hml, hown, htb, hX, hbl, hlocks, hgv⟩ := id C0
  have hts := htb
  have hbA : ¬ (fun q : Nat => s.heap.size ≤ q) b := Nat.not_le.mpr hbl
  have hA : ∀ q : Nat, s.heap.size ≤ q → (fun q : Nat => s.heap.size ≤ q) q := fun _ h => h
  obtain ⟨y1, hy1⟩ : ∃ y : Int32, y = xs (1 : Int32).toNatClampNeg := ⟨_, rfl⟩
  obtain ⟨y2, hy2⟩ : ∃ y : Int32, y = xs (2 : Int32).toNatClampNeg := ⟨_, rfl⟩
  refine lv_aload_n hx hb dL_law_1547 rfl (lv_at hl 3 rfl) ?_
  refine lv_aload_n hx hb dL_law_1548 rfl (lv_at hl 4 rfl) ?_
  refine lv_iload hx hb dL_law_1549 (lv_at hl 0 rfl) ?_
  refine lv_iconst (v := 1) hx hb dL_law_1551 (by decide) ?_
  refine lv_iadd hx hb dL_law_1552 ?_
  refine lv_topi (fun x_1 ex_1 => ?_)
  obtain rfl : x_1 = 1 := ex_1.trans (by first | rfl | decide)
  refine va_sld hx hb hX hbl hbA hS (by show ¬ (_ ∨ _); decide) dL_law_1553 ?_
  refine lv_topi (fun x_2 ex_2 => ?_)
  obtain rfl : y1 = x_2 := hy1.trans ex_2.symm
  refine lv_aload_n hx hb dL_law_1554 rfl (lv_at hl 4 rfl) ?_
  refine lv_iload hx hb dL_law_1555 (lv_at hl 0 rfl) ?_
  refine lv_iconst (v := 2) hx hb dL_law_1557 (by decide) ?_
  refine lv_iadd hx hb dL_law_1558 ?_
  refine lv_topi (fun x_3 ex_3 => ?_)
  obtain rfl : x_3 = 2 := ex_3.trans (by first | rfl | decide)
  refine va_sld hx hb hX hbl hbA hS (by show ¬ (_ ∨ _); decide) dL_law_1559 ?_
  refine lv_topi (fun x_4 ex_4 => ?_)
  obtain rfl : y2 = x_4 := hy2.trans ex_4.symm
  have hPc := hP.sub (ws' := [(x0, .inr (10, [.ref xTape, .ref xReader, .ref xBag, .ref xBld, .ref xAng, .ref xSum, .ref xPik, .int 0, .ref xHan, .ref xIns, .ref xShr, .ref xSta, .ref xTur])), (xSta, .inr (7, [.int (-1), .ref fL, .ref fS, .ref fP, .ref fT, .ref fA, .ref fQ, .ref fR, .int 0, .ref fN]))]) [0, 1] rfl
  have hDc := hD.sub (ws' := [(x0, .inr (10, [.ref xTape, .ref xReader, .ref xBag, .ref xBld, .ref xAng, .ref xSum, .ref xPik, .int 0, .ref xHan, .ref xIns, .ref xShr, .ref xSta, .ref xTur])), (xSta, .inr (7, [.int (-1), .ref fL, .ref fS, .ref fP, .ref fT, .ref fA, .ref fQ, .ref fR, .int 0, .ref fN]))]) [0, 1] (by decide) rfl
  have hFc := va_free (wc := [(x0, .inr (10, [.ref xTape, .ref xReader, .ref xBag, .ref xBld, .ref xAng, .ref xSum, .ref xPik, .int 0, .ref xHan, .ref xIns, .ref xShr, .ref xSta, .ref xTur])), (xSta, .inr (7, [.int (-1), .ref fL, .ref fS, .ref fP, .ref fT, .ref fA, .ref fQ, .ref fR, .int 0, .ref fN]))]) hD hS hA [0, 1] rfl
  refine va_calli (va_runV (As := [.int y1, .int y2]) (rest := []) ⟨hx, hb, hml, hown, hts⟩ (c_X10_step l dC dI cB cI cJ H.size x0 xTape xReader xBag xBld xAng xSum xPik xHan xIns xShr xSta xTur fL fS fP fT fA fQ fR fN y1 y2) (cwV 2 hts hL_law_X10_step rfl rfl rfl (by decide +kernel) ⟨Nat.le_of_ble_eq_true rfl, Nat.le_of_ble_eq_true rfl⟩) ⟨fun a U g mk q => by obtain ⟨q0, q1, qP, qK, qD⟩ := q; exact ⟨q0, q1, qP, va_K.moved (u := U) (U := U.calling g mk a) (Vm.Alike.refl U.vm) qK, qD⟩, va_recv hK hP (ci := 10) (q0 := 0) rfl rfl, fun U hU hW => ⟨rfl, by rw [hU], by rw [hU]; exact hPc, va_K.moved hW.alike hK, hDc.weaken (fun _ _ _ _ => trivial)⟩⟩ rfl rfl hl.1 rfl (lv_room (Nat.le_of_ble_eq_true rfl)) dL_law_1560 ⟨Nat.le_of_ble_eq_true rfl, Nat.le_of_ble_eq_true rfl⟩) hS (fun q _ h => hFc q h) hFc (fun r_5 u t H1 locs ht hvm hw hB hz1 hk1 hS => ?_)
  have hP1 : va_P (dC, dI) vwCl [] H1 := fun k q h => by simp at h
  have hD1 : va_D (va_A [(x0, .inr (10, [.ref xTape, .ref xReader, .ref xBag, .ref xBld, .ref xAng, .ref xSum, .ref xPik, .int 0, .ref xHan, .ref xIns, .ref xShr, .ref xSta, .ref xTur])), (xSta, .inr (7, [.int (-1), .ref fL, .ref fS, .ref fP, .ref fT, .ref fA, .ref fQ, .ref fR, .int 0, .ref fN]))] H.size) [] := ⟨fun i j p q h => by simp at h, fun k q h => by simp at h⟩
  obtain ⟨hP, hD⟩ := va_join (wr := [(m0, .inr (11, [.int 0, .ref m_tape, .int 0, .int 0, .int 0, .ref m_read, .int 0, .int 0, .int 0, .ref m_tets, .int 0, .int 0, .int 0, .int 0, .int 0, .int 0, .int 0, .int 0, .ref m_primes, .ref m_often, .ref m_normal, .ref m_termM, .ref m_termP, .ref m_termV, .ref m_sumFrom, .ref m_sumMany, .int 0, .int 0, .int 0, .int 0, .ref m_part, .ref m_fair, .ref m_heap, .ref m_pickTet, .ref m_pickEdge, .ref m_base, .ref m_baseM, .ref m_baseP, .ref m_rowsOf, .int 0, .ref m_grid, .ref m_times, .ref m_boxes, .ref m_cameFrom, .ref m_cameBy, .ref m_steps, .ref m_sides, .int 0, .int (-1), .ref m_next, .ref m_cube, .ref m_ways]))]) (w1 := []) hP hD [0, 1] [2] rfl rfl (by decide) (by decide) hk1 hFc hP1 hD1
  generalize H1 = H at hP hS ⊢
  have hP : va_P (dC, dI) vwCl [(m0, .inr (11, [.int 0, .ref m_tape, .int 0, .int 0, .int 0, .ref m_read, .int 0, .int 0, .int 0, .ref m_tets, .int 0, .int 0, .int 0, .int 0, .int 0, .int 0, .int 0, .int 0, .ref m_primes, .ref m_often, .ref m_normal, .ref m_termM, .ref m_termP, .ref m_termV, .ref m_sumFrom, .ref m_sumMany, .int 0, .int 0, .int 0, .int 0, .ref m_part, .ref m_fair, .ref m_heap, .ref m_pickTet, .ref m_pickEdge, .ref m_base, .ref m_baseM, .ref m_baseP, .ref m_rowsOf, .int 0, .ref m_grid, .ref m_times, .ref m_boxes, .ref m_cameFrom, .ref m_cameBy, .ref m_steps, .ref m_sides, .int 0, .int (-1), .ref m_next, .ref m_cube, .ref m_ways]))] H := hP
  have hD : va_D (fun q : Nat => s.heap.size ≤ q) [(m0, .inr (11, [.int 0, .ref m_tape, .int 0, .int 0, .int 0, .ref m_read, .int 0, .int 0, .int 0, .ref m_tets, .int 0, .int 0, .int 0, .int 0, .int 0, .int 0, .int 0, .int 0, .ref m_primes, .ref m_often, .ref m_normal, .ref m_termM, .ref m_termP, .ref m_termV, .ref m_sumFrom, .ref m_sumMany, .int 0, .int 0, .int 0, .int 0, .ref m_part, .ref m_fair, .ref m_heap, .ref m_pickTet, .ref m_pickEdge, .ref m_base, .ref m_baseM, .ref m_baseP, .ref m_rowsOf, .int 0, .ref m_grid, .ref m_times, .ref m_boxes, .ref m_cameFrom, .ref m_cameBy, .ref m_steps, .ref m_sides, .int 0, .int (-1), .ref m_next, .ref m_cube, .ref m_ways]))] := hD
  have hr_5 := hw
  obtain rfl : r_5 = (-1000000) := hr_5
  refine lv_aload_n hx hb dL_law_1563 rfl (lv_at hl 2 rfl) ?_
  refine lv_aload_n hx hb dL_law_1564 rfl (lv_at hl 4 rfl) ?_
  refine lv_iload hx hb dL_law_1565 (lv_at hl 0 rfl) ?_
  refine lv_iconst (v := 1) hx hb dL_law_1567 (by decide) ?_
  refine lv_iadd hx hb dL_law_1568 ?_
  refine lv_topi (fun x_6 ex_6 => ?_)
  obtain rfl : x_6 = 1 := ex_6.trans (by first | rfl | decide)
  refine va_sld hx hb hX hbl hbA hS (by show ¬ (_ ∨ _); decide) dL_law_1569 ?_
  refine lv_topi (fun x_7 ex_7 => ?_)
  obtain rfl : y1 = x_7 := hy1.trans ex_7.symm
  refine lv_aload_n hx hb dL_law_1570 rfl (lv_at hl 4 rfl) ?_
  refine lv_iload hx hb dL_law_1571 (lv_at hl 0 rfl) ?_
  refine lv_iconst (v := 2) hx hb dL_law_1573 (by decide) ?_
  refine lv_iadd hx hb dL_law_1574 ?_
  refine lv_topi (fun x_8 ex_8 => ?_)
  obtain rfl : x_8 = 2 := ex_8.trans (by first | rfl | decide)
  refine va_sld hx hb hX hbl hbA hS (by show ¬ (_ ∨ _); decide) dL_law_1575 ?_
  refine lv_topi (fun x_9 ex_9 => ?_)
  obtain rfl : y2 = x_9 := hy2.trans ex_9.symm
  have hPc := hP.sub (ws' := [(m0, .inr (11, [.int 0, .ref m_tape, .int 0, .int 0, .int 0, .ref m_read, .int 0, .int 0, .int 0, .ref m_tets, .int 0, .int 0, .int 0, .int 0, .int 0, .int 0, .int 0, .int 0, .ref m_primes, .ref m_often, .ref m_normal, .ref m_termM, .ref m_termP, .ref m_termV, .ref m_sumFrom, .ref m_sumMany, .int 0, .int 0, .int 0, .int 0, .ref m_part, .ref m_fair, .ref m_heap, .ref m_pickTet, .ref m_pickEdge, .ref m_base, .ref m_baseM, .ref m_baseP, .ref m_rowsOf, .int 0, .ref m_grid, .ref m_times, .ref m_boxes, .ref m_cameFrom, .ref m_cameBy, .ref m_steps, .ref m_sides, .int 0, .int (-1), .ref m_next, .ref m_cube, .ref m_ways]))]) [0] rfl
  have hDc := hD.sub (ws' := [(m0, .inr (11, [.int 0, .ref m_tape, .int 0, .int 0, .int 0, .ref m_read, .int 0, .int 0, .int 0, .ref m_tets, .int 0, .int 0, .int 0, .int 0, .int 0, .int 0, .int 0, .int 0, .ref m_primes, .ref m_often, .ref m_normal, .ref m_termM, .ref m_termP, .ref m_termV, .ref m_sumFrom, .ref m_sumMany, .int 0, .int 0, .int 0, .int 0, .ref m_part, .ref m_fair, .ref m_heap, .ref m_pickTet, .ref m_pickEdge, .ref m_base, .ref m_baseM, .ref m_baseP, .ref m_rowsOf, .int 0, .ref m_grid, .ref m_times, .ref m_boxes, .ref m_cameFrom, .ref m_cameBy, .ref m_steps, .ref m_sides, .int 0, .int (-1), .ref m_next, .ref m_cube, .ref m_ways]))]) [0] (by decide) rfl
  have hFc := va_free (wc := [(m0, .inr (11, [.int 0, .ref m_tape, .int 0, .int 0, .int 0, .ref m_read, .int 0, .int 0, .int 0, .ref m_tets, .int 0, .int 0, .int 0, .int 0, .int 0, .int 0, .int 0, .int 0, .ref m_primes, .ref m_often, .ref m_normal, .ref m_termM, .ref m_termP, .ref m_termV, .ref m_sumFrom, .ref m_sumMany, .int 0, .int 0, .int 0, .int 0, .ref m_part, .ref m_fair, .ref m_heap, .ref m_pickTet, .ref m_pickEdge, .ref m_base, .ref m_baseM, .ref m_baseP, .ref m_rowsOf, .int 0, .ref m_grid, .ref m_times, .ref m_boxes, .ref m_cameFrom, .ref m_cameBy, .ref m_steps, .ref m_sides, .int 0, .int (-1), .ref m_next, .ref m_cube, .ref m_ways]))]) hD hS hA [0] rfl
  refine va_calli (va_runV (As := [.int y1, .int y2]) (rest := [.int (-1000000)]) ⟨hx, hb, hml, hown, hts⟩ (c_X11_step l dC dI cB cI cJ H.size m0 m_tape m_read m_tets m_primes m_often m_normal m_termM m_termP m_termV m_sumFrom m_sumMany m_part m_fair m_heap m_pickTet m_pickEdge m_base m_baseM m_baseP m_rowsOf m_grid m_times m_boxes m_cameFrom m_cameBy m_steps m_sides m_next m_cube m_ways y1 y2) (cwV 2 hts hL_law_X11_step rfl rfl rfl (by decide +kernel) ⟨Nat.le_of_ble_eq_true rfl, Nat.le_of_ble_eq_true rfl⟩) ⟨fun a U g mk q => by obtain ⟨q0, q1, qP, qK, qD⟩ := q; exact ⟨q0, q1, qP, va_K.moved (u := U) (U := U.calling g mk a) (Vm.Alike.refl U.vm) qK, qD⟩, va_recv hK hP (ci := 11) (q0 := 0) rfl rfl, fun U hU hW => ⟨rfl, by rw [hU], by rw [hU]; exact hPc, va_K.moved hW.alike hK, hDc.weaken (fun _ _ _ _ => trivial)⟩⟩ rfl rfl hl.1 rfl (lv_room (Nat.le_of_ble_eq_true rfl)) dL_law_1576 ⟨Nat.le_of_ble_eq_true rfl, Nat.le_of_ble_eq_true rfl⟩) hS (fun q _ h => hFc q h) hFc (fun r_10 u t H1 locs ht hvm hw hB hz1 hk1 hS => ?_)
  have hP1 : va_P (dC, dI) vwCl [] H1 := fun k q h => by simp at h
  have hD1 : va_D (va_A [(m0, .inr (11, [.int 0, .ref m_tape, .int 0, .int 0, .int 0, .ref m_read, .int 0, .int 0, .int 0, .ref m_tets, .int 0, .int 0, .int 0, .int 0, .int 0, .int 0, .int 0, .int 0, .ref m_primes, .ref m_often, .ref m_normal, .ref m_termM, .ref m_termP, .ref m_termV, .ref m_sumFrom, .ref m_sumMany, .int 0, .int 0, .int 0, .int 0, .ref m_part, .ref m_fair, .ref m_heap, .ref m_pickTet, .ref m_pickEdge, .ref m_base, .ref m_baseM, .ref m_baseP, .ref m_rowsOf, .int 0, .ref m_grid, .ref m_times, .ref m_boxes, .ref m_cameFrom, .ref m_cameBy, .ref m_steps, .ref m_sides, .int 0, .int (-1), .ref m_next, .ref m_cube, .ref m_ways]))] H.size) [] := ⟨fun i j p q h => by simp at h, fun k q h => by simp at h⟩
  obtain ⟨hP, hD⟩ := va_join (wr := []) (w1 := []) hP hD [0] [] rfl rfl (by decide) (by decide) hk1 hFc hP1 hD1
  generalize H1 = H at hP hS ⊢
  have hP : va_P (dC, dI) vwCl [] H := hP
  have hD : va_D (fun q : Nat => s.heap.size ≤ q) [] := hD
  have hr_10 := hw
  obtain rfl : r_10 = (-1000000) := hr_10
  refine lv_icmp_eq (tgt := 1744) hx hb dL_law_1579 (by decide) (fun _ => ?_) (fun c => absurd (by decide) c)
  refine W.widen (k := 600002) (n := 7302232) (Nat.le_of_ble_eq_true rfl) (Nat.le_of_ble_eq_true rfl) ?_
  exact la_end l C0 H _ hS ls hl
set_option maxHeartbeats 8000000 in
set_option maxRecDepth 100000 in
theorem la_34 {p : Program} {e : Env} {s : State} {m : MethodId} {below : List Frame} {meth : Method} {c : Code} (l : Launch) {b : Nat} {xs : Nat → Int32} (C0 : lw_At p s m meth c b 7 xs) (dC : Nat → ClassId) (dI : Nat → Nat → Nat) (cB cI cJ : ClassId) {x0 xTape xReader xBag xBld xAng xSum xPik xHan xIns xShr xSta xTur fL fS fP fT fA fQ fR fN m0 m_tape m_read m_tets m_primes m_often m_normal m_termM m_termP m_termV m_sumFrom m_sumMany m_part m_fair m_heap m_pickTet m_pickEdge m_base m_baseM m_baseP m_rowsOf m_grid m_times m_boxes m_cameFrom m_cameBy m_steps m_sides m_next m_cube m_ways o0 : Nat} (H : Heap) (locs : List Loc) (hK : va_K (dC, dI) vwCl [(cB, .byte), (cI, .int), (cJ, .long)] s) (hP : va_P (dC, dI) vwCl [(x0, .inr (10, [.ref xTape, .ref xReader, .ref xBag, .ref xBld, .ref xAng, .ref xSum, .ref xPik, .int 0, .ref xHan, .ref xIns, .ref xShr, .ref xSta, .ref xTur])), (xSta, .inr (7, [.int (-1), .ref fL, .ref fS, .ref fP, .ref fT, .ref fA, .ref fQ, .ref fR, .int 0, .ref fN])), (m0, .inr (11, [.int 0, .ref m_tape, .int 0, .int 0, .int 0, .ref m_read, .int 0, .int 0, .int 0, .ref m_tets, .int 0, .int 0, .int 0, .int 0, .int 0, .int 0, .int 0, .int 0, .ref m_primes, .ref m_often, .ref m_normal, .ref m_termM, .ref m_termP, .ref m_termV, .ref m_sumFrom, .ref m_sumMany, .int 0, .int 0, .int 0, .int 0, .ref m_part, .ref m_fair, .ref m_heap, .ref m_pickTet, .ref m_pickEdge, .ref m_base, .ref m_baseM, .ref m_baseP, .ref m_rowsOf, .int 0, .ref m_grid, .ref m_times, .ref m_boxes, .ref m_cameFrom, .ref m_cameBy, .ref m_steps, .ref m_sides, .int 0, .int (-1), .ref m_next, .ref m_cube, .ref m_ways]))] H) (hD : va_D (fun q : Nat => s.heap.size ≤ q) [(x0, .inr (10, [.ref xTape, .ref xReader, .ref xBag, .ref xBld, .ref xAng, .ref xSum, .ref xPik, .int 0, .ref xHan, .ref xIns, .ref xShr, .ref xSta, .ref xTur])), (xSta, .inr (7, [.int (-1), .ref fL, .ref fS, .ref fP, .ref fT, .ref fA, .ref fQ, .ref fR, .int 0, .ref fN])), (m0, .inr (11, [.int 0, .ref m_tape, .int 0, .int 0, .int 0, .ref m_read, .int 0, .int 0, .int 0, .ref m_tets, .int 0, .int 0, .int 0, .int 0, .int 0, .int 0, .int 0, .int 0, .ref m_primes, .ref m_often, .ref m_normal, .ref m_termM, .ref m_termP, .ref m_termV, .ref m_sumFrom, .ref m_sumMany, .int 0, .int 0, .int 0, .int 0, .ref m_part, .ref m_fair, .ref m_heap, .ref m_pickTet, .ref m_pickEdge, .ref m_base, .ref m_baseM, .ref m_baseP, .ref m_rowsOf, .int 0, .ref m_grid, .ref m_times, .ref m_boxes, .ref m_cameFrom, .ref m_cameBy, .ref m_steps, .ref m_sides, .int 0, .int (-1), .ref m_next, .ref m_cube, .ref m_ways]))]) (hS : va_S (fun q : Nat => s.heap.size ≤ q) s.heap H locs) (ls : Array Slot) (hl : lv_has ls 7 [(4, .int 0), (3, .ref o0), (2, .ref m0), (1, .ref x0), (0, .ref b)]) : W p l e room_1 s m #[Value.ref b] below meth c H locs 82 28049 (lw_Z below #[Value.ref b] s) (F0 m 1584 ls []) := by
  obtain ⟨hx, hb, hr, hml, hown, htb, hX, hbl, hlocks, hgv⟩ := id C0
  have hts := htb
  have hbA : ¬ (fun q : Nat => s.heap.size ≤ q) b := Nat.not_le.mpr hbl
  have hA : ∀ q : Nat, s.heap.size ≤ q → (fun q : Nat => s.heap.size ≤ q) q := fun _ h => h
  obtain ⟨y1, hy1⟩ : ∃ y : Int32, y = xs (1 : Int32).toNatClampNeg := ⟨_, rfl⟩
  obtain ⟨y2, hy2⟩ : ∃ y : Int32, y = xs (2 : Int32).toNatClampNeg := ⟨_, rfl⟩
  refine lv_aload_n hx hb dL_law_1584 rfl (lv_at hl 3 rfl) ?_
  refine lv_aload_n hx hb dL_law_1585 rfl (lv_at hl 4 rfl) ?_
  refine lv_iload hx hb dL_law_1586 (lv_at hl 0 rfl) ?_
  refine lv_iconst (v := 1) hx hb dL_law_1588 (by decide) ?_
  refine lv_iadd hx hb dL_law_1589 ?_
  refine lv_topi (fun x_1 ex_1 => ?_)
  obtain rfl : x_1 = 1 := ex_1.trans (by first | rfl | decide)
  refine va_sld hx hb hX hbl hbA hS (by show ¬ (_ ∨ _); decide) dL_law_1590 ?_
  refine lv_topi (fun x_2 ex_2 => ?_)
  obtain rfl : y1 = x_2 := hy1.trans ex_2.symm
  refine lv_aload_n hx hb dL_law_1591 rfl (lv_at hl 4 rfl) ?_
  refine lv_iload hx hb dL_law_1592 (lv_at hl 0 rfl) ?_
  refine lv_iconst (v := 2) hx hb dL_law_1594 (by decide) ?_
  refine lv_iadd hx hb dL_law_1595 ?_
  refine lv_topi (fun x_3 ex_3 => ?_)
  obtain rfl : x_3 = 2 := ex_3.trans (by first | rfl | decide)
  refine va_sld hx hb hX hbl hbA hS (by show ¬ (_ ∨ _); decide) dL_law_1596 ?_
  refine lv_topi (fun x_4 ex_4 => ?_)
  obtain rfl : y2 = x_4 := hy2.trans ex_4.symm
  have hPc := hP.sub (ws' := [(x0, .inr (10, [.ref xTape, .ref xReader, .ref xBag, .ref xBld, .ref xAng, .ref xSum, .ref xPik, .int 0, .ref xHan, .ref xIns, .ref xShr, .ref xSta, .ref xTur])), (xSta, .inr (7, [.int (-1), .ref fL, .ref fS, .ref fP, .ref fT, .ref fA, .ref fQ, .ref fR, .int 0, .ref fN]))]) [0, 1] rfl
  have hDc := hD.sub (ws' := [(x0, .inr (10, [.ref xTape, .ref xReader, .ref xBag, .ref xBld, .ref xAng, .ref xSum, .ref xPik, .int 0, .ref xHan, .ref xIns, .ref xShr, .ref xSta, .ref xTur])), (xSta, .inr (7, [.int (-1), .ref fL, .ref fS, .ref fP, .ref fT, .ref fA, .ref fQ, .ref fR, .int 0, .ref fN]))]) [0, 1] (by decide) rfl
  have hFc := va_free (wc := [(x0, .inr (10, [.ref xTape, .ref xReader, .ref xBag, .ref xBld, .ref xAng, .ref xSum, .ref xPik, .int 0, .ref xHan, .ref xIns, .ref xShr, .ref xSta, .ref xTur])), (xSta, .inr (7, [.int (-1), .ref fL, .ref fS, .ref fP, .ref fT, .ref fA, .ref fQ, .ref fR, .int 0, .ref fN]))]) hD hS hA [0, 1] rfl
  refine va_calli (va_runV (As := [.int y1, .int y2]) (rest := []) ⟨hx, hb, hml, hown, hts⟩ (c_X10_side l dC dI cB cI cJ H.size x0 xTape xReader xBag xBld xAng xSum xPik xHan xIns xShr xSta xTur fL fS fP fT fA fQ fR fN y1 y2) (cwV 2 hts hL_law_X10_side rfl rfl rfl (by decide +kernel) ⟨Nat.le_of_ble_eq_true rfl, Nat.le_of_ble_eq_true rfl⟩) ⟨fun a U g mk q => by obtain ⟨q0, q1, qP, qK, qD⟩ := q; exact ⟨q0, q1, qP, va_K.moved (u := U) (U := U.calling g mk a) (Vm.Alike.refl U.vm) qK, qD⟩, va_recv hK hP (ci := 10) (q0 := 0) rfl rfl, fun U hU hW => ⟨rfl, by rw [hU], by rw [hU]; exact hPc, va_K.moved hW.alike hK, hDc.weaken (fun _ _ _ _ => trivial)⟩⟩ rfl rfl hl.1 rfl (lv_room (Nat.le_of_ble_eq_true rfl)) dL_law_1597 ⟨Nat.le_of_ble_eq_true rfl, Nat.le_of_ble_eq_true rfl⟩) hS (fun q _ h => hFc q h) hFc (fun r_5 u t H1 locs ht hvm hw hB hz1 hk1 hS => ?_)
  have hP1 : va_P (dC, dI) vwCl [] H1 := fun k q h => by simp at h
  have hD1 : va_D (va_A [(x0, .inr (10, [.ref xTape, .ref xReader, .ref xBag, .ref xBld, .ref xAng, .ref xSum, .ref xPik, .int 0, .ref xHan, .ref xIns, .ref xShr, .ref xSta, .ref xTur])), (xSta, .inr (7, [.int (-1), .ref fL, .ref fS, .ref fP, .ref fT, .ref fA, .ref fQ, .ref fR, .int 0, .ref fN]))] H.size) [] := ⟨fun i j p q h => by simp at h, fun k q h => by simp at h⟩
  obtain ⟨hP, hD⟩ := va_join (wr := [(m0, .inr (11, [.int 0, .ref m_tape, .int 0, .int 0, .int 0, .ref m_read, .int 0, .int 0, .int 0, .ref m_tets, .int 0, .int 0, .int 0, .int 0, .int 0, .int 0, .int 0, .int 0, .ref m_primes, .ref m_often, .ref m_normal, .ref m_termM, .ref m_termP, .ref m_termV, .ref m_sumFrom, .ref m_sumMany, .int 0, .int 0, .int 0, .int 0, .ref m_part, .ref m_fair, .ref m_heap, .ref m_pickTet, .ref m_pickEdge, .ref m_base, .ref m_baseM, .ref m_baseP, .ref m_rowsOf, .int 0, .ref m_grid, .ref m_times, .ref m_boxes, .ref m_cameFrom, .ref m_cameBy, .ref m_steps, .ref m_sides, .int 0, .int (-1), .ref m_next, .ref m_cube, .ref m_ways]))]) (w1 := []) hP hD [0, 1] [2] rfl rfl (by decide) (by decide) hk1 hFc hP1 hD1
  generalize H1 = H at hP hS ⊢
  have hP : va_P (dC, dI) vwCl [(m0, .inr (11, [.int 0, .ref m_tape, .int 0, .int 0, .int 0, .ref m_read, .int 0, .int 0, .int 0, .ref m_tets, .int 0, .int 0, .int 0, .int 0, .int 0, .int 0, .int 0, .int 0, .ref m_primes, .ref m_often, .ref m_normal, .ref m_termM, .ref m_termP, .ref m_termV, .ref m_sumFrom, .ref m_sumMany, .int 0, .int 0, .int 0, .int 0, .ref m_part, .ref m_fair, .ref m_heap, .ref m_pickTet, .ref m_pickEdge, .ref m_base, .ref m_baseM, .ref m_baseP, .ref m_rowsOf, .int 0, .ref m_grid, .ref m_times, .ref m_boxes, .ref m_cameFrom, .ref m_cameBy, .ref m_steps, .ref m_sides, .int 0, .int (-1), .ref m_next, .ref m_cube, .ref m_ways]))] H := hP
  have hD : va_D (fun q : Nat => s.heap.size ≤ q) [(m0, .inr (11, [.int 0, .ref m_tape, .int 0, .int 0, .int 0, .ref m_read, .int 0, .int 0, .int 0, .ref m_tets, .int 0, .int 0, .int 0, .int 0, .int 0, .int 0, .int 0, .int 0, .ref m_primes, .ref m_often, .ref m_normal, .ref m_termM, .ref m_termP, .ref m_termV, .ref m_sumFrom, .ref m_sumMany, .int 0, .int 0, .int 0, .int 0, .ref m_part, .ref m_fair, .ref m_heap, .ref m_pickTet, .ref m_pickEdge, .ref m_base, .ref m_baseM, .ref m_baseP, .ref m_rowsOf, .int 0, .ref m_grid, .ref m_times, .ref m_boxes, .ref m_cameFrom, .ref m_cameBy, .ref m_steps, .ref m_sides, .int 0, .int (-1), .ref m_next, .ref m_cube, .ref m_ways]))] := hD
  have hr_5 := hw
  obtain rfl : r_5 = (-1000000) := hr_5
  refine lv_aload_n hx hb dL_law_1600 rfl (lv_at hl 2 rfl) ?_
  refine lv_aload_n hx hb dL_law_1601 rfl (lv_at hl 4 rfl) ?_
  refine lv_iload hx hb dL_law_1602 (lv_at hl 0 rfl) ?_
  refine lv_iconst (v := 1) hx hb dL_law_1604 (by decide) ?_
  refine lv_iadd hx hb dL_law_1605 ?_
  refine lv_topi (fun x_6 ex_6 => ?_)
  obtain rfl : x_6 = 1 := ex_6.trans (by first | rfl | decide)
  refine va_sld hx hb hX hbl hbA hS (by show ¬ (_ ∨ _); decide) dL_law_1606 ?_
  refine lv_topi (fun x_7 ex_7 => ?_)
  obtain rfl : y1 = x_7 := hy1.trans ex_7.symm
  refine lv_aload_n hx hb dL_law_1607 rfl (lv_at hl 4 rfl) ?_
  refine lv_iload hx hb dL_law_1608 (lv_at hl 0 rfl) ?_
  refine lv_iconst (v := 2) hx hb dL_law_1610 (by decide) ?_
  refine lv_iadd hx hb dL_law_1611 ?_
  refine lv_topi (fun x_8 ex_8 => ?_)
  obtain rfl : x_8 = 2 := ex_8.trans (by first | rfl | decide)
  refine va_sld hx hb hX hbl hbA hS (by show ¬ (_ ∨ _); decide) dL_law_1612 ?_
  refine lv_topi (fun x_9 ex_9 => ?_)
  obtain rfl : y2 = x_9 := hy2.trans ex_9.symm
  have hPc := hP.sub (ws' := [(m0, .inr (11, [.int 0, .ref m_tape, .int 0, .int 0, .int 0, .ref m_read, .int 0, .int 0, .int 0, .ref m_tets, .int 0, .int 0, .int 0, .int 0, .int 0, .int 0, .int 0, .int 0, .ref m_primes, .ref m_often, .ref m_normal, .ref m_termM, .ref m_termP, .ref m_termV, .ref m_sumFrom, .ref m_sumMany, .int 0, .int 0, .int 0, .int 0, .ref m_part, .ref m_fair, .ref m_heap, .ref m_pickTet, .ref m_pickEdge, .ref m_base, .ref m_baseM, .ref m_baseP, .ref m_rowsOf, .int 0, .ref m_grid, .ref m_times, .ref m_boxes, .ref m_cameFrom, .ref m_cameBy, .ref m_steps, .ref m_sides, .int 0, .int (-1), .ref m_next, .ref m_cube, .ref m_ways]))]) [0] rfl
  have hDc := hD.sub (ws' := [(m0, .inr (11, [.int 0, .ref m_tape, .int 0, .int 0, .int 0, .ref m_read, .int 0, .int 0, .int 0, .ref m_tets, .int 0, .int 0, .int 0, .int 0, .int 0, .int 0, .int 0, .int 0, .ref m_primes, .ref m_often, .ref m_normal, .ref m_termM, .ref m_termP, .ref m_termV, .ref m_sumFrom, .ref m_sumMany, .int 0, .int 0, .int 0, .int 0, .ref m_part, .ref m_fair, .ref m_heap, .ref m_pickTet, .ref m_pickEdge, .ref m_base, .ref m_baseM, .ref m_baseP, .ref m_rowsOf, .int 0, .ref m_grid, .ref m_times, .ref m_boxes, .ref m_cameFrom, .ref m_cameBy, .ref m_steps, .ref m_sides, .int 0, .int (-1), .ref m_next, .ref m_cube, .ref m_ways]))]) [0] (by decide) rfl
  have hFc := va_free (wc := [(m0, .inr (11, [.int 0, .ref m_tape, .int 0, .int 0, .int 0, .ref m_read, .int 0, .int 0, .int 0, .ref m_tets, .int 0, .int 0, .int 0, .int 0, .int 0, .int 0, .int 0, .int 0, .ref m_primes, .ref m_often, .ref m_normal, .ref m_termM, .ref m_termP, .ref m_termV, .ref m_sumFrom, .ref m_sumMany, .int 0, .int 0, .int 0, .int 0, .ref m_part, .ref m_fair, .ref m_heap, .ref m_pickTet, .ref m_pickEdge, .ref m_base, .ref m_baseM, .ref m_baseP, .ref m_rowsOf, .int 0, .ref m_grid, .ref m_times, .ref m_boxes, .ref m_cameFrom, .ref m_cameBy, .ref m_steps, .ref m_sides, .int 0, .int (-1), .ref m_next, .ref m_cube, .ref m_ways]))]) hD hS hA [0] rfl
  refine va_calli (va_runV (As := [.int y1, .int y2]) (rest := [.int (-1000000)]) ⟨hx, hb, hml, hown, hts⟩ (c_X11_side l dC dI cB cI cJ H.size m0 m_tape m_read m_tets m_primes m_often m_normal m_termM m_termP m_termV m_sumFrom m_sumMany m_part m_fair m_heap m_pickTet m_pickEdge m_base m_baseM m_baseP m_rowsOf m_grid m_times m_boxes m_cameFrom m_cameBy m_steps m_sides m_next m_cube m_ways y1 y2) (cwV 2 hts hL_law_X11_side rfl rfl rfl (by decide +kernel) ⟨Nat.le_of_ble_eq_true rfl, Nat.le_of_ble_eq_true rfl⟩) ⟨fun a U g mk q => by obtain ⟨q0, q1, qP, qK, qD⟩ := q; exact ⟨q0, q1, qP, va_K.moved (u := U) (U := U.calling g mk a) (Vm.Alike.refl U.vm) qK, qD⟩, va_recv hK hP (ci := 11) (q0 := 0) rfl rfl, fun U hU hW => ⟨rfl, by rw [hU], by rw [hU]; exact hPc, va_K.moved hW.alike hK, hDc.weaken (fun _ _ _ _ => trivial)⟩⟩ rfl rfl hl.1 rfl (lv_room (Nat.le_of_ble_eq_true rfl)) dL_law_1613 ⟨Nat.le_of_ble_eq_true rfl, Nat.le_of_ble_eq_true rfl⟩) hS (fun q _ h => hFc q h) hFc (fun r_10 u t H1 locs ht hvm hw hB hz1 hk1 hS => ?_)
  have hP1 : va_P (dC, dI) vwCl [] H1 := fun k q h => by simp at h
  have hD1 : va_D (va_A [(m0, .inr (11, [.int 0, .ref m_tape, .int 0, .int 0, .int 0, .ref m_read, .int 0, .int 0, .int 0, .ref m_tets, .int 0, .int 0, .int 0, .int 0, .int 0, .int 0, .int 0, .int 0, .ref m_primes, .ref m_often, .ref m_normal, .ref m_termM, .ref m_termP, .ref m_termV, .ref m_sumFrom, .ref m_sumMany, .int 0, .int 0, .int 0, .int 0, .ref m_part, .ref m_fair, .ref m_heap, .ref m_pickTet, .ref m_pickEdge, .ref m_base, .ref m_baseM, .ref m_baseP, .ref m_rowsOf, .int 0, .ref m_grid, .ref m_times, .ref m_boxes, .ref m_cameFrom, .ref m_cameBy, .ref m_steps, .ref m_sides, .int 0, .int (-1), .ref m_next, .ref m_cube, .ref m_ways]))] H.size) [] := ⟨fun i j p q h => by simp at h, fun k q h => by simp at h⟩
  obtain ⟨hP, hD⟩ := va_join (wr := []) (w1 := []) hP hD [0] [] rfl rfl (by decide) (by decide) hk1 hFc hP1 hD1
  generalize H1 = H at hP hS ⊢
  have hP : va_P (dC, dI) vwCl [] H := hP
  have hD : va_D (fun q : Nat => s.heap.size ≤ q) [] := hD
  have hr_10 := hw
  obtain rfl : r_10 = (-1000000) := hr_10
  refine lv_icmp_eq (tgt := 1744) hx hb dL_law_1616 (by decide) (fun _ => ?_) (fun c => absurd (by decide) c)
  refine W.widen (k := 600002) (n := 7302232) (Nat.le_of_ble_eq_true rfl) (Nat.le_of_ble_eq_true rfl) ?_
  exact la_end l C0 H _ hS ls hl
set_option maxHeartbeats 8000000 in
set_option maxRecDepth 100000 in
theorem la_35 {p : Program} {e : Env} {s : State} {m : MethodId} {below : List Frame} {meth : Method} {c : Code} (l : Launch) {b : Nat} {xs : Nat → Int32} (C0 : lw_At p s m meth c b 7 xs) (dC : Nat → ClassId) (dI : Nat → Nat → Nat) (cB cI cJ : ClassId) {x0 xTape xReader xBag xBld xAng xSum xPik xHan xIns xShr xSta xTur fL fS fP fT fA fQ fR fN m0 m_tape m_read m_tets m_primes m_often m_normal m_termM m_termP m_termV m_sumFrom m_sumMany m_part m_fair m_heap m_pickTet m_pickEdge m_base m_baseM m_baseP m_rowsOf m_grid m_times m_boxes m_cameFrom m_cameBy m_steps m_sides m_next m_cube m_ways o0 : Nat} (H : Heap) (locs : List Loc) (hK : va_K (dC, dI) vwCl [(cB, .byte), (cI, .int), (cJ, .long)] s) (hP : va_P (dC, dI) vwCl [(x0, .inr (10, [.ref xTape, .ref xReader, .ref xBag, .ref xBld, .ref xAng, .ref xSum, .ref xPik, .int 0, .ref xHan, .ref xIns, .ref xShr, .ref xSta, .ref xTur])), (xSta, .inr (7, [.int (-1), .ref fL, .ref fS, .ref fP, .ref fT, .ref fA, .ref fQ, .ref fR, .int 0, .ref fN])), (m0, .inr (11, [.int 0, .ref m_tape, .int 0, .int 0, .int 0, .ref m_read, .int 0, .int 0, .int 0, .ref m_tets, .int 0, .int 0, .int 0, .int 0, .int 0, .int 0, .int 0, .int 0, .ref m_primes, .ref m_often, .ref m_normal, .ref m_termM, .ref m_termP, .ref m_termV, .ref m_sumFrom, .ref m_sumMany, .int 0, .int 0, .int 0, .int 0, .ref m_part, .ref m_fair, .ref m_heap, .ref m_pickTet, .ref m_pickEdge, .ref m_base, .ref m_baseM, .ref m_baseP, .ref m_rowsOf, .int 0, .ref m_grid, .ref m_times, .ref m_boxes, .ref m_cameFrom, .ref m_cameBy, .ref m_steps, .ref m_sides, .int 0, .int (-1), .ref m_next, .ref m_cube, .ref m_ways]))] H) (hD : va_D (fun q : Nat => s.heap.size ≤ q) [(x0, .inr (10, [.ref xTape, .ref xReader, .ref xBag, .ref xBld, .ref xAng, .ref xSum, .ref xPik, .int 0, .ref xHan, .ref xIns, .ref xShr, .ref xSta, .ref xTur])), (xSta, .inr (7, [.int (-1), .ref fL, .ref fS, .ref fP, .ref fT, .ref fA, .ref fQ, .ref fR, .int 0, .ref fN])), (m0, .inr (11, [.int 0, .ref m_tape, .int 0, .int 0, .int 0, .ref m_read, .int 0, .int 0, .int 0, .ref m_tets, .int 0, .int 0, .int 0, .int 0, .int 0, .int 0, .int 0, .int 0, .ref m_primes, .ref m_often, .ref m_normal, .ref m_termM, .ref m_termP, .ref m_termV, .ref m_sumFrom, .ref m_sumMany, .int 0, .int 0, .int 0, .int 0, .ref m_part, .ref m_fair, .ref m_heap, .ref m_pickTet, .ref m_pickEdge, .ref m_base, .ref m_baseM, .ref m_baseP, .ref m_rowsOf, .int 0, .ref m_grid, .ref m_times, .ref m_boxes, .ref m_cameFrom, .ref m_cameBy, .ref m_steps, .ref m_sides, .int 0, .int (-1), .ref m_next, .ref m_cube, .ref m_ways]))]) (hS : va_S (fun q : Nat => s.heap.size ≤ q) s.heap H locs) (ls : Array Slot) (hl : lv_has ls 7 [(4, .int 0), (3, .ref o0), (2, .ref m0), (1, .ref x0), (0, .ref b)]) : W p l e room_1 s m #[Value.ref b] below meth c H locs 82 28049 (lw_Z below #[Value.ref b] s) (F0 m 1621 ls []) := by
  obtain ⟨hx, hb, hr, hml, hown, htb, hX, hbl, hlocks, hgv⟩ := id C0
  have hts := htb
  have hbA : ¬ (fun q : Nat => s.heap.size ≤ q) b := Nat.not_le.mpr hbl
  have hA : ∀ q : Nat, s.heap.size ≤ q → (fun q : Nat => s.heap.size ≤ q) q := fun _ h => h
  obtain ⟨y1, hy1⟩ : ∃ y : Int32, y = xs (1 : Int32).toNatClampNeg := ⟨_, rfl⟩
  obtain ⟨y2, hy2⟩ : ∃ y : Int32, y = xs (2 : Int32).toNatClampNeg := ⟨_, rfl⟩
  obtain ⟨y3, hy3⟩ : ∃ y : Int32, y = xs (3 : Int32).toNatClampNeg := ⟨_, rfl⟩
  obtain ⟨y4, hy4⟩ : ∃ y : Int32, y = xs (4 : Int32).toNatClampNeg := ⟨_, rfl⟩
  obtain ⟨y5, hy5⟩ : ∃ y : Int32, y = xs (5 : Int32).toNatClampNeg := ⟨_, rfl⟩
  refine lv_aload_n hx hb dL_law_1621 rfl (lv_at hl 3 rfl) ?_
  refine lv_aload_n hx hb dL_law_1622 rfl (lv_at hl 4 rfl) ?_
  refine lv_iload hx hb dL_law_1623 (lv_at hl 0 rfl) ?_
  refine lv_iconst (v := 1) hx hb dL_law_1625 (by decide) ?_
  refine lv_iadd hx hb dL_law_1626 ?_
  refine lv_topi (fun x_1 ex_1 => ?_)
  obtain rfl : x_1 = 1 := ex_1.trans (by first | rfl | decide)
  refine va_sld hx hb hX hbl hbA hS (by show ¬ (_ ∨ _); decide) dL_law_1627 ?_
  refine lv_topi (fun x_2 ex_2 => ?_)
  obtain rfl : y1 = x_2 := hy1.trans ex_2.symm
  refine lv_aload_n hx hb dL_law_1628 rfl (lv_at hl 4 rfl) ?_
  refine lv_iload hx hb dL_law_1629 (lv_at hl 0 rfl) ?_
  refine lv_iconst (v := 2) hx hb dL_law_1631 (by decide) ?_
  refine lv_iadd hx hb dL_law_1632 ?_
  refine lv_topi (fun x_3 ex_3 => ?_)
  obtain rfl : x_3 = 2 := ex_3.trans (by first | rfl | decide)
  refine va_sld hx hb hX hbl hbA hS (by show ¬ (_ ∨ _); decide) dL_law_1633 ?_
  refine lv_topi (fun x_4 ex_4 => ?_)
  obtain rfl : y2 = x_4 := hy2.trans ex_4.symm
  refine lv_aload_n hx hb dL_law_1634 rfl (lv_at hl 4 rfl) ?_
  refine lv_iload hx hb dL_law_1635 (lv_at hl 0 rfl) ?_
  refine lv_iconst (v := 3) hx hb dL_law_1637 (by decide) ?_
  refine lv_iadd hx hb dL_law_1638 ?_
  refine lv_topi (fun x_5 ex_5 => ?_)
  obtain rfl : x_5 = 3 := ex_5.trans (by first | rfl | decide)
  refine va_sld hx hb hX hbl hbA hS (by show ¬ (_ ∨ _); decide) dL_law_1639 ?_
  refine lv_topi (fun x_6 ex_6 => ?_)
  obtain rfl : y3 = x_6 := hy3.trans ex_6.symm
  refine lv_aload_n hx hb dL_law_1640 rfl (lv_at hl 4 rfl) ?_
  refine lv_iload hx hb dL_law_1641 (lv_at hl 0 rfl) ?_
  refine lv_iconst (v := 4) hx hb dL_law_1643 (by decide) ?_
  refine lv_iadd hx hb dL_law_1644 ?_
  refine lv_topi (fun x_7 ex_7 => ?_)
  obtain rfl : x_7 = 4 := ex_7.trans (by first | rfl | decide)
  refine va_sld hx hb hX hbl hbA hS (by show ¬ (_ ∨ _); decide) dL_law_1645 ?_
  refine lv_topi (fun x_8 ex_8 => ?_)
  obtain rfl : y4 = x_8 := hy4.trans ex_8.symm
  refine lv_aload_n hx hb dL_law_1646 rfl (lv_at hl 4 rfl) ?_
  refine lv_iload hx hb dL_law_1647 (lv_at hl 0 rfl) ?_
  refine lv_iconst (v := 5) hx hb dL_law_1649 (by decide) ?_
  refine lv_iadd hx hb dL_law_1650 ?_
  refine lv_topi (fun x_9 ex_9 => ?_)
  obtain rfl : x_9 = 5 := ex_9.trans (by first | rfl | decide)
  refine va_sld hx hb hX hbl hbA hS (by show ¬ (_ ∨ _); decide) dL_law_1651 ?_
  refine lv_topi (fun x_10 ex_10 => ?_)
  obtain rfl : y5 = x_10 := hy5.trans ex_10.symm
  have hPc := hP.sub (ws' := [(x0, .inr (10, [.ref xTape, .ref xReader, .ref xBag, .ref xBld, .ref xAng, .ref xSum, .ref xPik, .int 0, .ref xHan, .ref xIns, .ref xShr, .ref xSta, .ref xTur])), (xSta, .inr (7, [.int (-1), .ref fL, .ref fS, .ref fP, .ref fT, .ref fA, .ref fQ, .ref fR, .int 0, .ref fN]))]) [0, 1] rfl
  have hDc := hD.sub (ws' := [(x0, .inr (10, [.ref xTape, .ref xReader, .ref xBag, .ref xBld, .ref xAng, .ref xSum, .ref xPik, .int 0, .ref xHan, .ref xIns, .ref xShr, .ref xSta, .ref xTur])), (xSta, .inr (7, [.int (-1), .ref fL, .ref fS, .ref fP, .ref fT, .ref fA, .ref fQ, .ref fR, .int 0, .ref fN]))]) [0, 1] (by decide) rfl
  have hFc := va_free (wc := [(x0, .inr (10, [.ref xTape, .ref xReader, .ref xBag, .ref xBld, .ref xAng, .ref xSum, .ref xPik, .int 0, .ref xHan, .ref xIns, .ref xShr, .ref xSta, .ref xTur])), (xSta, .inr (7, [.int (-1), .ref fL, .ref fS, .ref fP, .ref fT, .ref fA, .ref fQ, .ref fR, .int 0, .ref fN]))]) hD hS hA [0, 1] rfl
  refine va_calli (va_runV (As := [.int y1, .int y2, .int y3, .int y4, .int y5]) (rest := []) ⟨hx, hb, hml, hown, hts⟩ (c_X10_cube l dC dI cB cI cJ H.size x0 xTape xReader xBag xBld xAng xSum xPik xHan xIns xShr xSta xTur fL fS fP fT fA fQ fR fN y1 y2 y3 y4 y5) (cwV 5 hts hL_law_X10_cube rfl rfl rfl (by decide +kernel) ⟨Nat.le_of_ble_eq_true rfl, Nat.le_of_ble_eq_true rfl⟩) ⟨fun a U g mk q => by obtain ⟨q0, q1, qP, qK, qD⟩ := q; exact ⟨q0, q1, qP, va_K.moved (u := U) (U := U.calling g mk a) (Vm.Alike.refl U.vm) qK, qD⟩, va_recv hK hP (ci := 10) (q0 := 0) rfl rfl, fun U hU hW => ⟨rfl, by rw [hU], by rw [hU]; exact hPc, va_K.moved hW.alike hK, hDc.weaken (fun _ _ _ _ => trivial)⟩⟩ rfl rfl hl.1 rfl (lv_room (Nat.le_of_ble_eq_true rfl)) dL_law_1652 ⟨Nat.le_of_ble_eq_true rfl, Nat.le_of_ble_eq_true rfl⟩) hS (fun q _ h => hFc q h) hFc (fun r_11 u t H1 locs ht hvm hw hB hz1 hk1 hS => ?_)
  have hP1 : va_P (dC, dI) vwCl [] H1 := fun k q h => by simp at h
  have hD1 : va_D (va_A [(x0, .inr (10, [.ref xTape, .ref xReader, .ref xBag, .ref xBld, .ref xAng, .ref xSum, .ref xPik, .int 0, .ref xHan, .ref xIns, .ref xShr, .ref xSta, .ref xTur])), (xSta, .inr (7, [.int (-1), .ref fL, .ref fS, .ref fP, .ref fT, .ref fA, .ref fQ, .ref fR, .int 0, .ref fN]))] H.size) [] := ⟨fun i j p q h => by simp at h, fun k q h => by simp at h⟩
  obtain ⟨hP, hD⟩ := va_join (wr := [(m0, .inr (11, [.int 0, .ref m_tape, .int 0, .int 0, .int 0, .ref m_read, .int 0, .int 0, .int 0, .ref m_tets, .int 0, .int 0, .int 0, .int 0, .int 0, .int 0, .int 0, .int 0, .ref m_primes, .ref m_often, .ref m_normal, .ref m_termM, .ref m_termP, .ref m_termV, .ref m_sumFrom, .ref m_sumMany, .int 0, .int 0, .int 0, .int 0, .ref m_part, .ref m_fair, .ref m_heap, .ref m_pickTet, .ref m_pickEdge, .ref m_base, .ref m_baseM, .ref m_baseP, .ref m_rowsOf, .int 0, .ref m_grid, .ref m_times, .ref m_boxes, .ref m_cameFrom, .ref m_cameBy, .ref m_steps, .ref m_sides, .int 0, .int (-1), .ref m_next, .ref m_cube, .ref m_ways]))]) (w1 := []) hP hD [0, 1] [2] rfl rfl (by decide) (by decide) hk1 hFc hP1 hD1
  generalize H1 = H at hP hS ⊢
  have hP : va_P (dC, dI) vwCl [(m0, .inr (11, [.int 0, .ref m_tape, .int 0, .int 0, .int 0, .ref m_read, .int 0, .int 0, .int 0, .ref m_tets, .int 0, .int 0, .int 0, .int 0, .int 0, .int 0, .int 0, .int 0, .ref m_primes, .ref m_often, .ref m_normal, .ref m_termM, .ref m_termP, .ref m_termV, .ref m_sumFrom, .ref m_sumMany, .int 0, .int 0, .int 0, .int 0, .ref m_part, .ref m_fair, .ref m_heap, .ref m_pickTet, .ref m_pickEdge, .ref m_base, .ref m_baseM, .ref m_baseP, .ref m_rowsOf, .int 0, .ref m_grid, .ref m_times, .ref m_boxes, .ref m_cameFrom, .ref m_cameBy, .ref m_steps, .ref m_sides, .int 0, .int (-1), .ref m_next, .ref m_cube, .ref m_ways]))] H := hP
  have hD : va_D (fun q : Nat => s.heap.size ≤ q) [(m0, .inr (11, [.int 0, .ref m_tape, .int 0, .int 0, .int 0, .ref m_read, .int 0, .int 0, .int 0, .ref m_tets, .int 0, .int 0, .int 0, .int 0, .int 0, .int 0, .int 0, .int 0, .ref m_primes, .ref m_often, .ref m_normal, .ref m_termM, .ref m_termP, .ref m_termV, .ref m_sumFrom, .ref m_sumMany, .int 0, .int 0, .int 0, .int 0, .ref m_part, .ref m_fair, .ref m_heap, .ref m_pickTet, .ref m_pickEdge, .ref m_base, .ref m_baseM, .ref m_baseP, .ref m_rowsOf, .int 0, .ref m_grid, .ref m_times, .ref m_boxes, .ref m_cameFrom, .ref m_cameBy, .ref m_steps, .ref m_sides, .int 0, .int (-1), .ref m_next, .ref m_cube, .ref m_ways]))] := hD
  have hr_11 := hw
  obtain rfl : r_11 = (-1000000) := hr_11
  refine lv_aload_n hx hb dL_law_1655 rfl (lv_at hl 2 rfl) ?_
  refine lv_aload_n hx hb dL_law_1656 rfl (lv_at hl 4 rfl) ?_
  refine lv_iload hx hb dL_law_1657 (lv_at hl 0 rfl) ?_
  refine lv_iconst (v := 1) hx hb dL_law_1659 (by decide) ?_
  refine lv_iadd hx hb dL_law_1660 ?_
  refine lv_topi (fun x_12 ex_12 => ?_)
  obtain rfl : x_12 = 1 := ex_12.trans (by first | rfl | decide)
  refine va_sld hx hb hX hbl hbA hS (by show ¬ (_ ∨ _); decide) dL_law_1661 ?_
  refine lv_topi (fun x_13 ex_13 => ?_)
  obtain rfl : y1 = x_13 := hy1.trans ex_13.symm
  refine lv_aload_n hx hb dL_law_1662 rfl (lv_at hl 4 rfl) ?_
  refine lv_iload hx hb dL_law_1663 (lv_at hl 0 rfl) ?_
  refine lv_iconst (v := 2) hx hb dL_law_1665 (by decide) ?_
  refine lv_iadd hx hb dL_law_1666 ?_
  refine lv_topi (fun x_14 ex_14 => ?_)
  obtain rfl : x_14 = 2 := ex_14.trans (by first | rfl | decide)
  refine va_sld hx hb hX hbl hbA hS (by show ¬ (_ ∨ _); decide) dL_law_1667 ?_
  refine lv_topi (fun x_15 ex_15 => ?_)
  obtain rfl : y2 = x_15 := hy2.trans ex_15.symm
  refine lv_aload_n hx hb dL_law_1668 rfl (lv_at hl 4 rfl) ?_
  refine lv_iload hx hb dL_law_1669 (lv_at hl 0 rfl) ?_
  refine lv_iconst (v := 3) hx hb dL_law_1671 (by decide) ?_
  refine lv_iadd hx hb dL_law_1672 ?_
  refine lv_topi (fun x_16 ex_16 => ?_)
  obtain rfl : x_16 = 3 := ex_16.trans (by first | rfl | decide)
  refine va_sld hx hb hX hbl hbA hS (by show ¬ (_ ∨ _); decide) dL_law_1673 ?_
  refine lv_topi (fun x_17 ex_17 => ?_)
  obtain rfl : y3 = x_17 := hy3.trans ex_17.symm
  refine lv_aload_n hx hb dL_law_1674 rfl (lv_at hl 4 rfl) ?_
  refine lv_iload hx hb dL_law_1675 (lv_at hl 0 rfl) ?_
  refine lv_iconst (v := 4) hx hb dL_law_1677 (by decide) ?_
  refine lv_iadd hx hb dL_law_1678 ?_
  refine lv_topi (fun x_18 ex_18 => ?_)
  obtain rfl : x_18 = 4 := ex_18.trans (by first | rfl | decide)
  refine va_sld hx hb hX hbl hbA hS (by show ¬ (_ ∨ _); decide) dL_law_1679 ?_
  refine lv_topi (fun x_19 ex_19 => ?_)
  obtain rfl : y4 = x_19 := hy4.trans ex_19.symm
  refine lv_aload_n hx hb dL_law_1680 rfl (lv_at hl 4 rfl) ?_
  refine lv_iload hx hb dL_law_1681 (lv_at hl 0 rfl) ?_
  refine lv_iconst (v := 5) hx hb dL_law_1683 (by decide) ?_
  refine lv_iadd hx hb dL_law_1684 ?_
  refine lv_topi (fun x_20 ex_20 => ?_)
  obtain rfl : x_20 = 5 := ex_20.trans (by first | rfl | decide)
  refine va_sld hx hb hX hbl hbA hS (by show ¬ (_ ∨ _); decide) dL_law_1685 ?_
  refine lv_topi (fun x_21 ex_21 => ?_)
  obtain rfl : y5 = x_21 := hy5.trans ex_21.symm
  have hPc := hP.sub (ws' := [(m0, .inr (11, [.int 0, .ref m_tape, .int 0, .int 0, .int 0, .ref m_read, .int 0, .int 0, .int 0, .ref m_tets, .int 0, .int 0, .int 0, .int 0, .int 0, .int 0, .int 0, .int 0, .ref m_primes, .ref m_often, .ref m_normal, .ref m_termM, .ref m_termP, .ref m_termV, .ref m_sumFrom, .ref m_sumMany, .int 0, .int 0, .int 0, .int 0, .ref m_part, .ref m_fair, .ref m_heap, .ref m_pickTet, .ref m_pickEdge, .ref m_base, .ref m_baseM, .ref m_baseP, .ref m_rowsOf, .int 0, .ref m_grid, .ref m_times, .ref m_boxes, .ref m_cameFrom, .ref m_cameBy, .ref m_steps, .ref m_sides, .int 0, .int (-1), .ref m_next, .ref m_cube, .ref m_ways]))]) [0] rfl
  have hDc := hD.sub (ws' := [(m0, .inr (11, [.int 0, .ref m_tape, .int 0, .int 0, .int 0, .ref m_read, .int 0, .int 0, .int 0, .ref m_tets, .int 0, .int 0, .int 0, .int 0, .int 0, .int 0, .int 0, .int 0, .ref m_primes, .ref m_often, .ref m_normal, .ref m_termM, .ref m_termP, .ref m_termV, .ref m_sumFrom, .ref m_sumMany, .int 0, .int 0, .int 0, .int 0, .ref m_part, .ref m_fair, .ref m_heap, .ref m_pickTet, .ref m_pickEdge, .ref m_base, .ref m_baseM, .ref m_baseP, .ref m_rowsOf, .int 0, .ref m_grid, .ref m_times, .ref m_boxes, .ref m_cameFrom, .ref m_cameBy, .ref m_steps, .ref m_sides, .int 0, .int (-1), .ref m_next, .ref m_cube, .ref m_ways]))]) [0] (by decide) rfl
  have hFc := va_free (wc := [(m0, .inr (11, [.int 0, .ref m_tape, .int 0, .int 0, .int 0, .ref m_read, .int 0, .int 0, .int 0, .ref m_tets, .int 0, .int 0, .int 0, .int 0, .int 0, .int 0, .int 0, .int 0, .ref m_primes, .ref m_often, .ref m_normal, .ref m_termM, .ref m_termP, .ref m_termV, .ref m_sumFrom, .ref m_sumMany, .int 0, .int 0, .int 0, .int 0, .ref m_part, .ref m_fair, .ref m_heap, .ref m_pickTet, .ref m_pickEdge, .ref m_base, .ref m_baseM, .ref m_baseP, .ref m_rowsOf, .int 0, .ref m_grid, .ref m_times, .ref m_boxes, .ref m_cameFrom, .ref m_cameBy, .ref m_steps, .ref m_sides, .int 0, .int (-1), .ref m_next, .ref m_cube, .ref m_ways]))]) hD hS hA [0] rfl
  refine va_calli (va_runV (As := [.int y1, .int y2, .int y3, .int y4, .int y5]) (rest := [.int (-1000000)]) ⟨hx, hb, hml, hown, hts⟩ (c_X11_cube l dC dI cB cI cJ H.size m0 m_tape m_read m_tets m_primes m_often m_normal m_termM m_termP m_termV m_sumFrom m_sumMany m_part m_fair m_heap m_pickTet m_pickEdge m_base m_baseM m_baseP m_rowsOf m_grid m_times m_boxes m_cameFrom m_cameBy m_steps m_sides m_next m_cube m_ways y1 y2 y3 y4 y5) (cwV 5 hts hL_law_X11_cube rfl rfl rfl (by decide +kernel) ⟨Nat.le_of_ble_eq_true rfl, Nat.le_of_ble_eq_true rfl⟩) ⟨fun a U g mk q => by obtain ⟨q0, q1, qP, qK, qD⟩ := q; exact ⟨q0, q1, qP, va_K.moved (u := U) (U := U.calling g mk a) (Vm.Alike.refl U.vm) qK, qD⟩, va_recv hK hP (ci := 11) (q0 := 0) rfl rfl, fun U hU hW => ⟨rfl, by rw [hU], by rw [hU]; exact hPc, va_K.moved hW.alike hK, hDc.weaken (fun _ _ _ _ => trivial)⟩⟩ rfl rfl hl.1 rfl (lv_room (Nat.le_of_ble_eq_true rfl)) dL_law_1686 ⟨Nat.le_of_ble_eq_true rfl, Nat.le_of_ble_eq_true rfl⟩) hS (fun q _ h => hFc q h) hFc (fun r_22 u t H1 locs ht hvm hw hB hz1 hk1 hS => ?_)
  have hP1 : va_P (dC, dI) vwCl [] H1 := fun k q h => by simp at h
  have hD1 : va_D (va_A [(m0, .inr (11, [.int 0, .ref m_tape, .int 0, .int 0, .int 0, .ref m_read, .int 0, .int 0, .int 0, .ref m_tets, .int 0, .int 0, .int 0, .int 0, .int 0, .int 0, .int 0, .int 0, .ref m_primes, .ref m_often, .ref m_normal, .ref m_termM, .ref m_termP, .ref m_termV, .ref m_sumFrom, .ref m_sumMany, .int 0, .int 0, .int 0, .int 0, .ref m_part, .ref m_fair, .ref m_heap, .ref m_pickTet, .ref m_pickEdge, .ref m_base, .ref m_baseM, .ref m_baseP, .ref m_rowsOf, .int 0, .ref m_grid, .ref m_times, .ref m_boxes, .ref m_cameFrom, .ref m_cameBy, .ref m_steps, .ref m_sides, .int 0, .int (-1), .ref m_next, .ref m_cube, .ref m_ways]))] H.size) [] := ⟨fun i j p q h => by simp at h, fun k q h => by simp at h⟩
  obtain ⟨hP, hD⟩ := va_join (wr := []) (w1 := []) hP hD [0] [] rfl rfl (by decide) (by decide) hk1 hFc hP1 hD1
  generalize H1 = H at hP hS ⊢
  have hP : va_P (dC, dI) vwCl [] H := hP
  have hD : va_D (fun q : Nat => s.heap.size ≤ q) [] := hD
  have hr_22 := hw
  obtain rfl : r_22 = (-1000000) := hr_22
  refine lv_icmp_eq (tgt := 1744) hx hb dL_law_1689 (by decide) (fun _ => ?_) (fun c => absurd (by decide) c)
  refine W.widen (k := 600002) (n := 7302232) (Nat.le_of_ble_eq_true rfl) (Nat.le_of_ble_eq_true rfl) ?_
  exact la_end l C0 H _ hS ls hl
set_option maxHeartbeats 8000000 in
set_option maxRecDepth 100000 in
theorem la_36 {p : Program} {e : Env} {s : State} {m : MethodId} {below : List Frame} {meth : Method} {c : Code} (l : Launch) {b : Nat} {xs : Nat → Int32} (C0 : lw_At p s m meth c b 7 xs) (dC : Nat → ClassId) (dI : Nat → Nat → Nat) (cB cI cJ : ClassId) {x0 xTape xReader xBag xBld xAng xSum xPik xHan xIns xShr xSta xTur fL fS fP fT fA fQ fR fN m0 m_tape m_read m_tets m_primes m_often m_normal m_termM m_termP m_termV m_sumFrom m_sumMany m_part m_fair m_heap m_pickTet m_pickEdge m_base m_baseM m_baseP m_rowsOf m_grid m_times m_boxes m_cameFrom m_cameBy m_steps m_sides m_next m_cube m_ways o0 : Nat} (H : Heap) (locs : List Loc) (hK : va_K (dC, dI) vwCl [(cB, .byte), (cI, .int), (cJ, .long)] s) (hP : va_P (dC, dI) vwCl [(x0, .inr (10, [.ref xTape, .ref xReader, .ref xBag, .ref xBld, .ref xAng, .ref xSum, .ref xPik, .int 0, .ref xHan, .ref xIns, .ref xShr, .ref xSta, .ref xTur])), (xSta, .inr (7, [.int (-1), .ref fL, .ref fS, .ref fP, .ref fT, .ref fA, .ref fQ, .ref fR, .int 0, .ref fN])), (m0, .inr (11, [.int 0, .ref m_tape, .int 0, .int 0, .int 0, .ref m_read, .int 0, .int 0, .int 0, .ref m_tets, .int 0, .int 0, .int 0, .int 0, .int 0, .int 0, .int 0, .int 0, .ref m_primes, .ref m_often, .ref m_normal, .ref m_termM, .ref m_termP, .ref m_termV, .ref m_sumFrom, .ref m_sumMany, .int 0, .int 0, .int 0, .int 0, .ref m_part, .ref m_fair, .ref m_heap, .ref m_pickTet, .ref m_pickEdge, .ref m_base, .ref m_baseM, .ref m_baseP, .ref m_rowsOf, .int 0, .ref m_grid, .ref m_times, .ref m_boxes, .ref m_cameFrom, .ref m_cameBy, .ref m_steps, .ref m_sides, .int 0, .int (-1), .ref m_next, .ref m_cube, .ref m_ways]))] H) (hD : va_D (fun q : Nat => s.heap.size ≤ q) [(x0, .inr (10, [.ref xTape, .ref xReader, .ref xBag, .ref xBld, .ref xAng, .ref xSum, .ref xPik, .int 0, .ref xHan, .ref xIns, .ref xShr, .ref xSta, .ref xTur])), (xSta, .inr (7, [.int (-1), .ref fL, .ref fS, .ref fP, .ref fT, .ref fA, .ref fQ, .ref fR, .int 0, .ref fN])), (m0, .inr (11, [.int 0, .ref m_tape, .int 0, .int 0, .int 0, .ref m_read, .int 0, .int 0, .int 0, .ref m_tets, .int 0, .int 0, .int 0, .int 0, .int 0, .int 0, .int 0, .int 0, .ref m_primes, .ref m_often, .ref m_normal, .ref m_termM, .ref m_termP, .ref m_termV, .ref m_sumFrom, .ref m_sumMany, .int 0, .int 0, .int 0, .int 0, .ref m_part, .ref m_fair, .ref m_heap, .ref m_pickTet, .ref m_pickEdge, .ref m_base, .ref m_baseM, .ref m_baseP, .ref m_rowsOf, .int 0, .ref m_grid, .ref m_times, .ref m_boxes, .ref m_cameFrom, .ref m_cameBy, .ref m_steps, .ref m_sides, .int 0, .int (-1), .ref m_next, .ref m_cube, .ref m_ways]))]) (hS : va_S (fun q : Nat => s.heap.size ≤ q) s.heap H locs) (ls : Array Slot) (hl : lv_has ls 7 [(4, .int 0), (3, .ref o0), (2, .ref m0), (1, .ref x0), (0, .ref b)]) : W p l e room_1 s m #[Value.ref b] below meth c H locs 82 28049 (lw_Z below #[Value.ref b] s) (F0 m 1694 ls []) := by
  obtain ⟨hx, hb, hr, hml, hown, htb, hX, hbl, hlocks, hgv⟩ := id C0
  have hts := htb
  have hbA : ¬ (fun q : Nat => s.heap.size ≤ q) b := Nat.not_le.mpr hbl
  have hA : ∀ q : Nat, s.heap.size ≤ q → (fun q : Nat => s.heap.size ≤ q) q := fun _ h => h
  obtain ⟨y1, hy1⟩ : ∃ y : Int32, y = xs (1 : Int32).toNatClampNeg := ⟨_, rfl⟩
  refine lv_aload_n hx hb dL_law_1694 rfl (lv_at hl 3 rfl) ?_
  refine lv_aload_n hx hb dL_law_1695 rfl (lv_at hl 4 rfl) ?_
  refine lv_iload hx hb dL_law_1696 (lv_at hl 0 rfl) ?_
  refine lv_iconst (v := 1) hx hb dL_law_1698 (by decide) ?_
  refine lv_iadd hx hb dL_law_1699 ?_
  refine lv_topi (fun x_1 ex_1 => ?_)
  obtain rfl : x_1 = 1 := ex_1.trans (by first | rfl | decide)
  refine va_sld hx hb hX hbl hbA hS (by show ¬ (_ ∨ _); decide) dL_law_1700 ?_
  refine lv_topi (fun x_2 ex_2 => ?_)
  obtain rfl : y1 = x_2 := hy1.trans ex_2.symm
  have hPc := hP.sub (ws' := [(x0, .inr (10, [.ref xTape, .ref xReader, .ref xBag, .ref xBld, .ref xAng, .ref xSum, .ref xPik, .int 0, .ref xHan, .ref xIns, .ref xShr, .ref xSta, .ref xTur])), (xSta, .inr (7, [.int (-1), .ref fL, .ref fS, .ref fP, .ref fT, .ref fA, .ref fQ, .ref fR, .int 0, .ref fN]))]) [0, 1] rfl
  have hDc := hD.sub (ws' := [(x0, .inr (10, [.ref xTape, .ref xReader, .ref xBag, .ref xBld, .ref xAng, .ref xSum, .ref xPik, .int 0, .ref xHan, .ref xIns, .ref xShr, .ref xSta, .ref xTur])), (xSta, .inr (7, [.int (-1), .ref fL, .ref fS, .ref fP, .ref fT, .ref fA, .ref fQ, .ref fR, .int 0, .ref fN]))]) [0, 1] (by decide) rfl
  have hFc := va_free (wc := [(x0, .inr (10, [.ref xTape, .ref xReader, .ref xBag, .ref xBld, .ref xAng, .ref xSum, .ref xPik, .int 0, .ref xHan, .ref xIns, .ref xShr, .ref xSta, .ref xTur])), (xSta, .inr (7, [.int (-1), .ref fL, .ref fS, .ref fP, .ref fT, .ref fA, .ref fQ, .ref fR, .int 0, .ref fN]))]) hD hS hA [0, 1] rfl
  refine va_calli (va_runV (As := [.int y1]) (rest := []) ⟨hx, hb, hml, hown, hts⟩ (c_X10_pieces l dC dI cB cI cJ H.size x0 xTape xReader xBag xBld xAng xSum xPik xHan xIns xShr xSta xTur fL fS fP fT fA fQ fR fN y1) (cwV 1 hts hL_law_X10_pieces rfl rfl rfl (by decide +kernel) ⟨Nat.le_of_ble_eq_true rfl, Nat.le_of_ble_eq_true rfl⟩) ⟨fun a U g mk q => by obtain ⟨q0, q1, qP, qK, qD⟩ := q; exact ⟨q0, q1, qP, va_K.moved (u := U) (U := U.calling g mk a) (Vm.Alike.refl U.vm) qK, qD⟩, va_recv hK hP (ci := 10) (q0 := 0) rfl rfl, fun U hU hW => ⟨rfl, by rw [hU], by rw [hU]; exact hPc, va_K.moved hW.alike hK, hDc.weaken (fun _ _ _ _ => trivial)⟩⟩ rfl rfl hl.1 rfl (lv_room (Nat.le_of_ble_eq_true rfl)) dL_law_1701 ⟨Nat.le_of_ble_eq_true rfl, Nat.le_of_ble_eq_true rfl⟩) hS (fun q _ h => hFc q h) hFc (fun r_3 u t H1 locs ht hvm hw hB hz1 hk1 hS => ?_)
  have hP1 : va_P (dC, dI) vwCl [] H1 := fun k q h => by simp at h
  have hD1 : va_D (va_A [(x0, .inr (10, [.ref xTape, .ref xReader, .ref xBag, .ref xBld, .ref xAng, .ref xSum, .ref xPik, .int 0, .ref xHan, .ref xIns, .ref xShr, .ref xSta, .ref xTur])), (xSta, .inr (7, [.int (-1), .ref fL, .ref fS, .ref fP, .ref fT, .ref fA, .ref fQ, .ref fR, .int 0, .ref fN]))] H.size) [] := ⟨fun i j p q h => by simp at h, fun k q h => by simp at h⟩
  obtain ⟨hP, hD⟩ := va_join (wr := [(m0, .inr (11, [.int 0, .ref m_tape, .int 0, .int 0, .int 0, .ref m_read, .int 0, .int 0, .int 0, .ref m_tets, .int 0, .int 0, .int 0, .int 0, .int 0, .int 0, .int 0, .int 0, .ref m_primes, .ref m_often, .ref m_normal, .ref m_termM, .ref m_termP, .ref m_termV, .ref m_sumFrom, .ref m_sumMany, .int 0, .int 0, .int 0, .int 0, .ref m_part, .ref m_fair, .ref m_heap, .ref m_pickTet, .ref m_pickEdge, .ref m_base, .ref m_baseM, .ref m_baseP, .ref m_rowsOf, .int 0, .ref m_grid, .ref m_times, .ref m_boxes, .ref m_cameFrom, .ref m_cameBy, .ref m_steps, .ref m_sides, .int 0, .int (-1), .ref m_next, .ref m_cube, .ref m_ways]))]) (w1 := []) hP hD [0, 1] [2] rfl rfl (by decide) (by decide) hk1 hFc hP1 hD1
  generalize H1 = H at hP hS ⊢
  have hP : va_P (dC, dI) vwCl [(m0, .inr (11, [.int 0, .ref m_tape, .int 0, .int 0, .int 0, .ref m_read, .int 0, .int 0, .int 0, .ref m_tets, .int 0, .int 0, .int 0, .int 0, .int 0, .int 0, .int 0, .int 0, .ref m_primes, .ref m_often, .ref m_normal, .ref m_termM, .ref m_termP, .ref m_termV, .ref m_sumFrom, .ref m_sumMany, .int 0, .int 0, .int 0, .int 0, .ref m_part, .ref m_fair, .ref m_heap, .ref m_pickTet, .ref m_pickEdge, .ref m_base, .ref m_baseM, .ref m_baseP, .ref m_rowsOf, .int 0, .ref m_grid, .ref m_times, .ref m_boxes, .ref m_cameFrom, .ref m_cameBy, .ref m_steps, .ref m_sides, .int 0, .int (-1), .ref m_next, .ref m_cube, .ref m_ways]))] H := hP
  have hD : va_D (fun q : Nat => s.heap.size ≤ q) [(m0, .inr (11, [.int 0, .ref m_tape, .int 0, .int 0, .int 0, .ref m_read, .int 0, .int 0, .int 0, .ref m_tets, .int 0, .int 0, .int 0, .int 0, .int 0, .int 0, .int 0, .int 0, .ref m_primes, .ref m_often, .ref m_normal, .ref m_termM, .ref m_termP, .ref m_termV, .ref m_sumFrom, .ref m_sumMany, .int 0, .int 0, .int 0, .int 0, .ref m_part, .ref m_fair, .ref m_heap, .ref m_pickTet, .ref m_pickEdge, .ref m_base, .ref m_baseM, .ref m_baseP, .ref m_rowsOf, .int 0, .ref m_grid, .ref m_times, .ref m_boxes, .ref m_cameFrom, .ref m_cameBy, .ref m_steps, .ref m_sides, .int 0, .int (-1), .ref m_next, .ref m_cube, .ref m_ways]))] := hD
  have hr_3 := hw
  obtain rfl : r_3 = (-1000000) := hr_3
  refine lv_aload_n hx hb dL_law_1704 rfl (lv_at hl 2 rfl) ?_
  refine lv_aload_n hx hb dL_law_1705 rfl (lv_at hl 4 rfl) ?_
  refine lv_iload hx hb dL_law_1706 (lv_at hl 0 rfl) ?_
  refine lv_iconst (v := 1) hx hb dL_law_1708 (by decide) ?_
  refine lv_iadd hx hb dL_law_1709 ?_
  refine lv_topi (fun x_4 ex_4 => ?_)
  obtain rfl : x_4 = 1 := ex_4.trans (by first | rfl | decide)
  refine va_sld hx hb hX hbl hbA hS (by show ¬ (_ ∨ _); decide) dL_law_1710 ?_
  refine lv_topi (fun x_5 ex_5 => ?_)
  obtain rfl : y1 = x_5 := hy1.trans ex_5.symm
  have hPc := hP.sub (ws' := [(m0, .inr (11, [.int 0, .ref m_tape, .int 0, .int 0, .int 0, .ref m_read, .int 0, .int 0, .int 0, .ref m_tets, .int 0, .int 0, .int 0, .int 0, .int 0, .int 0, .int 0, .int 0, .ref m_primes, .ref m_often, .ref m_normal, .ref m_termM, .ref m_termP, .ref m_termV, .ref m_sumFrom, .ref m_sumMany, .int 0, .int 0, .int 0, .int 0, .ref m_part, .ref m_fair, .ref m_heap, .ref m_pickTet, .ref m_pickEdge, .ref m_base, .ref m_baseM, .ref m_baseP, .ref m_rowsOf, .int 0, .ref m_grid, .ref m_times, .ref m_boxes, .ref m_cameFrom, .ref m_cameBy, .ref m_steps, .ref m_sides, .int 0, .int (-1), .ref m_next, .ref m_cube, .ref m_ways]))]) [0] rfl
  have hDc := hD.sub (ws' := [(m0, .inr (11, [.int 0, .ref m_tape, .int 0, .int 0, .int 0, .ref m_read, .int 0, .int 0, .int 0, .ref m_tets, .int 0, .int 0, .int 0, .int 0, .int 0, .int 0, .int 0, .int 0, .ref m_primes, .ref m_often, .ref m_normal, .ref m_termM, .ref m_termP, .ref m_termV, .ref m_sumFrom, .ref m_sumMany, .int 0, .int 0, .int 0, .int 0, .ref m_part, .ref m_fair, .ref m_heap, .ref m_pickTet, .ref m_pickEdge, .ref m_base, .ref m_baseM, .ref m_baseP, .ref m_rowsOf, .int 0, .ref m_grid, .ref m_times, .ref m_boxes, .ref m_cameFrom, .ref m_cameBy, .ref m_steps, .ref m_sides, .int 0, .int (-1), .ref m_next, .ref m_cube, .ref m_ways]))]) [0] (by decide) rfl
  have hFc := va_free (wc := [(m0, .inr (11, [.int 0, .ref m_tape, .int 0, .int 0, .int 0, .ref m_read, .int 0, .int 0, .int 0, .ref m_tets, .int 0, .int 0, .int 0, .int 0, .int 0, .int 0, .int 0, .int 0, .ref m_primes, .ref m_often, .ref m_normal, .ref m_termM, .ref m_termP, .ref m_termV, .ref m_sumFrom, .ref m_sumMany, .int 0, .int 0, .int 0, .int 0, .ref m_part, .ref m_fair, .ref m_heap, .ref m_pickTet, .ref m_pickEdge, .ref m_base, .ref m_baseM, .ref m_baseP, .ref m_rowsOf, .int 0, .ref m_grid, .ref m_times, .ref m_boxes, .ref m_cameFrom, .ref m_cameBy, .ref m_steps, .ref m_sides, .int 0, .int (-1), .ref m_next, .ref m_cube, .ref m_ways]))]) hD hS hA [0] rfl
  refine va_calli (va_runV (As := [.int y1]) (rest := [.int (-1000000)]) ⟨hx, hb, hml, hown, hts⟩ (c_X11_pieces l dC dI cB cI cJ H.size m0 m_tape m_read m_tets m_primes m_often m_normal m_termM m_termP m_termV m_sumFrom m_sumMany m_part m_fair m_heap m_pickTet m_pickEdge m_base m_baseM m_baseP m_rowsOf m_grid m_times m_boxes m_cameFrom m_cameBy m_steps m_sides m_next m_cube m_ways y1) (cwV 1 hts hL_law_X11_pieces rfl rfl rfl (by decide +kernel) ⟨Nat.le_of_ble_eq_true rfl, Nat.le_of_ble_eq_true rfl⟩) ⟨fun a U g mk q => by obtain ⟨q0, q1, qP, qK, qD⟩ := q; exact ⟨q0, q1, qP, va_K.moved (u := U) (U := U.calling g mk a) (Vm.Alike.refl U.vm) qK, qD⟩, va_recv hK hP (ci := 11) (q0 := 0) rfl rfl, fun U hU hW => ⟨rfl, by rw [hU], by rw [hU]; exact hPc, va_K.moved hW.alike hK, hDc.weaken (fun _ _ _ _ => trivial)⟩⟩ rfl rfl hl.1 rfl (lv_room (Nat.le_of_ble_eq_true rfl)) dL_law_1711 ⟨Nat.le_of_ble_eq_true rfl, Nat.le_of_ble_eq_true rfl⟩) hS (fun q _ h => hFc q h) hFc (fun r_6 u t H1 locs ht hvm hw hB hz1 hk1 hS => ?_)
  have hP1 : va_P (dC, dI) vwCl [] H1 := fun k q h => by simp at h
  have hD1 : va_D (va_A [(m0, .inr (11, [.int 0, .ref m_tape, .int 0, .int 0, .int 0, .ref m_read, .int 0, .int 0, .int 0, .ref m_tets, .int 0, .int 0, .int 0, .int 0, .int 0, .int 0, .int 0, .int 0, .ref m_primes, .ref m_often, .ref m_normal, .ref m_termM, .ref m_termP, .ref m_termV, .ref m_sumFrom, .ref m_sumMany, .int 0, .int 0, .int 0, .int 0, .ref m_part, .ref m_fair, .ref m_heap, .ref m_pickTet, .ref m_pickEdge, .ref m_base, .ref m_baseM, .ref m_baseP, .ref m_rowsOf, .int 0, .ref m_grid, .ref m_times, .ref m_boxes, .ref m_cameFrom, .ref m_cameBy, .ref m_steps, .ref m_sides, .int 0, .int (-1), .ref m_next, .ref m_cube, .ref m_ways]))] H.size) [] := ⟨fun i j p q h => by simp at h, fun k q h => by simp at h⟩
  obtain ⟨hP, hD⟩ := va_join (wr := []) (w1 := []) hP hD [0] [] rfl rfl (by decide) (by decide) hk1 hFc hP1 hD1
  generalize H1 = H at hP hS ⊢
  have hP : va_P (dC, dI) vwCl [] H := hP
  have hD : va_D (fun q : Nat => s.heap.size ≤ q) [] := hD
  have hr_6 := hw
  obtain rfl : r_6 = (-1000000) := hr_6
  refine lv_icmp_eq (tgt := 1744) hx hb dL_law_1714 (by decide) (fun _ => ?_) (fun c => absurd (by decide) c)
  refine W.widen (k := 600002) (n := 7302232) (Nat.le_of_ble_eq_true rfl) (Nat.le_of_ble_eq_true rfl) ?_
  exact la_end l C0 H _ hS ls hl
set_option maxHeartbeats 8000000 in
set_option maxRecDepth 100000 in
theorem la_37 {p : Program} {e : Env} {s : State} {m : MethodId} {below : List Frame} {meth : Method} {c : Code} (l : Launch) {b : Nat} {xs : Nat → Int32} (C0 : lw_At p s m meth c b 7 xs) (dC : Nat → ClassId) (dI : Nat → Nat → Nat) (cB cI cJ : ClassId) {x0 xTape xReader xBag xBld xAng xSum xPik xHan xIns xShr xSta xTur bC bS bX bW bP sM sP sA m0 m_tape m_read m_tets m_primes m_often m_normal m_termM m_termP m_termV m_sumFrom m_sumMany m_part m_fair m_heap m_pickTet m_pickEdge m_base m_baseM m_baseP m_rowsOf m_grid m_times m_boxes m_cameFrom m_cameBy m_steps m_sides m_next m_cube m_ways o0 : Nat} (H : Heap) (locs : List Loc) (hK : va_K (dC, dI) vwCl [(cB, .byte), (cI, .int), (cJ, .long)] s) (hP : va_P (dC, dI) vwCl [(x0, .inr (10, [.ref xTape, .ref xReader, .ref xBag, .ref xBld, .ref xAng, .ref xSum, .ref xPik, .int 0, .ref xHan, .ref xIns, .ref xShr, .ref xSta, .ref xTur])), (xBag, .inr (1, [.ref bC, .ref bS, .ref bX, .ref bW, .ref bP, .int 0])), (xSum, .inr (8, [.ref sM, .ref sP, .ref sA, .int 0])), (m0, .inr (11, [.int 0, .ref m_tape, .int 0, .int 0, .int 0, .ref m_read, .int 0, .int 0, .int 0, .ref m_tets, .int 0, .int 0, .int 0, .int 0, .int 0, .int 0, .int 0, .int 0, .ref m_primes, .ref m_often, .ref m_normal, .ref m_termM, .ref m_termP, .ref m_termV, .ref m_sumFrom, .ref m_sumMany, .int 0, .int 0, .int 0, .int 0, .ref m_part, .ref m_fair, .ref m_heap, .ref m_pickTet, .ref m_pickEdge, .ref m_base, .ref m_baseM, .ref m_baseP, .ref m_rowsOf, .int 0, .ref m_grid, .ref m_times, .ref m_boxes, .ref m_cameFrom, .ref m_cameBy, .ref m_steps, .ref m_sides, .int 0, .int (-1), .ref m_next, .ref m_cube, .ref m_ways])), (m_sumFrom, .inl (cI, 6, (.inl (fun _ => 0)))), (m_sumMany, .inl (cI, 6, (.inl (fun _ => 0))))] H) (hD : va_D (fun q : Nat => s.heap.size ≤ q) [(x0, .inr (10, [.ref xTape, .ref xReader, .ref xBag, .ref xBld, .ref xAng, .ref xSum, .ref xPik, .int 0, .ref xHan, .ref xIns, .ref xShr, .ref xSta, .ref xTur])), (xBag, .inr (1, [.ref bC, .ref bS, .ref bX, .ref bW, .ref bP, .int 0])), (xSum, .inr (8, [.ref sM, .ref sP, .ref sA, .int 0])), (m0, .inr (11, [.int 0, .ref m_tape, .int 0, .int 0, .int 0, .ref m_read, .int 0, .int 0, .int 0, .ref m_tets, .int 0, .int 0, .int 0, .int 0, .int 0, .int 0, .int 0, .int 0, .ref m_primes, .ref m_often, .ref m_normal, .ref m_termM, .ref m_termP, .ref m_termV, .ref m_sumFrom, .ref m_sumMany, .int 0, .int 0, .int 0, .int 0, .ref m_part, .ref m_fair, .ref m_heap, .ref m_pickTet, .ref m_pickEdge, .ref m_base, .ref m_baseM, .ref m_baseP, .ref m_rowsOf, .int 0, .ref m_grid, .ref m_times, .ref m_boxes, .ref m_cameFrom, .ref m_cameBy, .ref m_steps, .ref m_sides, .int 0, .int (-1), .ref m_next, .ref m_cube, .ref m_ways])), (m_sumFrom, .inl (cI, 6, (.inl (fun _ => 0)))), (m_sumMany, .inl (cI, 6, (.inl (fun _ => 0))))]) (hS : va_S (fun q : Nat => s.heap.size ≤ q) s.heap H locs) (ls : Array Slot) (hl : lv_has ls 7 [(4, .int 0), (3, .ref o0), (2, .ref m0), (1, .ref x0), (0, .ref b)]) : W p l e room_1 s m #[Value.ref b] below meth c H locs 82 28049 (lw_Z below #[Value.ref b] s) (F0 m 1719 ls []) := by
  obtain ⟨hx, hb, hr, hml, hown, htb, hX, hbl, hlocks, hgv⟩ := id C0
  have hts := htb
  have hbA : ¬ (fun q : Nat => s.heap.size ≤ q) b := Nat.not_le.mpr hbl
  have hA : ∀ q : Nat, s.heap.size ≤ q → (fun q : Nat => s.heap.size ≤ q) q := fun _ h => h
  obtain ⟨y1, hy1⟩ : ∃ y : Int32, y = xs (1 : Int32).toNatClampNeg := ⟨_, rfl⟩
  refine lv_aload_n hx hb dL_law_1719 rfl (lv_at hl 3 rfl) ?_
  refine lv_aload_n hx hb dL_law_1720 rfl (lv_at hl 4 rfl) ?_
  refine lv_iload hx hb dL_law_1721 (lv_at hl 0 rfl) ?_
  refine lv_iconst (v := 1) hx hb dL_law_1723 (by decide) ?_
  refine lv_iadd hx hb dL_law_1724 ?_
  refine lv_topi (fun x_1 ex_1 => ?_)
  obtain rfl : x_1 = 1 := ex_1.trans (by first | rfl | decide)
  refine va_sld hx hb hX hbl hbA hS (by show ¬ (_ ∨ _); decide) dL_law_1725 ?_
  refine lv_topi (fun x_2 ex_2 => ?_)
  obtain rfl : y1 = x_2 := hy1.trans ex_2.symm
  have hPc := hP.sub (ws' := [(x0, .inr (10, [.ref xTape, .ref xReader, .ref xBag, .ref xBld, .ref xAng, .ref xSum, .ref xPik, .int 0, .ref xHan, .ref xIns, .ref xShr, .ref xSta, .ref xTur])), (xBag, .inr (1, [.ref bC, .ref bS, .ref bX, .ref bW, .ref bP, .int 0])), (xSum, .inr (8, [.ref sM, .ref sP, .ref sA, .int 0]))]) [0, 1, 2] rfl
  have hDc := hD.sub (ws' := [(x0, .inr (10, [.ref xTape, .ref xReader, .ref xBag, .ref xBld, .ref xAng, .ref xSum, .ref xPik, .int 0, .ref xHan, .ref xIns, .ref xShr, .ref xSta, .ref xTur])), (xBag, .inr (1, [.ref bC, .ref bS, .ref bX, .ref bW, .ref bP, .int 0])), (xSum, .inr (8, [.ref sM, .ref sP, .ref sA, .int 0]))]) [0, 1, 2] (by decide) rfl
  have hFc := va_free (wc := [(x0, .inr (10, [.ref xTape, .ref xReader, .ref xBag, .ref xBld, .ref xAng, .ref xSum, .ref xPik, .int 0, .ref xHan, .ref xIns, .ref xShr, .ref xSta, .ref xTur])), (xBag, .inr (1, [.ref bC, .ref bS, .ref bX, .ref bW, .ref bP, .int 0])), (xSum, .inr (8, [.ref sM, .ref sP, .ref sA, .int 0]))]) hD hS hA [0, 1, 2] rfl
  refine va_calli (va_runV (As := [.int y1]) (rest := []) ⟨hx, hb, hml, hown, hts⟩ (c_X10_most l dC dI cB cI cJ H.size x0 xTape xReader xBag xBld xAng xSum xPik xHan xIns xShr xSta xTur bC bS bX bW bP sM sP sA y1) (cwV 1 hts hL_law_X10_most rfl rfl rfl (by decide +kernel) ⟨Nat.le_of_ble_eq_true rfl, Nat.le_of_ble_eq_true rfl⟩) ⟨fun a U g mk q => by obtain ⟨q0, q1, qP, qK, qD⟩ := q; exact ⟨q0, q1, qP, va_K.moved (u := U) (U := U.calling g mk a) (Vm.Alike.refl U.vm) qK, qD⟩, va_recv hK hP (ci := 10) (q0 := 0) rfl rfl, fun U hU hW => ⟨rfl, by rw [hU], by rw [hU]; exact hPc, va_K.moved hW.alike hK, hDc.weaken (fun _ _ _ _ => trivial)⟩⟩ rfl rfl hl.1 rfl (lv_room (Nat.le_of_ble_eq_true rfl)) dL_law_1726 ⟨Nat.le_of_ble_eq_true rfl, Nat.le_of_ble_eq_true rfl⟩) hS (fun q _ h => hFc q h) hFc (fun r_3 u t H1 locs ht hvm hw hB hz1 hk1 hS => ?_)
  have hP1 : va_P (dC, dI) vwCl [] H1 := fun k q h => by simp at h
  have hD1 : va_D (va_A [(x0, .inr (10, [.ref xTape, .ref xReader, .ref xBag, .ref xBld, .ref xAng, .ref xSum, .ref xPik, .int 0, .ref xHan, .ref xIns, .ref xShr, .ref xSta, .ref xTur])), (xBag, .inr (1, [.ref bC, .ref bS, .ref bX, .ref bW, .ref bP, .int 0])), (xSum, .inr (8, [.ref sM, .ref sP, .ref sA, .int 0]))] H.size) [] := ⟨fun i j p q h => by simp at h, fun k q h => by simp at h⟩
  obtain ⟨hP, hD⟩ := va_join (wr := [(m0, .inr (11, [.int 0, .ref m_tape, .int 0, .int 0, .int 0, .ref m_read, .int 0, .int 0, .int 0, .ref m_tets, .int 0, .int 0, .int 0, .int 0, .int 0, .int 0, .int 0, .int 0, .ref m_primes, .ref m_often, .ref m_normal, .ref m_termM, .ref m_termP, .ref m_termV, .ref m_sumFrom, .ref m_sumMany, .int 0, .int 0, .int 0, .int 0, .ref m_part, .ref m_fair, .ref m_heap, .ref m_pickTet, .ref m_pickEdge, .ref m_base, .ref m_baseM, .ref m_baseP, .ref m_rowsOf, .int 0, .ref m_grid, .ref m_times, .ref m_boxes, .ref m_cameFrom, .ref m_cameBy, .ref m_steps, .ref m_sides, .int 0, .int (-1), .ref m_next, .ref m_cube, .ref m_ways])), (m_sumFrom, .inl (cI, 6, (.inl (fun _ => 0)))), (m_sumMany, .inl (cI, 6, (.inl (fun _ => 0))))]) (w1 := []) hP hD [0, 1, 2] [3, 4, 5] rfl rfl (by decide) (by decide) hk1 hFc hP1 hD1
  generalize H1 = H at hP hS ⊢
  have hP : va_P (dC, dI) vwCl [(m0, .inr (11, [.int 0, .ref m_tape, .int 0, .int 0, .int 0, .ref m_read, .int 0, .int 0, .int 0, .ref m_tets, .int 0, .int 0, .int 0, .int 0, .int 0, .int 0, .int 0, .int 0, .ref m_primes, .ref m_often, .ref m_normal, .ref m_termM, .ref m_termP, .ref m_termV, .ref m_sumFrom, .ref m_sumMany, .int 0, .int 0, .int 0, .int 0, .ref m_part, .ref m_fair, .ref m_heap, .ref m_pickTet, .ref m_pickEdge, .ref m_base, .ref m_baseM, .ref m_baseP, .ref m_rowsOf, .int 0, .ref m_grid, .ref m_times, .ref m_boxes, .ref m_cameFrom, .ref m_cameBy, .ref m_steps, .ref m_sides, .int 0, .int (-1), .ref m_next, .ref m_cube, .ref m_ways])), (m_sumFrom, .inl (cI, 6, (.inl (fun _ => 0)))), (m_sumMany, .inl (cI, 6, (.inl (fun _ => 0))))] H := hP
  have hD : va_D (fun q : Nat => s.heap.size ≤ q) [(m0, .inr (11, [.int 0, .ref m_tape, .int 0, .int 0, .int 0, .ref m_read, .int 0, .int 0, .int 0, .ref m_tets, .int 0, .int 0, .int 0, .int 0, .int 0, .int 0, .int 0, .int 0, .ref m_primes, .ref m_often, .ref m_normal, .ref m_termM, .ref m_termP, .ref m_termV, .ref m_sumFrom, .ref m_sumMany, .int 0, .int 0, .int 0, .int 0, .ref m_part, .ref m_fair, .ref m_heap, .ref m_pickTet, .ref m_pickEdge, .ref m_base, .ref m_baseM, .ref m_baseP, .ref m_rowsOf, .int 0, .ref m_grid, .ref m_times, .ref m_boxes, .ref m_cameFrom, .ref m_cameBy, .ref m_steps, .ref m_sides, .int 0, .int (-1), .ref m_next, .ref m_cube, .ref m_ways])), (m_sumFrom, .inl (cI, 6, (.inl (fun _ => 0)))), (m_sumMany, .inl (cI, 6, (.inl (fun _ => 0))))] := hD
  have hr_3 := hw
  refine lv_aload_n hx hb dL_law_1729 rfl (lv_at hl 2 rfl) ?_
  refine lv_aload_n hx hb dL_law_1730 rfl (lv_at hl 4 rfl) ?_
  refine lv_iload hx hb dL_law_1731 (lv_at hl 0 rfl) ?_
  refine lv_iconst (v := 1) hx hb dL_law_1733 (by decide) ?_
  refine lv_iadd hx hb dL_law_1734 ?_
  refine lv_topi (fun x_4 ex_4 => ?_)
  obtain rfl : x_4 = 1 := ex_4.trans (by first | rfl | decide)
  refine va_sld hx hb hX hbl hbA hS (by show ¬ (_ ∨ _); decide) dL_law_1735 ?_
  refine lv_topi (fun x_5 ex_5 => ?_)
  obtain rfl : y1 = x_5 := hy1.trans ex_5.symm
  have hPc := hP.sub (ws' := [(m0, .inr (11, [.int 0, .ref m_tape, .int 0, .int 0, .int 0, .ref m_read, .int 0, .int 0, .int 0, .ref m_tets, .int 0, .int 0, .int 0, .int 0, .int 0, .int 0, .int 0, .int 0, .ref m_primes, .ref m_often, .ref m_normal, .ref m_termM, .ref m_termP, .ref m_termV, .ref m_sumFrom, .ref m_sumMany, .int 0, .int 0, .int 0, .int 0, .ref m_part, .ref m_fair, .ref m_heap, .ref m_pickTet, .ref m_pickEdge, .ref m_base, .ref m_baseM, .ref m_baseP, .ref m_rowsOf, .int 0, .ref m_grid, .ref m_times, .ref m_boxes, .ref m_cameFrom, .ref m_cameBy, .ref m_steps, .ref m_sides, .int 0, .int (-1), .ref m_next, .ref m_cube, .ref m_ways])), (m_sumFrom, .inl (cI, 6, (.inl (fun _ => 0)))), (m_sumMany, .inl (cI, 6, (.inl (fun _ => 0))))]) [0, 1, 2] rfl
  have hDc := hD.sub (ws' := [(m0, .inr (11, [.int 0, .ref m_tape, .int 0, .int 0, .int 0, .ref m_read, .int 0, .int 0, .int 0, .ref m_tets, .int 0, .int 0, .int 0, .int 0, .int 0, .int 0, .int 0, .int 0, .ref m_primes, .ref m_often, .ref m_normal, .ref m_termM, .ref m_termP, .ref m_termV, .ref m_sumFrom, .ref m_sumMany, .int 0, .int 0, .int 0, .int 0, .ref m_part, .ref m_fair, .ref m_heap, .ref m_pickTet, .ref m_pickEdge, .ref m_base, .ref m_baseM, .ref m_baseP, .ref m_rowsOf, .int 0, .ref m_grid, .ref m_times, .ref m_boxes, .ref m_cameFrom, .ref m_cameBy, .ref m_steps, .ref m_sides, .int 0, .int (-1), .ref m_next, .ref m_cube, .ref m_ways])), (m_sumFrom, .inl (cI, 6, (.inl (fun _ => 0)))), (m_sumMany, .inl (cI, 6, (.inl (fun _ => 0))))]) [0, 1, 2] (by decide) rfl
  have hFc := va_free (wc := [(m0, .inr (11, [.int 0, .ref m_tape, .int 0, .int 0, .int 0, .ref m_read, .int 0, .int 0, .int 0, .ref m_tets, .int 0, .int 0, .int 0, .int 0, .int 0, .int 0, .int 0, .int 0, .ref m_primes, .ref m_often, .ref m_normal, .ref m_termM, .ref m_termP, .ref m_termV, .ref m_sumFrom, .ref m_sumMany, .int 0, .int 0, .int 0, .int 0, .ref m_part, .ref m_fair, .ref m_heap, .ref m_pickTet, .ref m_pickEdge, .ref m_base, .ref m_baseM, .ref m_baseP, .ref m_rowsOf, .int 0, .ref m_grid, .ref m_times, .ref m_boxes, .ref m_cameFrom, .ref m_cameBy, .ref m_steps, .ref m_sides, .int 0, .int (-1), .ref m_next, .ref m_cube, .ref m_ways])), (m_sumFrom, .inl (cI, 6, (.inl (fun _ => 0)))), (m_sumMany, .inl (cI, 6, (.inl (fun _ => 0))))]) hD hS hA [0, 1, 2] rfl
  refine va_calli (va_runV (As := [.int y1]) (rest := [.int r_3]) ⟨hx, hb, hml, hown, hts⟩ (c_X11_most l dC dI cB cI cJ H.size m0 m_tape m_read m_tets m_primes m_often m_normal m_termM m_termP m_termV m_sumFrom m_sumMany m_part m_fair m_heap m_pickTet m_pickEdge m_base m_baseM m_baseP m_rowsOf m_grid m_times m_boxes m_cameFrom m_cameBy m_steps m_sides m_next m_cube m_ways y1) (cwV 1 hts hL_law_X11_most rfl rfl rfl (by decide +kernel) ⟨Nat.le_of_ble_eq_true rfl, Nat.le_of_ble_eq_true rfl⟩) ⟨fun a U g mk q => by obtain ⟨q0, q1, qP, qK, qD⟩ := q; exact ⟨q0, q1, qP, va_K.moved (u := U) (U := U.calling g mk a) (Vm.Alike.refl U.vm) qK, qD⟩, va_recv hK hP (ci := 11) (q0 := 0) rfl rfl, fun U hU hW => ⟨rfl, by rw [hU], by rw [hU]; exact hPc, va_K.moved hW.alike hK, hDc.weaken (fun _ _ _ _ => trivial)⟩⟩ rfl rfl hl.1 rfl (lv_room (Nat.le_of_ble_eq_true rfl)) dL_law_1736 ⟨Nat.le_of_ble_eq_true rfl, Nat.le_of_ble_eq_true rfl⟩) hS (fun q _ h => hFc q h) hFc (fun r_6 u t H1 locs ht hvm hw hB hz1 hk1 hS => ?_)
  have hP1 : va_P (dC, dI) vwCl [] H1 := fun k q h => by simp at h
  have hD1 : va_D (va_A [(m0, .inr (11, [.int 0, .ref m_tape, .int 0, .int 0, .int 0, .ref m_read, .int 0, .int 0, .int 0, .ref m_tets, .int 0, .int 0, .int 0, .int 0, .int 0, .int 0, .int 0, .int 0, .ref m_primes, .ref m_often, .ref m_normal, .ref m_termM, .ref m_termP, .ref m_termV, .ref m_sumFrom, .ref m_sumMany, .int 0, .int 0, .int 0, .int 0, .ref m_part, .ref m_fair, .ref m_heap, .ref m_pickTet, .ref m_pickEdge, .ref m_base, .ref m_baseM, .ref m_baseP, .ref m_rowsOf, .int 0, .ref m_grid, .ref m_times, .ref m_boxes, .ref m_cameFrom, .ref m_cameBy, .ref m_steps, .ref m_sides, .int 0, .int (-1), .ref m_next, .ref m_cube, .ref m_ways])), (m_sumFrom, .inl (cI, 6, (.inl (fun _ => 0)))), (m_sumMany, .inl (cI, 6, (.inl (fun _ => 0))))] H.size) [] := ⟨fun i j p q h => by simp at h, fun k q h => by simp at h⟩
  obtain ⟨hP, hD⟩ := va_join (wr := []) (w1 := []) hP hD [0, 1, 2] [] rfl rfl (by decide) (by decide) hk1 hFc hP1 hD1
  generalize H1 = H at hP hS ⊢
  have hP : va_P (dC, dI) vwCl [] H := hP
  have hD : va_D (fun q : Nat => s.heap.size ≤ q) [] := hD
  have hr_6 := hw
  refine lv_icmp_eq (tgt := 1744) hx hb dL_law_1739 (by decide) (fun _ => ?_) (fun c => absurd (hr_3.trans hr_6.symm) c)
  refine W.widen (k := 600002) (n := 7302232) (Nat.le_of_ble_eq_true rfl) (Nat.le_of_ble_eq_true rfl) ?_
  exact la_end l C0 H _ hS ls hl
