
set_option maxRecDepth 20000 in
theorem wd_300 : (.selects RX0 yX0_copyFrom yX0_copyFrom : Cond) ∈ lw_all := in_all 300 (by decide +kernel) (by decide +kernel)
set_option maxRecDepth 20000 in
theorem wd_301 : (.code yX0_copyFrom cX0_copyFrom 2 none : Cond) ∈ lw_all := in_all 301 (by decide +kernel) (by decide +kernel)
set_option maxRecDepth 20000 in
theorem wd_303 : (.methodLink RX5 76 yX0_add : Cond) ∈ lw_all := in_all 303 (by decide +kernel) (by decide +kernel)
set_option maxRecDepth 20000 in
theorem wd_304 : (.instanceMethod yX0_add : Cond) ∈ lw_all := in_all 304 (by decide +kernel) (by decide +kernel)
set_option maxRecDepth 20000 in
theorem wd_305 : (.selects RX0 yX0_add yX0_add : Cond) ∈ lw_all := in_all 305 (by decide +kernel) (by decide +kernel)
set_option maxRecDepth 20000 in
theorem wd_306 : (.code yX0_add cX0_add 5 (some .int) : Cond) ∈ lw_all := in_all 306 (by decide +kernel) (by decide +kernel)
set_option maxRecDepth 20000 in
theorem wd_307 : (.methodLink RX0 39 yX0_setCell : Cond) ∈ lw_all := in_all 307 (by decide +kernel) (by decide +kernel)
set_option maxRecDepth 20000 in
theorem wd_309 : (.instanceMethod yX0_setCell : Cond) ∈ lw_all := in_all 309 (by decide +kernel) (by decide +kernel)
set_option maxRecDepth 20000 in
theorem wd_310 : (.code yX0_setCell cX0_setCell 4 none : Cond) ∈ lw_all := in_all 310 (by decide +kernel) (by decide +kernel)
set_option maxRecDepth 20000 in
theorem wd_311 : (.methodLink RL 22 yX5_write : Cond) ∈ lw_all := in_all 311 (by decide +kernel) (by decide +kernel)
set_option maxRecDepth 20000 in
theorem wd_312 : (.instanceMethod yX5_write : Cond) ∈ lw_all := in_all 312 (by decide +kernel) (by decide +kernel)
set_option maxRecDepth 20000 in
theorem wd_313 : (.selects RX5 yX5_write yX5_write : Cond) ∈ lw_all := in_all 313 (by decide +kernel) (by decide +kernel)
set_option maxRecDepth 20000 in
theorem wd_314 : (.code yX5_write cX5_write 3 (some .int) : Cond) ∈ lw_all := in_all 314 (by decide +kernel) (by decide +kernel)
set_option maxRecDepth 20000 in
theorem wd_315 : (.methodLink RX5 81 yX5_faultOfWriting : Cond) ∈ lw_all := in_all 315 (by decide +kernel) (by decide +kernel)
set_option maxRecDepth 20000 in
theorem wd_317 : (.instanceMethod yX5_faultOfWriting : Cond) ∈ lw_all := in_all 317 (by decide +kernel) (by decide +kernel)
set_option maxRecDepth 20000 in
theorem wd_318 : (.code yX5_faultOfWriting cX5_faultOfWriting 4 (some .int) : Cond) ∈ lw_all := in_all 318 (by decide +kernel) (by decide +kernel)
set_option maxRecDepth 20000 in
theorem wd_319 : (.methodLink RX5 84 yX0_cellOf : Cond) ∈ lw_all := in_all 319 (by decide +kernel) (by decide +kernel)
set_option maxRecDepth 20000 in
theorem wd_320 : (.instanceMethod yX0_cellOf : Cond) ∈ lw_all := in_all 320 (by decide +kernel) (by decide +kernel)
set_option maxRecDepth 20000 in
theorem wd_321 : (.selects RX0 yX0_cellOf yX0_cellOf : Cond) ∈ lw_all := in_all 321 (by decide +kernel) (by decide +kernel)
set_option maxRecDepth 20000 in
theorem wd_322 : (.code yX0_cellOf cX0_cellOf 4 (some .int) : Cond) ∈ lw_all := in_all 322 (by decide +kernel) (by decide +kernel)
set_option maxRecDepth 20000 in
theorem wd_323 : (.methodLink RX5 168 yX0_kindAt : Cond) ∈ lw_all := in_all 323 (by decide +kernel) (by decide +kernel)
set_option maxRecDepth 20000 in
theorem wd_324 : (.instanceMethod yX0_kindAt : Cond) ∈ lw_all := in_all 324 (by decide +kernel) (by decide +kernel)
set_option maxRecDepth 20000 in
theorem wd_325 : (.selects RX0 yX0_kindAt yX0_kindAt : Cond) ∈ lw_all := in_all 325 (by decide +kernel) (by decide +kernel)
set_option maxRecDepth 20000 in
theorem wd_326 : (.code yX0_kindAt cX0_kindAt 2 (some .int) : Cond) ∈ lw_all := in_all 326 (by decide +kernel) (by decide +kernel)
set_option maxRecDepth 20000 in
theorem wd_327 : (.methodLink RX5 87 yX0_makeWritten : Cond) ∈ lw_all := in_all 327 (by decide +kernel) (by decide +kernel)
set_option maxRecDepth 20000 in
theorem wd_328 : (.instanceMethod yX0_makeWritten : Cond) ∈ lw_all := in_all 328 (by decide +kernel) (by decide +kernel)
set_option maxRecDepth 20000 in
theorem wd_329 : (.selects RX0 yX0_makeWritten yX0_makeWritten : Cond) ∈ lw_all := in_all 329 (by decide +kernel) (by decide +kernel)
set_option maxRecDepth 20000 in
theorem wd_330 : (.code yX0_makeWritten cX0_makeWritten 3 none : Cond) ∈ lw_all := in_all 330 (by decide +kernel) (by decide +kernel)
set_option maxRecDepth 20000 in
theorem wd_331 : (.methodLink RX5 90 yX2_letterOf : Cond) ∈ lw_all := in_all 331 (by decide +kernel) (by decide +kernel)
set_option maxRecDepth 20000 in
theorem wd_332 : (.instanceMethod yX2_letterOf : Cond) ∈ lw_all := in_all 332 (by decide +kernel) (by decide +kernel)
set_option maxRecDepth 20000 in
theorem wd_333 : (.selects RX2 yX2_letterOf yX2_letterOf : Cond) ∈ lw_all := in_all 333 (by decide +kernel) (by decide +kernel)
set_option maxRecDepth 20000 in
theorem wd_334 : (.code yX2_letterOf cX2_letterOf 5 (some .int) : Cond) ∈ lw_all := in_all 334 (by decide +kernel) (by decide +kernel)
set_option maxRecDepth 20000 in
theorem wd_335 : (.methodLink RX2 23 yX2_weightAt : Cond) ∈ lw_all := in_all 335 (by decide +kernel) (by decide +kernel)
set_option maxRecDepth 20000 in
theorem wd_336 : (.instanceMethod yX2_weightAt : Cond) ∈ lw_all := in_all 336 (by decide +kernel) (by decide +kernel)
set_option maxRecDepth 20000 in
theorem wd_337 : (.selects RX2 yX2_weightAt yX2_weightAt : Cond) ∈ lw_all := in_all 337 (by decide +kernel) (by decide +kernel)
set_option maxRecDepth 20000 in
theorem wd_338 : (.code yX2_weightAt cX2_weightAt 2 (some .int) : Cond) ∈ lw_all := in_all 338 (by decide +kernel) (by decide +kernel)
set_option maxRecDepth 20000 in
theorem wd_339 : (.methodLink RX2 27 yX2_restOf : Cond) ∈ lw_all := in_all 339 (by decide +kernel) (by decide +kernel)
set_option maxRecDepth 20000 in
theorem wd_341 : (.instanceMethod yX2_restOf : Cond) ∈ lw_all := in_all 341 (by decide +kernel) (by decide +kernel)
set_option maxRecDepth 20000 in
theorem wd_342 : (.code yX2_restOf cX2_restOf 3 (some .int) : Cond) ∈ lw_all := in_all 342 (by decide +kernel) (by decide +kernel)
set_option maxRecDepth 20000 in
theorem wd_343 : (.methodLink RL 25 yX5_cash : Cond) ∈ lw_all := in_all 343 (by decide +kernel) (by decide +kernel)
set_option maxRecDepth 20000 in
theorem wd_344 : (.instanceMethod yX5_cash : Cond) ∈ lw_all := in_all 344 (by decide +kernel) (by decide +kernel)
set_option maxRecDepth 20000 in
theorem wd_345 : (.selects RX5 yX5_cash yX5_cash : Cond) ∈ lw_all := in_all 345 (by decide +kernel) (by decide +kernel)
set_option maxRecDepth 20000 in
theorem wd_346 : (.code yX5_cash cX5_cash 3 (some .int) : Cond) ∈ lw_all := in_all 346 (by decide +kernel) (by decide +kernel)
set_option maxRecDepth 20000 in
theorem wd_347 : (.methodLink RX5 93 yX5_throwIfNoSerial : Cond) ∈ lw_all := in_all 347 (by decide +kernel) (by decide +kernel)
set_option maxRecDepth 20000 in
theorem wd_348 : (.static yX5_throwIfNoSerial : Cond) ∈ lw_all := in_all 348 (by decide +kernel) (by decide +kernel)
set_option maxRecDepth 20000 in
theorem wd_349 : (.code yX5_throwIfNoSerial cX5_throwIfNoSerial 1 none : Cond) ∈ lw_all := in_all 349 (by decide +kernel) (by decide +kernel)
set_option maxRecDepth 20000 in
theorem wd_351 : (.methodLink RX5 96 yX5_throwIfNoLetter : Cond) ∈ lw_all := in_all 351 (by decide +kernel) (by decide +kernel)
set_option maxRecDepth 20000 in
theorem wd_352 : (.static yX5_throwIfNoLetter : Cond) ∈ lw_all := in_all 352 (by decide +kernel) (by decide +kernel)
set_option maxRecDepth 20000 in
theorem wd_353 : (.code yX5_throwIfNoLetter cX5_throwIfNoLetter 1 none : Cond) ∈ lw_all := in_all 353 (by decide +kernel) (by decide +kernel)
set_option maxRecDepth 20000 in
theorem wd_355 : (.methodLink RX5 99 yX4_cashByReading : Cond) ∈ lw_all := in_all 355 (by decide +kernel) (by decide +kernel)
set_option maxRecDepth 20000 in
theorem wd_356 : (.instanceMethod yX4_cashByReading : Cond) ∈ lw_all := in_all 356 (by decide +kernel) (by decide +kernel)
set_option maxRecDepth 20000 in
theorem wd_357 : (.selects RX4 yX4_cashByReading yX4_cashByReading : Cond) ∈ lw_all := in_all 357 (by decide +kernel) (by decide +kernel)
set_option maxRecDepth 20000 in
theorem wd_358 : (.code yX4_cashByReading cX4_cashByReading 5 (some .int) : Cond) ∈ lw_all := in_all 358 (by decide +kernel) (by decide +kernel)
set_option maxRecDepth 20000 in
theorem wd_359 : (.methodLink RX4 36 yX4_reasonAgainstCashing : Cond) ∈ lw_all := in_all 359 (by decide +kernel) (by decide +kernel)
set_option maxRecDepth 20000 in
theorem wd_361 : (.instanceMethod yX4_reasonAgainstCashing : Cond) ∈ lw_all := in_all 361 (by decide +kernel) (by decide +kernel)
set_option maxRecDepth 20000 in
theorem wd_362 : (.code yX4_reasonAgainstCashing cX4_reasonAgainstCashing 4 (some .int) : Cond) ∈ lw_all := in_all 362 (by decide +kernel) (by decide +kernel)
set_option maxRecDepth 20000 in
theorem wd_363 : (.methodLink RX4 51 yX2_letterOf : Cond) ∈ lw_all := in_all 363 (by decide +kernel) (by decide +kernel)
set_option maxRecDepth 20000 in
theorem wd_364 : (.methodLink RX4 40 yX0_cellOf : Cond) ∈ lw_all := in_all 364 (by decide +kernel) (by decide +kernel)
set_option maxRecDepth 20000 in
theorem wd_365 : (.methodLink RX4 54 yX0_kindAt : Cond) ∈ lw_all := in_all 365 (by decide +kernel) (by decide +kernel)
set_option maxRecDepth 20000 in
theorem wd_366 : (.methodLink RX4 44 yX0_makeCashed : Cond) ∈ lw_all := in_all 366 (by decide +kernel) (by decide +kernel)
set_option maxRecDepth 20000 in
theorem wd_367 : (.instanceMethod yX0_makeCashed : Cond) ∈ lw_all := in_all 367 (by decide +kernel) (by decide +kernel)
set_option maxRecDepth 20000 in
theorem wd_368 : (.selects RX0 yX0_makeCashed yX0_makeCashed : Cond) ∈ lw_all := in_all 368 (by decide +kernel) (by decide +kernel)
set_option maxRecDepth 20000 in
theorem wd_369 : (.code yX0_makeCashed cX0_makeCashed 2 none : Cond) ∈ lw_all := in_all 369 (by decide +kernel) (by decide +kernel)
set_option maxRecDepth 20000 in
theorem wd_370 : (.methodLink RX0 43 yX0_amountAt : Cond) ∈ lw_all := in_all 370 (by decide +kernel) (by decide +kernel)
set_option maxRecDepth 20000 in
theorem wd_371 : (.instanceMethod yX0_amountAt : Cond) ∈ lw_all := in_all 371 (by decide +kernel) (by decide +kernel)
set_option maxRecDepth 20000 in
theorem wd_372 : (.selects RX0 yX0_amountAt yX0_amountAt : Cond) ∈ lw_all := in_all 372 (by decide +kernel) (by decide +kernel)
set_option maxRecDepth 20000 in
theorem wd_373 : (.code yX0_amountAt cX0_amountAt 2 (some .int) : Cond) ∈ lw_all := in_all 373 (by decide +kernel) (by decide +kernel)
set_option maxRecDepth 20000 in
theorem wd_374 : (.methodLink RX4 48 yX0_amountAt : Cond) ∈ lw_all := in_all 374 (by decide +kernel) (by decide +kernel)
set_option maxRecDepth 20000 in
theorem wd_375 : (.methodLink RL 38 yX5_undo : Cond) ∈ lw_all := in_all 375 (by decide +kernel) (by decide +kernel)
set_option maxRecDepth 20000 in
theorem wd_376 : (.instanceMethod yX5_undo : Cond) ∈ lw_all := in_all 376 (by decide +kernel) (by decide +kernel)
set_option maxRecDepth 20000 in
theorem wd_377 : (.selects RX5 yX5_undo yX5_undo : Cond) ∈ lw_all := in_all 377 (by decide +kernel) (by decide +kernel)
set_option maxRecDepth 20000 in
theorem wd_378 : (.code yX5_undo cX5_undo 1 (some .int) : Cond) ∈ lw_all := in_all 378 (by decide +kernel) (by decide +kernel)
set_option maxRecDepth 20000 in
theorem wd_380 : (.methodLink RX5 141 yX1_restoreLast : Cond) ∈ lw_all := in_all 380 (by decide +kernel) (by decide +kernel)
set_option maxRecDepth 20000 in
theorem wd_381 : (.instanceMethod yX1_restoreLast : Cond) ∈ lw_all := in_all 381 (by decide +kernel) (by decide +kernel)
set_option maxRecDepth 20000 in
theorem wd_382 : (.selects RX1 yX1_restoreLast yX1_restoreLast : Cond) ∈ lw_all := in_all 382 (by decide +kernel) (by decide +kernel)
set_option maxRecDepth 20000 in
theorem wd_383 : (.code yX1_restoreLast cX1_restoreLast 3 none : Cond) ∈ lw_all := in_all 383 (by decide +kernel) (by decide +kernel)
set_option maxRecDepth 20000 in
theorem wd_384 : (.methodLink RL 41 yX5_keep : Cond) ∈ lw_all := in_all 384 (by decide +kernel) (by decide +kernel)
set_option maxRecDepth 20000 in
theorem wd_385 : (.instanceMethod yX5_keep : Cond) ∈ lw_all := in_all 385 (by decide +kernel) (by decide +kernel)
set_option maxRecDepth 20000 in
theorem wd_386 : (.selects RX5 yX5_keep yX5_keep : Cond) ∈ lw_all := in_all 386 (by decide +kernel) (by decide +kernel)
set_option maxRecDepth 20000 in
theorem wd_387 : (.code yX5_keep cX5_keep 2 (some .int) : Cond) ∈ lw_all := in_all 387 (by decide +kernel) (by decide +kernel)
set_option maxRecDepth 20000 in
theorem wd_388 : (.methodLink RX5 144 yX5_throwIfNoSlot : Cond) ∈ lw_all := in_all 388 (by decide +kernel) (by decide +kernel)
set_option maxRecDepth 20000 in
theorem wd_389 : (.static yX5_throwIfNoSlot : Cond) ∈ lw_all := in_all 389 (by decide +kernel) (by decide +kernel)
set_option maxRecDepth 20000 in
theorem wd_390 : (.code yX5_throwIfNoSlot cX5_throwIfNoSlot 1 none : Cond) ∈ lw_all := in_all 390 (by decide +kernel) (by decide +kernel)
set_option maxRecDepth 20000 in
theorem wd_392 : (.methodLink RX5 147 yX1_putIntoSlot : Cond) ∈ lw_all := in_all 392 (by decide +kernel) (by decide +kernel)
set_option maxRecDepth 20000 in
theorem wd_393 : (.instanceMethod yX1_putIntoSlot : Cond) ∈ lw_all := in_all 393 (by decide +kernel) (by decide +kernel)
set_option maxRecDepth 20000 in
theorem wd_394 : (.selects RX1 yX1_putIntoSlot yX1_putIntoSlot : Cond) ∈ lw_all := in_all 394 (by decide +kernel) (by decide +kernel)
set_option maxRecDepth 20000 in
theorem wd_395 : (.code yX1_putIntoSlot cX1_putIntoSlot 3 none : Cond) ∈ lw_all := in_all 395 (by decide +kernel) (by decide +kernel)
set_option maxRecDepth 20000 in
theorem wd_396 : (.methodLink RL 44 yX5_goBack : Cond) ∈ lw_all := in_all 396 (by decide +kernel) (by decide +kernel)
set_option maxRecDepth 20000 in
theorem wd_397 : (.instanceMethod yX5_goBack : Cond) ∈ lw_all := in_all 397 (by decide +kernel) (by decide +kernel)
set_option maxRecDepth 20000 in
theorem wd_398 : (.selects RX5 yX5_goBack yX5_goBack : Cond) ∈ lw_all := in_all 398 (by decide +kernel) (by decide +kernel)
set_option maxRecDepth 20000 in
theorem wd_399 : (.code yX5_goBack cX5_goBack 2 (some .int) : Cond) ∈ lw_all := in_all 399 (by decide +kernel) (by decide +kernel)
set_option maxRecDepth 20000 in
theorem wd_400 : (.methodLink RX5 154 yX1_isSlotFilled : Cond) ∈ lw_all := in_all 400 (by decide +kernel) (by decide +kernel)
set_option maxRecDepth 20000 in
theorem wd_401 : (.instanceMethod yX1_isSlotFilled : Cond) ∈ lw_all := in_all 401 (by decide +kernel) (by decide +kernel)
set_option maxRecDepth 20000 in
theorem wd_402 : (.selects RX1 yX1_isSlotFilled yX1_isSlotFilled : Cond) ∈ lw_all := in_all 402 (by decide +kernel) (by decide +kernel)
set_option maxRecDepth 20000 in
theorem wd_403 : (.code yX1_isSlotFilled cX1_isSlotFilled 2 (some .boolean) : Cond) ∈ lw_all := in_all 403 (by decide +kernel) (by decide +kernel)
set_option maxRecDepth 20000 in
theorem wd_405 : (.methodLink RX5 160 yX1_restoreSlot : Cond) ∈ lw_all := in_all 405 (by decide +kernel) (by decide +kernel)
set_option maxRecDepth 20000 in
theorem wd_406 : (.instanceMethod yX1_restoreSlot : Cond) ∈ lw_all := in_all 406 (by decide +kernel) (by decide +kernel)
set_option maxRecDepth 20000 in
theorem wd_407 : (.selects RX1 yX1_restoreSlot yX1_restoreSlot : Cond) ∈ lw_all := in_all 407 (by decide +kernel) (by decide +kernel)
set_option maxRecDepth 20000 in
theorem wd_408 : (.code yX1_restoreSlot cX1_restoreSlot 3 none : Cond) ∈ lw_all := in_all 408 (by decide +kernel) (by decide +kernel)
set_option maxRecDepth 20000 in
theorem wd_409 : (.methodLink RL 47 yX5_letter : Cond) ∈ lw_all := in_all 409 (by decide +kernel) (by decide +kernel)
set_option maxRecDepth 20000 in
theorem wd_410 : (.instanceMethod yX5_letter : Cond) ∈ lw_all := in_all 410 (by decide +kernel) (by decide +kernel)
set_option maxRecDepth 20000 in
theorem wd_411 : (.selects RX5 yX5_letter yX5_letter : Cond) ∈ lw_all := in_all 411 (by decide +kernel) (by decide +kernel)
set_option maxRecDepth 20000 in
theorem wd_412 : (.code yX5_letter cX5_letter 2 (some .int) : Cond) ∈ lw_all := in_all 412 (by decide +kernel) (by decide +kernel)
set_option maxRecDepth 20000 in
theorem wd_413 : (.methodLink RL 56 yX5_count : Cond) ∈ lw_all := in_all 413 (by decide +kernel) (by decide +kernel)
set_option maxRecDepth 20000 in
theorem wd_414 : (.instanceMethod yX5_count : Cond) ∈ lw_all := in_all 414 (by decide +kernel) (by decide +kernel)
set_option maxRecDepth 20000 in
theorem wd_415 : (.selects RX5 yX5_count yX5_count : Cond) ∈ lw_all := in_all 415 (by decide +kernel) (by decide +kernel)
set_option maxRecDepth 20000 in
theorem wd_416 : (.code yX5_count cX5_count 2 (some .int) : Cond) ∈ lw_all := in_all 416 (by decide +kernel) (by decide +kernel)
set_option maxRecDepth 20000 in
theorem wd_418 : (.methodLink RX5 49 yX2_weightAt : Cond) ∈ lw_all := in_all 418 (by decide +kernel) (by decide +kernel)
set_option maxRecDepth 20000 in
theorem wd_419 : (.methodLink RX5 194 yX0_numberOfAll : Cond) ∈ lw_all := in_all 419 (by decide +kernel) (by decide +kernel)
set_option maxRecDepth 20000 in
theorem wd_420 : (.instanceMethod yX0_numberOfAll : Cond) ∈ lw_all := in_all 420 (by decide +kernel) (by decide +kernel)
set_option maxRecDepth 20000 in
theorem wd_421 : (.selects RX0 yX0_numberOfAll yX0_numberOfAll : Cond) ∈ lw_all := in_all 421 (by decide +kernel) (by decide +kernel)
set_option maxRecDepth 20000 in
theorem wd_422 : (.code yX0_numberOfAll cX0_numberOfAll 4 (some .int) : Cond) ∈ lw_all := in_all 422 (by decide +kernel) (by decide +kernel)
set_option maxRecDepth 20000 in
theorem wd_423 : (.methodLink RX0 70 yX0_numberOf : Cond) ∈ lw_all := in_all 423 (by decide +kernel) (by decide +kernel)
set_option maxRecDepth 20000 in
theorem wd_424 : (.instanceMethod yX0_numberOf : Cond) ∈ lw_all := in_all 424 (by decide +kernel) (by decide +kernel)
set_option maxRecDepth 20000 in
theorem wd_425 : (.selects RX0 yX0_numberOf yX0_numberOf : Cond) ∈ lw_all := in_all 425 (by decide +kernel) (by decide +kernel)
set_option maxRecDepth 20000 in
theorem wd_426 : (.code yX0_numberOf cX0_numberOf 3 (some .int) : Cond) ∈ lw_all := in_all 426 (by decide +kernel) (by decide +kernel)
set_option maxRecDepth 20000 in
theorem wd_427 : (.methodLink RX0 61 yX0_amountsOf : Cond) ∈ lw_all := in_all 427 (by decide +kernel) (by decide +kernel)
set_option maxRecDepth 20000 in
theorem wd_429 : (.instanceMethod yX0_amountsOf : Cond) ∈ lw_all := in_all 429 (by decide +kernel) (by decide +kernel)
set_option maxRecDepth 20000 in
theorem wd_430 : (.code yX0_amountsOf cX0_amountsOf 7 (some .int) : Cond) ∈ lw_all := in_all 430 (by decide +kernel) (by decide +kernel)
set_option maxRecDepth 20000 in
theorem wd_431 : (.methodLink RX0 58 yX0_kindAt : Cond) ∈ lw_all := in_all 431 (by decide +kernel) (by decide +kernel)
set_option maxRecDepth 20000 in
theorem wd_432 : (.methodLink RX0 64 yX0_firstBlankOf : Cond) ∈ lw_all := in_all 432 (by decide +kernel) (by decide +kernel)
set_option maxRecDepth 20000 in
theorem wd_434 : (.instanceMethod yX0_firstBlankOf : Cond) ∈ lw_all := in_all 434 (by decide +kernel) (by decide +kernel)
set_option maxRecDepth 20000 in
theorem wd_435 : (.code yX0_firstBlankOf cX0_firstBlankOf 4 (some .int) : Cond) ∈ lw_all := in_all 435 (by decide +kernel) (by decide +kernel)
set_option maxRecDepth 20000 in
theorem wd_436 : (.methodLink RX0 67 yX0_chequesOf : Cond) ∈ lw_all := in_all 436 (by decide +kernel) (by decide +kernel)
set_option maxRecDepth 20000 in
theorem wd_438 : (.instanceMethod yX0_chequesOf : Cond) ∈ lw_all := in_all 438 (by decide +kernel) (by decide +kernel)
set_option maxRecDepth 20000 in
theorem wd_439 : (.code yX0_chequesOf cX0_chequesOf 6 (some .int) : Cond) ∈ lw_all := in_all 439 (by decide +kernel) (by decide +kernel)
set_option maxRecDepth 20000 in
theorem wd_440 : (.methodLink RL 231 yL_part : Cond) ∈ lw_all := in_all 440 (by decide +kernel) (by decide +kernel)
set_option maxRecDepth 20000 in
theorem wd_441 : (.static yL_part : Cond) ∈ lw_all := in_all 441 (by decide +kernel) (by decide +kernel)
set_option maxRecDepth 20000 in
theorem wd_443 : (.constant RL 7 (2147483647) : Cond) ∈ lw_all := in_all 443 (by decide +kernel) (by decide +kernel)
set_option maxRecDepth 20000 in
theorem wd_444 : (.methodLink RL 227 yL_drawn : Cond) ∈ lw_all := in_all 444 (by decide +kernel) (by decide +kernel)
set_option maxRecDepth 20000 in
theorem wd_445 : (.static yL_drawn : Cond) ∈ lw_all := in_all 445 (by decide +kernel) (by decide +kernel)
set_option maxRecDepth 20000 in
theorem wd_447 : (.constant RL 8 (2654435) : Cond) ∈ lw_all := in_all 447 (by decide +kernel) (by decide +kernel)
set_option maxRecDepth 20000 in
theorem wd_448 : (.methodLink RL 103 yL_call : Cond) ∈ lw_all := in_all 448 (by decide +kernel) (by decide +kernel)
set_option maxRecDepth 20000 in
theorem wd_449 : (.static yL_call : Cond) ∈ lw_all := in_all 449 (by decide +kernel) (by decide +kernel)
set_option maxRecDepth 20000 in
theorem wd_451 : (.classLink RL 82 "java/lang/IndexOutOfBoundsException" : Cond) ∈ lw_all := in_all 451 (by decide +kernel) (by decide +kernel)
set_option maxRecDepth 20000 in
theorem wd_452 : (.classLink RL 84 "java/lang/IllegalArgumentException" : Cond) ∈ lw_all := in_all 452 (by decide +kernel) (by decide +kernel)
set_option maxRecDepth 20000 in
theorem wd_453 : (.classLink RL 86 "java/lang/IllegalStateException" : Cond) ∈ lw_all := in_all 453 (by decide +kernel) (by decide +kernel)
set_option maxRecDepth 20000 in
theorem wd_454 : (.methodLink RL 9 yX5_weight : Cond) ∈ lw_all := in_all 454 (by decide +kernel) (by decide +kernel)
set_option maxRecDepth 20000 in
theorem wd_455 : (.instanceMethod yX5_weight : Cond) ∈ lw_all := in_all 455 (by decide +kernel) (by decide +kernel)
set_option maxRecDepth 20000 in
theorem wd_456 : (.selects RX5 yX5_weight yX5_weight : Cond) ∈ lw_all := in_all 456 (by decide +kernel) (by decide +kernel)
set_option maxRecDepth 20000 in
theorem wd_457 : (.code yX5_weight cX5_weight 4 (some .int) : Cond) ∈ lw_all := in_all 457 (by decide +kernel) (by decide +kernel)
set_option maxRecDepth 20000 in
theorem wd_458 : (.methodLink RX5 30 yX5_throwIfNoPosition : Cond) ∈ lw_all := in_all 458 (by decide +kernel) (by decide +kernel)
set_option maxRecDepth 20000 in
theorem wd_459 : (.static yX5_throwIfNoPosition : Cond) ∈ lw_all := in_all 459 (by decide +kernel) (by decide +kernel)
set_option maxRecDepth 20000 in
theorem wd_460 : (.code yX5_throwIfNoPosition cX5_throwIfNoPosition 1 none : Cond) ∈ lw_all := in_all 460 (by decide +kernel) (by decide +kernel)
set_option maxRecDepth 20000 in
theorem wd_463 : (.methodLink RX5 55 yX2_setWeight : Cond) ∈ lw_all := in_all 463 (by decide +kernel) (by decide +kernel)
set_option maxRecDepth 20000 in
theorem wd_464 : (.instanceMethod yX2_setWeight : Cond) ∈ lw_all := in_all 464 (by decide +kernel) (by decide +kernel)
set_option maxRecDepth 20000 in
theorem wd_465 : (.selects RX2 yX2_setWeight yX2_setWeight : Cond) ∈ lw_all := in_all 465 (by decide +kernel) (by decide +kernel)
set_option maxRecDepth 20000 in
theorem wd_466 : (.code yX2_setWeight cX2_setWeight 3 none : Cond) ∈ lw_all := in_all 466 (by decide +kernel) (by decide +kernel)
set_option maxRecDepth 20000 in
theorem wd_467 : (.methodLink RL 15 yX5_modulus : Cond) ∈ lw_all := in_all 467 (by decide +kernel) (by decide +kernel)
set_option maxRecDepth 20000 in
theorem wd_468 : (.instanceMethod yX5_modulus : Cond) ∈ lw_all := in_all 468 (by decide +kernel) (by decide +kernel)
set_option maxRecDepth 20000 in
theorem wd_469 : (.selects RX5 yX5_modulus yX5_modulus : Cond) ∈ lw_all := in_all 469 (by decide +kernel) (by decide +kernel)
set_option maxRecDepth 20000 in
theorem wd_470 : (.code yX5_modulus cX5_modulus 3 (some .int) : Cond) ∈ lw_all := in_all 470 (by decide +kernel) (by decide +kernel)
set_option maxRecDepth 20000 in
theorem wd_472 : (.methodLink RL 28 yX5_voidRun : Cond) ∈ lw_all := in_all 472 (by decide +kernel) (by decide +kernel)
set_option maxRecDepth 20000 in
theorem wd_473 : (.instanceMethod yX5_voidRun : Cond) ∈ lw_all := in_all 473 (by decide +kernel) (by decide +kernel)
set_option maxRecDepth 20000 in
theorem wd_474 : (.selects RX5 yX5_voidRun yX5_voidRun : Cond) ∈ lw_all := in_all 474 (by decide +kernel) (by decide +kernel)
set_option maxRecDepth 20000 in
theorem wd_475 : (.code yX5_voidRun cX5_voidRun 3 (some .int) : Cond) ∈ lw_all := in_all 475 (by decide +kernel) (by decide +kernel)
set_option maxRecDepth 20000 in
theorem wd_476 : (.methodLink RX5 102 yX5_faultOfRun : Cond) ∈ lw_all := in_all 476 (by decide +kernel) (by decide +kernel)
set_option maxRecDepth 20000 in
theorem wd_477 : (.static yX5_faultOfRun : Cond) ∈ lw_all := in_all 477 (by decide +kernel) (by decide +kernel)
set_option maxRecDepth 20000 in
theorem wd_478 : (.code yX5_faultOfRun cX5_faultOfRun 2 (some .int) : Cond) ∈ lw_all := in_all 478 (by decide +kernel) (by decide +kernel)
set_option maxRecDepth 20000 in
theorem wd_479 : (.methodLink RX5 105 yX0_makeRunVoid : Cond) ∈ lw_all := in_all 479 (by decide +kernel) (by decide +kernel)
set_option maxRecDepth 20000 in
theorem wd_480 : (.instanceMethod yX0_makeRunVoid : Cond) ∈ lw_all := in_all 480 (by decide +kernel) (by decide +kernel)
set_option maxRecDepth 20000 in
theorem wd_481 : (.selects RX0 yX0_makeRunVoid yX0_makeRunVoid : Cond) ∈ lw_all := in_all 481 (by decide +kernel) (by decide +kernel)
set_option maxRecDepth 20000 in
theorem wd_482 : (.code yX0_makeRunVoid cX0_makeRunVoid 8 (some .int) : Cond) ∈ lw_all := in_all 482 (by decide +kernel) (by decide +kernel)
set_option maxRecDepth 20000 in
theorem wd_483 : (.methodLink RX0 46 Lib.Math.min.name : Cond) ∈ lw_all := in_all 483 (by decide +kernel) (by decide +kernel)
set_option maxRecDepth 20000 in
theorem wd_484 : (.static Lib.Math.min.name : Cond) ∈ lw_all := in_all 484 (by decide +kernel) (by decide +kernel)
set_option maxRecDepth 20000 in
theorem wd_485 : (.code Lib.Math.min.name Lib.Math.min.code 2 (some .int) : Cond) ∈ lw_all := in_all 485 (by decide +kernel) (by decide +kernel)
set_option maxRecDepth 20000 in
theorem wd_486 : (.methodLink RX0 52 Lib.Math.max.name : Cond) ∈ lw_all := in_all 486 (by decide +kernel) (by decide +kernel)
set_option maxRecDepth 20000 in
theorem wd_487 : (.static Lib.Math.max.name : Cond) ∈ lw_all := in_all 487 (by decide +kernel) (by decide +kernel)
set_option maxRecDepth 20000 in
theorem wd_488 : (.code Lib.Math.max.name Lib.Math.max.code 2 (some .int) : Cond) ∈ lw_all := in_all 488 (by decide +kernel) (by decide +kernel)
set_option maxRecDepth 20000 in
theorem wd_489 : (.methodLink RX0 55 yX0_makeVoid : Cond) ∈ lw_all := in_all 489 (by decide +kernel) (by decide +kernel)
set_option maxRecDepth 20000 in
theorem wd_491 : (.instanceMethod yX0_makeVoid : Cond) ∈ lw_all := in_all 491 (by decide +kernel) (by decide +kernel)
set_option maxRecDepth 20000 in
theorem wd_492 : (.code yX0_makeVoid cX0_makeVoid 3 (some .int) : Cond) ∈ lw_all := in_all 492 (by decide +kernel) (by decide +kernel)
set_option maxRecDepth 20000 in
theorem wd_493 : (.methodLink RL 31 yX5_append : Cond) ∈ lw_all := in_all 493 (by decide +kernel) (by decide +kernel)
set_option maxRecDepth 20000 in
theorem wd_494 : (.instanceMethod yX5_append : Cond) ∈ lw_all := in_all 494 (by decide +kernel) (by decide +kernel)
set_option maxRecDepth 20000 in
theorem wd_495 : (.selects RX5 yX5_append yX5_append : Cond) ∈ lw_all := in_all 495 (by decide +kernel) (by decide +kernel)
set_option maxRecDepth 20000 in
theorem wd_496 : (.code yX5_append cX5_append 2 (some .int) : Cond) ∈ lw_all := in_all 496 (by decide +kernel) (by decide +kernel)
set_option maxRecDepth 20000 in
theorem wd_498 : (.methodLink RX5 110 yX3_isFull : Cond) ∈ lw_all := in_all 498 (by decide +kernel) (by decide +kernel)
set_option maxRecDepth 20000 in
theorem wd_499 : (.instanceMethod yX3_isFull : Cond) ∈ lw_all := in_all 499 (by decide +kernel) (by decide +kernel)
set_option maxRecDepth 20000 in
theorem wd_500 : (.selects RX3 yX3_isFull yX3_isFull : Cond) ∈ lw_all := in_all 500 (by decide +kernel) (by decide +kernel)
set_option maxRecDepth 20000 in
theorem wd_501 : (.code yX3_isFull cX3_isFull 1 (some .boolean) : Cond) ∈ lw_all := in_all 501 (by decide +kernel) (by decide +kernel)
set_option maxRecDepth 20000 in
theorem wd_503 : (.methodLink RX5 119 yX3_add : Cond) ∈ lw_all := in_all 503 (by decide +kernel) (by decide +kernel)
set_option maxRecDepth 20000 in
theorem wd_504 : (.instanceMethod yX3_add : Cond) ∈ lw_all := in_all 504 (by decide +kernel) (by decide +kernel)
set_option maxRecDepth 20000 in
theorem wd_505 : (.selects RX3 yX3_add yX3_add : Cond) ∈ lw_all := in_all 505 (by decide +kernel) (by decide +kernel)
set_option maxRecDepth 20000 in
theorem wd_506 : (.code yX3_add cX3_add 2 (some .int) : Cond) ∈ lw_all := in_all 506 (by decide +kernel) (by decide +kernel)
set_option maxRecDepth 20000 in
theorem wd_507 : (.methodLink RL 34 yX5_execute : Cond) ∈ lw_all := in_all 507 (by decide +kernel) (by decide +kernel)
set_option maxRecDepth 20000 in
theorem wd_508 : (.instanceMethod yX5_execute : Cond) ∈ lw_all := in_all 508 (by decide +kernel) (by decide +kernel)
set_option maxRecDepth 20000 in
theorem wd_509 : (.selects RX5 yX5_execute yX5_execute : Cond) ∈ lw_all := in_all 509 (by decide +kernel) (by decide +kernel)
set_option maxRecDepth 20000 in
theorem wd_510 : (.code yX5_execute cX5_execute 2 (some .int) : Cond) ∈ lw_all := in_all 510 (by decide +kernel) (by decide +kernel)
set_option maxRecDepth 20000 in
theorem wd_511 : (.methodLink RX5 128 yX3_isComplete : Cond) ∈ lw_all := in_all 511 (by decide +kernel) (by decide +kernel)
set_option maxRecDepth 20000 in
theorem wd_512 : (.instanceMethod yX3_isComplete : Cond) ∈ lw_all := in_all 512 (by decide +kernel) (by decide +kernel)
set_option maxRecDepth 20000 in
theorem wd_513 : (.selects RX3 yX3_isComplete yX3_isComplete : Cond) ∈ lw_all := in_all 513 (by decide +kernel) (by decide +kernel)
set_option maxRecDepth 20000 in
theorem wd_514 : (.code yX3_isComplete cX3_isComplete 3 (some .boolean) : Cond) ∈ lw_all := in_all 514 (by decide +kernel) (by decide +kernel)
set_option maxRecDepth 20000 in
theorem wd_515 : (.methodLink RX3 27 yX3_errorIndex : Cond) ∈ lw_all := in_all 515 (by decide +kernel) (by decide +kernel)
set_option maxRecDepth 20000 in
theorem wd_516 : (.instanceMethod yX3_errorIndex : Cond) ∈ lw_all := in_all 516 (by decide +kernel) (by decide +kernel)
set_option maxRecDepth 20000 in
theorem wd_517 : (.selects RX3 yX3_errorIndex yX3_errorIndex : Cond) ∈ lw_all := in_all 517 (by decide +kernel) (by decide +kernel)
set_option maxRecDepth 20000 in
theorem wd_518 : (.code yX3_errorIndex cX3_errorIndex 3 (some .int) : Cond) ∈ lw_all := in_all 518 (by decide +kernel) (by decide +kernel)
