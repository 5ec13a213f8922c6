theorem mw_314 : Cond.fieldLink R_Pro 7 "SmallComputer$Processor" "memory" "LSmallComputer$Memory;" ∈ lw_tbl := List.mem_of_getElem? (i := 323) (by decide +kernel)
theorem mw_315 : Cond.fieldLink R_Pro 13 "SmallComputer$Processor" "registers" "LSmallComputer$Registers;" ∈ lw_tbl := List.mem_of_getElem? (i := 324) (by decide +kernel)
theorem mw_316 : Cond.fieldLink R_Pro 17 "SmallComputer$Processor" "flags" "LSmallComputer$Flags;" ∈ lw_tbl := List.mem_of_getElem? (i := 325) (by decide +kernel)
theorem mw_317 : Cond.fieldLink R_Pro 21 "SmallComputer$Processor" "controller" "LSmallComputer$Controller;" ∈ lw_tbl := List.mem_of_getElem? (i := 326) (by decide +kernel)
theorem mw_318 : Cond.fieldLink R_Pro 25 "SmallComputer$Processor" "ports" "LSmallComputer$Ports;" ∈ lw_tbl := List.mem_of_getElem? (i := 327) (by decide +kernel)
theorem mw_319 : Cond.fieldLink R_Pro 34 "SmallComputer$Processor" "decoder" "LSmallComputer$Decoder;" ∈ lw_tbl := List.mem_of_getElem? (i := 328) (by decide +kernel)
theorem mw_320 : Cond.fieldLink R_Pro 44 "SmallComputer$Processor" "keepsOff" "Z" ∈ lw_tbl := List.mem_of_getElem? (i := 333) (by decide +kernel)
theorem mw_321 : Cond.fieldLink R_Pro 58 "SmallComputer$Processor" "inHalt" "Z" ∈ lw_tbl := List.mem_of_getElem? (i := 329) (by decide +kernel)
theorem mw_322 : Cond.fieldLink R_Pro 68 "SmallComputer$Decoder" "code" "I" ∈ lw_tbl := List.mem_of_getElem? (i := 285) (by decide +kernel)
theorem mw_323 : Cond.fieldLink R_Pro 75 "SmallComputer$Decoder" "first" "I" ∈ lw_tbl := List.mem_of_getElem? (i := 283) (by decide +kernel)
theorem mw_324 : Cond.fieldLink R_Pro 78 "SmallComputer$Registers" "ip" "I" ∈ lw_tbl := List.mem_of_getElem? (i := 129) (by decide +kernel)
theorem mw_325 : Cond.fieldLink R_Pro 147 "SmallComputer$Decoder" "\x72" "I" ∈ lw_tbl := List.mem_of_getElem? (i := 288) (by decide +kernel)
theorem mw_326 : Cond.fieldLink R_Pro 156 "SmallComputer$Registers" "segments" "[I" ∈ lw_tbl := List.mem_of_getElem? (i := 125) (by decide +kernel)
theorem mw_327 : Cond.fieldLink R_Pro 166 "SmallComputer$Registers" "words" "[I" ∈ lw_tbl := List.mem_of_getElem? (i := 121) (by decide +kernel)
theorem mw_328 : Cond.fieldLink R_Pro 184 "SmallComputer$Decoder" "inMemory" "Z" ∈ lw_tbl := List.mem_of_getElem? (i := 293) (by decide +kernel)
theorem mw_329 : Cond.fieldLink R_Pro 187 "SmallComputer$Decoder" "offset" "I" ∈ lw_tbl := List.mem_of_getElem? (i := 291) (by decide +kernel)
theorem mw_330 : Cond.fieldLink R_Pro 190 "SmallComputer$Decoder" "repeat" "I" ∈ lw_tbl := List.mem_of_getElem? (i := 287) (by decide +kernel)
theorem mw_331 : Cond.fieldLink R_Pro 216 "SmallComputer$Flags" "word" "I" ∈ lw_tbl := List.mem_of_getElem? (i := 146) (by decide +kernel)
theorem mw_332 : Cond.fieldLink R_Pro 252 "SmallComputer$Processor" "interruptsDone" "I" ∈ lw_tbl := List.mem_of_getElem? (i := 332) (by decide +kernel)
set_option maxRecDepth 100000 in
theorem wf_Pro : ∀ w ∈ (pF pt_Pro).flatMap (wF R_Pro), w ∈ lw_tbl := List.forall_mem_cons.mpr ⟨mw_314, List.forall_mem_cons.mpr ⟨mw_315, List.forall_mem_cons.mpr ⟨mw_316, List.forall_mem_cons.mpr ⟨mw_317, List.forall_mem_cons.mpr ⟨mw_318, List.forall_mem_cons.mpr ⟨mw_319, List.forall_mem_cons.mpr ⟨mw_320, List.forall_mem_cons.mpr ⟨mw_321, List.forall_mem_cons.mpr ⟨mw_322, List.forall_mem_cons.mpr ⟨mw_323, List.forall_mem_cons.mpr ⟨mw_324, List.forall_mem_cons.mpr ⟨mw_325, List.forall_mem_cons.mpr ⟨mw_326, List.forall_mem_cons.mpr ⟨mw_327, List.forall_mem_cons.mpr ⟨mw_328, List.forall_mem_cons.mpr ⟨mw_329, List.forall_mem_cons.mpr ⟨mw_330, List.forall_mem_cons.mpr ⟨mw_331, List.forall_mem_cons.mpr ⟨mw_332, fun _ h => absurd h List.not_mem_nil⟩⟩⟩⟩⟩⟩⟩⟩⟩⟩⟩⟩⟩⟩⟩⟩⟩⟩⟩
theorem mw_333 : Cond.methodLink R_Pro 40 y_Fla_on ∈ lw_tbl := List.mem_of_getElem? (i := 427) (by decide +kernel)
theorem mw_334 : Cond.instanceMethod y_Fla_on ∈ lw_tbl := List.mem_of_getElem? (i := 428) (by decide +kernel)
theorem mw_335 : Cond.selects R_Fla y_Fla_on y_Fla_on ∈ lw_tbl := List.mem_of_getElem? (i := 429) (by decide +kernel)
set_option maxRecDepth 100000 in
theorem mw_336 : Cond.code y_Fla_on b_Fla_on 2 (some .boolean) ∈ lw_tbl := List.mem_of_getElem? (i := 430) rfl
theorem mw_337 : Cond.methodLink R_Pro 48 y_Ctl_lineToGive ∈ lw_tbl := List.mem_of_getElem? (i := 431) (by decide +kernel)
theorem mw_338 : Cond.instanceMethod y_Ctl_lineToGive ∈ lw_tbl := List.mem_of_getElem? (i := 432) (by decide +kernel)
theorem mw_339 : Cond.selects R_Ctl y_Ctl_lineToGive y_Ctl_lineToGive ∈ lw_tbl := List.mem_of_getElem? (i := 433) (by decide +kernel)
set_option maxRecDepth 100000 in
theorem mw_340 : Cond.code y_Ctl_lineToGive b_Ctl_lineToGive 3 (some .int) ∈ lw_tbl := List.mem_of_getElem? (i := 434) rfl
theorem mw_341 : Cond.methodLink R_Pro 54 y_Ctl_give ∈ lw_tbl := List.mem_of_getElem? (i := 435) (by decide +kernel)
theorem mw_342 : Cond.instanceMethod y_Ctl_give ∈ lw_tbl := List.mem_of_getElem? (i := 436) (by decide +kernel)
theorem mw_343 : Cond.selects R_Ctl y_Ctl_give y_Ctl_give ∈ lw_tbl := List.mem_of_getElem? (i := 437) (by decide +kernel)
set_option maxRecDepth 100000 in
theorem mw_344 : Cond.code y_Ctl_give b_Ctl_give 2 none ∈ lw_tbl := List.mem_of_getElem? (i := 438) rfl
theorem mw_345 : Cond.methodLink R_Pro 61 y_Pro_interrupt ∈ lw_tbl := List.mem_of_getElem? (i := 439) (by decide +kernel)
theorem mw_346 : Cond.instanceMethod y_Pro_interrupt ∈ lw_tbl := List.mem_of_getElem? (i := 441) (by decide +kernel)
theorem mw_347 : Cond.selects R_Pro y_Pro_interrupt y_Pro_interrupt ∈ lw_tbl := List.mem_of_getElem? (i := 0) (by decide +kernel)
set_option maxRecDepth 100000 in
theorem mw_348 : Cond.code y_Pro_interrupt b_Pro_interrupt 3 none ∈ lw_tbl := List.mem_of_getElem? (i := 442) rfl
theorem mw_349 : Cond.methodLink R_Pro 64 y_Dec_begin ∈ lw_tbl := List.mem_of_getElem? (i := 460) (by decide +kernel)
theorem mw_350 : Cond.instanceMethod y_Dec_begin ∈ lw_tbl := List.mem_of_getElem? (i := 461) (by decide +kernel)
theorem mw_351 : Cond.selects R_Dec y_Dec_begin y_Dec_begin ∈ lw_tbl := List.mem_of_getElem? (i := 462) (by decide +kernel)
set_option maxRecDepth 100000 in
theorem mw_352 : Cond.code y_Dec_begin b_Dec_begin 2 (some .boolean) ∈ lw_tbl := List.mem_of_getElem? (i := 463) rfl
theorem mw_353 : Cond.methodLink R_Pro 72 y_Pro_perform ∈ lw_tbl := List.mem_of_getElem? (i := 470) (by decide +kernel)
theorem mw_354 : Cond.instanceMethod y_Pro_perform ∈ lw_tbl := List.mem_of_getElem? (i := 472) (by decide +kernel)
theorem mw_355 : Cond.selects R_Pro y_Pro_perform y_Pro_perform ∈ lw_tbl := List.mem_of_getElem? (i := 2) (by decide +kernel)
set_option maxRecDepth 100000 in
theorem mw_356 : Cond.code y_Pro_perform b_Pro_perform 2 (some .boolean) ∈ lw_tbl := List.mem_of_getElem? (i := 473) rfl
theorem mw_357 : Cond.methodLink R_Pro 83 y_Pro_combine ∈ lw_tbl := List.mem_of_getElem? (i := 474) (by decide +kernel)
theorem mw_358 : Cond.instanceMethod y_Pro_combine ∈ lw_tbl := List.mem_of_getElem? (i := 476) (by decide +kernel)
theorem mw_359 : Cond.selects R_Pro y_Pro_combine y_Pro_combine ∈ lw_tbl := List.mem_of_getElem? (i := 3) (by decide +kernel)
set_option maxRecDepth 100000 in
theorem mw_360 : Cond.code y_Pro_combine b_Pro_combine 6 (some .boolean) ∈ lw_tbl := List.mem_of_getElem? (i := 477) rfl
theorem mw_361 : Cond.methodLink R_Pro 86 y_Pro_segmentOnStack ∈ lw_tbl := List.mem_of_getElem? (i := 541) (by decide +kernel)
theorem mw_362 : Cond.instanceMethod y_Pro_segmentOnStack ∈ lw_tbl := List.mem_of_getElem? (i := 543) (by decide +kernel)
theorem mw_363 : Cond.selects R_Pro y_Pro_segmentOnStack y_Pro_segmentOnStack ∈ lw_tbl := List.mem_of_getElem? (i := 8) (by decide +kernel)
set_option maxRecDepth 100000 in
theorem mw_364 : Cond.code y_Pro_segmentOnStack b_Pro_segmentOnStack 3 (some .boolean) ∈ lw_tbl := List.mem_of_getElem? (i := 544) rfl
theorem mw_365 : Cond.methodLink R_Pro 89 y_Pro_countRegister ∈ lw_tbl := List.mem_of_getElem? (i := 549) (by decide +kernel)
theorem mw_366 : Cond.instanceMethod y_Pro_countRegister ∈ lw_tbl := List.mem_of_getElem? (i := 551) (by decide +kernel)
theorem mw_367 : Cond.selects R_Pro y_Pro_countRegister y_Pro_countRegister ∈ lw_tbl := List.mem_of_getElem? (i := 10) (by decide +kernel)
set_option maxRecDepth 100000 in
theorem mw_368 : Cond.code y_Pro_countRegister b_Pro_countRegister 4 (some .boolean) ∈ lw_tbl := List.mem_of_getElem? (i := 552) rfl
theorem mw_369 : Cond.methodLink R_Pro 92 y_Pro_registerOnStack ∈ lw_tbl := List.mem_of_getElem? (i := 561) (by decide +kernel)
theorem mw_370 : Cond.instanceMethod y_Pro_registerOnStack ∈ lw_tbl := List.mem_of_getElem? (i := 563) (by decide +kernel)
theorem mw_371 : Cond.selects R_Pro y_Pro_registerOnStack y_Pro_registerOnStack ∈ lw_tbl := List.mem_of_getElem? (i := 11) (by decide +kernel)
set_option maxRecDepth 100000 in
theorem mw_372 : Cond.code y_Pro_registerOnStack b_Pro_registerOnStack 3 (some .boolean) ∈ lw_tbl := List.mem_of_getElem? (i := 564) rfl
theorem mw_373 : Cond.methodLink R_Pro 95 y_Pro_jumpIf ∈ lw_tbl := List.mem_of_getElem? (i := 565) (by decide +kernel)
theorem mw_374 : Cond.instanceMethod y_Pro_jumpIf ∈ lw_tbl := List.mem_of_getElem? (i := 567) (by decide +kernel)
theorem mw_375 : Cond.selects R_Pro y_Pro_jumpIf y_Pro_jumpIf ∈ lw_tbl := List.mem_of_getElem? (i := 12) (by decide +kernel)
set_option maxRecDepth 100000 in
theorem mw_376 : Cond.code y_Pro_jumpIf b_Pro_jumpIf 3 (some .boolean) ∈ lw_tbl := List.mem_of_getElem? (i := 568) rfl
theorem mw_377 : Cond.methodLink R_Pro 98 y_Pro_combineGiven ∈ lw_tbl := List.mem_of_getElem? (i := 581) (by decide +kernel)
theorem mw_378 : Cond.instanceMethod y_Pro_combineGiven ∈ lw_tbl := List.mem_of_getElem? (i := 583) (by decide +kernel)
theorem mw_379 : Cond.selects R_Pro y_Pro_combineGiven y_Pro_combineGiven ∈ lw_tbl := List.mem_of_getElem? (i := 14) (by decide +kernel)
set_option maxRecDepth 100000 in
theorem mw_380 : Cond.code y_Pro_combineGiven b_Pro_combineGiven 4 (some .boolean) ∈ lw_tbl := List.mem_of_getElem? (i := 584) rfl
theorem mw_381 : Cond.methodLink R_Pro 101 y_Pro_move ∈ lw_tbl := List.mem_of_getElem? (i := 585) (by decide +kernel)
theorem mw_382 : Cond.instanceMethod y_Pro_move ∈ lw_tbl := List.mem_of_getElem? (i := 587) (by decide +kernel)
theorem mw_383 : Cond.selects R_Pro y_Pro_move y_Pro_move ∈ lw_tbl := List.mem_of_getElem? (i := 15) (by decide +kernel)
set_option maxRecDepth 100000 in
theorem mw_384 : Cond.code y_Pro_move b_Pro_move 3 (some .boolean) ∈ lw_tbl := List.mem_of_getElem? (i := 588) rfl
theorem mw_385 : Cond.methodLink R_Pro 104 y_Pro_string ∈ lw_tbl := List.mem_of_getElem? (i := 593) (by decide +kernel)
theorem mw_386 : Cond.instanceMethod y_Pro_string ∈ lw_tbl := List.mem_of_getElem? (i := 595) (by decide +kernel)
theorem mw_387 : Cond.selects R_Pro y_Pro_string y_Pro_string ∈ lw_tbl := List.mem_of_getElem? (i := 17) (by decide +kernel)
set_option maxRecDepth 100000 in
theorem mw_388 : Cond.code y_Pro_string b_Pro_string 4 (some .boolean) ∈ lw_tbl := List.mem_of_getElem? (i := 596) rfl
theorem mw_389 : Cond.methodLink R_Pro 107 y_Pro_moveGiven ∈ lw_tbl := List.mem_of_getElem? (i := 603) (by decide +kernel)
theorem mw_390 : Cond.instanceMethod y_Pro_moveGiven ∈ lw_tbl := List.mem_of_getElem? (i := 605) (by decide +kernel)
theorem mw_391 : Cond.selects R_Pro y_Pro_moveGiven y_Pro_moveGiven ∈ lw_tbl := List.mem_of_getElem? (i := 19) (by decide +kernel)
set_option maxRecDepth 100000 in
theorem mw_392 : Cond.code y_Pro_moveGiven b_Pro_moveGiven 3 (some .boolean) ∈ lw_tbl := List.mem_of_getElem? (i := 606) rfl
theorem mw_393 : Cond.methodLink R_Pro 110 y_Pro_leave ∈ lw_tbl := List.mem_of_getElem? (i := 607) (by decide +kernel)
theorem mw_394 : Cond.instanceMethod y_Pro_leave ∈ lw_tbl := List.mem_of_getElem? (i := 609) (by decide +kernel)
theorem mw_395 : Cond.selects R_Pro y_Pro_leave y_Pro_leave ∈ lw_tbl := List.mem_of_getElem? (i := 20) (by decide +kernel)
set_option maxRecDepth 100000 in
theorem mw_396 : Cond.code y_Pro_leave b_Pro_leave 2 (some .boolean) ∈ lw_tbl := List.mem_of_getElem? (i := 610) rfl
theorem mw_397 : Cond.methodLink R_Pro 113 y_Pro_jumpOrPort ∈ lw_tbl := List.mem_of_getElem? (i := 612) (by decide +kernel)
theorem mw_398 : Cond.instanceMethod y_Pro_jumpOrPort ∈ lw_tbl := List.mem_of_getElem? (i := 614) (by decide +kernel)
theorem mw_399 : Cond.selects R_Pro y_Pro_jumpOrPort y_Pro_jumpOrPort ∈ lw_tbl := List.mem_of_getElem? (i := 21) (by decide +kernel)
set_option maxRecDepth 100000 in
theorem mw_400 : Cond.code y_Pro_jumpOrPort b_Pro_jumpOrPort 2 (some .boolean) ∈ lw_tbl := List.mem_of_getElem? (i := 615) rfl
theorem mw_401 : Cond.methodLink R_Pro 116 y_Pro_countOperand ∈ lw_tbl := List.mem_of_getElem? (i := 685) (by decide +kernel)
theorem mw_402 : Cond.instanceMethod y_Pro_countOperand ∈ lw_tbl := List.mem_of_getElem? (i := 687) (by decide +kernel)
theorem mw_403 : Cond.selects R_Pro y_Pro_countOperand y_Pro_countOperand ∈ lw_tbl := List.mem_of_getElem? (i := 24) (by decide +kernel)
set_option maxRecDepth 100000 in
theorem mw_404 : Cond.code y_Pro_countOperand b_Pro_countOperand 3 (some .boolean) ∈ lw_tbl := List.mem_of_getElem? (i := 688) rfl
theorem mw_405 : Cond.methodLink R_Pro 120 y_Pro_haltOrUnary ∈ lw_tbl := List.mem_of_getElem? (i := 689) (by decide +kernel)
theorem mw_406 : Cond.instanceMethod y_Pro_haltOrUnary ∈ lw_tbl := List.mem_of_getElem? (i := 691) (by decide +kernel)
theorem mw_407 : Cond.selects R_Pro y_Pro_haltOrUnary y_Pro_haltOrUnary ∈ lw_tbl := List.mem_of_getElem? (i := 25) (by decide +kernel)
set_option maxRecDepth 100000 in
theorem mw_408 : Cond.code y_Pro_haltOrUnary b_Pro_haltOrUnary 4 (some .boolean) ∈ lw_tbl := List.mem_of_getElem? (i := 692) rfl
theorem mw_409 : Cond.methodLink R_Pro 123 y_Pro_setFlag ∈ lw_tbl := List.mem_of_getElem? (i := 703) (by decide +kernel)
theorem mw_410 : Cond.instanceMethod y_Pro_setFlag ∈ lw_tbl := List.mem_of_getElem? (i := 705) (by decide +kernel)
theorem mw_411 : Cond.selects R_Pro y_Pro_setFlag y_Pro_setFlag ∈ lw_tbl := List.mem_of_getElem? (i := 28) (by decide +kernel)
set_option maxRecDepth 100000 in
theorem mw_412 : Cond.code y_Pro_setFlag b_Pro_setFlag 3 (some .boolean) ∈ lw_tbl := List.mem_of_getElem? (i := 706) rfl
theorem mw_413 : Cond.methodLink R_Pro 126 y_Dec_nextOf ∈ lw_tbl := List.mem_of_getElem? (i := 478) (by decide +kernel)
theorem mw_414 : Cond.instanceMethod y_Dec_nextOf ∈ lw_tbl := List.mem_of_getElem? (i := 479) (by decide +kernel)
theorem mw_415 : Cond.selects R_Dec y_Dec_nextOf y_Dec_nextOf ∈ lw_tbl := List.mem_of_getElem? (i := 480) (by decide +kernel)
set_option maxRecDepth 100000 in
theorem mw_416 : Cond.code y_Dec_nextOf b_Dec_nextOf 2 (some .int) ∈ lw_tbl := List.mem_of_getElem? (i := 481) rfl
theorem mw_417 : Cond.methodLink R_Pro 130 y_Reg_value ∈ lw_tbl := List.mem_of_getElem? (i := 486) (by decide +kernel)
theorem mw_418 : Cond.methodLink R_Pro 134 y_Fla_combine ∈ lw_tbl := List.mem_of_getElem? (i := 490) (by decide +kernel)
theorem mw_419 : Cond.instanceMethod y_Fla_combine ∈ lw_tbl := List.mem_of_getElem? (i := 491) (by decide +kernel)
theorem mw_420 : Cond.selects R_Fla y_Fla_combine y_Fla_combine ∈ lw_tbl := List.mem_of_getElem? (i := 492) (by decide +kernel)
set_option maxRecDepth 100000 in
theorem mw_421 : Cond.code y_Fla_combine b_Fla_combine 6 (some .int) ∈ lw_tbl := List.mem_of_getElem? (i := 493) rfl
theorem mw_422 : Cond.methodLink R_Pro 137 y_Reg_change ∈ lw_tbl := List.mem_of_getElem? (i := 512) (by decide +kernel)
theorem mw_423 : Cond.methodLink R_Pro 141 y_Dec_readModrm ∈ lw_tbl := List.mem_of_getElem? (i := 518) (by decide +kernel)
theorem mw_424 : Cond.instanceMethod y_Dec_readModrm ∈ lw_tbl := List.mem_of_getElem? (i := 519) (by decide +kernel)
theorem mw_425 : Cond.selects R_Dec y_Dec_readModrm y_Dec_readModrm ∈ lw_tbl := List.mem_of_getElem? (i := 520) (by decide +kernel)
set_option maxRecDepth 100000 in
theorem mw_426 : Cond.code y_Dec_readModrm b_Dec_readModrm 7 none ∈ lw_tbl := List.mem_of_getElem? (i := 521) rfl
theorem mw_427 : Cond.methodLink R_Pro 145 y_Dec_value ∈ lw_tbl := List.mem_of_getElem? (i := 530) (by decide +kernel)
theorem mw_428 : Cond.instanceMethod y_Dec_value ∈ lw_tbl := List.mem_of_getElem? (i := 531) (by decide +kernel)
theorem mw_429 : Cond.selects R_Dec y_Dec_value y_Dec_value ∈ lw_tbl := List.mem_of_getElem? (i := 532) (by decide +kernel)
set_option maxRecDepth 100000 in
theorem mw_430 : Cond.code y_Dec_value b_Dec_value 1 (some .int) ∈ lw_tbl := List.mem_of_getElem? (i := 533) rfl
theorem mw_431 : Cond.methodLink R_Pro 150 y_Dec_change ∈ lw_tbl := List.mem_of_getElem? (i := 535) (by decide +kernel)
theorem mw_432 : Cond.instanceMethod y_Dec_change ∈ lw_tbl := List.mem_of_getElem? (i := 536) (by decide +kernel)
theorem mw_433 : Cond.selects R_Dec y_Dec_change y_Dec_change ∈ lw_tbl := List.mem_of_getElem? (i := 537) (by decide +kernel)
set_option maxRecDepth 100000 in
theorem mw_434 : Cond.code y_Dec_change b_Dec_change 2 none ∈ lw_tbl := List.mem_of_getElem? (i := 538) rfl
theorem mw_435 : Cond.methodLink R_Pro 152 y_Dec_nextSigned ∈ lw_tbl := List.mem_of_getElem? (i := 569) (by decide +kernel)
theorem mw_436 : Cond.instanceMethod y_Dec_nextSigned ∈ lw_tbl := List.mem_of_getElem? (i := 570) (by decide +kernel)
theorem mw_437 : Cond.selects R_Dec y_Dec_nextSigned y_Dec_nextSigned ∈ lw_tbl := List.mem_of_getElem? (i := 571) (by decide +kernel)
set_option maxRecDepth 100000 in
theorem mw_438 : Cond.code y_Dec_nextSigned b_Dec_nextSigned 1 (some .int) ∈ lw_tbl := List.mem_of_getElem? (i := 572) rfl
theorem mw_439 : Cond.methodLink R_Pro 160 y_Pro_push ∈ lw_tbl := List.mem_of_getElem? (i := 443) (by decide +kernel)
theorem mw_440 : Cond.instanceMethod y_Pro_push ∈ lw_tbl := List.mem_of_getElem? (i := 445) (by decide +kernel)
theorem mw_441 : Cond.selects R_Pro y_Pro_push y_Pro_push ∈ lw_tbl := List.mem_of_getElem? (i := 1) (by decide +kernel)
set_option maxRecDepth 100000 in
theorem mw_442 : Cond.code y_Pro_push b_Pro_push 3 none ∈ lw_tbl := List.mem_of_getElem? (i := 446) rfl
theorem mw_443 : Cond.methodLink R_Pro 163 y_Pro_pop ∈ lw_tbl := List.mem_of_getElem? (i := 545) (by decide +kernel)
theorem mw_444 : Cond.instanceMethod y_Pro_pop ∈ lw_tbl := List.mem_of_getElem? (i := 547) (by decide +kernel)
theorem mw_445 : Cond.selects R_Pro y_Pro_pop y_Pro_pop ∈ lw_tbl := List.mem_of_getElem? (i := 9) (by decide +kernel)
set_option maxRecDepth 100000 in
theorem mw_446 : Cond.code y_Pro_pop b_Pro_pop 2 (some .int) ∈ lw_tbl := List.mem_of_getElem? (i := 548) rfl
theorem mw_447 : Cond.methodLink R_Pro 169 y_Fla_oneMore ∈ lw_tbl := List.mem_of_getElem? (i := 553) (by decide +kernel)
theorem mw_448 : Cond.instanceMethod y_Fla_oneMore ∈ lw_tbl := List.mem_of_getElem? (i := 554) (by decide +kernel)
theorem mw_449 : Cond.selects R_Fla y_Fla_oneMore y_Fla_oneMore ∈ lw_tbl := List.mem_of_getElem? (i := 555) (by decide +kernel)
set_option maxRecDepth 100000 in
theorem mw_450 : Cond.code y_Fla_oneMore b_Fla_oneMore 5 (some .int) ∈ lw_tbl := List.mem_of_getElem? (i := 556) rfl
theorem mw_451 : Cond.methodLink R_Pro 172 y_Fla_oneLess ∈ lw_tbl := List.mem_of_getElem? (i := 557) (by decide +kernel)
theorem mw_452 : Cond.instanceMethod y_Fla_oneLess ∈ lw_tbl := List.mem_of_getElem? (i := 558) (by decide +kernel)
theorem mw_453 : Cond.selects R_Fla y_Fla_oneLess y_Fla_oneLess ∈ lw_tbl := List.mem_of_getElem? (i := 559) (by decide +kernel)
set_option maxRecDepth 100000 in
theorem mw_454 : Cond.code y_Fla_oneLess b_Fla_oneLess 5 (some .int) ∈ lw_tbl := List.mem_of_getElem? (i := 560) rfl
theorem mw_455 : Cond.methodLink R_Pro 175 y_Pro_holds ∈ lw_tbl := List.mem_of_getElem? (i := 573) (by decide +kernel)
theorem mw_456 : Cond.instanceMethod y_Pro_holds ∈ lw_tbl := List.mem_of_getElem? (i := 575) (by decide +kernel)
theorem mw_457 : Cond.selects R_Pro y_Pro_holds y_Pro_holds ∈ lw_tbl := List.mem_of_getElem? (i := 13) (by decide +kernel)
set_option maxRecDepth 100000 in
theorem mw_458 : Cond.code y_Pro_holds b_Pro_holds 3 (some .boolean) ∈ lw_tbl := List.mem_of_getElem? (i := 576) rfl
theorem mw_459 : Cond.methodLink R_Pro 178 y_Reg_jump ∈ lw_tbl := List.mem_of_getElem? (i := 577) (by decide +kernel)
theorem mw_460 : Cond.instanceMethod y_Reg_jump ∈ lw_tbl := List.mem_of_getElem? (i := 578) (by decide +kernel)
theorem mw_461 : Cond.selects R_Reg y_Reg_jump y_Reg_jump ∈ lw_tbl := List.mem_of_getElem? (i := 579) (by decide +kernel)
set_option maxRecDepth 100000 in
theorem mw_462 : Cond.code y_Reg_jump b_Reg_jump 2 none ∈ lw_tbl := List.mem_of_getElem? (i := 580) rfl
theorem mw_463 : Cond.methodLink R_Pro 181 y_Pro_moveSegmentOrOffset ∈ lw_tbl := List.mem_of_getElem? (i := 589) (by decide +kernel)
theorem mw_464 : Cond.instanceMethod y_Pro_moveSegmentOrOffset ∈ lw_tbl := List.mem_of_getElem? (i := 591) (by decide +kernel)
theorem mw_465 : Cond.selects R_Pro y_Pro_moveSegmentOrOffset y_Pro_moveSegmentOrOffset ∈ lw_tbl := List.mem_of_getElem? (i := 16) (by decide +kernel)
set_option maxRecDepth 100000 in
theorem mw_466 : Cond.code y_Pro_moveSegmentOrOffset b_Pro_moveSegmentOrOffset 3 (some .boolean) ∈ lw_tbl := List.mem_of_getElem? (i := 592) rfl
theorem mw_467 : Cond.methodLink R_Pro 193 y_Pro_stringOnce ∈ lw_tbl := List.mem_of_getElem? (i := 597) (by decide +kernel)
theorem mw_468 : Cond.instanceMethod y_Pro_stringOnce ∈ lw_tbl := List.mem_of_getElem? (i := 599) (by decide +kernel)
theorem mw_469 : Cond.selects R_Pro y_Pro_stringOnce y_Pro_stringOnce ∈ lw_tbl := List.mem_of_getElem? (i := 18) (by decide +kernel)
set_option maxRecDepth 100000 in
theorem mw_470 : Cond.code y_Pro_stringOnce b_Pro_stringOnce 10 none ∈ lw_tbl := List.mem_of_getElem? (i := 600) rfl
theorem mw_471 : Cond.methodLink R_Pro 196 y_Dec_segmentOr ∈ lw_tbl := List.mem_of_getElem? (i := 601) (by decide +kernel)
theorem mw_472 : Cond.methodLink R_Pro 200 y_Mem_fetch ∈ lw_tbl := List.mem_of_getElem? (i := 456) (by decide +kernel)
theorem mw_473 : Cond.methodLink R_Pro 206 y_Mem_store ∈ lw_tbl := List.mem_of_getElem? (i := 448) (by decide +kernel)
theorem mw_474 : Cond.methodLink R_Pro 210 y_Fla_difference ∈ lw_tbl := List.mem_of_getElem? (i := 602) (by decide +kernel)
theorem mw_475 : Cond.methodLink R_Pro 213 y_Dec_nextByte ∈ lw_tbl := List.mem_of_getElem? (i := 611) (by decide +kernel)
theorem mw_476 : Cond.methodLink R_Pro 219 y_Pro_loop ∈ lw_tbl := List.mem_of_getElem? (i := 616) (by decide +kernel)
theorem mw_477 : Cond.instanceMethod y_Pro_loop ∈ lw_tbl := List.mem_of_getElem? (i := 618) (by decide +kernel)
theorem mw_478 : Cond.selects R_Pro y_Pro_loop y_Pro_loop ∈ lw_tbl := List.mem_of_getElem? (i := 22) (by decide +kernel)
set_option maxRecDepth 100000 in
theorem mw_479 : Cond.code y_Pro_loop b_Pro_loop 3 none ∈ lw_tbl := List.mem_of_getElem? (i := 619) rfl
theorem mw_480 : Cond.methodLink R_Pro 222 y_Por_answer ∈ lw_tbl := List.mem_of_getElem? (i := 620) (by decide +kernel)
theorem mw_481 : Cond.instanceMethod y_Por_answer ∈ lw_tbl := List.mem_of_getElem? (i := 621) (by decide +kernel)
theorem mw_482 : Cond.selects R_Por y_Por_answer y_Por_answer ∈ lw_tbl := List.mem_of_getElem? (i := 622) (by decide +kernel)
theorem mw_483 : Cond.initialized R_Por ∈ lw_tbl := List.mem_of_getElem? (i := 91) (by decide +kernel)
set_option maxRecDepth 100000 in
theorem mw_484 : Cond.code y_Por_answer b_Por_answer 2 (some .int) ∈ lw_tbl := List.mem_of_getElem? (i := 623) rfl
theorem mw_485 : Cond.methodLink R_Pro 227 y_Por_get ∈ lw_tbl := List.mem_of_getElem? (i := 646) (by decide +kernel)
theorem mw_486 : Cond.instanceMethod y_Por_get ∈ lw_tbl := List.mem_of_getElem? (i := 647) (by decide +kernel)
theorem mw_487 : Cond.selects R_Por y_Por_get y_Por_get ∈ lw_tbl := List.mem_of_getElem? (i := 648) (by decide +kernel)
set_option maxRecDepth 100000 in
theorem mw_488 : Cond.code y_Por_get b_Por_get 3 none ∈ lw_tbl := List.mem_of_getElem? (i := 649) rfl
theorem mw_489 : Cond.methodLink R_Pro 231 y_Dec_nextWord ∈ lw_tbl := List.mem_of_getElem? (i := 680) (by decide +kernel)
theorem mw_490 : Cond.methodLink R_Pro 234 y_Pro_visit ∈ lw_tbl := List.mem_of_getElem? (i := 681) (by decide +kernel)
theorem mw_491 : Cond.instanceMethod y_Pro_visit ∈ lw_tbl := List.mem_of_getElem? (i := 683) (by decide +kernel)
theorem mw_492 : Cond.selects R_Pro y_Pro_visit y_Pro_visit ∈ lw_tbl := List.mem_of_getElem? (i := 23) (by decide +kernel)
set_option maxRecDepth 100000 in
theorem mw_493 : Cond.code y_Pro_visit b_Pro_visit 2 none ∈ lw_tbl := List.mem_of_getElem? (i := 684) rfl
theorem mw_494 : Cond.methodLink R_Pro 237 y_Pro_multiply ∈ lw_tbl := List.mem_of_getElem? (i := 693) (by decide +kernel)
theorem mw_495 : Cond.instanceMethod y_Pro_multiply ∈ lw_tbl := List.mem_of_getElem? (i := 695) (by decide +kernel)
theorem mw_496 : Cond.selects R_Pro y_Pro_multiply y_Pro_multiply ∈ lw_tbl := List.mem_of_getElem? (i := 26) (by decide +kernel)
set_option maxRecDepth 100000 in
theorem mw_497 : Cond.code y_Pro_multiply b_Pro_multiply 6 none ∈ lw_tbl := List.mem_of_getElem? (i := 696) rfl
theorem mw_498 : Cond.methodLink R_Pro 241 y_Pro_divide ∈ lw_tbl := List.mem_of_getElem? (i := 698) (by decide +kernel)
theorem mw_499 : Cond.instanceMethod y_Pro_divide ∈ lw_tbl := List.mem_of_getElem? (i := 700) (by decide +kernel)
theorem mw_500 : Cond.selects R_Pro y_Pro_divide y_Pro_divide ∈ lw_tbl := List.mem_of_getElem? (i := 27) (by decide +kernel)
set_option maxRecDepth 100000 in
theorem mw_501 : Cond.code y_Pro_divide b_Pro_divide 9 (some .boolean) ∈ lw_tbl := List.mem_of_getElem? (i := 701) rfl
theorem mw_502 : Cond.methodLink R_Pro 247 y_Fla_set ∈ lw_tbl := List.mem_of_getElem? (i := 452) (by decide +kernel)
theorem mw_503 : Cond.instanceMethod y_Fla_set ∈ lw_tbl := List.mem_of_getElem? (i := 453) (by decide +kernel)
theorem mw_504 : Cond.selects R_Fla y_Fla_set y_Fla_set ∈ lw_tbl := List.mem_of_getElem? (i := 454) (by decide +kernel)
set_option maxRecDepth 100000 in
theorem mw_505 : Cond.code y_Fla_set b_Fla_set 3 none ∈ lw_tbl := List.mem_of_getElem? (i := 455) rfl
set_option maxRecDepth 100000 in
theorem wv_Pro : ∀ w ∈ (pV pt_Pro).flatMap (wV R_Pro), w ∈ lw_tbl := List.forall_mem_cons.mpr ⟨mw_333, List.forall_mem_cons.mpr ⟨mw_334, List.forall_mem_cons.mpr ⟨mw_335, List.forall_mem_cons.mpr ⟨mw_162, List.forall_mem_cons.mpr ⟨mw_336, List.forall_mem_cons.mpr ⟨mw_337, List.forall_mem_cons.mpr ⟨mw_338, List.forall_mem_cons.mpr ⟨mw_339, List.forall_mem_cons.mpr ⟨mw_192, List.forall_mem_cons.mpr ⟨mw_340, List.forall_mem_cons.mpr ⟨mw_341, List.forall_mem_cons.mpr ⟨mw_342, List.forall_mem_cons.mpr ⟨mw_343, List.forall_mem_cons.mpr ⟨mw_192, List.forall_mem_cons.mpr ⟨mw_344, List.forall_mem_cons.mpr ⟨mw_345, List.forall_mem_cons.mpr ⟨mw_346, List.forall_mem_cons.mpr ⟨mw_347, List.forall_mem_cons.mpr ⟨mw_133, List.forall_mem_cons.mpr ⟨mw_348, List.forall_mem_cons.mpr ⟨mw_349, List.forall_mem_cons.mpr ⟨mw_350, List.forall_mem_cons.mpr ⟨mw_351, List.forall_mem_cons.mpr ⟨mw_282, List.forall_mem_cons.mpr ⟨mw_352, List.forall_mem_cons.mpr ⟨mw_353, List.forall_mem_cons.mpr ⟨mw_354, List.forall_mem_cons.mpr ⟨mw_355, List.forall_mem_cons.mpr ⟨mw_133, List.forall_mem_cons.mpr ⟨mw_356, List.forall_mem_cons.mpr ⟨mw_357, List.forall_mem_cons.mpr ⟨mw_358, List.forall_mem_cons.mpr ⟨mw_359, List.forall_mem_cons.mpr ⟨mw_133, List.forall_mem_cons.mpr ⟨mw_360, List.forall_mem_cons.mpr ⟨mw_361, List.forall_mem_cons.mpr ⟨mw_362, List.forall_mem_cons.mpr ⟨mw_363, List.forall_mem_cons.mpr ⟨mw_133, List.forall_mem_cons.mpr ⟨mw_364, List.forall_mem_cons.mpr ⟨mw_365, List.forall_mem_cons.mpr ⟨mw_366, List.forall_mem_cons.mpr ⟨mw_367, List.forall_mem_cons.mpr ⟨mw_133, List.forall_mem_cons.mpr ⟨mw_368, List.forall_mem_cons.mpr ⟨mw_369, List.forall_mem_cons.mpr ⟨mw_370, List.forall_mem_cons.mpr ⟨mw_371, List.forall_mem_cons.mpr ⟨mw_133, List.forall_mem_cons.mpr ⟨mw_372, List.forall_mem_cons.mpr ⟨mw_373, List.forall_mem_cons.mpr ⟨mw_374, List.forall_mem_cons.mpr ⟨mw_375, List.forall_mem_cons.mpr ⟨mw_133, List.forall_mem_cons.mpr ⟨mw_376, List.forall_mem_cons.mpr ⟨mw_377, List.forall_mem_cons.mpr ⟨mw_378, List.forall_mem_cons.mpr ⟨mw_379, List.forall_mem_cons.mpr ⟨mw_133, List.forall_mem_cons.mpr ⟨mw_380, List.forall_mem_cons.mpr ⟨mw_381, List.forall_mem_cons.mpr ⟨mw_382, List.forall_mem_cons.mpr ⟨mw_383, List.forall_mem_cons.mpr ⟨mw_133, List.forall_mem_cons.mpr ⟨mw_384, List.forall_mem_cons.mpr ⟨mw_385, List.forall_mem_cons.mpr ⟨mw_386, List.forall_mem_cons.mpr ⟨mw_387, List.forall_mem_cons.mpr ⟨mw_133, List.forall_mem_cons.mpr ⟨mw_388, List.forall_mem_cons.mpr ⟨mw_389, List.forall_mem_cons.mpr ⟨mw_390, List.forall_mem_cons.mpr ⟨mw_391, List.forall_mem_cons.mpr ⟨mw_133, List.forall_mem_cons.mpr ⟨mw_392, List.forall_mem_cons.mpr ⟨mw_393, List.forall_mem_cons.mpr ⟨mw_394, List.forall_mem_cons.mpr ⟨mw_395, List.forall_mem_cons.mpr ⟨mw_133, List.forall_mem_cons.mpr ⟨mw_396, List.forall_mem_cons.mpr ⟨mw_397, List.forall_mem_cons.mpr ⟨mw_398, List.forall_mem_cons.mpr ⟨mw_399, List.forall_mem_cons.mpr ⟨mw_133, List.forall_mem_cons.mpr ⟨mw_400, List.forall_mem_cons.mpr ⟨mw_401, List.forall_mem_cons.mpr ⟨mw_402, List.forall_mem_cons.mpr ⟨mw_403, List.forall_mem_cons.mpr ⟨mw_133, List.forall_mem_cons.mpr ⟨mw_404, List.forall_mem_cons.mpr ⟨mw_405, List.forall_mem_cons.mpr ⟨mw_406, List.forall_mem_cons.mpr ⟨mw_407, List.forall_mem_cons.mpr ⟨mw_133, List.forall_mem_cons.mpr ⟨mw_408, List.forall_mem_cons.mpr ⟨mw_409, List.forall_mem_cons.mpr ⟨mw_410, List.forall_mem_cons.mpr ⟨mw_411, List.forall_mem_cons.mpr ⟨mw_133, List.forall_mem_cons.mpr ⟨mw_412, List.forall_mem_cons.mpr ⟨mw_413, List.forall_mem_cons.mpr ⟨mw_414, List.forall_mem_cons.mpr ⟨mw_415, List.forall_mem_cons.mpr ⟨mw_282, List.forall_mem_cons.mpr ⟨mw_416, List.forall_mem_cons.mpr ⟨mw_417, List.forall_mem_cons.mpr ⟨mw_301, List.forall_mem_cons.mpr ⟨mw_302, List.forall_mem_cons.mpr ⟨mw_303, List.forall_mem_cons.mpr ⟨mw_304, List.forall_mem_cons.mpr ⟨mw_418, List.forall_mem_cons.mpr ⟨mw_419, List.forall_mem_cons.mpr ⟨mw_420, List.forall_mem_cons.mpr ⟨mw_162, List.forall_mem_cons.mpr ⟨mw_421, List.forall_mem_cons.mpr ⟨mw_422, List.forall_mem_cons.mpr ⟨mw_310, List.forall_mem_cons.mpr ⟨mw_311, List.forall_mem_cons.mpr ⟨mw_303, List.forall_mem_cons.mpr ⟨mw_312, List.forall_mem_cons.mpr ⟨mw_423, List.forall_mem_cons.mpr ⟨mw_424, List.forall_mem_cons.mpr ⟨mw_425, List.forall_mem_cons.mpr ⟨mw_282, List.forall_mem_cons.mpr ⟨mw_426, List.forall_mem_cons.mpr ⟨mw_427, List.forall_mem_cons.mpr ⟨mw_428, List.forall_mem_cons.mpr ⟨mw_429, List.forall_mem_cons.mpr ⟨mw_282, List.forall_mem_cons.mpr ⟨mw_430, List.forall_mem_cons.mpr ⟨mw_431, List.forall_mem_cons.mpr ⟨mw_432, List.forall_mem_cons.mpr ⟨mw_433, List.forall_mem_cons.mpr ⟨mw_282, List.forall_mem_cons.mpr ⟨mw_434, List.forall_mem_cons.mpr ⟨mw_435, List.forall_mem_cons.mpr ⟨mw_436, List.forall_mem_cons.mpr ⟨mw_437, List.forall_mem_cons.mpr ⟨mw_282, List.forall_mem_cons.mpr ⟨mw_438, List.forall_mem_cons.mpr ⟨mw_439, List.forall_mem_cons.mpr ⟨mw_440, List.forall_mem_cons.mpr ⟨mw_441, List.forall_mem_cons.mpr ⟨mw_133, List.forall_mem_cons.mpr ⟨mw_442, List.forall_mem_cons.mpr ⟨mw_443, List.forall_mem_cons.mpr ⟨mw_444, List.forall_mem_cons.mpr ⟨mw_445, List.forall_mem_cons.mpr ⟨mw_133, List.forall_mem_cons.mpr ⟨mw_446, List.forall_mem_cons.mpr ⟨mw_447, List.forall_mem_cons.mpr ⟨mw_448, List.forall_mem_cons.mpr ⟨mw_449, List.forall_mem_cons.mpr ⟨mw_162, List.forall_mem_cons.mpr ⟨mw_450, List.forall_mem_cons.mpr ⟨mw_451, List.forall_mem_cons.mpr ⟨mw_452, List.forall_mem_cons.mpr ⟨mw_453, List.forall_mem_cons.mpr ⟨mw_162, List.forall_mem_cons.mpr ⟨mw_454, List.forall_mem_cons.mpr ⟨mw_455, List.forall_mem_cons.mpr ⟨mw_456, List.forall_mem_cons.mpr ⟨mw_457, List.forall_mem_cons.mpr ⟨mw_133, List.forall_mem_cons.mpr ⟨mw_458, List.forall_mem_cons.mpr ⟨mw_459, List.forall_mem_cons.mpr ⟨mw_460, List.forall_mem_cons.mpr ⟨mw_461, List.forall_mem_cons.mpr ⟨mw_303, List.forall_mem_cons.mpr ⟨mw_462, List.forall_mem_cons.mpr ⟨mw_463, List.forall_mem_cons.mpr ⟨mw_464, List.forall_mem_cons.mpr ⟨mw_465, List.forall_mem_cons.mpr ⟨mw_133, List.forall_mem_cons.mpr ⟨mw_466, List.forall_mem_cons.mpr ⟨mw_467, List.forall_mem_cons.mpr ⟨mw_468, List.forall_mem_cons.mpr ⟨mw_469, List.forall_mem_cons.mpr ⟨mw_133, List.forall_mem_cons.mpr ⟨mw_470, List.forall_mem_cons.mpr ⟨mw_471, List.forall_mem_cons.mpr ⟨mw_297, List.forall_mem_cons.mpr ⟨mw_298, List.forall_mem_cons.mpr ⟨mw_282, List.forall_mem_cons.mpr ⟨mw_299, List.forall_mem_cons.mpr ⟨mw_472, List.forall_mem_cons.mpr ⟨mw_285, List.forall_mem_cons.mpr ⟨mw_286, List.forall_mem_cons.mpr ⟨mw_119, List.forall_mem_cons.mpr ⟨mw_287, List.forall_mem_cons.mpr ⟨mw_473, List.forall_mem_cons.mpr ⟨mw_306, List.forall_mem_cons.mpr ⟨mw_307, List.forall_mem_cons.mpr ⟨mw_119, List.forall_mem_cons.mpr ⟨mw_308, List.forall_mem_cons.mpr ⟨mw_474, List.forall_mem_cons.mpr ⟨mw_169, List.forall_mem_cons.mpr ⟨mw_170, List.forall_mem_cons.mpr ⟨mw_162, List.forall_mem_cons.mpr ⟨mw_171, List.forall_mem_cons.mpr ⟨mw_475, List.forall_mem_cons.mpr ⟨mw_280, List.forall_mem_cons.mpr ⟨mw_281, List.forall_mem_cons.mpr ⟨mw_282, List.forall_mem_cons.mpr ⟨mw_283, List.forall_mem_cons.mpr ⟨mw_476, List.forall_mem_cons.mpr ⟨mw_477, List.forall_mem_cons.mpr ⟨mw_478, List.forall_mem_cons.mpr ⟨mw_133, List.forall_mem_cons.mpr ⟨mw_479, List.forall_mem_cons.mpr ⟨mw_480, List.forall_mem_cons.mpr ⟨mw_481, List.forall_mem_cons.mpr ⟨mw_482, List.forall_mem_cons.mpr ⟨mw_483, List.forall_mem_cons.mpr ⟨mw_484, List.forall_mem_cons.mpr ⟨mw_485, List.forall_mem_cons.mpr ⟨mw_486, List.forall_mem_cons.mpr ⟨mw_487, List.forall_mem_cons.mpr ⟨mw_483, List.forall_mem_cons.mpr ⟨mw_488, List.forall_mem_cons.mpr ⟨mw_489, List.forall_mem_cons.mpr ⟨mw_289, List.forall_mem_cons.mpr ⟨mw_290, List.forall_mem_cons.mpr ⟨mw_282, List.forall_mem_cons.mpr ⟨mw_291, List.forall_mem_cons.mpr ⟨mw_490, List.forall_mem_cons.mpr ⟨mw_491, List.forall_mem_cons.mpr ⟨mw_492, List.forall_mem_cons.mpr ⟨mw_133, List.forall_mem_cons.mpr ⟨mw_493, List.forall_mem_cons.mpr ⟨mw_494, List.forall_mem_cons.mpr ⟨mw_495, List.forall_mem_cons.mpr ⟨mw_496, List.forall_mem_cons.mpr ⟨mw_133, List.forall_mem_cons.mpr ⟨mw_497, List.forall_mem_cons.mpr ⟨mw_498, List.forall_mem_cons.mpr ⟨mw_499, List.forall_mem_cons.mpr ⟨mw_500, List.forall_mem_cons.mpr ⟨mw_133, List.forall_mem_cons.mpr ⟨mw_501, List.forall_mem_cons.mpr ⟨mw_502, List.forall_mem_cons.mpr ⟨mw_503, List.forall_mem_cons.mpr ⟨mw_504, List.forall_mem_cons.mpr ⟨mw_162, List.forall_mem_cons.mpr ⟨mw_505, fun _ h => absurd h List.not_mem_nil⟩⟩⟩⟩⟩⟩⟩⟩⟩⟩⟩⟩⟩⟩⟩⟩⟩⟩⟩⟩⟩⟩⟩⟩⟩⟩⟩⟩⟩⟩⟩⟩⟩⟩⟩⟩⟩⟩⟩⟩⟩⟩⟩⟩⟩⟩⟩⟩⟩⟩⟩⟩⟩⟩⟩⟩⟩⟩⟩⟩⟩⟩⟩⟩⟩⟩⟩⟩⟩⟩⟩⟩⟩⟩⟩⟩⟩⟩⟩⟩⟩⟩⟩⟩⟩⟩⟩⟩⟩⟩⟩⟩⟩⟩⟩⟩⟩⟩⟩⟩⟩⟩⟩⟩⟩⟩⟩⟩⟩⟩⟩⟩⟩⟩⟩⟩⟩⟩⟩⟩⟩⟩⟩⟩⟩⟩⟩⟩⟩⟩⟩⟩⟩⟩⟩⟩⟩⟩⟩⟩⟩⟩⟩⟩⟩⟩⟩⟩⟩⟩⟩⟩⟩⟩⟩⟩⟩⟩⟩⟩⟩⟩⟩⟩⟩⟩⟩⟩⟩⟩⟩⟩⟩⟩⟩⟩⟩⟩⟩⟩⟩⟩⟩⟩⟩⟩⟩⟩⟩⟩⟩⟩⟩⟩⟩⟩⟩⟩⟩⟩⟩⟩⟩⟩⟩⟩⟩⟩⟩⟩⟩⟩⟩⟩⟩⟩⟩⟩⟩⟩⟩⟩⟩⟩⟩⟩⟩⟩⟩⟩⟩⟩⟩⟩⟩⟩⟩⟩⟩⟩⟩⟩⟩⟩⟩
set_option maxRecDepth 100000 in
theorem wsx_Pro : ∀ w ∈ (pS pt_Pro).flatMap (wS R_Pro), w ∈ lw_tbl := fun _ h => absurd h List.not_mem_nil
theorem mw_506 : Cond.constant R_Pro 155 (65535) ∈ lw_tbl := List.mem_of_getElem? (i := 447) (by decide +kernel)
set_option maxRecDepth 100000 in
theorem wi_Pro : ∀ w ∈ (pI pt_Pro).map (wI R_Pro), w ∈ lw_tbl := List.forall_mem_cons.mpr ⟨mw_506, fun _ h => absurd h List.not_mem_nil⟩
theorem mw_507 : Cond.constantLong R_Pro 245 (65535) ∈ lw_tbl := List.mem_of_getElem? (i := 697) (by decide +kernel)
theorem mw_508 : Cond.constantLong R_Pro 250 (255) ∈ lw_tbl := List.mem_of_getElem? (i := 702) (by decide +kernel)
set_option maxRecDepth 100000 in
theorem wl_Pro : ∀ w ∈ (pL pt_Pro).map (wL R_Pro), w ∈ lw_tbl := List.forall_mem_cons.mpr ⟨mw_507, List.forall_mem_cons.mpr ⟨mw_508, fun _ h => absurd h List.not_mem_nil⟩⟩
theorem wp_Pro : ∀ w ∈ wP pt_Pro, w ∈ lw_tbl := List.forall_mem_append.mpr ⟨wf_Pro, List.forall_mem_append.mpr ⟨wv_Pro, List.forall_mem_append.mpr ⟨wsx_Pro, List.forall_mem_append.mpr ⟨wi_Pro, wl_Pro⟩⟩⟩⟩
