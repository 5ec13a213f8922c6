theorem mw_509 : Cond.fieldLink R_Mod 7 "SmallComputerModel" "memory" "[I" ∈ lw_tbl := List.mem_of_getElem? (i := 756) (by decide +kernel)
theorem mw_510 : Cond.fieldLink R_Mod 13 "SmallComputerModel" "word" "[I" ∈ lw_tbl := List.mem_of_getElem? (i := 757) (by decide +kernel)
theorem mw_511 : Cond.fieldLink R_Mod 16 "SmallComputerModel" "segment" "[I" ∈ lw_tbl := List.mem_of_getElem? (i := 758) (by decide +kernel)
theorem mw_512 : Cond.fieldLink R_Mod 19 "SmallComputerModel" "waiting" "[I" ∈ lw_tbl := List.mem_of_getElem? (i := 785) (by decide +kernel)
theorem mw_513 : Cond.fieldLink R_Mod 22 "SmallComputerModel" "ip" "I" ∈ lw_tbl := List.mem_of_getElem? (i := 759) (by decide +kernel)
theorem mw_514 : Cond.fieldLink R_Mod 26 "SmallComputerModel" "place" "I" ∈ lw_tbl := List.mem_of_getElem? (i := 764) (by decide +kernel)
theorem mw_515 : Cond.fieldLink R_Mod 29 "SmallComputerModel" "masked" "I" ∈ lw_tbl := List.mem_of_getElem? (i := 775) (by decide +kernel)
theorem mw_516 : Cond.fieldLink R_Mod 58 "SmallComputerModel" "middle" "I" ∈ lw_tbl := List.mem_of_getElem? (i := 768) (by decide +kernel)
theorem mw_517 : Cond.fieldLink R_Mod 61 "SmallComputerModel" "eRegister" "I" ∈ lw_tbl := List.mem_of_getElem? (i := 769) (by decide +kernel)
theorem mw_518 : Cond.fieldLink R_Mod 67 "SmallComputerModel" "eOffset" "I" ∈ lw_tbl := List.mem_of_getElem? (i := 770) (by decide +kernel)
theorem mw_519 : Cond.fieldLink R_Mod 70 "SmallComputerModel" "override" "I" ∈ lw_tbl := List.mem_of_getElem? (i := 766) (by decide +kernel)
theorem mw_520 : Cond.fieldLink R_Mod 73 "SmallComputerModel" "eSegment" "I" ∈ lw_tbl := List.mem_of_getElem? (i := 771) (by decide +kernel)
theorem mw_521 : Cond.fieldLink R_Mod 92 "SmallComputerModel" "flags" "I" ∈ lw_tbl := List.mem_of_getElem? (i := 760) (by decide +kernel)
theorem mw_522 : Cond.fieldLink R_Mod 132 "SmallComputerModel" "interrupts" "I" ∈ lw_tbl := List.mem_of_getElem? (i := 763) (by decide +kernel)
theorem mw_523 : Cond.fieldLink R_Mod 135 "SmallComputerModel" "requested" "I" ∈ lw_tbl := List.mem_of_getElem? (i := 773) (by decide +kernel)
theorem mw_524 : Cond.fieldLink R_Mod 138 "SmallComputerModel" "inService" "I" ∈ lw_tbl := List.mem_of_getElem? (i := 774) (by decide +kernel)
theorem mw_525 : Cond.fieldLink R_Mod 157 "SmallComputerModel" "unknown" "Z" ∈ lw_tbl := List.mem_of_getElem? (i := 772) (by decide +kernel)
theorem mw_526 : Cond.fieldLink R_Mod 161 "SmallComputerModel" "shadow" "Z" ∈ lw_tbl := List.mem_of_getElem? (i := 762) (by decide +kernel)
theorem mw_527 : Cond.fieldLink R_Mod 187 "SmallComputerModel" "repeat" "I" ∈ lw_tbl := List.mem_of_getElem? (i := 767) (by decide +kernel)
theorem mw_528 : Cond.fieldLink R_Mod 193 "SmallComputerModel" "began" "I" ∈ lw_tbl := List.mem_of_getElem? (i := 765) (by decide +kernel)
theorem mw_529 : Cond.fieldLink R_Mod 210 "SmallComputerModel" "halt" "Z" ∈ lw_tbl := List.mem_of_getElem? (i := 761) (by decide +kernel)
theorem mw_530 : Cond.fieldLink R_Mod 243 "SmallComputerModel" "runs" "Z" ∈ lw_tbl := List.mem_of_getElem? (i := 777) (by decide +kernel)
theorem mw_531 : Cond.fieldLink R_Mod 246 "SmallComputerModel" "count" "I" ∈ lw_tbl := List.mem_of_getElem? (i := 779) (by decide +kernel)
theorem mw_532 : Cond.fieldLink R_Mod 249 "SmallComputerModel" "start" "I" ∈ lw_tbl := List.mem_of_getElem? (i := 778) (by decide +kernel)
theorem mw_533 : Cond.fieldLink R_Mod 255 "SmallComputerModel" "higherAnswered" "Z" ∈ lw_tbl := List.mem_of_getElem? (i := 783) (by decide +kernel)
theorem mw_534 : Cond.fieldLink R_Mod 258 "SmallComputerModel" "latched" "I" ∈ lw_tbl := List.mem_of_getElem? (i := 782) (by decide +kernel)
theorem mw_535 : Cond.fieldLink R_Mod 261 "SmallComputerModel" "keys" "I" ∈ lw_tbl := List.mem_of_getElem? (i := 784) (by decide +kernel)
theorem mw_536 : Cond.fieldLink R_Mod 264 "SmallComputerModel" "showsService" "Z" ∈ lw_tbl := List.mem_of_getElem? (i := 776) (by decide +kernel)
theorem mw_537 : Cond.fieldLink R_Mod 273 "SmallComputerModel" "done" "Z" ∈ lw_tbl := List.mem_of_getElem? (i := 791) (by decide +kernel)
theorem mw_538 : Cond.fieldLink R_Mod 276 "SmallComputerModel" "higherComes" "Z" ∈ lw_tbl := List.mem_of_getElem? (i := 781) (by decide +kernel)
theorem mw_539 : Cond.fieldLink R_Mod 279 "SmallComputerModel" "written" "I" ∈ lw_tbl := List.mem_of_getElem? (i := 780) (by decide +kernel)
theorem mw_540 : Cond.fieldLink R_Mod 283 "SmallComputerModel" "channelHigher" "Z" ∈ lw_tbl := List.mem_of_getElem? (i := 789) (by decide +kernel)
theorem mw_541 : Cond.fieldLink R_Mod 286 "SmallComputerModel" "channelPlace" "I" ∈ lw_tbl := List.mem_of_getElem? (i := 786) (by decide +kernel)
theorem mw_542 : Cond.fieldLink R_Mod 289 "SmallComputerModel" "channelLeft" "I" ∈ lw_tbl := List.mem_of_getElem? (i := 787) (by decide +kernel)
theorem mw_543 : Cond.fieldLink R_Mod 301 "SmallComputerModel" "page" "I" ∈ lw_tbl := List.mem_of_getElem? (i := 788) (by decide +kernel)
theorem mw_544 : Cond.fieldLink R_Mod 304 "SmallComputerModel" "open" "Z" ∈ lw_tbl := List.mem_of_getElem? (i := 790) (by decide +kernel)
set_option maxRecDepth 100000 in
theorem wf_Mod : ∀ w ∈ (pF pt_Mod).flatMap (wF R_Mod), w ∈ lw_tbl := List.forall_mem_cons.mpr ⟨mw_509, List.forall_mem_cons.mpr ⟨mw_510, List.forall_mem_cons.mpr ⟨mw_511, List.forall_mem_cons.mpr ⟨mw_512, List.forall_mem_cons.mpr ⟨mw_513, List.forall_mem_cons.mpr ⟨mw_514, List.forall_mem_cons.mpr ⟨mw_515, List.forall_mem_cons.mpr ⟨mw_516, List.forall_mem_cons.mpr ⟨mw_517, List.forall_mem_cons.mpr ⟨mw_518, List.forall_mem_cons.mpr ⟨mw_519, List.forall_mem_cons.mpr ⟨mw_520, List.forall_mem_cons.mpr ⟨mw_521, List.forall_mem_cons.mpr ⟨mw_522, List.forall_mem_cons.mpr ⟨mw_523, List.forall_mem_cons.mpr ⟨mw_524, List.forall_mem_cons.mpr ⟨mw_525, List.forall_mem_cons.mpr ⟨mw_526, List.forall_mem_cons.mpr ⟨mw_527, List.forall_mem_cons.mpr ⟨mw_528, List.forall_mem_cons.mpr ⟨mw_529, List.forall_mem_cons.mpr ⟨mw_530, List.forall_mem_cons.mpr ⟨mw_531, List.forall_mem_cons.mpr ⟨mw_532, List.forall_mem_cons.mpr ⟨mw_533, List.forall_mem_cons.mpr ⟨mw_534, List.forall_mem_cons.mpr ⟨mw_535, List.forall_mem_cons.mpr ⟨mw_536, List.forall_mem_cons.mpr ⟨mw_537, List.forall_mem_cons.mpr ⟨mw_538, List.forall_mem_cons.mpr ⟨mw_539, List.forall_mem_cons.mpr ⟨mw_540, List.forall_mem_cons.mpr ⟨mw_541, List.forall_mem_cons.mpr ⟨mw_542, List.forall_mem_cons.mpr ⟨mw_543, List.forall_mem_cons.mpr ⟨mw_544, fun _ h => absurd h List.not_mem_nil⟩⟩⟩⟩⟩⟩⟩⟩⟩⟩⟩⟩⟩⟩⟩⟩⟩⟩⟩⟩⟩⟩⟩⟩⟩⟩⟩⟩⟩⟩⟩⟩⟩⟩⟩⟩
theorem mw_545 : Cond.methodLink R_Mod 37 y_Mod_getByte ∈ lw_tbl := List.mem_of_getElem? (i := 924) (by decide +kernel)
theorem mw_546 : Cond.instanceMethod y_Mod_getByte ∈ lw_tbl := List.mem_of_getElem? (i := 926) (by decide +kernel)
theorem mw_547 : Cond.selects R_Mod y_Mod_getByte y_Mod_getByte ∈ lw_tbl := List.mem_of_getElem? (i := 41) (by decide +kernel)
theorem mw_548 : Cond.initialized R_Mod ∈ lw_tbl := List.mem_of_getElem? (i := 93) (by decide +kernel)
set_option maxRecDepth 100000 in
theorem mw_549 : Cond.code y_Mod_getByte b_Mod_getByte 3 (some .int) ∈ lw_tbl := List.mem_of_getElem? (i := 927) rfl
theorem mw_550 : Cond.methodLink R_Mod 40 y_Mod_setByte ∈ lw_tbl := List.mem_of_getElem? (i := 905) (by decide +kernel)
theorem mw_551 : Cond.instanceMethod y_Mod_setByte ∈ lw_tbl := List.mem_of_getElem? (i := 907) (by decide +kernel)
theorem mw_552 : Cond.selects R_Mod y_Mod_setByte y_Mod_setByte ∈ lw_tbl := List.mem_of_getElem? (i := 37) (by decide +kernel)
set_option maxRecDepth 100000 in
theorem mw_553 : Cond.code y_Mod_setByte b_Mod_setByte 4 none ∈ lw_tbl := List.mem_of_getElem? (i := 908) rfl
theorem mw_554 : Cond.methodLink R_Mod 44 y_Mod_getWord ∈ lw_tbl := List.mem_of_getElem? (i := 999) (by decide +kernel)
theorem mw_555 : Cond.instanceMethod y_Mod_getWord ∈ lw_tbl := List.mem_of_getElem? (i := 1001) (by decide +kernel)
theorem mw_556 : Cond.selects R_Mod y_Mod_getWord y_Mod_getWord ∈ lw_tbl := List.mem_of_getElem? (i := 57) (by decide +kernel)
set_option maxRecDepth 100000 in
theorem mw_557 : Cond.code y_Mod_getWord b_Mod_getWord 3 (some .int) ∈ lw_tbl := List.mem_of_getElem? (i := 1002) rfl
theorem mw_558 : Cond.methodLink R_Mod 47 y_Mod_setWord ∈ lw_tbl := List.mem_of_getElem? (i := 901) (by decide +kernel)
theorem mw_559 : Cond.instanceMethod y_Mod_setWord ∈ lw_tbl := List.mem_of_getElem? (i := 903) (by decide +kernel)
theorem mw_560 : Cond.selects R_Mod y_Mod_setWord y_Mod_setWord ∈ lw_tbl := List.mem_of_getElem? (i := 36) (by decide +kernel)
set_option maxRecDepth 100000 in
theorem mw_561 : Cond.code y_Mod_setWord b_Mod_setWord 4 none ∈ lw_tbl := List.mem_of_getElem? (i := 904) rfl
theorem mw_562 : Cond.methodLink R_Mod 50 y_Mod_next ∈ lw_tbl := List.mem_of_getElem? (i := 920) (by decide +kernel)
theorem mw_563 : Cond.instanceMethod y_Mod_next ∈ lw_tbl := List.mem_of_getElem? (i := 922) (by decide +kernel)
theorem mw_564 : Cond.selects R_Mod y_Mod_next y_Mod_next ∈ lw_tbl := List.mem_of_getElem? (i := 40) (by decide +kernel)
set_option maxRecDepth 100000 in
theorem mw_565 : Cond.code y_Mod_next b_Mod_next 2 (some .int) ∈ lw_tbl := List.mem_of_getElem? (i := 923) rfl
theorem mw_566 : Cond.methodLink R_Mod 54 y_Mod_nextWord ∈ lw_tbl := List.mem_of_getElem? (i := 943) (by decide +kernel)
theorem mw_567 : Cond.instanceMethod y_Mod_nextWord ∈ lw_tbl := List.mem_of_getElem? (i := 945) (by decide +kernel)
theorem mw_568 : Cond.selects R_Mod y_Mod_nextWord y_Mod_nextWord ∈ lw_tbl := List.mem_of_getElem? (i := 45) (by decide +kernel)
set_option maxRecDepth 100000 in
theorem mw_569 : Cond.code y_Mod_nextWord b_Mod_nextWord 2 (some .int) ∈ lw_tbl := List.mem_of_getElem? (i := 946) rfl
theorem mw_570 : Cond.methodLink R_Mod 64 y_Mod_nextSigned ∈ lw_tbl := List.mem_of_getElem? (i := 987) (by decide +kernel)
theorem mw_571 : Cond.instanceMethod y_Mod_nextSigned ∈ lw_tbl := List.mem_of_getElem? (i := 989) (by decide +kernel)
theorem mw_572 : Cond.selects R_Mod y_Mod_nextSigned y_Mod_nextSigned ∈ lw_tbl := List.mem_of_getElem? (i := 54) (by decide +kernel)
set_option maxRecDepth 100000 in
theorem mw_573 : Cond.code y_Mod_nextSigned b_Mod_nextSigned 2 (some .int) ∈ lw_tbl := List.mem_of_getElem? (i := 990) rfl
theorem mw_574 : Cond.methodLink R_Mod 76 y_Mod_getRegister ∈ lw_tbl := List.mem_of_getElem? (i := 947) (by decide +kernel)
theorem mw_575 : Cond.instanceMethod y_Mod_getRegister ∈ lw_tbl := List.mem_of_getElem? (i := 949) (by decide +kernel)
theorem mw_576 : Cond.selects R_Mod y_Mod_getRegister y_Mod_getRegister ∈ lw_tbl := List.mem_of_getElem? (i := 46) (by decide +kernel)
set_option maxRecDepth 100000 in
theorem mw_577 : Cond.code y_Mod_getRegister b_Mod_getRegister 3 (some .int) ∈ lw_tbl := List.mem_of_getElem? (i := 950) rfl
theorem mw_578 : Cond.methodLink R_Mod 80 y_Mod_get ∈ lw_tbl := List.mem_of_getElem? (i := 995) (by decide +kernel)
theorem mw_579 : Cond.instanceMethod y_Mod_get ∈ lw_tbl := List.mem_of_getElem? (i := 997) (by decide +kernel)
theorem mw_580 : Cond.selects R_Mod y_Mod_get y_Mod_get ∈ lw_tbl := List.mem_of_getElem? (i := 56) (by decide +kernel)
set_option maxRecDepth 100000 in
theorem mw_581 : Cond.code y_Mod_get b_Mod_get 4 (some .int) ∈ lw_tbl := List.mem_of_getElem? (i := 998) rfl
theorem mw_582 : Cond.methodLink R_Mod 84 y_Mod_setRegister ∈ lw_tbl := List.mem_of_getElem? (i := 978) (by decide +kernel)
theorem mw_583 : Cond.instanceMethod y_Mod_setRegister ∈ lw_tbl := List.mem_of_getElem? (i := 980) (by decide +kernel)
theorem mw_584 : Cond.selects R_Mod y_Mod_setRegister y_Mod_setRegister ∈ lw_tbl := List.mem_of_getElem? (i := 52) (by decide +kernel)
set_option maxRecDepth 100000 in
theorem mw_585 : Cond.code y_Mod_setRegister b_Mod_setRegister 4 none ∈ lw_tbl := List.mem_of_getElem? (i := 981) rfl
theorem mw_586 : Cond.methodLink R_Mod 88 y_Mod_set ∈ lw_tbl := List.mem_of_getElem? (i := 1007) (by decide +kernel)
theorem mw_587 : Cond.instanceMethod y_Mod_set ∈ lw_tbl := List.mem_of_getElem? (i := 1009) (by decide +kernel)
theorem mw_588 : Cond.selects R_Mod y_Mod_set y_Mod_set ∈ lw_tbl := List.mem_of_getElem? (i := 59) (by decide +kernel)
set_option maxRecDepth 100000 in
theorem mw_589 : Cond.code y_Mod_set b_Mod_set 5 none ∈ lw_tbl := List.mem_of_getElem? (i := 1010) rfl
theorem mw_590 : Cond.methodLink R_Mod 95 y_Mod_flag ∈ lw_tbl := List.mem_of_getElem? (i := 912) (by decide +kernel)
theorem mw_591 : Cond.instanceMethod y_Mod_flag ∈ lw_tbl := List.mem_of_getElem? (i := 914) (by decide +kernel)
theorem mw_592 : Cond.selects R_Mod y_Mod_flag y_Mod_flag ∈ lw_tbl := List.mem_of_getElem? (i := 38) (by decide +kernel)
set_option maxRecDepth 100000 in
theorem mw_593 : Cond.code y_Mod_flag b_Mod_flag 3 none ∈ lw_tbl := List.mem_of_getElem? (i := 915) rfl
theorem mw_594 : Cond.methodLink R_Mod 111 y_Mod_zeroAndSign ∈ lw_tbl := List.mem_of_getElem? (i := 966) (by decide +kernel)
theorem mw_595 : Cond.instanceMethod y_Mod_zeroAndSign ∈ lw_tbl := List.mem_of_getElem? (i := 968) (by decide +kernel)
theorem mw_596 : Cond.selects R_Mod y_Mod_zeroAndSign y_Mod_zeroAndSign ∈ lw_tbl := List.mem_of_getElem? (i := 49) (by decide +kernel)
set_option maxRecDepth 100000 in
theorem mw_597 : Cond.code y_Mod_zeroAndSign b_Mod_zeroAndSign 3 none ∈ lw_tbl := List.mem_of_getElem? (i := 969) rfl
theorem mw_598 : Cond.methodLink R_Mod 114 y_Mod_is ∈ lw_tbl := List.mem_of_getElem? (i := 884) (by decide +kernel)
theorem mw_599 : Cond.instanceMethod y_Mod_is ∈ lw_tbl := List.mem_of_getElem? (i := 886) (by decide +kernel)
theorem mw_600 : Cond.selects R_Mod y_Mod_is y_Mod_is ∈ lw_tbl := List.mem_of_getElem? (i := 32) (by decide +kernel)
set_option maxRecDepth 100000 in
theorem mw_601 : Cond.code y_Mod_is b_Mod_is 2 (some .boolean) ∈ lw_tbl := List.mem_of_getElem? (i := 887) rfl
theorem mw_602 : Cond.methodLink R_Mod 118 y_Mod_plus ∈ lw_tbl := List.mem_of_getElem? (i := 955) (by decide +kernel)
theorem mw_603 : Cond.instanceMethod y_Mod_plus ∈ lw_tbl := List.mem_of_getElem? (i := 957) (by decide +kernel)
theorem mw_604 : Cond.selects R_Mod y_Mod_plus y_Mod_plus ∈ lw_tbl := List.mem_of_getElem? (i := 48) (by decide +kernel)
set_option maxRecDepth 100000 in
theorem mw_605 : Cond.code y_Mod_plus b_Mod_plus 6 (some .int) ∈ lw_tbl := List.mem_of_getElem? (i := 958) rfl
theorem mw_606 : Cond.methodLink R_Mod 122 y_Mod_logic ∈ lw_tbl := List.mem_of_getElem? (i := 970) (by decide +kernel)
theorem mw_607 : Cond.instanceMethod y_Mod_logic ∈ lw_tbl := List.mem_of_getElem? (i := 972) (by decide +kernel)
theorem mw_608 : Cond.selects R_Mod y_Mod_logic y_Mod_logic ∈ lw_tbl := List.mem_of_getElem? (i := 50) (by decide +kernel)
set_option maxRecDepth 100000 in
theorem mw_609 : Cond.code y_Mod_logic b_Mod_logic 3 (some .int) ∈ lw_tbl := List.mem_of_getElem? (i := 973) rfl
theorem mw_610 : Cond.methodLink R_Mod 125 y_Mod_less ∈ lw_tbl := List.mem_of_getElem? (i := 974) (by decide +kernel)
theorem mw_611 : Cond.instanceMethod y_Mod_less ∈ lw_tbl := List.mem_of_getElem? (i := 976) (by decide +kernel)
theorem mw_612 : Cond.selects R_Mod y_Mod_less y_Mod_less ∈ lw_tbl := List.mem_of_getElem? (i := 51) (by decide +kernel)
set_option maxRecDepth 100000 in
theorem mw_613 : Cond.code y_Mod_less b_Mod_less 6 (some .int) ∈ lw_tbl := List.mem_of_getElem? (i := 977) rfl
theorem mw_614 : Cond.methodLink R_Mod 128 y_Mod_push ∈ lw_tbl := List.mem_of_getElem? (i := 896) (by decide +kernel)
theorem mw_615 : Cond.instanceMethod y_Mod_push ∈ lw_tbl := List.mem_of_getElem? (i := 898) (by decide +kernel)
theorem mw_616 : Cond.selects R_Mod y_Mod_push y_Mod_push ∈ lw_tbl := List.mem_of_getElem? (i := 35) (by decide +kernel)
set_option maxRecDepth 100000 in
theorem mw_617 : Cond.code y_Mod_push b_Mod_push 2 none ∈ lw_tbl := List.mem_of_getElem? (i := 899) rfl
theorem mw_618 : Cond.methodLink R_Mod 141 y_Mod_immediate ∈ lw_tbl := List.mem_of_getElem? (i := 939) (by decide +kernel)
theorem mw_619 : Cond.instanceMethod y_Mod_immediate ∈ lw_tbl := List.mem_of_getElem? (i := 941) (by decide +kernel)
theorem mw_620 : Cond.selects R_Mod y_Mod_immediate y_Mod_immediate ∈ lw_tbl := List.mem_of_getElem? (i := 44) (by decide +kernel)
set_option maxRecDepth 100000 in
theorem mw_621 : Cond.code y_Mod_immediate b_Mod_immediate 2 (some .int) ∈ lw_tbl := List.mem_of_getElem? (i := 942) rfl
theorem mw_622 : Cond.methodLink R_Mod 145 y_Mod_combine ∈ lw_tbl := List.mem_of_getElem? (i := 951) (by decide +kernel)
theorem mw_623 : Cond.instanceMethod y_Mod_combine ∈ lw_tbl := List.mem_of_getElem? (i := 953) (by decide +kernel)
theorem mw_624 : Cond.selects R_Mod y_Mod_combine y_Mod_combine ∈ lw_tbl := List.mem_of_getElem? (i := 47) (by decide +kernel)
set_option maxRecDepth 100000 in
theorem mw_625 : Cond.code y_Mod_combine b_Mod_combine 6 (some .int) ∈ lw_tbl := List.mem_of_getElem? (i := 954) rfl
theorem mw_626 : Cond.methodLink R_Mod 148 y_Mod_readModrm ∈ lw_tbl := List.mem_of_getElem? (i := 983) (by decide +kernel)
theorem mw_627 : Cond.instanceMethod y_Mod_readModrm ∈ lw_tbl := List.mem_of_getElem? (i := 985) (by decide +kernel)
theorem mw_628 : Cond.selects R_Mod y_Mod_readModrm y_Mod_readModrm ∈ lw_tbl := List.mem_of_getElem? (i := 53) (by decide +kernel)
set_option maxRecDepth 100000 in
theorem mw_629 : Cond.code y_Mod_readModrm b_Mod_readModrm 9 none ∈ lw_tbl := List.mem_of_getElem? (i := 986) rfl
theorem mw_630 : Cond.methodLink R_Mod 151 y_Mod_getE ∈ lw_tbl := List.mem_of_getElem? (i := 991) (by decide +kernel)
theorem mw_631 : Cond.instanceMethod y_Mod_getE ∈ lw_tbl := List.mem_of_getElem? (i := 993) (by decide +kernel)
theorem mw_632 : Cond.selects R_Mod y_Mod_getE y_Mod_getE ∈ lw_tbl := List.mem_of_getElem? (i := 55) (by decide +kernel)
set_option maxRecDepth 100000 in
theorem mw_633 : Cond.code y_Mod_getE b_Mod_getE 2 (some .int) ∈ lw_tbl := List.mem_of_getElem? (i := 994) rfl
theorem mw_634 : Cond.methodLink R_Mod 154 y_Mod_setE ∈ lw_tbl := List.mem_of_getElem? (i := 1003) (by decide +kernel)
theorem mw_635 : Cond.instanceMethod y_Mod_setE ∈ lw_tbl := List.mem_of_getElem? (i := 1005) (by decide +kernel)
theorem mw_636 : Cond.selects R_Mod y_Mod_setE y_Mod_setE ∈ lw_tbl := List.mem_of_getElem? (i := 58) (by decide +kernel)
set_option maxRecDepth 100000 in
theorem mw_637 : Cond.code y_Mod_setE b_Mod_setE 3 none ∈ lw_tbl := List.mem_of_getElem? (i := 1006) rfl
theorem mw_638 : Cond.methodLink R_Mod 170 y_Mod_interrupt ∈ lw_tbl := List.mem_of_getElem? (i := 892) (by decide +kernel)
theorem mw_639 : Cond.instanceMethod y_Mod_interrupt ∈ lw_tbl := List.mem_of_getElem? (i := 894) (by decide +kernel)
theorem mw_640 : Cond.selects R_Mod y_Mod_interrupt y_Mod_interrupt ∈ lw_tbl := List.mem_of_getElem? (i := 34) (by decide +kernel)
set_option maxRecDepth 100000 in
theorem mw_641 : Cond.code y_Mod_interrupt b_Mod_interrupt 3 none ∈ lw_tbl := List.mem_of_getElem? (i := 895) rfl
theorem mw_642 : Cond.methodLink R_Mod 173 y_Mod_byOne ∈ lw_tbl := List.mem_of_getElem? (i := 1019) (by decide +kernel)
theorem mw_643 : Cond.instanceMethod y_Mod_byOne ∈ lw_tbl := List.mem_of_getElem? (i := 1021) (by decide +kernel)
theorem mw_644 : Cond.selects R_Mod y_Mod_byOne y_Mod_byOne ∈ lw_tbl := List.mem_of_getElem? (i := 62) (by decide +kernel)
set_option maxRecDepth 100000 in
theorem mw_645 : Cond.code y_Mod_byOne b_Mod_byOne 6 (some .int) ∈ lw_tbl := List.mem_of_getElem? (i := 1022) rfl
theorem mw_646 : Cond.methodLink R_Mod 177 y_Mod_multiply ∈ lw_tbl := List.mem_of_getElem? (i := 1043) (by decide +kernel)
theorem mw_647 : Cond.instanceMethod y_Mod_multiply ∈ lw_tbl := List.mem_of_getElem? (i := 1045) (by decide +kernel)
theorem mw_648 : Cond.selects R_Mod y_Mod_multiply y_Mod_multiply ∈ lw_tbl := List.mem_of_getElem? (i := 68) (by decide +kernel)
set_option maxRecDepth 100000 in
theorem mw_649 : Cond.code y_Mod_multiply b_Mod_multiply 5 none ∈ lw_tbl := List.mem_of_getElem? (i := 1046) rfl
theorem mw_650 : Cond.methodLink R_Mod 181 y_Mod_divide ∈ lw_tbl := List.mem_of_getElem? (i := 1048) (by decide +kernel)
theorem mw_651 : Cond.instanceMethod y_Mod_divide ∈ lw_tbl := List.mem_of_getElem? (i := 1050) (by decide +kernel)
theorem mw_652 : Cond.selects R_Mod y_Mod_divide y_Mod_divide ∈ lw_tbl := List.mem_of_getElem? (i := 69) (by decide +kernel)
set_option maxRecDepth 100000 in
theorem mw_653 : Cond.code y_Mod_divide b_Mod_divide 10 none ∈ lw_tbl := List.mem_of_getElem? (i := 1051) rfl
theorem mw_654 : Cond.methodLink R_Mod 184 y_Mod_go ∈ lw_tbl := List.mem_of_getElem? (i := 1062) (by decide +kernel)
theorem mw_655 : Cond.instanceMethod y_Mod_go ∈ lw_tbl := List.mem_of_getElem? (i := 1064) (by decide +kernel)
theorem mw_656 : Cond.selects R_Mod y_Mod_go y_Mod_go ∈ lw_tbl := List.mem_of_getElem? (i := 72) (by decide +kernel)
set_option maxRecDepth 100000 in
theorem mw_657 : Cond.code y_Mod_go b_Mod_go 4 none ∈ lw_tbl := List.mem_of_getElem? (i := 1065) rfl
theorem mw_658 : Cond.methodLink R_Mod 190 y_Mod_string ∈ lw_tbl := List.mem_of_getElem? (i := 1058) (by decide +kernel)
theorem mw_659 : Cond.instanceMethod y_Mod_string ∈ lw_tbl := List.mem_of_getElem? (i := 1060) (by decide +kernel)
theorem mw_660 : Cond.selects R_Mod y_Mod_string y_Mod_string ∈ lw_tbl := List.mem_of_getElem? (i := 71) (by decide +kernel)
set_option maxRecDepth 100000 in
theorem mw_661 : Cond.code y_Mod_string b_Mod_string 5 none ∈ lw_tbl := List.mem_of_getElem? (i := 1061) rfl
theorem mw_662 : Cond.methodLink R_Mod 196 y_Mod_pop ∈ lw_tbl := List.mem_of_getElem? (i := 1015) (by decide +kernel)
theorem mw_663 : Cond.instanceMethod y_Mod_pop ∈ lw_tbl := List.mem_of_getElem? (i := 1017) (by decide +kernel)
theorem mw_664 : Cond.selects R_Mod y_Mod_pop y_Mod_pop ∈ lw_tbl := List.mem_of_getElem? (i := 61) (by decide +kernel)
set_option maxRecDepth 100000 in
theorem mw_665 : Cond.code y_Mod_pop b_Mod_pop 2 (some .int) ∈ lw_tbl := List.mem_of_getElem? (i := 1018) rfl
theorem mw_666 : Cond.methodLink R_Mod 199 y_Mod_holds ∈ lw_tbl := List.mem_of_getElem? (i := 1027) (by decide +kernel)
theorem mw_667 : Cond.instanceMethod y_Mod_holds ∈ lw_tbl := List.mem_of_getElem? (i := 1029) (by decide +kernel)
theorem mw_668 : Cond.selects R_Mod y_Mod_holds y_Mod_holds ∈ lw_tbl := List.mem_of_getElem? (i := 64) (by decide +kernel)
set_option maxRecDepth 100000 in
theorem mw_669 : Cond.code y_Mod_holds b_Mod_holds 4 (some .boolean) ∈ lw_tbl := List.mem_of_getElem? (i := 1030) rfl
theorem mw_670 : Cond.methodLink R_Mod 202 y_Mod_answer ∈ lw_tbl := List.mem_of_getElem? (i := 1070) (by decide +kernel)
theorem mw_671 : Cond.instanceMethod y_Mod_answer ∈ lw_tbl := List.mem_of_getElem? (i := 1072) (by decide +kernel)
theorem mw_672 : Cond.selects R_Mod y_Mod_answer y_Mod_answer ∈ lw_tbl := List.mem_of_getElem? (i := 74) (by decide +kernel)
set_option maxRecDepth 100000 in
theorem mw_673 : Cond.code y_Mod_answer b_Mod_answer 3 (some .int) ∈ lw_tbl := List.mem_of_getElem? (i := 1073) rfl
theorem mw_674 : Cond.methodLink R_Mod 206 y_Mod_give ∈ lw_tbl := List.mem_of_getElem? (i := 1082) (by decide +kernel)
theorem mw_675 : Cond.instanceMethod y_Mod_give ∈ lw_tbl := List.mem_of_getElem? (i := 1084) (by decide +kernel)
theorem mw_676 : Cond.selects R_Mod y_Mod_give y_Mod_give ∈ lw_tbl := List.mem_of_getElem? (i := 77) (by decide +kernel)
set_option maxRecDepth 100000 in
theorem mw_677 : Cond.code y_Mod_give b_Mod_give 3 none ∈ lw_tbl := List.mem_of_getElem? (i := 1085) rfl
theorem mw_678 : Cond.methodLink R_Mod 213 y_Mod_combinations ∈ lw_tbl := List.mem_of_getElem? (i := 935) (by decide +kernel)
theorem mw_679 : Cond.instanceMethod y_Mod_combinations ∈ lw_tbl := List.mem_of_getElem? (i := 937) (by decide +kernel)
theorem mw_680 : Cond.selects R_Mod y_Mod_combinations y_Mod_combinations ∈ lw_tbl := List.mem_of_getElem? (i := 43) (by decide +kernel)
set_option maxRecDepth 100000 in
theorem mw_681 : Cond.code y_Mod_combinations b_Mod_combinations 8 none ∈ lw_tbl := List.mem_of_getElem? (i := 938) rfl
theorem mw_682 : Cond.methodLink R_Mod 216 y_Mod_stack ∈ lw_tbl := List.mem_of_getElem? (i := 1011) (by decide +kernel)
theorem mw_683 : Cond.instanceMethod y_Mod_stack ∈ lw_tbl := List.mem_of_getElem? (i := 1013) (by decide +kernel)
theorem mw_684 : Cond.selects R_Mod y_Mod_stack y_Mod_stack ∈ lw_tbl := List.mem_of_getElem? (i := 60) (by decide +kernel)
set_option maxRecDepth 100000 in
theorem mw_685 : Cond.code y_Mod_stack b_Mod_stack 3 none ∈ lw_tbl := List.mem_of_getElem? (i := 1014) rfl
theorem mw_686 : Cond.methodLink R_Mod 219 y_Mod_jumps ∈ lw_tbl := List.mem_of_getElem? (i := 1023) (by decide +kernel)
theorem mw_687 : Cond.instanceMethod y_Mod_jumps ∈ lw_tbl := List.mem_of_getElem? (i := 1025) (by decide +kernel)
theorem mw_688 : Cond.selects R_Mod y_Mod_jumps y_Mod_jumps ∈ lw_tbl := List.mem_of_getElem? (i := 63) (by decide +kernel)
set_option maxRecDepth 100000 in
theorem mw_689 : Cond.code y_Mod_jumps b_Mod_jumps 4 none ∈ lw_tbl := List.mem_of_getElem? (i := 1026) rfl
theorem mw_690 : Cond.methodLink R_Mod 222 y_Mod_withImmediate ∈ lw_tbl := List.mem_of_getElem? (i := 1031) (by decide +kernel)
theorem mw_691 : Cond.instanceMethod y_Mod_withImmediate ∈ lw_tbl := List.mem_of_getElem? (i := 1033) (by decide +kernel)
theorem mw_692 : Cond.selects R_Mod y_Mod_withImmediate y_Mod_withImmediate ∈ lw_tbl := List.mem_of_getElem? (i := 65) (by decide +kernel)
set_option maxRecDepth 100000 in
theorem mw_693 : Cond.code y_Mod_withImmediate b_Mod_withImmediate 5 none ∈ lw_tbl := List.mem_of_getElem? (i := 1034) rfl
theorem mw_694 : Cond.methodLink R_Mod 225 y_Mod_moves ∈ lw_tbl := List.mem_of_getElem? (i := 1035) (by decide +kernel)
theorem mw_695 : Cond.instanceMethod y_Mod_moves ∈ lw_tbl := List.mem_of_getElem? (i := 1037) (by decide +kernel)
theorem mw_696 : Cond.selects R_Mod y_Mod_moves y_Mod_moves ∈ lw_tbl := List.mem_of_getElem? (i := 66) (by decide +kernel)
set_option maxRecDepth 100000 in
theorem mw_697 : Cond.code y_Mod_moves b_Mod_moves 4 none ∈ lw_tbl := List.mem_of_getElem? (i := 1038) rfl
theorem mw_698 : Cond.methodLink R_Mod 228 y_Mod_ones ∈ lw_tbl := List.mem_of_getElem? (i := 1039) (by decide +kernel)
theorem mw_699 : Cond.instanceMethod y_Mod_ones ∈ lw_tbl := List.mem_of_getElem? (i := 1041) (by decide +kernel)
theorem mw_700 : Cond.selects R_Mod y_Mod_ones y_Mod_ones ∈ lw_tbl := List.mem_of_getElem? (i := 67) (by decide +kernel)
set_option maxRecDepth 100000 in
theorem mw_701 : Cond.code y_Mod_ones b_Mod_ones 4 none ∈ lw_tbl := List.mem_of_getElem? (i := 1042) rfl
theorem mw_702 : Cond.methodLink R_Mod 231 y_Mod_strings ∈ lw_tbl := List.mem_of_getElem? (i := 1054) (by decide +kernel)
theorem mw_703 : Cond.instanceMethod y_Mod_strings ∈ lw_tbl := List.mem_of_getElem? (i := 1056) (by decide +kernel)
theorem mw_704 : Cond.selects R_Mod y_Mod_strings y_Mod_strings ∈ lw_tbl := List.mem_of_getElem? (i := 70) (by decide +kernel)
set_option maxRecDepth 100000 in
theorem mw_705 : Cond.code y_Mod_strings b_Mod_strings 4 none ∈ lw_tbl := List.mem_of_getElem? (i := 1057) rfl
theorem mw_706 : Cond.methodLink R_Mod 234 y_Mod_others ∈ lw_tbl := List.mem_of_getElem? (i := 1066) (by decide +kernel)
theorem mw_707 : Cond.instanceMethod y_Mod_others ∈ lw_tbl := List.mem_of_getElem? (i := 1068) (by decide +kernel)
theorem mw_708 : Cond.selects R_Mod y_Mod_others y_Mod_others ∈ lw_tbl := List.mem_of_getElem? (i := 73) (by decide +kernel)
set_option maxRecDepth 100000 in
theorem mw_709 : Cond.code y_Mod_others b_Mod_others 3 none ∈ lw_tbl := List.mem_of_getElem? (i := 1069) rfl
theorem mw_710 : Cond.methodLink R_Mod 240 y_Mod_execute ∈ lw_tbl := List.mem_of_getElem? (i := 931) (by decide +kernel)
theorem mw_711 : Cond.instanceMethod y_Mod_execute ∈ lw_tbl := List.mem_of_getElem? (i := 933) (by decide +kernel)
theorem mw_712 : Cond.selects R_Mod y_Mod_execute y_Mod_execute ∈ lw_tbl := List.mem_of_getElem? (i := 42) (by decide +kernel)
set_option maxRecDepth 100000 in
theorem mw_713 : Cond.code y_Mod_execute b_Mod_execute 5 none ∈ lw_tbl := List.mem_of_getElem? (i := 934) rfl
theorem mw_714 : Cond.methodLink R_Mod 252 y_Mod_request ∈ lw_tbl := List.mem_of_getElem? (i := 880) (by decide +kernel)
theorem mw_715 : Cond.instanceMethod y_Mod_request ∈ lw_tbl := List.mem_of_getElem? (i := 882) (by decide +kernel)
theorem mw_716 : Cond.selects R_Mod y_Mod_request y_Mod_request ∈ lw_tbl := List.mem_of_getElem? (i := 31) (by decide +kernel)
set_option maxRecDepth 100000 in
theorem mw_717 : Cond.code y_Mod_request b_Mod_request 2 none ∈ lw_tbl := List.mem_of_getElem? (i := 883) rfl
theorem mw_718 : Cond.methodLink R_Mod 267 y_Mod_answerTimer ∈ lw_tbl := List.mem_of_getElem? (i := 1074) (by decide +kernel)
theorem mw_719 : Cond.instanceMethod y_Mod_answerTimer ∈ lw_tbl := List.mem_of_getElem? (i := 1076) (by decide +kernel)
theorem mw_720 : Cond.selects R_Mod y_Mod_answerTimer y_Mod_answerTimer ∈ lw_tbl := List.mem_of_getElem? (i := 75) (by decide +kernel)
set_option maxRecDepth 100000 in
theorem mw_721 : Cond.code y_Mod_answerTimer b_Mod_answerTimer 2 (some .int) ∈ lw_tbl := List.mem_of_getElem? (i := 1077) rfl
theorem mw_722 : Cond.methodLink R_Mod 270 y_Mod_answerKey ∈ lw_tbl := List.mem_of_getElem? (i := 1078) (by decide +kernel)
theorem mw_723 : Cond.instanceMethod y_Mod_answerKey ∈ lw_tbl := List.mem_of_getElem? (i := 1080) (by decide +kernel)
theorem mw_724 : Cond.selects R_Mod y_Mod_answerKey y_Mod_answerKey ∈ lw_tbl := List.mem_of_getElem? (i := 76) (by decide +kernel)
set_option maxRecDepth 100000 in
theorem mw_725 : Cond.code y_Mod_answerKey b_Mod_answerKey 3 (some .int) ∈ lw_tbl := List.mem_of_getElem? (i := 1081) rfl
theorem mw_726 : Cond.methodLink R_Mod 292 y_Mod_giveController ∈ lw_tbl := List.mem_of_getElem? (i := 1086) (by decide +kernel)
theorem mw_727 : Cond.instanceMethod y_Mod_giveController ∈ lw_tbl := List.mem_of_getElem? (i := 1088) (by decide +kernel)
theorem mw_728 : Cond.selects R_Mod y_Mod_giveController y_Mod_giveController ∈ lw_tbl := List.mem_of_getElem? (i := 78) (by decide +kernel)
set_option maxRecDepth 100000 in
theorem mw_729 : Cond.code y_Mod_giveController b_Mod_giveController 2 none ∈ lw_tbl := List.mem_of_getElem? (i := 1089) rfl
theorem mw_730 : Cond.methodLink R_Mod 295 y_Mod_giveTimer ∈ lw_tbl := List.mem_of_getElem? (i := 1090) (by decide +kernel)
theorem mw_731 : Cond.instanceMethod y_Mod_giveTimer ∈ lw_tbl := List.mem_of_getElem? (i := 1092) (by decide +kernel)
theorem mw_732 : Cond.selects R_Mod y_Mod_giveTimer y_Mod_giveTimer ∈ lw_tbl := List.mem_of_getElem? (i := 79) (by decide +kernel)
set_option maxRecDepth 100000 in
theorem mw_733 : Cond.code y_Mod_giveTimer b_Mod_giveTimer 2 none ∈ lw_tbl := List.mem_of_getElem? (i := 1093) rfl
theorem mw_734 : Cond.methodLink R_Mod 298 y_Mod_giveChannel ∈ lw_tbl := List.mem_of_getElem? (i := 1095) (by decide +kernel)
theorem mw_735 : Cond.instanceMethod y_Mod_giveChannel ∈ lw_tbl := List.mem_of_getElem? (i := 1097) (by decide +kernel)
theorem mw_736 : Cond.selects R_Mod y_Mod_giveChannel y_Mod_giveChannel ∈ lw_tbl := List.mem_of_getElem? (i := 80) (by decide +kernel)
set_option maxRecDepth 100000 in
theorem mw_737 : Cond.code y_Mod_giveChannel b_Mod_giveChannel 3 none ∈ lw_tbl := List.mem_of_getElem? (i := 1098) rfl
theorem mw_738 : Cond.methodLink R_Mod 307 y_Mod_tickTimer ∈ lw_tbl := List.mem_of_getElem? (i := 876) (by decide +kernel)
theorem mw_739 : Cond.instanceMethod y_Mod_tickTimer ∈ lw_tbl := List.mem_of_getElem? (i := 878) (by decide +kernel)
theorem mw_740 : Cond.selects R_Mod y_Mod_tickTimer y_Mod_tickTimer ∈ lw_tbl := List.mem_of_getElem? (i := 30) (by decide +kernel)
set_option maxRecDepth 100000 in
theorem mw_741 : Cond.code y_Mod_tickTimer b_Mod_tickTimer 1 none ∈ lw_tbl := List.mem_of_getElem? (i := 879) rfl
theorem mw_742 : Cond.methodLink R_Mod 310 y_Mod_given ∈ lw_tbl := List.mem_of_getElem? (i := 888) (by decide +kernel)
theorem mw_743 : Cond.instanceMethod y_Mod_given ∈ lw_tbl := List.mem_of_getElem? (i := 890) (by decide +kernel)
theorem mw_744 : Cond.selects R_Mod y_Mod_given y_Mod_given ∈ lw_tbl := List.mem_of_getElem? (i := 33) (by decide +kernel)
set_option maxRecDepth 100000 in
theorem mw_745 : Cond.code y_Mod_given b_Mod_given 3 (some .int) ∈ lw_tbl := List.mem_of_getElem? (i := 891) rfl
theorem mw_746 : Cond.methodLink R_Mod 313 y_Mod_instruct ∈ lw_tbl := List.mem_of_getElem? (i := 916) (by decide +kernel)
theorem mw_747 : Cond.instanceMethod y_Mod_instruct ∈ lw_tbl := List.mem_of_getElem? (i := 918) (by decide +kernel)
theorem mw_748 : Cond.selects R_Mod y_Mod_instruct y_Mod_instruct ∈ lw_tbl := List.mem_of_getElem? (i := 39) (by decide +kernel)
set_option maxRecDepth 100000 in
theorem mw_749 : Cond.code y_Mod_instruct b_Mod_instruct 3 none ∈ lw_tbl := List.mem_of_getElem? (i := 919) rfl
theorem mw_750 : Cond.methodLink R_Mod 316 y_Mod_oneStep ∈ lw_tbl := List.mem_of_getElem? (i := 872) (by decide +kernel)
theorem mw_751 : Cond.instanceMethod y_Mod_oneStep ∈ lw_tbl := List.mem_of_getElem? (i := 874) (by decide +kernel)
theorem mw_752 : Cond.selects R_Mod y_Mod_oneStep y_Mod_oneStep ∈ lw_tbl := List.mem_of_getElem? (i := 29) (by decide +kernel)
set_option maxRecDepth 100000 in
theorem mw_753 : Cond.code y_Mod_oneStep b_Mod_oneStep 3 none ∈ lw_tbl := List.mem_of_getElem? (i := 875) rfl
set_option maxRecDepth 100000 in
theorem wv_Mod : ∀ w ∈ (pV pt_Mod).flatMap (wV R_Mod), w ∈ lw_tbl := List.forall_mem_cons.mpr ⟨mw_545, List.forall_mem_cons.mpr ⟨mw_546, List.forall_mem_cons.mpr ⟨mw_547, List.forall_mem_cons.mpr ⟨mw_548, List.forall_mem_cons.mpr ⟨mw_549, List.forall_mem_cons.mpr ⟨mw_550, List.forall_mem_cons.mpr ⟨mw_551, List.forall_mem_cons.mpr ⟨mw_552, List.forall_mem_cons.mpr ⟨mw_548, List.forall_mem_cons.mpr ⟨mw_553, List.forall_mem_cons.mpr ⟨mw_554, List.forall_mem_cons.mpr ⟨mw_555, List.forall_mem_cons.mpr ⟨mw_556, List.forall_mem_cons.mpr ⟨mw_548, List.forall_mem_cons.mpr ⟨mw_557, List.forall_mem_cons.mpr ⟨mw_558, List.forall_mem_cons.mpr ⟨mw_559, List.forall_mem_cons.mpr ⟨mw_560, List.forall_mem_cons.mpr ⟨mw_548, List.forall_mem_cons.mpr ⟨mw_561, List.forall_mem_cons.mpr ⟨mw_562, List.forall_mem_cons.mpr ⟨mw_563, List.forall_mem_cons.mpr ⟨mw_564, List.forall_mem_cons.mpr ⟨mw_548, List.forall_mem_cons.mpr ⟨mw_565, List.forall_mem_cons.mpr ⟨mw_566, List.forall_mem_cons.mpr ⟨mw_567, List.forall_mem_cons.mpr ⟨mw_568, List.forall_mem_cons.mpr ⟨mw_548, List.forall_mem_cons.mpr ⟨mw_569, List.forall_mem_cons.mpr ⟨mw_570, List.forall_mem_cons.mpr ⟨mw_571, List.forall_mem_cons.mpr ⟨mw_572, List.forall_mem_cons.mpr ⟨mw_548, List.forall_mem_cons.mpr ⟨mw_573, List.forall_mem_cons.mpr ⟨mw_574, List.forall_mem_cons.mpr ⟨mw_575, List.forall_mem_cons.mpr ⟨mw_576, List.forall_mem_cons.mpr ⟨mw_548, List.forall_mem_cons.mpr ⟨mw_577, List.forall_mem_cons.mpr ⟨mw_578, List.forall_mem_cons.mpr ⟨mw_579, List.forall_mem_cons.mpr ⟨mw_580, List.forall_mem_cons.mpr ⟨mw_548, List.forall_mem_cons.mpr ⟨mw_581, List.forall_mem_cons.mpr ⟨mw_582, List.forall_mem_cons.mpr ⟨mw_583, List.forall_mem_cons.mpr ⟨mw_584, List.forall_mem_cons.mpr ⟨mw_548, List.forall_mem_cons.mpr ⟨mw_585, List.forall_mem_cons.mpr ⟨mw_586, List.forall_mem_cons.mpr ⟨mw_587, List.forall_mem_cons.mpr ⟨mw_588, List.forall_mem_cons.mpr ⟨mw_548, List.forall_mem_cons.mpr ⟨mw_589, List.forall_mem_cons.mpr ⟨mw_590, List.forall_mem_cons.mpr ⟨mw_591, List.forall_mem_cons.mpr ⟨mw_592, List.forall_mem_cons.mpr ⟨mw_548, List.forall_mem_cons.mpr ⟨mw_593, List.forall_mem_cons.mpr ⟨mw_594, List.forall_mem_cons.mpr ⟨mw_595, List.forall_mem_cons.mpr ⟨mw_596, List.forall_mem_cons.mpr ⟨mw_548, List.forall_mem_cons.mpr ⟨mw_597, List.forall_mem_cons.mpr ⟨mw_598, List.forall_mem_cons.mpr ⟨mw_599, List.forall_mem_cons.mpr ⟨mw_600, List.forall_mem_cons.mpr ⟨mw_548, List.forall_mem_cons.mpr ⟨mw_601, List.forall_mem_cons.mpr ⟨mw_602, List.forall_mem_cons.mpr ⟨mw_603, List.forall_mem_cons.mpr ⟨mw_604, List.forall_mem_cons.mpr ⟨mw_548, List.forall_mem_cons.mpr ⟨mw_605, List.forall_mem_cons.mpr ⟨mw_606, List.forall_mem_cons.mpr ⟨mw_607, List.forall_mem_cons.mpr ⟨mw_608, List.forall_mem_cons.mpr ⟨mw_548, List.forall_mem_cons.mpr ⟨mw_609, List.forall_mem_cons.mpr ⟨mw_610, List.forall_mem_cons.mpr ⟨mw_611, List.forall_mem_cons.mpr ⟨mw_612, List.forall_mem_cons.mpr ⟨mw_548, List.forall_mem_cons.mpr ⟨mw_613, List.forall_mem_cons.mpr ⟨mw_614, List.forall_mem_cons.mpr ⟨mw_615, List.forall_mem_cons.mpr ⟨mw_616, List.forall_mem_cons.mpr ⟨mw_548, List.forall_mem_cons.mpr ⟨mw_617, List.forall_mem_cons.mpr ⟨mw_618, List.forall_mem_cons.mpr ⟨mw_619, List.forall_mem_cons.mpr ⟨mw_620, List.forall_mem_cons.mpr ⟨mw_548, List.forall_mem_cons.mpr ⟨mw_621, List.forall_mem_cons.mpr ⟨mw_622, List.forall_mem_cons.mpr ⟨mw_623, List.forall_mem_cons.mpr ⟨mw_624, List.forall_mem_cons.mpr ⟨mw_548, List.forall_mem_cons.mpr ⟨mw_625, List.forall_mem_cons.mpr ⟨mw_626, List.forall_mem_cons.mpr ⟨mw_627, List.forall_mem_cons.mpr ⟨mw_628, List.forall_mem_cons.mpr ⟨mw_548, List.forall_mem_cons.mpr ⟨mw_629, List.forall_mem_cons.mpr ⟨mw_630, List.forall_mem_cons.mpr ⟨mw_631, List.forall_mem_cons.mpr ⟨mw_632, List.forall_mem_cons.mpr ⟨mw_548, List.forall_mem_cons.mpr ⟨mw_633, List.forall_mem_cons.mpr ⟨mw_634, List.forall_mem_cons.mpr ⟨mw_635, List.forall_mem_cons.mpr ⟨mw_636, List.forall_mem_cons.mpr ⟨mw_548, List.forall_mem_cons.mpr ⟨mw_637, List.forall_mem_cons.mpr ⟨mw_638, List.forall_mem_cons.mpr ⟨mw_639, List.forall_mem_cons.mpr ⟨mw_640, List.forall_mem_cons.mpr ⟨mw_548, List.forall_mem_cons.mpr ⟨mw_641, List.forall_mem_cons.mpr ⟨mw_642, List.forall_mem_cons.mpr ⟨mw_643, List.forall_mem_cons.mpr ⟨mw_644, List.forall_mem_cons.mpr ⟨mw_548, List.forall_mem_cons.mpr ⟨mw_645, List.forall_mem_cons.mpr ⟨mw_646, List.forall_mem_cons.mpr ⟨mw_647, List.forall_mem_cons.mpr ⟨mw_648, List.forall_mem_cons.mpr ⟨mw_548, List.forall_mem_cons.mpr ⟨mw_649, List.forall_mem_cons.mpr ⟨mw_650, List.forall_mem_cons.mpr ⟨mw_651, List.forall_mem_cons.mpr ⟨mw_652, List.forall_mem_cons.mpr ⟨mw_548, List.forall_mem_cons.mpr ⟨mw_653, List.forall_mem_cons.mpr ⟨mw_654, List.forall_mem_cons.mpr ⟨mw_655, List.forall_mem_cons.mpr ⟨mw_656, List.forall_mem_cons.mpr ⟨mw_548, List.forall_mem_cons.mpr ⟨mw_657, List.forall_mem_cons.mpr ⟨mw_658, List.forall_mem_cons.mpr ⟨mw_659, List.forall_mem_cons.mpr ⟨mw_660, List.forall_mem_cons.mpr ⟨mw_548, List.forall_mem_cons.mpr ⟨mw_661, List.forall_mem_cons.mpr ⟨mw_662, List.forall_mem_cons.mpr ⟨mw_663, List.forall_mem_cons.mpr ⟨mw_664, List.forall_mem_cons.mpr ⟨mw_548, List.forall_mem_cons.mpr ⟨mw_665, List.forall_mem_cons.mpr ⟨mw_666, List.forall_mem_cons.mpr ⟨mw_667, List.forall_mem_cons.mpr ⟨mw_668, List.forall_mem_cons.mpr ⟨mw_548, List.forall_mem_cons.mpr ⟨mw_669, List.forall_mem_cons.mpr ⟨mw_670, List.forall_mem_cons.mpr ⟨mw_671, List.forall_mem_cons.mpr ⟨mw_672, List.forall_mem_cons.mpr ⟨mw_548, List.forall_mem_cons.mpr ⟨mw_673, List.forall_mem_cons.mpr ⟨mw_674, List.forall_mem_cons.mpr ⟨mw_675, List.forall_mem_cons.mpr ⟨mw_676, List.forall_mem_cons.mpr ⟨mw_548, List.forall_mem_cons.mpr ⟨mw_677, List.forall_mem_cons.mpr ⟨mw_678, List.forall_mem_cons.mpr ⟨mw_679, List.forall_mem_cons.mpr ⟨mw_680, List.forall_mem_cons.mpr ⟨mw_548, List.forall_mem_cons.mpr ⟨mw_681, List.forall_mem_cons.mpr ⟨mw_682, List.forall_mem_cons.mpr ⟨mw_683, List.forall_mem_cons.mpr ⟨mw_684, List.forall_mem_cons.mpr ⟨mw_548, List.forall_mem_cons.mpr ⟨mw_685, List.forall_mem_cons.mpr ⟨mw_686, List.forall_mem_cons.mpr ⟨mw_687, List.forall_mem_cons.mpr ⟨mw_688, List.forall_mem_cons.mpr ⟨mw_548, List.forall_mem_cons.mpr ⟨mw_689, List.forall_mem_cons.mpr ⟨mw_690, List.forall_mem_cons.mpr ⟨mw_691, List.forall_mem_cons.mpr ⟨mw_692, List.forall_mem_cons.mpr ⟨mw_548, List.forall_mem_cons.mpr ⟨mw_693, List.forall_mem_cons.mpr ⟨mw_694, List.forall_mem_cons.mpr ⟨mw_695, List.forall_mem_cons.mpr ⟨mw_696, List.forall_mem_cons.mpr ⟨mw_548, List.forall_mem_cons.mpr ⟨mw_697, List.forall_mem_cons.mpr ⟨mw_698, List.forall_mem_cons.mpr ⟨mw_699, List.forall_mem_cons.mpr ⟨mw_700, List.forall_mem_cons.mpr ⟨mw_548, List.forall_mem_cons.mpr ⟨mw_701, List.forall_mem_cons.mpr ⟨mw_702, List.forall_mem_cons.mpr ⟨mw_703, List.forall_mem_cons.mpr ⟨mw_704, List.forall_mem_cons.mpr ⟨mw_548, List.forall_mem_cons.mpr ⟨mw_705, List.forall_mem_cons.mpr ⟨mw_706, List.forall_mem_cons.mpr ⟨mw_707, List.forall_mem_cons.mpr ⟨mw_708, List.forall_mem_cons.mpr ⟨mw_548, List.forall_mem_cons.mpr ⟨mw_709, List.forall_mem_cons.mpr ⟨mw_710, List.forall_mem_cons.mpr ⟨mw_711, List.forall_mem_cons.mpr ⟨mw_712, List.forall_mem_cons.mpr ⟨mw_548, List.forall_mem_cons.mpr ⟨mw_713, List.forall_mem_cons.mpr ⟨mw_714, List.forall_mem_cons.mpr ⟨mw_715, List.forall_mem_cons.mpr ⟨mw_716, List.forall_mem_cons.mpr ⟨mw_548, List.forall_mem_cons.mpr ⟨mw_717, List.forall_mem_cons.mpr ⟨mw_718, List.forall_mem_cons.mpr ⟨mw_719, List.forall_mem_cons.mpr ⟨mw_720, List.forall_mem_cons.mpr ⟨mw_548, List.forall_mem_cons.mpr ⟨mw_721, List.forall_mem_cons.mpr ⟨mw_722, List.forall_mem_cons.mpr ⟨mw_723, List.forall_mem_cons.mpr ⟨mw_724, List.forall_mem_cons.mpr ⟨mw_548, List.forall_mem_cons.mpr ⟨mw_725, List.forall_mem_cons.mpr ⟨mw_726, List.forall_mem_cons.mpr ⟨mw_727, List.forall_mem_cons.mpr ⟨mw_728, List.forall_mem_cons.mpr ⟨mw_548, List.forall_mem_cons.mpr ⟨mw_729, List.forall_mem_cons.mpr ⟨mw_730, List.forall_mem_cons.mpr ⟨mw_731, List.forall_mem_cons.mpr ⟨mw_732, List.forall_mem_cons.mpr ⟨mw_548, List.forall_mem_cons.mpr ⟨mw_733, List.forall_mem_cons.mpr ⟨mw_734, List.forall_mem_cons.mpr ⟨mw_735, List.forall_mem_cons.mpr ⟨mw_736, List.forall_mem_cons.mpr ⟨mw_548, List.forall_mem_cons.mpr ⟨mw_737, List.forall_mem_cons.mpr ⟨mw_738, List.forall_mem_cons.mpr ⟨mw_739, List.forall_mem_cons.mpr ⟨mw_740, List.forall_mem_cons.mpr ⟨mw_548, List.forall_mem_cons.mpr ⟨mw_741, List.forall_mem_cons.mpr ⟨mw_742, List.forall_mem_cons.mpr ⟨mw_743, List.forall_mem_cons.mpr ⟨mw_744, List.forall_mem_cons.mpr ⟨mw_548, List.forall_mem_cons.mpr ⟨mw_745, List.forall_mem_cons.mpr ⟨mw_746, List.forall_mem_cons.mpr ⟨mw_747, List.forall_mem_cons.mpr ⟨mw_748, List.forall_mem_cons.mpr ⟨mw_548, List.forall_mem_cons.mpr ⟨mw_749, List.forall_mem_cons.mpr ⟨mw_750, List.forall_mem_cons.mpr ⟨mw_751, List.forall_mem_cons.mpr ⟨mw_752, List.forall_mem_cons.mpr ⟨mw_548, List.forall_mem_cons.mpr ⟨mw_753, fun _ h => absurd h List.not_mem_nil⟩⟩⟩⟩⟩⟩⟩⟩⟩⟩⟩⟩⟩⟩⟩⟩⟩⟩⟩⟩⟩⟩⟩⟩⟩⟩⟩⟩⟩⟩⟩⟩⟩⟩⟩⟩⟩⟩⟩⟩⟩⟩⟩⟩⟩⟩⟩⟩⟩⟩⟩⟩⟩⟩⟩⟩⟩⟩⟩⟩⟩⟩⟩⟩⟩⟩⟩⟩⟩⟩⟩⟩⟩⟩⟩⟩⟩⟩⟩⟩⟩⟩⟩⟩⟩⟩⟩⟩⟩⟩⟩⟩⟩⟩⟩⟩⟩⟩⟩⟩⟩⟩⟩⟩⟩⟩⟩⟩⟩⟩⟩⟩⟩⟩⟩⟩⟩⟩⟩⟩⟩⟩⟩⟩⟩⟩⟩⟩⟩⟩⟩⟩⟩⟩⟩⟩⟩⟩⟩⟩⟩⟩⟩⟩⟩⟩⟩⟩⟩⟩⟩⟩⟩⟩⟩⟩⟩⟩⟩⟩⟩⟩⟩⟩⟩⟩⟩⟩⟩⟩⟩⟩⟩⟩⟩⟩⟩⟩⟩⟩⟩⟩⟩⟩⟩⟩⟩⟩⟩⟩⟩⟩⟩⟩⟩⟩⟩⟩⟩⟩⟩⟩⟩⟩⟩⟩⟩⟩⟩⟩⟩⟩⟩⟩⟩⟩⟩⟩⟩⟩⟩⟩⟩⟩⟩⟩⟩⟩⟩⟩⟩⟩⟩⟩⟩⟩⟩⟩⟩⟩⟩⟩⟩⟩⟩⟩⟩⟩⟩⟩⟩⟩⟩⟩⟩⟩⟩⟩⟩⟩
theorem mw_754 : Cond.methodLink R_Mod 33 y_Mod_address ∈ lw_tbl := List.mem_of_getElem? (i := 909) (by decide +kernel)
theorem mw_755 : Cond.static y_Mod_address ∈ lw_tbl := List.mem_of_getElem? (i := 910) (by decide +kernel)
set_option maxRecDepth 100000 in
theorem mw_756 : Cond.code y_Mod_address b_Mod_address 2 (some .int) ∈ lw_tbl := List.mem_of_getElem? (i := 911) rfl
theorem mw_757 : Cond.methodLink R_Mod 100 y_Mod_in ∈ lw_tbl := List.mem_of_getElem? (i := 869) (by decide +kernel)
theorem mw_758 : Cond.static y_Mod_in ∈ lw_tbl := List.mem_of_getElem? (i := 870) (by decide +kernel)
set_option maxRecDepth 100000 in
theorem mw_759 : Cond.code y_Mod_in b_Mod_in 3 (some .boolean) ∈ lw_tbl := List.mem_of_getElem? (i := 871) rfl
theorem mw_760 : Cond.methodLink R_Mod 104 y_Mod_signed ∈ lw_tbl := List.mem_of_getElem? (i := 959) (by decide +kernel)
theorem mw_761 : Cond.static y_Mod_signed ∈ lw_tbl := List.mem_of_getElem? (i := 960) (by decide +kernel)
set_option maxRecDepth 100000 in
theorem mw_762 : Cond.code y_Mod_signed b_Mod_signed 2 (some .int) ∈ lw_tbl := List.mem_of_getElem? (i := 961) rfl
theorem mw_763 : Cond.methodLink R_Mod 107 y_Mod_hasRoom ∈ lw_tbl := List.mem_of_getElem? (i := 963) (by decide +kernel)
theorem mw_764 : Cond.static y_Mod_hasRoom ∈ lw_tbl := List.mem_of_getElem? (i := 964) (by decide +kernel)
set_option maxRecDepth 100000 in
theorem mw_765 : Cond.code y_Mod_hasRoom b_Mod_hasRoom 2 (some .boolean) ∈ lw_tbl := List.mem_of_getElem? (i := 965) rfl
theorem mw_766 : Cond.methodLink R_Mod 237 y_Mod_isPrefix ∈ lw_tbl := List.mem_of_getElem? (i := 928) (by decide +kernel)
theorem mw_767 : Cond.static y_Mod_isPrefix ∈ lw_tbl := List.mem_of_getElem? (i := 929) (by decide +kernel)
set_option maxRecDepth 100000 in
theorem mw_768 : Cond.code y_Mod_isPrefix b_Mod_isPrefix 1 (some .boolean) ∈ lw_tbl := List.mem_of_getElem? (i := 930) rfl
set_option maxRecDepth 100000 in
theorem wsx_Mod : ∀ w ∈ (pS pt_Mod).flatMap (wS R_Mod), w ∈ lw_tbl := List.forall_mem_cons.mpr ⟨mw_754, List.forall_mem_cons.mpr ⟨mw_755, List.forall_mem_cons.mpr ⟨mw_548, List.forall_mem_cons.mpr ⟨mw_756, List.forall_mem_cons.mpr ⟨mw_757, List.forall_mem_cons.mpr ⟨mw_758, List.forall_mem_cons.mpr ⟨mw_548, List.forall_mem_cons.mpr ⟨mw_759, List.forall_mem_cons.mpr ⟨mw_760, List.forall_mem_cons.mpr ⟨mw_761, List.forall_mem_cons.mpr ⟨mw_548, List.forall_mem_cons.mpr ⟨mw_762, List.forall_mem_cons.mpr ⟨mw_763, List.forall_mem_cons.mpr ⟨mw_764, List.forall_mem_cons.mpr ⟨mw_548, List.forall_mem_cons.mpr ⟨mw_765, List.forall_mem_cons.mpr ⟨mw_766, List.forall_mem_cons.mpr ⟨mw_767, List.forall_mem_cons.mpr ⟨mw_548, List.forall_mem_cons.mpr ⟨mw_768, fun _ h => absurd h List.not_mem_nil⟩⟩⟩⟩⟩⟩⟩⟩⟩⟩⟩⟩⟩⟩⟩⟩⟩⟩⟩⟩
theorem mw_769 : Cond.constant R_Mod 32 (65535) ∈ lw_tbl := List.mem_of_getElem? (i := 900) (by decide +kernel)
theorem mw_770 : Cond.constant R_Mod 57 (65280) ∈ lw_tbl := List.mem_of_getElem? (i := 982) (by decide +kernel)
theorem mw_771 : Cond.constant R_Mod 99 (32768) ∈ lw_tbl := List.mem_of_getElem? (i := 962) (by decide +kernel)
theorem mw_772 : Cond.constant R_Mod 282 (65536) ∈ lw_tbl := List.mem_of_getElem? (i := 1094) (by decide +kernel)
set_option maxRecDepth 100000 in
theorem wi_Mod : ∀ w ∈ (pI pt_Mod).map (wI R_Mod), w ∈ lw_tbl := List.forall_mem_cons.mpr ⟨mw_769, List.forall_mem_cons.mpr ⟨mw_770, List.forall_mem_cons.mpr ⟨mw_771, List.forall_mem_cons.mpr ⟨mw_772, fun _ h => absurd h List.not_mem_nil⟩⟩⟩⟩
theorem mw_773 : Cond.constantLong R_Mod 164 (65535) ∈ lw_tbl := List.mem_of_getElem? (i := 1047) (by decide +kernel)
theorem mw_774 : Cond.constantLong R_Mod 166 (65536) ∈ lw_tbl := List.mem_of_getElem? (i := 1052) (by decide +kernel)
theorem mw_775 : Cond.constantLong R_Mod 168 (255) ∈ lw_tbl := List.mem_of_getElem? (i := 1053) (by decide +kernel)
set_option maxRecDepth 100000 in
theorem wl_Mod : ∀ w ∈ (pL pt_Mod).map (wL R_Mod), w ∈ lw_tbl := List.forall_mem_cons.mpr ⟨mw_773, List.forall_mem_cons.mpr ⟨mw_774, List.forall_mem_cons.mpr ⟨mw_775, fun _ h => absurd h List.not_mem_nil⟩⟩⟩
theorem wp_Mod : ∀ w ∈ wP pt_Mod, w ∈ lw_tbl := List.forall_mem_append.mpr ⟨wf_Mod, List.forall_mem_append.mpr ⟨wv_Mod, List.forall_mem_append.mpr ⟨wsx_Mod, List.forall_mem_append.mpr ⟨wi_Mod, wl_Mod⟩⟩⟩⟩
set_option maxRecDepth 100000 in
theorem wf_Law : ∀ w ∈ (pF pt_Law).flatMap (wF R_Law), w ∈ lw_tbl := fun _ h => absurd h List.not_mem_nil
theorem mw_776 : Cond.methodLink R_Law 13 y_SC_poke ∈ lw_tbl := List.mem_of_getElem? (i := 381) (by decide +kernel)
theorem mw_777 : Cond.instanceMethod y_SC_poke ∈ lw_tbl := List.mem_of_getElem? (i := 382) (by decide +kernel)
theorem mw_778 : Cond.selects R_SC y_SC_poke y_SC_poke ∈ lw_tbl := List.mem_of_getElem? (i := 383) (by decide +kernel)
set_option maxRecDepth 100000 in
theorem mw_779 : Cond.code y_SC_poke b_SC_poke 3 (some .boolean) ∈ lw_tbl := List.mem_of_getElem? (i := 384) rfl
theorem mw_780 : Cond.methodLink R_Law 17 y_Mod_poke ∈ lw_tbl := List.mem_of_getElem? (i := 1099) (by decide +kernel)
theorem mw_781 : Cond.instanceMethod y_Mod_poke ∈ lw_tbl := List.mem_of_getElem? (i := 1100) (by decide +kernel)
theorem mw_782 : Cond.selects R_Mod y_Mod_poke y_Mod_poke ∈ lw_tbl := List.mem_of_getElem? (i := 1101) (by decide +kernel)
set_option maxRecDepth 100000 in
theorem mw_783 : Cond.code y_Mod_poke b_Mod_poke 3 (some .boolean) ∈ lw_tbl := List.mem_of_getElem? (i := 1102) rfl
theorem mw_784 : Cond.methodLink R_Law 18 y_SC_load ∈ lw_tbl := List.mem_of_getElem? (i := 395) (by decide +kernel)
theorem mw_785 : Cond.instanceMethod y_SC_load ∈ lw_tbl := List.mem_of_getElem? (i := 396) (by decide +kernel)
theorem mw_786 : Cond.selects R_SC y_SC_load y_SC_load ∈ lw_tbl := List.mem_of_getElem? (i := 397) (by decide +kernel)
set_option maxRecDepth 100000 in
theorem mw_787 : Cond.code y_SC_load b_SC_load 4 (some .boolean) ∈ lw_tbl := List.mem_of_getElem? (i := 398) rfl
theorem mw_788 : Cond.methodLink R_Law 21 y_Mod_load ∈ lw_tbl := List.mem_of_getElem? (i := 1103) (by decide +kernel)
theorem mw_789 : Cond.instanceMethod y_Mod_load ∈ lw_tbl := List.mem_of_getElem? (i := 1104) (by decide +kernel)
theorem mw_790 : Cond.selects R_Mod y_Mod_load y_Mod_load ∈ lw_tbl := List.mem_of_getElem? (i := 1105) (by decide +kernel)
set_option maxRecDepth 100000 in
theorem mw_791 : Cond.code y_Mod_load b_Mod_load 4 (some .boolean) ∈ lw_tbl := List.mem_of_getElem? (i := 1106) rfl
theorem mw_792 : Cond.methodLink R_Law 22 y_SC_seek ∈ lw_tbl := List.mem_of_getElem? (i := 399) (by decide +kernel)
theorem mw_793 : Cond.instanceMethod y_SC_seek ∈ lw_tbl := List.mem_of_getElem? (i := 400) (by decide +kernel)
theorem mw_794 : Cond.selects R_SC y_SC_seek y_SC_seek ∈ lw_tbl := List.mem_of_getElem? (i := 401) (by decide +kernel)
set_option maxRecDepth 100000 in
theorem mw_795 : Cond.code y_SC_seek b_SC_seek 2 (some .boolean) ∈ lw_tbl := List.mem_of_getElem? (i := 402) rfl
theorem mw_796 : Cond.methodLink R_Law 26 y_Mod_seek ∈ lw_tbl := List.mem_of_getElem? (i := 1107) (by decide +kernel)
theorem mw_797 : Cond.instanceMethod y_Mod_seek ∈ lw_tbl := List.mem_of_getElem? (i := 1108) (by decide +kernel)
theorem mw_798 : Cond.selects R_Mod y_Mod_seek y_Mod_seek ∈ lw_tbl := List.mem_of_getElem? (i := 1109) (by decide +kernel)
set_option maxRecDepth 100000 in
theorem mw_799 : Cond.code y_Mod_seek b_Mod_seek 2 (some .boolean) ∈ lw_tbl := List.mem_of_getElem? (i := 1110) rfl
theorem mw_800 : Cond.methodLink R_Law 27 y_SC_peek ∈ lw_tbl := List.mem_of_getElem? (i := 403) (by decide +kernel)
theorem mw_801 : Cond.instanceMethod y_SC_peek ∈ lw_tbl := List.mem_of_getElem? (i := 404) (by decide +kernel)
theorem mw_802 : Cond.selects R_SC y_SC_peek y_SC_peek ∈ lw_tbl := List.mem_of_getElem? (i := 405) (by decide +kernel)
set_option maxRecDepth 100000 in
theorem mw_803 : Cond.code y_SC_peek b_SC_peek 2 (some .int) ∈ lw_tbl := List.mem_of_getElem? (i := 406) rfl
theorem mw_804 : Cond.methodLink R_Law 31 y_Mod_peek ∈ lw_tbl := List.mem_of_getElem? (i := 1111) (by decide +kernel)
theorem mw_805 : Cond.instanceMethod y_Mod_peek ∈ lw_tbl := List.mem_of_getElem? (i := 1112) (by decide +kernel)
theorem mw_806 : Cond.selects R_Mod y_Mod_peek y_Mod_peek ∈ lw_tbl := List.mem_of_getElem? (i := 1113) (by decide +kernel)
set_option maxRecDepth 100000 in
theorem mw_807 : Cond.code y_Mod_peek b_Mod_peek 2 (some .int) ∈ lw_tbl := List.mem_of_getElem? (i := 1114) rfl
theorem mw_808 : Cond.methodLink R_Law 32 y_SC_step ∈ lw_tbl := List.mem_of_getElem? (i := 411) (by decide +kernel)
theorem mw_809 : Cond.instanceMethod y_SC_step ∈ lw_tbl := List.mem_of_getElem? (i := 412) (by decide +kernel)
theorem mw_810 : Cond.selects R_SC y_SC_step y_SC_step ∈ lw_tbl := List.mem_of_getElem? (i := 413) (by decide +kernel)
set_option maxRecDepth 100000 in
theorem mw_811 : Cond.code y_SC_step b_SC_step 3 (some .boolean) ∈ lw_tbl := List.mem_of_getElem? (i := 414) rfl
theorem mw_812 : Cond.methodLink R_Law 35 y_Mod_step ∈ lw_tbl := List.mem_of_getElem? (i := 865) (by decide +kernel)
theorem mw_813 : Cond.instanceMethod y_Mod_step ∈ lw_tbl := List.mem_of_getElem? (i := 866) (by decide +kernel)
theorem mw_814 : Cond.selects R_Mod y_Mod_step y_Mod_step ∈ lw_tbl := List.mem_of_getElem? (i := 867) (by decide +kernel)
set_option maxRecDepth 100000 in
theorem mw_815 : Cond.code y_Mod_step b_Mod_step 3 (some .boolean) ∈ lw_tbl := List.mem_of_getElem? (i := 868) rfl
theorem mw_816 : Cond.methodLink R_Law 36 y_SC_register ∈ lw_tbl := List.mem_of_getElem? (i := 707) (by decide +kernel)
theorem mw_817 : Cond.instanceMethod y_SC_register ∈ lw_tbl := List.mem_of_getElem? (i := 708) (by decide +kernel)
theorem mw_818 : Cond.selects R_SC y_SC_register y_SC_register ∈ lw_tbl := List.mem_of_getElem? (i := 709) (by decide +kernel)
set_option maxRecDepth 100000 in
theorem mw_819 : Cond.code y_SC_register b_SC_register 2 (some .int) ∈ lw_tbl := List.mem_of_getElem? (i := 710) rfl
theorem mw_820 : Cond.methodLink R_Law 39 y_Mod_register ∈ lw_tbl := List.mem_of_getElem? (i := 1115) (by decide +kernel)
theorem mw_821 : Cond.instanceMethod y_Mod_register ∈ lw_tbl := List.mem_of_getElem? (i := 1116) (by decide +kernel)
theorem mw_822 : Cond.selects R_Mod y_Mod_register y_Mod_register ∈ lw_tbl := List.mem_of_getElem? (i := 1117) (by decide +kernel)
set_option maxRecDepth 100000 in
theorem mw_823 : Cond.code y_Mod_register b_Mod_register 2 (some .int) ∈ lw_tbl := List.mem_of_getElem? (i := 1118) rfl
theorem mw_824 : Cond.methodLink R_Law 40 y_SC_put ∈ lw_tbl := List.mem_of_getElem? (i := 711) (by decide +kernel)
theorem mw_825 : Cond.instanceMethod y_SC_put ∈ lw_tbl := List.mem_of_getElem? (i := 712) (by decide +kernel)
theorem mw_826 : Cond.selects R_SC y_SC_put y_SC_put ∈ lw_tbl := List.mem_of_getElem? (i := 713) (by decide +kernel)
set_option maxRecDepth 100000 in
theorem mw_827 : Cond.code y_SC_put b_SC_put 4 (some .boolean) ∈ lw_tbl := List.mem_of_getElem? (i := 714) rfl
theorem mw_828 : Cond.methodLink R_Law 43 y_Mod_put ∈ lw_tbl := List.mem_of_getElem? (i := 1119) (by decide +kernel)
theorem mw_829 : Cond.instanceMethod y_Mod_put ∈ lw_tbl := List.mem_of_getElem? (i := 1120) (by decide +kernel)
theorem mw_830 : Cond.selects R_Mod y_Mod_put y_Mod_put ∈ lw_tbl := List.mem_of_getElem? (i := 1121) (by decide +kernel)
set_option maxRecDepth 100000 in
theorem mw_831 : Cond.code y_Mod_put b_Mod_put 3 (some .boolean) ∈ lw_tbl := List.mem_of_getElem? (i := 1122) rfl
theorem mw_832 : Cond.methodLink R_Law 44 y_SC_halted ∈ lw_tbl := List.mem_of_getElem? (i := 716) (by decide +kernel)
theorem mw_833 : Cond.instanceMethod y_SC_halted ∈ lw_tbl := List.mem_of_getElem? (i := 717) (by decide +kernel)
theorem mw_834 : Cond.selects R_SC y_SC_halted y_SC_halted ∈ lw_tbl := List.mem_of_getElem? (i := 718) (by decide +kernel)
set_option maxRecDepth 100000 in
theorem mw_835 : Cond.code y_SC_halted b_SC_halted 1 (some .boolean) ∈ lw_tbl := List.mem_of_getElem? (i := 719) rfl
theorem mw_836 : Cond.methodLink R_Law 48 y_Mod_halted ∈ lw_tbl := List.mem_of_getElem? (i := 1123) (by decide +kernel)
theorem mw_837 : Cond.instanceMethod y_Mod_halted ∈ lw_tbl := List.mem_of_getElem? (i := 1124) (by decide +kernel)
theorem mw_838 : Cond.selects R_Mod y_Mod_halted y_Mod_halted ∈ lw_tbl := List.mem_of_getElem? (i := 1125) (by decide +kernel)
set_option maxRecDepth 100000 in
theorem mw_839 : Cond.code y_Mod_halted b_Mod_halted 1 (some .boolean) ∈ lw_tbl := List.mem_of_getElem? (i := 1126) rfl
theorem mw_840 : Cond.methodLink R_Law 49 y_SC_key ∈ lw_tbl := List.mem_of_getElem? (i := 720) (by decide +kernel)
theorem mw_841 : Cond.instanceMethod y_SC_key ∈ lw_tbl := List.mem_of_getElem? (i := 721) (by decide +kernel)
theorem mw_842 : Cond.selects R_SC y_SC_key y_SC_key ∈ lw_tbl := List.mem_of_getElem? (i := 722) (by decide +kernel)
set_option maxRecDepth 100000 in
theorem mw_843 : Cond.code y_SC_key b_SC_key 2 (some .boolean) ∈ lw_tbl := List.mem_of_getElem? (i := 723) rfl
theorem mw_844 : Cond.methodLink R_Law 52 y_Mod_key ∈ lw_tbl := List.mem_of_getElem? (i := 1127) (by decide +kernel)
theorem mw_845 : Cond.instanceMethod y_Mod_key ∈ lw_tbl := List.mem_of_getElem? (i := 1128) (by decide +kernel)
theorem mw_846 : Cond.selects R_Mod y_Mod_key y_Mod_key ∈ lw_tbl := List.mem_of_getElem? (i := 1129) (by decide +kernel)
set_option maxRecDepth 100000 in
theorem mw_847 : Cond.code y_Mod_key b_Mod_key 2 (some .boolean) ∈ lw_tbl := List.mem_of_getElem? (i := 1130) rfl
theorem mw_848 : Cond.methodLink R_Law 53 y_SC_transfer ∈ lw_tbl := List.mem_of_getElem? (i := 728) (by decide +kernel)
theorem mw_849 : Cond.instanceMethod y_SC_transfer ∈ lw_tbl := List.mem_of_getElem? (i := 729) (by decide +kernel)
theorem mw_850 : Cond.selects R_SC y_SC_transfer y_SC_transfer ∈ lw_tbl := List.mem_of_getElem? (i := 730) (by decide +kernel)
set_option maxRecDepth 100000 in
theorem mw_851 : Cond.code y_SC_transfer b_SC_transfer 2 (some .boolean) ∈ lw_tbl := List.mem_of_getElem? (i := 731) rfl
theorem mw_852 : Cond.methodLink R_Law 56 y_Mod_transfer ∈ lw_tbl := List.mem_of_getElem? (i := 1131) (by decide +kernel)
theorem mw_853 : Cond.instanceMethod y_Mod_transfer ∈ lw_tbl := List.mem_of_getElem? (i := 1132) (by decide +kernel)
theorem mw_854 : Cond.selects R_Mod y_Mod_transfer y_Mod_transfer ∈ lw_tbl := List.mem_of_getElem? (i := 1133) (by decide +kernel)
set_option maxRecDepth 100000 in
theorem mw_855 : Cond.code y_Mod_transfer b_Mod_transfer 2 (some .boolean) ∈ lw_tbl := List.mem_of_getElem? (i := 1134) rfl
theorem mw_856 : Cond.methodLink R_Law 57 y_SC_lines ∈ lw_tbl := List.mem_of_getElem? (i := 738) (by decide +kernel)
theorem mw_857 : Cond.instanceMethod y_SC_lines ∈ lw_tbl := List.mem_of_getElem? (i := 739) (by decide +kernel)
theorem mw_858 : Cond.selects R_SC y_SC_lines y_SC_lines ∈ lw_tbl := List.mem_of_getElem? (i := 740) (by decide +kernel)
set_option maxRecDepth 100000 in
theorem mw_859 : Cond.code y_SC_lines b_SC_lines 2 (some .int) ∈ lw_tbl := List.mem_of_getElem? (i := 741) rfl
theorem mw_860 : Cond.methodLink R_Law 60 y_Mod_lines ∈ lw_tbl := List.mem_of_getElem? (i := 1135) (by decide +kernel)
theorem mw_861 : Cond.instanceMethod y_Mod_lines ∈ lw_tbl := List.mem_of_getElem? (i := 1136) (by decide +kernel)
theorem mw_862 : Cond.selects R_Mod y_Mod_lines y_Mod_lines ∈ lw_tbl := List.mem_of_getElem? (i := 1137) (by decide +kernel)
set_option maxRecDepth 100000 in
theorem mw_863 : Cond.code y_Mod_lines b_Mod_lines 2 (some .int) ∈ lw_tbl := List.mem_of_getElem? (i := 1138) rfl
theorem mw_864 : Cond.methodLink R_Law 61 y_SC_count ∈ lw_tbl := List.mem_of_getElem? (i := 742) (by decide +kernel)
theorem mw_865 : Cond.instanceMethod y_SC_count ∈ lw_tbl := List.mem_of_getElem? (i := 743) (by decide +kernel)
theorem mw_866 : Cond.selects R_SC y_SC_count y_SC_count ∈ lw_tbl := List.mem_of_getElem? (i := 744) (by decide +kernel)
set_option maxRecDepth 100000 in
theorem mw_867 : Cond.code y_SC_count b_SC_count 1 (some .int) ∈ lw_tbl := List.mem_of_getElem? (i := 745) rfl
theorem mw_868 : Cond.methodLink R_Law 65 y_Mod_count ∈ lw_tbl := List.mem_of_getElem? (i := 1139) (by decide +kernel)
theorem mw_869 : Cond.instanceMethod y_Mod_count ∈ lw_tbl := List.mem_of_getElem? (i := 1140) (by decide +kernel)
theorem mw_870 : Cond.selects R_Mod y_Mod_count y_Mod_count ∈ lw_tbl := List.mem_of_getElem? (i := 1141) (by decide +kernel)
set_option maxRecDepth 100000 in
theorem mw_871 : Cond.code y_Mod_count b_Mod_count 1 (some .int) ∈ lw_tbl := List.mem_of_getElem? (i := 1142) rfl
theorem mw_872 : Cond.methodLink R_Law 66 y_SC_interrupts ∈ lw_tbl := List.mem_of_getElem? (i := 746) (by decide +kernel)
theorem mw_873 : Cond.instanceMethod y_SC_interrupts ∈ lw_tbl := List.mem_of_getElem? (i := 747) (by decide +kernel)
theorem mw_874 : Cond.selects R_SC y_SC_interrupts y_SC_interrupts ∈ lw_tbl := List.mem_of_getElem? (i := 748) (by decide +kernel)
set_option maxRecDepth 100000 in
theorem mw_875 : Cond.code y_SC_interrupts b_SC_interrupts 1 (some .int) ∈ lw_tbl := List.mem_of_getElem? (i := 749) rfl
theorem mw_876 : Cond.methodLink R_Law 69 y_Mod_interrupts ∈ lw_tbl := List.mem_of_getElem? (i := 1143) (by decide +kernel)
theorem mw_877 : Cond.instanceMethod y_Mod_interrupts ∈ lw_tbl := List.mem_of_getElem? (i := 1144) (by decide +kernel)
theorem mw_878 : Cond.selects R_Mod y_Mod_interrupts y_Mod_interrupts ∈ lw_tbl := List.mem_of_getElem? (i := 1145) (by decide +kernel)
set_option maxRecDepth 100000 in
theorem mw_879 : Cond.code y_Mod_interrupts b_Mod_interrupts 1 (some .int) ∈ lw_tbl := List.mem_of_getElem? (i := 1146) rfl
set_option maxRecDepth 100000 in
theorem wv_Law : ∀ w ∈ (pV pt_Law).flatMap (wV R_Law), w ∈ lw_tbl := List.forall_mem_cons.mpr ⟨mw_776, List.forall_mem_cons.mpr ⟨mw_777, List.forall_mem_cons.mpr ⟨mw_778, List.forall_mem_cons.mpr ⟨mw_150, List.forall_mem_cons.mpr ⟨mw_779, List.forall_mem_cons.mpr ⟨mw_780, List.forall_mem_cons.mpr ⟨mw_781, List.forall_mem_cons.mpr ⟨mw_782, List.forall_mem_cons.mpr ⟨mw_548, List.forall_mem_cons.mpr ⟨mw_783, List.forall_mem_cons.mpr ⟨mw_784, List.forall_mem_cons.mpr ⟨mw_785, List.forall_mem_cons.mpr ⟨mw_786, List.forall_mem_cons.mpr ⟨mw_150, List.forall_mem_cons.mpr ⟨mw_787, List.forall_mem_cons.mpr ⟨mw_788, List.forall_mem_cons.mpr ⟨mw_789, List.forall_mem_cons.mpr ⟨mw_790, List.forall_mem_cons.mpr ⟨mw_548, List.forall_mem_cons.mpr ⟨mw_791, List.forall_mem_cons.mpr ⟨mw_792, List.forall_mem_cons.mpr ⟨mw_793, List.forall_mem_cons.mpr ⟨mw_794, List.forall_mem_cons.mpr ⟨mw_150, List.forall_mem_cons.mpr ⟨mw_795, List.forall_mem_cons.mpr ⟨mw_796, List.forall_mem_cons.mpr ⟨mw_797, List.forall_mem_cons.mpr ⟨mw_798, List.forall_mem_cons.mpr ⟨mw_548, List.forall_mem_cons.mpr ⟨mw_799, List.forall_mem_cons.mpr ⟨mw_800, List.forall_mem_cons.mpr ⟨mw_801, List.forall_mem_cons.mpr ⟨mw_802, List.forall_mem_cons.mpr ⟨mw_150, List.forall_mem_cons.mpr ⟨mw_803, List.forall_mem_cons.mpr ⟨mw_804, List.forall_mem_cons.mpr ⟨mw_805, List.forall_mem_cons.mpr ⟨mw_806, List.forall_mem_cons.mpr ⟨mw_548, List.forall_mem_cons.mpr ⟨mw_807, List.forall_mem_cons.mpr ⟨mw_808, List.forall_mem_cons.mpr ⟨mw_809, List.forall_mem_cons.mpr ⟨mw_810, List.forall_mem_cons.mpr ⟨mw_150, List.forall_mem_cons.mpr ⟨mw_811, List.forall_mem_cons.mpr ⟨mw_812, List.forall_mem_cons.mpr ⟨mw_813, List.forall_mem_cons.mpr ⟨mw_814, List.forall_mem_cons.mpr ⟨mw_548, List.forall_mem_cons.mpr ⟨mw_815, List.forall_mem_cons.mpr ⟨mw_816, List.forall_mem_cons.mpr ⟨mw_817, List.forall_mem_cons.mpr ⟨mw_818, List.forall_mem_cons.mpr ⟨mw_150, List.forall_mem_cons.mpr ⟨mw_819, List.forall_mem_cons.mpr ⟨mw_820, List.forall_mem_cons.mpr ⟨mw_821, List.forall_mem_cons.mpr ⟨mw_822, List.forall_mem_cons.mpr ⟨mw_548, List.forall_mem_cons.mpr ⟨mw_823, List.forall_mem_cons.mpr ⟨mw_824, List.forall_mem_cons.mpr ⟨mw_825, List.forall_mem_cons.mpr ⟨mw_826, List.forall_mem_cons.mpr ⟨mw_150, List.forall_mem_cons.mpr ⟨mw_827, List.forall_mem_cons.mpr ⟨mw_828, List.forall_mem_cons.mpr ⟨mw_829, List.forall_mem_cons.mpr ⟨mw_830, List.forall_mem_cons.mpr ⟨mw_548, List.forall_mem_cons.mpr ⟨mw_831, List.forall_mem_cons.mpr ⟨mw_832, List.forall_mem_cons.mpr ⟨mw_833, List.forall_mem_cons.mpr ⟨mw_834, List.forall_mem_cons.mpr ⟨mw_150, List.forall_mem_cons.mpr ⟨mw_835, List.forall_mem_cons.mpr ⟨mw_836, List.forall_mem_cons.mpr ⟨mw_837, List.forall_mem_cons.mpr ⟨mw_838, List.forall_mem_cons.mpr ⟨mw_548, List.forall_mem_cons.mpr ⟨mw_839, List.forall_mem_cons.mpr ⟨mw_840, List.forall_mem_cons.mpr ⟨mw_841, List.forall_mem_cons.mpr ⟨mw_842, List.forall_mem_cons.mpr ⟨mw_150, List.forall_mem_cons.mpr ⟨mw_843, List.forall_mem_cons.mpr ⟨mw_844, List.forall_mem_cons.mpr ⟨mw_845, List.forall_mem_cons.mpr ⟨mw_846, List.forall_mem_cons.mpr ⟨mw_548, List.forall_mem_cons.mpr ⟨mw_847, List.forall_mem_cons.mpr ⟨mw_848, List.forall_mem_cons.mpr ⟨mw_849, List.forall_mem_cons.mpr ⟨mw_850, List.forall_mem_cons.mpr ⟨mw_150, List.forall_mem_cons.mpr ⟨mw_851, List.forall_mem_cons.mpr ⟨mw_852, List.forall_mem_cons.mpr ⟨mw_853, List.forall_mem_cons.mpr ⟨mw_854, List.forall_mem_cons.mpr ⟨mw_548, List.forall_mem_cons.mpr ⟨mw_855, List.forall_mem_cons.mpr ⟨mw_856, List.forall_mem_cons.mpr ⟨mw_857, List.forall_mem_cons.mpr ⟨mw_858, List.forall_mem_cons.mpr ⟨mw_150, List.forall_mem_cons.mpr ⟨mw_859, List.forall_mem_cons.mpr ⟨mw_860, List.forall_mem_cons.mpr ⟨mw_861, List.forall_mem_cons.mpr ⟨mw_862, List.forall_mem_cons.mpr ⟨mw_548, List.forall_mem_cons.mpr ⟨mw_863, List.forall_mem_cons.mpr ⟨mw_864, List.forall_mem_cons.mpr ⟨mw_865, List.forall_mem_cons.mpr ⟨mw_866, List.forall_mem_cons.mpr ⟨mw_150, List.forall_mem_cons.mpr ⟨mw_867, List.forall_mem_cons.mpr ⟨mw_868, List.forall_mem_cons.mpr ⟨mw_869, List.forall_mem_cons.mpr ⟨mw_870, List.forall_mem_cons.mpr ⟨mw_548, List.forall_mem_cons.mpr ⟨mw_871, List.forall_mem_cons.mpr ⟨mw_872, List.forall_mem_cons.mpr ⟨mw_873, List.forall_mem_cons.mpr ⟨mw_874, List.forall_mem_cons.mpr ⟨mw_150, List.forall_mem_cons.mpr ⟨mw_875, List.forall_mem_cons.mpr ⟨mw_876, List.forall_mem_cons.mpr ⟨mw_877, List.forall_mem_cons.mpr ⟨mw_878, List.forall_mem_cons.mpr ⟨mw_548, List.forall_mem_cons.mpr ⟨mw_879, fun _ h => absurd h List.not_mem_nil⟩⟩⟩⟩⟩⟩⟩⟩⟩⟩⟩⟩⟩⟩⟩⟩⟩⟩⟩⟩⟩⟩⟩⟩⟩⟩⟩⟩⟩⟩⟩⟩⟩⟩⟩⟩⟩⟩⟩⟩⟩⟩⟩⟩⟩⟩⟩⟩⟩⟩⟩⟩⟩⟩⟩⟩⟩⟩⟩⟩⟩⟩⟩⟩⟩⟩⟩⟩⟩⟩⟩⟩⟩⟩⟩⟩⟩⟩⟩⟩⟩⟩⟩⟩⟩⟩⟩⟩⟩⟩⟩⟩⟩⟩⟩⟩⟩⟩⟩⟩⟩⟩⟩⟩⟩⟩⟩⟩⟩⟩⟩⟩⟩⟩⟩⟩⟩⟩⟩⟩⟩⟩⟩⟩⟩⟩⟩⟩⟩⟩
set_option maxRecDepth 100000 in
theorem wsx_Law : ∀ w ∈ (pS pt_Law).flatMap (wS R_Law), w ∈ lw_tbl := fun _ h => absurd h List.not_mem_nil
set_option maxRecDepth 100000 in
theorem wi_Law : ∀ w ∈ (pI pt_Law).map (wI R_Law), w ∈ lw_tbl := fun _ h => absurd h List.not_mem_nil
set_option maxRecDepth 100000 in
theorem wl_Law : ∀ w ∈ (pL pt_Law).map (wL R_Law), w ∈ lw_tbl := fun _ h => absurd h List.not_mem_nil
theorem wp_Law : ∀ w ∈ wP pt_Law, w ∈ lw_tbl := List.forall_mem_append.mpr ⟨wf_Law, List.forall_mem_append.mpr ⟨wv_Law, List.forall_mem_append.mpr ⟨wsx_Law, List.forall_mem_append.mpr ⟨wi_Law, wl_Law⟩⟩⟩⟩
theorem WS_in {w : Cond} (h : w ∈ WS) : w ∈ lw_tbl := by
  rcases List.mem_append.mp h with h | h
  · obtain ⟨r, hr, hw⟩ := List.mem_flatMap.mp h
    have key : ∀ r ∈ classes, ∀ w ∈ u_ws r.1 r.2.1 r.2.2, w ∈ lw_tbl := List.forall_mem_cons.mpr ⟨ul_SC, List.forall_mem_cons.mpr ⟨ul_Mem, List.forall_mem_cons.mpr ⟨ul_Reg, List.forall_mem_cons.mpr ⟨ul_Fla, List.forall_mem_cons.mpr ⟨ul_Ctl, List.forall_mem_cons.mpr ⟨ul_Tim, List.forall_mem_cons.mpr ⟨ul_Key, List.forall_mem_cons.mpr ⟨ul_Cha, List.forall_mem_cons.mpr ⟨ul_Por, List.forall_mem_cons.mpr ⟨ul_Dec, List.forall_mem_cons.mpr ⟨ul_Pro, List.forall_mem_cons.mpr ⟨ul_Mod, fun _ h => absurd h List.not_mem_nil⟩⟩⟩⟩⟩⟩⟩⟩⟩⟩⟩⟩
    exact key r hr w hw
  · obtain ⟨r, hr, hw⟩ := List.mem_flatMap.mp h
    have key : ∀ r ∈ pts, ∀ w ∈ wP r, w ∈ lw_tbl := List.forall_mem_cons.mpr ⟨wp_SC, List.forall_mem_cons.mpr ⟨wp_Mem, List.forall_mem_cons.mpr ⟨wp_Reg, List.forall_mem_cons.mpr ⟨wp_Fla, List.forall_mem_cons.mpr ⟨wp_Ctl, List.forall_mem_cons.mpr ⟨wp_Tim, List.forall_mem_cons.mpr ⟨wp_Key, List.forall_mem_cons.mpr ⟨wp_Cha, List.forall_mem_cons.mpr ⟨wp_Por, List.forall_mem_cons.mpr ⟨wp_Dec, List.forall_mem_cons.mpr ⟨wp_Pro, List.forall_mem_cons.mpr ⟨wp_Mod, List.forall_mem_cons.mpr ⟨wp_Law, fun _ h => absurd h List.not_mem_nil⟩⟩⟩⟩⟩⟩⟩⟩⟩⟩⟩⟩⟩
    exact key r hr w hw
