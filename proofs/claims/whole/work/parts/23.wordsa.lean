theorem mw_0 : Cond.laysFinal R_SC "SmallComputer" "memory" "LSmallComputer$Memory;" ∈ lw_tbl := List.mem_of_getElem? (i := 362) (by decide +kernel)
theorem mw_1 : Cond.laysFinal R_SC "SmallComputer" "registers" "LSmallComputer$Registers;" ∈ lw_tbl := List.mem_of_getElem? (i := 364) (by decide +kernel)
theorem mw_2 : Cond.laysFinal R_SC "SmallComputer" "flags" "LSmallComputer$Flags;" ∈ lw_tbl := List.mem_of_getElem? (i := 366) (by decide +kernel)
theorem mw_3 : Cond.laysFinal R_SC "SmallComputer" "controller" "LSmallComputer$Controller;" ∈ lw_tbl := List.mem_of_getElem? (i := 368) (by decide +kernel)
theorem mw_4 : Cond.laysFinal R_SC "SmallComputer" "timer" "LSmallComputer$Timer;" ∈ lw_tbl := List.mem_of_getElem? (i := 370) (by decide +kernel)
theorem mw_5 : Cond.laysFinal R_SC "SmallComputer" "keyboard" "LSmallComputer$Keyboard;" ∈ lw_tbl := List.mem_of_getElem? (i := 372) (by decide +kernel)
theorem mw_6 : Cond.laysFinal R_SC "SmallComputer" "channel" "LSmallComputer$Channel;" ∈ lw_tbl := List.mem_of_getElem? (i := 374) (by decide +kernel)
theorem mw_7 : Cond.laysFinal R_SC "SmallComputer" "processor" "LSmallComputer$Processor;" ∈ lw_tbl := List.mem_of_getElem? (i := 376) (by decide +kernel)
theorem mw_8 : Cond.lays R_SC "SmallComputer" "place" "I" ∈ lw_tbl := List.mem_of_getElem? (i := 378) (by decide +kernel)
set_option maxRecDepth 100000 in
theorem ul_SC : ∀ w ∈ u_ws R_SC F_SC 9, w ∈ lw_tbl := List.forall_mem_cons.mpr ⟨mw_0, List.forall_mem_cons.mpr ⟨mw_1, List.forall_mem_cons.mpr ⟨mw_2, List.forall_mem_cons.mpr ⟨mw_3, List.forall_mem_cons.mpr ⟨mw_4, List.forall_mem_cons.mpr ⟨mw_5, List.forall_mem_cons.mpr ⟨mw_6, List.forall_mem_cons.mpr ⟨mw_7, List.forall_mem_cons.mpr ⟨mw_8, fun _ h => absurd h List.not_mem_nil⟩⟩⟩⟩⟩⟩⟩⟩⟩
theorem mw_9 : Cond.laysFinal R_Mem "SmallComputer$Memory" "bytes" "[I" ∈ lw_tbl := List.mem_of_getElem? (i := 109) (by decide +kernel)
set_option maxRecDepth 100000 in
theorem ul_Mem : ∀ w ∈ u_ws R_Mem F_Mem 1, w ∈ lw_tbl := List.forall_mem_cons.mpr ⟨mw_9, fun _ h => absurd h List.not_mem_nil⟩
theorem mw_10 : Cond.laysFinal R_Reg "SmallComputer$Registers" "words" "[I" ∈ lw_tbl := List.mem_of_getElem? (i := 131) (by decide +kernel)
theorem mw_11 : Cond.laysFinal R_Reg "SmallComputer$Registers" "segments" "[I" ∈ lw_tbl := List.mem_of_getElem? (i := 133) (by decide +kernel)
theorem mw_12 : Cond.lays R_Reg "SmallComputer$Registers" "ip" "I" ∈ lw_tbl := List.mem_of_getElem? (i := 135) (by decide +kernel)
set_option maxRecDepth 100000 in
theorem ul_Reg : ∀ w ∈ u_ws R_Reg F_Reg 3, w ∈ lw_tbl := List.forall_mem_cons.mpr ⟨mw_10, List.forall_mem_cons.mpr ⟨mw_11, List.forall_mem_cons.mpr ⟨mw_12, fun _ h => absurd h List.not_mem_nil⟩⟩⟩
theorem mw_13 : Cond.lays R_Fla "SmallComputer$Flags" "word" "I" ∈ lw_tbl := List.mem_of_getElem? (i := 147) (by decide +kernel)
set_option maxRecDepth 100000 in
theorem ul_Fla : ∀ w ∈ u_ws R_Fla F_Fla 1, w ∈ lw_tbl := List.forall_mem_cons.mpr ⟨mw_13, fun _ h => absurd h List.not_mem_nil⟩
theorem mw_14 : Cond.lays R_Ctl "SmallComputer$Controller" "requested" "I" ∈ lw_tbl := List.mem_of_getElem? (i := 164) (by decide +kernel)
theorem mw_15 : Cond.lays R_Ctl "SmallComputer$Controller" "inService" "I" ∈ lw_tbl := List.mem_of_getElem? (i := 166) (by decide +kernel)
theorem mw_16 : Cond.lays R_Ctl "SmallComputer$Controller" "masked" "I" ∈ lw_tbl := List.mem_of_getElem? (i := 168) (by decide +kernel)
theorem mw_17 : Cond.lays R_Ctl "SmallComputer$Controller" "showsInService" "Z" ∈ lw_tbl := List.mem_of_getElem? (i := 170) (by decide +kernel)
set_option maxRecDepth 100000 in
theorem ul_Ctl : ∀ w ∈ u_ws R_Ctl F_Ctl 4, w ∈ lw_tbl := List.forall_mem_cons.mpr ⟨mw_14, List.forall_mem_cons.mpr ⟨mw_15, List.forall_mem_cons.mpr ⟨mw_16, List.forall_mem_cons.mpr ⟨mw_17, fun _ h => absurd h List.not_mem_nil⟩⟩⟩⟩
theorem mw_18 : Cond.laysFinal R_Tim "SmallComputer$Timer" "controller" "LSmallComputer$Controller;" ∈ lw_tbl := List.mem_of_getElem? (i := 187) (by decide +kernel)
theorem mw_19 : Cond.lays R_Tim "SmallComputer$Timer" "current" "I" ∈ lw_tbl := List.mem_of_getElem? (i := 189) (by decide +kernel)
theorem mw_20 : Cond.lays R_Tim "SmallComputer$Timer" "start" "I" ∈ lw_tbl := List.mem_of_getElem? (i := 191) (by decide +kernel)
theorem mw_21 : Cond.lays R_Tim "SmallComputer$Timer" "lowerGot" "I" ∈ lw_tbl := List.mem_of_getElem? (i := 193) (by decide +kernel)
theorem mw_22 : Cond.lays R_Tim "SmallComputer$Timer" "getsHigher" "Z" ∈ lw_tbl := List.mem_of_getElem? (i := 195) (by decide +kernel)
theorem mw_23 : Cond.lays R_Tim "SmallComputer$Timer" "held" "I" ∈ lw_tbl := List.mem_of_getElem? (i := 197) (by decide +kernel)
theorem mw_24 : Cond.lays R_Tim "SmallComputer$Timer" "answersHigher" "Z" ∈ lw_tbl := List.mem_of_getElem? (i := 199) (by decide +kernel)
set_option maxRecDepth 100000 in
theorem ul_Tim : ∀ w ∈ u_ws R_Tim F_Tim 7, w ∈ lw_tbl := List.forall_mem_cons.mpr ⟨mw_18, List.forall_mem_cons.mpr ⟨mw_19, List.forall_mem_cons.mpr ⟨mw_20, List.forall_mem_cons.mpr ⟨mw_21, List.forall_mem_cons.mpr ⟨mw_22, List.forall_mem_cons.mpr ⟨mw_23, List.forall_mem_cons.mpr ⟨mw_24, fun _ h => absurd h List.not_mem_nil⟩⟩⟩⟩⟩⟩⟩
theorem mw_25 : Cond.laysFinal R_Key "SmallComputer$Keyboard" "controller" "LSmallComputer$Controller;" ∈ lw_tbl := List.mem_of_getElem? (i := 211) (by decide +kernel)
theorem mw_26 : Cond.laysFinal R_Key "SmallComputer$Keyboard" "keys" "[I" ∈ lw_tbl := List.mem_of_getElem? (i := 213) (by decide +kernel)
theorem mw_27 : Cond.lays R_Key "SmallComputer$Keyboard" "waiting" "I" ∈ lw_tbl := List.mem_of_getElem? (i := 215) (by decide +kernel)
set_option maxRecDepth 100000 in
theorem ul_Key : ∀ w ∈ u_ws R_Key F_Key 3, w ∈ lw_tbl := List.forall_mem_cons.mpr ⟨mw_25, List.forall_mem_cons.mpr ⟨mw_26, List.forall_mem_cons.mpr ⟨mw_27, fun _ h => absurd h List.not_mem_nil⟩⟩⟩
theorem mw_28 : Cond.laysFinal R_Cha "SmallComputer$Channel" "controller" "LSmallComputer$Controller;" ∈ lw_tbl := List.mem_of_getElem? (i := 232) (by decide +kernel)
theorem mw_29 : Cond.laysFinal R_Cha "SmallComputer$Channel" "memory" "LSmallComputer$Memory;" ∈ lw_tbl := List.mem_of_getElem? (i := 234) (by decide +kernel)
theorem mw_30 : Cond.lays R_Cha "SmallComputer$Channel" "target" "I" ∈ lw_tbl := List.mem_of_getElem? (i := 236) (by decide +kernel)
theorem mw_31 : Cond.lays R_Cha "SmallComputer$Channel" "left" "I" ∈ lw_tbl := List.mem_of_getElem? (i := 238) (by decide +kernel)
theorem mw_32 : Cond.lays R_Cha "SmallComputer$Channel" "page" "I" ∈ lw_tbl := List.mem_of_getElem? (i := 240) (by decide +kernel)
theorem mw_33 : Cond.lays R_Cha "SmallComputer$Channel" "open" "Z" ∈ lw_tbl := List.mem_of_getElem? (i := 242) (by decide +kernel)
theorem mw_34 : Cond.lays R_Cha "SmallComputer$Channel" "done" "Z" ∈ lw_tbl := List.mem_of_getElem? (i := 244) (by decide +kernel)
theorem mw_35 : Cond.lays R_Cha "SmallComputer$Channel" "getsHigher" "Z" ∈ lw_tbl := List.mem_of_getElem? (i := 246) (by decide +kernel)
set_option maxRecDepth 100000 in
theorem ul_Cha : ∀ w ∈ u_ws R_Cha F_Cha 8, w ∈ lw_tbl := List.forall_mem_cons.mpr ⟨mw_28, List.forall_mem_cons.mpr ⟨mw_29, List.forall_mem_cons.mpr ⟨mw_30, List.forall_mem_cons.mpr ⟨mw_31, List.forall_mem_cons.mpr ⟨mw_32, List.forall_mem_cons.mpr ⟨mw_33, List.forall_mem_cons.mpr ⟨mw_34, List.forall_mem_cons.mpr ⟨mw_35, fun _ h => absurd h List.not_mem_nil⟩⟩⟩⟩⟩⟩⟩⟩
theorem mw_36 : Cond.laysFinal R_Por "SmallComputer$Ports" "controller" "LSmallComputer$Controller;" ∈ lw_tbl := List.mem_of_getElem? (i := 261) (by decide +kernel)
theorem mw_37 : Cond.laysFinal R_Por "SmallComputer$Ports" "timer" "LSmallComputer$Timer;" ∈ lw_tbl := List.mem_of_getElem? (i := 263) (by decide +kernel)
theorem mw_38 : Cond.laysFinal R_Por "SmallComputer$Ports" "keyboard" "LSmallComputer$Keyboard;" ∈ lw_tbl := List.mem_of_getElem? (i := 265) (by decide +kernel)
theorem mw_39 : Cond.laysFinal R_Por "SmallComputer$Ports" "channel" "LSmallComputer$Channel;" ∈ lw_tbl := List.mem_of_getElem? (i := 267) (by decide +kernel)
set_option maxRecDepth 100000 in
theorem ul_Por : ∀ w ∈ u_ws R_Por F_Por 4, w ∈ lw_tbl := List.forall_mem_cons.mpr ⟨mw_36, List.forall_mem_cons.mpr ⟨mw_37, List.forall_mem_cons.mpr ⟨mw_38, List.forall_mem_cons.mpr ⟨mw_39, fun _ h => absurd h List.not_mem_nil⟩⟩⟩⟩
theorem mw_40 : Cond.laysFinal R_Dec "SmallComputer$Decoder" "memory" "LSmallComputer$Memory;" ∈ lw_tbl := List.mem_of_getElem? (i := 298) (by decide +kernel)
theorem mw_41 : Cond.laysFinal R_Dec "SmallComputer$Decoder" "registers" "LSmallComputer$Registers;" ∈ lw_tbl := List.mem_of_getElem? (i := 300) (by decide +kernel)
theorem mw_42 : Cond.lays R_Dec "SmallComputer$Decoder" "first" "I" ∈ lw_tbl := List.mem_of_getElem? (i := 302) (by decide +kernel)
theorem mw_43 : Cond.lays R_Dec "SmallComputer$Decoder" "code" "I" ∈ lw_tbl := List.mem_of_getElem? (i := 304) (by decide +kernel)
theorem mw_44 : Cond.lays R_Dec "SmallComputer$Decoder" "repeat" "I" ∈ lw_tbl := List.mem_of_getElem? (i := 306) (by decide +kernel)
theorem mw_45 : Cond.lays R_Dec "SmallComputer$Decoder" "\x72" "I" ∈ lw_tbl := List.mem_of_getElem? (i := 308) (by decide +kernel)
theorem mw_46 : Cond.lays R_Dec "SmallComputer$Decoder" "offset" "I" ∈ lw_tbl := List.mem_of_getElem? (i := 310) (by decide +kernel)
theorem mw_47 : Cond.lays R_Dec "SmallComputer$Decoder" "inMemory" "Z" ∈ lw_tbl := List.mem_of_getElem? (i := 312) (by decide +kernel)
theorem mw_48 : Cond.lays R_Dec "SmallComputer$Decoder" "prefixSegment" "I" ∈ lw_tbl := List.mem_of_getElem? (i := 314) (by decide +kernel)
theorem mw_49 : Cond.lays R_Dec "SmallComputer$Decoder" "x" "I" ∈ lw_tbl := List.mem_of_getElem? (i := 316) (by decide +kernel)
theorem mw_50 : Cond.lays R_Dec "SmallComputer$Decoder" "segment" "I" ∈ lw_tbl := List.mem_of_getElem? (i := 318) (by decide +kernel)
theorem mw_51 : Cond.lays R_Dec "SmallComputer$Decoder" "wide" "Z" ∈ lw_tbl := List.mem_of_getElem? (i := 320) (by decide +kernel)
set_option maxRecDepth 100000 in
theorem ul_Dec : ∀ w ∈ u_ws R_Dec F_Dec 12, w ∈ lw_tbl := List.forall_mem_cons.mpr ⟨mw_40, List.forall_mem_cons.mpr ⟨mw_41, List.forall_mem_cons.mpr ⟨mw_42, List.forall_mem_cons.mpr ⟨mw_43, List.forall_mem_cons.mpr ⟨mw_44, List.forall_mem_cons.mpr ⟨mw_45, List.forall_mem_cons.mpr ⟨mw_46, List.forall_mem_cons.mpr ⟨mw_47, List.forall_mem_cons.mpr ⟨mw_48, List.forall_mem_cons.mpr ⟨mw_49, List.forall_mem_cons.mpr ⟨mw_50, List.forall_mem_cons.mpr ⟨mw_51, fun _ h => absurd h List.not_mem_nil⟩⟩⟩⟩⟩⟩⟩⟩⟩⟩⟩⟩
theorem mw_52 : Cond.laysFinal R_Pro "SmallComputer$Processor" "memory" "LSmallComputer$Memory;" ∈ lw_tbl := List.mem_of_getElem? (i := 334) (by decide +kernel)
theorem mw_53 : Cond.laysFinal R_Pro "SmallComputer$Processor" "registers" "LSmallComputer$Registers;" ∈ lw_tbl := List.mem_of_getElem? (i := 336) (by decide +kernel)
theorem mw_54 : Cond.laysFinal R_Pro "SmallComputer$Processor" "flags" "LSmallComputer$Flags;" ∈ lw_tbl := List.mem_of_getElem? (i := 338) (by decide +kernel)
theorem mw_55 : Cond.laysFinal R_Pro "SmallComputer$Processor" "controller" "LSmallComputer$Controller;" ∈ lw_tbl := List.mem_of_getElem? (i := 340) (by decide +kernel)
theorem mw_56 : Cond.laysFinal R_Pro "SmallComputer$Processor" "ports" "LSmallComputer$Ports;" ∈ lw_tbl := List.mem_of_getElem? (i := 342) (by decide +kernel)
theorem mw_57 : Cond.laysFinal R_Pro "SmallComputer$Processor" "decoder" "LSmallComputer$Decoder;" ∈ lw_tbl := List.mem_of_getElem? (i := 344) (by decide +kernel)
theorem mw_58 : Cond.lays R_Pro "SmallComputer$Processor" "inHalt" "Z" ∈ lw_tbl := List.mem_of_getElem? (i := 346) (by decide +kernel)
theorem mw_59 : Cond.lays R_Pro "SmallComputer$Processor" "interruptsDone" "I" ∈ lw_tbl := List.mem_of_getElem? (i := 348) (by decide +kernel)
theorem mw_60 : Cond.lays R_Pro "SmallComputer$Processor" "keepsOff" "Z" ∈ lw_tbl := List.mem_of_getElem? (i := 350) (by decide +kernel)
set_option maxRecDepth 100000 in
theorem ul_Pro : ∀ w ∈ u_ws R_Pro F_Pro 9, w ∈ lw_tbl := List.forall_mem_cons.mpr ⟨mw_52, List.forall_mem_cons.mpr ⟨mw_53, List.forall_mem_cons.mpr ⟨mw_54, List.forall_mem_cons.mpr ⟨mw_55, List.forall_mem_cons.mpr ⟨mw_56, List.forall_mem_cons.mpr ⟨mw_57, List.forall_mem_cons.mpr ⟨mw_58, List.forall_mem_cons.mpr ⟨mw_59, List.forall_mem_cons.mpr ⟨mw_60, fun _ h => absurd h List.not_mem_nil⟩⟩⟩⟩⟩⟩⟩⟩⟩
theorem mw_61 : Cond.lays R_Mod "SmallComputerModel" "memory" "[I" ∈ lw_tbl := List.mem_of_getElem? (i := 792) (by decide +kernel)
theorem mw_62 : Cond.lays R_Mod "SmallComputerModel" "word" "[I" ∈ lw_tbl := List.mem_of_getElem? (i := 794) (by decide +kernel)
theorem mw_63 : Cond.lays R_Mod "SmallComputerModel" "segment" "[I" ∈ lw_tbl := List.mem_of_getElem? (i := 796) (by decide +kernel)
theorem mw_64 : Cond.lays R_Mod "SmallComputerModel" "ip" "I" ∈ lw_tbl := List.mem_of_getElem? (i := 798) (by decide +kernel)
theorem mw_65 : Cond.lays R_Mod "SmallComputerModel" "flags" "I" ∈ lw_tbl := List.mem_of_getElem? (i := 800) (by decide +kernel)
theorem mw_66 : Cond.lays R_Mod "SmallComputerModel" "halt" "Z" ∈ lw_tbl := List.mem_of_getElem? (i := 802) (by decide +kernel)
theorem mw_67 : Cond.lays R_Mod "SmallComputerModel" "shadow" "Z" ∈ lw_tbl := List.mem_of_getElem? (i := 804) (by decide +kernel)
theorem mw_68 : Cond.lays R_Mod "SmallComputerModel" "interrupts" "I" ∈ lw_tbl := List.mem_of_getElem? (i := 806) (by decide +kernel)
theorem mw_69 : Cond.lays R_Mod "SmallComputerModel" "place" "I" ∈ lw_tbl := List.mem_of_getElem? (i := 808) (by decide +kernel)
theorem mw_70 : Cond.lays R_Mod "SmallComputerModel" "began" "I" ∈ lw_tbl := List.mem_of_getElem? (i := 810) (by decide +kernel)
theorem mw_71 : Cond.lays R_Mod "SmallComputerModel" "override" "I" ∈ lw_tbl := List.mem_of_getElem? (i := 812) (by decide +kernel)
theorem mw_72 : Cond.lays R_Mod "SmallComputerModel" "repeat" "I" ∈ lw_tbl := List.mem_of_getElem? (i := 814) (by decide +kernel)
theorem mw_73 : Cond.lays R_Mod "SmallComputerModel" "middle" "I" ∈ lw_tbl := List.mem_of_getElem? (i := 816) (by decide +kernel)
theorem mw_74 : Cond.lays R_Mod "SmallComputerModel" "eRegister" "I" ∈ lw_tbl := List.mem_of_getElem? (i := 818) (by decide +kernel)
theorem mw_75 : Cond.lays R_Mod "SmallComputerModel" "eOffset" "I" ∈ lw_tbl := List.mem_of_getElem? (i := 820) (by decide +kernel)
theorem mw_76 : Cond.lays R_Mod "SmallComputerModel" "eSegment" "I" ∈ lw_tbl := List.mem_of_getElem? (i := 822) (by decide +kernel)
theorem mw_77 : Cond.lays R_Mod "SmallComputerModel" "unknown" "Z" ∈ lw_tbl := List.mem_of_getElem? (i := 824) (by decide +kernel)
theorem mw_78 : Cond.lays R_Mod "SmallComputerModel" "requested" "I" ∈ lw_tbl := List.mem_of_getElem? (i := 826) (by decide +kernel)
theorem mw_79 : Cond.lays R_Mod "SmallComputerModel" "inService" "I" ∈ lw_tbl := List.mem_of_getElem? (i := 828) (by decide +kernel)
theorem mw_80 : Cond.lays R_Mod "SmallComputerModel" "masked" "I" ∈ lw_tbl := List.mem_of_getElem? (i := 830) (by decide +kernel)
theorem mw_81 : Cond.lays R_Mod "SmallComputerModel" "showsService" "Z" ∈ lw_tbl := List.mem_of_getElem? (i := 832) (by decide +kernel)
theorem mw_82 : Cond.lays R_Mod "SmallComputerModel" "runs" "Z" ∈ lw_tbl := List.mem_of_getElem? (i := 834) (by decide +kernel)
theorem mw_83 : Cond.lays R_Mod "SmallComputerModel" "start" "I" ∈ lw_tbl := List.mem_of_getElem? (i := 836) (by decide +kernel)
theorem mw_84 : Cond.lays R_Mod "SmallComputerModel" "count" "I" ∈ lw_tbl := List.mem_of_getElem? (i := 838) (by decide +kernel)
theorem mw_85 : Cond.lays R_Mod "SmallComputerModel" "written" "I" ∈ lw_tbl := List.mem_of_getElem? (i := 840) (by decide +kernel)
theorem mw_86 : Cond.lays R_Mod "SmallComputerModel" "higherComes" "Z" ∈ lw_tbl := List.mem_of_getElem? (i := 842) (by decide +kernel)
theorem mw_87 : Cond.lays R_Mod "SmallComputerModel" "latched" "I" ∈ lw_tbl := List.mem_of_getElem? (i := 844) (by decide +kernel)
theorem mw_88 : Cond.lays R_Mod "SmallComputerModel" "higherAnswered" "Z" ∈ lw_tbl := List.mem_of_getElem? (i := 846) (by decide +kernel)
theorem mw_89 : Cond.lays R_Mod "SmallComputerModel" "keys" "I" ∈ lw_tbl := List.mem_of_getElem? (i := 848) (by decide +kernel)
theorem mw_90 : Cond.lays R_Mod "SmallComputerModel" "waiting" "[I" ∈ lw_tbl := List.mem_of_getElem? (i := 850) (by decide +kernel)
theorem mw_91 : Cond.lays R_Mod "SmallComputerModel" "channelPlace" "I" ∈ lw_tbl := List.mem_of_getElem? (i := 852) (by decide +kernel)
theorem mw_92 : Cond.lays R_Mod "SmallComputerModel" "channelLeft" "I" ∈ lw_tbl := List.mem_of_getElem? (i := 854) (by decide +kernel)
theorem mw_93 : Cond.lays R_Mod "SmallComputerModel" "page" "I" ∈ lw_tbl := List.mem_of_getElem? (i := 856) (by decide +kernel)
theorem mw_94 : Cond.lays R_Mod "SmallComputerModel" "channelHigher" "Z" ∈ lw_tbl := List.mem_of_getElem? (i := 858) (by decide +kernel)
theorem mw_95 : Cond.lays R_Mod "SmallComputerModel" "open" "Z" ∈ lw_tbl := List.mem_of_getElem? (i := 860) (by decide +kernel)
theorem mw_96 : Cond.lays R_Mod "SmallComputerModel" "done" "Z" ∈ lw_tbl := List.mem_of_getElem? (i := 862) (by decide +kernel)
set_option maxRecDepth 100000 in
theorem ul_Mod : ∀ w ∈ u_ws R_Mod F_Mod 36, w ∈ lw_tbl := List.forall_mem_cons.mpr ⟨mw_61, List.forall_mem_cons.mpr ⟨mw_62, List.forall_mem_cons.mpr ⟨mw_63, List.forall_mem_cons.mpr ⟨mw_64, List.forall_mem_cons.mpr ⟨mw_65, List.forall_mem_cons.mpr ⟨mw_66, List.forall_mem_cons.mpr ⟨mw_67, List.forall_mem_cons.mpr ⟨mw_68, List.forall_mem_cons.mpr ⟨mw_69, List.forall_mem_cons.mpr ⟨mw_70, List.forall_mem_cons.mpr ⟨mw_71, List.forall_mem_cons.mpr ⟨mw_72, List.forall_mem_cons.mpr ⟨mw_73, List.forall_mem_cons.mpr ⟨mw_74, List.forall_mem_cons.mpr ⟨mw_75, List.forall_mem_cons.mpr ⟨mw_76, List.forall_mem_cons.mpr ⟨mw_77, List.forall_mem_cons.mpr ⟨mw_78, List.forall_mem_cons.mpr ⟨mw_79, List.forall_mem_cons.mpr ⟨mw_80, List.forall_mem_cons.mpr ⟨mw_81, List.forall_mem_cons.mpr ⟨mw_82, List.forall_mem_cons.mpr ⟨mw_83, List.forall_mem_cons.mpr ⟨mw_84, List.forall_mem_cons.mpr ⟨mw_85, List.forall_mem_cons.mpr ⟨mw_86, List.forall_mem_cons.mpr ⟨mw_87, List.forall_mem_cons.mpr ⟨mw_88, List.forall_mem_cons.mpr ⟨mw_89, List.forall_mem_cons.mpr ⟨mw_90, List.forall_mem_cons.mpr ⟨mw_91, List.forall_mem_cons.mpr ⟨mw_92, List.forall_mem_cons.mpr ⟨mw_93, List.forall_mem_cons.mpr ⟨mw_94, List.forall_mem_cons.mpr ⟨mw_95, List.forall_mem_cons.mpr ⟨mw_96, fun _ h => absurd h List.not_mem_nil⟩⟩⟩⟩⟩⟩⟩⟩⟩⟩⟩⟩⟩⟩⟩⟩⟩⟩⟩⟩⟩⟩⟩⟩⟩⟩⟩⟩⟩⟩⟩⟩⟩⟩⟩⟩
