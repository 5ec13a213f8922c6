theorem mw_97 : Cond.fieldLink R_SC 10 "SmallComputer" "memory" "LSmallComputer$Memory;" ∈ lw_tbl := List.mem_of_getElem? (i := 353) (by decide +kernel)
theorem mw_98 : Cond.fieldLink R_SC 19 "SmallComputer" "registers" "LSmallComputer$Registers;" ∈ lw_tbl := List.mem_of_getElem? (i := 354) (by decide +kernel)
theorem mw_99 : Cond.fieldLink R_SC 26 "SmallComputer" "flags" "LSmallComputer$Flags;" ∈ lw_tbl := List.mem_of_getElem? (i := 355) (by decide +kernel)
theorem mw_100 : Cond.fieldLink R_SC 33 "SmallComputer" "controller" "LSmallComputer$Controller;" ∈ lw_tbl := List.mem_of_getElem? (i := 356) (by decide +kernel)
theorem mw_101 : Cond.fieldLink R_SC 42 "SmallComputer" "timer" "LSmallComputer$Timer;" ∈ lw_tbl := List.mem_of_getElem? (i := 357) (by decide +kernel)
theorem mw_102 : Cond.fieldLink R_SC 49 "SmallComputer" "keyboard" "LSmallComputer$Keyboard;" ∈ lw_tbl := List.mem_of_getElem? (i := 358) (by decide +kernel)
theorem mw_103 : Cond.fieldLink R_SC 58 "SmallComputer" "channel" "LSmallComputer$Channel;" ∈ lw_tbl := List.mem_of_getElem? (i := 359) (by decide +kernel)
theorem mw_104 : Cond.fieldLink R_SC 72 "SmallComputer" "processor" "LSmallComputer$Processor;" ∈ lw_tbl := List.mem_of_getElem? (i := 360) (by decide +kernel)
theorem mw_105 : Cond.fieldLink R_SC 76 "SmallComputer$Registers" "words" "[I" ∈ lw_tbl := List.mem_of_getElem? (i := 120) (by decide +kernel)
theorem mw_106 : Cond.fieldLink R_SC 80 "SmallComputer$Registers" "ip" "I" ∈ lw_tbl := List.mem_of_getElem? (i := 127) (by decide +kernel)
theorem mw_107 : Cond.fieldLink R_SC 84 "SmallComputer" "place" "I" ∈ lw_tbl := List.mem_of_getElem? (i := 361) (by decide +kernel)
theorem mw_108 : Cond.fieldLink R_SC 108 "SmallComputer$Registers" "segments" "[I" ∈ lw_tbl := List.mem_of_getElem? (i := 126) (by decide +kernel)
theorem mw_109 : Cond.fieldLink R_SC 111 "SmallComputer$Flags" "word" "I" ∈ lw_tbl := List.mem_of_getElem? (i := 145) (by decide +kernel)
theorem mw_110 : Cond.fieldLink R_SC 115 "SmallComputer$Processor" "inHalt" "Z" ∈ lw_tbl := List.mem_of_getElem? (i := 330) (by decide +kernel)
theorem mw_111 : Cond.fieldLink R_SC 123 "SmallComputer$Controller" "requested" "I" ∈ lw_tbl := List.mem_of_getElem? (i := 157) (by decide +kernel)
theorem mw_112 : Cond.fieldLink R_SC 126 "SmallComputer$Controller" "inService" "I" ∈ lw_tbl := List.mem_of_getElem? (i := 159) (by decide +kernel)
theorem mw_113 : Cond.fieldLink R_SC 129 "SmallComputer$Controller" "masked" "I" ∈ lw_tbl := List.mem_of_getElem? (i := 162) (by decide +kernel)
theorem mw_114 : Cond.fieldLink R_SC 132 "SmallComputer$Timer" "current" "I" ∈ lw_tbl := List.mem_of_getElem? (i := 181) (by decide +kernel)
theorem mw_115 : Cond.fieldLink R_SC 135 "SmallComputer$Processor" "interruptsDone" "I" ∈ lw_tbl := List.mem_of_getElem? (i := 331) (by decide +kernel)
set_option maxRecDepth 100000 in
theorem wf_SC : ∀ w ∈ (pF pt_SC).flatMap (wF R_SC), w ∈ lw_tbl := List.forall_mem_cons.mpr ⟨mw_97, List.forall_mem_cons.mpr ⟨mw_98, List.forall_mem_cons.mpr ⟨mw_99, List.forall_mem_cons.mpr ⟨mw_100, List.forall_mem_cons.mpr ⟨mw_101, List.forall_mem_cons.mpr ⟨mw_102, List.forall_mem_cons.mpr ⟨mw_103, List.forall_mem_cons.mpr ⟨mw_104, List.forall_mem_cons.mpr ⟨mw_105, List.forall_mem_cons.mpr ⟨mw_106, List.forall_mem_cons.mpr ⟨mw_107, List.forall_mem_cons.mpr ⟨mw_108, List.forall_mem_cons.mpr ⟨mw_109, List.forall_mem_cons.mpr ⟨mw_110, List.forall_mem_cons.mpr ⟨mw_111, List.forall_mem_cons.mpr ⟨mw_112, List.forall_mem_cons.mpr ⟨mw_113, List.forall_mem_cons.mpr ⟨mw_114, List.forall_mem_cons.mpr ⟨mw_115, fun _ h => absurd h List.not_mem_nil⟩⟩⟩⟩⟩⟩⟩⟩⟩⟩⟩⟩⟩⟩⟩⟩⟩⟩⟩
theorem mw_116 : Cond.methodLink R_SC 94 y_Mem_setByteAt ∈ lw_tbl := List.mem_of_getElem? (i := 391) (by decide +kernel)
theorem mw_117 : Cond.instanceMethod y_Mem_setByteAt ∈ lw_tbl := List.mem_of_getElem? (i := 392) (by decide +kernel)
theorem mw_118 : Cond.selects R_Mem y_Mem_setByteAt y_Mem_setByteAt ∈ lw_tbl := List.mem_of_getElem? (i := 393) (by decide +kernel)
theorem mw_119 : Cond.initialized R_Mem ∈ lw_tbl := List.mem_of_getElem? (i := 83) (by decide +kernel)
set_option maxRecDepth 100000 in
theorem mw_120 : Cond.code y_Mem_setByteAt b_Mem_setByteAt 3 none ∈ lw_tbl := List.mem_of_getElem? (i := 394) rfl
theorem mw_121 : Cond.methodLink R_SC 98 y_Mem_byteAt ∈ lw_tbl := List.mem_of_getElem? (i := 407) (by decide +kernel)
theorem mw_122 : Cond.instanceMethod y_Mem_byteAt ∈ lw_tbl := List.mem_of_getElem? (i := 408) (by decide +kernel)
theorem mw_123 : Cond.selects R_Mem y_Mem_byteAt y_Mem_byteAt ∈ lw_tbl := List.mem_of_getElem? (i := 409) (by decide +kernel)
set_option maxRecDepth 100000 in
theorem mw_124 : Cond.code y_Mem_byteAt b_Mem_byteAt 2 (some .int) ∈ lw_tbl := List.mem_of_getElem? (i := 410) rfl
theorem mw_125 : Cond.methodLink R_SC 102 y_Tim_tick ∈ lw_tbl := List.mem_of_getElem? (i := 415) (by decide +kernel)
theorem mw_126 : Cond.instanceMethod y_Tim_tick ∈ lw_tbl := List.mem_of_getElem? (i := 416) (by decide +kernel)
theorem mw_127 : Cond.selects R_Tim y_Tim_tick y_Tim_tick ∈ lw_tbl := List.mem_of_getElem? (i := 417) (by decide +kernel)
theorem mw_128 : Cond.initialized R_Tim ∈ lw_tbl := List.mem_of_getElem? (i := 87) (by decide +kernel)
set_option maxRecDepth 100000 in
theorem mw_129 : Cond.code y_Tim_tick b_Tim_tick 1 none ∈ lw_tbl := List.mem_of_getElem? (i := 418) rfl
theorem mw_130 : Cond.methodLink R_SC 105 y_Pro_advance ∈ lw_tbl := List.mem_of_getElem? (i := 423) (by decide +kernel)
theorem mw_131 : Cond.instanceMethod y_Pro_advance ∈ lw_tbl := List.mem_of_getElem? (i := 424) (by decide +kernel)
theorem mw_132 : Cond.selects R_Pro y_Pro_advance y_Pro_advance ∈ lw_tbl := List.mem_of_getElem? (i := 425) (by decide +kernel)
theorem mw_133 : Cond.initialized R_Pro ∈ lw_tbl := List.mem_of_getElem? (i := 90) (by decide +kernel)
set_option maxRecDepth 100000 in
theorem mw_134 : Cond.code y_Pro_advance b_Pro_advance 2 none ∈ lw_tbl := List.mem_of_getElem? (i := 426) rfl
theorem mw_135 : Cond.methodLink R_SC 119 y_Key_come ∈ lw_tbl := List.mem_of_getElem? (i := 724) (by decide +kernel)
theorem mw_136 : Cond.instanceMethod y_Key_come ∈ lw_tbl := List.mem_of_getElem? (i := 725) (by decide +kernel)
theorem mw_137 : Cond.selects R_Key y_Key_come y_Key_come ∈ lw_tbl := List.mem_of_getElem? (i := 726) (by decide +kernel)
theorem mw_138 : Cond.initialized R_Key ∈ lw_tbl := List.mem_of_getElem? (i := 88) (by decide +kernel)
set_option maxRecDepth 100000 in
theorem mw_139 : Cond.code y_Key_come b_Key_come 2 (some .boolean) ∈ lw_tbl := List.mem_of_getElem? (i := 727) rfl
theorem mw_140 : Cond.methodLink R_SC 122 y_Cha_come ∈ lw_tbl := List.mem_of_getElem? (i := 732) (by decide +kernel)
theorem mw_141 : Cond.instanceMethod y_Cha_come ∈ lw_tbl := List.mem_of_getElem? (i := 733) (by decide +kernel)
theorem mw_142 : Cond.selects R_Cha y_Cha_come y_Cha_come ∈ lw_tbl := List.mem_of_getElem? (i := 734) (by decide +kernel)
theorem mw_143 : Cond.initialized R_Cha ∈ lw_tbl := List.mem_of_getElem? (i := 89) (by decide +kernel)
set_option maxRecDepth 100000 in
theorem mw_144 : Cond.code y_Cha_come b_Cha_come 2 (some .boolean) ∈ lw_tbl := List.mem_of_getElem? (i := 735) rfl
set_option maxRecDepth 100000 in
theorem wv_SC : ∀ w ∈ (pV pt_SC).flatMap (wV R_SC), w ∈ lw_tbl := List.forall_mem_cons.mpr ⟨mw_116, List.forall_mem_cons.mpr ⟨mw_117, List.forall_mem_cons.mpr ⟨mw_118, List.forall_mem_cons.mpr ⟨mw_119, List.forall_mem_cons.mpr ⟨mw_120, List.forall_mem_cons.mpr ⟨mw_121, List.forall_mem_cons.mpr ⟨mw_122, List.forall_mem_cons.mpr ⟨mw_123, List.forall_mem_cons.mpr ⟨mw_119, List.forall_mem_cons.mpr ⟨mw_124, List.forall_mem_cons.mpr ⟨mw_125, List.forall_mem_cons.mpr ⟨mw_126, List.forall_mem_cons.mpr ⟨mw_127, List.forall_mem_cons.mpr ⟨mw_128, List.forall_mem_cons.mpr ⟨mw_129, List.forall_mem_cons.mpr ⟨mw_130, List.forall_mem_cons.mpr ⟨mw_131, List.forall_mem_cons.mpr ⟨mw_132, List.forall_mem_cons.mpr ⟨mw_133, List.forall_mem_cons.mpr ⟨mw_134, List.forall_mem_cons.mpr ⟨mw_135, List.forall_mem_cons.mpr ⟨mw_136, List.forall_mem_cons.mpr ⟨mw_137, List.forall_mem_cons.mpr ⟨mw_138, List.forall_mem_cons.mpr ⟨mw_139, List.forall_mem_cons.mpr ⟨mw_140, List.forall_mem_cons.mpr ⟨mw_141, List.forall_mem_cons.mpr ⟨mw_142, List.forall_mem_cons.mpr ⟨mw_143, List.forall_mem_cons.mpr ⟨mw_144, fun _ h => absurd h List.not_mem_nil⟩⟩⟩⟩⟩⟩⟩⟩⟩⟩⟩⟩⟩⟩⟩⟩⟩⟩⟩⟩⟩⟩⟩⟩⟩⟩⟩⟩⟩⟩
theorem mw_145 : Cond.methodLink R_SC 87 y_Mem_has ∈ lw_tbl := List.mem_of_getElem? (i := 385) (by decide +kernel)
theorem mw_146 : Cond.static y_Mem_has ∈ lw_tbl := List.mem_of_getElem? (i := 386) (by decide +kernel)
set_option maxRecDepth 100000 in
theorem mw_147 : Cond.code y_Mem_has b_Mem_has 1 (some .boolean) ∈ lw_tbl := List.mem_of_getElem? (i := 387) rfl
theorem mw_148 : Cond.methodLink R_SC 91 y_SC_isByte ∈ lw_tbl := List.mem_of_getElem? (i := 388) (by decide +kernel)
theorem mw_149 : Cond.static y_SC_isByte ∈ lw_tbl := List.mem_of_getElem? (i := 389) (by decide +kernel)
theorem mw_150 : Cond.initialized R_SC ∈ lw_tbl := List.mem_of_getElem? (i := 82) (by decide +kernel)
set_option maxRecDepth 100000 in
theorem mw_151 : Cond.code y_SC_isByte b_SC_isByte 1 (some .boolean) ∈ lw_tbl := List.mem_of_getElem? (i := 390) rfl
set_option maxRecDepth 100000 in
theorem wsx_SC : ∀ w ∈ (pS pt_SC).flatMap (wS R_SC), w ∈ lw_tbl := List.forall_mem_cons.mpr ⟨mw_145, List.forall_mem_cons.mpr ⟨mw_146, List.forall_mem_cons.mpr ⟨mw_119, List.forall_mem_cons.mpr ⟨mw_147, List.forall_mem_cons.mpr ⟨mw_148, List.forall_mem_cons.mpr ⟨mw_149, List.forall_mem_cons.mpr ⟨mw_150, List.forall_mem_cons.mpr ⟨mw_151, fun _ h => absurd h List.not_mem_nil⟩⟩⟩⟩⟩⟩⟩⟩
theorem mw_152 : Cond.constant R_SC 114 (65535) ∈ lw_tbl := List.mem_of_getElem? (i := 715) (by decide +kernel)
set_option maxRecDepth 100000 in
theorem wi_SC : ∀ w ∈ (pI pt_SC).map (wI R_SC), w ∈ lw_tbl := List.forall_mem_cons.mpr ⟨mw_152, fun _ h => absurd h List.not_mem_nil⟩
set_option maxRecDepth 100000 in
theorem wl_SC : ∀ w ∈ (pL pt_SC).map (wL R_SC), w ∈ lw_tbl := fun _ h => absurd h List.not_mem_nil
theorem wp_SC : ∀ w ∈ wP pt_SC, w ∈ lw_tbl := List.forall_mem_append.mpr ⟨wf_SC, List.forall_mem_append.mpr ⟨wv_SC, List.forall_mem_append.mpr ⟨wsx_SC, List.forall_mem_append.mpr ⟨wi_SC, wl_SC⟩⟩⟩⟩
theorem mw_153 : Cond.fieldLink R_Mem 9 "SmallComputer$Memory" "bytes" "[I" ∈ lw_tbl := List.mem_of_getElem? (i := 108) (by decide +kernel)
set_option maxRecDepth 100000 in
theorem wf_Mem : ∀ w ∈ (pF pt_Mem).flatMap (wF R_Mem), w ∈ lw_tbl := List.forall_mem_cons.mpr ⟨mw_153, fun _ h => absurd h List.not_mem_nil⟩
set_option maxRecDepth 100000 in
theorem wv_Mem : ∀ w ∈ (pV pt_Mem).flatMap (wV R_Mem), w ∈ lw_tbl := fun _ h => absurd h List.not_mem_nil
set_option maxRecDepth 100000 in
theorem wsx_Mem : ∀ w ∈ (pS pt_Mem).flatMap (wS R_Mem), w ∈ lw_tbl := fun _ h => absurd h List.not_mem_nil
set_option maxRecDepth 100000 in
theorem wi_Mem : ∀ w ∈ (pI pt_Mem).map (wI R_Mem), w ∈ lw_tbl := fun _ h => absurd h List.not_mem_nil
set_option maxRecDepth 100000 in
theorem wl_Mem : ∀ w ∈ (pL pt_Mem).map (wL R_Mem), w ∈ lw_tbl := fun _ h => absurd h List.not_mem_nil
theorem wp_Mem : ∀ w ∈ wP pt_Mem, w ∈ lw_tbl := List.forall_mem_append.mpr ⟨wf_Mem, List.forall_mem_append.mpr ⟨wv_Mem, List.forall_mem_append.mpr ⟨wsx_Mem, List.forall_mem_append.mpr ⟨wi_Mem, wl_Mem⟩⟩⟩⟩
theorem mw_154 : Cond.fieldLink R_Reg 7 "SmallComputer$Registers" "words" "[I" ∈ lw_tbl := List.mem_of_getElem? (i := 119) (by decide +kernel)
theorem mw_155 : Cond.fieldLink R_Reg 18 "SmallComputer$Registers" "ip" "I" ∈ lw_tbl := List.mem_of_getElem? (i := 130) (by decide +kernel)
set_option maxRecDepth 100000 in
theorem wf_Reg : ∀ w ∈ (pF pt_Reg).flatMap (wF R_Reg), w ∈ lw_tbl := List.forall_mem_cons.mpr ⟨mw_154, List.forall_mem_cons.mpr ⟨mw_155, fun _ h => absurd h List.not_mem_nil⟩⟩
set_option maxRecDepth 100000 in
theorem wv_Reg : ∀ w ∈ (pV pt_Reg).flatMap (wV R_Reg), w ∈ lw_tbl := fun _ h => absurd h List.not_mem_nil
set_option maxRecDepth 100000 in
theorem wsx_Reg : ∀ w ∈ (pS pt_Reg).flatMap (wS R_Reg), w ∈ lw_tbl := fun _ h => absurd h List.not_mem_nil
theorem mw_156 : Cond.constant R_Reg 16 (65535) ∈ lw_tbl := List.mem_of_getElem? (i := 516) (by decide +kernel)
theorem mw_157 : Cond.constant R_Reg 17 (65280) ∈ lw_tbl := List.mem_of_getElem? (i := 517) (by decide +kernel)
set_option maxRecDepth 100000 in
theorem wi_Reg : ∀ w ∈ (pI pt_Reg).map (wI R_Reg), w ∈ lw_tbl := List.forall_mem_cons.mpr ⟨mw_156, List.forall_mem_cons.mpr ⟨mw_157, fun _ h => absurd h List.not_mem_nil⟩⟩
set_option maxRecDepth 100000 in
theorem wl_Reg : ∀ w ∈ (pL pt_Reg).map (wL R_Reg), w ∈ lw_tbl := fun _ h => absurd h List.not_mem_nil
theorem wp_Reg : ∀ w ∈ wP pt_Reg, w ∈ lw_tbl := List.forall_mem_append.mpr ⟨wf_Reg, List.forall_mem_append.mpr ⟨wv_Reg, List.forall_mem_append.mpr ⟨wsx_Reg, List.forall_mem_append.mpr ⟨wi_Reg, wl_Reg⟩⟩⟩⟩
theorem mw_158 : Cond.fieldLink R_Fla 9 "SmallComputer$Flags" "word" "I" ∈ lw_tbl := List.mem_of_getElem? (i := 144) (by decide +kernel)
set_option maxRecDepth 100000 in
theorem wf_Fla : ∀ w ∈ (pF pt_Fla).flatMap (wF R_Fla), w ∈ lw_tbl := List.forall_mem_cons.mpr ⟨mw_158, fun _ h => absurd h List.not_mem_nil⟩
theorem mw_159 : Cond.methodLink R_Fla 13 y_Fla_sum ∈ lw_tbl := List.mem_of_getElem? (i := 494) (by decide +kernel)
theorem mw_160 : Cond.instanceMethod y_Fla_sum ∈ lw_tbl := List.mem_of_getElem? (i := 496) (by decide +kernel)
theorem mw_161 : Cond.selects R_Fla y_Fla_sum y_Fla_sum ∈ lw_tbl := List.mem_of_getElem? (i := 4) (by decide +kernel)
theorem mw_162 : Cond.initialized R_Fla ∈ lw_tbl := List.mem_of_getElem? (i := 85) (by decide +kernel)
set_option maxRecDepth 100000 in
theorem mw_163 : Cond.code y_Fla_sum b_Fla_sum 7 (some .int) ∈ lw_tbl := List.mem_of_getElem? (i := 497) rfl
theorem mw_164 : Cond.methodLink R_Fla 17 y_Fla_logic ∈ lw_tbl := List.mem_of_getElem? (i := 504) (by decide +kernel)
theorem mw_165 : Cond.instanceMethod y_Fla_logic ∈ lw_tbl := List.mem_of_getElem? (i := 506) (by decide +kernel)
theorem mw_166 : Cond.selects R_Fla y_Fla_logic y_Fla_logic ∈ lw_tbl := List.mem_of_getElem? (i := 6) (by decide +kernel)
set_option maxRecDepth 100000 in
theorem mw_167 : Cond.code y_Fla_logic b_Fla_logic 3 (some .int) ∈ lw_tbl := List.mem_of_getElem? (i := 507) rfl
theorem mw_168 : Cond.methodLink R_Fla 21 y_Fla_difference ∈ lw_tbl := List.mem_of_getElem? (i := 508) (by decide +kernel)
theorem mw_169 : Cond.instanceMethod y_Fla_difference ∈ lw_tbl := List.mem_of_getElem? (i := 509) (by decide +kernel)
theorem mw_170 : Cond.selects R_Fla y_Fla_difference y_Fla_difference ∈ lw_tbl := List.mem_of_getElem? (i := 510) (by decide +kernel)
set_option maxRecDepth 100000 in
theorem mw_171 : Cond.code y_Fla_difference b_Fla_difference 7 (some .int) ∈ lw_tbl := List.mem_of_getElem? (i := 511) rfl
theorem mw_172 : Cond.methodLink R_Fla 25 y_Fla_mark ∈ lw_tbl := List.mem_of_getElem? (i := 499) (by decide +kernel)
theorem mw_173 : Cond.instanceMethod y_Fla_mark ∈ lw_tbl := List.mem_of_getElem? (i := 501) (by decide +kernel)
theorem mw_174 : Cond.selects R_Fla y_Fla_mark y_Fla_mark ∈ lw_tbl := List.mem_of_getElem? (i := 5) (by decide +kernel)
set_option maxRecDepth 100000 in
theorem mw_175 : Cond.code y_Fla_mark b_Fla_mark 7 none ∈ lw_tbl := List.mem_of_getElem? (i := 502) rfl
set_option maxRecDepth 100000 in
theorem wv_Fla : ∀ w ∈ (pV pt_Fla).flatMap (wV R_Fla), w ∈ lw_tbl := List.forall_mem_cons.mpr ⟨mw_159, List.forall_mem_cons.mpr ⟨mw_160, List.forall_mem_cons.mpr ⟨mw_161, List.forall_mem_cons.mpr ⟨mw_162, List.forall_mem_cons.mpr ⟨mw_163, List.forall_mem_cons.mpr ⟨mw_164, List.forall_mem_cons.mpr ⟨mw_165, List.forall_mem_cons.mpr ⟨mw_166, List.forall_mem_cons.mpr ⟨mw_162, List.forall_mem_cons.mpr ⟨mw_167, List.forall_mem_cons.mpr ⟨mw_168, List.forall_mem_cons.mpr ⟨mw_169, List.forall_mem_cons.mpr ⟨mw_170, List.forall_mem_cons.mpr ⟨mw_162, List.forall_mem_cons.mpr ⟨mw_171, List.forall_mem_cons.mpr ⟨mw_172, List.forall_mem_cons.mpr ⟨mw_173, List.forall_mem_cons.mpr ⟨mw_174, List.forall_mem_cons.mpr ⟨mw_162, List.forall_mem_cons.mpr ⟨mw_175, fun _ h => absurd h List.not_mem_nil⟩⟩⟩⟩⟩⟩⟩⟩⟩⟩⟩⟩⟩⟩⟩⟩⟩⟩⟩⟩
set_option maxRecDepth 100000 in
theorem wsx_Fla : ∀ w ∈ (pS pt_Fla).flatMap (wS R_Fla), w ∈ lw_tbl := fun _ h => absurd h List.not_mem_nil
theorem mw_176 : Cond.constant R_Fla 24 (65535) ∈ lw_tbl := List.mem_of_getElem? (i := 498) (by decide +kernel)
theorem mw_177 : Cond.constant R_Fla 29 (32768) ∈ lw_tbl := List.mem_of_getElem? (i := 503) (by decide +kernel)
set_option maxRecDepth 100000 in
theorem wi_Fla : ∀ w ∈ (pI pt_Fla).map (wI R_Fla), w ∈ lw_tbl := List.forall_mem_cons.mpr ⟨mw_176, List.forall_mem_cons.mpr ⟨mw_177, fun _ h => absurd h List.not_mem_nil⟩⟩
set_option maxRecDepth 100000 in
theorem wl_Fla : ∀ w ∈ (pL pt_Fla).map (wL R_Fla), w ∈ lw_tbl := fun _ h => absurd h List.not_mem_nil
theorem wp_Fla : ∀ w ∈ wP pt_Fla, w ∈ lw_tbl := List.forall_mem_append.mpr ⟨wf_Fla, List.forall_mem_append.mpr ⟨wv_Fla, List.forall_mem_append.mpr ⟨wsx_Fla, List.forall_mem_append.mpr ⟨wi_Fla, wl_Fla⟩⟩⟩⟩
theorem mw_178 : Cond.fieldLink R_Ctl 7 "SmallComputer$Controller" "masked" "I" ∈ lw_tbl := List.mem_of_getElem? (i := 160) (by decide +kernel)
theorem mw_179 : Cond.fieldLink R_Ctl 13 "SmallComputer$Controller" "requested" "I" ∈ lw_tbl := List.mem_of_getElem? (i := 156) (by decide +kernel)
theorem mw_180 : Cond.fieldLink R_Ctl 16 "SmallComputer$Controller" "inService" "I" ∈ lw_tbl := List.mem_of_getElem? (i := 158) (by decide +kernel)
theorem mw_181 : Cond.fieldLink R_Ctl 19 "SmallComputer$Controller" "showsInService" "Z" ∈ lw_tbl := List.mem_of_getElem? (i := 163) (by decide +kernel)
set_option maxRecDepth 100000 in
theorem wf_Ctl : ∀ w ∈ (pF pt_Ctl).flatMap (wF R_Ctl), w ∈ lw_tbl := List.forall_mem_cons.mpr ⟨mw_178, List.forall_mem_cons.mpr ⟨mw_179, List.forall_mem_cons.mpr ⟨mw_180, List.forall_mem_cons.mpr ⟨mw_181, fun _ h => absurd h List.not_mem_nil⟩⟩⟩⟩
set_option maxRecDepth 100000 in
theorem wv_Ctl : ∀ w ∈ (pV pt_Ctl).flatMap (wV R_Ctl), w ∈ lw_tbl := fun _ h => absurd h List.not_mem_nil
set_option maxRecDepth 100000 in
theorem wsx_Ctl : ∀ w ∈ (pS pt_Ctl).flatMap (wS R_Ctl), w ∈ lw_tbl := fun _ h => absurd h List.not_mem_nil
set_option maxRecDepth 100000 in
theorem wi_Ctl : ∀ w ∈ (pI pt_Ctl).map (wI R_Ctl), w ∈ lw_tbl := fun _ h => absurd h List.not_mem_nil
set_option maxRecDepth 100000 in
theorem wl_Ctl : ∀ w ∈ (pL pt_Ctl).map (wL R_Ctl), w ∈ lw_tbl := fun _ h => absurd h List.not_mem_nil
theorem wp_Ctl : ∀ w ∈ wP pt_Ctl, w ∈ lw_tbl := List.forall_mem_append.mpr ⟨wf_Ctl, List.forall_mem_append.mpr ⟨wv_Ctl, List.forall_mem_append.mpr ⟨wsx_Ctl, List.forall_mem_append.mpr ⟨wi_Ctl, wl_Ctl⟩⟩⟩⟩
theorem mw_182 : Cond.fieldLink R_Tim 7 "SmallComputer$Timer" "controller" "LSmallComputer$Controller;" ∈ lw_tbl := List.mem_of_getElem? (i := 179) (by decide +kernel)
theorem mw_183 : Cond.fieldLink R_Tim 13 "SmallComputer$Timer" "current" "I" ∈ lw_tbl := List.mem_of_getElem? (i := 180) (by decide +kernel)
theorem mw_184 : Cond.fieldLink R_Tim 17 "SmallComputer$Timer" "start" "I" ∈ lw_tbl := List.mem_of_getElem? (i := 182) (by decide +kernel)
theorem mw_185 : Cond.fieldLink R_Tim 26 "SmallComputer$Timer" "getsHigher" "Z" ∈ lw_tbl := List.mem_of_getElem? (i := 184) (by decide +kernel)
theorem mw_186 : Cond.fieldLink R_Tim 30 "SmallComputer$Timer" "lowerGot" "I" ∈ lw_tbl := List.mem_of_getElem? (i := 183) (by decide +kernel)
theorem mw_187 : Cond.fieldLink R_Tim 34 "SmallComputer$Timer" "answersHigher" "Z" ∈ lw_tbl := List.mem_of_getElem? (i := 186) (by decide +kernel)
theorem mw_188 : Cond.fieldLink R_Tim 37 "SmallComputer$Timer" "held" "I" ∈ lw_tbl := List.mem_of_getElem? (i := 185) (by decide +kernel)
set_option maxRecDepth 100000 in
theorem wf_Tim : ∀ w ∈ (pF pt_Tim).flatMap (wF R_Tim), w ∈ lw_tbl := List.forall_mem_cons.mpr ⟨mw_182, List.forall_mem_cons.mpr ⟨mw_183, List.forall_mem_cons.mpr ⟨mw_184, List.forall_mem_cons.mpr ⟨mw_185, List.forall_mem_cons.mpr ⟨mw_186, List.forall_mem_cons.mpr ⟨mw_187, List.forall_mem_cons.mpr ⟨mw_188, fun _ h => absurd h List.not_mem_nil⟩⟩⟩⟩⟩⟩⟩
theorem mw_189 : Cond.methodLink R_Tim 20 y_Ctl_request ∈ lw_tbl := List.mem_of_getElem? (i := 419) (by decide +kernel)
theorem mw_190 : Cond.instanceMethod y_Ctl_request ∈ lw_tbl := List.mem_of_getElem? (i := 420) (by decide +kernel)
theorem mw_191 : Cond.selects R_Ctl y_Ctl_request y_Ctl_request ∈ lw_tbl := List.mem_of_getElem? (i := 421) (by decide +kernel)
theorem mw_192 : Cond.initialized R_Ctl ∈ lw_tbl := List.mem_of_getElem? (i := 86) (by decide +kernel)
set_option maxRecDepth 100000 in
theorem mw_193 : Cond.code y_Ctl_request b_Ctl_request 2 none ∈ lw_tbl := List.mem_of_getElem? (i := 422) rfl
set_option maxRecDepth 100000 in
theorem wv_Tim : ∀ w ∈ (pV pt_Tim).flatMap (wV R_Tim), w ∈ lw_tbl := List.forall_mem_cons.mpr ⟨mw_189, List.forall_mem_cons.mpr ⟨mw_190, List.forall_mem_cons.mpr ⟨mw_191, List.forall_mem_cons.mpr ⟨mw_192, List.forall_mem_cons.mpr ⟨mw_193, fun _ h => absurd h List.not_mem_nil⟩⟩⟩⟩⟩
set_option maxRecDepth 100000 in
theorem wsx_Tim : ∀ w ∈ (pS pt_Tim).flatMap (wS R_Tim), w ∈ lw_tbl := fun _ h => absurd h List.not_mem_nil
theorem mw_194 : Cond.constant R_Tim 33 (65536) ∈ lw_tbl := List.mem_of_getElem? (i := 675) (by decide +kernel)
theorem mw_195 : Cond.constant R_Tim 40 (65535) ∈ lw_tbl := List.mem_of_getElem? (i := 636) (by decide +kernel)
set_option maxRecDepth 100000 in
theorem wi_Tim : ∀ w ∈ (pI pt_Tim).map (wI R_Tim), w ∈ lw_tbl := List.forall_mem_cons.mpr ⟨mw_194, List.forall_mem_cons.mpr ⟨mw_195, fun _ h => absurd h List.not_mem_nil⟩⟩
set_option maxRecDepth 100000 in
theorem wl_Tim : ∀ w ∈ (pL pt_Tim).map (wL R_Tim), w ∈ lw_tbl := fun _ h => absurd h List.not_mem_nil
theorem wp_Tim : ∀ w ∈ wP pt_Tim, w ∈ lw_tbl := List.forall_mem_append.mpr ⟨wf_Tim, List.forall_mem_append.mpr ⟨wv_Tim, List.forall_mem_append.mpr ⟨wsx_Tim, List.forall_mem_append.mpr ⟨wi_Tim, wl_Tim⟩⟩⟩⟩
theorem mw_196 : Cond.fieldLink R_Key 9 "SmallComputer$Keyboard" "keys" "[I" ∈ lw_tbl := List.mem_of_getElem? (i := 209) (by decide +kernel)
theorem mw_197 : Cond.fieldLink R_Key 13 "SmallComputer$Keyboard" "controller" "LSmallComputer$Controller;" ∈ lw_tbl := List.mem_of_getElem? (i := 208) (by decide +kernel)
theorem mw_198 : Cond.fieldLink R_Key 17 "SmallComputer$Keyboard" "waiting" "I" ∈ lw_tbl := List.mem_of_getElem? (i := 210) (by decide +kernel)
set_option maxRecDepth 100000 in
theorem wf_Key : ∀ w ∈ (pF pt_Key).flatMap (wF R_Key), w ∈ lw_tbl := List.forall_mem_cons.mpr ⟨mw_196, List.forall_mem_cons.mpr ⟨mw_197, List.forall_mem_cons.mpr ⟨mw_198, fun _ h => absurd h List.not_mem_nil⟩⟩⟩
theorem mw_199 : Cond.methodLink R_Key 21 y_Ctl_request ∈ lw_tbl := List.mem_of_getElem? (i := 641) (by decide +kernel)
set_option maxRecDepth 100000 in
theorem wv_Key : ∀ w ∈ (pV pt_Key).flatMap (wV R_Key), w ∈ lw_tbl := List.forall_mem_cons.mpr ⟨mw_199, List.forall_mem_cons.mpr ⟨mw_190, List.forall_mem_cons.mpr ⟨mw_191, List.forall_mem_cons.mpr ⟨mw_192, List.forall_mem_cons.mpr ⟨mw_193, fun _ h => absurd h List.not_mem_nil⟩⟩⟩⟩⟩
set_option maxRecDepth 100000 in
theorem wsx_Key : ∀ w ∈ (pS pt_Key).flatMap (wS R_Key), w ∈ lw_tbl := fun _ h => absurd h List.not_mem_nil
set_option maxRecDepth 100000 in
theorem wi_Key : ∀ w ∈ (pI pt_Key).map (wI R_Key), w ∈ lw_tbl := fun _ h => absurd h List.not_mem_nil
set_option maxRecDepth 100000 in
theorem wl_Key : ∀ w ∈ (pL pt_Key).map (wL R_Key), w ∈ lw_tbl := fun _ h => absurd h List.not_mem_nil
theorem wp_Key : ∀ w ∈ wP pt_Key, w ∈ lw_tbl := List.forall_mem_append.mpr ⟨wf_Key, List.forall_mem_append.mpr ⟨wv_Key, List.forall_mem_append.mpr ⟨wsx_Key, List.forall_mem_append.mpr ⟨wi_Key, wl_Key⟩⟩⟩⟩
theorem mw_200 : Cond.fieldLink R_Cha 7 "SmallComputer$Channel" "controller" "LSmallComputer$Controller;" ∈ lw_tbl := List.mem_of_getElem? (i := 224) (by decide +kernel)
theorem mw_201 : Cond.fieldLink R_Cha 13 "SmallComputer$Channel" "memory" "LSmallComputer$Memory;" ∈ lw_tbl := List.mem_of_getElem? (i := 225) (by decide +kernel)
theorem mw_202 : Cond.fieldLink R_Cha 17 "SmallComputer$Channel" "getsHigher" "Z" ∈ lw_tbl := List.mem_of_getElem? (i := 231) (by decide +kernel)
theorem mw_203 : Cond.fieldLink R_Cha 21 "SmallComputer$Channel" "target" "I" ∈ lw_tbl := List.mem_of_getElem? (i := 226) (by decide +kernel)
theorem mw_204 : Cond.fieldLink R_Cha 25 "SmallComputer$Channel" "left" "I" ∈ lw_tbl := List.mem_of_getElem? (i := 227) (by decide +kernel)
theorem mw_205 : Cond.fieldLink R_Cha 29 "SmallComputer$Channel" "page" "I" ∈ lw_tbl := List.mem_of_getElem? (i := 228) (by decide +kernel)
theorem mw_206 : Cond.fieldLink R_Cha 32 "SmallComputer$Channel" "open" "Z" ∈ lw_tbl := List.mem_of_getElem? (i := 229) (by decide +kernel)
theorem mw_207 : Cond.fieldLink R_Cha 41 "SmallComputer$Channel" "done" "Z" ∈ lw_tbl := List.mem_of_getElem? (i := 230) (by decide +kernel)
set_option maxRecDepth 100000 in
theorem wf_Cha : ∀ w ∈ (pF pt_Cha).flatMap (wF R_Cha), w ∈ lw_tbl := List.forall_mem_cons.mpr ⟨mw_200, List.forall_mem_cons.mpr ⟨mw_201, List.forall_mem_cons.mpr ⟨mw_202, List.forall_mem_cons.mpr ⟨mw_203, List.forall_mem_cons.mpr ⟨mw_204, List.forall_mem_cons.mpr ⟨mw_205, List.forall_mem_cons.mpr ⟨mw_206, List.forall_mem_cons.mpr ⟨mw_207, fun _ h => absurd h List.not_mem_nil⟩⟩⟩⟩⟩⟩⟩⟩
theorem mw_208 : Cond.methodLink R_Cha 35 y_Mem_setByteAt ∈ lw_tbl := List.mem_of_getElem? (i := 736) (by decide +kernel)
theorem mw_209 : Cond.methodLink R_Cha 44 y_Ctl_request ∈ lw_tbl := List.mem_of_getElem? (i := 737) (by decide +kernel)
set_option maxRecDepth 100000 in
theorem wv_Cha : ∀ w ∈ (pV pt_Cha).flatMap (wV R_Cha), w ∈ lw_tbl := List.forall_mem_cons.mpr ⟨mw_208, List.forall_mem_cons.mpr ⟨mw_117, List.forall_mem_cons.mpr ⟨mw_118, List.forall_mem_cons.mpr ⟨mw_119, List.forall_mem_cons.mpr ⟨mw_120, List.forall_mem_cons.mpr ⟨mw_209, List.forall_mem_cons.mpr ⟨mw_190, List.forall_mem_cons.mpr ⟨mw_191, List.forall_mem_cons.mpr ⟨mw_192, List.forall_mem_cons.mpr ⟨mw_193, fun _ h => absurd h List.not_mem_nil⟩⟩⟩⟩⟩⟩⟩⟩⟩⟩
set_option maxRecDepth 100000 in
theorem wsx_Cha : ∀ w ∈ (pS pt_Cha).flatMap (wS R_Cha), w ∈ lw_tbl := fun _ h => absurd h List.not_mem_nil
theorem mw_210 : Cond.constant R_Cha 28 (65280) ∈ lw_tbl := List.mem_of_getElem? (i := 658) (by decide +kernel)
set_option maxRecDepth 100000 in
theorem wi_Cha : ∀ w ∈ (pI pt_Cha).map (wI R_Cha), w ∈ lw_tbl := List.forall_mem_cons.mpr ⟨mw_210, fun _ h => absurd h List.not_mem_nil⟩
set_option maxRecDepth 100000 in
theorem wl_Cha : ∀ w ∈ (pL pt_Cha).map (wL R_Cha), w ∈ lw_tbl := fun _ h => absurd h List.not_mem_nil
theorem wp_Cha : ∀ w ∈ wP pt_Cha, w ∈ lw_tbl := List.forall_mem_append.mpr ⟨wf_Cha, List.forall_mem_append.mpr ⟨wv_Cha, List.forall_mem_append.mpr ⟨wsx_Cha, List.forall_mem_append.mpr ⟨wi_Cha, wl_Cha⟩⟩⟩⟩
theorem mw_211 : Cond.fieldLink R_Por 7 "SmallComputer$Ports" "controller" "LSmallComputer$Controller;" ∈ lw_tbl := List.mem_of_getElem? (i := 257) (by decide +kernel)
theorem mw_212 : Cond.fieldLink R_Por 13 "SmallComputer$Ports" "timer" "LSmallComputer$Timer;" ∈ lw_tbl := List.mem_of_getElem? (i := 258) (by decide +kernel)
theorem mw_213 : Cond.fieldLink R_Por 17 "SmallComputer$Ports" "keyboard" "LSmallComputer$Keyboard;" ∈ lw_tbl := List.mem_of_getElem? (i := 259) (by decide +kernel)
theorem mw_214 : Cond.fieldLink R_Por 21 "SmallComputer$Ports" "channel" "LSmallComputer$Channel;" ∈ lw_tbl := List.mem_of_getElem? (i := 260) (by decide +kernel)
theorem mw_215 : Cond.fieldLink R_Por 36 "SmallComputer$Controller" "masked" "I" ∈ lw_tbl := List.mem_of_getElem? (i := 161) (by decide +kernel)
set_option maxRecDepth 100000 in
theorem wf_Por : ∀ w ∈ (pF pt_Por).flatMap (wF R_Por), w ∈ lw_tbl := List.forall_mem_cons.mpr ⟨mw_211, List.forall_mem_cons.mpr ⟨mw_212, List.forall_mem_cons.mpr ⟨mw_213, List.forall_mem_cons.mpr ⟨mw_214, List.forall_mem_cons.mpr ⟨mw_215, fun _ h => absurd h List.not_mem_nil⟩⟩⟩⟩⟩
theorem mw_216 : Cond.methodLink R_Por 25 y_Cha_answerDone ∈ lw_tbl := List.mem_of_getElem? (i := 624) (by decide +kernel)
theorem mw_217 : Cond.instanceMethod y_Cha_answerDone ∈ lw_tbl := List.mem_of_getElem? (i := 625) (by decide +kernel)
theorem mw_218 : Cond.selects R_Cha y_Cha_answerDone y_Cha_answerDone ∈ lw_tbl := List.mem_of_getElem? (i := 626) (by decide +kernel)
set_option maxRecDepth 100000 in
theorem mw_219 : Cond.code y_Cha_answerDone b_Cha_answerDone 2 (some .int) ∈ lw_tbl := List.mem_of_getElem? (i := 627) rfl
theorem mw_220 : Cond.methodLink R_Por 31 y_Ctl_shown ∈ lw_tbl := List.mem_of_getElem? (i := 628) (by decide +kernel)
theorem mw_221 : Cond.instanceMethod y_Ctl_shown ∈ lw_tbl := List.mem_of_getElem? (i := 629) (by decide +kernel)
theorem mw_222 : Cond.selects R_Ctl y_Ctl_shown y_Ctl_shown ∈ lw_tbl := List.mem_of_getElem? (i := 630) (by decide +kernel)
set_option maxRecDepth 100000 in
theorem mw_223 : Cond.code y_Ctl_shown b_Ctl_shown 1 (some .int) ∈ lw_tbl := List.mem_of_getElem? (i := 631) rfl
theorem mw_224 : Cond.methodLink R_Por 40 y_Tim_answer ∈ lw_tbl := List.mem_of_getElem? (i := 632) (by decide +kernel)
theorem mw_225 : Cond.instanceMethod y_Tim_answer ∈ lw_tbl := List.mem_of_getElem? (i := 633) (by decide +kernel)
theorem mw_226 : Cond.selects R_Tim y_Tim_answer y_Tim_answer ∈ lw_tbl := List.mem_of_getElem? (i := 634) (by decide +kernel)
set_option maxRecDepth 100000 in
theorem mw_227 : Cond.code y_Tim_answer b_Tim_answer 2 (some .int) ∈ lw_tbl := List.mem_of_getElem? (i := 635) rfl
theorem mw_228 : Cond.methodLink R_Por 45 y_Key_take ∈ lw_tbl := List.mem_of_getElem? (i := 637) (by decide +kernel)
theorem mw_229 : Cond.instanceMethod y_Key_take ∈ lw_tbl := List.mem_of_getElem? (i := 638) (by decide +kernel)
theorem mw_230 : Cond.selects R_Key y_Key_take y_Key_take ∈ lw_tbl := List.mem_of_getElem? (i := 639) (by decide +kernel)
set_option maxRecDepth 100000 in
theorem mw_231 : Cond.code y_Key_take b_Key_take 3 (some .int) ∈ lw_tbl := List.mem_of_getElem? (i := 640) rfl
theorem mw_232 : Cond.methodLink R_Por 50 y_Key_answerWaiting ∈ lw_tbl := List.mem_of_getElem? (i := 642) (by decide +kernel)
theorem mw_233 : Cond.instanceMethod y_Key_answerWaiting ∈ lw_tbl := List.mem_of_getElem? (i := 643) (by decide +kernel)
theorem mw_234 : Cond.selects R_Key y_Key_answerWaiting y_Key_answerWaiting ∈ lw_tbl := List.mem_of_getElem? (i := 644) (by decide +kernel)
set_option maxRecDepth 100000 in
theorem mw_235 : Cond.code y_Key_answerWaiting b_Key_answerWaiting 1 (some .int) ∈ lw_tbl := List.mem_of_getElem? (i := 645) rfl
theorem mw_236 : Cond.methodLink R_Por 53 y_Cha_getPlace ∈ lw_tbl := List.mem_of_getElem? (i := 650) (by decide +kernel)
theorem mw_237 : Cond.instanceMethod y_Cha_getPlace ∈ lw_tbl := List.mem_of_getElem? (i := 651) (by decide +kernel)
theorem mw_238 : Cond.selects R_Cha y_Cha_getPlace y_Cha_getPlace ∈ lw_tbl := List.mem_of_getElem? (i := 652) (by decide +kernel)
set_option maxRecDepth 100000 in
theorem mw_239 : Cond.code y_Cha_getPlace b_Cha_getPlace 2 none ∈ lw_tbl := List.mem_of_getElem? (i := 653) rfl
theorem mw_240 : Cond.methodLink R_Por 57 y_Cha_getLeft ∈ lw_tbl := List.mem_of_getElem? (i := 654) (by decide +kernel)
theorem mw_241 : Cond.instanceMethod y_Cha_getLeft ∈ lw_tbl := List.mem_of_getElem? (i := 655) (by decide +kernel)
theorem mw_242 : Cond.selects R_Cha y_Cha_getLeft y_Cha_getLeft ∈ lw_tbl := List.mem_of_getElem? (i := 656) (by decide +kernel)
set_option maxRecDepth 100000 in
theorem mw_243 : Cond.code y_Cha_getLeft b_Cha_getLeft 2 none ∈ lw_tbl := List.mem_of_getElem? (i := 657) rfl
theorem mw_244 : Cond.methodLink R_Por 60 y_Cha_getMask ∈ lw_tbl := List.mem_of_getElem? (i := 659) (by decide +kernel)
theorem mw_245 : Cond.instanceMethod y_Cha_getMask ∈ lw_tbl := List.mem_of_getElem? (i := 660) (by decide +kernel)
theorem mw_246 : Cond.selects R_Cha y_Cha_getMask y_Cha_getMask ∈ lw_tbl := List.mem_of_getElem? (i := 661) (by decide +kernel)
set_option maxRecDepth 100000 in
theorem mw_247 : Cond.code y_Cha_getMask b_Cha_getMask 2 none ∈ lw_tbl := List.mem_of_getElem? (i := 662) rfl
theorem mw_248 : Cond.methodLink R_Por 63 y_Cha_beginTurn ∈ lw_tbl := List.mem_of_getElem? (i := 663) (by decide +kernel)
theorem mw_249 : Cond.instanceMethod y_Cha_beginTurn ∈ lw_tbl := List.mem_of_getElem? (i := 664) (by decide +kernel)
theorem mw_250 : Cond.selects R_Cha y_Cha_beginTurn y_Cha_beginTurn ∈ lw_tbl := List.mem_of_getElem? (i := 665) (by decide +kernel)
set_option maxRecDepth 100000 in
theorem mw_251 : Cond.code y_Cha_beginTurn b_Cha_beginTurn 1 none ∈ lw_tbl := List.mem_of_getElem? (i := 666) rfl
theorem mw_252 : Cond.methodLink R_Por 66 y_Ctl_command ∈ lw_tbl := List.mem_of_getElem? (i := 667) (by decide +kernel)
theorem mw_253 : Cond.instanceMethod y_Ctl_command ∈ lw_tbl := List.mem_of_getElem? (i := 668) (by decide +kernel)
theorem mw_254 : Cond.selects R_Ctl y_Ctl_command y_Ctl_command ∈ lw_tbl := List.mem_of_getElem? (i := 669) (by decide +kernel)
set_option maxRecDepth 100000 in
theorem mw_255 : Cond.code y_Ctl_command b_Ctl_command 2 none ∈ lw_tbl := List.mem_of_getElem? (i := 670) rfl
theorem mw_256 : Cond.methodLink R_Por 69 y_Tim_get ∈ lw_tbl := List.mem_of_getElem? (i := 671) (by decide +kernel)
theorem mw_257 : Cond.instanceMethod y_Tim_get ∈ lw_tbl := List.mem_of_getElem? (i := 672) (by decide +kernel)
theorem mw_258 : Cond.selects R_Tim y_Tim_get y_Tim_get ∈ lw_tbl := List.mem_of_getElem? (i := 673) (by decide +kernel)
set_option maxRecDepth 100000 in
theorem mw_259 : Cond.code y_Tim_get b_Tim_get 3 none ∈ lw_tbl := List.mem_of_getElem? (i := 674) rfl
theorem mw_260 : Cond.methodLink R_Por 72 y_Cha_getPage ∈ lw_tbl := List.mem_of_getElem? (i := 676) (by decide +kernel)
theorem mw_261 : Cond.instanceMethod y_Cha_getPage ∈ lw_tbl := List.mem_of_getElem? (i := 677) (by decide +kernel)
theorem mw_262 : Cond.selects R_Cha y_Cha_getPage y_Cha_getPage ∈ lw_tbl := List.mem_of_getElem? (i := 678) (by decide +kernel)
set_option maxRecDepth 100000 in
theorem mw_263 : Cond.code y_Cha_getPage b_Cha_getPage 2 none ∈ lw_tbl := List.mem_of_getElem? (i := 679) rfl
set_option maxRecDepth 100000 in
theorem wv_Por : ∀ w ∈ (pV pt_Por).flatMap (wV R_Por), w ∈ lw_tbl := List.forall_mem_cons.mpr ⟨mw_216, List.forall_mem_cons.mpr ⟨mw_217, List.forall_mem_cons.mpr ⟨mw_218, List.forall_mem_cons.mpr ⟨mw_143, List.forall_mem_cons.mpr ⟨mw_219, List.forall_mem_cons.mpr ⟨mw_220, List.forall_mem_cons.mpr ⟨mw_221, List.forall_mem_cons.mpr ⟨mw_222, List.forall_mem_cons.mpr ⟨mw_192, List.forall_mem_cons.mpr ⟨mw_223, List.forall_mem_cons.mpr ⟨mw_224, List.forall_mem_cons.mpr ⟨mw_225, List.forall_mem_cons.mpr ⟨mw_226, List.forall_mem_cons.mpr ⟨mw_128, List.forall_mem_cons.mpr ⟨mw_227, List.forall_mem_cons.mpr ⟨mw_228, List.forall_mem_cons.mpr ⟨mw_229, List.forall_mem_cons.mpr ⟨mw_230, List.forall_mem_cons.mpr ⟨mw_138, List.forall_mem_cons.mpr ⟨mw_231, List.forall_mem_cons.mpr ⟨mw_232, List.forall_mem_cons.mpr ⟨mw_233, List.forall_mem_cons.mpr ⟨mw_234, List.forall_mem_cons.mpr ⟨mw_138, List.forall_mem_cons.mpr ⟨mw_235, List.forall_mem_cons.mpr ⟨mw_236, List.forall_mem_cons.mpr ⟨mw_237, List.forall_mem_cons.mpr ⟨mw_238, List.forall_mem_cons.mpr ⟨mw_143, List.forall_mem_cons.mpr ⟨mw_239, List.forall_mem_cons.mpr ⟨mw_240, List.forall_mem_cons.mpr ⟨mw_241, List.forall_mem_cons.mpr ⟨mw_242, List.forall_mem_cons.mpr ⟨mw_143, List.forall_mem_cons.mpr ⟨mw_243, List.forall_mem_cons.mpr ⟨mw_244, List.forall_mem_cons.mpr ⟨mw_245, List.forall_mem_cons.mpr ⟨mw_246, List.forall_mem_cons.mpr ⟨mw_143, List.forall_mem_cons.mpr ⟨mw_247, List.forall_mem_cons.mpr ⟨mw_248, List.forall_mem_cons.mpr ⟨mw_249, List.forall_mem_cons.mpr ⟨mw_250, List.forall_mem_cons.mpr ⟨mw_143, List.forall_mem_cons.mpr ⟨mw_251, List.forall_mem_cons.mpr ⟨mw_252, List.forall_mem_cons.mpr ⟨mw_253, List.forall_mem_cons.mpr ⟨mw_254, List.forall_mem_cons.mpr ⟨mw_192, List.forall_mem_cons.mpr ⟨mw_255, List.forall_mem_cons.mpr ⟨mw_256, List.forall_mem_cons.mpr ⟨mw_257, List.forall_mem_cons.mpr ⟨mw_258, List.forall_mem_cons.mpr ⟨mw_128, List.forall_mem_cons.mpr ⟨mw_259, List.forall_mem_cons.mpr ⟨mw_260, List.forall_mem_cons.mpr ⟨mw_261, List.forall_mem_cons.mpr ⟨mw_262, List.forall_mem_cons.mpr ⟨mw_143, List.forall_mem_cons.mpr ⟨mw_263, fun _ h => absurd h List.not_mem_nil⟩⟩⟩⟩⟩⟩⟩⟩⟩⟩⟩⟩⟩⟩⟩⟩⟩⟩⟩⟩⟩⟩⟩⟩⟩⟩⟩⟩⟩⟩⟩⟩⟩⟩⟩⟩⟩⟩⟩⟩⟩⟩⟩⟩⟩⟩⟩⟩⟩⟩⟩⟩⟩⟩⟩⟩⟩⟩⟩⟩
set_option maxRecDepth 100000 in
theorem wsx_Por : ∀ w ∈ (pS pt_Por).flatMap (wS R_Por), w ∈ lw_tbl := fun _ h => absurd h List.not_mem_nil
set_option maxRecDepth 100000 in
theorem wi_Por : ∀ w ∈ (pI pt_Por).map (wI R_Por), w ∈ lw_tbl := fun _ h => absurd h List.not_mem_nil
set_option maxRecDepth 100000 in
theorem wl_Por : ∀ w ∈ (pL pt_Por).map (wL R_Por), w ∈ lw_tbl := fun _ h => absurd h List.not_mem_nil
theorem wp_Por : ∀ w ∈ wP pt_Por, w ∈ lw_tbl := List.forall_mem_append.mpr ⟨wf_Por, List.forall_mem_append.mpr ⟨wv_Por, List.forall_mem_append.mpr ⟨wsx_Por, List.forall_mem_append.mpr ⟨wi_Por, wl_Por⟩⟩⟩⟩
theorem mw_264 : Cond.fieldLink R_Dec 7 "SmallComputer$Decoder" "memory" "LSmallComputer$Memory;" ∈ lw_tbl := List.mem_of_getElem? (i := 280) (by decide +kernel)
theorem mw_265 : Cond.fieldLink R_Dec 13 "SmallComputer$Decoder" "registers" "LSmallComputer$Registers;" ∈ lw_tbl := List.mem_of_getElem? (i := 281) (by decide +kernel)
theorem mw_266 : Cond.fieldLink R_Dec 17 "SmallComputer$Registers" "ip" "I" ∈ lw_tbl := List.mem_of_getElem? (i := 128) (by decide +kernel)
theorem mw_267 : Cond.fieldLink R_Dec 23 "SmallComputer$Decoder" "first" "I" ∈ lw_tbl := List.mem_of_getElem? (i := 282) (by decide +kernel)
theorem mw_268 : Cond.fieldLink R_Dec 26 "SmallComputer$Decoder" "prefixSegment" "I" ∈ lw_tbl := List.mem_of_getElem? (i := 294) (by decide +kernel)
theorem mw_269 : Cond.fieldLink R_Dec 29 "SmallComputer$Decoder" "repeat" "I" ∈ lw_tbl := List.mem_of_getElem? (i := 286) (by decide +kernel)
theorem mw_270 : Cond.fieldLink R_Dec 36 "SmallComputer$Decoder" "code" "I" ∈ lw_tbl := List.mem_of_getElem? (i := 284) (by decide +kernel)
theorem mw_271 : Cond.fieldLink R_Dec 39 "SmallComputer$Registers" "segments" "[I" ∈ lw_tbl := List.mem_of_getElem? (i := 124) (by decide +kernel)
theorem mw_272 : Cond.fieldLink R_Dec 53 "SmallComputer$Decoder" "\x72" "I" ∈ lw_tbl := List.mem_of_getElem? (i := 289) (by decide +kernel)
theorem mw_273 : Cond.fieldLink R_Dec 56 "SmallComputer$Decoder" "x" "I" ∈ lw_tbl := List.mem_of_getElem? (i := 295) (by decide +kernel)
theorem mw_274 : Cond.fieldLink R_Dec 59 "SmallComputer$Decoder" "wide" "Z" ∈ lw_tbl := List.mem_of_getElem? (i := 297) (by decide +kernel)
theorem mw_275 : Cond.fieldLink R_Dec 63 "SmallComputer$Decoder" "inMemory" "Z" ∈ lw_tbl := List.mem_of_getElem? (i := 292) (by decide +kernel)
theorem mw_276 : Cond.fieldLink R_Dec 69 "SmallComputer$Decoder" "offset" "I" ∈ lw_tbl := List.mem_of_getElem? (i := 290) (by decide +kernel)
theorem mw_277 : Cond.fieldLink R_Dec 76 "SmallComputer$Decoder" "segment" "I" ∈ lw_tbl := List.mem_of_getElem? (i := 296) (by decide +kernel)
theorem mw_278 : Cond.fieldLink R_Dec 91 "SmallComputer$Registers" "words" "[I" ∈ lw_tbl := List.mem_of_getElem? (i := 122) (by decide +kernel)
set_option maxRecDepth 100000 in
theorem wf_Dec : ∀ w ∈ (pF pt_Dec).flatMap (wF R_Dec), w ∈ lw_tbl := List.forall_mem_cons.mpr ⟨mw_264, List.forall_mem_cons.mpr ⟨mw_265, List.forall_mem_cons.mpr ⟨mw_266, List.forall_mem_cons.mpr ⟨mw_267, List.forall_mem_cons.mpr ⟨mw_268, List.forall_mem_cons.mpr ⟨mw_269, List.forall_mem_cons.mpr ⟨mw_270, List.forall_mem_cons.mpr ⟨mw_271, List.forall_mem_cons.mpr ⟨mw_272, List.forall_mem_cons.mpr ⟨mw_273, List.forall_mem_cons.mpr ⟨mw_274, List.forall_mem_cons.mpr ⟨mw_275, List.forall_mem_cons.mpr ⟨mw_276, List.forall_mem_cons.mpr ⟨mw_277, List.forall_mem_cons.mpr ⟨mw_278, fun _ h => absurd h List.not_mem_nil⟩⟩⟩⟩⟩⟩⟩⟩⟩⟩⟩⟩⟩⟩⟩
theorem mw_279 : Cond.methodLink R_Dec 32 y_Dec_nextByte ∈ lw_tbl := List.mem_of_getElem? (i := 464) (by decide +kernel)
theorem mw_280 : Cond.instanceMethod y_Dec_nextByte ∈ lw_tbl := List.mem_of_getElem? (i := 465) (by decide +kernel)
theorem mw_281 : Cond.selects R_Dec y_Dec_nextByte y_Dec_nextByte ∈ lw_tbl := List.mem_of_getElem? (i := 466) (by decide +kernel)
theorem mw_282 : Cond.initialized R_Dec ∈ lw_tbl := List.mem_of_getElem? (i := 92) (by decide +kernel)
set_option maxRecDepth 100000 in
theorem mw_283 : Cond.code y_Dec_nextByte b_Dec_nextByte 2 (some .int) ∈ lw_tbl := List.mem_of_getElem? (i := 467) rfl
theorem mw_284 : Cond.methodLink R_Dec 43 y_Mem_fetch ∈ lw_tbl := List.mem_of_getElem? (i := 468) (by decide +kernel)
theorem mw_285 : Cond.instanceMethod y_Mem_fetch ∈ lw_tbl := List.mem_of_getElem? (i := 457) (by decide +kernel)
theorem mw_286 : Cond.selects R_Mem y_Mem_fetch y_Mem_fetch ∈ lw_tbl := List.mem_of_getElem? (i := 458) (by decide +kernel)
set_option maxRecDepth 100000 in
theorem mw_287 : Cond.code y_Mem_fetch b_Mem_fetch 6 (some .int) ∈ lw_tbl := List.mem_of_getElem? (i := 459) rfl
theorem mw_288 : Cond.methodLink R_Dec 50 y_Dec_nextWord ∈ lw_tbl := List.mem_of_getElem? (i := 482) (by decide +kernel)
theorem mw_289 : Cond.instanceMethod y_Dec_nextWord ∈ lw_tbl := List.mem_of_getElem? (i := 483) (by decide +kernel)
theorem mw_290 : Cond.selects R_Dec y_Dec_nextWord y_Dec_nextWord ∈ lw_tbl := List.mem_of_getElem? (i := 484) (by decide +kernel)
set_option maxRecDepth 100000 in
theorem mw_291 : Cond.code y_Dec_nextWord b_Dec_nextWord 2 (some .int) ∈ lw_tbl := List.mem_of_getElem? (i := 485) rfl
theorem mw_292 : Cond.methodLink R_Dec 66 y_Dec_base ∈ lw_tbl := List.mem_of_getElem? (i := 522) (by decide +kernel)
theorem mw_293 : Cond.instanceMethod y_Dec_base ∈ lw_tbl := List.mem_of_getElem? (i := 524) (by decide +kernel)
theorem mw_294 : Cond.selects R_Dec y_Dec_base y_Dec_base ∈ lw_tbl := List.mem_of_getElem? (i := 7) (by decide +kernel)
set_option maxRecDepth 100000 in
theorem mw_295 : Cond.code y_Dec_base b_Dec_base 2 (some .int) ∈ lw_tbl := List.mem_of_getElem? (i := 525) rfl
theorem mw_296 : Cond.methodLink R_Dec 72 y_Dec_segmentOr ∈ lw_tbl := List.mem_of_getElem? (i := 526) (by decide +kernel)
theorem mw_297 : Cond.instanceMethod y_Dec_segmentOr ∈ lw_tbl := List.mem_of_getElem? (i := 527) (by decide +kernel)
theorem mw_298 : Cond.selects R_Dec y_Dec_segmentOr y_Dec_segmentOr ∈ lw_tbl := List.mem_of_getElem? (i := 528) (by decide +kernel)
set_option maxRecDepth 100000 in
theorem mw_299 : Cond.code y_Dec_segmentOr b_Dec_segmentOr 2 (some .int) ∈ lw_tbl := List.mem_of_getElem? (i := 529) rfl
theorem mw_300 : Cond.methodLink R_Dec 79 y_Reg_value ∈ lw_tbl := List.mem_of_getElem? (i := 534) (by decide +kernel)
theorem mw_301 : Cond.instanceMethod y_Reg_value ∈ lw_tbl := List.mem_of_getElem? (i := 487) (by decide +kernel)
theorem mw_302 : Cond.selects R_Reg y_Reg_value y_Reg_value ∈ lw_tbl := List.mem_of_getElem? (i := 488) (by decide +kernel)
theorem mw_303 : Cond.initialized R_Reg ∈ lw_tbl := List.mem_of_getElem? (i := 84) (by decide +kernel)
set_option maxRecDepth 100000 in
theorem mw_304 : Cond.code y_Reg_value b_Reg_value 4 (some .int) ∈ lw_tbl := List.mem_of_getElem? (i := 489) rfl
theorem mw_305 : Cond.methodLink R_Dec 83 y_Mem_store ∈ lw_tbl := List.mem_of_getElem? (i := 539) (by decide +kernel)
theorem mw_306 : Cond.instanceMethod y_Mem_store ∈ lw_tbl := List.mem_of_getElem? (i := 449) (by decide +kernel)
theorem mw_307 : Cond.selects R_Mem y_Mem_store y_Mem_store ∈ lw_tbl := List.mem_of_getElem? (i := 450) (by decide +kernel)
set_option maxRecDepth 100000 in
theorem mw_308 : Cond.code y_Mem_store b_Mem_store 6 none ∈ lw_tbl := List.mem_of_getElem? (i := 451) rfl
theorem mw_309 : Cond.methodLink R_Dec 87 y_Reg_change ∈ lw_tbl := List.mem_of_getElem? (i := 540) (by decide +kernel)
theorem mw_310 : Cond.instanceMethod y_Reg_change ∈ lw_tbl := List.mem_of_getElem? (i := 513) (by decide +kernel)
theorem mw_311 : Cond.selects R_Reg y_Reg_change y_Reg_change ∈ lw_tbl := List.mem_of_getElem? (i := 514) (by decide +kernel)
set_option maxRecDepth 100000 in
theorem mw_312 : Cond.code y_Reg_change b_Reg_change 4 none ∈ lw_tbl := List.mem_of_getElem? (i := 515) rfl
set_option maxRecDepth 100000 in
theorem wv_Dec : ∀ w ∈ (pV pt_Dec).flatMap (wV R_Dec), w ∈ lw_tbl := List.forall_mem_cons.mpr ⟨mw_279, List.forall_mem_cons.mpr ⟨mw_280, List.forall_mem_cons.mpr ⟨mw_281, List.forall_mem_cons.mpr ⟨mw_282, List.forall_mem_cons.mpr ⟨mw_283, List.forall_mem_cons.mpr ⟨mw_284, List.forall_mem_cons.mpr ⟨mw_285, List.forall_mem_cons.mpr ⟨mw_286, List.forall_mem_cons.mpr ⟨mw_119, List.forall_mem_cons.mpr ⟨mw_287, List.forall_mem_cons.mpr ⟨mw_288, List.forall_mem_cons.mpr ⟨mw_289, List.forall_mem_cons.mpr ⟨mw_290, List.forall_mem_cons.mpr ⟨mw_282, List.forall_mem_cons.mpr ⟨mw_291, List.forall_mem_cons.mpr ⟨mw_292, List.forall_mem_cons.mpr ⟨mw_293, List.forall_mem_cons.mpr ⟨mw_294, List.forall_mem_cons.mpr ⟨mw_282, List.forall_mem_cons.mpr ⟨mw_295, List.forall_mem_cons.mpr ⟨mw_296, List.forall_mem_cons.mpr ⟨mw_297, List.forall_mem_cons.mpr ⟨mw_298, List.forall_mem_cons.mpr ⟨mw_282, List.forall_mem_cons.mpr ⟨mw_299, List.forall_mem_cons.mpr ⟨mw_300, List.forall_mem_cons.mpr ⟨mw_301, List.forall_mem_cons.mpr ⟨mw_302, List.forall_mem_cons.mpr ⟨mw_303, List.forall_mem_cons.mpr ⟨mw_304, List.forall_mem_cons.mpr ⟨mw_305, List.forall_mem_cons.mpr ⟨mw_306, List.forall_mem_cons.mpr ⟨mw_307, List.forall_mem_cons.mpr ⟨mw_119, List.forall_mem_cons.mpr ⟨mw_308, List.forall_mem_cons.mpr ⟨mw_309, List.forall_mem_cons.mpr ⟨mw_310, List.forall_mem_cons.mpr ⟨mw_311, List.forall_mem_cons.mpr ⟨mw_303, List.forall_mem_cons.mpr ⟨mw_312, fun _ h => absurd h List.not_mem_nil⟩⟩⟩⟩⟩⟩⟩⟩⟩⟩⟩⟩⟩⟩⟩⟩⟩⟩⟩⟩⟩⟩⟩⟩⟩⟩⟩⟩⟩⟩⟩⟩⟩⟩⟩⟩⟩⟩⟩⟩
set_option maxRecDepth 100000 in
theorem wsx_Dec : ∀ w ∈ (pS pt_Dec).flatMap (wS R_Dec), w ∈ lw_tbl := fun _ h => absurd h List.not_mem_nil
theorem mw_313 : Cond.constant R_Dec 49 (65535) ∈ lw_tbl := List.mem_of_getElem? (i := 469) (by decide +kernel)
set_option maxRecDepth 100000 in
theorem wi_Dec : ∀ w ∈ (pI pt_Dec).map (wI R_Dec), w ∈ lw_tbl := List.forall_mem_cons.mpr ⟨mw_313, fun _ h => absurd h List.not_mem_nil⟩
set_option maxRecDepth 100000 in
theorem wl_Dec : ∀ w ∈ (pL pt_Dec).map (wL R_Dec), w ∈ lw_tbl := fun _ h => absurd h List.not_mem_nil
theorem wp_Dec : ∀ w ∈ wP pt_Dec, w ∈ lw_tbl := List.forall_mem_append.mpr ⟨wf_Dec, List.forall_mem_append.mpr ⟨wv_Dec, List.forall_mem_append.mpr ⟨wsx_Dec, List.forall_mem_append.mpr ⟨wi_Dec, wl_Dec⟩⟩⟩⟩
