section
/-! THE TYPES OF THE TABLES (names come behind) -/
/-- a method: name, bytes, locals, answer, frames and words of locals that its calls need -/
abbrev MI : Type := MethodName × ByteArray × Nat × Option FieldType × Nat × Nat
/-- an item of a block: pc, instruction, length, number, target, pairs of a switch -/
abbrev IT : Type := Nat × Instr × Nat × Int32 × Nat × List (Int32 × Nat)
/-- what a class's pool says: own name; fields (pool index, class, slot, kind: 1 int, 2 boolean, 0 not to be written); methods (pool index, method, arguments, receiver's class); static methods; ints; longs -/
abbrev PT : Type := String × List (Nat × Nat × Nat × Nat) × List (Nat × MI × Nat × Nat) × List (Nat × MI × Nat) × List (Nat × Int32) × List (Nat × Int64)
/-- a cell's shape: an int array of a length, or an object: its class, and for each slot the cell that it names, or a number -/
abbrev Sh : Type := Nat ⊕ (Nat × List (Option Nat))
end
section
def R_SC : String := "SmallComputer"
def F_SC : u_T := fun k => match k with
  | 0 => ("SmallComputer", "memory", "LSmallComputer$Memory;", true)
  | 1 => ("SmallComputer", "registers", "LSmallComputer$Registers;", true)
  | 2 => ("SmallComputer", "flags", "LSmallComputer$Flags;", true)
  | 3 => ("SmallComputer", "controller", "LSmallComputer$Controller;", true)
  | 4 => ("SmallComputer", "timer", "LSmallComputer$Timer;", true)
  | 5 => ("SmallComputer", "keyboard", "LSmallComputer$Keyboard;", true)
  | 6 => ("SmallComputer", "channel", "LSmallComputer$Channel;", true)
  | 7 => ("SmallComputer", "processor", "LSmallComputer$Processor;", true)
  | _ => ("SmallComputer", "place", "I", false)
def R_Mem : String := "SmallComputer$Memory"
def F_Mem : u_T := fun k => match k with
  | _ => ("SmallComputer$Memory", "bytes", "[I", true)
def R_Reg : String := "SmallComputer$Registers"
def F_Reg : u_T := fun k => match k with
  | 0 => ("SmallComputer$Registers", "words", "[I", true)
  | 1 => ("SmallComputer$Registers", "segments", "[I", true)
  | _ => ("SmallComputer$Registers", "ip", "I", false)
def R_Fla : String := "SmallComputer$Flags"
def F_Fla : u_T := fun k => match k with
  | _ => ("SmallComputer$Flags", "word", "I", false)
def R_Ctl : String := "SmallComputer$Controller"
def F_Ctl : u_T := fun k => match k with
  | 0 => ("SmallComputer$Controller", "requested", "I", false)
  | 1 => ("SmallComputer$Controller", "inService", "I", false)
  | 2 => ("SmallComputer$Controller", "masked", "I", false)
  | _ => ("SmallComputer$Controller", "showsInService", "Z", false)
def R_Tim : String := "SmallComputer$Timer"
def F_Tim : u_T := fun k => match k with
  | 0 => ("SmallComputer$Timer", "controller", "LSmallComputer$Controller;", true)
  | 1 => ("SmallComputer$Timer", "current", "I", false)
  | 2 => ("SmallComputer$Timer", "start", "I", false)
  | 3 => ("SmallComputer$Timer", "lowerGot", "I", false)
  | 4 => ("SmallComputer$Timer", "getsHigher", "Z", false)
  | 5 => ("SmallComputer$Timer", "held", "I", false)
  | _ => ("SmallComputer$Timer", "answersHigher", "Z", false)
def R_Key : String := "SmallComputer$Keyboard"
def F_Key : u_T := fun k => match k with
  | 0 => ("SmallComputer$Keyboard", "controller", "LSmallComputer$Controller;", true)
  | 1 => ("SmallComputer$Keyboard", "keys", "[I", true)
  | _ => ("SmallComputer$Keyboard", "waiting", "I", false)
def R_Cha : String := "SmallComputer$Channel"
def F_Cha : u_T := fun k => match k with
  | 0 => ("SmallComputer$Channel", "controller", "LSmallComputer$Controller;", true)
  | 1 => ("SmallComputer$Channel", "memory", "LSmallComputer$Memory;", true)
  | 2 => ("SmallComputer$Channel", "target", "I", false)
  | 3 => ("SmallComputer$Channel", "left", "I", false)
  | 4 => ("SmallComputer$Channel", "page", "I", false)
  | 5 => ("SmallComputer$Channel", "open", "Z", false)
  | 6 => ("SmallComputer$Channel", "done", "Z", false)
  | _ => ("SmallComputer$Channel", "getsHigher", "Z", false)
def R_Por : String := "SmallComputer$Ports"
def F_Por : u_T := fun k => match k with
  | 0 => ("SmallComputer$Ports", "controller", "LSmallComputer$Controller;", true)
  | 1 => ("SmallComputer$Ports", "timer", "LSmallComputer$Timer;", true)
  | 2 => ("SmallComputer$Ports", "keyboard", "LSmallComputer$Keyboard;", true)
  | _ => ("SmallComputer$Ports", "channel", "LSmallComputer$Channel;", true)
def R_Dec : String := "SmallComputer$Decoder"
def F_Dec : u_T := fun k => match k with
  | 0 => ("SmallComputer$Decoder", "memory", "LSmallComputer$Memory;", true)
  | 1 => ("SmallComputer$Decoder", "registers", "LSmallComputer$Registers;", true)
  | 2 => ("SmallComputer$Decoder", "first", "I", false)
  | 3 => ("SmallComputer$Decoder", "code", "I", false)
  | 4 => ("SmallComputer$Decoder", "repeat", "I", false)
  | 5 => ("SmallComputer$Decoder", "\x72", "I", false)
  | 6 => ("SmallComputer$Decoder", "offset", "I", false)
  | 7 => ("SmallComputer$Decoder", "inMemory", "Z", false)
  | 8 => ("SmallComputer$Decoder", "prefixSegment", "I", false)
  | 9 => ("SmallComputer$Decoder", "x", "I", false)
  | 10 => ("SmallComputer$Decoder", "segment", "I", false)
  | _ => ("SmallComputer$Decoder", "wide", "Z", false)
def R_Pro : String := "SmallComputer$Processor"
def F_Pro : u_T := fun k => match k with
  | 0 => ("SmallComputer$Processor", "memory", "LSmallComputer$Memory;", true)
  | 1 => ("SmallComputer$Processor", "registers", "LSmallComputer$Registers;", true)
  | 2 => ("SmallComputer$Processor", "flags", "LSmallComputer$Flags;", true)
  | 3 => ("SmallComputer$Processor", "controller", "LSmallComputer$Controller;", true)
  | 4 => ("SmallComputer$Processor", "ports", "LSmallComputer$Ports;", true)
  | 5 => ("SmallComputer$Processor", "decoder", "LSmallComputer$Decoder;", true)
  | 6 => ("SmallComputer$Processor", "inHalt", "Z", false)
  | 7 => ("SmallComputer$Processor", "interruptsDone", "I", false)
  | _ => ("SmallComputer$Processor", "keepsOff", "Z", false)
def R_Mod : String := "SmallComputerModel"
def F_Mod : u_T := fun k => match k with
  | 0 => ("SmallComputerModel", "memory", "[I", false)
  | 1 => ("SmallComputerModel", "word", "[I", false)
  | 2 => ("SmallComputerModel", "segment", "[I", false)
  | 3 => ("SmallComputerModel", "ip", "I", false)
  | 4 => ("SmallComputerModel", "flags", "I", false)
  | 5 => ("SmallComputerModel", "halt", "Z", false)
  | 6 => ("SmallComputerModel", "shadow", "Z", false)
  | 7 => ("SmallComputerModel", "interrupts", "I", false)
  | 8 => ("SmallComputerModel", "place", "I", false)
  | 9 => ("SmallComputerModel", "began", "I", false)
  | 10 => ("SmallComputerModel", "override", "I", false)
  | 11 => ("SmallComputerModel", "repeat", "I", false)
  | 12 => ("SmallComputerModel", "middle", "I", false)
  | 13 => ("SmallComputerModel", "eRegister", "I", false)
  | 14 => ("SmallComputerModel", "eOffset", "I", false)
  | 15 => ("SmallComputerModel", "eSegment", "I", false)
  | 16 => ("SmallComputerModel", "unknown", "Z", false)
  | 17 => ("SmallComputerModel", "requested", "I", false)
  | 18 => ("SmallComputerModel", "inService", "I", false)
  | 19 => ("SmallComputerModel", "masked", "I", false)
  | 20 => ("SmallComputerModel", "showsService", "Z", false)
  | 21 => ("SmallComputerModel", "runs", "Z", false)
  | 22 => ("SmallComputerModel", "start", "I", false)
  | 23 => ("SmallComputerModel", "count", "I", false)
  | 24 => ("SmallComputerModel", "written", "I", false)
  | 25 => ("SmallComputerModel", "higherComes", "Z", false)
  | 26 => ("SmallComputerModel", "latched", "I", false)
  | 27 => ("SmallComputerModel", "higherAnswered", "Z", false)
  | 28 => ("SmallComputerModel", "keys", "I", false)
  | 29 => ("SmallComputerModel", "waiting", "[I", false)
  | 30 => ("SmallComputerModel", "channelPlace", "I", false)
  | 31 => ("SmallComputerModel", "channelLeft", "I", false)
  | 32 => ("SmallComputerModel", "page", "I", false)
  | 33 => ("SmallComputerModel", "channelHigher", "Z", false)
  | 34 => ("SmallComputerModel", "open", "Z", false)
  | _ => ("SmallComputerModel", "done", "Z", false)
def R_Law : String := "SmallComputerLaw"
def classes : List vw_C := [(R_SC, F_SC, 9), (R_Mem, F_Mem, 1), (R_Reg, F_Reg, 3), (R_Fla, F_Fla, 1), (R_Ctl, F_Ctl, 4), (R_Tim, F_Tim, 7), (R_Key, F_Key, 3), (R_Cha, F_Cha, 8), (R_Por, F_Por, 4), (R_Dec, F_Dec, 12), (R_Pro, F_Pro, 9), (R_Mod, F_Mod, 36)]
def shape : List Sh := [.inr (0, [some 1, some 3, some 6, some 7, some 8, some 9, some 11, some 12, none]), .inr (1, [some 2]), .inl 1024, .inr (2, [some 4, some 5, none]), .inl 8, .inl 4, .inr (3, [none]), .inr (4, [none, none, none, none]), .inr (5, [some 7, none, none, none, none, none, none]), .inr (6, [some 7, some 10, none]), .inl 4, .inr (7, [some 7, some 1, none, none, none, none, none, none]), .inr (10, [some 1, some 3, some 6, some 7, some 13, some 14, none, none, none]), .inr (8, [some 7, some 8, some 9, some 11]), .inr (9, [some 1, some 3, none, none, none, none, none, none, none, none, none, none]), .inr (11, [some 16, some 17, some 18, none, none, none, none, none, none, none, none, none, none, none, none, none, none, none, none, none, none, none, none, none, none, none, none, none, none, some 19, none, none, none, none, none, none]), .inl 1024, .inl 8, .inl 4, .inl 4]
abbrev b_Mem_has : ByteArray := prog_7_method_2_code
def y_Mem_has : MethodName := ⟨R_Mem, "has", "(I)Z"⟩
abbrev mi_Mem_has : MI := (y_Mem_has, b_Mem_has, 1, (some .boolean), 0, 0)
abbrev b_SC_isByte : ByteArray := prog_1_method_15_code
def y_SC_isByte : MethodName := ⟨R_SC, "isByte", "(I)Z"⟩
abbrev mi_SC_isByte : MI := (y_SC_isByte, b_SC_isByte, 1, (some .boolean), 0, 0)
abbrev b_Mem_setByteAt : ByteArray := prog_7_method_4_code
def y_Mem_setByteAt : MethodName := ⟨R_Mem, "setByteAt", "(II)V"⟩
abbrev mi_Mem_setByteAt : MI := (y_Mem_setByteAt, b_Mem_setByteAt, 3, none, 0, 0)
abbrev b_SC_poke : ByteArray := prog_1_method_2_code
def y_SC_poke : MethodName := ⟨R_SC, "poke", "(II)Z"⟩
abbrev mi_SC_poke : MI := (y_SC_poke, b_SC_poke, 3, (some .boolean), 1, 22)
abbrev b_SC_load : ByteArray := prog_1_method_3_code
def y_SC_load : MethodName := ⟨R_SC, "load", "(II)Z"⟩
abbrev mi_SC_load : MI := (y_SC_load, b_SC_load, 4, (some .boolean), 1, 22)
abbrev b_SC_seek : ByteArray := prog_1_method_4_code
def y_SC_seek : MethodName := ⟨R_SC, "seek", "(I)Z"⟩
abbrev mi_SC_seek : MI := (y_SC_seek, b_SC_seek, 2, (some .boolean), 1, 20)
abbrev b_Mem_byteAt : ByteArray := prog_7_method_3_code
def y_Mem_byteAt : MethodName := ⟨R_Mem, "byteAt", "(I)I"⟩
abbrev mi_Mem_byteAt : MI := (y_Mem_byteAt, b_Mem_byteAt, 2, (some .int), 0, 0)
abbrev b_SC_peek : ByteArray := prog_1_method_5_code
def y_SC_peek : MethodName := ⟨R_SC, "peek", "(I)I"⟩
abbrev mi_SC_peek : MI := (y_SC_peek, b_SC_peek, 2, (some .int), 1, 21)
abbrev b_Ctl_request : ByteArray := prog_3_method_2_code
def y_Ctl_request : MethodName := ⟨R_Ctl, "request", "(I)V"⟩
abbrev mi_Ctl_request : MI := (y_Ctl_request, b_Ctl_request, 2, none, 0, 0)
abbrev b_Tim_tick : ByteArray := prog_11_method_2_code
def y_Tim_tick : MethodName := ⟨R_Tim, "tick", "()V"⟩
abbrev mi_Tim_tick : MI := (y_Tim_tick, b_Tim_tick, 1, none, 1, 21)
abbrev b_Fla_on : ByteArray := prog_5_method_2_code
def y_Fla_on : MethodName := ⟨R_Fla, "on", "(I)Z"⟩
abbrev mi_Fla_on : MI := (y_Fla_on, b_Fla_on, 2, (some .boolean), 0, 0)
abbrev b_Ctl_lineToGive : ByteArray := prog_3_method_3_code
def y_Ctl_lineToGive : MethodName := ⟨R_Ctl, "lineToGive", "()I"⟩
abbrev mi_Ctl_lineToGive : MI := (y_Ctl_lineToGive, b_Ctl_lineToGive, 3, (some .int), 0, 0)
abbrev b_Ctl_give : ByteArray := prog_3_method_4_code
def y_Ctl_give : MethodName := ⟨R_Ctl, "give", "(I)V"⟩
abbrev mi_Ctl_give : MI := (y_Ctl_give, b_Ctl_give, 2, none, 0, 0)
abbrev b_Mem_store : ByteArray := prog_7_method_6_code
def y_Mem_store : MethodName := ⟨R_Mem, "store", "(IIZI)V"⟩
abbrev mi_Mem_store : MI := (y_Mem_store, b_Mem_store, 6, none, 0, 0)
abbrev b_Pro_push : ByteArray := prog_9_method_26_code
def y_Pro_push : MethodName := ⟨R_Pro, "push", "(I)V"⟩
abbrev mi_Pro_push : MI := (y_Pro_push, b_Pro_push, 3, none, 1, 25)
abbrev b_Fla_set : ByteArray := prog_5_method_3_code
def y_Fla_set : MethodName := ⟨R_Fla, "set", "(IZ)V"⟩
abbrev mi_Fla_set : MI := (y_Fla_set, b_Fla_set, 3, none, 0, 0)
abbrev b_Mem_fetch : ByteArray := prog_7_method_5_code
def y_Mem_fetch : MethodName := ⟨R_Mem, "fetch", "(IIZ)I"⟩
abbrev mi_Mem_fetch : MI := (y_Mem_fetch, b_Mem_fetch, 6, (some .int), 0, 0)
abbrev b_Pro_interrupt : ByteArray := prog_9_method_25_code
def y_Pro_interrupt : MethodName := ⟨R_Pro, "interrupt", "(I)V"⟩
abbrev mi_Pro_interrupt : MI := (y_Pro_interrupt, b_Pro_interrupt, 3, none, 2, 47)
abbrev b_Dec_nextByte : ByteArray := prog_4_method_3_code
def y_Dec_nextByte : MethodName := ⟨R_Dec, "nextByte", "()I"⟩
abbrev mi_Dec_nextByte : MI := (y_Dec_nextByte, b_Dec_nextByte, 2, (some .int), 1, 25)
abbrev b_Dec_begin : ByteArray := prog_4_method_2_code
def y_Dec_begin : MethodName := ⟨R_Dec, "begin", "()Z"⟩
abbrev mi_Dec_begin : MI := (y_Dec_begin, b_Dec_begin, 2, (some .boolean), 2, 46)
abbrev b_Dec_nextWord : ByteArray := prog_4_method_4_code
def y_Dec_nextWord : MethodName := ⟨R_Dec, "nextWord", "()I"⟩
abbrev mi_Dec_nextWord : MI := (y_Dec_nextWord, b_Dec_nextWord, 2, (some .int), 1, 25)
abbrev b_Dec_nextOf : ByteArray := prog_4_method_6_code
def y_Dec_nextOf : MethodName := ⟨R_Dec, "nextOf", "(Z)I"⟩
abbrev mi_Dec_nextOf : MI := (y_Dec_nextOf, b_Dec_nextOf, 2, (some .int), 2, 46)
abbrev b_Reg_value : ByteArray := prog_10_method_2_code
def y_Reg_value : MethodName := ⟨R_Reg, "value", "(IZ)I"⟩
abbrev mi_Reg_value : MI := (y_Reg_value, b_Reg_value, 4, (some .int), 0, 0)
abbrev b_Fla_mark : ByteArray := prog_5_method_10_code
def y_Fla_mark : MethodName := ⟨R_Fla, "mark", "(IZIZ)V"⟩
abbrev mi_Fla_mark : MI := (y_Fla_mark, b_Fla_mark, 7, none, 0, 0)
abbrev b_Fla_sum : ByteArray := prog_5_method_8_code
def y_Fla_sum : MethodName := ⟨R_Fla, "sum", "(IIIZ)I"⟩
abbrev mi_Fla_sum : MI := (y_Fla_sum, b_Fla_sum, 7, (some .int), 1, 26)
abbrev b_Fla_logic : ByteArray := prog_5_method_9_code
def y_Fla_logic : MethodName := ⟨R_Fla, "logic", "(IZ)I"⟩
abbrev mi_Fla_logic : MI := (y_Fla_logic, b_Fla_logic, 3, (some .int), 1, 26)
abbrev b_Fla_difference : ByteArray := prog_5_method_7_code
def y_Fla_difference : MethodName := ⟨R_Fla, "difference", "(IIIZ)I"⟩
abbrev mi_Fla_difference : MI := (y_Fla_difference, b_Fla_difference, 7, (some .int), 1, 26)
abbrev b_Fla_combine : ByteArray := prog_5_method_4_code
def y_Fla_combine : MethodName := ⟨R_Fla, "combine", "(IIIZ)I"⟩
abbrev mi_Fla_combine : MI := (y_Fla_combine, b_Fla_combine, 6, (some .int), 2, 52)
abbrev b_Reg_change : ByteArray := prog_10_method_3_code
def y_Reg_change : MethodName := ⟨R_Reg, "change", "(IZI)V"⟩
abbrev mi_Reg_change : MI := (y_Reg_change, b_Reg_change, 4, none, 0, 0)
abbrev b_Dec_base : ByteArray := prog_4_method_11_code
def y_Dec_base : MethodName := ⟨R_Dec, "base", "()I"⟩
abbrev mi_Dec_base : MI := (y_Dec_base, b_Dec_base, 2, (some .int), 0, 0)
abbrev b_Dec_segmentOr : ByteArray := prog_4_method_7_code
def y_Dec_segmentOr : MethodName := ⟨R_Dec, "segmentOr", "(I)I"⟩
abbrev mi_Dec_segmentOr : MI := (y_Dec_segmentOr, b_Dec_segmentOr, 2, (some .int), 0, 0)
abbrev b_Dec_readModrm : ByteArray := prog_4_method_8_code
def y_Dec_readModrm : MethodName := ⟨R_Dec, "readModrm", "(Z)V"⟩
abbrev mi_Dec_readModrm : MI := (y_Dec_readModrm, b_Dec_readModrm, 7, none, 2, 46)
abbrev b_Dec_value : ByteArray := prog_4_method_9_code
def y_Dec_value : MethodName := ⟨R_Dec, "value", "()I"⟩
abbrev mi_Dec_value : MI := (y_Dec_value, b_Dec_value, 1, (some .int), 1, 25)
abbrev b_Dec_change : ByteArray := prog_4_method_10_code
def y_Dec_change : MethodName := ⟨R_Dec, "change", "(I)V"⟩
abbrev mi_Dec_change : MI := (y_Dec_change, b_Dec_change, 2, none, 1, 25)
abbrev b_Pro_combine : ByteArray := prog_9_method_4_code
def y_Pro_combine : MethodName := ⟨R_Pro, "combine", "(I)Z"⟩
abbrev mi_Pro_combine : MI := (y_Pro_combine, b_Pro_combine, 6, (some .boolean), 3, 77)
abbrev b_Pro_pop : ByteArray := prog_9_method_27_code
def y_Pro_pop : MethodName := ⟨R_Pro, "pop", "()I"⟩
abbrev mi_Pro_pop : MI := (y_Pro_pop, b_Pro_pop, 2, (some .int), 1, 25)
abbrev b_Pro_segmentOnStack : ByteArray := prog_9_method_6_code
def y_Pro_segmentOnStack : MethodName := ⟨R_Pro, "segmentOnStack", "(I)Z"⟩
abbrev mi_Pro_segmentOnStack : MI := (y_Pro_segmentOnStack, b_Pro_segmentOnStack, 3, (some .boolean), 2, 47)
abbrev b_Fla_oneMore : ByteArray := prog_5_method_5_code
def y_Fla_oneMore : MethodName := ⟨R_Fla, "oneMore", "(IZ)I"⟩
abbrev mi_Fla_oneMore : MI := (y_Fla_oneMore, b_Fla_oneMore, 5, (some .int), 2, 52)
abbrev b_Fla_oneLess : ByteArray := prog_5_method_6_code
def y_Fla_oneLess : MethodName := ⟨R_Fla, "oneLess", "(IZ)I"⟩
abbrev mi_Fla_oneLess : MI := (y_Fla_oneLess, b_Fla_oneLess, 5, (some .int), 2, 52)
abbrev b_Pro_countRegister : ByteArray := prog_9_method_7_code
def y_Pro_countRegister : MethodName := ⟨R_Pro, "countRegister", "(I)Z"⟩
abbrev mi_Pro_countRegister : MI := (y_Pro_countRegister, b_Pro_countRegister, 4, (some .boolean), 3, 76)
abbrev b_Pro_registerOnStack : ByteArray := prog_9_method_8_code
def y_Pro_registerOnStack : MethodName := ⟨R_Pro, "registerOnStack", "(I)Z"⟩
abbrev mi_Pro_registerOnStack : MI := (y_Pro_registerOnStack, b_Pro_registerOnStack, 3, (some .boolean), 2, 47)
abbrev b_Dec_nextSigned : ByteArray := prog_4_method_5_code
def y_Dec_nextSigned : MethodName := ⟨R_Dec, "nextSigned", "()I"⟩
abbrev mi_Dec_nextSigned : MI := (y_Dec_nextSigned, b_Dec_nextSigned, 1, (some .int), 2, 46)
abbrev b_Pro_holds : ByteArray := prog_9_method_10_code
def y_Pro_holds : MethodName := ⟨R_Pro, "holds", "(I)Z"⟩
abbrev mi_Pro_holds : MI := (y_Pro_holds, b_Pro_holds, 3, (some .boolean), 1, 21)
abbrev b_Reg_jump : ByteArray := prog_10_method_4_code
def y_Reg_jump : MethodName := ⟨R_Reg, "jump", "(I)V"⟩
abbrev mi_Reg_jump : MI := (y_Reg_jump, b_Reg_jump, 2, none, 0, 0)
abbrev b_Pro_jumpIf : ByteArray := prog_9_method_9_code
def y_Pro_jumpIf : MethodName := ⟨R_Pro, "jumpIf", "(I)Z"⟩
abbrev mi_Pro_jumpIf : MI := (y_Pro_jumpIf, b_Pro_jumpIf, 3, (some .boolean), 3, 66)
abbrev b_Pro_combineGiven : ByteArray := prog_9_method_5_code
def y_Pro_combineGiven : MethodName := ⟨R_Pro, "combineGiven", "(I)Z"⟩
abbrev mi_Pro_combineGiven : MI := (y_Pro_combineGiven, b_Pro_combineGiven, 4, (some .boolean), 3, 77)
abbrev b_Pro_moveSegmentOrOffset : ByteArray := prog_9_method_12_code
def y_Pro_moveSegmentOrOffset : MethodName := ⟨R_Pro, "moveSegmentOrOffset", "(I)Z"⟩
abbrev mi_Pro_moveSegmentOrOffset : MI := (y_Pro_moveSegmentOrOffset, b_Pro_moveSegmentOrOffset, 3, (some .boolean), 2, 46)
abbrev b_Pro_move : ByteArray := prog_9_method_11_code
def y_Pro_move : MethodName := ⟨R_Pro, "move", "(I)Z"⟩
abbrev mi_Pro_move : MI := (y_Pro_move, b_Pro_move, 3, (some .boolean), 3, 72)
abbrev b_Pro_stringOnce : ByteArray := prog_9_method_15_code
def y_Pro_stringOnce : MethodName := ⟨R_Pro, "stringOnce", "(I)V"⟩
abbrev mi_Pro_stringOnce : MI := (y_Pro_stringOnce, b_Pro_stringOnce, 10, none, 2, 52)
abbrev b_Pro_string : ByteArray := prog_9_method_14_code
def y_Pro_string : MethodName := ⟨R_Pro, "string", "(I)Z"⟩
abbrev mi_Pro_string : MI := (y_Pro_string, b_Pro_string, 4, (some .boolean), 3, 81)
abbrev b_Pro_moveGiven : ByteArray := prog_9_method_13_code
def y_Pro_moveGiven : MethodName := ⟨R_Pro, "moveGiven", "(I)Z"⟩
abbrev mi_Pro_moveGiven : MI := (y_Pro_moveGiven, b_Pro_moveGiven, 3, (some .boolean), 3, 67)
abbrev b_Pro_leave : ByteArray := prog_9_method_16_code
def y_Pro_leave : MethodName := ⟨R_Pro, "leave", "(I)Z"⟩
abbrev mi_Pro_leave : MI := (y_Pro_leave, b_Pro_leave, 2, (some .boolean), 3, 69)
abbrev b_Pro_loop : ByteArray := prog_9_method_18_code
def y_Pro_loop : MethodName := ⟨R_Pro, "loop", "(I)V"⟩
abbrev mi_Pro_loop : MI := (y_Pro_loop, b_Pro_loop, 3, none, 1, 21)
abbrev b_Cha_answerDone : ByteArray := prog_2_method_8_code
def y_Cha_answerDone : MethodName := ⟨R_Cha, "answerDone", "()I"⟩
abbrev mi_Cha_answerDone : MI := (y_Cha_answerDone, b_Cha_answerDone, 2, (some .int), 0, 0)
abbrev b_Ctl_shown : ByteArray := prog_3_method_6_code
def y_Ctl_shown : MethodName := ⟨R_Ctl, "shown", "()I"⟩
abbrev mi_Ctl_shown : MI := (y_Ctl_shown, b_Ctl_shown, 1, (some .int), 0, 0)
abbrev b_Tim_answer : ByteArray := prog_11_method_4_code
def y_Tim_answer : MethodName := ⟨R_Tim, "answer", "()I"⟩
abbrev mi_Tim_answer : MI := (y_Tim_answer, b_Tim_answer, 2, (some .int), 0, 0)
abbrev b_Key_take : ByteArray := prog_6_method_3_code
def y_Key_take : MethodName := ⟨R_Key, "take", "()I"⟩
abbrev mi_Key_take : MI := (y_Key_take, b_Key_take, 3, (some .int), 1, 21)
abbrev b_Key_answerWaiting : ByteArray := prog_6_method_4_code
def y_Key_answerWaiting : MethodName := ⟨R_Key, "answerWaiting", "()I"⟩
abbrev mi_Key_answerWaiting : MI := (y_Key_answerWaiting, b_Key_answerWaiting, 1, (some .int), 0, 0)
abbrev b_Por_answer : ByteArray := prog_8_method_2_code
def y_Por_answer : MethodName := ⟨R_Por, "answer", "(I)I"⟩
abbrev mi_Por_answer : MI := (y_Por_answer, b_Por_answer, 2, (some .int), 2, 43)
abbrev b_Cha_getPlace : ByteArray := prog_2_method_2_code
def y_Cha_getPlace : MethodName := ⟨R_Cha, "getPlace", "(I)V"⟩
abbrev mi_Cha_getPlace : MI := (y_Cha_getPlace, b_Cha_getPlace, 2, none, 0, 0)
abbrev b_Cha_getLeft : ByteArray := prog_2_method_3_code
def y_Cha_getLeft : MethodName := ⟨R_Cha, "getLeft", "(I)V"⟩
abbrev mi_Cha_getLeft : MI := (y_Cha_getLeft, b_Cha_getLeft, 2, none, 0, 0)
abbrev b_Cha_getMask : ByteArray := prog_2_method_6_code
def y_Cha_getMask : MethodName := ⟨R_Cha, "getMask", "(I)V"⟩
abbrev mi_Cha_getMask : MI := (y_Cha_getMask, b_Cha_getMask, 2, none, 0, 0)
abbrev b_Cha_beginTurn : ByteArray := prog_2_method_4_code
def y_Cha_beginTurn : MethodName := ⟨R_Cha, "beginTurn", "()V"⟩
abbrev mi_Cha_beginTurn : MI := (y_Cha_beginTurn, b_Cha_beginTurn, 1, none, 0, 0)
abbrev b_Ctl_command : ByteArray := prog_3_method_5_code
def y_Ctl_command : MethodName := ⟨R_Ctl, "command", "(I)V"⟩
abbrev mi_Ctl_command : MI := (y_Ctl_command, b_Ctl_command, 2, none, 0, 0)
abbrev b_Tim_get : ByteArray := prog_11_method_3_code
def y_Tim_get : MethodName := ⟨R_Tim, "get", "(I)V"⟩
abbrev mi_Tim_get : MI := (y_Tim_get, b_Tim_get, 3, none, 0, 0)
abbrev b_Cha_getPage : ByteArray := prog_2_method_5_code
def y_Cha_getPage : MethodName := ⟨R_Cha, "getPage", "(I)V"⟩
abbrev mi_Cha_getPage : MI := (y_Cha_getPage, b_Cha_getPage, 2, none, 0, 0)
abbrev b_Por_get : ByteArray := prog_8_method_3_code
def y_Por_get : MethodName := ⟨R_Por, "get", "(II)V"⟩
abbrev mi_Por_get : MI := (y_Por_get, b_Por_get, 3, none, 1, 22)
abbrev b_Pro_visit : ByteArray := prog_9_method_19_code
def y_Pro_visit : MethodName := ⟨R_Pro, "visit", "(I)V"⟩
abbrev mi_Pro_visit : MI := (y_Pro_visit, b_Pro_visit, 2, none, 2, 47)
abbrev b_Pro_jumpOrPort : ByteArray := prog_9_method_17_code
def y_Pro_jumpOrPort : MethodName := ⟨R_Pro, "jumpOrPort", "(I)Z"⟩
abbrev mi_Pro_jumpOrPort : MI := (y_Pro_jumpOrPort, b_Pro_jumpOrPort, 2, (some .boolean), 3, 68)
abbrev b_Pro_countOperand : ByteArray := prog_9_method_24_code
def y_Pro_countOperand : MethodName := ⟨R_Pro, "countOperand", "(Z)Z"⟩
abbrev mi_Pro_countOperand : MI := (y_Pro_countOperand, b_Pro_countOperand, 3, (some .boolean), 3, 76)
abbrev b_Pro_multiply : ByteArray := prog_9_method_21_code
def y_Pro_multiply : MethodName := ⟨R_Pro, "multiply", "(IZ)V"⟩
abbrev mi_Pro_multiply : MI := (y_Pro_multiply, b_Pro_multiply, 6, none, 1, 23)
abbrev b_Pro_divide : ByteArray := prog_9_method_22_code
def y_Pro_divide : MethodName := ⟨R_Pro, "divide", "(IZ)Z"⟩
abbrev mi_Pro_divide : MI := (y_Pro_divide, b_Pro_divide, 9, (some .boolean), 0, 0)
abbrev b_Pro_haltOrUnary : ByteArray := prog_9_method_20_code
def y_Pro_haltOrUnary : MethodName := ⟨R_Pro, "haltOrUnary", "(I)Z"⟩
abbrev mi_Pro_haltOrUnary : MI := (y_Pro_haltOrUnary, b_Pro_haltOrUnary, 4, (some .boolean), 3, 72)
abbrev b_Pro_setFlag : ByteArray := prog_9_method_23_code
def y_Pro_setFlag : MethodName := ⟨R_Pro, "setFlag", "(I)Z"⟩
abbrev mi_Pro_setFlag : MI := (y_Pro_setFlag, b_Pro_setFlag, 3, (some .boolean), 1, 22)
abbrev b_Pro_perform : ByteArray := prog_9_method_3_code
def y_Pro_perform : MethodName := ⟨R_Pro, "perform", "(I)Z"⟩
abbrev mi_Pro_perform : MI := (y_Pro_perform, b_Pro_perform, 2, (some .boolean), 4, 104)
abbrev b_Pro_advance : ByteArray := prog_9_method_2_code
def y_Pro_advance : MethodName := ⟨R_Pro, "advance", "()V"⟩
abbrev mi_Pro_advance : MI := (y_Pro_advance, b_Pro_advance, 2, none, 5, 125)
abbrev b_SC_step : ByteArray := prog_1_method_6_code
def y_SC_step : MethodName := ⟨R_SC, "step", "(I)Z"⟩
abbrev mi_SC_step : MI := (y_SC_step, b_SC_step, 3, (some .boolean), 6, 146)
abbrev b_SC_register : ByteArray := prog_1_method_7_code
def y_SC_register : MethodName := ⟨R_SC, "register", "(I)I"⟩
abbrev mi_SC_register : MI := (y_SC_register, b_SC_register, 2, (some .int), 0, 0)
abbrev b_SC_put : ByteArray := prog_1_method_8_code
def y_SC_put : MethodName := ⟨R_SC, "put", "(II)Z"⟩
abbrev mi_SC_put : MI := (y_SC_put, b_SC_put, 4, (some .boolean), 0, 0)
abbrev b_SC_halted : ByteArray := prog_1_method_9_code
def y_SC_halted : MethodName := ⟨R_SC, "halted", "()Z"⟩
abbrev mi_SC_halted : MI := (y_SC_halted, b_SC_halted, 1, (some .boolean), 0, 0)
abbrev b_Key_come : ByteArray := prog_6_method_2_code
def y_Key_come : MethodName := ⟨R_Key, "come", "(I)Z"⟩
abbrev mi_Key_come : MI := (y_Key_come, b_Key_come, 2, (some .boolean), 1, 21)
abbrev b_SC_key : ByteArray := prog_1_method_10_code
def y_SC_key : MethodName := ⟨R_SC, "key", "(I)Z"⟩
abbrev mi_SC_key : MI := (y_SC_key, b_SC_key, 2, (some .boolean), 2, 42)
abbrev b_Cha_come : ByteArray := prog_2_method_7_code
def y_Cha_come : MethodName := ⟨R_Cha, "come", "(I)Z"⟩
abbrev mi_Cha_come : MI := (y_Cha_come, b_Cha_come, 2, (some .boolean), 1, 22)
abbrev b_SC_transfer : ByteArray := prog_1_method_11_code
def y_SC_transfer : MethodName := ⟨R_SC, "transfer", "(I)Z"⟩
abbrev mi_SC_transfer : MI := (y_SC_transfer, b_SC_transfer, 2, (some .boolean), 2, 43)
abbrev b_SC_lines : ByteArray := prog_1_method_12_code
def y_SC_lines : MethodName := ⟨R_SC, "lines", "(I)I"⟩
abbrev mi_SC_lines : MI := (y_SC_lines, b_SC_lines, 2, (some .int), 0, 0)
abbrev b_SC_count : ByteArray := prog_1_method_13_code
def y_SC_count : MethodName := ⟨R_SC, "count", "()I"⟩
abbrev mi_SC_count : MI := (y_SC_count, b_SC_count, 1, (some .int), 0, 0)
abbrev b_SC_interrupts : ByteArray := prog_1_method_14_code
def y_SC_interrupts : MethodName := ⟨R_SC, "interrupts", "()I"⟩
abbrev mi_SC_interrupts : MI := (y_SC_interrupts, b_SC_interrupts, 1, (some .int), 0, 0)
abbrev b_Mod_in : ByteArray := prog_13_method_2_code
def y_Mod_in : MethodName := ⟨R_Mod, "in", "(III)Z"⟩
abbrev mi_Mod_in : MI := (y_Mod_in, b_Mod_in, 3, (some .boolean), 0, 0)
abbrev b_Mod_address : ByteArray := prog_13_method_3_code
def y_Mod_address : MethodName := ⟨R_Mod, "address", "(II)I"⟩
abbrev mi_Mod_address : MI := (y_Mod_address, b_Mod_address, 2, (some .int), 0, 0)
abbrev b_Mod_getByte : ByteArray := prog_13_method_4_code
def y_Mod_getByte : MethodName := ⟨R_Mod, "getByte", "(II)I"⟩
abbrev mi_Mod_getByte : MI := (y_Mod_getByte, b_Mod_getByte, 3, (some .int), 1, 21)
abbrev b_Mod_getWord : ByteArray := prog_13_method_5_code
def y_Mod_getWord : MethodName := ⟨R_Mod, "getWord", "(II)I"⟩
abbrev mi_Mod_getWord : MI := (y_Mod_getWord, b_Mod_getWord, 3, (some .int), 2, 43)
abbrev b_Mod_setByte : ByteArray := prog_13_method_6_code
def y_Mod_setByte : MethodName := ⟨R_Mod, "setByte", "(III)V"⟩
abbrev mi_Mod_setByte : MI := (y_Mod_setByte, b_Mod_setByte, 4, none, 1, 21)
abbrev b_Mod_setWord : ByteArray := prog_13_method_7_code
def y_Mod_setWord : MethodName := ⟨R_Mod, "setWord", "(III)V"⟩
abbrev mi_Mod_setWord : MI := (y_Mod_setWord, b_Mod_setWord, 4, none, 2, 44)
abbrev b_Mod_get : ByteArray := prog_13_method_8_code
def y_Mod_get : MethodName := ⟨R_Mod, "get", "(IIZ)I"⟩
abbrev mi_Mod_get : MI := (y_Mod_get, b_Mod_get, 4, (some .int), 3, 65)
abbrev b_Mod_set : ByteArray := prog_13_method_9_code
def y_Mod_set : MethodName := ⟨R_Mod, "set", "(IIIZ)V"⟩
abbrev mi_Mod_set : MI := (y_Mod_set, b_Mod_set, 5, none, 3, 67)
abbrev b_Mod_next : ByteArray := prog_13_method_10_code
def y_Mod_next : MethodName := ⟨R_Mod, "next", "()I"⟩
abbrev mi_Mod_next : MI := (y_Mod_next, b_Mod_next, 2, (some .int), 2, 43)
abbrev b_Mod_nextWord : ByteArray := prog_13_method_11_code
def y_Mod_nextWord : MethodName := ⟨R_Mod, "nextWord", "()I"⟩
abbrev mi_Mod_nextWord : MI := (y_Mod_nextWord, b_Mod_nextWord, 2, (some .int), 3, 64)
abbrev b_Mod_nextSigned : ByteArray := prog_13_method_12_code
def y_Mod_nextSigned : MethodName := ⟨R_Mod, "nextSigned", "()I"⟩
abbrev mi_Mod_nextSigned : MI := (y_Mod_nextSigned, b_Mod_nextSigned, 2, (some .int), 3, 64)
abbrev b_Mod_immediate : ByteArray := prog_13_method_13_code
def y_Mod_immediate : MethodName := ⟨R_Mod, "immediate", "(Z)I"⟩
abbrev mi_Mod_immediate : MI := (y_Mod_immediate, b_Mod_immediate, 2, (some .int), 4, 85)
abbrev b_Mod_getRegister : ByteArray := prog_13_method_14_code
def y_Mod_getRegister : MethodName := ⟨R_Mod, "getRegister", "(IZ)I"⟩
abbrev mi_Mod_getRegister : MI := (y_Mod_getRegister, b_Mod_getRegister, 3, (some .int), 0, 0)
abbrev b_Mod_setRegister : ByteArray := prog_13_method_15_code
def y_Mod_setRegister : MethodName := ⟨R_Mod, "setRegister", "(IIZ)V"⟩
abbrev mi_Mod_setRegister : MI := (y_Mod_setRegister, b_Mod_setRegister, 4, none, 0, 0)
abbrev b_Mod_readModrm : ByteArray := prog_13_method_16_code
def y_Mod_readModrm : MethodName := ⟨R_Mod, "readModrm", "()V"⟩
abbrev mi_Mod_readModrm : MI := (y_Mod_readModrm, b_Mod_readModrm, 9, none, 4, 85)
abbrev b_Mod_getE : ByteArray := prog_13_method_17_code
def y_Mod_getE : MethodName := ⟨R_Mod, "getE", "(Z)I"⟩
abbrev mi_Mod_getE : MI := (y_Mod_getE, b_Mod_getE, 2, (some .int), 4, 88)
abbrev b_Mod_setE : ByteArray := prog_13_method_18_code
def y_Mod_setE : MethodName := ⟨R_Mod, "setE", "(IZ)V"⟩
abbrev mi_Mod_setE : MI := (y_Mod_setE, b_Mod_setE, 3, none, 4, 91)
abbrev b_Mod_push : ByteArray := prog_13_method_19_code
def y_Mod_push : MethodName := ⟨R_Mod, "push", "(I)V"⟩
abbrev mi_Mod_push : MI := (y_Mod_push, b_Mod_push, 2, none, 3, 67)
abbrev b_Mod_pop : ByteArray := prog_13_method_20_code
def y_Mod_pop : MethodName := ⟨R_Mod, "pop", "()I"⟩
abbrev mi_Mod_pop : MI := (y_Mod_pop, b_Mod_pop, 2, (some .int), 3, 65)
abbrev b_Mod_flag : ByteArray := prog_13_method_21_code
def y_Mod_flag : MethodName := ⟨R_Mod, "flag", "(IZ)V"⟩
abbrev mi_Mod_flag : MI := (y_Mod_flag, b_Mod_flag, 3, none, 0, 0)
abbrev b_Mod_is : ByteArray := prog_13_method_22_code
def y_Mod_is : MethodName := ⟨R_Mod, "is", "(I)Z"⟩
abbrev mi_Mod_is : MI := (y_Mod_is, b_Mod_is, 2, (some .boolean), 0, 0)
abbrev b_Mod_zeroAndSign : ByteArray := prog_13_method_23_code
def y_Mod_zeroAndSign : MethodName := ⟨R_Mod, "zeroAndSign", "(IZ)V"⟩
abbrev mi_Mod_zeroAndSign : MI := (y_Mod_zeroAndSign, b_Mod_zeroAndSign, 3, none, 1, 22)
abbrev b_Mod_signed : ByteArray := prog_13_method_24_code
def y_Mod_signed : MethodName := ⟨R_Mod, "signed", "(IZ)I"⟩
abbrev mi_Mod_signed : MI := (y_Mod_signed, b_Mod_signed, 2, (some .int), 0, 0)
abbrev b_Mod_hasRoom : ByteArray := prog_13_method_25_code
def y_Mod_hasRoom : MethodName := ⟨R_Mod, "hasRoom", "(IZ)Z"⟩
abbrev mi_Mod_hasRoom : MI := (y_Mod_hasRoom, b_Mod_hasRoom, 2, (some .boolean), 1, 22)
abbrev b_Mod_plus : ByteArray := prog_13_method_26_code
def y_Mod_plus : MethodName := ⟨R_Mod, "plus", "(IIIZ)I"⟩
abbrev mi_Mod_plus : MI := (y_Mod_plus, b_Mod_plus, 6, (some .int), 2, 44)
abbrev b_Mod_less : ByteArray := prog_13_method_27_code
def y_Mod_less : MethodName := ⟨R_Mod, "less", "(IIIZ)I"⟩
abbrev mi_Mod_less : MI := (y_Mod_less, b_Mod_less, 6, (some .int), 2, 44)
abbrev b_Mod_logic : ByteArray := prog_13_method_28_code
def y_Mod_logic : MethodName := ⟨R_Mod, "logic", "(IZ)I"⟩
abbrev mi_Mod_logic : MI := (y_Mod_logic, b_Mod_logic, 3, (some .int), 2, 44)
abbrev b_Mod_combine : ByteArray := prog_13_method_29_code
def y_Mod_combine : MethodName := ⟨R_Mod, "combine", "(IIIZ)I"⟩
abbrev mi_Mod_combine : MI := (y_Mod_combine, b_Mod_combine, 6, (some .int), 3, 69)
abbrev b_Mod_byOne : ByteArray := prog_13_method_30_code
def y_Mod_byOne : MethodName := ⟨R_Mod, "byOne", "(IZZ)I"⟩
abbrev mi_Mod_byOne : MI := (y_Mod_byOne, b_Mod_byOne, 6, (some .int), 3, 69)
abbrev b_Mod_interrupt : ByteArray := prog_13_method_31_code
def y_Mod_interrupt : MethodName := ⟨R_Mod, "interrupt", "(I)V"⟩
abbrev mi_Mod_interrupt : MI := (y_Mod_interrupt, b_Mod_interrupt, 3, none, 4, 88)
abbrev b_Mod_given : ByteArray := prog_13_method_32_code
def y_Mod_given : MethodName := ⟨R_Mod, "given", "()I"⟩
abbrev mi_Mod_given : MI := (y_Mod_given, b_Mod_given, 3, (some .int), 0, 0)
abbrev b_Mod_combinations : ByteArray := prog_13_method_33_code
def y_Mod_combinations : MethodName := ⟨R_Mod, "combinations", "(I)V"⟩
abbrev mi_Mod_combinations : MI := (y_Mod_combinations, b_Mod_combinations, 8, none, 5, 113)
abbrev b_Mod_withImmediate : ByteArray := prog_13_method_34_code
def y_Mod_withImmediate : MethodName := ⟨R_Mod, "withImmediate", "(I)V"⟩
abbrev mi_Mod_withImmediate : MI := (y_Mod_withImmediate, b_Mod_withImmediate, 5, none, 5, 113)
abbrev b_Mod_holds : ByteArray := prog_13_method_35_code
def y_Mod_holds : MethodName := ⟨R_Mod, "holds", "(I)Z"⟩
abbrev mi_Mod_holds : MI := (y_Mod_holds, b_Mod_holds, 4, (some .boolean), 1, 21)
abbrev b_Mod_moves : ByteArray := prog_13_method_36_code
def y_Mod_moves : MethodName := ⟨R_Mod, "moves", "(I)V"⟩
abbrev mi_Mod_moves : MI := (y_Mod_moves, b_Mod_moves, 4, none, 5, 113)
abbrev b_Mod_multiply : ByteArray := prog_13_method_37_code
def y_Mod_multiply : MethodName := ⟨R_Mod, "multiply", "(Z)V"⟩
abbrev mi_Mod_multiply : MI := (y_Mod_multiply, b_Mod_multiply, 5, none, 5, 109)
abbrev b_Mod_divide : ByteArray := prog_13_method_38_code
def y_Mod_divide : MethodName := ⟨R_Mod, "divide", "(Z)V"⟩
abbrev mi_Mod_divide : MI := (y_Mod_divide, b_Mod_divide, 10, none, 5, 110)
abbrev b_Mod_ones : ByteArray := prog_13_method_39_code
def y_Mod_ones : MethodName := ⟨R_Mod, "ones", "(I)V"⟩
abbrev mi_Mod_ones : MI := (y_Mod_ones, b_Mod_ones, 4, none, 6, 139)
abbrev b_Mod_go : ByteArray := prog_13_method_40_code
def y_Mod_go : MethodName := ⟨R_Mod, "go", "(IZ)V"⟩
abbrev mi_Mod_go : MI := (y_Mod_go, b_Mod_go, 4, none, 1, 21)
abbrev b_Mod_string : ByteArray := prog_13_method_41_code
def y_Mod_string : MethodName := ⟨R_Mod, "string", "(I)V"⟩
abbrev mi_Mod_string : MI := (y_Mod_string, b_Mod_string, 5, none, 4, 91)
abbrev b_Mod_strings : ByteArray := prog_13_method_42_code
def y_Mod_strings : MethodName := ⟨R_Mod, "strings", "(I)V"⟩
abbrev mi_Mod_strings : MI := (y_Mod_strings, b_Mod_strings, 4, none, 5, 115)
abbrev b_Mod_stack : ByteArray := prog_13_method_43_code
def y_Mod_stack : MethodName := ⟨R_Mod, "stack", "(I)V"⟩
abbrev mi_Mod_stack : MI := (y_Mod_stack, b_Mod_stack, 3, none, 4, 88)
abbrev b_Mod_jumps : ByteArray := prog_13_method_44_code
def y_Mod_jumps : MethodName := ⟨R_Mod, "jumps", "(I)V"⟩
abbrev mi_Mod_jumps : MI := (y_Mod_jumps, b_Mod_jumps, 4, none, 4, 88)
abbrev b_Mod_answerTimer : ByteArray := prog_13_method_51_code
def y_Mod_answerTimer : MethodName := ⟨R_Mod, "answerTimer", "()I"⟩
abbrev mi_Mod_answerTimer : MI := (y_Mod_answerTimer, b_Mod_answerTimer, 2, (some .int), 0, 0)
abbrev b_Mod_request : ByteArray := prog_13_method_49_code
def y_Mod_request : MethodName := ⟨R_Mod, "request", "(I)V"⟩
abbrev mi_Mod_request : MI := (y_Mod_request, b_Mod_request, 2, none, 0, 0)
abbrev b_Mod_answerKey : ByteArray := prog_13_method_52_code
def y_Mod_answerKey : MethodName := ⟨R_Mod, "answerKey", "()I"⟩
abbrev mi_Mod_answerKey : MI := (y_Mod_answerKey, b_Mod_answerKey, 3, (some .int), 1, 21)
abbrev b_Mod_answer : ByteArray := prog_13_method_53_code
def y_Mod_answer : MethodName := ⟨R_Mod, "answer", "(I)I"⟩
abbrev mi_Mod_answer : MI := (y_Mod_answer, b_Mod_answer, 3, (some .int), 2, 43)
abbrev b_Mod_giveController : ByteArray := prog_13_method_54_code
def y_Mod_giveController : MethodName := ⟨R_Mod, "giveController", "(I)V"⟩
abbrev mi_Mod_giveController : MI := (y_Mod_giveController, b_Mod_giveController, 2, none, 0, 0)
abbrev b_Mod_giveTimer : ByteArray := prog_13_method_55_code
def y_Mod_giveTimer : MethodName := ⟨R_Mod, "giveTimer", "(I)V"⟩
abbrev mi_Mod_giveTimer : MI := (y_Mod_giveTimer, b_Mod_giveTimer, 2, none, 0, 0)
abbrev b_Mod_giveChannel : ByteArray := prog_13_method_56_code
def y_Mod_giveChannel : MethodName := ⟨R_Mod, "giveChannel", "(II)V"⟩
abbrev mi_Mod_giveChannel : MI := (y_Mod_giveChannel, b_Mod_giveChannel, 3, none, 0, 0)
abbrev b_Mod_give : ByteArray := prog_13_method_57_code
def y_Mod_give : MethodName := ⟨R_Mod, "give", "(II)V"⟩
abbrev mi_Mod_give : MI := (y_Mod_give, b_Mod_give, 3, none, 1, 22)
abbrev b_Mod_others : ByteArray := prog_13_method_45_code
def y_Mod_others : MethodName := ⟨R_Mod, "others", "(I)V"⟩
abbrev mi_Mod_others : MI := (y_Mod_others, b_Mod_others, 3, none, 5, 110)
abbrev b_Mod_execute : ByteArray := prog_13_method_46_code
def y_Mod_execute : MethodName := ⟨R_Mod, "execute", "(I)V"⟩
abbrev mi_Mod_execute : MI := (y_Mod_execute, b_Mod_execute, 5, none, 7, 162)
abbrev b_Mod_isPrefix : ByteArray := prog_13_method_47_code
def y_Mod_isPrefix : MethodName := ⟨R_Mod, "isPrefix", "(I)Z"⟩
abbrev mi_Mod_isPrefix : MI := (y_Mod_isPrefix, b_Mod_isPrefix, 1, (some .boolean), 0, 0)
abbrev b_Mod_instruct : ByteArray := prog_13_method_48_code
def y_Mod_instruct : MethodName := ⟨R_Mod, "instruct", "()V"⟩
abbrev mi_Mod_instruct : MI := (y_Mod_instruct, b_Mod_instruct, 3, none, 8, 186)
abbrev b_Mod_tickTimer : ByteArray := prog_13_method_50_code
def y_Mod_tickTimer : MethodName := ⟨R_Mod, "tickTimer", "()V"⟩
abbrev mi_Mod_tickTimer : MI := (y_Mod_tickTimer, b_Mod_tickTimer, 1, none, 1, 21)
abbrev b_Mod_oneStep : ByteArray := prog_13_method_58_code
def y_Mod_oneStep : MethodName := ⟨R_Mod, "oneStep", "()V"⟩
abbrev mi_Mod_oneStep : MI := (y_Mod_oneStep, b_Mod_oneStep, 3, none, 9, 208)
abbrev b_Mod_step : ByteArray := prog_13_method_59_code
def y_Mod_step : MethodName := ⟨R_Mod, "step", "(I)Z"⟩
abbrev mi_Mod_step : MI := (y_Mod_step, b_Mod_step, 3, (some .boolean), 10, 230)
abbrev b_Mod_poke : ByteArray := prog_13_method_60_code
def y_Mod_poke : MethodName := ⟨R_Mod, "poke", "(II)Z"⟩
abbrev mi_Mod_poke : MI := (y_Mod_poke, b_Mod_poke, 3, (some .boolean), 1, 22)
abbrev b_Mod_load : ByteArray := prog_13_method_61_code
def y_Mod_load : MethodName := ⟨R_Mod, "load", "(II)Z"⟩
abbrev mi_Mod_load : MI := (y_Mod_load, b_Mod_load, 4, (some .boolean), 1, 22)
abbrev b_Mod_seek : ByteArray := prog_13_method_62_code
def y_Mod_seek : MethodName := ⟨R_Mod, "seek", "(I)Z"⟩
abbrev mi_Mod_seek : MI := (y_Mod_seek, b_Mod_seek, 2, (some .boolean), 1, 22)
abbrev b_Mod_peek : ByteArray := prog_13_method_63_code
def y_Mod_peek : MethodName := ⟨R_Mod, "peek", "(I)I"⟩
abbrev mi_Mod_peek : MI := (y_Mod_peek, b_Mod_peek, 2, (some .int), 1, 22)
abbrev b_Mod_register : ByteArray := prog_13_method_64_code
def y_Mod_register : MethodName := ⟨R_Mod, "register", "(I)I"⟩
abbrev mi_Mod_register : MI := (y_Mod_register, b_Mod_register, 2, (some .int), 1, 22)
abbrev b_Mod_put : ByteArray := prog_13_method_65_code
def y_Mod_put : MethodName := ⟨R_Mod, "put", "(II)Z"⟩
abbrev mi_Mod_put : MI := (y_Mod_put, b_Mod_put, 3, (some .boolean), 1, 22)
abbrev b_Mod_halted : ByteArray := prog_13_method_66_code
def y_Mod_halted : MethodName := ⟨R_Mod, "halted", "()Z"⟩
abbrev mi_Mod_halted : MI := (y_Mod_halted, b_Mod_halted, 1, (some .boolean), 0, 0)
abbrev b_Mod_key : ByteArray := prog_13_method_67_code
def y_Mod_key : MethodName := ⟨R_Mod, "key", "(I)Z"⟩
abbrev mi_Mod_key : MI := (y_Mod_key, b_Mod_key, 2, (some .boolean), 1, 22)
abbrev b_Mod_transfer : ByteArray := prog_13_method_68_code
def y_Mod_transfer : MethodName := ⟨R_Mod, "transfer", "(I)Z"⟩
abbrev mi_Mod_transfer : MI := (y_Mod_transfer, b_Mod_transfer, 2, (some .boolean), 1, 22)
abbrev b_Mod_lines : ByteArray := prog_13_method_69_code
def y_Mod_lines : MethodName := ⟨R_Mod, "lines", "(I)I"⟩
abbrev mi_Mod_lines : MI := (y_Mod_lines, b_Mod_lines, 2, (some .int), 0, 0)
abbrev b_Mod_count : ByteArray := prog_13_method_70_code
def y_Mod_count : MethodName := ⟨R_Mod, "count", "()I"⟩
abbrev mi_Mod_count : MI := (y_Mod_count, b_Mod_count, 1, (some .int), 0, 0)
abbrev b_Mod_interrupts : ByteArray := prog_13_method_71_code
def y_Mod_interrupts : MethodName := ⟨R_Mod, "interrupts", "()I"⟩
abbrev mi_Mod_interrupts : MI := (y_Mod_interrupts, b_Mod_interrupts, 1, (some .int), 0, 0)
abbrev pt_SC : PT := (R_SC, [(10, 0, 0, 0), (19, 0, 1, 0), (26, 0, 2, 0), (33, 0, 3, 0), (42, 0, 4, 0), (49, 0, 5, 0), (58, 0, 6, 0), (72, 0, 7, 0), (76, 2, 0, 0), (80, 2, 2, 1), (84, 0, 8, 1), (108, 2, 1, 0), (111, 3, 0, 1), (115, 10, 6, 2), (123, 4, 0, 1), (126, 4, 1, 1), (129, 4, 2, 1), (132, 5, 1, 1), (135, 10, 7, 1)], [(94, mi_Mem_setByteAt, 2, 1), (98, mi_Mem_byteAt, 1, 1), (102, mi_Tim_tick, 0, 5), (105, mi_Pro_advance, 0, 10), (119, mi_Key_come, 1, 6), (122, mi_Cha_come, 1, 7)], [(87, mi_Mem_has, 1), (91, mi_SC_isByte, 1)], [(114, 65535)], [])
abbrev pt_Mem : PT := (R_Mem, [(9, 1, 0, 0)], [], [], [], [])
abbrev pt_Reg : PT := (R_Reg, [(7, 2, 0, 0), (18, 2, 2, 1)], [], [], [(16, 65535), (17, 65280)], [])
abbrev pt_Fla : PT := (R_Fla, [(9, 3, 0, 1)], [(13, mi_Fla_sum, 4, 3), (17, mi_Fla_logic, 2, 3), (21, mi_Fla_difference, 4, 3), (25, mi_Fla_mark, 4, 3)], [], [(24, 65535), (29, 32768)], [])
abbrev pt_Ctl : PT := (R_Ctl, [(7, 4, 2, 1), (13, 4, 0, 1), (16, 4, 1, 1), (19, 4, 3, 2)], [], [], [], [])
abbrev pt_Tim : PT := (R_Tim, [(7, 5, 0, 0), (13, 5, 1, 1), (17, 5, 2, 1), (26, 5, 4, 2), (30, 5, 3, 1), (34, 5, 6, 2), (37, 5, 5, 1)], [(20, mi_Ctl_request, 1, 4)], [], [(33, 65536), (40, 65535)], [])
abbrev pt_Key : PT := (R_Key, [(9, 6, 1, 0), (13, 6, 0, 0), (17, 6, 2, 1)], [(21, mi_Ctl_request, 1, 4)], [], [], [])
abbrev pt_Cha : PT := (R_Cha, [(7, 7, 0, 0), (13, 7, 1, 0), (17, 7, 7, 2), (21, 7, 2, 1), (25, 7, 3, 1), (29, 7, 4, 1), (32, 7, 5, 2), (41, 7, 6, 2)], [(35, mi_Mem_setByteAt, 2, 1), (44, mi_Ctl_request, 1, 4)], [], [(28, 65280)], [])
abbrev pt_Por : PT := (R_Por, [(7, 8, 0, 0), (13, 8, 1, 0), (17, 8, 2, 0), (21, 8, 3, 0), (36, 4, 2, 1)], [(25, mi_Cha_answerDone, 0, 7), (31, mi_Ctl_shown, 0, 4), (40, mi_Tim_answer, 0, 5), (45, mi_Key_take, 0, 6), (50, mi_Key_answerWaiting, 0, 6), (53, mi_Cha_getPlace, 1, 7), (57, mi_Cha_getLeft, 1, 7), (60, mi_Cha_getMask, 1, 7), (63, mi_Cha_beginTurn, 0, 7), (66, mi_Ctl_command, 1, 4), (69, mi_Tim_get, 1, 5), (72, mi_Cha_getPage, 1, 7)], [], [], [])
abbrev pt_Dec : PT := (R_Dec, [(7, 9, 0, 0), (13, 9, 1, 0), (17, 2, 2, 1), (23, 9, 2, 1), (26, 9, 8, 1), (29, 9, 4, 1), (36, 9, 3, 1), (39, 2, 1, 0), (53, 9, 5, 1), (56, 9, 9, 1), (59, 9, 11, 2), (63, 9, 7, 2), (69, 9, 6, 1), (76, 9, 10, 1), (91, 2, 0, 0)], [(32, mi_Dec_nextByte, 0, 9), (43, mi_Mem_fetch, 3, 1), (50, mi_Dec_nextWord, 0, 9), (66, mi_Dec_base, 0, 9), (72, mi_Dec_segmentOr, 1, 9), (79, mi_Reg_value, 2, 2), (83, mi_Mem_store, 4, 1), (87, mi_Reg_change, 3, 2)], [], [(49, 65535)], [])
abbrev pt_Pro : PT := (R_Pro, [(7, 10, 0, 0), (13, 10, 1, 0), (17, 10, 2, 0), (21, 10, 3, 0), (25, 10, 4, 0), (34, 10, 5, 0), (44, 10, 8, 2), (58, 10, 6, 2), (68, 9, 3, 1), (75, 9, 2, 1), (78, 2, 2, 1), (147, 9, 5, 1), (156, 2, 1, 0), (166, 2, 0, 0), (184, 9, 7, 2), (187, 9, 6, 1), (190, 9, 4, 1), (216, 3, 0, 1), (252, 10, 7, 1)], [(40, mi_Fla_on, 1, 3), (48, mi_Ctl_lineToGive, 0, 4), (54, mi_Ctl_give, 1, 4), (61, mi_Pro_interrupt, 1, 10), (64, mi_Dec_begin, 0, 9), (72, mi_Pro_perform, 1, 10), (83, mi_Pro_combine, 1, 10), (86, mi_Pro_segmentOnStack, 1, 10), (89, mi_Pro_countRegister, 1, 10), (92, mi_Pro_registerOnStack, 1, 10), (95, mi_Pro_jumpIf, 1, 10), (98, mi_Pro_combineGiven, 1, 10), (101, mi_Pro_move, 1, 10), (104, mi_Pro_string, 1, 10), (107, mi_Pro_moveGiven, 1, 10), (110, mi_Pro_leave, 1, 10), (113, mi_Pro_jumpOrPort, 1, 10), (116, mi_Pro_countOperand, 1, 10), (120, mi_Pro_haltOrUnary, 1, 10), (123, mi_Pro_setFlag, 1, 10), (126, mi_Dec_nextOf, 1, 9), (130, mi_Reg_value, 2, 2), (134, mi_Fla_combine, 4, 3), (137, mi_Reg_change, 3, 2), (141, mi_Dec_readModrm, 1, 9), (145, mi_Dec_value, 0, 9), (150, mi_Dec_change, 1, 9), (152, mi_Dec_nextSigned, 0, 9), (160, mi_Pro_push, 1, 10), (163, mi_Pro_pop, 0, 10), (169, mi_Fla_oneMore, 2, 3), (172, mi_Fla_oneLess, 2, 3), (175, mi_Pro_holds, 1, 10), (178, mi_Reg_jump, 1, 2), (181, mi_Pro_moveSegmentOrOffset, 1, 10), (193, mi_Pro_stringOnce, 1, 10), (196, mi_Dec_segmentOr, 1, 9), (200, mi_Mem_fetch, 3, 1), (206, mi_Mem_store, 4, 1), (210, mi_Fla_difference, 4, 3), (213, mi_Dec_nextByte, 0, 9), (219, mi_Pro_loop, 1, 10), (222, mi_Por_answer, 1, 8), (227, mi_Por_get, 2, 8), (231, mi_Dec_nextWord, 0, 9), (234, mi_Pro_visit, 1, 10), (237, mi_Pro_multiply, 2, 10), (241, mi_Pro_divide, 2, 10), (247, mi_Fla_set, 2, 3)], [], [(155, 65535)], [(245, 65535), (250, 255)])
abbrev pt_Mod : PT := (R_Mod, [(7, 11, 0, 0), (13, 11, 1, 0), (16, 11, 2, 0), (19, 11, 29, 0), (22, 11, 3, 1), (26, 11, 8, 1), (29, 11, 19, 1), (58, 11, 12, 1), (61, 11, 13, 1), (67, 11, 14, 1), (70, 11, 10, 1), (73, 11, 15, 1), (92, 11, 4, 1), (132, 11, 7, 1), (135, 11, 17, 1), (138, 11, 18, 1), (157, 11, 16, 2), (161, 11, 6, 2), (187, 11, 11, 1), (193, 11, 9, 1), (210, 11, 5, 2), (243, 11, 21, 2), (246, 11, 23, 1), (249, 11, 22, 1), (255, 11, 27, 2), (258, 11, 26, 1), (261, 11, 28, 1), (264, 11, 20, 2), (273, 11, 35, 2), (276, 11, 25, 2), (279, 11, 24, 1), (283, 11, 33, 2), (286, 11, 30, 1), (289, 11, 31, 1), (301, 11, 32, 1), (304, 11, 34, 2)], [(37, mi_Mod_getByte, 2, 11), (40, mi_Mod_setByte, 3, 11), (44, mi_Mod_getWord, 2, 11), (47, mi_Mod_setWord, 3, 11), (50, mi_Mod_next, 0, 11), (54, mi_Mod_nextWord, 0, 11), (64, mi_Mod_nextSigned, 0, 11), (76, mi_Mod_getRegister, 2, 11), (80, mi_Mod_get, 3, 11), (84, mi_Mod_setRegister, 3, 11), (88, mi_Mod_set, 4, 11), (95, mi_Mod_flag, 2, 11), (111, mi_Mod_zeroAndSign, 2, 11), (114, mi_Mod_is, 1, 11), (118, mi_Mod_plus, 4, 11), (122, mi_Mod_logic, 2, 11), (125, mi_Mod_less, 4, 11), (128, mi_Mod_push, 1, 11), (141, mi_Mod_immediate, 1, 11), (145, mi_Mod_combine, 4, 11), (148, mi_Mod_readModrm, 0, 11), (151, mi_Mod_getE, 1, 11), (154, mi_Mod_setE, 2, 11), (170, mi_Mod_interrupt, 1, 11), (173, mi_Mod_byOne, 3, 11), (177, mi_Mod_multiply, 1, 11), (181, mi_Mod_divide, 1, 11), (184, mi_Mod_go, 2, 11), (190, mi_Mod_string, 1, 11), (196, mi_Mod_pop, 0, 11), (199, mi_Mod_holds, 1, 11), (202, mi_Mod_answer, 1, 11), (206, mi_Mod_give, 2, 11), (213, mi_Mod_combinations, 1, 11), (216, mi_Mod_stack, 1, 11), (219, mi_Mod_jumps, 1, 11), (222, mi_Mod_withImmediate, 1, 11), (225, mi_Mod_moves, 1, 11), (228, mi_Mod_ones, 1, 11), (231, mi_Mod_strings, 1, 11), (234, mi_Mod_others, 1, 11), (240, mi_Mod_execute, 1, 11), (252, mi_Mod_request, 1, 11), (267, mi_Mod_answerTimer, 0, 11), (270, mi_Mod_answerKey, 0, 11), (292, mi_Mod_giveController, 1, 11), (295, mi_Mod_giveTimer, 1, 11), (298, mi_Mod_giveChannel, 2, 11), (307, mi_Mod_tickTimer, 0, 11), (310, mi_Mod_given, 0, 11), (313, mi_Mod_instruct, 0, 11), (316, mi_Mod_oneStep, 0, 11)], [(33, mi_Mod_address, 2), (100, mi_Mod_in, 3), (104, mi_Mod_signed, 2), (107, mi_Mod_hasRoom, 2), (237, mi_Mod_isPrefix, 1)], [(32, 65535), (57, 65280), (99, 32768), (282, 65536)], [(164, 65535), (166, 65536), (168, 255)])
abbrev pt_Law : PT := (R_Law, [], [(13, mi_SC_poke, 2, 0), (17, mi_Mod_poke, 2, 11), (18, mi_SC_load, 2, 0), (21, mi_Mod_load, 2, 11), (22, mi_SC_seek, 1, 0), (26, mi_Mod_seek, 1, 11), (27, mi_SC_peek, 1, 0), (31, mi_Mod_peek, 1, 11), (32, mi_SC_step, 1, 0), (35, mi_Mod_step, 1, 11), (36, mi_SC_register, 1, 0), (39, mi_Mod_register, 1, 11), (40, mi_SC_put, 2, 0), (43, mi_Mod_put, 2, 11), (44, mi_SC_halted, 0, 0), (48, mi_Mod_halted, 0, 11), (49, mi_SC_key, 1, 0), (52, mi_Mod_key, 1, 11), (53, mi_SC_transfer, 1, 0), (56, mi_Mod_transfer, 1, 11), (57, mi_SC_lines, 1, 0), (60, mi_Mod_lines, 1, 11), (61, mi_SC_count, 0, 0), (65, mi_Mod_count, 0, 11), (66, mi_SC_interrupts, 0, 0), (69, mi_Mod_interrupts, 0, 11)], [], [], [])
def pts : List PT := [pt_SC, pt_Mem, pt_Reg, pt_Fla, pt_Ctl, pt_Tim, pt_Key, pt_Cha, pt_Por, pt_Dec, pt_Pro, pt_Mod, pt_Law]
theorem pt_SC_in : pt_SC ∈ pts := List.mem_of_getElem? (i := 0) rfl
theorem pl_SC : plainName R_SC = true := by decide +kernel
theorem pt_Mem_in : pt_Mem ∈ pts := List.mem_of_getElem? (i := 1) rfl
theorem pl_Mem : plainName R_Mem = true := by decide +kernel
theorem pt_Reg_in : pt_Reg ∈ pts := List.mem_of_getElem? (i := 2) rfl
theorem pl_Reg : plainName R_Reg = true := by decide +kernel
theorem pt_Fla_in : pt_Fla ∈ pts := List.mem_of_getElem? (i := 3) rfl
theorem pl_Fla : plainName R_Fla = true := by decide +kernel
theorem pt_Ctl_in : pt_Ctl ∈ pts := List.mem_of_getElem? (i := 4) rfl
theorem pl_Ctl : plainName R_Ctl = true := by decide +kernel
theorem pt_Tim_in : pt_Tim ∈ pts := List.mem_of_getElem? (i := 5) rfl
theorem pl_Tim : plainName R_Tim = true := by decide +kernel
theorem pt_Key_in : pt_Key ∈ pts := List.mem_of_getElem? (i := 6) rfl
theorem pl_Key : plainName R_Key = true := by decide +kernel
theorem pt_Cha_in : pt_Cha ∈ pts := List.mem_of_getElem? (i := 7) rfl
theorem pl_Cha : plainName R_Cha = true := by decide +kernel
theorem pt_Por_in : pt_Por ∈ pts := List.mem_of_getElem? (i := 8) rfl
theorem pl_Por : plainName R_Por = true := by decide +kernel
theorem pt_Dec_in : pt_Dec ∈ pts := List.mem_of_getElem? (i := 9) rfl
theorem pl_Dec : plainName R_Dec = true := by decide +kernel
theorem pt_Pro_in : pt_Pro ∈ pts := List.mem_of_getElem? (i := 10) rfl
theorem pl_Pro : plainName R_Pro = true := by decide +kernel
theorem pt_Mod_in : pt_Mod ∈ pts := List.mem_of_getElem? (i := 11) rfl
theorem pl_Mod : plainName R_Mod = true := by decide +kernel
theorem pt_Law_in : pt_Law ∈ pts := List.mem_of_getElem? (i := 12) rfl
theorem pl_Law : plainName R_Law = true := by decide +kernel
/-! the words, out of the tables -/
def wF (own : String) (q : Nat × Nat × Nat × Nat) : List Cond := match classes[q.2.1]? with
  | some r => [.fieldLink own q.1 (r.2.1 q.2.2.1).1 (r.2.1 q.2.2.1).2.1 (r.2.1 q.2.2.1).2.2.1]
  | none => []
def wV (own : String) (q : Nat × MI × Nat × Nat) : List Cond := [.methodLink own q.1 q.2.1.1, .instanceMethod q.2.1.1, .selects q.2.1.1.cls q.2.1.1 q.2.1.1, .initialized q.2.1.1.cls, .code q.2.1.1 q.2.1.2.1 q.2.1.2.2.1 q.2.1.2.2.2.1]
def wS (own : String) (q : Nat × MI × Nat) : List Cond := [.methodLink own q.1 q.2.1.1, .static q.2.1.1, .initialized q.2.1.1.cls, .code q.2.1.1 q.2.1.2.1 q.2.1.2.2.1 q.2.1.2.2.2.1]
def wI (own : String) (q : Nat × Int32) : Cond := .constant own q.1 q.2
def wL (own : String) (q : Nat × Int64) : Cond := .constantLong own q.1 q.2
def wP (pt : PT) : List Cond := pt.2.1.flatMap (wF pt.1) ++ (pt.2.2.1.flatMap (wV pt.1) ++ (pt.2.2.2.1.flatMap (wS pt.1) ++ (pt.2.2.2.2.1.map (wI pt.1) ++ pt.2.2.2.2.2.map (wL pt.1))))
def WS : List Cond := classes.flatMap (fun r => u_ws r.1 r.2.1 r.2.2) ++ pts.flatMap wP
def fb (q : Nat × Nat × Nat × Nat) : Bool := match classes[q.2.1]? with
  | some r => decide (q.2.2.1 < r.2.2) && ((if q.2.2.2 = 1 then decide ((r.2.1 q.2.2.1).2.2.2 = false) && decide (parseFieldDescriptor (r.2.1 q.2.2.1).2.2.1 = some .int) else true) && (if q.2.2.2 = 2 then decide ((r.2.1 q.2.2.1).2.2.2 = false) && decide (parseFieldDescriptor (r.2.1 q.2.2.1).2.2.1 = some .boolean) else true))
  | none => false
def vb (q : Nat × MI × Nat × Nat) : Bool := (match classes[q.2.2.2]? with
  | some r => decide (r.1 = q.2.1.1.cls)
  | none => false) && (decide (q.2.1.1.cls ≠ "java/lang/invoke/MethodHandle") && (decide (q.2.1.1.cls ≠ "java/lang/invoke/VarHandle") && decide ((parseMethodDescriptor q.2.1.1.desc).map (fun d => d.parameters.length) = some q.2.2.1)))
def sb (q : Nat × MI × Nat) : Bool := decide (q.2.1.1.cls ≠ "java/lang/invoke/MethodHandle") && (decide (q.2.1.1.cls ≠ "java/lang/invoke/VarHandle") && decide ((parseMethodDescriptor q.2.1.1.desc).map (fun d => d.parameters.length) = some q.2.2))
def ptb (pt : PT) : Bool := pt.2.1.all fb && (pt.2.2.1.all vb && pt.2.2.2.1.all sb)
def clb (r : vw_C) : Bool := (List.range r.2.2).all (fun k => (parseFieldDescriptor (r.2.1 k).2.2.1).isSome) && (List.range r.2.2).all (fun a => (List.range r.2.2).all (fun b => decide (a = b) || decide ((r.2.1 a).2.1 ≠ (r.2.1 b).2.1)))
theorem classes_ok : classes.all clb = true := by decide +kernel
theorem pts_ok : pts.all ptb = true := by decide +kernel
theorem WS_good : WS.all goodWord = true := by decide +kernel
end
section
/-! THE ABSTRACT MACHINE: code that makes no objects, over a world of fixed shape; a cell is named by its place in 'shape', all its numbers lie in one function. -/
/-- the state: cell, slot -> number -/
abbrev Sg : Type := Nat → Nat → Int32
def up2 (σ : Sg) (i j : Nat) (v : Int32) : Sg := fun a => if a = i then upd (σ i) j v else σ a
theorem up2_same (σ : Sg) (i j : Nat) (v : Int32) : up2 σ i j v i = upd (σ i) j v := by simp [up2]
theorem up2_ne (σ : Sg) {i a : Nat} (j : Nat) (v : Int32) (h : a ≠ i) : up2 σ i j v a = σ a := by simp [up2, h]
/-- an abstract value: a reference is a cell's place -/
def cv (ad : Nat → Nat) (v : Value) : Value := match v with
  | .ref k => .ref (ad k)
  | w => w
theorem cv_cat (ad : Nat → Nat) (v : Value) : (cv ad v).category = v.category := by cases v <;> rfl
theorem cv_cats (ad : Nat → Nat) (r : List Value) : ((r.map (cv ad)).map fun v => v.category) = r.map fun v => v.category := by
  rw [List.map_map]
  exact List.map_congr_left fun v _ => cv_cat ad v
def fv (ad : Nat → Nat) (σ : Sg) (i j : Nat) (o : Option Nat) : Value := match o with
  | some k => .ref (ad k)
  | none => .int (σ i j)
def ce (ad : Nat → Nat) (cI : ClassId) (σ : Sg) (i : Nat) (sh : Sh) : Nat × va_E := match sh with
  | .inl n => (ad i, .inl (cI, n, .inl (σ i)))
  | .inr o => (ad i, .inr (o.1, o.2.mapIdx (fv ad σ i)))
def pic (ad : Nat → Nat) (cI : ClassId) (σ : Sg) : va_W := shape.mapIdx (ce ad cI σ)
theorem pic_get {ad : Nat → Nat} {cI : ClassId} {σ : Sg} {i : Nat} {sh : Sh} (h : shape[i]? = some sh) : (pic ad cI σ)[i]? = some (ce ad cI σ i sh) := by
  simp [pic, List.getElem?_mapIdx, h]
theorem pic_of {ad : Nat → Nat} {cI : ClassId} {σ : Sg} {i : Nat} {q : Nat × va_E} (h : (pic ad cI σ)[i]? = some q) : ∃ sh, shape[i]? = some sh ∧ q = ce ad cI σ i sh := by
  rw [pic, List.getElem?_mapIdx] at h
  cases hs : shape[i]? with
  | none => rw [hs] at h; cases h
  | some sh => rw [hs] at h; exact ⟨sh, rfl, (Option.some.inj h).symm⟩
theorem ce_1 (ad : Nat → Nat) (cI : ClassId) (σ : Sg) (i : Nat) (sh : Sh) : (ce ad cI σ i sh).1 = ad i := by cases sh <;> rfl
theorem ce_ne {ad : Nat → Nat} {cI : ClassId} {σ : Sg} {i a j : Nat} {v : Int32} {sh : Sh} (h : a ≠ i) : ce ad cI (up2 σ i j v) a sh = ce ad cI σ a sh := by
  have e : fv ad (up2 σ i j v) a = fv ad σ a := by
    funext b o
    cases o <;> simp [fv, up2_ne _ _ _ h]
  cases sh with
  | inl n => simp [ce, up2_ne _ _ _ h]
  | inr o => simp [ce, e]
theorem pic_len (ad : Nat → Nat) (cI : ClassId) (σ : Sg) : (pic ad cI σ).length = shape.length := by simp [pic]
theorem sh_lt {i : Nat} {sh : Sh} (h : shape[i]? = some sh) : i < shape.length := (List.getElem?_eq_some_iff.mp h).1
theorem pic_set {ad : Nat → Nat} {cI : ClassId} {σ : Sg} {i j : Nat} {v : Int32} {sh : Sh} (h : shape[i]? = some sh) : (pic ad cI σ).set i (ce ad cI (up2 σ i j v) i sh) = pic ad cI (up2 σ i j v) := by
  apply List.ext_getElem?
  intro a
  rw [List.getElem?_set]
  by_cases ha : i = a
  · subst ha
    rw [if_pos rfl, if_pos (by rw [pic_len]; exact sh_lt h), pic_get h]
  · rw [if_neg ha]
    simp only [pic, List.getElem?_mapIdx]
    cases hs : shape[a]? with
    | none => rfl
    | some s2 => simp only [Option.map_some]; rw [ce_ne (Ne.symm ha)]
theorem pic_put {ad : Nat → Nat} {cI : ClassId} {σ : Sg} {i ci j : Nat} {v : Int32} {fs : List (Option Nat)} (h : shape[i]? = some (.inr (ci, fs))) (hj : fs[j]? = some none) : (pic ad cI σ).set i (ad i, .inr (ci, (fs.mapIdx (fv ad σ i)).set j (.int v))) = pic ad cI (up2 σ i j v) := by
  rw [← pic_set h]
  congr 1
  show _ = (ad i, Sum.inr (ci, fs.mapIdx (fv ad (up2 σ i j v) i)))
  congr 2
  congr 1
  apply List.ext_getElem?
  intro b
  rw [List.getElem?_set, List.getElem?_mapIdx, List.getElem?_mapIdx, List.length_mapIdx]
  by_cases hb : j = b
  · subst hb
    rw [if_pos rfl, if_pos (List.getElem?_eq_some_iff.mp hj).1, hj]
    simp [fv, up2_same, upd]
  · rw [if_neg hb]
    cases hs : fs[b]? with
    | none => rfl
    | some o =>
      cases o with
      | none => simp [fv, up2_same, upd, Ne.symm hb]
      | some k => simp [fv]
theorem pic_ast {ad : Nat → Nat} {cI : ClassId} {σ : Sg} {i n j : Nat} {v : Int32} (h : shape[i]? = some (.inl n)) : (pic ad cI σ).set i (ad i, .inl (cI, n, .inl (upd (σ i) j v))) = pic ad cI (up2 σ i j v) := by
  rw [← pic_set h]
  congr 1
  simp [ce, up2_same]
/-- the addresses are apart; which they are -/
def IJ (ad : Nat → Nat) : Prop := ∀ i j, i < shape.length → j < shape.length → ad i = ad j → i = j
def AA (ad : Nat → Nat) : Nat → Prop := fun q => ∃ i, i < shape.length ∧ q = ad i
theorem pic_D {ad : Nat → Nat} {cI : ClassId} {A : Nat → Prop} (hJ : IJ ad) (hA : ∀ i, i < shape.length → A (ad i)) (σ : Sg) : va_D A (pic ad cI σ) := by
  refine ⟨fun i j p q hp hq he => ?_, fun k q hq => ?_⟩
  · obtain ⟨s1, h1, rfl⟩ := pic_of hp
    obtain ⟨s2, h2, rfl⟩ := pic_of hq
    rw [ce_1, ce_1] at he
    exact hJ i j (sh_lt h1) (sh_lt h2) he
  · obtain ⟨s1, h1, rfl⟩ := pic_of hq
    rw [ce_1]
    exact hA k (sh_lt h1)
/-- a contract: any heap that holds the picture of σ; it returns r, with the picture of σ', and K r σ' -/
def QJ (ad : Nat → Nat) (D : va_G) (cI : ClassId) (K : Option Value → Sg → Prop) : Array Value → State → Outcome → State → Prop := fun _ st oc t => (∃ (r : Option Value) (σ : Sg), oc = .returned (r.map (cv ad)) ∧ K r σ ∧ va_P D classes (pic ad cI σ) t.heap) ∧ va_F (AA ad) st t
def WB (ad : Nat → Nat) (D : va_G) (cI : ClassId) (σ : Sg) (U : State) : Prop := va_P D classes (pic ad cI σ) U.heap ∧ va_K D classes [(cI, FieldType.int)] U ∧ IJ ad
def rmJ (mi : MI) : Room := { frames := mi.2.2.2.2.1, cells := 0, slots := 0, locals := mi.2.2.2.2.2 }
def wsJ (mi : MI) : List Cond := .code mi.1 mi.2.1 mi.2.2.1 mi.2.2.2.1 :: WS
def MetJ (l : Launch) (ad : Nat → Nat) (D : va_G) (cI : ClassId) (mi : MI) (vs : List Value) (σ : Sg) (K : Option Value → Sg → Prop) : Prop :=
  Met l mi.1 (wsJ mi) (rmJ mi) (va_Pc (vs.map (cv ad)) (WB ad D cI σ)) (QJ ad D cI K) 0 0 (AA ad)
/-! what an instruction asks -/
def qI (st : List Value) (k : Int32 → List Value → Prop) : Prop := match st with
  | .int a :: r => k a r
  | _ => False
def qII (st : List Value) (k : Int32 → Int32 → List Value → Prop) : Prop := match st with
  | .int b :: .int a :: r => k a b r
  | _ => False
def qL (st : List Value) (k : Int64 → List Value → Prop) : Prop := match st with
  | .long a :: r => k a r
  | _ => False
def qLL (st : List Value) (k : Int64 → Int64 → List Value → Prop) : Prop := match st with
  | .long b :: .long a :: r => k a b r
  | _ => False
def qLI (st : List Value) (k : Int64 → Int32 → List Value → Prop) : Prop := match st with
  | .int b :: .long a :: r => k a b r
  | _ => False
def qR (st : List Value) (k : Nat → List Value → Prop) : Prop := match st with
  | .ref a :: r => k a r
  | _ => False
def qIR (st : List Value) (k : Int32 → Nat → List Value → Prop) : Prop := match st with
  | .int x :: .ref a :: r => k x a r
  | _ => False
def qIIR (st : List Value) (k : Int32 → Int32 → Nat → List Value → Prop) : Prop := match st with
  | .int x :: .int i :: .ref a :: r => k x i a r
  | _ => False
theorem qI_e {st : List Value} {k : Int32 → List Value → Prop} (h : qI st k) : ∃ a r, st = .int a :: r ∧ k a r := by
  unfold qI at h
  split at h
  · exact ⟨_, _, rfl, h⟩
  · exact h.elim
theorem qII_e {st : List Value} {k : Int32 → Int32 → List Value → Prop} (h : qII st k) : ∃ a b r, st = .int b :: .int a :: r ∧ k a b r := by
  unfold qII at h
  split at h
  · exact ⟨_, _, _, rfl, h⟩
  · exact h.elim
theorem qL_e {st : List Value} {k : Int64 → List Value → Prop} (h : qL st k) : ∃ a r, st = .long a :: r ∧ k a r := by
  unfold qL at h
  split at h
  · exact ⟨_, _, rfl, h⟩
  · exact h.elim
theorem qLL_e {st : List Value} {k : Int64 → Int64 → List Value → Prop} (h : qLL st k) : ∃ a b r, st = .long b :: .long a :: r ∧ k a b r := by
  unfold qLL at h
  split at h
  · exact ⟨_, _, _, rfl, h⟩
  · exact h.elim
theorem qLI_e {st : List Value} {k : Int64 → Int32 → List Value → Prop} (h : qLI st k) : ∃ a b r, st = .int b :: .long a :: r ∧ k a b r := by
  unfold qLI at h
  split at h
  · exact ⟨_, _, _, rfl, h⟩
  · exact h.elim
theorem qR_e {st : List Value} {k : Nat → List Value → Prop} (h : qR st k) : ∃ a r, st = .ref a :: r ∧ k a r := by
  unfold qR at h
  split at h
  · exact ⟨_, _, rfl, h⟩
  · exact h.elim
theorem qIR_e {st : List Value} {k : Int32 → Nat → List Value → Prop} (h : qIR st k) : ∃ x a r, st = .int x :: .ref a :: r ∧ k x a r := by
  unfold qIR at h
  split at h
  · exact ⟨_, _, _, rfl, h⟩
  · exact h.elim
theorem qIIR_e {st : List Value} {k : Int32 → Int32 → Nat → List Value → Prop} (h : qIIR st k) : ∃ x i a r, st = .int x :: .int i :: .ref a :: r ∧ k x i a r := by
  unfold qIIR at h
  split at h
  · exact ⟨_, _, _, _, rfl, h⟩
  · exact h.elim
/-- a switch as a chain -/
def swP (P : Nat → Prop) (x : Int32) (df : Nat) : List (Int32 × Nat) → Prop
  | [] => P df
  | q :: r => (x = q.1 → P q.2) ∧ (¬ x = q.1 → swP P x df r)
/-- locals: one value a place; .null stands for what isn't known -/
def lun (lv : List Value) : Nat → List Value
  | 0 => lv
  | j + 1 => match lv[j]? with
    | some v => if v.category = 2 then lv.set j .null else lv
    | none => lv
def lse (lv : List Value) (i : Nat) (v : Value) : List Value := (lun lv i).set i v
/-- the same, a place at a time -/
def lsn : List Value → Nat → Value → List Value
  | [], _, _ => []
  | _ :: r, 0, v => v :: r
  | w :: r, 1, v => (if w.category = 2 then .null else w) :: lsn r 0 v
  | w :: r, i + 2, v => w :: lsn r (i + 1) v
theorem lsn_eq : ∀ (lv : List Value) (i : Nat) (v : Value), lsn lv i v = lse lv i v
  | [], 0, v => rfl
  | [], j + 1, v => by simp [lsn, lse, lun]
  | w :: r, 0, v => by simp [lsn, lse, lun]
  | w :: r, 1, v => by
    have h0 := lsn_eq r 0 v
    simp only [lse, lun] at h0
    simp only [lsn, h0, lse, lun, List.getElem?_cons_zero]
    split <;> simp_all
  | w :: r, i + 2, v => by
    have h0 := lsn_eq r (i + 1) v
    simp only [lse, lun] at h0
    simp only [lsn, h0, lse, lun, List.getElem?_cons_succ]
    split
    · split <;> simp
    · simp
def lse2 (lv : List Value) (i : Nat) (v : Value) : List Value := ((lun lv i).set (i + 1) .null).set i v
def ldI (lv : List Value) (i : Nat) (k : Int32 → Prop) : Prop := match lv[i]? with
  | some (.int x) => k x
  | _ => False
def ldL (lv : List Value) (i : Nat) (k : Int64 → Prop) : Prop := match lv[i]? with
  | some (.long x) => k x
  | _ => False
def ldR (lv : List Value) (i : Nat) (k : Nat → Prop) : Prop := match lv[i]? with
  | some (.ref x) => k x
  | _ => False
def stI (lv st : List Value) (i : Nat) (k : List Value → List Value → Prop) : Prop := match st with
  | .int x :: r => if i < lv.length then k (lsn lv i (.int x)) r else False
  | _ => False
def stR (lv st : List Value) (i : Nat) (k : List Value → List Value → Prop) : Prop := match st with
  | .ref x :: r => if i < lv.length then k (lsn lv i (.ref x)) r else False
  | _ => False
def stL (lv st : List Value) (i : Nat) (k : List Value → List Value → Prop) : Prop := match st with
  | .long x :: r => if i + 1 < lv.length then k (lse2 lv i (.long x)) r else False
  | _ => False
theorem ldI_e {lv : List Value} {i : Nat} {k : Int32 → Prop} (h : ldI lv i k) : ∃ x, lv[i]? = some (.int x) ∧ k x := by
  unfold ldI at h
  split at h
  · rename_i x hx; exact ⟨x, hx, h⟩
  · exact h.elim
theorem ldL_e {lv : List Value} {i : Nat} {k : Int64 → Prop} (h : ldL lv i k) : ∃ x, lv[i]? = some (.long x) ∧ k x := by
  unfold ldL at h
  split at h
  · rename_i x hx; exact ⟨x, hx, h⟩
  · exact h.elim
theorem ldR_e {lv : List Value} {i : Nat} {k : Nat → Prop} (h : ldR lv i k) : ∃ x, lv[i]? = some (.ref x) ∧ k x := by
  unfold ldR at h
  split at h
  · rename_i x hx; exact ⟨x, hx, h⟩
  · exact h.elim
theorem stI_e {lv st : List Value} {i : Nat} {k : List Value → List Value → Prop} (h : stI lv st i k) : ∃ x r, st = .int x :: r ∧ i < lv.length ∧ k (lse lv i (.int x)) r := by
  unfold stI at h
  split at h
  · split at h
    · rw [lsn_eq] at h
      exact ⟨_, _, rfl, by assumption, h⟩
    · exact h.elim
  · exact h.elim
theorem stR_e {lv st : List Value} {i : Nat} {k : List Value → List Value → Prop} (h : stR lv st i k) : ∃ x r, st = .ref x :: r ∧ i < lv.length ∧ k (lse lv i (.ref x)) r := by
  unfold stR at h
  split at h
  · split at h
    · rw [lsn_eq] at h
      exact ⟨_, _, rfl, by assumption, h⟩
    · exact h.elim
  · exact h.elim
theorem stL_e {lv st : List Value} {i : Nat} {k : List Value → List Value → Prop} (h : stL lv st i k) : ∃ x r, st = .long x :: r ∧ i + 1 < lv.length ∧ k (lse2 lv i (.long x)) r := by
  unfold stL at h
  split at h
  · split at h
    · exact ⟨_, _, rfl, by assumption, h⟩
    · exact h.elim
  · exact h.elim
/-- the locals of the machine hold what lv says -/
def LL (ad : Nat → Nat) (nL : Nat) (lv : List Value) (ls : Array Slot) : Prop := lv.length = nL ∧ ls.size = nL ∧ lv_wf ls ∧ ∀ (i : Nat) (v : Value), lv[i]? = some v → v ≠ .null → ls[i]? = some (.val (cv ad v))
def lp (ad : Nat → Nat) (lv : List Value) : List (Nat × Value) := (List.range lv.length).filterMap fun i => match lv[i]? with
  | some v => if v = .null then none else some (i, cv ad v)
  | none => none
theorem lp_of {ad : Nat → Nat} {lv : List Value} {q : Nat × Value} (h : q ∈ lp ad lv) : ∃ v, lv[q.1]? = some v ∧ v ≠ .null ∧ q.2 = cv ad v := by
  obtain ⟨i, -, hi⟩ := List.mem_filterMap.mp h
  cases hv : lv[i]? with
  | none => rw [hv] at hi; cases hi
  | some v =>
    rw [hv] at hi
    by_cases hn : v = .null
    · simp [hn] at hi
    · simp only [hn, if_false] at hi
      cases hi
      exact ⟨v, hv, hn, rfl⟩
theorem lp_in {ad : Nat → Nat} {lv : List Value} {i : Nat} {v : Value} (h : lv[i]? = some v) (hn : v ≠ .null) : (i, cv ad v) ∈ lp ad lv := by
  refine List.mem_filterMap.mpr ⟨i, List.mem_range.mpr (List.getElem?_eq_some_iff.mp h).1, ?_⟩
  rw [h]
  simp [hn]
theorem LL.has {ad : Nat → Nat} {nL : Nat} {lv : List Value} {ls : Array Slot} (h : LL ad nL lv ls) : lv_has ls nL (lp ad lv) := by
  refine ⟨h.2.1, h.2.2.1, fun q hq => ?_⟩
  obtain ⟨v, h1, h2, h3⟩ := lp_of hq
  rw [h3]
  exact h.2.2.2 q.1 v h1 h2
theorem LL.at {ad : Nat → Nat} {nL : Nat} {lv : List Value} {ls : Array Slot} (h : LL ad nL lv ls) {i : Nat} {v : Value} (hv : lv[i]? = some v) (hn : v ≠ .null) : ls[i]? = some (.val (cv ad v)) := h.2.2.2 i v hv hn
theorem lun_len (lv : List Value) (i : Nat) : (lun lv i).length = lv.length := by
  cases i with
  | zero => rfl
  | succ j =>
    simp only [lun]
    split
    · split <;> simp
    · rfl
theorem lun_at {lv : List Value} {i k : Nat} {w : Value} (h : (lun lv i)[k]? = some w) (hn : w ≠ .null) : lv[k]? = some w ∧ (k + 1 = i → w.category ≠ 2) := by
  cases i with
  | zero => exact ⟨h, fun q => by omega⟩
  | succ j =>
    simp only [lun] at h
    cases hv : lv[j]? with
    | none =>
      rw [hv] at h
      refine ⟨h, fun q => ?_⟩
      have : k = j := by omega
      subst this
      rw [hv] at h
      cases h
    | some v =>
      rw [hv] at h
      dsimp only at h
      by_cases hc : v.category = 2
      · rw [if_pos hc, List.getElem?_set] at h
        by_cases hj : j = k
        · rw [if_pos hj] at h
          split at h
          · cases h; exact absurd rfl hn
          · cases h
        · rw [if_neg hj] at h
          exact ⟨h, fun q => absurd (by omega) hj⟩
      · rw [if_neg hc] at h
        refine ⟨h, fun q => ?_⟩
        have : k = j := by omega
        subst this
        rw [hv] at h
        cases h
        exact hc
theorem LL.st1 {ad : Nat → Nat} {nL : Nat} {lv : List Value} {ls ls' : Array Slot} {i : Nat} {v : Value} (h : LL ad nL lv ls) (h' : lv_has ls' nL ((i, cv ad v) :: (lp ad lv).filter (fun q => !(q.1 == i) && !(q.1 + 1 == i && q.2.category == 2)))) : LL ad nL (lse lv i v) ls' := by
  refine ⟨by rw [lse, List.length_set, lun_len]; exact h.1, h'.1, h'.2.1, fun k w hk hn => ?_⟩
  rw [lse, List.getElem?_set] at hk
  by_cases hik : i = k
  · rw [if_pos hik] at hk
    split at hk
    · cases hk
      subst hik
      exact h'.2.2 _ List.mem_cons_self
    · cases hk
  · rw [if_neg hik] at hk
    obtain ⟨h1, h2⟩ := lun_at hk hn
    refine h'.2.2 (k, cv ad w) (List.mem_cons_of_mem _ (List.mem_filter.mpr ⟨lp_in h1 hn, ?_⟩))
    simp only [Bool.and_eq_true, Bool.not_eq_true', beq_eq_false_iff_ne, ne_eq, Bool.and_eq_false_iff, cv_cat]
    refine ⟨fun q => hik q.symm, ?_⟩
    by_cases hk1 : k + 1 = i
    · exact Or.inr (h2 hk1)
    · exact Or.inl hk1
theorem LL.st2 {ad : Nat → Nat} {nL : Nat} {lv : List Value} {ls ls' : Array Slot} {i : Nat} {v : Value} (h : LL ad nL lv ls) (h' : lv_has ls' nL ((i, cv ad v) :: (lp ad lv).filter (fun q => !(q.1 == i) && (!(q.1 == i + 1) && !(q.1 + 1 == i && q.2.category == 2))))) : LL ad nL (lse2 lv i v) ls' := by
  refine ⟨by rw [lse2, List.length_set, List.length_set, lun_len]; exact h.1, h'.1, h'.2.1, fun k w hk hn => ?_⟩
  rw [lse2, List.getElem?_set] at hk
  by_cases hik : i = k
  · rw [if_pos hik] at hk
    split at hk
    · cases hk
      subst hik
      exact h'.2.2 _ List.mem_cons_self
    · cases hk
  · rw [if_neg hik, List.getElem?_set] at hk
    by_cases hi1 : i + 1 = k
    · rw [if_pos hi1] at hk
      split at hk
      · cases hk; exact absurd rfl hn
      · cases hk
    · rw [if_neg hi1] at hk
      obtain ⟨h1, h2⟩ := lun_at hk hn
      refine h'.2.2 (k, cv ad w) (List.mem_cons_of_mem _ (List.mem_filter.mpr ⟨lp_in h1 hn, ?_⟩))
      simp only [Bool.and_eq_true, Bool.not_eq_true', beq_eq_false_iff_ne, ne_eq, Bool.and_eq_false_iff, cv_cat]
      refine ⟨fun q => hik q.symm, fun q => hi1 q.symm, ?_⟩
      by_cases hk1 : k + 1 = i
      · exact Or.inr (h2 hk1)
      · exact Or.inl hk1
end
section
/-! ONE STEP of the abstract machine, and why it is sound. An item: pc, instruction, length, number, target, pairs of a switch. -/
def rcv (k ci : Nat) : Bool := match shape[k]? with
  | some (.inr o) => o.1 == ci
  | _ => false
/-- there is room for the callee -/
def rom (mi : MI) (d : Nat × Nat) : Bool := Nat.ble (mi.2.2.2.2.1 + 1) d.1 && Nat.ble (8 + (mi.2.2.1 + 11) + mi.2.2.2.2.2) d.2
def gtf (σ : Sg) (k ci j : Nat) (y : Value → Prop) : Prop := match shape[k]? with
  | some (.inr o) => if o.1 = ci then (match o.2[j]? with
    | some (some k2) => y (.ref k2)
    | some none => y (.int (σ k j))
    | none => False) else False
  | _ => False
def ptf (k ci j : Nat) (y : Prop) : Prop := match shape[k]? with
  | some (.inr o) => if o.1 = ci then (match o.2[j]? with
    | some none => y
    | _ => False) else False
  | _ => False
def arr (k : Nat) (y : Nat → Prop) : Prop := match shape[k]? with
  | some (.inl n) => y n
  | _ => False
theorem rcv_e {k ci : Nat} (h : rcv k ci = true) : ∃ fs, shape[k]? = some (.inr (ci, fs)) := by
  unfold rcv at h
  split at h
  · rename_i o ho
    obtain ⟨c, fs⟩ := o
    have : c = ci := by simpa using h
    subst this
    exact ⟨fs, ho⟩
  · cases h
theorem gtf_e {σ : Sg} {k ci j : Nat} {y : Value → Prop} (h : gtf σ k ci j y) : ∃ fs o, shape[k]? = some (.inr (ci, fs)) ∧ fs[j]? = some o ∧ y (match o with | some k2 => .ref k2 | none => .int (σ k j)) := by
  unfold gtf at h
  split at h
  · rename_i o ho
    obtain ⟨c, fs⟩ := o
    dsimp only at h
    split at h
    · rename_i hc
      subst hc
      split at h
      · rename_i k2 hj; exact ⟨fs, _, ho, hj, h⟩
      · rename_i hj; exact ⟨fs, _, ho, hj, h⟩
      · exact h.elim
    · exact h.elim
  · exact h.elim
theorem ptf_e {k ci j : Nat} {y : Prop} (h : ptf k ci j y) : ∃ fs, shape[k]? = some (.inr (ci, fs)) ∧ fs[j]? = some none ∧ y := by
  unfold ptf at h
  split at h
  · rename_i o ho
    obtain ⟨c, fs⟩ := o
    dsimp only at h
    split at h
    · rename_i hc
      subst hc
      split at h
      · rename_i hj; exact ⟨fs, ho, hj, h⟩
      · exact h.elim
    · exact h.elim
  · exact h.elim
theorem arr_e {k : Nat} {y : Nat → Prop} (h : arr k y) : ∃ n, shape[k]? = some (.inl n) ∧ y n := by
  unfold arr at h
  split at h
  · rename_i n hn; exact ⟨n, hn, h⟩
  · exact h.elim
def pp (st : List Value) (y : Value → List Value → Prop) : Prop := match st with
  | v :: r => if v.category = 1 then y v r else False
  | _ => False
theorem pp_e {st : List Value} {y : Value → List Value → Prop} (h : pp st y) : ∃ v r, st = v :: r ∧ v.category = 1 ∧ y v r := by
  unfold pp at h
  split at h
  · split at h
    · exact ⟨_, _, rfl, by assumption, h⟩
    · exact h.elim
  · exact h.elim
def sm8 (r : List Value) (y : Prop) : Prop := if (r.map fun v => v.category).sum ≤ 8 then y else False
theorem sm8_e {r : List Value} {y : Prop} (h : sm8 r y) : (r.map fun v => v.category).sum ≤ 8 ∧ y := by
  unfold sm8 at h
  split at h
  · exact ⟨by assumption, h⟩
  · exact h.elim
def nilP (r : List Value) (y : Prop) : Prop := match r with
  | [] => y
  | _ => False
def riP (ret : Option FieldType) (v : Int32) (y : Prop) : Prop := match ret with
  | some .int => y
  | some .boolean => (v = 0 ∨ v = 1) ∧ y
  | _ => False
def rvP (ret : Option FieldType) (y : Prop) : Prop := match ret with
  | none => y
  | _ => False
theorem nilP_e {r : List Value} {y : Prop} (h : nilP r y) : r = [] ∧ y := by
  unfold nilP at h
  split at h
  · exact ⟨rfl, h⟩
  · exact h.elim
theorem riP_e {ret : Option FieldType} {v : Int32} {y : Prop} (h : riP ret v y) : (ret = some .int ∨ (ret = some .boolean ∧ (v = 0 ∨ v = 1))) ∧ y := by
  unfold riP at h
  split at h
  · exact ⟨Or.inl rfl, h⟩
  · exact ⟨Or.inr ⟨rfl, h.1⟩, h.2⟩
  · exact h.elim
theorem rvP_e {ret : Option FieldType} {y : Prop} (h : rvP ret y) : ret = none ∧ y := by
  unfold rvP at h
  split at h
  · exact ⟨rfl, h⟩
  · exact h.elim
def lku {α : Type} (l : List (Nat × α)) (k : Nat) (y : α → Prop) : Prop := match l.lookup k with
  | some a => y a
  | none => False
theorem lku_e {α : Type} {l : List (Nat × α)} {k : Nat} {y : α → Prop} (h : lku l k y) : ∃ a, (k, a) ∈ l ∧ y a := by
  unfold lku at h
  split at h
  · rename_i a ha
    refine ⟨a, ?_, h⟩
    clear h
    induction l with
    | nil => cases ha
    | cons q l ih =>
      obtain ⟨k2, b⟩ := q
      rw [List.lookup_cons] at ha
      by_cases hk : k == k2
      · simp only [hk] at ha
        cases ha
        have : k = k2 := by simpa using hk
        subst this
        exact List.mem_cons_self
      · simp only [hk] at ha
        exact List.mem_cons_of_mem _ (ih ha)
  · exact h.elim
/-- a new state gets a name -/
def SG (s : Sg) (k : Sg → Prop) : Prop := k s
def pF (pt : PT) : List (Nat × Nat × Nat × Nat) := pt.2.1
def pV (pt : PT) : List (Nat × MI × Nat × Nat) := pt.2.2.1
def pS (pt : PT) : List (Nat × MI × Nat) := pt.2.2.2.1
def pI (pt : PT) : List (Nat × Int32) := pt.2.2.2.2.1
def pL (pt : PT) : List (Nat × Int64) := pt.2.2.2.2.2
def stp (l : Launch) (ad : Nat → Nat) (D : va_G) (cI : ClassId) (pt : PT) (ret : Option FieldType) (d : Nat × Nat) (X : Nat → List Value → List Value → Sg → Prop) (K : Option Value → Sg → Prop) (it : IT) (Y : List Value → List Value → Sg → Prop) (lv st : List Value) (σ : Sg) : Prop :=
  match it.2.1 with
  | .iconst _ => Y lv (.int it.2.2.2.1 :: st) σ
  | .bipush _ => Y lv (.int it.2.2.2.1 :: st) σ
  | .sipush _ => Y lv (.int it.2.2.2.1 :: st) σ
  | .ldc _ => Y lv (.int it.2.2.2.1 :: st) σ
  | .ldc_w _ => Y lv (.int it.2.2.2.1 :: st) σ
  | .lconst n => Y lv (.long (Int64.ofNat (n : Nat)) :: st) σ
  | .ldc2_w k => lku (pL pt) k fun x => Y lv (.long x :: st) σ
  | .iload_n k => ldI lv k fun x => Y lv (.int x :: st) σ
  | .iload k => ldI lv k fun x => Y lv (.int x :: st) σ
  | .lload_n k => ldL lv k fun x => Y lv (.long x :: st) σ
  | .lload k => ldL lv k fun x => Y lv (.long x :: st) σ
  | .aload_n k => ldR lv k fun x => Y lv (.ref x :: st) σ
  | .aload k => ldR lv k fun x => Y lv (.ref x :: st) σ
  | .istore_n k => stI lv st k fun lv r => Y lv r σ
  | .istore k => stI lv st k fun lv r => Y lv r σ
  | .lstore_n k => stL lv st k fun lv r => Y lv r σ
  | .lstore k => stL lv st k fun lv r => Y lv r σ
  | .astore_n k => stR lv st k fun lv r => Y lv r σ
  | .astore k => stR lv st k fun lv r => Y lv r σ
  | .iinc k _ => ldI lv k fun x => Y (lsn lv k (.int (x + it.2.2.2.1))) st σ
  | .iadd => qII st fun a b r => Y lv (.int (a + b) :: r) σ
  | .isub => qII st fun a b r => Y lv (.int (a - b) :: r) σ
  | .imul => qII st fun a b r => Y lv (.int (a * b) :: r) σ
  | .iand => qII st fun a b r => Y lv (.int (a &&& b) :: r) σ
  | .ior => qII st fun a b r => Y lv (.int (a ||| b) :: r) σ
  | .ixor => qII st fun a b r => Y lv (.int (a ^^^ b) :: r) σ
  | .ishl => qII st fun a b r => Y lv (.int (a <<< (b &&& 31)) :: r) σ
  | .ishr => qII st fun a b r => Y lv (.int (a >>> (b &&& 31)) :: r) σ
  | .iushr => qII st fun a b r => Y lv (.int ((a.toUInt32 >>> (b.toUInt32 &&& Int32.toUInt32 31)).toInt32) :: r) σ
  | .idiv => qII st fun a b r => ¬ b = 0 ∧ Y lv (.int (a / b) :: r) σ
  | .ineg => qI st fun a r => Y lv (.int (-a) :: r) σ
  | .ladd => qLL st fun a b r => Y lv (.long (a + b) :: r) σ
  | .lsub => qLL st fun a b r => Y lv (.long (a - b) :: r) σ
  | .lmul => qLL st fun a b r => Y lv (.long (a * b) :: r) σ
  | .land => qLL st fun a b r => Y lv (.long (a &&& b) :: r) σ
  | .lor => qLL st fun a b r => Y lv (.long (a ||| b) :: r) σ
  | .ldiv => qLL st fun a b r => ¬ b = 0 ∧ Y lv (.long (a / b) :: r) σ
  | .lrem => qLL st fun a b r => ¬ b = 0 ∧ Y lv (.long (a - a / b * b) :: r) σ
  | .lshl => qLI st fun a b r => Y lv (.long (a <<< (b.toInt64 &&& 63)) :: r) σ
  | .lshr => qLI st fun a b r => Y lv (.long (a >>> (b.toInt64 &&& 63)) :: r) σ
  | .lcmp => qLL st fun a b r => Y lv (.int (lg_cmp a b) :: r) σ
  | .i2l => qI st fun a r => Y lv (.long a.toInt64 :: r) σ
  | .l2i => qL st fun a r => Y lv (.int a.toInt32 :: r) σ
  | .i2b => qI st fun a r => Y lv (.int a.toInt8.toInt32 :: r) σ
  | .dup => pp st fun v r => Y lv (v :: v :: r) σ
  | .pop => pp st fun _ r => Y lv r σ
  | .dup_x1 => pp st fun v r => pp r fun w r => Y lv (v :: w :: v :: r) σ
  | .dup_x2 => pp st fun v r => pp r fun w r => pp r fun u r => Y lv (v :: w :: u :: v :: r) σ
  | .dup2 => pp st fun v r => pp r fun w r => Y lv (v :: w :: v :: w :: r) σ
  | .goto _ => X it.2.2.2.2.1 lv st σ
  | .ifCond .eq _ => qI st fun x r => (x = 0 → X it.2.2.2.2.1 lv r σ) ∧ (¬ x = 0 → Y lv r σ)
  | .ifCond .ne _ => qI st fun x r => (x = 0 → Y lv r σ) ∧ (¬ x = 0 → X it.2.2.2.2.1 lv r σ)
  | .ifCond .lt _ => qI st fun x r => (x < 0 → X it.2.2.2.2.1 lv r σ) ∧ (¬ x < 0 → Y lv r σ)
  | .ifCond .ge _ => qI st fun x r => (0 ≤ x → X it.2.2.2.2.1 lv r σ) ∧ (¬ 0 ≤ x → Y lv r σ)
  | .ifCond .gt _ => qI st fun x r => (0 < x → X it.2.2.2.2.1 lv r σ) ∧ (¬ 0 < x → Y lv r σ)
  | .ifCond .le _ => qI st fun x r => (x ≤ 0 → X it.2.2.2.2.1 lv r σ) ∧ (¬ x ≤ 0 → Y lv r σ)
  | .if_icmp .eq _ => qII st fun x y r => (x = y → X it.2.2.2.2.1 lv r σ) ∧ (¬ x = y → Y lv r σ)
  | .if_icmp .ne _ => qII st fun x y r => (x = y → Y lv r σ) ∧ (¬ x = y → X it.2.2.2.2.1 lv r σ)
  | .if_icmp .lt _ => qII st fun x y r => (x < y → X it.2.2.2.2.1 lv r σ) ∧ (¬ x < y → Y lv r σ)
  | .if_icmp .ge _ => qII st fun x y r => (y ≤ x → X it.2.2.2.2.1 lv r σ) ∧ (¬ y ≤ x → Y lv r σ)
  | .if_icmp .gt _ => qII st fun x y r => (y < x → X it.2.2.2.2.1 lv r σ) ∧ (¬ y < x → Y lv r σ)
  | .if_icmp .le _ => qII st fun x y r => (x ≤ y → X it.2.2.2.2.1 lv r σ) ∧ (¬ x ≤ y → Y lv r σ)
  | .tableswitch _ _ _ _ => qI st fun x r => swP (fun t => X t lv r σ) x it.2.2.2.2.1 it.2.2.2.2.2
  | .lookupswitch _ _ => qI st fun x r => swP (fun t => X t lv r σ) x it.2.2.2.2.1 it.2.2.2.2.2
  | .getfield k => lku (pF pt) k fun q => qR st fun o r => gtf σ o q.1 q.2.1 fun v => Y lv (v :: r) σ
  | .putfield k => lku (pF pt) k fun q => qIR st fun v o r => ptf o q.1 q.2.1 (match q.2.2 with
    | 1 => True ∧ SG (up2 σ o q.2.1 v) (Y lv r)
    | 2 => (v = 0 ∨ v = 1) ∧ SG (up2 σ o q.2.1 v) (Y lv r)
    | _ => False)
  | .iaload => qIR st fun i o r => arr o fun n => vp_in i n ∧ Y lv (.int (σ o i.toNatClampNeg) :: r) σ
  | .iastore => qIIR st fun v i o r => arr o fun n => vp_in i n ∧ SG (up2 σ o i.toNatClampNeg v) (Y lv r)
  | .arraylength => qR st fun o r => arr o fun n => Y lv (.int (Int32.ofNat n) :: r) σ
  | .invokevirtual k => lku (pV pt) k fun q => qR (st.drop q.2.1) fun o r => if (rcv o q.2.2 && rom q.1 d) = true then sm8 r (MetJ l ad D cI q.1 (.ref o :: (st.take q.2.1).reverse) σ fun rv σ' => Y lv (rv.toList ++ r) σ') else False
  | .invokestatic k => lku (pS pt) k fun q => if (Nat.ble q.2 st.length && rom q.1 d) = true then sm8 (st.drop q.2) (MetJ l ad D cI q.1 (st.take q.2).reverse σ fun rv σ' => Y lv (rv.toList ++ st.drop q.2) σ') else False
  | .ireturn => qI st fun v r => nilP r (riP ret v (K (some (.int v)) σ))
  | .return_ => nilP st (rvP ret (K none σ))
  | _ => False
/-! the check of an item against the bytes -/
def ilen : Instr → Nat
  | .bipush _ => 2
  | .iload _ => 2
  | .istore _ => 2
  | .aload _ => 2
  | .astore _ => 2
  | .lload _ => 2
  | .lstore _ => 2
  | .ldc _ => 2
  | .sipush _ => 3
  | .goto _ => 3
  | .ifCond _ _ => 3
  | .if_icmp _ _ => 3
  | .getfield _ => 3
  | .putfield _ => 3
  | .invokevirtual _ => 3
  | .invokestatic _ => 3
  | .iinc _ _ => 3
  | .ldc2_w _ => 3
  | .ldc_w _ => 3
  | _ => 1
def swl (pc : Nat) : List (Int × Int) → List (Int32 × Nat) → Bool
  | [], [] => true
  | a :: r, k :: r' => decide (k.1.toInt = a.1) && (decide ((pc : Int) + a.2 = (k.2 : Int)) && swl pc r r')
  | _, _ => false
def swt (pc : Nat) : Int → List Int → List (Int32 × Nat) → Bool
  | _, [], [] => true
  | lo, a :: r, k :: r' => decide (k.1.toInt = lo) && (decide ((pc : Int) + a = (k.2 : Int)) && swt pc (lo + 1) r r')
  | _, _, _ => false
def itA (pt : PT) (it : IT) : Bool := match it.2.1 with
  | .iconst k => decide (it.2.2.1 = 1) && decide (Int32.ofInt k = it.2.2.2.1)
  | .bipush k => decide (it.2.2.1 = 2) && decide ((Int8.ofInt k).toInt32 = it.2.2.2.1)
  | .sipush k => decide (it.2.2.1 = 3) && decide ((Int16.ofInt k).toInt32 = it.2.2.2.1)
  | .ldc k => decide (it.2.2.1 = 2) && decide ((k, it.2.2.2.1) ∈ pI pt)
  | .ldc_w k => decide (it.2.2.1 = 3) && decide ((k, it.2.2.2.1) ∈ pI pt)
  | .iinc _ k => decide (it.2.2.1 = 3) && decide (Int32.ofInt k = it.2.2.2.1)
  | .goto o => decide (it.2.2.1 = 3) && decide ((it.1 : Int) + o = (it.2.2.2.2.1 : Int))
  | .ifCond _ o => decide (it.2.2.1 = 3) && decide ((it.1 : Int) + o = (it.2.2.2.2.1 : Int))
  | .if_icmp _ o => decide (it.2.2.1 = 3) && decide ((it.1 : Int) + o = (it.2.2.2.2.1 : Int))
  | .lookupswitch df pr => (pr.toList.zip (pr.toList.drop 1)).all (fun (a, next) => a.1 < next.1) && (swl it.1 pr.toList it.2.2.2.2.2 && decide ((it.1 : Int) + df = (it.2.2.2.2.1 : Int)))
  | .tableswitch df lo hi os => decide (lo + (os.size : Int) = hi + 1) && (swt it.1 lo os.toList it.2.2.2.2.2 && decide ((it.1 : Int) + df = (it.2.2.2.2.1 : Int)))
  | i => decide (it.2.2.1 = ilen i)
def itOK (cc : ByteArray) (pt : PT) (nx : Nat) (it : IT) : Bool := decide (decode cc it.1 = .ok (it.2.1, it.2.2.1)) && (decide (it.1 + it.2.2.1 = nx) && itA pt it)
def hdp (is : List IT) (en : Nat) : Nat := match is with
  | [] => en
  | it :: _ => it.1
def blkOK (cc : ByteArray) (pt : PT) (en : Nat) : List IT → Bool
  | [] => true
  | it :: is => itOK cc pt (hdp is en) it && blkOK cc pt en is
theorem swl_ok {P : Nat → Prop} {pc : Nat} {x : Int32} {df : Nat} {dflt : Int} (hd : (pc : Int) + dflt = (df : Int)) : ∀ (pr : List (Int × Int)) (ps : List (Int32 × Nat)), swl pc pr ps = true → swP P x df ps → ∃ t : Nat, (pc : Int) + Op.lookupswitch.offset pr dflt x.toInt = (t : Int) ∧ P t
  | [], [], _, h => ⟨df, by rw [Op.lookupswitch.offset_nil]; exact hd, h⟩
  | a :: r, k :: r', h, hp => by
    simp only [swl, Bool.and_eq_true, decide_eq_true_eq] at h
    obtain ⟨h1, h2, h3⟩ := h
    obtain ⟨a1, a2⟩ := a
    by_cases hx : x = k.1
    · refine ⟨k.2, ?_, hp.1 hx⟩
      rw [Op.lookupswitch.offset_cons, if_pos (by rw [hx]; first | exact h1.symm | exact h1)]
      exact h2
    · obtain ⟨t, e, q⟩ := swl_ok hd r r' h3 (hp.2 hx)
      exact ⟨t, by rw [lv_osw hx h1]; exact e, q⟩
  | [], _ :: _, h, _ => by simp [swl] at h
  | _ :: _, [], h, _ => by simp [swl] at h
theorem swt_ok {P : Nat → Prop} {pc : Nat} {x : Int32} {df : Nat} : ∀ (lo : Int) (os : List Int) (ps : List (Int32 × Nat)), swt pc lo os ps = true → swP P x df ps → ∃ t : Nat, P t ∧ ((t = df ∧ (x.toInt < lo ∨ lo + (os.length : Int) ≤ x.toInt)) ∨ (∃ off, ¬ x.toInt < lo ∧ x.toInt < lo + (os.length : Int) ∧ os[(x.toInt - lo).toNat]? = some off ∧ (pc : Int) + off = (t : Int)))
  | lo, [], [], _, h => ⟨df, h, Or.inl ⟨rfl, by simp; omega⟩⟩
  | lo, a :: r, k :: r', h, hp => by
    simp only [swt, Bool.and_eq_true, decide_eq_true_eq] at h
    obtain ⟨h1, h2, h3⟩ := h
    by_cases hx : x = k.1
    · refine ⟨k.2, hp.1 hx, Or.inr ⟨a, ?_, ?_, ?_, h2⟩⟩
      · rw [hx, h1]; omega
      · rw [hx, h1]; simp; omega
      · rw [hx, h1, show lo - lo = 0 by omega]; rfl
    · obtain ⟨t, hP, q⟩ := swt_ok (lo + 1) r r' h3 (hp.2 hx)
      have hne : ¬ x.toInt = lo := lv_neT hx h1
      refine ⟨t, hP, ?_⟩
      rcases q with ⟨e, q⟩ | ⟨off, q1, q2, q3, q4⟩
      · refine Or.inl ⟨e, ?_⟩
        simp only [List.length_cons]
        omega
      · refine Or.inr ⟨off, by omega, by simp only [List.length_cons]; omega, ?_, q4⟩
        rw [show (x.toInt - lo).toNat = (x.toInt - (lo + 1)).toNat + 1 by omega, List.getElem?_cons_succ]
        exact q3
  | _, [], _ :: _, h, _ => by simp [swt] at h
  | _, _ :: _, [], h, _ => by simp [swt] at h
end
section
/-! SOUNDNESS: a step of the abstract machine is a step of the machine. -/
theorem wF_in {pt : PT} (hpt : pt ∈ pts) {q : Nat × Nat × Nat × Nat} (hq : q ∈ pF pt) {r : vw_C} (hr : classes[q.2.1]? = some r) : Cond.fieldLink pt.1 q.1 (r.2.1 q.2.2.1).1 (r.2.1 q.2.2.1).2.1 (r.2.1 q.2.2.1).2.2.1 ∈ WS := by
  refine List.mem_append_right _ (List.mem_flatMap.mpr ⟨pt, hpt, ?_⟩)
  refine List.mem_append_left _ (List.mem_flatMap.mpr ⟨q, hq, ?_⟩)
  unfold wF
  rw [hr]
  exact List.mem_singleton.mpr rfl
theorem wV_in {pt : PT} (hpt : pt ∈ pts) {q : Nat × MI × Nat × Nat} (hq : q ∈ pV pt) {w : Cond} (hw : w ∈ wV pt.1 q) : w ∈ WS := by
  refine List.mem_append_right _ (List.mem_flatMap.mpr ⟨pt, hpt, ?_⟩)
  exact List.mem_append_right _ (List.mem_append_left _ (List.mem_flatMap.mpr ⟨q, hq, hw⟩))
theorem wS_in {pt : PT} (hpt : pt ∈ pts) {q : Nat × MI × Nat} (hq : q ∈ pS pt) {w : Cond} (hw : w ∈ wS pt.1 q) : w ∈ WS := by
  refine List.mem_append_right _ (List.mem_flatMap.mpr ⟨pt, hpt, ?_⟩)
  exact List.mem_append_right _ (List.mem_append_right _ (List.mem_append_left _ (List.mem_flatMap.mpr ⟨q, hq, hw⟩)))
theorem wI_in {pt : PT} (hpt : pt ∈ pts) {k : Nat} {v : Int32} (hq : (k, v) ∈ pI pt) : Cond.constant pt.1 k v ∈ WS := by
  refine List.mem_append_right _ (List.mem_flatMap.mpr ⟨pt, hpt, ?_⟩)
  exact List.mem_append_right _ (List.mem_append_right _ (List.mem_append_right _ (List.mem_append_left _ (List.mem_map.mpr ⟨(k, v), hq, rfl⟩))))
theorem wL_in {pt : PT} (hpt : pt ∈ pts) {k : Nat} {v : Int64} (hq : (k, v) ∈ pL pt) : Cond.constantLong pt.1 k v ∈ WS := by
  refine List.mem_append_right _ (List.mem_flatMap.mpr ⟨pt, hpt, ?_⟩)
  exact List.mem_append_right _ (List.mem_append_right _ (List.mem_append_right _ (List.mem_append_right _ (List.mem_map.mpr ⟨(k, v), hq, rfl⟩))))
theorem wC_in {ci : Nat} {r : vw_C} (hr : classes[ci]? = some r) : ∀ w ∈ u_ws r.1 r.2.1 r.2.2, w ∈ WS := fun w hw =>
  List.mem_append_left _ (List.mem_flatMap.mpr ⟨r, List.mem_of_getElem? hr, hw⟩)
theorem goodWS (mi : MI) (h : Cond.code mi.1 mi.2.1 mi.2.2.1 mi.2.2.2.1 ∈ WS) : GoodIn WS (wsJ mi) := by
  intro w hw
  rcases List.mem_cons.mp hw with rfl | hw
  · exact ⟨h, Or.inl rfl⟩
  · exact ⟨hw, good_of_word (List.all_eq_true.mp WS_good w hw)⟩
theorem blind (ad : Nat → Nat) (D : va_G) (cI : ClassId) (σ : Sg) (vs : List Value) : FrameBlind (va_Pc vs (WB ad D cI σ)) := by
  intro a U g mk q
  obtain ⟨q0, qP, qK, qJ⟩ := q
  exact ⟨q0, qP, va_K.moved (u := U) (U := U.calling g mk a) (Vm.Alike.refl U.vm) qK, qJ⟩
section SND
variable {p : Program} {l : Launch} {e : Env} {R : Room} {s : State} {m : MethodId} {args : Array Value} {below : List Frame} {meth : Method} {c : Code} {cells slots : Nat} {Q : State → Prop}
variable {ad : Nat → Nat} {D : va_G} {cI : ClassId} {A : Nat → Prop}
theorem mj_call {H H0 : Heap} {locs : List Loc} {pc : Nat} {ls : Array Slot} {st0 rest : List Value} {K : Option Value → Sg → Prop} {a : Array Value} (hr : va_Run p l e R s m args below meth c H locs cells slots 0 0 (F0 m pc ls st0) rest (QJ ad D cI K a) (AA ad)) (hS : va_S A H0 H locs) (hA : ∀ i, i < shape.length → A (ad i))
    (kk : ∀ (r : Option Value) (σ : Sg) (H1 : Heap) (locs1 : List Loc), K r σ → va_P D classes (pic ad cI σ) H1 → va_S A H0 H1 locs1 → W p l e R s m args below meth c H1 locs1 cells slots Q (F0 m (pc + 3) ls ((r.map (cv ad)).toList ++ rest))) : W p l e R s m args below meth c H locs cells slots Q (F0 m pc ls st0) := by
  have hAA : ∀ q, AA ad q → A q := fun q h => by obtain ⟨i, h1, h2⟩ := h; rw [h2]; exact hA i h1
  intro T hT X
  obtain ⟨v, st₀, t, T', L, h0, X', hL, e1, e2, ⟨⟨r, σ, hv, hk, hp⟩, hz, hkp⟩, st⟩ := hr T hT X
  have hv' : v = r.map (cv ad) := by injection hv
  subst hv'
  rw [h0] at hz hkp
  obtain ⟨t2, a1, b1⟩ := kk r σ T'.heap (locs ++ L) hk (by rw [e1]; exact hp)
    ⟨Nat.le_trans hS.1 (by rw [e1]; exact hz), fun q h1 h2 => by rw [e1, hkp q (Nat.lt_of_lt_of_le h1 hS.1) (fun z => h2 (hAA q z))]; exact hS.2.1 q h1 h2, fun q hq => by
      rcases List.mem_append.mp hq with h | h
      · exact hS.2.2 q h
      · exact hAA _ (hL q h)⟩ T' rfl X'
  exact ⟨t2, st t2 a1, b1⟩
/-- the machine at an abstract state -/
def XW (p : Program) (l : Launch) (e : Env) (R : Room) (s : State) (m : MethodId) (args : Array Value) (below : List Frame) (meth : Method) (c : Code) (cells slots : Nat) (Q : State → Prop) (ad : Nat → Nat) (D : va_G) (cI : ClassId) (A : Nat → Prop) (nL : Nat) (pc : Nat) (lv st : List Value) (σ : Sg) : Prop :=
  ∀ (ls : Array Slot) (H : Heap) (locs : List Loc), LL ad nL lv ls → va_P D classes (pic ad cI σ) H → va_S A s.heap H locs → W p l e R s m args below meth c H locs cells slots Q (F0 m pc ls (st.map (cv ad)))
/-- what a body needs -/
def CX (p : Program) (R : Room) (s : State) (m : MethodId) (args : Array Value) (c : Code) (cells slots : Nat) (ad : Nat → Nat) (D : va_G) (cI : ClassId) (A : Nat → Prop) (cc : ByteArray) (nL : Nat) (pt : PT) (d : Nat × Nat) : Prop :=
  p.tables.exec = Jvm.exec ∧ c.code = cc ∧ c.maxLocals = nL ∧ s.vm.findClass pt.1 = some m.cls ∧ (∀ w ∈ WS, w.before args s = true) ∧ va_K D classes [(cI, FieldType.int)] s ∧ IJ ad ∧ (∀ i, i < shape.length → A (ad i)) ∧ pt ∈ pts ∧ d.1 ≤ R.frames ∧ d.2 ≤ R.locals ∧ cells ≤ R.cells ∧ slots ≤ R.slots
/-- its returns -/
def RT (p : Program) (l : Launch) (e : Env) (R : Room) (s : State) (m : MethodId) (args : Array Value) (below : List Frame) (meth : Method) (c : Code) (cells slots : Nat) (Q : State → Prop) (ad : Nat → Nat) (D : va_G) (cI : ClassId) (A : Nat → Prop) (cc : ByteArray) (ret : Option FieldType) (K : Option Value → Sg → Prop) : Prop :=
  (∀ (pc : Nat) (ls : Array Slot) (v : Int32) (σ : Sg) (H : Heap) (locs : List Loc), decode cc pc = .ok (.ireturn, 1) → (ret = some .int ∨ (ret = some .boolean ∧ (v = 0 ∨ v = 1))) → K (some (.int v)) σ → va_P D classes (pic ad cI σ) H → va_S A s.heap H locs → W p l e R s m args below meth c H locs cells slots Q (F0 m pc ls [.int v])) ∧
  (∀ (pc : Nat) (ls : Array Slot) (σ : Sg) (H : Heap) (locs : List Loc), decode cc pc = .ok (.return_, 1) → ret = none → K none σ → va_P D classes (pic ad cI σ) H → va_S A s.heap H locs → W p l e R s m args below meth c H locs cells slots Q (F0 m pc ls []))
theorem ptb_F {pt : PT} (hpt : pt ∈ pts) {q : Nat × Nat × Nat × Nat} (hq : q ∈ pF pt) : fb q = true := by
  have h := List.all_eq_true.mp pts_ok pt hpt
  unfold ptb at h
  simp only [Bool.and_eq_true] at h
  exact List.all_eq_true.mp h.1 q hq
theorem ptb_V {pt : PT} (hpt : pt ∈ pts) {q : Nat × MI × Nat × Nat} (hq : q ∈ pV pt) : vb q = true := by
  have h := List.all_eq_true.mp pts_ok pt hpt
  unfold ptb at h
  simp only [Bool.and_eq_true] at h
  exact List.all_eq_true.mp h.2.1 q hq
theorem ptb_S {pt : PT} (hpt : pt ∈ pts) {q : Nat × MI × Nat} (hq : q ∈ pS pt) : sb q = true := by
  have h := List.all_eq_true.mp pts_ok pt hpt
  unfold ptb at h
  simp only [Bool.and_eq_true] at h
  exact List.all_eq_true.mp h.2.2 q hq
theorem fb_e {q : Nat × Nat × Nat × Nat} (h : fb q = true) : ∃ C T N, classes[q.2.1]? = some (C, T, N) ∧ q.2.2.1 < N ∧ (q.2.2.2 = 1 → (T q.2.2.1).2.2.2 = false ∧ parseFieldDescriptor (T q.2.2.1).2.2.1 = some .int) ∧ (q.2.2.2 = 2 → (T q.2.2.1).2.2.2 = false ∧ parseFieldDescriptor (T q.2.2.1).2.2.1 = some .boolean) := by
  unfold fb at h
  split at h
  · rename_i r hr
    obtain ⟨C, T, N⟩ := r
    simp only [Bool.and_eq_true, decide_eq_true_eq] at h
    obtain ⟨h1, h2, h3⟩ := h
    refine ⟨C, T, N, hr, h1, fun e => ?_, fun e => ?_⟩
    · rw [if_pos e] at h2
      simp only [Bool.and_eq_true, decide_eq_true_eq] at h2
      exact h2
    · rw [if_pos e] at h3
      simp only [Bool.and_eq_true, decide_eq_true_eq] at h3
      exact h3
  · cases h
theorem cls_ty {ci : Nat} {C : String} {T : u_T} {N : Nat} (h : classes[ci]? = some (C, T, N)) : ∃ ty : Nat → FieldType, ∀ k, k < N → parseFieldDescriptor (T k).2.2.1 = some (ty k) := by
  have h1 := List.all_eq_true.mp classes_ok _ (List.mem_of_getElem? h)
  unfold clb at h1
  simp only [Bool.and_eq_true] at h1
  refine ⟨fun k => (parseFieldDescriptor (T k).2.2.1).getD .int, fun k hk => ?_⟩
  have h2 := List.all_eq_true.mp h1.1 k (List.mem_range.mpr hk)
  cases hp : parseFieldDescriptor (T k).2.2.1 with
  | none => rw [hp] at h2; cases h2
  | some t => simp [hp]
theorem cls_nm {ci : Nat} {C : String} {T : u_T} {N : Nat} (h : classes[ci]? = some (C, T, N)) : ∀ a, a < N → ∀ b, b < N → a ≠ b → (T a).2.1 ≠ (T b).2.1 := by
  have h1 := List.all_eq_true.mp classes_ok _ (List.mem_of_getElem? h)
  unfold clb at h1
  simp only [Bool.and_eq_true] at h1
  intro a ha b hb hab
  have h2 := List.all_eq_true.mp (List.all_eq_true.mp h1.2 a (List.mem_range.mpr ha)) b (List.mem_range.mpr hb)
  simp only [Bool.or_eq_true, decide_eq_true_eq] at h2
  rcases h2 with h2 | h2
  · exact absurd h2 hab
  · exact h2
set_option maxHeartbeats 4000000 in
theorem stp_ok {cc : ByteArray} {nL : Nat} {pt : PT} {ret : Option FieldType} {d : Nat × Nat} {K : Option Value → Sg → Prop} {Y : List Value → List Value → Sg → Prop} {nx : Nat} {it : IT} (hC : CX p R s m args c cells slots ad D cI A cc nL pt d) (hR : RT p l e R s m args below meth c cells slots Q ad D cI A cc ret K) (hok : itOK cc pt nx it = true)
    (hY : ∀ lv st σ, Y lv st σ → XW p l e R s m args below meth c cells slots Q ad D cI A nL nx lv st σ) {lv st : List Value} {σ : Sg} (h : stp l ad D cI pt ret d (XW p l e R s m args below meth c cells slots Q ad D cI A nL) K it Y lv st σ) : XW p l e R s m args below meth c cells slots Q ad D cI A nL it.1 lv st σ := by
  obtain ⟨hx, hb, hml, hown, hts, hK, hJ, hA, hpt, hfr, hlo, hce, hsl⟩ := hC
  obtain ⟨pc, i, n, v, t, ps⟩ := it
  simp only [itOK, Bool.and_eq_true, decide_eq_true_eq] at hok
  obtain ⟨hd, rfl, ha⟩ := hok
  intro ls H locs hL hP hS
  cases i with
  | iconst k =>
    simp only [itA, Bool.and_eq_true, decide_eq_true_eq] at ha
    obtain ⟨rfl, hv⟩ := ha
    exact lv_iconst hx hb hd hv (hY _ _ _ h ls H locs hL hP hS)
  | bipush k =>
    simp only [itA, Bool.and_eq_true, decide_eq_true_eq] at ha
    obtain ⟨rfl, hv⟩ := ha
    exact lv_bipush hx hb hd hv (hY _ _ _ h ls H locs hL hP hS)
  | sipush k =>
    simp only [itA, Bool.and_eq_true, decide_eq_true_eq] at ha
    obtain ⟨rfl, hv⟩ := ha
    exact lv_sipush hx hb hd hv (hY _ _ _ h ls H locs hL hP hS)
  | ldc k =>
    simp only [itA, Bool.and_eq_true, decide_eq_true_eq] at ha
    obtain ⟨rfl, hv⟩ := ha
    exact lv_ldc hx hb hown (hts _ (wI_in hpt hv)) hd (hY _ _ _ h ls H locs hL hP hS)
  | ldc_w k =>
    simp only [itA, Bool.and_eq_true, decide_eq_true_eq] at ha
    obtain ⟨rfl, hv⟩ := ha
    exact lv_ldcw hx hb hown (hts _ (wI_in hpt hv)) hd (hY _ _ _ h ls H locs hL hP hS)
  | lconst k =>
    have hn : n = 1 := of_decide_eq_true ha
    subst hn
    exact lv_lconst hx hb hd rfl (hY _ _ _ h ls H locs hL hP hS)
  | ldc2_w k =>
    have hn : n = 3 := of_decide_eq_true ha
    subst hn
    obtain ⟨x, hm, h⟩ := lku_e h
    exact lv_ldc2 hx hb hown (hts _ (wL_in hpt hm)) hd (hY _ _ _ h ls H locs hL hP hS)
  | iload_n k =>
    have hn : n = 1 := of_decide_eq_true ha
    subst hn
    obtain ⟨x, hx1, h⟩ := ldI_e h
    exact lv_iload_n hx hb hd rfl (hL.at hx1 (by simp)) (hY _ _ _ h ls H locs hL hP hS)
  | iload k =>
    have hn : n = 2 := of_decide_eq_true ha
    subst hn
    obtain ⟨x, hx1, h⟩ := ldI_e h
    exact lv_iload hx hb hd (hL.at hx1 (by simp)) (hY _ _ _ h ls H locs hL hP hS)
  | istore_n k =>
    have hn : n = 1 := of_decide_eq_true ha
    subst hn
    have h : stI lv st k (fun lv r => Y lv r σ) := h
    obtain ⟨x, r, rfl, hi, h⟩ := stI_e h
    exact lv_istore_n hx hb hd rfl hL.has (by rw [← hL.1]; exact hi) rfl fun ls2 h2 => hY _ _ _ h ls2 H locs (hL.st1 h2) hP hS
  | istore k =>
    have hn : n = 2 := of_decide_eq_true ha
    subst hn
    have h : stI lv st k (fun lv r => Y lv r σ) := h
    obtain ⟨x, r, rfl, hi, h⟩ := stI_e h
    exact lv_istore hx hb hd hL.has (by rw [← hL.1]; exact hi) rfl fun ls2 h2 => hY _ _ _ h ls2 H locs (hL.st1 h2) hP hS
  | lload_n k =>
    have hn : n = 1 := of_decide_eq_true ha
    subst hn
    obtain ⟨x, hx1, h⟩ := ldL_e h
    exact lv_lload_n hx hb hd rfl (hL.at hx1 (by simp)) (hY _ _ _ h ls H locs hL hP hS)
  | lload k =>
    have hn : n = 2 := of_decide_eq_true ha
    subst hn
    obtain ⟨x, hx1, h⟩ := ldL_e h
    exact lv_lload hx hb hd (hL.at hx1 (by simp)) (hY _ _ _ h ls H locs hL hP hS)
  | lstore_n k =>
    have hn : n = 1 := of_decide_eq_true ha
    subst hn
    have h : stL lv st k (fun lv r => Y lv r σ) := h
    obtain ⟨x, r, rfl, hi, h⟩ := stL_e h
    exact lv_lstore_n hx hb hd rfl hL.has (by rw [← hL.1]; exact hi) rfl fun ls2 h2 => hY _ _ _ h ls2 H locs (hL.st2 h2) hP hS
  | lstore k =>
    have hn : n = 2 := of_decide_eq_true ha
    subst hn
    have h : stL lv st k (fun lv r => Y lv r σ) := h
    obtain ⟨x, r, rfl, hi, h⟩ := stL_e h
    exact lv_lstore hx hb hd hL.has (by rw [← hL.1]; exact hi) rfl fun ls2 h2 => hY _ _ _ h ls2 H locs (hL.st2 h2) hP hS
  | aload_n k =>
    have hn : n = 1 := of_decide_eq_true ha
    subst hn
    obtain ⟨x, hx1, h⟩ := ldR_e h
    exact lv_aload_n hx hb hd rfl (hL.at hx1 (by simp)) (hY _ _ _ h ls H locs hL hP hS)
  | aload k =>
    have hn : n = 2 := of_decide_eq_true ha
    subst hn
    obtain ⟨x, hx1, h⟩ := ldR_e h
    exact lv_aload hx hb hd (hL.at hx1 (by simp)) (hY _ _ _ h ls H locs hL hP hS)
  | astore_n k =>
    have hn : n = 1 := of_decide_eq_true ha
    subst hn
    have h : stR lv st k (fun lv r => Y lv r σ) := h
    obtain ⟨x, r, rfl, hi, h⟩ := stR_e h
    exact lv_astore_n hx hb hd rfl hL.has (by rw [← hL.1]; exact hi) rfl fun ls2 h2 => hY _ _ _ h ls2 H locs (hL.st1 h2) hP hS
  | astore k =>
    have hn : n = 2 := of_decide_eq_true ha
    subst hn
    have h : stR lv st k (fun lv r => Y lv r σ) := h
    obtain ⟨x, r, rfl, hi, h⟩ := stR_e h
    exact lv_astore hx hb hd hL.has (by rw [← hL.1]; exact hi) rfl fun ls2 h2 => hY _ _ _ h ls2 H locs (hL.st1 h2) hP hS
  | iinc k w =>
    simp only [itA, Bool.and_eq_true, decide_eq_true_eq] at ha
    obtain ⟨rfl, hv⟩ := ha
    obtain ⟨x, hx1, h⟩ := ldI_e h
    rw [lsn_eq] at h
    obtain ⟨kk, hkk⟩ := List.getElem?_of_mem (lp_in (ad := ad) hx1 (by simp))
    exact lv_iinc (x := x) hx hb hd hL.has hkk (by rw [hv]) (by rw [← hL.1]; exact (List.getElem?_eq_some_iff.mp hx1).1) rfl fun ls2 h2 => hY _ _ _ h ls2 H locs (hL.st1 (v := .int (x + v)) h2) hP hS
  | iadd =>
    have hn : n = 1 := of_decide_eq_true ha
    subst hn
    obtain ⟨a, b, r, rfl, h⟩ := qII_e h
    exact lv_iadd hx hb hd (hY _ _ _ h ls H locs hL hP hS)
  | isub =>
    have hn : n = 1 := of_decide_eq_true ha
    subst hn
    obtain ⟨a, b, r, rfl, h⟩ := qII_e h
    exact lv_isub hx hb hd (hY _ _ _ h ls H locs hL hP hS)
  | imul =>
    have hn : n = 1 := of_decide_eq_true ha
    subst hn
    obtain ⟨a, b, r, rfl, h⟩ := qII_e h
    exact lv_imul hx hb hd (hY _ _ _ h ls H locs hL hP hS)
  | iand =>
    have hn : n = 1 := of_decide_eq_true ha
    subst hn
    obtain ⟨a, b, r, rfl, h⟩ := qII_e h
    exact lv_iand hx hb hd (hY _ _ _ h ls H locs hL hP hS)
  | ior =>
    have hn : n = 1 := of_decide_eq_true ha
    subst hn
    obtain ⟨a, b, r, rfl, h⟩ := qII_e h
    exact lv_ior hx hb hd (hY _ _ _ h ls H locs hL hP hS)
  | ixor =>
    have hn : n = 1 := of_decide_eq_true ha
    subst hn
    obtain ⟨a, b, r, rfl, h⟩ := qII_e h
    exact lv_ixor hx hb hd (hY _ _ _ h ls H locs hL hP hS)
  | ishl =>
    have hn : n = 1 := of_decide_eq_true ha
    subst hn
    obtain ⟨a, b, r, rfl, h⟩ := qII_e h
    exact lv_ishl hx hb hd (hY _ _ _ h ls H locs hL hP hS)
  | ishr =>
    have hn : n = 1 := of_decide_eq_true ha
    subst hn
    obtain ⟨a, b, r, rfl, h⟩ := qII_e h
    exact lv_ishr hx hb hd (hY _ _ _ h ls H locs hL hP hS)
  | iushr =>
    have hn : n = 1 := of_decide_eq_true ha
    subst hn
    obtain ⟨a, b, r, rfl, h⟩ := qII_e h
    exact lv_iushr hx hb hd rfl (hY _ _ _ h ls H locs hL hP hS)
  | idiv =>
    have hn : n = 1 := of_decide_eq_true ha
    subst hn
    obtain ⟨a, b, r, rfl, h0, h⟩ := qII_e h
    exact lv_idiv hx hb hd h0 (hY _ _ _ h ls H locs hL hP hS)
  | ineg =>
    have hn : n = 1 := of_decide_eq_true ha
    subst hn
    obtain ⟨a, r, rfl, h⟩ := qI_e h
    exact lv_ineg hx hb hd (hY _ _ _ h ls H locs hL hP hS)
  | ladd =>
    have hn : n = 1 := of_decide_eq_true ha
    subst hn
    obtain ⟨a, b, r, rfl, h⟩ := qLL_e h
    exact lv_ladd hx hb hd (hY _ _ _ h ls H locs hL hP hS)
  | lsub =>
    have hn : n = 1 := of_decide_eq_true ha
    subst hn
    obtain ⟨a, b, r, rfl, h⟩ := qLL_e h
    exact lv_lsub hx hb hd (hY _ _ _ h ls H locs hL hP hS)
  | lmul =>
    have hn : n = 1 := of_decide_eq_true ha
    subst hn
    obtain ⟨a, b, r, rfl, h⟩ := qLL_e h
    exact lv_lmul hx hb hd (hY _ _ _ h ls H locs hL hP hS)
  | land =>
    have hn : n = 1 := of_decide_eq_true ha
    subst hn
    obtain ⟨a, b, r, rfl, h⟩ := qLL_e h
    exact lv_land hx hb hd (hY _ _ _ h ls H locs hL hP hS)
  | lor =>
    have hn : n = 1 := of_decide_eq_true ha
    subst hn
    obtain ⟨a, b, r, rfl, h⟩ := qLL_e h
    exact lv_lor hx hb hd (hY _ _ _ h ls H locs hL hP hS)
  | ldiv =>
    have hn : n = 1 := of_decide_eq_true ha
    subst hn
    obtain ⟨a, b, r, rfl, h0, h⟩ := qLL_e h
    exact lv_ldiv hx hb hd h0 (hY _ _ _ h ls H locs hL hP hS)
  | lrem =>
    have hn : n = 1 := of_decide_eq_true ha
    subst hn
    obtain ⟨a, b, r, rfl, h0, h⟩ := qLL_e h
    exact lv_lrem hx hb hd h0 (hY _ _ _ h ls H locs hL hP hS)
  | lshl =>
    have hn : n = 1 := of_decide_eq_true ha
    subst hn
    obtain ⟨a, b, r, rfl, h⟩ := qLI_e h
    exact lv_lshl hx hb hd rfl (hY _ _ _ h ls H locs hL hP hS)
  | lshr =>
    have hn : n = 1 := of_decide_eq_true ha
    subst hn
    obtain ⟨a, b, r, rfl, h⟩ := qLI_e h
    exact lv_lshr hx hb hd rfl (hY _ _ _ h ls H locs hL hP hS)
  | lcmp =>
    have hn : n = 1 := of_decide_eq_true ha
    subst hn
    obtain ⟨a, b, r, rfl, h⟩ := qLL_e h
    exact W.lcmp hx hb hd (hY _ _ _ h ls H locs hL hP hS)
  | i2l =>
    have hn : n = 1 := of_decide_eq_true ha
    subst hn
    obtain ⟨a, r, rfl, h⟩ := qI_e h
    exact lv_i2l hx hb hd rfl (hY _ _ _ h ls H locs hL hP hS)
  | i2b =>
    have hn : n = 1 := of_decide_eq_true ha
    subst hn
    obtain ⟨a, r, rfl, h⟩ := qI_e h
    exact lv_i2b hx hb hd rfl (hY _ _ _ h ls H locs hL hP hS)
  | l2i =>
    have hn : n = 1 := of_decide_eq_true ha
    subst hn
    obtain ⟨a, r, rfl, h⟩ := qL_e h
    exact lv_l2i hx hb hd rfl (hY _ _ _ h ls H locs hL hP hS)
  | dup =>
    have hn : n = 1 := of_decide_eq_true ha
    subst hn
    obtain ⟨a, r, rfl, c1, h⟩ := pp_e h
    exact lv_dup hx hb hd (by rw [cv_cat]; assumption) (hY _ _ _ h ls H locs hL hP hS)
  | pop =>
    have hn : n = 1 := of_decide_eq_true ha
    subst hn
    obtain ⟨a, r, rfl, c1, h⟩ := pp_e h
    exact lv_pop hx hb hd (by rw [cv_cat]; assumption) (hY _ _ _ h ls H locs hL hP hS)
  | dup_x1 =>
    have hn : n = 1 := of_decide_eq_true ha
    subst hn
    obtain ⟨a, r, rfl, c1, h⟩ := pp_e h
    obtain ⟨b, r, rfl, c2, h⟩ := pp_e h
    exact lv_dup_x1 hx hb hd (by rw [cv_cat]; exact c1) (by rw [cv_cat]; exact c2) (hY _ _ _ h ls H locs hL hP hS)
  | dup_x2 =>
    have hn : n = 1 := of_decide_eq_true ha
    subst hn
    obtain ⟨a, r, rfl, c1, h⟩ := pp_e h
    obtain ⟨b, r, rfl, c2, h⟩ := pp_e h
    obtain ⟨w, r, rfl, c3, h⟩ := pp_e h
    exact lv_dup_x2 hx hb hd (by rw [cv_cat]; exact c1) (by rw [cv_cat]; exact c2) (by rw [cv_cat]; exact c3) (hY _ _ _ h ls H locs hL hP hS)
  | dup2 =>
    have hn : n = 1 := of_decide_eq_true ha
    subst hn
    obtain ⟨a, r, rfl, c1, h⟩ := pp_e h
    obtain ⟨b, r, rfl, c2, h⟩ := pp_e h
    exact lv_dup2_11 hx hb hd (by rw [cv_cat]; exact c1) (by rw [cv_cat]; exact c2) (hY _ _ _ h ls H locs hL hP hS)
  | goto o =>
    simp only [itA, Bool.and_eq_true, decide_eq_true_eq] at ha
    obtain ⟨rfl, hv⟩ := ha
    exact lv_goto hx hb hd hv (h ls H locs hL hP hS)
  | ifCond k o =>
    simp only [itA, Bool.and_eq_true, decide_eq_true_eq] at ha
    obtain ⟨rfl, hv⟩ := ha
    cases k with
    | eq =>
      obtain ⟨a, r, rfl, h1, h2⟩ := qI_e h
      exact lv_if_eq hx hb hd hv (fun q => h1 q ls H locs hL hP hS) (fun q => hY _ _ _ (h2 q) ls H locs hL hP hS)
    | ne =>
      obtain ⟨a, r, rfl, h1, h2⟩ := qI_e h
      exact lv_if_ne hx hb hd hv (fun q => h2 q ls H locs hL hP hS) (fun q => hY _ _ _ (h1 q) ls H locs hL hP hS)
    | lt =>
      obtain ⟨a, r, rfl, h1, h2⟩ := qI_e h
      exact lv_if_lt hx hb hd hv (fun q => h1 q ls H locs hL hP hS) (fun q => hY _ _ _ (h2 q) ls H locs hL hP hS)
    | ge =>
      obtain ⟨a, r, rfl, h1, h2⟩ := qI_e h
      exact lv_if_ge hx hb hd hv (fun q => h1 q ls H locs hL hP hS) (fun q => hY _ _ _ (h2 q) ls H locs hL hP hS)
    | gt =>
      obtain ⟨a, r, rfl, h1, h2⟩ := qI_e h
      exact lv_if_gt hx hb hd hv (fun q => h1 q ls H locs hL hP hS) (fun q => hY _ _ _ (h2 q) ls H locs hL hP hS)
    | le =>
      obtain ⟨a, r, rfl, h1, h2⟩ := qI_e h
      exact lv_if_le hx hb hd hv (fun q => h1 q ls H locs hL hP hS) (fun q => hY _ _ _ (h2 q) ls H locs hL hP hS)
  | if_icmp k o =>
    simp only [itA, Bool.and_eq_true, decide_eq_true_eq] at ha
    obtain ⟨rfl, hv⟩ := ha
    cases k with
    | eq =>
      obtain ⟨a, b, r, rfl, h1, h2⟩ := qII_e h
      exact lv_icmp_eq hx hb hd hv (fun q => h1 q ls H locs hL hP hS) (fun q => hY _ _ _ (h2 q) ls H locs hL hP hS)
    | ne =>
      obtain ⟨a, b, r, rfl, h1, h2⟩ := qII_e h
      exact lv_icmp_ne hx hb hd hv (fun q => h2 q ls H locs hL hP hS) (fun q => hY _ _ _ (h1 q) ls H locs hL hP hS)
    | lt =>
      obtain ⟨a, b, r, rfl, h1, h2⟩ := qII_e h
      exact lv_icmp_lt hx hb hd hv (fun q => h1 q ls H locs hL hP hS) (fun q => hY _ _ _ (h2 q) ls H locs hL hP hS)
    | ge =>
      obtain ⟨a, b, r, rfl, h1, h2⟩ := qII_e h
      exact lv_icmp_ge hx hb hd hv (fun q => h1 q ls H locs hL hP hS) (fun q => hY _ _ _ (h2 q) ls H locs hL hP hS)
    | gt =>
      obtain ⟨a, b, r, rfl, h1, h2⟩ := qII_e h
      exact lv_icmp_gt hx hb hd hv (fun q => h1 q ls H locs hL hP hS) (fun q => hY _ _ _ (h2 q) ls H locs hL hP hS)
    | le =>
      obtain ⟨a, b, r, rfl, h1, h2⟩ := qII_e h
      exact lv_icmp_le hx hb hd hv (fun q => h1 q ls H locs hL hP hS) (fun q => hY _ _ _ (h2 q) ls H locs hL hP hS)
  | lookupswitch df pr =>
    simp only [itA, Bool.and_eq_true, decide_eq_true_eq] at ha
    obtain ⟨h1, h2, h3⟩ := ha
    obtain ⟨a, r, rfl, h⟩ := qI_e h
    obtain ⟨t2, e2, hk⟩ := swl_ok h3 _ _ h2 h
    exact lv_lookup hx hb hd h1 rfl e2 (hk ls H locs hL hP hS)
  | tableswitch df lo hi os =>
    simp only [itA, Bool.and_eq_true, decide_eq_true_eq] at ha
    obtain ⟨h1, h2, h3⟩ := ha
    obtain ⟨a, r, rfl, h⟩ := qI_e h
    obtain ⟨t2, hk, hq⟩ := swt_ok lo _ _ h2 h
    have hz : (os.toList.length : Int) = (os.size : Int) := by simp
    rcases hq with ⟨rfl, hq⟩ | ⟨off, q1, q2, q3, q4⟩
    · exact lv_tableOut hx hb hd (by omega) h3 (hk ls H locs hL hP hS)
    · exact lv_tableIn hx hb hd q1 (by omega) (by rw [← Array.getElem?_toList]; exact q3) q4 (hk ls H locs hL hP hS)
  | getfield k =>
    have hn : n = 3 := of_decide_eq_true ha
    subst hn
    obtain ⟨q, hm, h⟩ := lku_e h
    obtain ⟨o, r, rfl, g5⟩ := qR_e h
    obtain ⟨fs, w, h1, h2, g6⟩ := gtf_e g5
    obtain ⟨C, T, N, hc, hk, -, -⟩ := fb_e (ptb_F hpt hm)
    refine va_get (D := D) (v := fv ad σ o q.2.1 w) hx hb hts (wC_in hc) hown hK hP o (pic_get h1) hc q.2.1 hk (hts _ (wF_in hpt hm hc)) (fun _ z => z) ?_ hd ?_
    · rw [List.getElem?_mapIdx, h2]; rfl
    · have h9 := hY _ _ _ g6 ls H locs hL hP hS
      cases w with
      | none => exact h9
      | some k2 => exact h9
  | putfield k =>
    have hn : n = 3 := of_decide_eq_true ha
    subst hn
    obtain ⟨q, hm, h⟩ := lku_e h
    obtain ⟨x, o, r, rfl, h⟩ := qIR_e h
    obtain ⟨fs, h1, h2, h⟩ := ptf_e h
    obtain ⟨C, T, N, hc, hk, g1, g2⟩ := fb_e (ptb_F hpt hm)
    obtain ⟨ty, hty⟩ := cls_ty hc
    have hjl : q.2.1 < (fs.mapIdx (fv ad σ o)).length := by rw [List.length_mapIdx]; exact (List.getElem?_eq_some_iff.mp h2).1
    obtain ⟨q1, q2, q3⟩ := q
    dsimp only at h hc hk g1 g2 h1 h2 hjl
    have key : (∃ fty, parseFieldDescriptor (T q2).2.2.1 = some fty ∧ (T q2).2.2.2 = false ∧ narrow fty (.int x) = .int x ∧ fits fty (.int x) = true) ∧ Y lv r (up2 σ o q2 x) := by
      split at h
      · exact ⟨⟨.int, (g1 rfl).2, (g1 rfl).1, rfl, rfl⟩, h.2⟩
      · refine ⟨⟨.boolean, (g2 rfl).2, (g2 rfl).1, ?_, ?_⟩, h.2⟩
        · rcases h.1 with e | e <;> rw [e] <;> rfl
        · rcases h.1 with e | e <;> rw [e] <;> rfl
      · exact h.elim
    obtain ⟨⟨fty, k1, k2, k3, k4⟩, h⟩ := key
    refine va_put (D := D) (v := .int x) hx hb hts (wC_in hc) ty hty (cls_nm hc) hown hK hP (pic_D hJ hA σ) hS o (pic_get h1) hc q2 hk (hts _ (wF_in hpt hm hc)) (fun _ z => z) k2 k1 k3 k4 hjl hd fun H1 locs1 hP1 hD1 hS1 => ?_
    rw [pic_put h1 h2] at hP1
    exact hY _ _ _ h ls H1 locs1 hL hP1 hS1
  | iaload =>
    have hn : n = 1 := of_decide_eq_true ha
    subst hn
    obtain ⟨x, o, r, rfl, h⟩ := qIR_e h
    obtain ⟨N, h1, h2, h⟩ := arr_e h
    exact va_iald (D := D) (f := σ o) hx hb hK hP o 0 (pic_get h1) rfl h2 hd (hY _ _ _ h ls H locs hL hP hS)
  | iastore =>
    have hn : n = 1 := of_decide_eq_true ha
    subst hn
    obtain ⟨x, j, o, r, rfl, h⟩ := qIIR_e h
    obtain ⟨N, h1, h2, h⟩ := arr_e h
    refine va_iast (D := D) (f := σ o) hx hb hK hP (pic_D hJ hA σ) hS o 0 (pic_get h1) rfl h2 hd fun H1 locs1 hP1 hD1 hS1 => ?_
    rw [pic_ast h1] at hP1
    exact hY _ _ _ h ls H1 locs1 hL hP1 hS1
  | arraylength =>
    have hn : n = 1 := of_decide_eq_true ha
    subst hn
    obtain ⟨o, r, rfl, h⟩ := qR_e h
    obtain ⟨N, h1, h⟩ := arr_e h
    exact va_alen (D := D) hx hb hK hP o 0 (pic_get h1) rfl rfl hd (hY _ _ _ h ls H locs hL hP hS)
  | invokevirtual k =>
    have hn : n = 3 := of_decide_eq_true ha
    subst hn
    obtain ⟨q, hm, h⟩ := lku_e h
    obtain ⟨mi, na, ci⟩ := q
    obtain ⟨o, r, hst, h⟩ := qR_e h
    split at h
    · rename_i hrc
      obtain ⟨h8, h⟩ := sm8_e h
      simp only [Bool.and_eq_true, rom, Nat.ble_eq] at hrc
      obtain ⟨hrc, hr1, hr2⟩ := hrc
      obtain ⟨fs, hsh⟩ := rcv_e hrc
      have hv := ptb_V hpt hm
      simp only [vb, Bool.and_eq_true, decide_eq_true_eq] at hv
      obtain ⟨hv1, hv2, hv3, hv4⟩ := hv
      have hcl : ∃ T N, classes[ci]? = some (mi.1.cls, T, N) := by
        split at hv1
        · rename_i r9 hr9
          obtain ⟨C, T, N⟩ := r9
          simp only [decide_eq_true_eq] at hv1
          exact ⟨T, N, by rw [hr9, ← hv1]⟩
        · cases hv1
      obtain ⟨T, N, hc⟩ := hcl
      have w : ∀ {z}, z ∈ wV pt.1 (k, mi, na, ci) → z ∈ WS := fun hz => wV_in hpt hm hz
      dsimp only at hst h h8
      have hle : na ≤ st.length := by
        by_cases hq : na ≤ st.length
        · exact hq
        · rw [List.drop_eq_nil_of_le (by omega)] at hst; cases hst
      have hsplit : st.map (cv ad) = (((st.take na).reverse).map (cv ad)).reverse ++ .ref (ad o) :: r.map (cv ad) := by
        rw [← List.map_reverse, List.reverse_reverse]
        have e9 : st = st.take na ++ .ref o :: r := by rw [← hst, List.take_append_drop]
        calc st.map (cv ad) = (st.take na ++ .ref o :: r).map (cv ad) := by rw [← e9]
          _ = _ := by rw [List.map_append]; rfl
      refine mj_call (K := fun rv σ2 => Y lv (rv.toList ++ r) σ2) (rest := r.map (cv ad)) (va_runV (As := ((st.take na).reverse).map (cv ad)) (b := ad o) (n := na) ⟨hx, hb, hml, hown, hts⟩ h ⟨callB_of na hts (goodWS mi (w (by simp [wV]))) rfl rfl rfl (hts _ (w (by simp [wV]))) (hts _ (w (by simp [wV]))) ⟨hv2, hv3, hv4⟩ ⟨?_, ?_⟩, hts _ (w (by simp [wV])), hts _ (w (by simp [wV]))⟩ ⟨blind ad D cI σ _, va_recv hK hP hc (pic_get hsh), fun U hU hW => ⟨rfl, by rw [hU]; exact hP, va_K.moved hW.alike hK, hJ⟩⟩ rfl ?_ (hL.2.1) hsplit ?_ hd ⟨hce, hsl⟩) hS hA fun rv σ2 H1 locs1 hk hP1 hS1 => ?_
      · show mi.2.2.2.2.1 + 1 ≤ R.frames; exact Nat.le_trans hr1 hfr
      · show 8 + (mi.2.2.1 + 11) + mi.2.2.2.2.2 ≤ R.locals; exact Nat.le_trans hr2 hlo
      · simp [hle]
      · exact lv_room (by rw [cv_cats]; exact h8)
      · have h9 := hY _ _ _ hk ls H1 locs1 hL hP1 hS1
        rw [List.map_append] at h9
        cases rv <;> exact h9
    · exact h.elim
  | invokestatic k =>
    have hn : n = 3 := of_decide_eq_true ha
    subst hn
    obtain ⟨q, hm, h⟩ := lku_e h
    obtain ⟨mi, na⟩ := q
    split at h
    · rename_i hle
      obtain ⟨h8, h⟩ := sm8_e h
      simp only [Bool.and_eq_true, rom, Nat.ble_eq] at hle
      obtain ⟨hle, hr1, hr2⟩ := hle
      have hv := ptb_S hpt hm
      simp only [sb, Bool.and_eq_true, decide_eq_true_eq] at hv
      obtain ⟨hv2, hv3, hv4⟩ := hv
      have w : ∀ {z}, z ∈ wS pt.1 (k, mi, na) → z ∈ WS := fun hz => wS_in hpt hm hz
      have hsplit : st.map (cv ad) = (((st.take na).reverse).map (cv ad)).reverse ++ (st.drop na).map (cv ad) := by
        rw [← List.map_reverse, List.reverse_reverse, ← List.map_append, List.take_append_drop]
      refine mj_call (K := fun rv σ2 => Y lv (rv.toList ++ st.drop na) σ2) (rest := (st.drop na).map (cv ad)) (va_runS (As := ((st.take na).reverse).map (cv ad)) (n := na) ⟨hx, hb, hml, hown, hts⟩ h ⟨callB_of na hts (goodWS mi (w (by simp [wS]))) rfl rfl rfl (hts _ (w (by simp [wS]))) (hts _ (w (by simp [wS]))) ⟨hv2, hv3, hv4⟩ ⟨?_, ?_⟩, hts _ (w (by simp [wS]))⟩ ⟨blind ad D cI σ _, fun U hU hW => ⟨rfl, by rw [hU]; exact hP, va_K.moved hW.alike hK, hJ⟩⟩ rfl ?_ (hL.2.1) hsplit ?_ hd ⟨hce, hsl⟩) hS hA fun rv σ2 H1 locs1 hk hP1 hS1 => ?_
      · show mi.2.2.2.2.1 + 1 ≤ R.frames; exact Nat.le_trans hr1 hfr
      · show 8 + (mi.2.2.1 + 11) + mi.2.2.2.2.2 ≤ R.locals; exact Nat.le_trans hr2 hlo
      · simp [hle]
      · exact lv_room (by rw [cv_cats]; exact h8)
      · have h9 := hY _ _ _ hk ls H1 locs1 hL hP1 hS1
        rw [List.map_append] at h9
        cases rv <;> exact h9
    · exact h.elim
  | ireturn =>
    have hn : n = 1 := of_decide_eq_true ha
    subst hn
    obtain ⟨x, r, rfl, g1⟩ := qI_e h
    obtain ⟨rfl, g2⟩ := nilP_e g1
    obtain ⟨g3, g4⟩ := riP_e g2
    exact hR.1 pc ls x σ H locs hd g3 g4 hP hS
  | return_ =>
    have hn : n = 1 := of_decide_eq_true ha
    subst hn
    obtain ⟨rfl, g2⟩ := nilP_e (h : nilP st (rvP ret (K none σ)))
    obtain ⟨g3, g4⟩ := rvP_e g2
    exact hR.2 pc ls σ H locs hd g3 g4 hP hS
  | _ => exact (h : False).elim
/-- a run of items: a block -/
def blk (l : Launch) (ad : Nat → Nat) (D : va_G) (cI : ClassId) (pt : PT) (ret : Option FieldType) (d : Nat × Nat) (X : Nat → List Value → List Value → Sg → Prop) (K : Option Value → Sg → Prop) (en : Nat) : List IT → List Value → List Value → Sg → Prop
  | [] => X en
  | it :: is => stp l ad D cI pt ret d X K it (blk l ad D cI pt ret d X K en is)
theorem blk_ok {cc : ByteArray} {nL : Nat} {pt : PT} {ret : Option FieldType} {d : Nat × Nat} {K : Option Value → Sg → Prop} (hC : CX p R s m args c cells slots ad D cI A cc nL pt d) (hR : RT p l e R s m args below meth c cells slots Q ad D cI A cc ret K) (en : Nat) : ∀ (is : List IT), blkOK cc pt en is = true → ∀ (lv st : List Value) (σ : Sg), blk l ad D cI pt ret d (XW p l e R s m args below meth c cells slots Q ad D cI A nL) K en is lv st σ → XW p l e R s m args below meth c cells slots Q ad D cI A nL (hdp is en) lv st σ
  | [], _, _, _, _, h => h
  | it :: is, hk, lv, st, σ, h => by
    simp only [blkOK, Bool.and_eq_true] at hk
    exact stp_ok hC hR hk.1 (fun lv st σ => blk_ok hC hR en is hk.2 lv st σ) h
end SND
/-- what a body's proof may use: X is closed under blocks -/
def Cl (l : Launch) (ad : Nat → Nat) (D : va_G) (cI : ClassId) (mi : MI) (pt : PT) (K : Option Value → Sg → Prop) (X : Nat → List Value → List Value → Sg → Prop) : Prop :=
  (∀ (en : Nat) (is : List IT), blkOK mi.2.1 pt en is = true → ∀ (lv st : List Value) (σ : Sg), blk l ad D cI pt mi.2.2.2.1 (mi.2.2.2.2.1, mi.2.2.2.2.2) X K en is lv st σ → X (hdp is en) lv st σ) ∧
  (∀ (pc : Nat) (lv st : List Value) (σ : Sg) (k : Nat), X pc (lv.set k .null) st σ → X pc lv st σ)
def fgt (lv : List Value) : List Nat → List Value
  | [] => lv
  | k :: ks => fgt (lv.set k .null) ks
theorem Cl.fg {l : Launch} {ad : Nat → Nat} {D : va_G} {cI : ClassId} {mi : MI} {pt : PT} {K : Option Value → Sg → Prop} {X : Nat → List Value → List Value → Sg → Prop} (hX : Cl l ad D cI mi pt K X) {pc : Nat} {st : List Value} {σ : Sg} : ∀ (ks : List Nat) {lv : List Value}, X pc (fgt lv ks) st σ → X pc lv st σ
  | [], _, h => h
  | k :: ks, _, h => hX.2 pc _ st σ k (Cl.fg hX ks h)
theorem LL.fg {ad : Nat → Nat} {nL : Nat} {lv : List Value} {ls : Array Slot} (h : LL ad nL lv ls) (k : Nat) : LL ad nL (lv.set k .null) ls := by
  refine ⟨by rw [List.length_set]; exact h.1, h.2.1, h.2.2.1, fun i v hv hn => ?_⟩
  rw [List.getElem?_set] at hv
  by_cases hk : k = i
  · rw [if_pos hk] at hv
    split at hv
    · cases hv; exact absurd rfl hn
    · cases hv
  · rw [if_neg hk] at hv
    exact h.2.2.2 i v hv hn
/-- a value gets a name -/
def bnd {α β : Type} (x : α) (k : α → β) : β := k x
theorem bnd_g {α β : Type} {P : β → Prop} {x : α} {k : α → β} {G : α → Prop} (h : P (bnd x k)) (g : ∀ r, x = r → P (k r) → G r) : G x := g x rfl h
theorem SG_g {β : Type} {P : β → Prop} {x : Sg} {k : Sg → β} {y : Sg → Prop} (h : P (bnd x k)) (g : ∀ s, x = s → P (k s) → y s) : SG x y := g x rfl h
theorem bnd_z {α β : Type} {P : β → Prop} {x : α} {k : α → β} (g : ∀ r, x = r → P (k r)) : P (bnd x k) := g x rfl
theorem bnd_zz {α β : Type} {Z : α → Prop} {P : β → Prop} {x : α} {k : α → β} (h : Z x) (g : ∀ r, x = r → Z r → P (k r)) : P (bnd x k) := g x rfl h
theorem ite_p {α : Type} {P : α → Prop} {q : Prop} [inst : Decidable q] {a b : α} (h : P (if q then a else b)) (hq : q) : P a := by rw [if_pos hq] at h; exact h
theorem ite_n {α : Type} {P : α → Prop} {q : Prop} [inst : Decidable q] {a b : α} (h : P (if q then a else b)) (hq : ¬ q) : P b := by rw [if_neg hq] at h; exact h
theorem ite_z {α : Type} {P : α → Prop} {q : Prop} [inst : Decidable q] {a b : α} (ha : q → P a) (hb : ¬ q → P b) : P (if q then a else b) := by
  split
  · exact ha (by assumption)
  · exact hb (by assumption)
/-- which places a function writes; what every such write keeps, it keeps -/
def wm (W : List (Nat × Option Nat)) (i j : Nat) : Prop := (i, none) ∈ W ∨ (i, some j) ∈ W
def WP (W : List (Nat × Option Nat)) (P : Sg → Prop) : Prop := ∀ (s : Sg) (i j : Nat) (v : Int32), wm W i j → P s → P (up2 s i j v)
def PP (P : Sg → Prop) (r : Int32 × Sg) : Prop := P r.2
theorem wsub {W W2 : List (Nat × Option Nat)} {P : Sg → Prop} (h : WP W P) (hs : (W2.all fun q => decide (q ∈ W)) = true) : WP W2 P := fun s i j v hw hp => h s i j v (hw.imp (fun z => of_decide_eq_true (List.all_eq_true.mp hs _ z)) (fun z => of_decide_eq_true (List.all_eq_true.mp hs _ z))) hp
def Zb (r : Int32 × Sg) : Prop := r.1 = 0 ∨ r.1 = 1
def KI (K : Option Value → Sg → Prop) (r : Int32 × Sg) : Prop := K (some (.int r.1)) r.2
def KV (K : Option Value → Sg → Prop) (s : Sg) : Prop := K none s
theorem vin {i : Int32} {n : Nat} (h : decide (¬ (i < 0 ∨ n ≤ i.toNatClampNeg)) = true) : vp_in i n := by
  unfold vp_in
  exact of_decide_eq_true h
theorem vin_le {i : Int32} {n k : Nat} (h : vp_in i n) (hk : n ≤ k) : vp_in i k := fun q => h (q.imp id (fun z => Nat.le_trans hk z))
theorem lv_args_cat1 : ∀ (vs : List Value) (k : Nat), (∀ v ∈ vs, v.category = 1) → ∀ (i : Nat) (v : Value), vs[i]? = some v → (k + i, v) ∈ lv_args k vs
  | [], _, _, _, _, h => by cases h
  | w :: vs, k, hc, 0, v, h => by
    cases h
    exact List.mem_cons_self
  | w :: vs, k, hc, i + 1, v, h => by
    have h1 : w.category = 1 := hc w List.mem_cons_self
    have h2 := lv_args_cat1 vs (k + 1) (fun x hx => hc x (List.mem_cons_of_mem _ hx)) i v h
    have e : lv_args k (w :: vs) = (k, w) :: lv_args (k + 1) vs := by
      show (k, w) :: lv_args (if w.category = 2 then k + 2 else k + 1) vs = _
      rw [if_neg (by omega)]
    rw [e, show k + (i + 1) = k + 1 + i by omega]
    exact List.mem_cons_of_mem _ h2
theorem sl_cat1 : ∀ (vs : List Value), (∀ v ∈ vs, v.category = 1) → (lg_sl vs).length = vs.length
  | [], _ => rfl
  | w :: vs, hc => by
    have h1 : w.category = 1 := hc w List.mem_cons_self
    have h2 := sl_cat1 vs (fun x hx => hc x (List.mem_cons_of_mem _ hx))
    simp only [lg_sl, List.flatMap_cons] at h2 ⊢
    rw [if_neg (by omega), List.length_append, h2]
    simp; omega
/-- a contract out of the body's walk -/
theorem met_of {l : Launch} {ad : Nat → Nat} {D : va_G} {cI : ClassId} (mi : MI) (pt : PT) (hpt : pt ∈ pts) (hpc : pt.1 = mi.1.cls) (hpl : plainName mi.1.cls = true) {vs : List Value} {σ : Sg} {K : Option Value → Sg → Prop} (hc0 : vs.all (fun v => v.category == 1) = true) (hn : vs.length ≤ mi.2.2.1)
    (body : ∀ X, Cl l ad D cI mi pt K X → X 0 (vs ++ List.replicate (mi.2.2.1 - vs.length) .null) [] σ) : MetJ l ad D cI mi vs σ K := by
  have hc : ∀ v ∈ vs, v.category = 1 := fun v hv => by simpa using List.all_eq_true.mp hc0 v hv
  obtain ⟨y, cc, nL, ret, hh, ll⟩ := mi
  refine Met.ofW (cc := cc) (maxL := nL) (ret := ret) hpl rfl ?_
  intro p e s m args below meth c s₁ B hml hv
  obtain ⟨rfl, hP, hK, hJ⟩ := hv
  have hx := B.exec
  have hb := B.bytes
  have hr := B.returns
  have hlocks := B.notSynchronized
  have hts0 := atoms_spec (ws := wsJ (y, cc, nL, ret, hh, ll)) B.pre
  have hts : ∀ w ∈ WS, w.before (vs.map (cv ad)).toArray s = true := fun w hw => hts0 w (List.mem_cons_of_mem _ hw)
  have hown : s.vm.findClass pt.1 = some m.cls := by rw [hpc]; exact findClass_of_methodNamed B.named
  have hC : CX p (headSpec (wsJ (y, cc, nL, ret, hh, ll)) (rmJ (y, cc, nL, ret, hh, ll))).room s m (vs.map (cv ad)).toArray c 0 0 ad D cI (AA ad) cc nL pt (hh, ll) := ⟨hx, hb, hml, hown, hts, hK, hJ, fun i hi => ⟨i, hi, rfl⟩, hpt, Nat.le_refl _, Nat.le_refl _, Nat.le_refl _, Nat.le_refl _⟩
  have hR : RT p l e (headSpec (wsJ (y, cc, nL, ret, hh, ll)) (rmJ (y, cc, nL, ret, hh, ll))).room s m (vs.map (cv ad)).toArray below meth c 0 0 (MQ below (QJ ad D cI K) (vs.map (cv ad)).toArray s 0 0 (AA ad)) ad D cI (AA ad) cc ret K := by
    refine ⟨fun pc ls v σ H locs hd hre hk hP hS => ?_, fun pc ls σ H locs hd hre hk hP hS => ?_⟩
    · rcases hre with e1 | ⟨e1, e2⟩
      · exact W.iret hx hb (by rw [hr]; exact e1) (fun t ht hW => ⟨⟨some (.int v), σ, rfl, hk, by rw [ht]; exact hP⟩, hS.F ht⟩) hS.2.2 hd
      · exact W.zret (ty := .boolean) hx hb (by rw [hr]; exact e1) (by rcases e2 with e | e <;> rw [e] <;> rfl) (fun t ht hW => ⟨⟨some (.int v), σ, rfl, hk, by rw [ht]; exact hP⟩, hS.F ht⟩) hS.2.2 hd
    · exact W.vret hx hb (by rw [hr]; exact hre) (fun t ht hW => ⟨⟨none, σ, rfl, hk, by rw [ht]; exact hP⟩, hS.F ht⟩) hS.2.2 hd
  have hc' : ∀ v ∈ vs.map (cv ad), v.category = 1 := fun v hv => by
    obtain ⟨w, hw, rfl⟩ := List.mem_map.mp hv
    rw [cv_cat]; exact hc w hw
  have hl := lv_entry (vs.map (cv ad)) (n := nL) (by rw [sl_cat1 _ hc', List.length_map]; exact hn)
  rw [lg_entry_eq]
  refine body _ ⟨fun en is hk lv st σ hb => blk_ok hC hR en is hk lv st σ hb, fun pc lv st σ k h ls H locs hL hP hS => h ls H locs (hL.fg k) hP hS⟩ _ _ [] ⟨?_, hl.1, hl.2.1, fun i v hv hnn => ?_⟩ hP va_S.rf
  · rw [List.length_append, List.length_replicate]
    exact Nat.add_sub_cancel' hn
  · have hi : i < vs.length := by
      by_cases hi : i < vs.length
      · exact hi
      · rw [List.getElem?_append_right (by omega), List.getElem?_replicate] at hv
        split at hv
        · cases hv; exact absurd rfl hnn
        · cases hv
    rw [List.getElem?_append_left hi] at hv
    have h9 := lv_args_cat1 (vs.map (cv ad)) 0 hc' i (cv ad v) (by rw [List.getElem?_map, hv]; rfl)
    rw [Nat.zero_add] at h9
    exact hl.2.2 _ h9
end
section
/-! ranges -/
theorem vin_lt {i m : Int32} {n : Nat} (hm : m.toInt = n) (h0 : ¬ i < 0) (h : i < m) : vp_in i n := by
  rw [vp_in_iff]
  rw [Int32.lt_iff_toInt_lt] at h h0
  rw [Int32.toInt_zero] at h0
  omega
theorem i_lt {a b : Int32} : a < b ↔ a.toInt < b.toInt := Int32.lt_iff_toInt_lt
theorem i_le {a b : Int32} : a ≤ b ↔ a.toInt ≤ b.toInt := Int32.le_iff_toInt_le
theorem vin_sh {a m s : Int32} {n k : Nat} (hm : m.toInt + 1 = n) (hs : (s.toBitVec.smod 32).toNat = k) (h0 : ¬ a < 0) (h : a >>> s ≤ m) : vp_in (a >>> s) n := by
  rw [vp_in_iff]
  have e := pk_shr a s k hs
  rw [i_lt, Int32.toInt_zero] at h0
  rw [i_le] at h
  have h2 : 0 ≤ (a >>> s).toInt := by
    rw [e, Int.shiftRight_eq_div_pow]
    exact Int.ediv_nonneg (by omega) (by exact_mod_cast Nat.zero_le _)
  omega
end
section
theorem i64_ne {x : Int32} (h : ¬ x = 0) : ¬ x.toInt64 = 0 := fun q => h (Int32.toInt_inj.mp (by
  have h2 := congrArg Int64.toInt q
  rw [Int32.toInt_toInt64] at h2
  rw [h2]
  rfl))
theorem lg_ne {x y : Int64} (h : ¬ lg_cmp x y = 0) : ¬ x = y := fun q => h (by
  subst q
  unfold lg_cmp
  rw [if_neg (by simp), if_pos rfl])
theorem vin_nle {i m : Int32} {n : Nat} (hm : m.toInt = n) (h0 : ¬ i < 0) (h : ¬ m ≤ i) : vp_in i n := by
  rw [vp_in_iff]
  rw [i_lt, Int32.toInt_zero] at h0
  rw [i_le] at h
  omega
theorem sub_toInt {a k : Int32} (h0 : 0 ≤ k.toInt) (h1 : k ≤ a) : (a - k).toInt = a.toInt - k.toInt := by
  rw [i_le] at h1
  have h2 := Int32.toInt_lt a
  rw [Int32.toInt_sub]
  exact Int.bmod_eq_of_le (by omega) (by omega)
theorem vin_sub {a k m : Int32} {n : Nat} (h0 : 0 ≤ k.toInt) (hm : m.toInt - k.toInt = n) (h1 : k ≤ a) (h2 : ¬ m ≤ a) : vp_in (a - k) n := by
  rw [vp_in_iff, sub_toInt h0 h1]
  rw [i_le] at h1 h2
  omega
end
section
def I_Mem_has_0 : List IT := [(0, .iload_n 0, 1, 0, 0, []), (1, .ifCond .lt 14, 3, 0, 15, []), (4, .iload_n 0, 1, 0, 0, []), (5, .sipush 1024, 3, 1024, 0, []), (8, .if_icmp .ge 7, 3, 0, 15, []), (11, .iconst 1, 1, 1, 0, []), (12, .goto 4, 3, 0, 16, [])]
theorem ok_Mem_has_0 : blkOK b_Mem_has pt_Mem 15 I_Mem_has_0 = true := by decide +kernel
def I_Mem_has_15 : List IT := [(15, .iconst 0, 1, 0, 0, [])]
theorem ok_Mem_has_15 : blkOK b_Mem_has pt_Mem 16 I_Mem_has_15 = true := by decide +kernel
def I_Mem_has_16 : List IT := [(16, .ireturn, 1, 0, 0, [])]
theorem ok_Mem_has_16 : blkOK b_Mem_has pt_Mem 17 I_Mem_has_16 = true := by decide +kernel
def f_Mem_has (σ : Sg) (a1 : Int32) : Int32 × Sg := (if a1 < (0 : Int32) then ((0 : Int32), σ) else (if (1024 : Int32) ≤ a1 then ((0 : Int32), σ) else ((1 : Int32), σ)))
theorem z_Mem_has {σ : Sg} {a1 : Int32}   : (f_Mem_has σ a1).1 = 0 ∨ (f_Mem_has σ a1).1 = 1 := by
  show Zb (f_Mem_has σ a1)
  unfold f_Mem_has
  refine ite_z (fun h1 => ?_) (fun h1 => ?_)
  · exact (Or.inl rfl)
  · refine ite_z (fun h2 => ?_) (fun h2 => ?_)
    · exact (Or.inl rfl)
    · exact (Or.inr rfl)
abbrev w_Mem_has : List (Nat × Option Nat) := []
theorem p_Mem_has {P : Sg → Prop} (hP : WP w_Mem_has P) {σ : Sg} {a1 : Int32} (h : P σ) : PP P (f_Mem_has σ a1) := by
  unfold f_Mem_has
  refine ite_z (fun _ => ?_) (fun _ => ?_)
  · exact h
  · refine ite_z (fun _ => ?_) (fun _ => ?_)
    · exact h
    · exact h
set_option maxRecDepth 100000 in
set_option maxHeartbeats 4000000 in
theorem s_Mem_has {l : Launch} {ad : Nat → Nat} {D : va_G} {cI : ClassId} {σ : Sg} {a1 : Int32} {K : Option Value → Sg → Prop}   (hK : KI K (f_Mem_has σ a1)) : MetJ l ad D cI mi_Mem_has [.int a1] σ K := by
  refine met_of mi_Mem_has pt_Mem pt_Mem_in rfl pl_Mem rfl (Nat.le_of_ble_eq_true rfl) fun X hX => ?_
  have hX : Cl l ad D cI mi_Mem_has pt_Mem K X := hX
  show X 0 [.int a1] [] σ
  unfold f_Mem_has at hK
  refine hX.1 15 I_Mem_has_0 ok_Mem_has_0 _ _ _ ?_
  refine And.intro (fun h1 => ?_) (fun h1 => ?_)
  · have hK := ite_p hK h1
    refine hX.1 16 I_Mem_has_15 ok_Mem_has_15 _ _ _ ?_
    refine hX.1 17 I_Mem_has_16 ok_Mem_has_16 _ _ _ ?_
    exact And.intro (Or.inl rfl) hK
  · have hK := ite_n hK h1
    refine And.intro (fun h2 => ?_) (fun h2 => ?_)
    · have hK := ite_p hK h2
      refine hX.1 16 I_Mem_has_15 ok_Mem_has_15 _ _ _ ?_
      refine hX.1 17 I_Mem_has_16 ok_Mem_has_16 _ _ _ ?_
      exact And.intro (Or.inl rfl) hK
    · have hK := ite_n hK h2
      refine hX.1 17 I_Mem_has_16 ok_Mem_has_16 _ _ _ ?_
      exact And.intro (Or.inr rfl) hK
def I_Mem_byteAt_0 : List IT := [(0, .aload_n 0, 1, 0, 0, []), (1, .getfield 9, 3, 0, 0, []), (4, .iload_n 1, 1, 0, 0, []), (5, .sipush 1023, 3, 1023, 0, []), (8, .iand, 1, 0, 0, []), (9, .iaload, 1, 0, 0, []), (10, .ireturn, 1, 0, 0, [])]
theorem ok_Mem_byteAt_0 : blkOK b_Mem_byteAt pt_Mem 11 I_Mem_byteAt_0 = true := by decide +kernel
def f_Mem_byteAt (σ : Sg) (a1 : Int32) : Int32 × Sg := ((σ 2 (Int32.toNatClampNeg (a1 &&& (1023 : Int32)))), σ)
abbrev w_Mem_byteAt : List (Nat × Option Nat) := []
theorem p_Mem_byteAt {P : Sg → Prop} (hP : WP w_Mem_byteAt P) {σ : Sg} {a1 : Int32} (h : P σ) : PP P (f_Mem_byteAt σ a1) := by
  unfold f_Mem_byteAt
  exact h
set_option maxRecDepth 100000 in
set_option maxHeartbeats 4000000 in
theorem s_Mem_byteAt {l : Launch} {ad : Nat → Nat} {D : va_G} {cI : ClassId} {σ : Sg} {a1 : Int32} {K : Option Value → Sg → Prop}   (hK : KI K (f_Mem_byteAt σ a1)) : MetJ l ad D cI mi_Mem_byteAt [.ref 1, .int a1] σ K := by
  refine met_of mi_Mem_byteAt pt_Mem pt_Mem_in rfl pl_Mem rfl (Nat.le_of_ble_eq_true rfl) fun X hX => ?_
  have hX : Cl l ad D cI mi_Mem_byteAt pt_Mem K X := hX
  show X 0 [.ref 1, .int a1] [] σ
  unfold f_Mem_byteAt at hK
  refine hX.1 11 I_Mem_byteAt_0 ok_Mem_byteAt_0 _ _ _ ?_
  refine And.intro (pk_andIn _ 10 rfl (by decide)) ?_
  exact hK
def I_Mem_setByteAt_0 : List IT := [(0, .aload_n 0, 1, 0, 0, []), (1, .getfield 9, 3, 0, 0, []), (4, .iload_n 1, 1, 0, 0, []), (5, .sipush 1023, 3, 1023, 0, []), (8, .iand, 1, 0, 0, []), (9, .iload_n 2, 1, 0, 0, []), (10, .iastore, 1, 0, 0, []), (11, .return_, 1, 0, 0, [])]
theorem ok_Mem_setByteAt_0 : blkOK b_Mem_setByteAt pt_Mem 12 I_Mem_setByteAt_0 = true := by decide +kernel
def f_Mem_setByteAt (σ : Sg) (a1 : Int32) (a2 : Int32) : Sg := (bnd (up2 σ 2 (Int32.toNatClampNeg (a1 &&& (1023 : Int32))) a2) fun s1 => s1)
abbrev w_Mem_setByteAt : List (Nat × Option Nat) := [(2, none)]
theorem p_Mem_setByteAt {P : Sg → Prop} (hP : WP w_Mem_setByteAt P) {σ : Sg} {a1 : Int32} {a2 : Int32} (h : P σ) : P (f_Mem_setByteAt σ a1 a2) := by
  unfold f_Mem_setByteAt
  refine bnd_zz (Z := P) (hP _ _ _ _ (Or.inl (by decide)) h) fun s1 e1 q1 => ?_
  exact q1
set_option maxRecDepth 100000 in
set_option maxHeartbeats 4000000 in
theorem s_Mem_setByteAt {l : Launch} {ad : Nat → Nat} {D : va_G} {cI : ClassId} {σ : Sg} {a1 : Int32} {a2 : Int32} {K : Option Value → Sg → Prop}   (hK : KV K (f_Mem_setByteAt σ a1 a2)) : MetJ l ad D cI mi_Mem_setByteAt [.ref 1, .int a1, .int a2] σ K := by
  refine met_of mi_Mem_setByteAt pt_Mem pt_Mem_in rfl pl_Mem rfl (Nat.le_of_ble_eq_true rfl) fun X hX => ?_
  have hX : Cl l ad D cI mi_Mem_setByteAt pt_Mem K X := hX
  show X 0 [.ref 1, .int a1, .int a2] [] σ
  unfold f_Mem_setByteAt at hK
  refine hX.1 12 I_Mem_setByteAt_0 ok_Mem_setByteAt_0 _ _ _ ?_
  refine And.intro (pk_andIn _ 10 rfl (by decide)) (SG_g hK fun s1 e1 hK => ?_)
  exact hK
def I_Mem_fetch_0 : List IT := [(0, .bipush 16, 2, 16, 0, []), (2, .iload_n 1, 1, 0, 0, []), (3, .imul, 1, 0, 0, []), (4, .iload_n 2, 1, 0, 0, []), (5, .iadd, 1, 0, 0, []), (6, .istore 4, 2, 0, 0, []), (8, .aload_n 0, 1, 0, 0, []), (9, .getfield 9, 3, 0, 0, []), (12, .iload 4, 2, 0, 0, []), (14, .sipush 1023, 3, 1023, 0, []), (17, .iand, 1, 0, 0, []), (18, .iaload, 1, 0, 0, []), (19, .istore 5, 2, 0, 0, []), (21, .iload_n 3, 1, 0, 0, []), (22, .ifCond .eq 25, 3, 0, 47, []), (25, .iload 5, 2, 0, 0, []), (27, .aload_n 0, 1, 0, 0, []), (28, .getfield 9, 3, 0, 0, []), (31, .iload 4, 2, 0, 0, []), (33, .iconst 1, 1, 1, 0, []), (34, .iadd, 1, 0, 0, []), (35, .sipush 1023, 3, 1023, 0, []), (38, .iand, 1, 0, 0, []), (39, .iaload, 1, 0, 0, []), (40, .bipush 8, 2, 8, 0, []), (42, .ishl, 1, 0, 0, []), (43, .ior, 1, 0, 0, []), (44, .goto 5, 3, 0, 49, [])]
theorem ok_Mem_fetch_0 : blkOK b_Mem_fetch pt_Mem 47 I_Mem_fetch_0 = true := by decide +kernel
def I_Mem_fetch_47 : List IT := [(47, .iload 5, 2, 0, 0, [])]
theorem ok_Mem_fetch_47 : blkOK b_Mem_fetch pt_Mem 49 I_Mem_fetch_47 = true := by decide +kernel
def I_Mem_fetch_49 : List IT := [(49, .ireturn, 1, 0, 0, [])]
theorem ok_Mem_fetch_49 : blkOK b_Mem_fetch pt_Mem 50 I_Mem_fetch_49 = true := by decide +kernel
def f_Mem_fetch (σ : Sg) (a1 : Int32) (a2 : Int32) (a3 : Int32) : Int32 × Sg := (if a3 = (0 : Int32) then ((σ 2 (Int32.toNatClampNeg ((((16 : Int32) * a1) + a2) &&& (1023 : Int32)))), σ) else (((σ 2 (Int32.toNatClampNeg ((((16 : Int32) * a1) + a2) &&& (1023 : Int32)))) ||| ((σ 2 (Int32.toNatClampNeg (((((16 : Int32) * a1) + a2) + (1 : Int32)) &&& (1023 : Int32)))) <<< ((8 : Int32) &&& 31 : Int32))), σ))
abbrev w_Mem_fetch : List (Nat × Option Nat) := []
theorem p_Mem_fetch {P : Sg → Prop} (hP : WP w_Mem_fetch P) {σ : Sg} {a1 : Int32} {a2 : Int32} {a3 : Int32} (h : P σ) : PP P (f_Mem_fetch σ a1 a2 a3) := by
  unfold f_Mem_fetch
  refine ite_z (fun _ => ?_) (fun _ => ?_)
  · exact h
  · exact h
set_option maxRecDepth 100000 in
set_option maxHeartbeats 4000000 in
theorem s_Mem_fetch {l : Launch} {ad : Nat → Nat} {D : va_G} {cI : ClassId} {σ : Sg} {a1 : Int32} {a2 : Int32} {a3 : Int32} {K : Option Value → Sg → Prop}   (hK : KI K (f_Mem_fetch σ a1 a2 a3)) : MetJ l ad D cI mi_Mem_fetch [.ref 1, .int a1, .int a2, .int a3] σ K := by
  refine met_of mi_Mem_fetch pt_Mem pt_Mem_in rfl pl_Mem rfl (Nat.le_of_ble_eq_true rfl) fun X hX => ?_
  have hX : Cl l ad D cI mi_Mem_fetch pt_Mem K X := hX
  show X 0 [.ref 1, .int a1, .int a2, .int a3, .null, .null] [] σ
  unfold f_Mem_fetch at hK
  refine hX.1 47 I_Mem_fetch_0 ok_Mem_fetch_0 _ _ _ ?_
  refine And.intro (pk_andIn _ 10 rfl (by decide)) ?_
  refine And.intro (fun h1 => ?_) (fun h1 => ?_)
  · have hK := ite_p hK h1
    refine hX.1 49 I_Mem_fetch_47 ok_Mem_fetch_47 _ _ _ ?_
    refine hX.1 50 I_Mem_fetch_49 ok_Mem_fetch_49 _ _ _ ?_
    exact hK
  · have hK := ite_n hK h1
    refine And.intro (pk_andIn _ 10 rfl (by decide)) ?_
    refine hX.1 50 I_Mem_fetch_49 ok_Mem_fetch_49 _ _ _ ?_
    exact hK
def I_Mem_store_0 : List IT := [(0, .bipush 16, 2, 16, 0, []), (2, .iload_n 1, 1, 0, 0, []), (3, .imul, 1, 0, 0, []), (4, .iload_n 2, 1, 0, 0, []), (5, .iadd, 1, 0, 0, []), (6, .istore 5, 2, 0, 0, []), (8, .aload_n 0, 1, 0, 0, []), (9, .getfield 9, 3, 0, 0, []), (12, .iload 5, 2, 0, 0, []), (14, .sipush 1023, 3, 1023, 0, []), (17, .iand, 1, 0, 0, []), (18, .iload 4, 2, 0, 0, []), (20, .sipush 255, 3, 255, 0, []), (23, .iand, 1, 0, 0, []), (24, .iastore, 1, 0, 0, []), (25, .iload_n 3, 1, 0, 0, []), (26, .ifCond .eq 25, 3, 0, 51, []), (29, .aload_n 0, 1, 0, 0, []), (30, .getfield 9, 3, 0, 0, []), (33, .iload 5, 2, 0, 0, []), (35, .iconst 1, 1, 1, 0, []), (36, .iadd, 1, 0, 0, []), (37, .sipush 1023, 3, 1023, 0, []), (40, .iand, 1, 0, 0, []), (41, .iload 4, 2, 0, 0, []), (43, .bipush 8, 2, 8, 0, []), (45, .ishr, 1, 0, 0, []), (46, .sipush 255, 3, 255, 0, []), (49, .iand, 1, 0, 0, []), (50, .iastore, 1, 0, 0, [])]
theorem ok_Mem_store_0 : blkOK b_Mem_store pt_Mem 51 I_Mem_store_0 = true := by decide +kernel
def I_Mem_store_51 : List IT := [(51, .return_, 1, 0, 0, [])]
theorem ok_Mem_store_51 : blkOK b_Mem_store pt_Mem 52 I_Mem_store_51 = true := by decide +kernel
def f_Mem_store (σ : Sg) (a1 : Int32) (a2 : Int32) (a3 : Int32) (a4 : Int32) : Sg := (bnd (up2 σ 2 (Int32.toNatClampNeg ((((16 : Int32) * a1) + a2) &&& (1023 : Int32))) (a4 &&& (255 : Int32))) fun s1 => (if a3 = (0 : Int32) then s1 else (bnd (up2 s1 2 (Int32.toNatClampNeg (((((16 : Int32) * a1) + a2) + (1 : Int32)) &&& (1023 : Int32))) ((a4 >>> ((8 : Int32) &&& 31 : Int32)) &&& (255 : Int32))) fun s3 => s3)))
abbrev w_Mem_store : List (Nat × Option Nat) := [(2, none)]
theorem p_Mem_store {P : Sg → Prop} (hP : WP w_Mem_store P) {σ : Sg} {a1 : Int32} {a2 : Int32} {a3 : Int32} {a4 : Int32} (h : P σ) : P (f_Mem_store σ a1 a2 a3 a4) := by
  unfold f_Mem_store
  refine bnd_zz (Z := P) (hP _ _ _ _ (Or.inl (by decide)) h) fun s1 e1 q1 => ?_
  refine ite_z (fun _ => ?_) (fun _ => ?_)
  · exact q1
  · refine bnd_zz (Z := P) (hP _ _ _ _ (Or.inl (by decide)) q1) fun s3 e3 q3 => ?_
    exact q3
set_option maxRecDepth 100000 in
set_option maxHeartbeats 4000000 in
theorem s_Mem_store {l : Launch} {ad : Nat → Nat} {D : va_G} {cI : ClassId} {σ : Sg} {a1 : Int32} {a2 : Int32} {a3 : Int32} {a4 : Int32} {K : Option Value → Sg → Prop}   (hK : KV K (f_Mem_store σ a1 a2 a3 a4)) : MetJ l ad D cI mi_Mem_store [.ref 1, .int a1, .int a2, .int a3, .int a4] σ K := by
  refine met_of mi_Mem_store pt_Mem pt_Mem_in rfl pl_Mem rfl (Nat.le_of_ble_eq_true rfl) fun X hX => ?_
  have hX : Cl l ad D cI mi_Mem_store pt_Mem K X := hX
  show X 0 [.ref 1, .int a1, .int a2, .int a3, .int a4, .null] [] σ
  unfold f_Mem_store at hK
  refine hX.1 51 I_Mem_store_0 ok_Mem_store_0 _ _ _ ?_
  refine And.intro (pk_andIn _ 10 rfl (by decide)) (SG_g hK fun s1 e1 hK => ?_)
  refine And.intro (fun h2 => ?_) (fun h2 => ?_)
  · have hK := ite_p hK h2
    refine hX.1 52 I_Mem_store_51 ok_Mem_store_51 _ _ _ ?_
    exact hK
  · have hK := ite_n hK h2
    refine And.intro (pk_andIn _ 10 rfl (by decide)) (SG_g hK fun s3 e3 hK => ?_)
    refine hX.1 52 I_Mem_store_51 ok_Mem_store_51 _ _ _ ?_
    exact hK
end
section
def I_Reg_value_0 : List IT := [(0, .iload_n 2, 1, 0, 0, []), (1, .ifCond .eq 13, 3, 0, 14, []), (4, .aload_n 0, 1, 0, 0, []), (5, .getfield 7, 3, 0, 0, []), (8, .iload_n 1, 1, 0, 0, []), (9, .bipush 7, 2, 7, 0, []), (11, .iand, 1, 0, 0, []), (12, .iaload, 1, 0, 0, []), (13, .ireturn, 1, 0, 0, [])]
theorem ok_Reg_value_0 : blkOK b_Reg_value pt_Reg 14 I_Reg_value_0 = true := by decide +kernel
def I_Reg_value_14 : List IT := [(14, .aload_n 0, 1, 0, 0, []), (15, .getfield 7, 3, 0, 0, []), (18, .iload_n 1, 1, 0, 0, []), (19, .iconst 3, 1, 3, 0, []), (20, .iand, 1, 0, 0, []), (21, .iaload, 1, 0, 0, []), (22, .istore_n 3, 1, 0, 0, []), (23, .iload_n 1, 1, 0, 0, []), (24, .iconst 4, 1, 4, 0, []), (25, .if_icmp .ge 11, 3, 0, 36, []), (28, .iload_n 3, 1, 0, 0, []), (29, .sipush 255, 3, 255, 0, []), (32, .iand, 1, 0, 0, []), (33, .goto 7, 3, 0, 40, [])]
theorem ok_Reg_value_14 : blkOK b_Reg_value pt_Reg 36 I_Reg_value_14 = true := by decide +kernel
def I_Reg_value_36 : List IT := [(36, .iload_n 3, 1, 0, 0, []), (37, .bipush 8, 2, 8, 0, []), (39, .ishr, 1, 0, 0, [])]
theorem ok_Reg_value_36 : blkOK b_Reg_value pt_Reg 40 I_Reg_value_36 = true := by decide +kernel
def I_Reg_value_40 : List IT := [(40, .ireturn, 1, 0, 0, [])]
theorem ok_Reg_value_40 : blkOK b_Reg_value pt_Reg 41 I_Reg_value_40 = true := by decide +kernel
def f_Reg_value (σ : Sg) (a1 : Int32) (a2 : Int32) : Int32 × Sg := (if a2 = (0 : Int32) then (if (4 : Int32) ≤ a1 then (((σ 4 (Int32.toNatClampNeg (a1 &&& (3 : Int32)))) >>> ((8 : Int32) &&& 31 : Int32)), σ) else (((σ 4 (Int32.toNatClampNeg (a1 &&& (3 : Int32)))) &&& (255 : Int32)), σ)) else ((σ 4 (Int32.toNatClampNeg (a1 &&& (7 : Int32)))), σ))
abbrev w_Reg_value : List (Nat × Option Nat) := []
theorem p_Reg_value {P : Sg → Prop} (hP : WP w_Reg_value P) {σ : Sg} {a1 : Int32} {a2 : Int32} (h : P σ) : PP P (f_Reg_value σ a1 a2) := by
  unfold f_Reg_value
  refine ite_z (fun _ => ?_) (fun _ => ?_)
  · refine ite_z (fun _ => ?_) (fun _ => ?_)
    · exact h
    · exact h
  · exact h
set_option maxRecDepth 100000 in
set_option maxHeartbeats 4000000 in
theorem s_Reg_value {l : Launch} {ad : Nat → Nat} {D : va_G} {cI : ClassId} {σ : Sg} {a1 : Int32} {a2 : Int32} {K : Option Value → Sg → Prop}   (hK : KI K (f_Reg_value σ a1 a2)) : MetJ l ad D cI mi_Reg_value [.ref 3, .int a1, .int a2] σ K := by
  refine met_of mi_Reg_value pt_Reg pt_Reg_in rfl pl_Reg rfl (Nat.le_of_ble_eq_true rfl) fun X hX => ?_
  have hX : Cl l ad D cI mi_Reg_value pt_Reg K X := hX
  show X 0 [.ref 3, .int a1, .int a2, .null] [] σ
  unfold f_Reg_value at hK
  refine hX.1 14 I_Reg_value_0 ok_Reg_value_0 _ _ _ ?_
  refine And.intro (fun h1 => ?_) (fun h1 => ?_)
  · have hK := ite_p hK h1
    refine hX.1 36 I_Reg_value_14 ok_Reg_value_14 _ _ _ ?_
    refine And.intro (vin_le (pk_andIn _ 2 rfl (by decide)) (by decide)) ?_
    refine And.intro (fun h2 => ?_) (fun h2 => ?_)
    · have hK := ite_p hK h2
      refine hX.1 40 I_Reg_value_36 ok_Reg_value_36 _ _ _ ?_
      refine hX.1 41 I_Reg_value_40 ok_Reg_value_40 _ _ _ ?_
      exact hK
    · have hK := ite_n hK h2
      refine hX.1 41 I_Reg_value_40 ok_Reg_value_40 _ _ _ ?_
      exact hK
  · have hK := ite_n hK h1
    refine And.intro (pk_andIn _ 3 rfl (by decide)) ?_
    exact hK
def I_Reg_change_0 : List IT := [(0, .iload_n 2, 1, 0, 0, []), (1, .ifCond .eq 19, 3, 0, 20, []), (4, .aload_n 0, 1, 0, 0, []), (5, .getfield 7, 3, 0, 0, []), (8, .iload_n 1, 1, 0, 0, []), (9, .bipush 7, 2, 7, 0, []), (11, .iand, 1, 0, 0, []), (12, .iload_n 3, 1, 0, 0, []), (13, .ldc 16, 2, 65535, 0, []), (15, .iand, 1, 0, 0, []), (16, .iastore, 1, 0, 0, []), (17, .goto 65, 3, 0, 82, [])]
theorem ok_Reg_change_0 : blkOK b_Reg_change pt_Reg 20 I_Reg_change_0 = true := by decide +kernel
def I_Reg_change_20 : List IT := [(20, .iload_n 1, 1, 0, 0, []), (21, .iconst 4, 1, 4, 0, []), (22, .if_icmp .ge 31, 3, 0, 53, []), (25, .aload_n 0, 1, 0, 0, []), (26, .getfield 7, 3, 0, 0, []), (29, .iload_n 1, 1, 0, 0, []), (30, .iconst 3, 1, 3, 0, []), (31, .iand, 1, 0, 0, []), (32, .aload_n 0, 1, 0, 0, []), (33, .getfield 7, 3, 0, 0, []), (36, .iload_n 1, 1, 0, 0, []), (37, .iconst 3, 1, 3, 0, []), (38, .iand, 1, 0, 0, []), (39, .iaload, 1, 0, 0, []), (40, .ldc 17, 2, 65280, 0, []), (42, .iand, 1, 0, 0, []), (43, .iload_n 3, 1, 0, 0, []), (44, .sipush 255, 3, 255, 0, []), (47, .iand, 1, 0, 0, []), (48, .ior, 1, 0, 0, []), (49, .iastore, 1, 0, 0, []), (50, .goto 32, 3, 0, 82, [])]
theorem ok_Reg_change_20 : blkOK b_Reg_change pt_Reg 53 I_Reg_change_20 = true := by decide +kernel
def I_Reg_change_53 : List IT := [(53, .aload_n 0, 1, 0, 0, []), (54, .getfield 7, 3, 0, 0, []), (57, .iload_n 1, 1, 0, 0, []), (58, .iconst 3, 1, 3, 0, []), (59, .iand, 1, 0, 0, []), (60, .aload_n 0, 1, 0, 0, []), (61, .getfield 7, 3, 0, 0, []), (64, .iload_n 1, 1, 0, 0, []), (65, .iconst 3, 1, 3, 0, []), (66, .iand, 1, 0, 0, []), (67, .iaload, 1, 0, 0, []), (68, .sipush 255, 3, 255, 0, []), (71, .iand, 1, 0, 0, []), (72, .iload_n 3, 1, 0, 0, []), (73, .sipush 255, 3, 255, 0, []), (76, .iand, 1, 0, 0, []), (77, .bipush 8, 2, 8, 0, []), (79, .ishl, 1, 0, 0, []), (80, .ior, 1, 0, 0, []), (81, .iastore, 1, 0, 0, [])]
theorem ok_Reg_change_53 : blkOK b_Reg_change pt_Reg 82 I_Reg_change_53 = true := by decide +kernel
def I_Reg_change_82 : List IT := [(82, .return_, 1, 0, 0, [])]
theorem ok_Reg_change_82 : blkOK b_Reg_change pt_Reg 83 I_Reg_change_82 = true := by decide +kernel
def f_Reg_change (σ : Sg) (a1 : Int32) (a2 : Int32) (a3 : Int32) : Sg := (if a2 = (0 : Int32) then (if (4 : Int32) ≤ a1 then (bnd (up2 σ 4 (Int32.toNatClampNeg (a1 &&& (3 : Int32))) (((σ 4 (Int32.toNatClampNeg (a1 &&& (3 : Int32)))) &&& (255 : Int32)) ||| ((a3 &&& (255 : Int32)) <<< ((8 : Int32) &&& 31 : Int32)))) fun s3 => s3) else (bnd (up2 σ 4 (Int32.toNatClampNeg (a1 &&& (3 : Int32))) (((σ 4 (Int32.toNatClampNeg (a1 &&& (3 : Int32)))) &&& (65280 : Int32)) ||| (a3 &&& (255 : Int32)))) fun s4 => s4)) else (bnd (up2 σ 4 (Int32.toNatClampNeg (a1 &&& (7 : Int32))) (a3 &&& (65535 : Int32))) fun s5 => s5))
abbrev w_Reg_change : List (Nat × Option Nat) := [(4, none)]
theorem p_Reg_change {P : Sg → Prop} (hP : WP w_Reg_change P) {σ : Sg} {a1 : Int32} {a2 : Int32} {a3 : Int32} (h : P σ) : P (f_Reg_change σ a1 a2 a3) := by
  unfold f_Reg_change
  refine ite_z (fun _ => ?_) (fun _ => ?_)
  · refine ite_z (fun _ => ?_) (fun _ => ?_)
    · refine bnd_zz (Z := P) (hP _ _ _ _ (Or.inl (by decide)) h) fun s3 e3 q3 => ?_
      exact q3
    · refine bnd_zz (Z := P) (hP _ _ _ _ (Or.inl (by decide)) h) fun s4 e4 q4 => ?_
      exact q4
  · refine bnd_zz (Z := P) (hP _ _ _ _ (Or.inl (by decide)) h) fun s5 e5 q5 => ?_
    exact q5
set_option maxRecDepth 100000 in
set_option maxHeartbeats 4000000 in
theorem s_Reg_change {l : Launch} {ad : Nat → Nat} {D : va_G} {cI : ClassId} {σ : Sg} {a1 : Int32} {a2 : Int32} {a3 : Int32} {K : Option Value → Sg → Prop}   (hK : KV K (f_Reg_change σ a1 a2 a3)) : MetJ l ad D cI mi_Reg_change [.ref 3, .int a1, .int a2, .int a3] σ K := by
  refine met_of mi_Reg_change pt_Reg pt_Reg_in rfl pl_Reg rfl (Nat.le_of_ble_eq_true rfl) fun X hX => ?_
  have hX : Cl l ad D cI mi_Reg_change pt_Reg K X := hX
  show X 0 [.ref 3, .int a1, .int a2, .int a3] [] σ
  unfold f_Reg_change at hK
  refine hX.1 20 I_Reg_change_0 ok_Reg_change_0 _ _ _ ?_
  refine And.intro (fun h1 => ?_) (fun h1 => ?_)
  · have hK := ite_p hK h1
    refine hX.1 53 I_Reg_change_20 ok_Reg_change_20 _ _ _ ?_
    refine And.intro (fun h2 => ?_) (fun h2 => ?_)
    · have hK := ite_p hK h2
      refine hX.1 82 I_Reg_change_53 ok_Reg_change_53 _ _ _ ?_
      refine And.intro (vin_le (pk_andIn _ 2 rfl (by decide)) (by decide)) ?_
      refine And.intro (vin_le (pk_andIn _ 2 rfl (by decide)) (by decide)) (SG_g hK fun s3 e3 hK => ?_)
      refine hX.1 83 I_Reg_change_82 ok_Reg_change_82 _ _ _ ?_
      exact hK
    · have hK := ite_n hK h2
      refine And.intro (vin_le (pk_andIn _ 2 rfl (by decide)) (by decide)) ?_
      refine And.intro (vin_le (pk_andIn _ 2 rfl (by decide)) (by decide)) (SG_g hK fun s4 e4 hK => ?_)
      refine hX.1 83 I_Reg_change_82 ok_Reg_change_82 _ _ _ ?_
      exact hK
  · have hK := ite_n hK h1
    refine And.intro (pk_andIn _ 3 rfl (by decide)) (SG_g hK fun s5 e5 hK => ?_)
    refine hX.1 83 I_Reg_change_82 ok_Reg_change_82 _ _ _ ?_
    exact hK
def I_Reg_jump_0 : List IT := [(0, .aload_n 0, 1, 0, 0, []), (1, .aload_n 0, 1, 0, 0, []), (2, .getfield 18, 3, 0, 0, []), (5, .iload_n 1, 1, 0, 0, []), (6, .iadd, 1, 0, 0, []), (7, .ldc 16, 2, 65535, 0, []), (9, .iand, 1, 0, 0, []), (10, .putfield 18, 3, 0, 0, []), (13, .return_, 1, 0, 0, [])]
theorem ok_Reg_jump_0 : blkOK b_Reg_jump pt_Reg 14 I_Reg_jump_0 = true := by decide +kernel
def f_Reg_jump (σ : Sg) (a1 : Int32) : Sg := (bnd (up2 σ 3 2 (((σ 3 2) + a1) &&& (65535 : Int32))) fun s1 => s1)
abbrev w_Reg_jump : List (Nat × Option Nat) := [(3, some 2)]
theorem p_Reg_jump {P : Sg → Prop} (hP : WP w_Reg_jump P) {σ : Sg} {a1 : Int32} (h : P σ) : P (f_Reg_jump σ a1) := by
  unfold f_Reg_jump
  refine bnd_zz (Z := P) (hP _ _ _ _ (Or.inr (by decide)) h) fun s1 e1 q1 => ?_
  exact q1
set_option maxRecDepth 100000 in
set_option maxHeartbeats 4000000 in
theorem s_Reg_jump {l : Launch} {ad : Nat → Nat} {D : va_G} {cI : ClassId} {σ : Sg} {a1 : Int32} {K : Option Value → Sg → Prop}   (hK : KV K (f_Reg_jump σ a1)) : MetJ l ad D cI mi_Reg_jump [.ref 3, .int a1] σ K := by
  refine met_of mi_Reg_jump pt_Reg pt_Reg_in rfl pl_Reg rfl (Nat.le_of_ble_eq_true rfl) fun X hX => ?_
  have hX : Cl l ad D cI mi_Reg_jump pt_Reg K X := hX
  show X 0 [.ref 3, .int a1] [] σ
  unfold f_Reg_jump at hK
  refine hX.1 14 I_Reg_jump_0 ok_Reg_jump_0 _ _ _ ?_
  refine And.intro trivial (SG_g hK fun s1 e1 hK => ?_)
  exact hK
end
section
def I_Fla_on_0 : List IT := [(0, .aload_n 0, 1, 0, 0, []), (1, .getfield 9, 3, 0, 0, []), (4, .iload_n 1, 1, 0, 0, []), (5, .iand, 1, 0, 0, []), (6, .ifCond .eq 7, 3, 0, 13, []), (9, .iconst 1, 1, 1, 0, []), (10, .goto 4, 3, 0, 14, [])]
theorem ok_Fla_on_0 : blkOK b_Fla_on pt_Fla 13 I_Fla_on_0 = true := by decide +kernel
def I_Fla_on_13 : List IT := [(13, .iconst 0, 1, 0, 0, [])]
theorem ok_Fla_on_13 : blkOK b_Fla_on pt_Fla 14 I_Fla_on_13 = true := by decide +kernel
def I_Fla_on_14 : List IT := [(14, .ireturn, 1, 0, 0, [])]
theorem ok_Fla_on_14 : blkOK b_Fla_on pt_Fla 15 I_Fla_on_14 = true := by decide +kernel
def f_Fla_on (σ : Sg) (a1 : Int32) : Int32 × Sg := (if ((σ 6 0) &&& a1) = (0 : Int32) then ((0 : Int32), σ) else ((1 : Int32), σ))
theorem z_Fla_on {σ : Sg} {a1 : Int32}   : (f_Fla_on σ a1).1 = 0 ∨ (f_Fla_on σ a1).1 = 1 := by
  show Zb (f_Fla_on σ a1)
  unfold f_Fla_on
  refine ite_z (fun h1 => ?_) (fun h1 => ?_)
  · exact (Or.inl rfl)
  · exact (Or.inr rfl)
abbrev w_Fla_on : List (Nat × Option Nat) := []
theorem p_Fla_on {P : Sg → Prop} (hP : WP w_Fla_on P) {σ : Sg} {a1 : Int32} (h : P σ) : PP P (f_Fla_on σ a1) := by
  unfold f_Fla_on
  refine ite_z (fun _ => ?_) (fun _ => ?_)
  · exact h
  · exact h
set_option maxRecDepth 100000 in
set_option maxHeartbeats 4000000 in
theorem s_Fla_on {l : Launch} {ad : Nat → Nat} {D : va_G} {cI : ClassId} {σ : Sg} {a1 : Int32} {K : Option Value → Sg → Prop}   (hK : KI K (f_Fla_on σ a1)) : MetJ l ad D cI mi_Fla_on [.ref 6, .int a1] σ K := by
  refine met_of mi_Fla_on pt_Fla pt_Fla_in rfl pl_Fla rfl (Nat.le_of_ble_eq_true rfl) fun X hX => ?_
  have hX : Cl l ad D cI mi_Fla_on pt_Fla K X := hX
  show X 0 [.ref 6, .int a1] [] σ
  unfold f_Fla_on at hK
  refine hX.1 13 I_Fla_on_0 ok_Fla_on_0 _ _ _ ?_
  refine And.intro (fun h1 => ?_) (fun h1 => ?_)
  · have hK := ite_p hK h1
    refine hX.1 14 I_Fla_on_13 ok_Fla_on_13 _ _ _ ?_
    refine hX.1 15 I_Fla_on_14 ok_Fla_on_14 _ _ _ ?_
    exact And.intro (Or.inl rfl) hK
  · have hK := ite_n hK h1
    refine hX.1 15 I_Fla_on_14 ok_Fla_on_14 _ _ _ ?_
    exact And.intro (Or.inr rfl) hK
def I_Fla_set_0 : List IT := [(0, .aload_n 0, 1, 0, 0, []), (1, .iload_n 2, 1, 0, 0, []), (2, .ifCond .eq 12, 3, 0, 14, []), (5, .aload_n 0, 1, 0, 0, []), (6, .getfield 9, 3, 0, 0, []), (9, .iload_n 1, 1, 0, 0, []), (10, .ior, 1, 0, 0, []), (11, .goto 11, 3, 0, 22, [])]
theorem ok_Fla_set_0 : blkOK b_Fla_set pt_Fla 14 I_Fla_set_0 = true := by decide +kernel
def I_Fla_set_14 : List IT := [(14, .aload_n 0, 1, 0, 0, []), (15, .getfield 9, 3, 0, 0, []), (18, .iload_n 1, 1, 0, 0, []), (19, .iconst (-1), 1, (-1), 0, []), (20, .ixor, 1, 0, 0, []), (21, .iand, 1, 0, 0, [])]
theorem ok_Fla_set_14 : blkOK b_Fla_set pt_Fla 22 I_Fla_set_14 = true := by decide +kernel
def I_Fla_set_22 : List IT := [(22, .putfield 9, 3, 0, 0, []), (25, .return_, 1, 0, 0, [])]
theorem ok_Fla_set_22 : blkOK b_Fla_set pt_Fla 26 I_Fla_set_22 = true := by decide +kernel
def f_Fla_set (σ : Sg) (a1 : Int32) (a2 : Int32) : Sg := (if a2 = (0 : Int32) then (bnd (up2 σ 6 0 ((σ 6 0) &&& (a1 ^^^ (-1 : Int32)))) fun s2 => s2) else (bnd (up2 σ 6 0 ((σ 6 0) ||| a1)) fun s3 => s3))
abbrev w_Fla_set : List (Nat × Option Nat) := [(6, some 0)]
theorem p_Fla_set {P : Sg → Prop} (hP : WP w_Fla_set P) {σ : Sg} {a1 : Int32} {a2 : Int32} (h : P σ) : P (f_Fla_set σ a1 a2) := by
  unfold f_Fla_set
  refine ite_z (fun _ => ?_) (fun _ => ?_)
  · refine bnd_zz (Z := P) (hP _ _ _ _ (Or.inr (by decide)) h) fun s2 e2 q2 => ?_
    exact q2
  · refine bnd_zz (Z := P) (hP _ _ _ _ (Or.inr (by decide)) h) fun s3 e3 q3 => ?_
    exact q3
set_option maxRecDepth 100000 in
set_option maxHeartbeats 4000000 in
theorem s_Fla_set {l : Launch} {ad : Nat → Nat} {D : va_G} {cI : ClassId} {σ : Sg} {a1 : Int32} {a2 : Int32} {K : Option Value → Sg → Prop}   (hK : KV K (f_Fla_set σ a1 a2)) : MetJ l ad D cI mi_Fla_set [.ref 6, .int a1, .int a2] σ K := by
  refine met_of mi_Fla_set pt_Fla pt_Fla_in rfl pl_Fla rfl (Nat.le_of_ble_eq_true rfl) fun X hX => ?_
  have hX : Cl l ad D cI mi_Fla_set pt_Fla K X := hX
  show X 0 [.ref 6, .int a1, .int a2] [] σ
  unfold f_Fla_set at hK
  refine hX.1 14 I_Fla_set_0 ok_Fla_set_0 _ _ _ ?_
  refine And.intro (fun h1 => ?_) (fun h1 => ?_)
  · have hK := ite_p hK h1
    refine hX.1 22 I_Fla_set_14 ok_Fla_set_14 _ _ _ ?_
    refine hX.1 26 I_Fla_set_22 ok_Fla_set_22 _ _ _ ?_
    refine And.intro trivial (SG_g hK fun s2 e2 hK => ?_)
    exact hK
  · have hK := ite_n hK h1
    refine hX.1 26 I_Fla_set_22 ok_Fla_set_22 _ _ _ ?_
    refine And.intro trivial (SG_g hK fun s3 e3 hK => ?_)
    exact hK
def I_Fla_mark_0 : List IT := [(0, .iload 4, 2, 0, 0, []), (2, .ifCond .eq 8, 3, 0, 10, []), (5, .ldc 29, 2, 32768, 0, []), (7, .goto 6, 3, 0, 13, [])]
theorem ok_Fla_mark_0 : blkOK b_Fla_mark pt_Fla 10 I_Fla_mark_0 = true := by decide +kernel
def I_Fla_mark_10 : List IT := [(10, .sipush 128, 3, 128, 0, [])]
theorem ok_Fla_mark_10 : blkOK b_Fla_mark pt_Fla 13 I_Fla_mark_10 = true := by decide +kernel
def I_Fla_mark_13 : List IT := [(13, .istore 5, 2, 0, 0, []), (15, .aload_n 0, 1, 0, 0, []), (16, .getfield 9, 3, 0, 0, []), (19, .sipush 1536, 3, 1536, 0, []), (22, .iand, 1, 0, 0, []), (23, .istore 6, 2, 0, 0, []), (25, .iload 6, 2, 0, 0, []), (27, .iload_n 2, 1, 0, 0, []), (28, .ifCond .eq 7, 3, 0, 35, []), (31, .iconst 1, 1, 1, 0, []), (32, .goto 4, 3, 0, 36, [])]
theorem ok_Fla_mark_13 : blkOK b_Fla_mark pt_Fla 35 I_Fla_mark_13 = true := by decide +kernel
def I_Fla_mark_35 : List IT := [(35, .iconst 0, 1, 0, 0, [])]
theorem ok_Fla_mark_35 : blkOK b_Fla_mark pt_Fla 36 I_Fla_mark_35 = true := by decide +kernel
def I_Fla_mark_36 : List IT := [(36, .ior, 1, 0, 0, []), (37, .istore 6, 2, 0, 0, []), (39, .iload 6, 2, 0, 0, []), (41, .iload_n 1, 1, 0, 0, []), (42, .ifCond .ne 8, 3, 0, 50, []), (45, .bipush 64, 2, 64, 0, []), (47, .goto 4, 3, 0, 51, [])]
theorem ok_Fla_mark_36 : blkOK b_Fla_mark pt_Fla 50 I_Fla_mark_36 = true := by decide +kernel
def I_Fla_mark_50 : List IT := [(50, .iconst 0, 1, 0, 0, [])]
theorem ok_Fla_mark_50 : blkOK b_Fla_mark pt_Fla 51 I_Fla_mark_50 = true := by decide +kernel
def I_Fla_mark_51 : List IT := [(51, .ior, 1, 0, 0, []), (52, .istore 6, 2, 0, 0, []), (54, .iload 6, 2, 0, 0, []), (56, .iload_n 1, 1, 0, 0, []), (57, .iload 5, 2, 0, 0, []), (59, .iand, 1, 0, 0, []), (60, .ifCond .eq 9, 3, 0, 69, []), (63, .sipush 128, 3, 128, 0, []), (66, .goto 4, 3, 0, 70, [])]
theorem ok_Fla_mark_51 : blkOK b_Fla_mark pt_Fla 69 I_Fla_mark_51 = true := by decide +kernel
def I_Fla_mark_69 : List IT := [(69, .iconst 0, 1, 0, 0, [])]
theorem ok_Fla_mark_69 : blkOK b_Fla_mark pt_Fla 70 I_Fla_mark_69 = true := by decide +kernel
def I_Fla_mark_70 : List IT := [(70, .ior, 1, 0, 0, []), (71, .istore 6, 2, 0, 0, []), (73, .iload 6, 2, 0, 0, []), (75, .iload_n 3, 1, 0, 0, []), (76, .iload 5, 2, 0, 0, []), (78, .iand, 1, 0, 0, []), (79, .ifCond .eq 9, 3, 0, 88, []), (82, .sipush 2048, 3, 2048, 0, []), (85, .goto 4, 3, 0, 89, [])]
theorem ok_Fla_mark_70 : blkOK b_Fla_mark pt_Fla 88 I_Fla_mark_70 = true := by decide +kernel
def I_Fla_mark_88 : List IT := [(88, .iconst 0, 1, 0, 0, [])]
theorem ok_Fla_mark_88 : blkOK b_Fla_mark pt_Fla 89 I_Fla_mark_88 = true := by decide +kernel
def I_Fla_mark_89 : List IT := [(89, .ior, 1, 0, 0, []), (90, .istore 6, 2, 0, 0, []), (92, .aload_n 0, 1, 0, 0, []), (93, .iload 6, 2, 0, 0, []), (95, .putfield 9, 3, 0, 0, []), (98, .return_, 1, 0, 0, [])]
theorem ok_Fla_mark_89 : blkOK b_Fla_mark pt_Fla 99 I_Fla_mark_89 = true := by decide +kernel
def f_Fla_mark_70 (σ : Sg) (x3 : Int32) (x5 : Int32) (y0 : Int32) (y1 : Int32) : Sg := (if (x3 &&& x5) = (0 : Int32) then (bnd (up2 σ 6 0 ((y1 ||| y0) ||| (0 : Int32))) fun s2 => s2) else (bnd (up2 σ 6 0 ((y1 ||| y0) ||| (2048 : Int32))) fun s3 => s3))
abbrev w_Fla_mark_70 : List (Nat × Option Nat) := [(6, some 0)]
theorem p_Fla_mark_70 {P : Sg → Prop} (hP : WP w_Fla_mark_70 P) {σ : Sg} {x3 : Int32} {x5 : Int32} {y0 : Int32} {y1 : Int32} (h : P σ) : P (f_Fla_mark_70 σ x3 x5 y0 y1) := by
  unfold f_Fla_mark_70
  refine ite_z (fun _ => ?_) (fun _ => ?_)
  · refine bnd_zz (Z := P) (hP _ _ _ _ (Or.inr (by decide)) h) fun s2 e2 q2 => ?_
    exact q2
  · refine bnd_zz (Z := P) (hP _ _ _ _ (Or.inr (by decide)) h) fun s3 e3 q3 => ?_
    exact q3
set_option maxRecDepth 100000 in
set_option maxHeartbeats 4000000 in
theorem b_Fla_mark_70 {l : Launch} {ad : Nat → Nat} {D : va_G} {cI : ClassId} {K : Option Value → Sg → Prop} {X : Nat → List Value → List Value → Sg → Prop} (hX : Cl l ad D cI mi_Fla_mark pt_Fla K X) {σ : Sg} {x3 : Int32} {x5 : Int32} {y0 : Int32} {y1 : Int32}   (hK : KV K (f_Fla_mark_70 σ x3 x5 y0 y1)) : X 70 [.ref 6, .null, .null, .int x3, .null, .int x5, .null] [.int y0, .int y1] σ := by
  unfold f_Fla_mark_70 at hK
  refine hX.1 88 I_Fla_mark_70 ok_Fla_mark_70 _ _ _ ?_
  refine And.intro (fun h1 => ?_) (fun h1 => ?_)
  · have hK := ite_p hK h1
    refine hX.1 89 I_Fla_mark_88 ok_Fla_mark_88 _ _ _ ?_
    refine hX.1 99 I_Fla_mark_89 ok_Fla_mark_89 _ _ _ ?_
    refine And.intro trivial (SG_g hK fun s2 e2 hK => ?_)
    exact hK
  · have hK := ite_n hK h1
    refine hX.1 99 I_Fla_mark_89 ok_Fla_mark_89 _ _ _ ?_
    refine And.intro trivial (SG_g hK fun s3 e3 hK => ?_)
    exact hK
def f_Fla_mark_51 (σ : Sg) (x1 : Int32) (x3 : Int32) (x5 : Int32) (y0 : Int32) (y1 : Int32) : Sg := (if (x1 &&& x5) = (0 : Int32) then (f_Fla_mark_70 σ x3 x5 (0 : Int32) (y1 ||| y0)) else (f_Fla_mark_70 σ x3 x5 (128 : Int32) (y1 ||| y0)))
abbrev w_Fla_mark_51 : List (Nat × Option Nat) := [(6, some 0)]
theorem p_Fla_mark_51 {P : Sg → Prop} (hP : WP w_Fla_mark_51 P) {σ : Sg} {x1 : Int32} {x3 : Int32} {x5 : Int32} {y0 : Int32} {y1 : Int32} (h : P σ) : P (f_Fla_mark_51 σ x1 x3 x5 y0 y1) := by
  unfold f_Fla_mark_51
  refine ite_z (fun _ => ?_) (fun _ => ?_)
  · exact p_Fla_mark_70 (wsub hP rfl) h
  · exact p_Fla_mark_70 (wsub hP rfl) h
set_option maxRecDepth 100000 in
set_option maxHeartbeats 4000000 in
theorem b_Fla_mark_51 {l : Launch} {ad : Nat → Nat} {D : va_G} {cI : ClassId} {K : Option Value → Sg → Prop} {X : Nat → List Value → List Value → Sg → Prop} (hX : Cl l ad D cI mi_Fla_mark pt_Fla K X) {σ : Sg} {x1 : Int32} {x3 : Int32} {x5 : Int32} {y0 : Int32} {y1 : Int32}   (hK : KV K (f_Fla_mark_51 σ x1 x3 x5 y0 y1)) : X 51 [.ref 6, .int x1, .null, .int x3, .null, .int x5, .null] [.int y0, .int y1] σ := by
  unfold f_Fla_mark_51 at hK
  refine hX.1 69 I_Fla_mark_51 ok_Fla_mark_51 _ _ _ ?_
  refine And.intro (fun h1 => ?_) (fun h1 => ?_)
  · have hK := ite_p hK h1
    refine hX.1 70 I_Fla_mark_69 ok_Fla_mark_69 _ _ _ ?_
    refine hX.fg [1, 6] ?_
    exact b_Fla_mark_70 hX  hK
  · have hK := ite_n hK h1
    refine hX.fg [1, 6] ?_
    exact b_Fla_mark_70 hX  hK
def f_Fla_mark_36 (σ : Sg) (x1 : Int32) (x3 : Int32) (x5 : Int32) (y0 : Int32) (y1 : Int32) : Sg := (if x1 = (0 : Int32) then (f_Fla_mark_51 σ x1 x3 x5 (64 : Int32) (y1 ||| y0)) else (f_Fla_mark_51 σ x1 x3 x5 (0 : Int32) (y1 ||| y0)))
abbrev w_Fla_mark_36 : List (Nat × Option Nat) := [(6, some 0)]
theorem p_Fla_mark_36 {P : Sg → Prop} (hP : WP w_Fla_mark_36 P) {σ : Sg} {x1 : Int32} {x3 : Int32} {x5 : Int32} {y0 : Int32} {y1 : Int32} (h : P σ) : P (f_Fla_mark_36 σ x1 x3 x5 y0 y1) := by
  unfold f_Fla_mark_36
  refine ite_z (fun _ => ?_) (fun _ => ?_)
  · exact p_Fla_mark_51 (wsub hP rfl) h
  · exact p_Fla_mark_51 (wsub hP rfl) h
set_option maxRecDepth 100000 in
set_option maxHeartbeats 4000000 in
theorem b_Fla_mark_36 {l : Launch} {ad : Nat → Nat} {D : va_G} {cI : ClassId} {K : Option Value → Sg → Prop} {X : Nat → List Value → List Value → Sg → Prop} (hX : Cl l ad D cI mi_Fla_mark pt_Fla K X) {σ : Sg} {x1 : Int32} {x3 : Int32} {x5 : Int32} {y0 : Int32} {y1 : Int32} (z_y0 : y0 = 0 ∨ y0 = 1)  (hK : KV K (f_Fla_mark_36 σ x1 x3 x5 y0 y1)) : X 36 [.ref 6, .int x1, .null, .int x3, .null, .int x5, .null] [.int y0, .int y1] σ := by
  unfold f_Fla_mark_36 at hK
  refine hX.1 50 I_Fla_mark_36 ok_Fla_mark_36 _ _ _ ?_
  refine And.intro (fun h1 => ?_) (fun h1 => ?_)
  · have hK := ite_p hK h1
    refine hX.fg [6] ?_
    exact b_Fla_mark_51 hX  hK
  · have hK := ite_n hK h1
    refine hX.1 51 I_Fla_mark_50 ok_Fla_mark_50 _ _ _ ?_
    refine hX.fg [6] ?_
    exact b_Fla_mark_51 hX  hK
def f_Fla_mark_13 (σ : Sg) (x1 : Int32) (x2 : Int32) (x3 : Int32) (y0 : Int32) : Sg := (if x2 = (0 : Int32) then (f_Fla_mark_36 σ x1 x3 y0 (0 : Int32) ((σ 6 0) &&& (1536 : Int32))) else (f_Fla_mark_36 σ x1 x3 y0 (1 : Int32) ((σ 6 0) &&& (1536 : Int32))))
abbrev w_Fla_mark_13 : List (Nat × Option Nat) := [(6, some 0)]
theorem p_Fla_mark_13 {P : Sg → Prop} (hP : WP w_Fla_mark_13 P) {σ : Sg} {x1 : Int32} {x2 : Int32} {x3 : Int32} {y0 : Int32} (h : P σ) : P (f_Fla_mark_13 σ x1 x2 x3 y0) := by
  unfold f_Fla_mark_13
  refine ite_z (fun _ => ?_) (fun _ => ?_)
  · exact p_Fla_mark_36 (wsub hP rfl) h
  · exact p_Fla_mark_36 (wsub hP rfl) h
set_option maxRecDepth 100000 in
set_option maxHeartbeats 4000000 in
theorem b_Fla_mark_13 {l : Launch} {ad : Nat → Nat} {D : va_G} {cI : ClassId} {K : Option Value → Sg → Prop} {X : Nat → List Value → List Value → Sg → Prop} (hX : Cl l ad D cI mi_Fla_mark pt_Fla K X) {σ : Sg} {x1 : Int32} {x2 : Int32} {x3 : Int32} {y0 : Int32}   (hK : KV K (f_Fla_mark_13 σ x1 x2 x3 y0)) : X 13 [.ref 6, .int x1, .int x2, .int x3, .null, .null, .null] [.int y0] σ := by
  unfold f_Fla_mark_13 at hK
  refine hX.1 35 I_Fla_mark_13 ok_Fla_mark_13 _ _ _ ?_
  refine And.intro (fun h1 => ?_) (fun h1 => ?_)
  · have hK := ite_p hK h1
    refine hX.1 36 I_Fla_mark_35 ok_Fla_mark_35 _ _ _ ?_
    refine hX.fg [2, 6] ?_
    exact b_Fla_mark_36 hX (Or.inl rfl) hK
  · have hK := ite_n hK h1
    refine hX.fg [2, 6] ?_
    exact b_Fla_mark_36 hX (Or.inr rfl) hK
def f_Fla_mark (σ : Sg) (a1 : Int32) (a2 : Int32) (a3 : Int32) (a4 : Int32) : Sg := (if a4 = (0 : Int32) then (f_Fla_mark_13 σ a1 a2 a3 (128 : Int32)) else (f_Fla_mark_13 σ a1 a2 a3 (32768 : Int32)))
abbrev w_Fla_mark : List (Nat × Option Nat) := [(6, some 0)]
theorem p_Fla_mark {P : Sg → Prop} (hP : WP w_Fla_mark P) {σ : Sg} {a1 : Int32} {a2 : Int32} {a3 : Int32} {a4 : Int32} (h : P σ) : P (f_Fla_mark σ a1 a2 a3 a4) := by
  unfold f_Fla_mark
  refine ite_z (fun _ => ?_) (fun _ => ?_)
  · exact p_Fla_mark_13 (wsub hP rfl) h
  · exact p_Fla_mark_13 (wsub hP rfl) h
set_option maxRecDepth 100000 in
set_option maxHeartbeats 4000000 in
theorem s_Fla_mark {l : Launch} {ad : Nat → Nat} {D : va_G} {cI : ClassId} {σ : Sg} {a1 : Int32} {a2 : Int32} {a3 : Int32} {a4 : Int32} {K : Option Value → Sg → Prop}   (hK : KV K (f_Fla_mark σ a1 a2 a3 a4)) : MetJ l ad D cI mi_Fla_mark [.ref 6, .int a1, .int a2, .int a3, .int a4] σ K := by
  refine met_of mi_Fla_mark pt_Fla pt_Fla_in rfl pl_Fla rfl (Nat.le_of_ble_eq_true rfl) fun X hX => ?_
  have hX : Cl l ad D cI mi_Fla_mark pt_Fla K X := hX
  show X 0 [.ref 6, .int a1, .int a2, .int a3, .int a4, .null, .null] [] σ
  unfold f_Fla_mark at hK
  refine hX.1 10 I_Fla_mark_0 ok_Fla_mark_0 _ _ _ ?_
  refine And.intro (fun h1 => ?_) (fun h1 => ?_)
  · have hK := ite_p hK h1
    refine hX.1 13 I_Fla_mark_10 ok_Fla_mark_10 _ _ _ ?_
    refine hX.fg [4] ?_
    exact b_Fla_mark_13 hX  hK
  · have hK := ite_n hK h1
    refine hX.fg [4] ?_
    exact b_Fla_mark_13 hX  hK
def I_Fla_sum_0 : List IT := [(0, .iload_n 1, 1, 0, 0, []), (1, .iload_n 2, 1, 0, 0, []), (2, .iadd, 1, 0, 0, []), (3, .iload_n 3, 1, 0, 0, []), (4, .iadd, 1, 0, 0, []), (5, .istore 5, 2, 0, 0, []), (7, .iload 5, 2, 0, 0, []), (9, .iload 4, 2, 0, 0, []), (11, .ifCond .eq 8, 3, 0, 19, []), (14, .ldc 24, 2, 65535, 0, []), (16, .goto 6, 3, 0, 22, [])]
theorem ok_Fla_sum_0 : blkOK b_Fla_sum pt_Fla 19 I_Fla_sum_0 = true := by decide +kernel
def I_Fla_sum_19 : List IT := [(19, .sipush 255, 3, 255, 0, [])]
theorem ok_Fla_sum_19 : blkOK b_Fla_sum pt_Fla 22 I_Fla_sum_19 = true := by decide +kernel
def I_Fla_sum_22 : List IT := [(22, .iand, 1, 0, 0, []), (23, .istore 6, 2, 0, 0, []), (25, .aload_n 0, 1, 0, 0, []), (26, .iload 6, 2, 0, 0, []), (28, .iload 5, 2, 0, 0, []), (30, .iload 6, 2, 0, 0, []), (32, .if_icmp .eq 7, 3, 0, 39, []), (35, .iconst 1, 1, 1, 0, []), (36, .goto 4, 3, 0, 40, [])]
theorem ok_Fla_sum_22 : blkOK b_Fla_sum pt_Fla 39 I_Fla_sum_22 = true := by decide +kernel
def I_Fla_sum_39 : List IT := [(39, .iconst 0, 1, 0, 0, [])]
theorem ok_Fla_sum_39 : blkOK b_Fla_sum pt_Fla 40 I_Fla_sum_39 = true := by decide +kernel
def I_Fla_sum_40 : List IT := [(40, .iload_n 1, 1, 0, 0, []), (41, .iload 6, 2, 0, 0, []), (43, .ixor, 1, 0, 0, []), (44, .iload_n 2, 1, 0, 0, []), (45, .iload 6, 2, 0, 0, []), (47, .ixor, 1, 0, 0, []), (48, .iand, 1, 0, 0, []), (49, .iload 4, 2, 0, 0, []), (51, .invokevirtual 25, 3, 0, 0, []), (54, .iload 6, 2, 0, 0, []), (56, .ireturn, 1, 0, 0, [])]
theorem ok_Fla_sum_40 : blkOK b_Fla_sum pt_Fla 57 I_Fla_sum_40 = true := by decide +kernel
def f_Fla_sum_40 (σ : Sg) (x1 : Int32) (x2 : Int32) (x4 : Int32) (x6 : Int32) (y0 : Int32) (y1 : Int32) : Int32 × Sg := (bnd (f_Fla_mark σ y1 y0 ((x1 ^^^ x6) &&& (x2 ^^^ x6)) x4) fun r1 => (x6, r1))
abbrev w_Fla_sum_40 : List (Nat × Option Nat) := [(6, some 0)]
theorem p_Fla_sum_40 {P : Sg → Prop} (hP : WP w_Fla_sum_40 P) {σ : Sg} {x1 : Int32} {x2 : Int32} {x4 : Int32} {x6 : Int32} {y0 : Int32} {y1 : Int32} (h : P σ) : PP P (f_Fla_sum_40 σ x1 x2 x4 x6 y0 y1) := by
  unfold f_Fla_sum_40
  refine bnd_zz (Z := P) (p_Fla_mark (wsub hP rfl) h) fun r1 e1 q1 => ?_
  exact q1
set_option maxRecDepth 100000 in
set_option maxHeartbeats 4000000 in
theorem b_Fla_sum_40 {l : Launch} {ad : Nat → Nat} {D : va_G} {cI : ClassId} {K : Option Value → Sg → Prop} {X : Nat → List Value → List Value → Sg → Prop} (hX : Cl l ad D cI mi_Fla_sum pt_Fla K X) {σ : Sg} {x1 : Int32} {x2 : Int32} {x4 : Int32} {x6 : Int32} {y0 : Int32} {y1 : Int32} (z_y0 : y0 = 0 ∨ y0 = 1)  (hK : KI K (f_Fla_sum_40 σ x1 x2 x4 x6 y0 y1)) : X 40 [.null, .int x1, .int x2, .null, .int x4, .null, .int x6] [.int y0, .int y1, .ref 6] σ := by
  unfold f_Fla_sum_40 at hK
  refine hX.1 57 I_Fla_sum_40 ok_Fla_sum_40 _ _ _ ?_
  refine s_Fla_mark (bnd_g hK fun r1 e1 hK => ?_)
  exact hK
def f_Fla_sum_22 (σ : Sg) (x1 : Int32) (x2 : Int32) (x4 : Int32) (x5 : Int32) (y0 : Int32) (y1 : Int32) : Int32 × Sg := (if x5 = (y1 &&& y0) then (f_Fla_sum_40 σ x1 x2 x4 (y1 &&& y0) (0 : Int32) (y1 &&& y0)) else (f_Fla_sum_40 σ x1 x2 x4 (y1 &&& y0) (1 : Int32) (y1 &&& y0)))
abbrev w_Fla_sum_22 : List (Nat × Option Nat) := [(6, some 0)]
theorem p_Fla_sum_22 {P : Sg → Prop} (hP : WP w_Fla_sum_22 P) {σ : Sg} {x1 : Int32} {x2 : Int32} {x4 : Int32} {x5 : Int32} {y0 : Int32} {y1 : Int32} (h : P σ) : PP P (f_Fla_sum_22 σ x1 x2 x4 x5 y0 y1) := by
  unfold f_Fla_sum_22
  refine ite_z (fun _ => ?_) (fun _ => ?_)
  · exact p_Fla_sum_40 (wsub hP rfl) h
  · exact p_Fla_sum_40 (wsub hP rfl) h
set_option maxRecDepth 100000 in
set_option maxHeartbeats 4000000 in
theorem b_Fla_sum_22 {l : Launch} {ad : Nat → Nat} {D : va_G} {cI : ClassId} {K : Option Value → Sg → Prop} {X : Nat → List Value → List Value → Sg → Prop} (hX : Cl l ad D cI mi_Fla_sum pt_Fla K X) {σ : Sg} {x1 : Int32} {x2 : Int32} {x4 : Int32} {x5 : Int32} {y0 : Int32} {y1 : Int32}   (hK : KI K (f_Fla_sum_22 σ x1 x2 x4 x5 y0 y1)) : X 22 [.ref 6, .int x1, .int x2, .null, .int x4, .int x5, .null] [.int y0, .int y1] σ := by
  unfold f_Fla_sum_22 at hK
  refine hX.1 39 I_Fla_sum_22 ok_Fla_sum_22 _ _ _ ?_
  refine And.intro (fun h1 => ?_) (fun h1 => ?_)
  · have hK := ite_p hK h1
    refine hX.1 40 I_Fla_sum_39 ok_Fla_sum_39 _ _ _ ?_
    refine hX.fg [0, 5] ?_
    exact b_Fla_sum_40 hX (Or.inl rfl) hK
  · have hK := ite_n hK h1
    refine hX.fg [0, 5] ?_
    exact b_Fla_sum_40 hX (Or.inr rfl) hK
def f_Fla_sum (σ : Sg) (a1 : Int32) (a2 : Int32) (a3 : Int32) (a4 : Int32) : Int32 × Sg := (if a4 = (0 : Int32) then (f_Fla_sum_22 σ a1 a2 a4 ((a1 + a2) + a3) (255 : Int32) ((a1 + a2) + a3)) else (f_Fla_sum_22 σ a1 a2 a4 ((a1 + a2) + a3) (65535 : Int32) ((a1 + a2) + a3)))
abbrev w_Fla_sum : List (Nat × Option Nat) := [(6, some 0)]
theorem p_Fla_sum {P : Sg → Prop} (hP : WP w_Fla_sum P) {σ : Sg} {a1 : Int32} {a2 : Int32} {a3 : Int32} {a4 : Int32} (h : P σ) : PP P (f_Fla_sum σ a1 a2 a3 a4) := by
  unfold f_Fla_sum
  refine ite_z (fun _ => ?_) (fun _ => ?_)
  · exact p_Fla_sum_22 (wsub hP rfl) h
  · exact p_Fla_sum_22 (wsub hP rfl) h
set_option maxRecDepth 100000 in
set_option maxHeartbeats 4000000 in
theorem s_Fla_sum {l : Launch} {ad : Nat → Nat} {D : va_G} {cI : ClassId} {σ : Sg} {a1 : Int32} {a2 : Int32} {a3 : Int32} {a4 : Int32} {K : Option Value → Sg → Prop}   (hK : KI K (f_Fla_sum σ a1 a2 a3 a4)) : MetJ l ad D cI mi_Fla_sum [.ref 6, .int a1, .int a2, .int a3, .int a4] σ K := by
  refine met_of mi_Fla_sum pt_Fla pt_Fla_in rfl pl_Fla rfl (Nat.le_of_ble_eq_true rfl) fun X hX => ?_
  have hX : Cl l ad D cI mi_Fla_sum pt_Fla K X := hX
  show X 0 [.ref 6, .int a1, .int a2, .int a3, .int a4, .null, .null] [] σ
  unfold f_Fla_sum at hK
  refine hX.1 19 I_Fla_sum_0 ok_Fla_sum_0 _ _ _ ?_
  refine And.intro (fun h1 => ?_) (fun h1 => ?_)
  · have hK := ite_p hK h1
    refine hX.1 22 I_Fla_sum_19 ok_Fla_sum_19 _ _ _ ?_
    refine hX.fg [3] ?_
    exact b_Fla_sum_22 hX  hK
  · have hK := ite_n hK h1
    refine hX.fg [3] ?_
    exact b_Fla_sum_22 hX  hK
def I_Fla_logic_0 : List IT := [(0, .aload_n 0, 1, 0, 0, []), (1, .iload_n 1, 1, 0, 0, []), (2, .iconst 0, 1, 0, 0, []), (3, .iconst 0, 1, 0, 0, []), (4, .iload_n 2, 1, 0, 0, []), (5, .invokevirtual 25, 3, 0, 0, []), (8, .iload_n 1, 1, 0, 0, []), (9, .ireturn, 1, 0, 0, [])]
theorem ok_Fla_logic_0 : blkOK b_Fla_logic pt_Fla 10 I_Fla_logic_0 = true := by decide +kernel
def f_Fla_logic (σ : Sg) (a1 : Int32) (a2 : Int32) : Int32 × Sg := (bnd (f_Fla_mark σ a1 (0 : Int32) (0 : Int32) a2) fun r1 => (a1, r1))
abbrev w_Fla_logic : List (Nat × Option Nat) := [(6, some 0)]
theorem p_Fla_logic {P : Sg → Prop} (hP : WP w_Fla_logic P) {σ : Sg} {a1 : Int32} {a2 : Int32} (h : P σ) : PP P (f_Fla_logic σ a1 a2) := by
  unfold f_Fla_logic
  refine bnd_zz (Z := P) (p_Fla_mark (wsub hP rfl) h) fun r1 e1 q1 => ?_
  exact q1
set_option maxRecDepth 100000 in
set_option maxHeartbeats 4000000 in
theorem s_Fla_logic {l : Launch} {ad : Nat → Nat} {D : va_G} {cI : ClassId} {σ : Sg} {a1 : Int32} {a2 : Int32} {K : Option Value → Sg → Prop}   (hK : KI K (f_Fla_logic σ a1 a2)) : MetJ l ad D cI mi_Fla_logic [.ref 6, .int a1, .int a2] σ K := by
  refine met_of mi_Fla_logic pt_Fla pt_Fla_in rfl pl_Fla rfl (Nat.le_of_ble_eq_true rfl) fun X hX => ?_
  have hX : Cl l ad D cI mi_Fla_logic pt_Fla K X := hX
  show X 0 [.ref 6, .int a1, .int a2] [] σ
  unfold f_Fla_logic at hK
  refine hX.1 10 I_Fla_logic_0 ok_Fla_logic_0 _ _ _ ?_
  refine s_Fla_mark (bnd_g hK fun r1 e1 hK => ?_)
  exact hK
def I_Fla_difference_0 : List IT := [(0, .iload_n 1, 1, 0, 0, []), (1, .iload_n 2, 1, 0, 0, []), (2, .isub, 1, 0, 0, []), (3, .iload_n 3, 1, 0, 0, []), (4, .isub, 1, 0, 0, []), (5, .istore 5, 2, 0, 0, []), (7, .iload 5, 2, 0, 0, []), (9, .iload 4, 2, 0, 0, []), (11, .ifCond .eq 8, 3, 0, 19, []), (14, .ldc 24, 2, 65535, 0, []), (16, .goto 6, 3, 0, 22, [])]
theorem ok_Fla_difference_0 : blkOK b_Fla_difference pt_Fla 19 I_Fla_difference_0 = true := by decide +kernel
def I_Fla_difference_19 : List IT := [(19, .sipush 255, 3, 255, 0, [])]
theorem ok_Fla_difference_19 : blkOK b_Fla_difference pt_Fla 22 I_Fla_difference_19 = true := by decide +kernel
def I_Fla_difference_22 : List IT := [(22, .iand, 1, 0, 0, []), (23, .istore 6, 2, 0, 0, []), (25, .aload_n 0, 1, 0, 0, []), (26, .iload 6, 2, 0, 0, []), (28, .iload 5, 2, 0, 0, []), (30, .iload 6, 2, 0, 0, []), (32, .if_icmp .eq 7, 3, 0, 39, []), (35, .iconst 1, 1, 1, 0, []), (36, .goto 4, 3, 0, 40, [])]
theorem ok_Fla_difference_22 : blkOK b_Fla_difference pt_Fla 39 I_Fla_difference_22 = true := by decide +kernel
def I_Fla_difference_39 : List IT := [(39, .iconst 0, 1, 0, 0, [])]
theorem ok_Fla_difference_39 : blkOK b_Fla_difference pt_Fla 40 I_Fla_difference_39 = true := by decide +kernel
def I_Fla_difference_40 : List IT := [(40, .iload_n 1, 1, 0, 0, []), (41, .iload_n 2, 1, 0, 0, []), (42, .ixor, 1, 0, 0, []), (43, .iload_n 1, 1, 0, 0, []), (44, .iload 6, 2, 0, 0, []), (46, .ixor, 1, 0, 0, []), (47, .iand, 1, 0, 0, []), (48, .iload 4, 2, 0, 0, []), (50, .invokevirtual 25, 3, 0, 0, []), (53, .iload 6, 2, 0, 0, []), (55, .ireturn, 1, 0, 0, [])]
theorem ok_Fla_difference_40 : blkOK b_Fla_difference pt_Fla 56 I_Fla_difference_40 = true := by decide +kernel
def f_Fla_difference_40 (σ : Sg) (x1 : Int32) (x2 : Int32) (x4 : Int32) (x6 : Int32) (y0 : Int32) (y1 : Int32) : Int32 × Sg := (bnd (f_Fla_mark σ y1 y0 ((x1 ^^^ x2) &&& (x1 ^^^ x6)) x4) fun r1 => (x6, r1))
abbrev w_Fla_difference_40 : List (Nat × Option Nat) := [(6, some 0)]
theorem p_Fla_difference_40 {P : Sg → Prop} (hP : WP w_Fla_difference_40 P) {σ : Sg} {x1 : Int32} {x2 : Int32} {x4 : Int32} {x6 : Int32} {y0 : Int32} {y1 : Int32} (h : P σ) : PP P (f_Fla_difference_40 σ x1 x2 x4 x6 y0 y1) := by
  unfold f_Fla_difference_40
  refine bnd_zz (Z := P) (p_Fla_mark (wsub hP rfl) h) fun r1 e1 q1 => ?_
  exact q1
set_option maxRecDepth 100000 in
set_option maxHeartbeats 4000000 in
theorem b_Fla_difference_40 {l : Launch} {ad : Nat → Nat} {D : va_G} {cI : ClassId} {K : Option Value → Sg → Prop} {X : Nat → List Value → List Value → Sg → Prop} (hX : Cl l ad D cI mi_Fla_difference pt_Fla K X) {σ : Sg} {x1 : Int32} {x2 : Int32} {x4 : Int32} {x6 : Int32} {y0 : Int32} {y1 : Int32} (z_y0 : y0 = 0 ∨ y0 = 1)  (hK : KI K (f_Fla_difference_40 σ x1 x2 x4 x6 y0 y1)) : X 40 [.null, .int x1, .int x2, .null, .int x4, .null, .int x6] [.int y0, .int y1, .ref 6] σ := by
  unfold f_Fla_difference_40 at hK
  refine hX.1 56 I_Fla_difference_40 ok_Fla_difference_40 _ _ _ ?_
  refine s_Fla_mark (bnd_g hK fun r1 e1 hK => ?_)
  exact hK
def f_Fla_difference_22 (σ : Sg) (x1 : Int32) (x2 : Int32) (x4 : Int32) (x5 : Int32) (y0 : Int32) (y1 : Int32) : Int32 × Sg := (if x5 = (y1 &&& y0) then (f_Fla_difference_40 σ x1 x2 x4 (y1 &&& y0) (0 : Int32) (y1 &&& y0)) else (f_Fla_difference_40 σ x1 x2 x4 (y1 &&& y0) (1 : Int32) (y1 &&& y0)))
abbrev w_Fla_difference_22 : List (Nat × Option Nat) := [(6, some 0)]
theorem p_Fla_difference_22 {P : Sg → Prop} (hP : WP w_Fla_difference_22 P) {σ : Sg} {x1 : Int32} {x2 : Int32} {x4 : Int32} {x5 : Int32} {y0 : Int32} {y1 : Int32} (h : P σ) : PP P (f_Fla_difference_22 σ x1 x2 x4 x5 y0 y1) := by
  unfold f_Fla_difference_22
  refine ite_z (fun _ => ?_) (fun _ => ?_)
  · exact p_Fla_difference_40 (wsub hP rfl) h
  · exact p_Fla_difference_40 (wsub hP rfl) h
set_option maxRecDepth 100000 in
set_option maxHeartbeats 4000000 in
theorem b_Fla_difference_22 {l : Launch} {ad : Nat → Nat} {D : va_G} {cI : ClassId} {K : Option Value → Sg → Prop} {X : Nat → List Value → List Value → Sg → Prop} (hX : Cl l ad D cI mi_Fla_difference pt_Fla K X) {σ : Sg} {x1 : Int32} {x2 : Int32} {x4 : Int32} {x5 : Int32} {y0 : Int32} {y1 : Int32}   (hK : KI K (f_Fla_difference_22 σ x1 x2 x4 x5 y0 y1)) : X 22 [.ref 6, .int x1, .int x2, .null, .int x4, .int x5, .null] [.int y0, .int y1] σ := by
  unfold f_Fla_difference_22 at hK
  refine hX.1 39 I_Fla_difference_22 ok_Fla_difference_22 _ _ _ ?_
  refine And.intro (fun h1 => ?_) (fun h1 => ?_)
  · have hK := ite_p hK h1
    refine hX.1 40 I_Fla_difference_39 ok_Fla_difference_39 _ _ _ ?_
    refine hX.fg [0, 5] ?_
    exact b_Fla_difference_40 hX (Or.inl rfl) hK
  · have hK := ite_n hK h1
    refine hX.fg [0, 5] ?_
    exact b_Fla_difference_40 hX (Or.inr rfl) hK
def f_Fla_difference (σ : Sg) (a1 : Int32) (a2 : Int32) (a3 : Int32) (a4 : Int32) : Int32 × Sg := (if a4 = (0 : Int32) then (f_Fla_difference_22 σ a1 a2 a4 ((a1 - a2) - a3) (255 : Int32) ((a1 - a2) - a3)) else (f_Fla_difference_22 σ a1 a2 a4 ((a1 - a2) - a3) (65535 : Int32) ((a1 - a2) - a3)))
abbrev w_Fla_difference : List (Nat × Option Nat) := [(6, some 0)]
theorem p_Fla_difference {P : Sg → Prop} (hP : WP w_Fla_difference P) {σ : Sg} {a1 : Int32} {a2 : Int32} {a3 : Int32} {a4 : Int32} (h : P σ) : PP P (f_Fla_difference σ a1 a2 a3 a4) := by
  unfold f_Fla_difference
  refine ite_z (fun _ => ?_) (fun _ => ?_)
  · exact p_Fla_difference_22 (wsub hP rfl) h
  · exact p_Fla_difference_22 (wsub hP rfl) h
set_option maxRecDepth 100000 in
set_option maxHeartbeats 4000000 in
theorem s_Fla_difference {l : Launch} {ad : Nat → Nat} {D : va_G} {cI : ClassId} {σ : Sg} {a1 : Int32} {a2 : Int32} {a3 : Int32} {a4 : Int32} {K : Option Value → Sg → Prop}   (hK : KI K (f_Fla_difference σ a1 a2 a3 a4)) : MetJ l ad D cI mi_Fla_difference [.ref 6, .int a1, .int a2, .int a3, .int a4] σ K := by
  refine met_of mi_Fla_difference pt_Fla pt_Fla_in rfl pl_Fla rfl (Nat.le_of_ble_eq_true rfl) fun X hX => ?_
  have hX : Cl l ad D cI mi_Fla_difference pt_Fla K X := hX
  show X 0 [.ref 6, .int a1, .int a2, .int a3, .int a4, .null, .null] [] σ
  unfold f_Fla_difference at hK
  refine hX.1 19 I_Fla_difference_0 ok_Fla_difference_0 _ _ _ ?_
  refine And.intro (fun h1 => ?_) (fun h1 => ?_)
  · have hK := ite_p hK h1
    refine hX.1 22 I_Fla_difference_19 ok_Fla_difference_19 _ _ _ ?_
    refine hX.fg [3] ?_
    exact b_Fla_difference_22 hX  hK
  · have hK := ite_n hK h1
    refine hX.fg [3] ?_
    exact b_Fla_difference_22 hX  hK
def I_Fla_combine_0 : List IT := [(0, .aload_n 0, 1, 0, 0, []), (1, .getfield 9, 3, 0, 0, []), (4, .iconst 1, 1, 1, 0, []), (5, .iand, 1, 0, 0, []), (6, .istore 5, 2, 0, 0, []), (8, .iload_n 1, 1, 0, 0, []), (9, .tableswitch 115 0 6 #[43, 53, 63, 74, 85, 95, 105], 43, 0, 124, [(0, 52), (1, 62), (2, 72), (3, 83), (4, 94), (5, 104), (6, 114)])]
theorem ok_Fla_combine_0 : blkOK b_Fla_combine pt_Fla 52 I_Fla_combine_0 = true := by decide +kernel
def I_Fla_combine_52 : List IT := [(52, .aload_n 0, 1, 0, 0, []), (53, .iload_n 2, 1, 0, 0, []), (54, .iload_n 3, 1, 0, 0, []), (55, .iconst 0, 1, 0, 0, []), (56, .iload 4, 2, 0, 0, []), (58, .invokevirtual 13, 3, 0, 0, []), (61, .ireturn, 1, 0, 0, [])]
theorem ok_Fla_combine_52 : blkOK b_Fla_combine pt_Fla 62 I_Fla_combine_52 = true := by decide +kernel
def I_Fla_combine_62 : List IT := [(62, .aload_n 0, 1, 0, 0, []), (63, .iload_n 2, 1, 0, 0, []), (64, .iload_n 3, 1, 0, 0, []), (65, .ior, 1, 0, 0, []), (66, .iload 4, 2, 0, 0, []), (68, .invokevirtual 17, 3, 0, 0, []), (71, .ireturn, 1, 0, 0, [])]
theorem ok_Fla_combine_62 : blkOK b_Fla_combine pt_Fla 72 I_Fla_combine_62 = true := by decide +kernel
def I_Fla_combine_72 : List IT := [(72, .aload_n 0, 1, 0, 0, []), (73, .iload_n 2, 1, 0, 0, []), (74, .iload_n 3, 1, 0, 0, []), (75, .iload 5, 2, 0, 0, []), (77, .iload 4, 2, 0, 0, []), (79, .invokevirtual 13, 3, 0, 0, []), (82, .ireturn, 1, 0, 0, [])]
theorem ok_Fla_combine_72 : blkOK b_Fla_combine pt_Fla 83 I_Fla_combine_72 = true := by decide +kernel
def I_Fla_combine_83 : List IT := [(83, .aload_n 0, 1, 0, 0, []), (84, .iload_n 2, 1, 0, 0, []), (85, .iload_n 3, 1, 0, 0, []), (86, .iload 5, 2, 0, 0, []), (88, .iload 4, 2, 0, 0, []), (90, .invokevirtual 21, 3, 0, 0, []), (93, .ireturn, 1, 0, 0, [])]
theorem ok_Fla_combine_83 : blkOK b_Fla_combine pt_Fla 94 I_Fla_combine_83 = true := by decide +kernel
def I_Fla_combine_94 : List IT := [(94, .aload_n 0, 1, 0, 0, []), (95, .iload_n 2, 1, 0, 0, []), (96, .iload_n 3, 1, 0, 0, []), (97, .iand, 1, 0, 0, []), (98, .iload 4, 2, 0, 0, []), (100, .invokevirtual 17, 3, 0, 0, []), (103, .ireturn, 1, 0, 0, [])]
theorem ok_Fla_combine_94 : blkOK b_Fla_combine pt_Fla 104 I_Fla_combine_94 = true := by decide +kernel
def I_Fla_combine_104 : List IT := [(104, .aload_n 0, 1, 0, 0, []), (105, .iload_n 2, 1, 0, 0, []), (106, .iload_n 3, 1, 0, 0, []), (107, .iconst 0, 1, 0, 0, []), (108, .iload 4, 2, 0, 0, []), (110, .invokevirtual 21, 3, 0, 0, []), (113, .ireturn, 1, 0, 0, [])]
theorem ok_Fla_combine_104 : blkOK b_Fla_combine pt_Fla 114 I_Fla_combine_104 = true := by decide +kernel
def I_Fla_combine_114 : List IT := [(114, .aload_n 0, 1, 0, 0, []), (115, .iload_n 2, 1, 0, 0, []), (116, .iload_n 3, 1, 0, 0, []), (117, .ixor, 1, 0, 0, []), (118, .iload 4, 2, 0, 0, []), (120, .invokevirtual 17, 3, 0, 0, []), (123, .ireturn, 1, 0, 0, [])]
theorem ok_Fla_combine_114 : blkOK b_Fla_combine pt_Fla 124 I_Fla_combine_114 = true := by decide +kernel
def I_Fla_combine_124 : List IT := [(124, .aload_n 0, 1, 0, 0, []), (125, .iload_n 2, 1, 0, 0, []), (126, .iload_n 3, 1, 0, 0, []), (127, .iconst 0, 1, 0, 0, []), (128, .iload 4, 2, 0, 0, []), (130, .invokevirtual 21, 3, 0, 0, []), (133, .pop, 1, 0, 0, []), (134, .iload_n 2, 1, 0, 0, []), (135, .ireturn, 1, 0, 0, [])]
theorem ok_Fla_combine_124 : blkOK b_Fla_combine pt_Fla 136 I_Fla_combine_124 = true := by decide +kernel
def f_Fla_combine (σ : Sg) (a1 : Int32) (a2 : Int32) (a3 : Int32) (a4 : Int32) : Int32 × Sg := (if a1 = (0 : Int32) then (bnd (f_Fla_sum σ a2 a3 (0 : Int32) a4) fun r2 => (r2.1, r2.2)) else (if a1 = (1 : Int32) then (bnd (f_Fla_logic σ (a2 ||| a3) a4) fun r4 => (r4.1, r4.2)) else (if a1 = (2 : Int32) then (bnd (f_Fla_sum σ a2 a3 ((σ 6 0) &&& (1 : Int32)) a4) fun r6 => (r6.1, r6.2)) else (if a1 = (3 : Int32) then (bnd (f_Fla_difference σ a2 a3 ((σ 6 0) &&& (1 : Int32)) a4) fun r8 => (r8.1, r8.2)) else (if a1 = (4 : Int32) then (bnd (f_Fla_logic σ (a2 &&& a3) a4) fun r10 => (r10.1, r10.2)) else (if a1 = (5 : Int32) then (bnd (f_Fla_difference σ a2 a3 (0 : Int32) a4) fun r12 => (r12.1, r12.2)) else (if a1 = (6 : Int32) then (bnd (f_Fla_logic σ (a2 ^^^ a3) a4) fun r14 => (r14.1, r14.2)) else (bnd (f_Fla_difference σ a2 a3 (0 : Int32) a4) fun r15 => (a2, r15.2)))))))))
abbrev w_Fla_combine : List (Nat × Option Nat) := [(6, some 0)]
theorem p_Fla_combine {P : Sg → Prop} (hP : WP w_Fla_combine P) {σ : Sg} {a1 : Int32} {a2 : Int32} {a3 : Int32} {a4 : Int32} (h : P σ) : PP P (f_Fla_combine σ a1 a2 a3 a4) := by
  unfold f_Fla_combine
  refine ite_z (fun _ => ?_) (fun _ => ?_)
  · refine bnd_zz (Z := PP P) (p_Fla_sum (wsub hP rfl) h) fun r2 e2 q2 => ?_
    exact q2
  refine ite_z (fun _ => ?_) (fun _ => ?_)
  · refine bnd_zz (Z := PP P) (p_Fla_logic (wsub hP rfl) h) fun r4 e4 q4 => ?_
    exact q4
  refine ite_z (fun _ => ?_) (fun _ => ?_)
  · refine bnd_zz (Z := PP P) (p_Fla_sum (wsub hP rfl) h) fun r6 e6 q6 => ?_
    exact q6
  refine ite_z (fun _ => ?_) (fun _ => ?_)
  · refine bnd_zz (Z := PP P) (p_Fla_difference (wsub hP rfl) h) fun r8 e8 q8 => ?_
    exact q8
  refine ite_z (fun _ => ?_) (fun _ => ?_)
  · refine bnd_zz (Z := PP P) (p_Fla_logic (wsub hP rfl) h) fun r10 e10 q10 => ?_
    exact q10
  refine ite_z (fun _ => ?_) (fun _ => ?_)
  · refine bnd_zz (Z := PP P) (p_Fla_difference (wsub hP rfl) h) fun r12 e12 q12 => ?_
    exact q12
  refine ite_z (fun _ => ?_) (fun _ => ?_)
  · refine bnd_zz (Z := PP P) (p_Fla_logic (wsub hP rfl) h) fun r14 e14 q14 => ?_
    exact q14
  refine bnd_zz (Z := PP P) (p_Fla_difference (wsub hP rfl) h) fun r15 e15 q15 => ?_
  exact q15
set_option maxRecDepth 100000 in
set_option maxHeartbeats 4000000 in
theorem s_Fla_combine {l : Launch} {ad : Nat → Nat} {D : va_G} {cI : ClassId} {σ : Sg} {a1 : Int32} {a2 : Int32} {a3 : Int32} {a4 : Int32} {K : Option Value → Sg → Prop}   (hK : KI K (f_Fla_combine σ a1 a2 a3 a4)) : MetJ l ad D cI mi_Fla_combine [.ref 6, .int a1, .int a2, .int a3, .int a4] σ K := by
  refine met_of mi_Fla_combine pt_Fla pt_Fla_in rfl pl_Fla rfl (Nat.le_of_ble_eq_true rfl) fun X hX => ?_
  have hX : Cl l ad D cI mi_Fla_combine pt_Fla K X := hX
  show X 0 [.ref 6, .int a1, .int a2, .int a3, .int a4, .null] [] σ
  unfold f_Fla_combine at hK
  refine hX.1 52 I_Fla_combine_0 ok_Fla_combine_0 _ _ _ ?_
  refine And.intro (fun h1 => ?_) (fun h1 => ?_)
  · have hK := ite_p hK h1
    refine hX.1 62 I_Fla_combine_52 ok_Fla_combine_52 _ _ _ ?_
    refine s_Fla_sum (bnd_g hK fun r2 e2 hK => ?_)
    exact hK
  have hK := ite_n hK h1
  refine And.intro (fun h3 => ?_) (fun h3 => ?_)
  · have hK := ite_p hK h3
    refine hX.1 72 I_Fla_combine_62 ok_Fla_combine_62 _ _ _ ?_
    refine s_Fla_logic (bnd_g hK fun r4 e4 hK => ?_)
    exact hK
  have hK := ite_n hK h3
  refine And.intro (fun h5 => ?_) (fun h5 => ?_)
  · have hK := ite_p hK h5
    refine hX.1 83 I_Fla_combine_72 ok_Fla_combine_72 _ _ _ ?_
    refine s_Fla_sum (bnd_g hK fun r6 e6 hK => ?_)
    exact hK
  have hK := ite_n hK h5
  refine And.intro (fun h7 => ?_) (fun h7 => ?_)
  · have hK := ite_p hK h7
    refine hX.1 94 I_Fla_combine_83 ok_Fla_combine_83 _ _ _ ?_
    refine s_Fla_difference (bnd_g hK fun r8 e8 hK => ?_)
    exact hK
  have hK := ite_n hK h7
  refine And.intro (fun h9 => ?_) (fun h9 => ?_)
  · have hK := ite_p hK h9
    refine hX.1 104 I_Fla_combine_94 ok_Fla_combine_94 _ _ _ ?_
    refine s_Fla_logic (bnd_g hK fun r10 e10 hK => ?_)
    exact hK
  have hK := ite_n hK h9
  refine And.intro (fun h11 => ?_) (fun h11 => ?_)
  · have hK := ite_p hK h11
    refine hX.1 114 I_Fla_combine_104 ok_Fla_combine_104 _ _ _ ?_
    refine s_Fla_difference (bnd_g hK fun r12 e12 hK => ?_)
    exact hK
  have hK := ite_n hK h11
  refine And.intro (fun h13 => ?_) (fun h13 => ?_)
  · have hK := ite_p hK h13
    refine hX.1 124 I_Fla_combine_114 ok_Fla_combine_114 _ _ _ ?_
    refine s_Fla_logic (bnd_g hK fun r14 e14 hK => ?_)
    exact hK
  have hK := ite_n hK h13
  refine hX.1 136 I_Fla_combine_124 ok_Fla_combine_124 _ _ _ ?_
  refine s_Fla_difference (bnd_g hK fun r15 e15 hK => ?_)
  exact hK
def I_Fla_oneMore_0 : List IT := [(0, .aload_n 0, 1, 0, 0, []), (1, .getfield 9, 3, 0, 0, []), (4, .iconst 1, 1, 1, 0, []), (5, .iand, 1, 0, 0, []), (6, .istore_n 3, 1, 0, 0, []), (7, .aload_n 0, 1, 0, 0, []), (8, .iload_n 1, 1, 0, 0, []), (9, .iconst 1, 1, 1, 0, []), (10, .iconst 0, 1, 0, 0, []), (11, .iload_n 2, 1, 0, 0, []), (12, .invokevirtual 13, 3, 0, 0, []), (15, .istore 4, 2, 0, 0, []), (17, .aload_n 0, 1, 0, 0, []), (18, .aload_n 0, 1, 0, 0, []), (19, .getfield 9, 3, 0, 0, []), (22, .bipush (-2), 2, (-2), 0, []), (24, .iand, 1, 0, 0, []), (25, .iload_n 3, 1, 0, 0, []), (26, .ior, 1, 0, 0, []), (27, .putfield 9, 3, 0, 0, []), (30, .iload 4, 2, 0, 0, []), (32, .ireturn, 1, 0, 0, [])]
theorem ok_Fla_oneMore_0 : blkOK b_Fla_oneMore pt_Fla 33 I_Fla_oneMore_0 = true := by decide +kernel
def f_Fla_oneMore (σ : Sg) (a1 : Int32) (a2 : Int32) : Int32 × Sg := (bnd (f_Fla_sum σ a1 (1 : Int32) (0 : Int32) a2) fun r1 => bnd (up2 r1.2 6 0 (((r1.2 6 0) &&& (-2 : Int32)) ||| ((σ 6 0) &&& (1 : Int32)))) fun s2 => (r1.1, s2))
abbrev w_Fla_oneMore : List (Nat × Option Nat) := [(6, some 0)]
theorem p_Fla_oneMore {P : Sg → Prop} (hP : WP w_Fla_oneMore P) {σ : Sg} {a1 : Int32} {a2 : Int32} (h : P σ) : PP P (f_Fla_oneMore σ a1 a2) := by
  unfold f_Fla_oneMore
  refine bnd_zz (Z := PP P) (p_Fla_sum (wsub hP rfl) h) fun r1 e1 q1 => ?_
  refine bnd_zz (Z := P) (hP _ _ _ _ (Or.inr (by decide)) q1) fun s2 e2 q2 => ?_
  exact q2
set_option maxRecDepth 100000 in
set_option maxHeartbeats 4000000 in
theorem s_Fla_oneMore {l : Launch} {ad : Nat → Nat} {D : va_G} {cI : ClassId} {σ : Sg} {a1 : Int32} {a2 : Int32} {K : Option Value → Sg → Prop}   (hK : KI K (f_Fla_oneMore σ a1 a2)) : MetJ l ad D cI mi_Fla_oneMore [.ref 6, .int a1, .int a2] σ K := by
  refine met_of mi_Fla_oneMore pt_Fla pt_Fla_in rfl pl_Fla rfl (Nat.le_of_ble_eq_true rfl) fun X hX => ?_
  have hX : Cl l ad D cI mi_Fla_oneMore pt_Fla K X := hX
  show X 0 [.ref 6, .int a1, .int a2, .null, .null] [] σ
  unfold f_Fla_oneMore at hK
  refine hX.1 33 I_Fla_oneMore_0 ok_Fla_oneMore_0 _ _ _ ?_
  refine s_Fla_sum (bnd_g hK fun r1 e1 hK => ?_)
  refine And.intro trivial (SG_g hK fun s2 e2 hK => ?_)
  exact hK
def I_Fla_oneLess_0 : List IT := [(0, .aload_n 0, 1, 0, 0, []), (1, .getfield 9, 3, 0, 0, []), (4, .iconst 1, 1, 1, 0, []), (5, .iand, 1, 0, 0, []), (6, .istore_n 3, 1, 0, 0, []), (7, .aload_n 0, 1, 0, 0, []), (8, .iload_n 1, 1, 0, 0, []), (9, .iconst 1, 1, 1, 0, []), (10, .iconst 0, 1, 0, 0, []), (11, .iload_n 2, 1, 0, 0, []), (12, .invokevirtual 21, 3, 0, 0, []), (15, .istore 4, 2, 0, 0, []), (17, .aload_n 0, 1, 0, 0, []), (18, .aload_n 0, 1, 0, 0, []), (19, .getfield 9, 3, 0, 0, []), (22, .bipush (-2), 2, (-2), 0, []), (24, .iand, 1, 0, 0, []), (25, .iload_n 3, 1, 0, 0, []), (26, .ior, 1, 0, 0, []), (27, .putfield 9, 3, 0, 0, []), (30, .iload 4, 2, 0, 0, []), (32, .ireturn, 1, 0, 0, [])]
theorem ok_Fla_oneLess_0 : blkOK b_Fla_oneLess pt_Fla 33 I_Fla_oneLess_0 = true := by decide +kernel
def f_Fla_oneLess (σ : Sg) (a1 : Int32) (a2 : Int32) : Int32 × Sg := (bnd (f_Fla_difference σ a1 (1 : Int32) (0 : Int32) a2) fun r1 => bnd (up2 r1.2 6 0 (((r1.2 6 0) &&& (-2 : Int32)) ||| ((σ 6 0) &&& (1 : Int32)))) fun s2 => (r1.1, s2))
abbrev w_Fla_oneLess : List (Nat × Option Nat) := [(6, some 0)]
theorem p_Fla_oneLess {P : Sg → Prop} (hP : WP w_Fla_oneLess P) {σ : Sg} {a1 : Int32} {a2 : Int32} (h : P σ) : PP P (f_Fla_oneLess σ a1 a2) := by
  unfold f_Fla_oneLess
  refine bnd_zz (Z := PP P) (p_Fla_difference (wsub hP rfl) h) fun r1 e1 q1 => ?_
  refine bnd_zz (Z := P) (hP _ _ _ _ (Or.inr (by decide)) q1) fun s2 e2 q2 => ?_
  exact q2
set_option maxRecDepth 100000 in
set_option maxHeartbeats 4000000 in
theorem s_Fla_oneLess {l : Launch} {ad : Nat → Nat} {D : va_G} {cI : ClassId} {σ : Sg} {a1 : Int32} {a2 : Int32} {K : Option Value → Sg → Prop}   (hK : KI K (f_Fla_oneLess σ a1 a2)) : MetJ l ad D cI mi_Fla_oneLess [.ref 6, .int a1, .int a2] σ K := by
  refine met_of mi_Fla_oneLess pt_Fla pt_Fla_in rfl pl_Fla rfl (Nat.le_of_ble_eq_true rfl) fun X hX => ?_
  have hX : Cl l ad D cI mi_Fla_oneLess pt_Fla K X := hX
  show X 0 [.ref 6, .int a1, .int a2, .null, .null] [] σ
  unfold f_Fla_oneLess at hK
  refine hX.1 33 I_Fla_oneLess_0 ok_Fla_oneLess_0 _ _ _ ?_
  refine s_Fla_difference (bnd_g hK fun r1 e1 hK => ?_)
  refine And.intro trivial (SG_g hK fun s2 e2 hK => ?_)
  exact hK
end
section
def I_Ctl_request_0 : List IT := [(0, .aload_n 0, 1, 0, 0, []), (1, .dup, 1, 0, 0, []), (2, .getfield 13, 3, 0, 0, []), (5, .iconst 1, 1, 1, 0, []), (6, .iload_n 1, 1, 0, 0, []), (7, .ishl, 1, 0, 0, []), (8, .ior, 1, 0, 0, []), (9, .putfield 13, 3, 0, 0, []), (12, .return_, 1, 0, 0, [])]
theorem ok_Ctl_request_0 : blkOK b_Ctl_request pt_Ctl 13 I_Ctl_request_0 = true := by decide +kernel
def f_Ctl_request (σ : Sg) (a1 : Int32) : Sg := (bnd (up2 σ 7 0 ((σ 7 0) ||| ((1 : Int32) <<< (a1 &&& 31 : Int32)))) fun s1 => s1)
abbrev w_Ctl_request : List (Nat × Option Nat) := [(7, some 0)]
theorem p_Ctl_request {P : Sg → Prop} (hP : WP w_Ctl_request P) {σ : Sg} {a1 : Int32} (h : P σ) : P (f_Ctl_request σ a1) := by
  unfold f_Ctl_request
  refine bnd_zz (Z := P) (hP _ _ _ _ (Or.inr (by decide)) h) fun s1 e1 q1 => ?_
  exact q1
set_option maxRecDepth 100000 in
set_option maxHeartbeats 4000000 in
theorem s_Ctl_request {l : Launch} {ad : Nat → Nat} {D : va_G} {cI : ClassId} {σ : Sg} {a1 : Int32} {K : Option Value → Sg → Prop}   (hK : KV K (f_Ctl_request σ a1)) : MetJ l ad D cI mi_Ctl_request [.ref 7, .int a1] σ K := by
  refine met_of mi_Ctl_request pt_Ctl pt_Ctl_in rfl pl_Ctl rfl (Nat.le_of_ble_eq_true rfl) fun X hX => ?_
  have hX : Cl l ad D cI mi_Ctl_request pt_Ctl K X := hX
  show X 0 [.ref 7, .int a1] [] σ
  unfold f_Ctl_request at hK
  refine hX.1 13 I_Ctl_request_0 ok_Ctl_request_0 _ _ _ ?_
  refine And.intro trivial (SG_g hK fun s1 e1 hK => ?_)
  exact hK
def I_Ctl_lineToGive_0 : List IT := [(0, .iconst 0, 1, 0, 0, []), (1, .istore_n 1, 1, 0, 0, [])]
theorem ok_Ctl_lineToGive_0 : blkOK b_Ctl_lineToGive pt_Ctl 2 I_Ctl_lineToGive_0 = true := by decide +kernel
def I_Ctl_lineToGive_2 : List IT := [(2, .iload_n 1, 1, 0, 0, []), (3, .bipush 8, 2, 8, 0, []), (5, .if_icmp .ge 42, 3, 0, 47, []), (8, .iconst 1, 1, 1, 0, []), (9, .iload_n 1, 1, 0, 0, []), (10, .ishl, 1, 0, 0, []), (11, .istore_n 2, 1, 0, 0, []), (12, .aload_n 0, 1, 0, 0, []), (13, .getfield 16, 3, 0, 0, []), (16, .iload_n 2, 1, 0, 0, []), (17, .iand, 1, 0, 0, []), (18, .ifCond .eq 5, 3, 0, 23, []), (21, .iconst (-1), 1, (-1), 0, []), (22, .ireturn, 1, 0, 0, [])]
theorem ok_Ctl_lineToGive_2 : blkOK b_Ctl_lineToGive pt_Ctl 23 I_Ctl_lineToGive_2 = true := by decide +kernel
def I_Ctl_lineToGive_23 : List IT := [(23, .aload_n 0, 1, 0, 0, []), (24, .getfield 13, 3, 0, 0, []), (27, .aload_n 0, 1, 0, 0, []), (28, .getfield 7, 3, 0, 0, []), (31, .iconst (-1), 1, (-1), 0, []), (32, .ixor, 1, 0, 0, []), (33, .iand, 1, 0, 0, []), (34, .iload_n 2, 1, 0, 0, []), (35, .iand, 1, 0, 0, []), (36, .ifCond .eq 5, 3, 0, 41, []), (39, .iload_n 1, 1, 0, 0, []), (40, .ireturn, 1, 0, 0, [])]
theorem ok_Ctl_lineToGive_23 : blkOK b_Ctl_lineToGive pt_Ctl 41 I_Ctl_lineToGive_23 = true := by decide +kernel
def I_Ctl_lineToGive_41 : List IT := [(41, .iinc 1 1, 3, 1, 0, []), (44, .goto (-42), 3, 0, 2, [])]
theorem ok_Ctl_lineToGive_41 : blkOK b_Ctl_lineToGive pt_Ctl 47 I_Ctl_lineToGive_41 = true := by decide +kernel
def I_Ctl_lineToGive_47 : List IT := [(47, .iconst (-1), 1, (-1), 0, []), (48, .ireturn, 1, 0, 0, [])]
theorem ok_Ctl_lineToGive_47 : blkOK b_Ctl_lineToGive pt_Ctl 49 I_Ctl_lineToGive_47 = true := by decide +kernel
def f_Ctl_lineToGive_2_c8 (σ : Sg)  : Int32 × Sg := ((-1 : Int32), σ)
abbrev w_Ctl_lineToGive_2_c8 : List (Nat × Option Nat) := []
theorem p_Ctl_lineToGive_2_c8 {P : Sg → Prop} (hP : WP w_Ctl_lineToGive_2_c8 P) {σ : Sg}  (h : P σ) : PP P (f_Ctl_lineToGive_2_c8 σ ) := by
  unfold f_Ctl_lineToGive_2_c8
  exact h
set_option maxRecDepth 100000 in
set_option maxHeartbeats 4000000 in
theorem b_Ctl_lineToGive_2_c8 {l : Launch} {ad : Nat → Nat} {D : va_G} {cI : ClassId} {K : Option Value → Sg → Prop} {X : Nat → List Value → List Value → Sg → Prop} (hX : Cl l ad D cI mi_Ctl_lineToGive pt_Ctl K X) {σ : Sg}    (hK : KI K (f_Ctl_lineToGive_2_c8 σ )) : X 2 [.ref 7, .int (((((((((0 : Int32) + (1 : Int32)) + (1 : Int32)) + (1 : Int32)) + (1 : Int32)) + (1 : Int32)) + (1 : Int32)) + (1 : Int32)) + (1 : Int32)), .null] [] σ := by
  unfold f_Ctl_lineToGive_2_c8 at hK
  refine hX.1 23 I_Ctl_lineToGive_2 ok_Ctl_lineToGive_2 _ _ _ ?_
  refine And.intro (fun _ => ?_) (fun h => absurd (by decide) h)
  refine hX.1 49 I_Ctl_lineToGive_47 ok_Ctl_lineToGive_47 _ _ _ ?_
  exact hK
def f_Ctl_lineToGive_2_c7 (σ : Sg)  : Int32 × Sg := (if ((σ 7 1) &&& ((1 : Int32) <<< (((((((((0 : Int32) + (1 : Int32)) + (1 : Int32)) + (1 : Int32)) + (1 : Int32)) + (1 : Int32)) + (1 : Int32)) + (1 : Int32)) &&& 31 : Int32))) = (0 : Int32) then (if (((σ 7 0) &&& ((σ 7 2) ^^^ (-1 : Int32))) &&& ((1 : Int32) <<< (((((((((0 : Int32) + (1 : Int32)) + (1 : Int32)) + (1 : Int32)) + (1 : Int32)) + (1 : Int32)) + (1 : Int32)) + (1 : Int32)) &&& 31 : Int32))) = (0 : Int32) then (f_Ctl_lineToGive_2_c8 σ) else (((((((((0 : Int32) + (1 : Int32)) + (1 : Int32)) + (1 : Int32)) + (1 : Int32)) + (1 : Int32)) + (1 : Int32)) + (1 : Int32)), σ)) else ((-1 : Int32), σ))
abbrev w_Ctl_lineToGive_2_c7 : List (Nat × Option Nat) := []
theorem p_Ctl_lineToGive_2_c7 {P : Sg → Prop} (hP : WP w_Ctl_lineToGive_2_c7 P) {σ : Sg}  (h : P σ) : PP P (f_Ctl_lineToGive_2_c7 σ ) := by
  unfold f_Ctl_lineToGive_2_c7
  refine ite_z (fun _ => ?_) (fun _ => ?_)
  · refine ite_z (fun _ => ?_) (fun _ => ?_)
    · exact p_Ctl_lineToGive_2_c8 (wsub hP rfl) h
    · exact h
  · exact h
set_option maxRecDepth 100000 in
set_option maxHeartbeats 4000000 in
theorem b_Ctl_lineToGive_2_c7 {l : Launch} {ad : Nat → Nat} {D : va_G} {cI : ClassId} {K : Option Value → Sg → Prop} {X : Nat → List Value → List Value → Sg → Prop} (hX : Cl l ad D cI mi_Ctl_lineToGive pt_Ctl K X) {σ : Sg}    (hK : KI K (f_Ctl_lineToGive_2_c7 σ )) : X 2 [.ref 7, .int ((((((((0 : Int32) + (1 : Int32)) + (1 : Int32)) + (1 : Int32)) + (1 : Int32)) + (1 : Int32)) + (1 : Int32)) + (1 : Int32)), .null] [] σ := by
  unfold f_Ctl_lineToGive_2_c7 at hK
  refine hX.1 23 I_Ctl_lineToGive_2 ok_Ctl_lineToGive_2 _ _ _ ?_
  refine And.intro (fun h => absurd h (by decide)) (fun _ => ?_)
  refine And.intro (fun h1 => ?_) (fun h1 => ?_)
  · have hK := ite_p hK h1
    refine hX.1 41 I_Ctl_lineToGive_23 ok_Ctl_lineToGive_23 _ _ _ ?_
    refine And.intro (fun h2 => ?_) (fun h2 => ?_)
    · have hK := ite_p hK h2
      refine hX.1 47 I_Ctl_lineToGive_41 ok_Ctl_lineToGive_41 _ _ _ ?_
      refine hX.fg [2] ?_
      exact b_Ctl_lineToGive_2_c8 hX  hK
    · have hK := ite_n hK h2
      exact hK
  · have hK := ite_n hK h1
    exact hK
def f_Ctl_lineToGive_2_c6 (σ : Sg)  : Int32 × Sg := (if ((σ 7 1) &&& ((1 : Int32) <<< ((((((((0 : Int32) + (1 : Int32)) + (1 : Int32)) + (1 : Int32)) + (1 : Int32)) + (1 : Int32)) + (1 : Int32)) &&& 31 : Int32))) = (0 : Int32) then (if (((σ 7 0) &&& ((σ 7 2) ^^^ (-1 : Int32))) &&& ((1 : Int32) <<< ((((((((0 : Int32) + (1 : Int32)) + (1 : Int32)) + (1 : Int32)) + (1 : Int32)) + (1 : Int32)) + (1 : Int32)) &&& 31 : Int32))) = (0 : Int32) then (f_Ctl_lineToGive_2_c7 σ) else ((((((((0 : Int32) + (1 : Int32)) + (1 : Int32)) + (1 : Int32)) + (1 : Int32)) + (1 : Int32)) + (1 : Int32)), σ)) else ((-1 : Int32), σ))
abbrev w_Ctl_lineToGive_2_c6 : List (Nat × Option Nat) := []
theorem p_Ctl_lineToGive_2_c6 {P : Sg → Prop} (hP : WP w_Ctl_lineToGive_2_c6 P) {σ : Sg}  (h : P σ) : PP P (f_Ctl_lineToGive_2_c6 σ ) := by
  unfold f_Ctl_lineToGive_2_c6
  refine ite_z (fun _ => ?_) (fun _ => ?_)
  · refine ite_z (fun _ => ?_) (fun _ => ?_)
    · exact p_Ctl_lineToGive_2_c7 (wsub hP rfl) h
    · exact h
  · exact h
set_option maxRecDepth 100000 in
set_option maxHeartbeats 4000000 in
theorem b_Ctl_lineToGive_2_c6 {l : Launch} {ad : Nat → Nat} {D : va_G} {cI : ClassId} {K : Option Value → Sg → Prop} {X : Nat → List Value → List Value → Sg → Prop} (hX : Cl l ad D cI mi_Ctl_lineToGive pt_Ctl K X) {σ : Sg}    (hK : KI K (f_Ctl_lineToGive_2_c6 σ )) : X 2 [.ref 7, .int (((((((0 : Int32) + (1 : Int32)) + (1 : Int32)) + (1 : Int32)) + (1 : Int32)) + (1 : Int32)) + (1 : Int32)), .null] [] σ := by
  unfold f_Ctl_lineToGive_2_c6 at hK
  refine hX.1 23 I_Ctl_lineToGive_2 ok_Ctl_lineToGive_2 _ _ _ ?_
  refine And.intro (fun h => absurd h (by decide)) (fun _ => ?_)
  refine And.intro (fun h1 => ?_) (fun h1 => ?_)
  · have hK := ite_p hK h1
    refine hX.1 41 I_Ctl_lineToGive_23 ok_Ctl_lineToGive_23 _ _ _ ?_
    refine And.intro (fun h2 => ?_) (fun h2 => ?_)
    · have hK := ite_p hK h2
      refine hX.1 47 I_Ctl_lineToGive_41 ok_Ctl_lineToGive_41 _ _ _ ?_
      refine hX.fg [2] ?_
      exact b_Ctl_lineToGive_2_c7 hX  hK
    · have hK := ite_n hK h2
      exact hK
  · have hK := ite_n hK h1
    exact hK
def f_Ctl_lineToGive_2_c5 (σ : Sg)  : Int32 × Sg := (if ((σ 7 1) &&& ((1 : Int32) <<< (((((((0 : Int32) + (1 : Int32)) + (1 : Int32)) + (1 : Int32)) + (1 : Int32)) + (1 : Int32)) &&& 31 : Int32))) = (0 : Int32) then (if (((σ 7 0) &&& ((σ 7 2) ^^^ (-1 : Int32))) &&& ((1 : Int32) <<< (((((((0 : Int32) + (1 : Int32)) + (1 : Int32)) + (1 : Int32)) + (1 : Int32)) + (1 : Int32)) &&& 31 : Int32))) = (0 : Int32) then (f_Ctl_lineToGive_2_c6 σ) else (((((((0 : Int32) + (1 : Int32)) + (1 : Int32)) + (1 : Int32)) + (1 : Int32)) + (1 : Int32)), σ)) else ((-1 : Int32), σ))
abbrev w_Ctl_lineToGive_2_c5 : List (Nat × Option Nat) := []
theorem p_Ctl_lineToGive_2_c5 {P : Sg → Prop} (hP : WP w_Ctl_lineToGive_2_c5 P) {σ : Sg}  (h : P σ) : PP P (f_Ctl_lineToGive_2_c5 σ ) := by
  unfold f_Ctl_lineToGive_2_c5
  refine ite_z (fun _ => ?_) (fun _ => ?_)
  · refine ite_z (fun _ => ?_) (fun _ => ?_)
    · exact p_Ctl_lineToGive_2_c6 (wsub hP rfl) h
    · exact h
  · exact h
set_option maxRecDepth 100000 in
set_option maxHeartbeats 4000000 in
theorem b_Ctl_lineToGive_2_c5 {l : Launch} {ad : Nat → Nat} {D : va_G} {cI : ClassId} {K : Option Value → Sg → Prop} {X : Nat → List Value → List Value → Sg → Prop} (hX : Cl l ad D cI mi_Ctl_lineToGive pt_Ctl K X) {σ : Sg}    (hK : KI K (f_Ctl_lineToGive_2_c5 σ )) : X 2 [.ref 7, .int ((((((0 : Int32) + (1 : Int32)) + (1 : Int32)) + (1 : Int32)) + (1 : Int32)) + (1 : Int32)), .null] [] σ := by
  unfold f_Ctl_lineToGive_2_c5 at hK
  refine hX.1 23 I_Ctl_lineToGive_2 ok_Ctl_lineToGive_2 _ _ _ ?_
  refine And.intro (fun h => absurd h (by decide)) (fun _ => ?_)
  refine And.intro (fun h1 => ?_) (fun h1 => ?_)
  · have hK := ite_p hK h1
    refine hX.1 41 I_Ctl_lineToGive_23 ok_Ctl_lineToGive_23 _ _ _ ?_
    refine And.intro (fun h2 => ?_) (fun h2 => ?_)
    · have hK := ite_p hK h2
      refine hX.1 47 I_Ctl_lineToGive_41 ok_Ctl_lineToGive_41 _ _ _ ?_
      refine hX.fg [2] ?_
      exact b_Ctl_lineToGive_2_c6 hX  hK
    · have hK := ite_n hK h2
      exact hK
  · have hK := ite_n hK h1
    exact hK
def f_Ctl_lineToGive_2_c4 (σ : Sg)  : Int32 × Sg := (if ((σ 7 1) &&& ((1 : Int32) <<< ((((((0 : Int32) + (1 : Int32)) + (1 : Int32)) + (1 : Int32)) + (1 : Int32)) &&& 31 : Int32))) = (0 : Int32) then (if (((σ 7 0) &&& ((σ 7 2) ^^^ (-1 : Int32))) &&& ((1 : Int32) <<< ((((((0 : Int32) + (1 : Int32)) + (1 : Int32)) + (1 : Int32)) + (1 : Int32)) &&& 31 : Int32))) = (0 : Int32) then (f_Ctl_lineToGive_2_c5 σ) else ((((((0 : Int32) + (1 : Int32)) + (1 : Int32)) + (1 : Int32)) + (1 : Int32)), σ)) else ((-1 : Int32), σ))
abbrev w_Ctl_lineToGive_2_c4 : List (Nat × Option Nat) := []
theorem p_Ctl_lineToGive_2_c4 {P : Sg → Prop} (hP : WP w_Ctl_lineToGive_2_c4 P) {σ : Sg}  (h : P σ) : PP P (f_Ctl_lineToGive_2_c4 σ ) := by
  unfold f_Ctl_lineToGive_2_c4
  refine ite_z (fun _ => ?_) (fun _ => ?_)
  · refine ite_z (fun _ => ?_) (fun _ => ?_)
    · exact p_Ctl_lineToGive_2_c5 (wsub hP rfl) h
    · exact h
  · exact h
set_option maxRecDepth 100000 in
set_option maxHeartbeats 4000000 in
theorem b_Ctl_lineToGive_2_c4 {l : Launch} {ad : Nat → Nat} {D : va_G} {cI : ClassId} {K : Option Value → Sg → Prop} {X : Nat → List Value → List Value → Sg → Prop} (hX : Cl l ad D cI mi_Ctl_lineToGive pt_Ctl K X) {σ : Sg}    (hK : KI K (f_Ctl_lineToGive_2_c4 σ )) : X 2 [.ref 7, .int (((((0 : Int32) + (1 : Int32)) + (1 : Int32)) + (1 : Int32)) + (1 : Int32)), .null] [] σ := by
  unfold f_Ctl_lineToGive_2_c4 at hK
  refine hX.1 23 I_Ctl_lineToGive_2 ok_Ctl_lineToGive_2 _ _ _ ?_
  refine And.intro (fun h => absurd h (by decide)) (fun _ => ?_)
  refine And.intro (fun h1 => ?_) (fun h1 => ?_)
  · have hK := ite_p hK h1
    refine hX.1 41 I_Ctl_lineToGive_23 ok_Ctl_lineToGive_23 _ _ _ ?_
    refine And.intro (fun h2 => ?_) (fun h2 => ?_)
    · have hK := ite_p hK h2
      refine hX.1 47 I_Ctl_lineToGive_41 ok_Ctl_lineToGive_41 _ _ _ ?_
      refine hX.fg [2] ?_
      exact b_Ctl_lineToGive_2_c5 hX  hK
    · have hK := ite_n hK h2
      exact hK
  · have hK := ite_n hK h1
    exact hK
def f_Ctl_lineToGive_2_c3 (σ : Sg)  : Int32 × Sg := (if ((σ 7 1) &&& ((1 : Int32) <<< (((((0 : Int32) + (1 : Int32)) + (1 : Int32)) + (1 : Int32)) &&& 31 : Int32))) = (0 : Int32) then (if (((σ 7 0) &&& ((σ 7 2) ^^^ (-1 : Int32))) &&& ((1 : Int32) <<< (((((0 : Int32) + (1 : Int32)) + (1 : Int32)) + (1 : Int32)) &&& 31 : Int32))) = (0 : Int32) then (f_Ctl_lineToGive_2_c4 σ) else (((((0 : Int32) + (1 : Int32)) + (1 : Int32)) + (1 : Int32)), σ)) else ((-1 : Int32), σ))
abbrev w_Ctl_lineToGive_2_c3 : List (Nat × Option Nat) := []
theorem p_Ctl_lineToGive_2_c3 {P : Sg → Prop} (hP : WP w_Ctl_lineToGive_2_c3 P) {σ : Sg}  (h : P σ) : PP P (f_Ctl_lineToGive_2_c3 σ ) := by
  unfold f_Ctl_lineToGive_2_c3
  refine ite_z (fun _ => ?_) (fun _ => ?_)
  · refine ite_z (fun _ => ?_) (fun _ => ?_)
    · exact p_Ctl_lineToGive_2_c4 (wsub hP rfl) h
    · exact h
  · exact h
set_option maxRecDepth 100000 in
set_option maxHeartbeats 4000000 in
theorem b_Ctl_lineToGive_2_c3 {l : Launch} {ad : Nat → Nat} {D : va_G} {cI : ClassId} {K : Option Value → Sg → Prop} {X : Nat → List Value → List Value → Sg → Prop} (hX : Cl l ad D cI mi_Ctl_lineToGive pt_Ctl K X) {σ : Sg}    (hK : KI K (f_Ctl_lineToGive_2_c3 σ )) : X 2 [.ref 7, .int ((((0 : Int32) + (1 : Int32)) + (1 : Int32)) + (1 : Int32)), .null] [] σ := by
  unfold f_Ctl_lineToGive_2_c3 at hK
  refine hX.1 23 I_Ctl_lineToGive_2 ok_Ctl_lineToGive_2 _ _ _ ?_
  refine And.intro (fun h => absurd h (by decide)) (fun _ => ?_)
  refine And.intro (fun h1 => ?_) (fun h1 => ?_)
  · have hK := ite_p hK h1
    refine hX.1 41 I_Ctl_lineToGive_23 ok_Ctl_lineToGive_23 _ _ _ ?_
    refine And.intro (fun h2 => ?_) (fun h2 => ?_)
    · have hK := ite_p hK h2
      refine hX.1 47 I_Ctl_lineToGive_41 ok_Ctl_lineToGive_41 _ _ _ ?_
      refine hX.fg [2] ?_
      exact b_Ctl_lineToGive_2_c4 hX  hK
    · have hK := ite_n hK h2
      exact hK
  · have hK := ite_n hK h1
    exact hK
def f_Ctl_lineToGive_2_c2 (σ : Sg)  : Int32 × Sg := (if ((σ 7 1) &&& ((1 : Int32) <<< ((((0 : Int32) + (1 : Int32)) + (1 : Int32)) &&& 31 : Int32))) = (0 : Int32) then (if (((σ 7 0) &&& ((σ 7 2) ^^^ (-1 : Int32))) &&& ((1 : Int32) <<< ((((0 : Int32) + (1 : Int32)) + (1 : Int32)) &&& 31 : Int32))) = (0 : Int32) then (f_Ctl_lineToGive_2_c3 σ) else ((((0 : Int32) + (1 : Int32)) + (1 : Int32)), σ)) else ((-1 : Int32), σ))
abbrev w_Ctl_lineToGive_2_c2 : List (Nat × Option Nat) := []
theorem p_Ctl_lineToGive_2_c2 {P : Sg → Prop} (hP : WP w_Ctl_lineToGive_2_c2 P) {σ : Sg}  (h : P σ) : PP P (f_Ctl_lineToGive_2_c2 σ ) := by
  unfold f_Ctl_lineToGive_2_c2
  refine ite_z (fun _ => ?_) (fun _ => ?_)
  · refine ite_z (fun _ => ?_) (fun _ => ?_)
    · exact p_Ctl_lineToGive_2_c3 (wsub hP rfl) h
    · exact h
  · exact h
set_option maxRecDepth 100000 in
set_option maxHeartbeats 4000000 in
theorem b_Ctl_lineToGive_2_c2 {l : Launch} {ad : Nat → Nat} {D : va_G} {cI : ClassId} {K : Option Value → Sg → Prop} {X : Nat → List Value → List Value → Sg → Prop} (hX : Cl l ad D cI mi_Ctl_lineToGive pt_Ctl K X) {σ : Sg}    (hK : KI K (f_Ctl_lineToGive_2_c2 σ )) : X 2 [.ref 7, .int (((0 : Int32) + (1 : Int32)) + (1 : Int32)), .null] [] σ := by
  unfold f_Ctl_lineToGive_2_c2 at hK
  refine hX.1 23 I_Ctl_lineToGive_2 ok_Ctl_lineToGive_2 _ _ _ ?_
  refine And.intro (fun h => absurd h (by decide)) (fun _ => ?_)
  refine And.intro (fun h1 => ?_) (fun h1 => ?_)
  · have hK := ite_p hK h1
    refine hX.1 41 I_Ctl_lineToGive_23 ok_Ctl_lineToGive_23 _ _ _ ?_
    refine And.intro (fun h2 => ?_) (fun h2 => ?_)
    · have hK := ite_p hK h2
      refine hX.1 47 I_Ctl_lineToGive_41 ok_Ctl_lineToGive_41 _ _ _ ?_
      refine hX.fg [2] ?_
      exact b_Ctl_lineToGive_2_c3 hX  hK
    · have hK := ite_n hK h2
      exact hK
  · have hK := ite_n hK h1
    exact hK
def f_Ctl_lineToGive_2_c1 (σ : Sg)  : Int32 × Sg := (if ((σ 7 1) &&& ((1 : Int32) <<< (((0 : Int32) + (1 : Int32)) &&& 31 : Int32))) = (0 : Int32) then (if (((σ 7 0) &&& ((σ 7 2) ^^^ (-1 : Int32))) &&& ((1 : Int32) <<< (((0 : Int32) + (1 : Int32)) &&& 31 : Int32))) = (0 : Int32) then (f_Ctl_lineToGive_2_c2 σ) else (((0 : Int32) + (1 : Int32)), σ)) else ((-1 : Int32), σ))
abbrev w_Ctl_lineToGive_2_c1 : List (Nat × Option Nat) := []
theorem p_Ctl_lineToGive_2_c1 {P : Sg → Prop} (hP : WP w_Ctl_lineToGive_2_c1 P) {σ : Sg}  (h : P σ) : PP P (f_Ctl_lineToGive_2_c1 σ ) := by
  unfold f_Ctl_lineToGive_2_c1
  refine ite_z (fun _ => ?_) (fun _ => ?_)
  · refine ite_z (fun _ => ?_) (fun _ => ?_)
    · exact p_Ctl_lineToGive_2_c2 (wsub hP rfl) h
    · exact h
  · exact h
set_option maxRecDepth 100000 in
set_option maxHeartbeats 4000000 in
theorem b_Ctl_lineToGive_2_c1 {l : Launch} {ad : Nat → Nat} {D : va_G} {cI : ClassId} {K : Option Value → Sg → Prop} {X : Nat → List Value → List Value → Sg → Prop} (hX : Cl l ad D cI mi_Ctl_lineToGive pt_Ctl K X) {σ : Sg}    (hK : KI K (f_Ctl_lineToGive_2_c1 σ )) : X 2 [.ref 7, .int ((0 : Int32) + (1 : Int32)), .null] [] σ := by
  unfold f_Ctl_lineToGive_2_c1 at hK
  refine hX.1 23 I_Ctl_lineToGive_2 ok_Ctl_lineToGive_2 _ _ _ ?_
  refine And.intro (fun h => absurd h (by decide)) (fun _ => ?_)
  refine And.intro (fun h1 => ?_) (fun h1 => ?_)
  · have hK := ite_p hK h1
    refine hX.1 41 I_Ctl_lineToGive_23 ok_Ctl_lineToGive_23 _ _ _ ?_
    refine And.intro (fun h2 => ?_) (fun h2 => ?_)
    · have hK := ite_p hK h2
      refine hX.1 47 I_Ctl_lineToGive_41 ok_Ctl_lineToGive_41 _ _ _ ?_
      refine hX.fg [2] ?_
      exact b_Ctl_lineToGive_2_c2 hX  hK
    · have hK := ite_n hK h2
      exact hK
  · have hK := ite_n hK h1
    exact hK
def f_Ctl_lineToGive_2_c0 (σ : Sg)  : Int32 × Sg := (if ((σ 7 1) &&& ((1 : Int32) <<< ((0 : Int32) &&& 31 : Int32))) = (0 : Int32) then (if (((σ 7 0) &&& ((σ 7 2) ^^^ (-1 : Int32))) &&& ((1 : Int32) <<< ((0 : Int32) &&& 31 : Int32))) = (0 : Int32) then (f_Ctl_lineToGive_2_c1 σ) else ((0 : Int32), σ)) else ((-1 : Int32), σ))
abbrev w_Ctl_lineToGive_2_c0 : List (Nat × Option Nat) := []
theorem p_Ctl_lineToGive_2_c0 {P : Sg → Prop} (hP : WP w_Ctl_lineToGive_2_c0 P) {σ : Sg}  (h : P σ) : PP P (f_Ctl_lineToGive_2_c0 σ ) := by
  unfold f_Ctl_lineToGive_2_c0
  refine ite_z (fun _ => ?_) (fun _ => ?_)
  · refine ite_z (fun _ => ?_) (fun _ => ?_)
    · exact p_Ctl_lineToGive_2_c1 (wsub hP rfl) h
    · exact h
  · exact h
set_option maxRecDepth 100000 in
set_option maxHeartbeats 4000000 in
theorem b_Ctl_lineToGive_2_c0 {l : Launch} {ad : Nat → Nat} {D : va_G} {cI : ClassId} {K : Option Value → Sg → Prop} {X : Nat → List Value → List Value → Sg → Prop} (hX : Cl l ad D cI mi_Ctl_lineToGive pt_Ctl K X) {σ : Sg}    (hK : KI K (f_Ctl_lineToGive_2_c0 σ )) : X 2 [.ref 7, .int (0 : Int32), .null] [] σ := by
  unfold f_Ctl_lineToGive_2_c0 at hK
  refine hX.1 23 I_Ctl_lineToGive_2 ok_Ctl_lineToGive_2 _ _ _ ?_
  refine And.intro (fun h => absurd h (by decide)) (fun _ => ?_)
  refine And.intro (fun h1 => ?_) (fun h1 => ?_)
  · have hK := ite_p hK h1
    refine hX.1 41 I_Ctl_lineToGive_23 ok_Ctl_lineToGive_23 _ _ _ ?_
    refine And.intro (fun h2 => ?_) (fun h2 => ?_)
    · have hK := ite_p hK h2
      refine hX.1 47 I_Ctl_lineToGive_41 ok_Ctl_lineToGive_41 _ _ _ ?_
      refine hX.fg [2] ?_
      exact b_Ctl_lineToGive_2_c1 hX  hK
    · have hK := ite_n hK h2
      exact hK
  · have hK := ite_n hK h1
    exact hK
def f_Ctl_lineToGive (σ : Sg)  : Int32 × Sg := (f_Ctl_lineToGive_2_c0 σ)
abbrev w_Ctl_lineToGive : List (Nat × Option Nat) := []
theorem p_Ctl_lineToGive {P : Sg → Prop} (hP : WP w_Ctl_lineToGive P) {σ : Sg}  (h : P σ) : PP P (f_Ctl_lineToGive σ ) := by
  unfold f_Ctl_lineToGive
  exact p_Ctl_lineToGive_2_c0 (wsub hP rfl) h
set_option maxRecDepth 100000 in
set_option maxHeartbeats 4000000 in
theorem s_Ctl_lineToGive {l : Launch} {ad : Nat → Nat} {D : va_G} {cI : ClassId} {σ : Sg}  {K : Option Value → Sg → Prop}   (hK : KI K (f_Ctl_lineToGive σ )) : MetJ l ad D cI mi_Ctl_lineToGive [.ref 7] σ K := by
  refine met_of mi_Ctl_lineToGive pt_Ctl pt_Ctl_in rfl pl_Ctl rfl (Nat.le_of_ble_eq_true rfl) fun X hX => ?_
  have hX : Cl l ad D cI mi_Ctl_lineToGive pt_Ctl K X := hX
  show X 0 [.ref 7, .null, .null] [] σ
  unfold f_Ctl_lineToGive at hK
  refine hX.1 2 I_Ctl_lineToGive_0 ok_Ctl_lineToGive_0 _ _ _ ?_
  exact b_Ctl_lineToGive_2_c0 hX  hK
def I_Ctl_give_0 : List IT := [(0, .aload_n 0, 1, 0, 0, []), (1, .dup, 1, 0, 0, []), (2, .getfield 13, 3, 0, 0, []), (5, .iconst 1, 1, 1, 0, []), (6, .iload_n 1, 1, 0, 0, []), (7, .ishl, 1, 0, 0, []), (8, .iconst (-1), 1, (-1), 0, []), (9, .ixor, 1, 0, 0, []), (10, .iand, 1, 0, 0, []), (11, .putfield 13, 3, 0, 0, []), (14, .aload_n 0, 1, 0, 0, []), (15, .dup, 1, 0, 0, []), (16, .getfield 16, 3, 0, 0, []), (19, .iconst 1, 1, 1, 0, []), (20, .iload_n 1, 1, 0, 0, []), (21, .ishl, 1, 0, 0, []), (22, .ior, 1, 0, 0, []), (23, .putfield 16, 3, 0, 0, []), (26, .return_, 1, 0, 0, [])]
theorem ok_Ctl_give_0 : blkOK b_Ctl_give pt_Ctl 27 I_Ctl_give_0 = true := by decide +kernel
def f_Ctl_give (σ : Sg) (a1 : Int32) : Sg := (bnd (up2 σ 7 0 ((σ 7 0) &&& (((1 : Int32) <<< (a1 &&& 31 : Int32)) ^^^ (-1 : Int32)))) fun s1 => bnd (up2 s1 7 1 ((s1 7 1) ||| ((1 : Int32) <<< (a1 &&& 31 : Int32)))) fun s2 => s2)
abbrev w_Ctl_give : List (Nat × Option Nat) := [(7, some 0), (7, some 1)]
theorem p_Ctl_give {P : Sg → Prop} (hP : WP w_Ctl_give P) {σ : Sg} {a1 : Int32} (h : P σ) : P (f_Ctl_give σ a1) := by
  unfold f_Ctl_give
  refine bnd_zz (Z := P) (hP _ _ _ _ (Or.inr (by decide)) h) fun s1 e1 q1 => ?_
  refine bnd_zz (Z := P) (hP _ _ _ _ (Or.inr (by decide)) q1) fun s2 e2 q2 => ?_
  exact q2
set_option maxRecDepth 100000 in
set_option maxHeartbeats 4000000 in
theorem s_Ctl_give {l : Launch} {ad : Nat → Nat} {D : va_G} {cI : ClassId} {σ : Sg} {a1 : Int32} {K : Option Value → Sg → Prop}   (hK : KV K (f_Ctl_give σ a1)) : MetJ l ad D cI mi_Ctl_give [.ref 7, .int a1] σ K := by
  refine met_of mi_Ctl_give pt_Ctl pt_Ctl_in rfl pl_Ctl rfl (Nat.le_of_ble_eq_true rfl) fun X hX => ?_
  have hX : Cl l ad D cI mi_Ctl_give pt_Ctl K X := hX
  show X 0 [.ref 7, .int a1] [] σ
  unfold f_Ctl_give at hK
  refine hX.1 27 I_Ctl_give_0 ok_Ctl_give_0 _ _ _ ?_
  refine And.intro trivial (SG_g hK fun s1 e1 hK => ?_)
  refine And.intro trivial (SG_g hK fun s2 e2 hK => ?_)
  exact hK
def I_Ctl_command_0 : List IT := [(0, .iload_n 1, 1, 0, 0, []), (1, .bipush 32, 2, 32, 0, []), (3, .if_icmp .ne 21, 3, 0, 24, []), (6, .aload_n 0, 1, 0, 0, []), (7, .dup, 1, 0, 0, []), (8, .getfield 16, 3, 0, 0, []), (11, .aload_n 0, 1, 0, 0, []), (12, .getfield 16, 3, 0, 0, []), (15, .iconst 1, 1, 1, 0, []), (16, .isub, 1, 0, 0, []), (17, .iand, 1, 0, 0, []), (18, .putfield 16, 3, 0, 0, []), (21, .goto 28, 3, 0, 49, [])]
theorem ok_Ctl_command_0 : blkOK b_Ctl_command pt_Ctl 24 I_Ctl_command_0 = true := by decide +kernel
def I_Ctl_command_24 : List IT := [(24, .iload_n 1, 1, 0, 0, []), (25, .bipush 10, 2, 10, 0, []), (27, .if_icmp .ne 11, 3, 0, 38, []), (30, .aload_n 0, 1, 0, 0, []), (31, .iconst 0, 1, 0, 0, []), (32, .putfield 19, 3, 0, 0, []), (35, .goto 14, 3, 0, 49, [])]
theorem ok_Ctl_command_24 : blkOK b_Ctl_command pt_Ctl 38 I_Ctl_command_24 = true := by decide +kernel
def I_Ctl_command_38 : List IT := [(38, .iload_n 1, 1, 0, 0, []), (39, .bipush 11, 2, 11, 0, []), (41, .if_icmp .ne 8, 3, 0, 49, []), (44, .aload_n 0, 1, 0, 0, []), (45, .iconst 1, 1, 1, 0, []), (46, .putfield 19, 3, 0, 0, [])]
theorem ok_Ctl_command_38 : blkOK b_Ctl_command pt_Ctl 49 I_Ctl_command_38 = true := by decide +kernel
def I_Ctl_command_49 : List IT := [(49, .return_, 1, 0, 0, [])]
theorem ok_Ctl_command_49 : blkOK b_Ctl_command pt_Ctl 50 I_Ctl_command_49 = true := by decide +kernel
def f_Ctl_command (σ : Sg) (a1 : Int32) : Sg := (if a1 = (32 : Int32) then (bnd (up2 σ 7 1 ((σ 7 1) &&& ((σ 7 1) - (1 : Int32)))) fun s2 => s2) else (if a1 = (10 : Int32) then (bnd (up2 σ 7 3 (0 : Int32)) fun s4 => s4) else (if a1 = (11 : Int32) then (bnd (up2 σ 7 3 (1 : Int32)) fun s6 => s6) else σ)))
abbrev w_Ctl_command : List (Nat × Option Nat) := [(7, some 1), (7, some 3)]
theorem p_Ctl_command {P : Sg → Prop} (hP : WP w_Ctl_command P) {σ : Sg} {a1 : Int32} (h : P σ) : P (f_Ctl_command σ a1) := by
  unfold f_Ctl_command
  refine ite_z (fun _ => ?_) (fun _ => ?_)
  · refine bnd_zz (Z := P) (hP _ _ _ _ (Or.inr (by decide)) h) fun s2 e2 q2 => ?_
    exact q2
  · refine ite_z (fun _ => ?_) (fun _ => ?_)
    · refine bnd_zz (Z := P) (hP _ _ _ _ (Or.inr (by decide)) h) fun s4 e4 q4 => ?_
      exact q4
    · refine ite_z (fun _ => ?_) (fun _ => ?_)
      · refine bnd_zz (Z := P) (hP _ _ _ _ (Or.inr (by decide)) h) fun s6 e6 q6 => ?_
        exact q6
      · exact h
set_option maxRecDepth 100000 in
set_option maxHeartbeats 4000000 in
theorem s_Ctl_command {l : Launch} {ad : Nat → Nat} {D : va_G} {cI : ClassId} {σ : Sg} {a1 : Int32} {K : Option Value → Sg → Prop}   (hK : KV K (f_Ctl_command σ a1)) : MetJ l ad D cI mi_Ctl_command [.ref 7, .int a1] σ K := by
  refine met_of mi_Ctl_command pt_Ctl pt_Ctl_in rfl pl_Ctl rfl (Nat.le_of_ble_eq_true rfl) fun X hX => ?_
  have hX : Cl l ad D cI mi_Ctl_command pt_Ctl K X := hX
  show X 0 [.ref 7, .int a1] [] σ
  unfold f_Ctl_command at hK
  refine hX.1 24 I_Ctl_command_0 ok_Ctl_command_0 _ _ _ ?_
  refine And.intro (fun h1 => ?_) (fun h1 => ?_)
  · have hK := ite_p hK h1
    refine And.intro trivial (SG_g hK fun s2 e2 hK => ?_)
    refine hX.1 50 I_Ctl_command_49 ok_Ctl_command_49 _ _ _ ?_
    exact hK
  · have hK := ite_n hK h1
    refine hX.1 38 I_Ctl_command_24 ok_Ctl_command_24 _ _ _ ?_
    refine And.intro (fun h3 => ?_) (fun h3 => ?_)
    · have hK := ite_p hK h3
      refine And.intro (Or.inl rfl) (SG_g hK fun s4 e4 hK => ?_)
      refine hX.1 50 I_Ctl_command_49 ok_Ctl_command_49 _ _ _ ?_
      exact hK
    · have hK := ite_n hK h3
      refine hX.1 49 I_Ctl_command_38 ok_Ctl_command_38 _ _ _ ?_
      refine And.intro (fun h5 => ?_) (fun h5 => ?_)
      · have hK := ite_p hK h5
        refine And.intro (Or.inr rfl) (SG_g hK fun s6 e6 hK => ?_)
        refine hX.1 50 I_Ctl_command_49 ok_Ctl_command_49 _ _ _ ?_
        exact hK
      · have hK := ite_n hK h5
        refine hX.1 50 I_Ctl_command_49 ok_Ctl_command_49 _ _ _ ?_
        exact hK
def I_Ctl_shown_0 : List IT := [(0, .aload_n 0, 1, 0, 0, []), (1, .getfield 19, 3, 0, 0, []), (4, .ifCond .eq 10, 3, 0, 14, []), (7, .aload_n 0, 1, 0, 0, []), (8, .getfield 16, 3, 0, 0, []), (11, .goto 7, 3, 0, 18, [])]
theorem ok_Ctl_shown_0 : blkOK b_Ctl_shown pt_Ctl 14 I_Ctl_shown_0 = true := by decide +kernel
def I_Ctl_shown_14 : List IT := [(14, .aload_n 0, 1, 0, 0, []), (15, .getfield 13, 3, 0, 0, [])]
theorem ok_Ctl_shown_14 : blkOK b_Ctl_shown pt_Ctl 18 I_Ctl_shown_14 = true := by decide +kernel
def I_Ctl_shown_18 : List IT := [(18, .ireturn, 1, 0, 0, [])]
theorem ok_Ctl_shown_18 : blkOK b_Ctl_shown pt_Ctl 19 I_Ctl_shown_18 = true := by decide +kernel
def f_Ctl_shown (σ : Sg)  : Int32 × Sg := (if (σ 7 3) = (0 : Int32) then ((σ 7 0), σ) else ((σ 7 1), σ))
abbrev w_Ctl_shown : List (Nat × Option Nat) := []
theorem p_Ctl_shown {P : Sg → Prop} (hP : WP w_Ctl_shown P) {σ : Sg}  (h : P σ) : PP P (f_Ctl_shown σ ) := by
  unfold f_Ctl_shown
  refine ite_z (fun _ => ?_) (fun _ => ?_)
  · exact h
  · exact h
set_option maxRecDepth 100000 in
set_option maxHeartbeats 4000000 in
theorem s_Ctl_shown {l : Launch} {ad : Nat → Nat} {D : va_G} {cI : ClassId} {σ : Sg}  {K : Option Value → Sg → Prop}   (hK : KI K (f_Ctl_shown σ )) : MetJ l ad D cI mi_Ctl_shown [.ref 7] σ K := by
  refine met_of mi_Ctl_shown pt_Ctl pt_Ctl_in rfl pl_Ctl rfl (Nat.le_of_ble_eq_true rfl) fun X hX => ?_
  have hX : Cl l ad D cI mi_Ctl_shown pt_Ctl K X := hX
  show X 0 [.ref 7] [] σ
  unfold f_Ctl_shown at hK
  refine hX.1 14 I_Ctl_shown_0 ok_Ctl_shown_0 _ _ _ ?_
  refine And.intro (fun h1 => ?_) (fun h1 => ?_)
  · have hK := ite_p hK h1
    refine hX.1 18 I_Ctl_shown_14 ok_Ctl_shown_14 _ _ _ ?_
    refine hX.1 19 I_Ctl_shown_18 ok_Ctl_shown_18 _ _ _ ?_
    exact hK
  · have hK := ite_n hK h1
    refine hX.1 19 I_Ctl_shown_18 ok_Ctl_shown_18 _ _ _ ?_
    exact hK
def I_Tim_tick_0 : List IT := [(0, .aload_n 0, 1, 0, 0, []), (1, .getfield 13, 3, 0, 0, []), (4, .ifCond .ne 4, 3, 0, 8, []), (7, .return_, 1, 0, 0, [])]
theorem ok_Tim_tick_0 : blkOK b_Tim_tick pt_Tim 8 I_Tim_tick_0 = true := by decide +kernel
def I_Tim_tick_8 : List IT := [(8, .aload_n 0, 1, 0, 0, []), (9, .dup, 1, 0, 0, []), (10, .getfield 13, 3, 0, 0, []), (13, .iconst 1, 1, 1, 0, []), (14, .isub, 1, 0, 0, []), (15, .putfield 13, 3, 0, 0, []), (18, .aload_n 0, 1, 0, 0, []), (19, .getfield 13, 3, 0, 0, []), (22, .ifCond .ne 19, 3, 0, 41, []), (25, .aload_n 0, 1, 0, 0, []), (26, .aload_n 0, 1, 0, 0, []), (27, .getfield 17, 3, 0, 0, []), (30, .putfield 13, 3, 0, 0, []), (33, .aload_n 0, 1, 0, 0, []), (34, .getfield 7, 3, 0, 0, []), (37, .iconst 0, 1, 0, 0, []), (38, .invokevirtual 20, 3, 0, 0, [])]
theorem ok_Tim_tick_8 : blkOK b_Tim_tick pt_Tim 41 I_Tim_tick_8 = true := by decide +kernel
def I_Tim_tick_41 : List IT := [(41, .return_, 1, 0, 0, [])]
theorem ok_Tim_tick_41 : blkOK b_Tim_tick pt_Tim 42 I_Tim_tick_41 = true := by decide +kernel
def f_Tim_tick (σ : Sg)  : Sg := (if (σ 8 1) = (0 : Int32) then σ else (bnd (up2 σ 8 1 ((σ 8 1) - (1 : Int32))) fun s2 => (if (s2 8 1) = (0 : Int32) then (bnd (up2 s2 8 1 (s2 8 2)) fun s4 => bnd (f_Ctl_request s4 (0 : Int32)) fun r5 => r5) else s2)))
abbrev w_Tim_tick : List (Nat × Option Nat) := [(7, some 0), (8, some 1)]
theorem p_Tim_tick {P : Sg → Prop} (hP : WP w_Tim_tick P) {σ : Sg}  (h : P σ) : P (f_Tim_tick σ ) := by
  unfold f_Tim_tick
  refine ite_z (fun _ => ?_) (fun _ => ?_)
  · exact h
  · refine bnd_zz (Z := P) (hP _ _ _ _ (Or.inr (by decide)) h) fun s2 e2 q2 => ?_
    refine ite_z (fun _ => ?_) (fun _ => ?_)
    · refine bnd_zz (Z := P) (hP _ _ _ _ (Or.inr (by decide)) q2) fun s4 e4 q4 => ?_
      refine bnd_zz (Z := P) (p_Ctl_request (wsub hP rfl) q4) fun r5 e5 q5 => ?_
      exact q5
    · exact q2
set_option maxRecDepth 100000 in
set_option maxHeartbeats 4000000 in
theorem s_Tim_tick {l : Launch} {ad : Nat → Nat} {D : va_G} {cI : ClassId} {σ : Sg}  {K : Option Value → Sg → Prop}   (hK : KV K (f_Tim_tick σ )) : MetJ l ad D cI mi_Tim_tick [.ref 8] σ K := by
  refine met_of mi_Tim_tick pt_Tim pt_Tim_in rfl pl_Tim rfl (Nat.le_of_ble_eq_true rfl) fun X hX => ?_
  have hX : Cl l ad D cI mi_Tim_tick pt_Tim K X := hX
  show X 0 [.ref 8] [] σ
  unfold f_Tim_tick at hK
  refine hX.1 8 I_Tim_tick_0 ok_Tim_tick_0 _ _ _ ?_
  refine And.intro (fun h1 => ?_) (fun h1 => ?_)
  · have hK := ite_p hK h1
    exact hK
  · have hK := ite_n hK h1
    refine hX.1 41 I_Tim_tick_8 ok_Tim_tick_8 _ _ _ ?_
    refine And.intro trivial (SG_g hK fun s2 e2 hK => ?_)
    refine And.intro (fun h3 => ?_) (fun h3 => ?_)
    · have hK := ite_p hK h3
      refine And.intro trivial (SG_g hK fun s4 e4 hK => ?_)
      refine s_Ctl_request (bnd_g hK fun r5 e5 hK => ?_)
      refine hX.1 42 I_Tim_tick_41 ok_Tim_tick_41 _ _ _ ?_
      exact hK
    · have hK := ite_n hK h3
      refine hX.1 42 I_Tim_tick_41 ok_Tim_tick_41 _ _ _ ?_
      exact hK
def I_Tim_get_0 : List IT := [(0, .aload_n 0, 1, 0, 0, []), (1, .getfield 26, 3, 0, 0, []), (4, .ifCond .eq 38, 3, 0, 42, []), (7, .iload_n 1, 1, 0, 0, []), (8, .bipush 8, 2, 8, 0, []), (10, .ishl, 1, 0, 0, []), (11, .aload_n 0, 1, 0, 0, []), (12, .getfield 30, 3, 0, 0, []), (15, .ior, 1, 0, 0, []), (16, .istore_n 2, 1, 0, 0, []), (17, .aload_n 0, 1, 0, 0, []), (18, .iload_n 2, 1, 0, 0, []), (19, .ifCond .ne 8, 3, 0, 27, []), (22, .ldc 33, 2, 65536, 0, []), (24, .goto 4, 3, 0, 28, [])]
theorem ok_Tim_get_0 : blkOK b_Tim_get pt_Tim 27 I_Tim_get_0 = true := by decide +kernel
def I_Tim_get_27 : List IT := [(27, .iload_n 2, 1, 0, 0, [])]
theorem ok_Tim_get_27 : blkOK b_Tim_get pt_Tim 28 I_Tim_get_27 = true := by decide +kernel
def I_Tim_get_28 : List IT := [(28, .putfield 17, 3, 0, 0, []), (31, .aload_n 0, 1, 0, 0, []), (32, .aload_n 0, 1, 0, 0, []), (33, .getfield 17, 3, 0, 0, []), (36, .putfield 13, 3, 0, 0, []), (39, .goto 8, 3, 0, 47, [])]
theorem ok_Tim_get_28 : blkOK b_Tim_get pt_Tim 42 I_Tim_get_28 = true := by decide +kernel
def I_Tim_get_42 : List IT := [(42, .aload_n 0, 1, 0, 0, []), (43, .iload_n 1, 1, 0, 0, []), (44, .putfield 30, 3, 0, 0, [])]
theorem ok_Tim_get_42 : blkOK b_Tim_get pt_Tim 47 I_Tim_get_42 = true := by decide +kernel
def I_Tim_get_47 : List IT := [(47, .aload_n 0, 1, 0, 0, []), (48, .aload_n 0, 1, 0, 0, []), (49, .getfield 26, 3, 0, 0, []), (52, .ifCond .ne 7, 3, 0, 59, []), (55, .iconst 1, 1, 1, 0, []), (56, .goto 4, 3, 0, 60, [])]
theorem ok_Tim_get_47 : blkOK b_Tim_get pt_Tim 59 I_Tim_get_47 = true := by decide +kernel
def I_Tim_get_59 : List IT := [(59, .iconst 0, 1, 0, 0, [])]
theorem ok_Tim_get_59 : blkOK b_Tim_get pt_Tim 60 I_Tim_get_59 = true := by decide +kernel
def I_Tim_get_60 : List IT := [(60, .putfield 26, 3, 0, 0, []), (63, .return_, 1, 0, 0, [])]
theorem ok_Tim_get_60 : blkOK b_Tim_get pt_Tim 64 I_Tim_get_60 = true := by decide +kernel
def f_Tim_get_47 (σ : Sg)  : Sg := (if (σ 8 4) = (0 : Int32) then (bnd (up2 σ 8 4 (1 : Int32)) fun s2 => s2) else (bnd (up2 σ 8 4 (0 : Int32)) fun s3 => s3))
abbrev w_Tim_get_47 : List (Nat × Option Nat) := [(8, some 4)]
theorem p_Tim_get_47 {P : Sg → Prop} (hP : WP w_Tim_get_47 P) {σ : Sg}  (h : P σ) : P (f_Tim_get_47 σ ) := by
  unfold f_Tim_get_47
  refine ite_z (fun _ => ?_) (fun _ => ?_)
  · refine bnd_zz (Z := P) (hP _ _ _ _ (Or.inr (by decide)) h) fun s2 e2 q2 => ?_
    exact q2
  · refine bnd_zz (Z := P) (hP _ _ _ _ (Or.inr (by decide)) h) fun s3 e3 q3 => ?_
    exact q3
set_option maxRecDepth 100000 in
set_option maxHeartbeats 4000000 in
theorem b_Tim_get_47 {l : Launch} {ad : Nat → Nat} {D : va_G} {cI : ClassId} {K : Option Value → Sg → Prop} {X : Nat → List Value → List Value → Sg → Prop} (hX : Cl l ad D cI mi_Tim_get pt_Tim K X) {σ : Sg}    (hK : KV K (f_Tim_get_47 σ )) : X 47 [.ref 8, .null, .null] [] σ := by
  unfold f_Tim_get_47 at hK
  refine hX.1 59 I_Tim_get_47 ok_Tim_get_47 _ _ _ ?_
  refine And.intro (fun h1 => ?_) (fun h1 => ?_)
  · have hK := ite_p hK h1
    refine hX.1 64 I_Tim_get_60 ok_Tim_get_60 _ _ _ ?_
    refine And.intro (Or.inr rfl) (SG_g hK fun s2 e2 hK => ?_)
    exact hK
  · have hK := ite_n hK h1
    refine hX.1 60 I_Tim_get_59 ok_Tim_get_59 _ _ _ ?_
    refine hX.1 64 I_Tim_get_60 ok_Tim_get_60 _ _ _ ?_
    refine And.intro (Or.inl rfl) (SG_g hK fun s3 e3 hK => ?_)
    exact hK
def f_Tim_get_28 (σ : Sg) (y0 : Int32) : Sg := (bnd (up2 σ 8 2 y0) fun s1 => bnd (up2 s1 8 1 (s1 8 2)) fun s2 => (f_Tim_get_47 s2))
abbrev w_Tim_get_28 : List (Nat × Option Nat) := [(8, some 1), (8, some 2), (8, some 4)]
theorem p_Tim_get_28 {P : Sg → Prop} (hP : WP w_Tim_get_28 P) {σ : Sg} {y0 : Int32} (h : P σ) : P (f_Tim_get_28 σ y0) := by
  unfold f_Tim_get_28
  refine bnd_zz (Z := P) (hP _ _ _ _ (Or.inr (by decide)) h) fun s1 e1 q1 => ?_
  refine bnd_zz (Z := P) (hP _ _ _ _ (Or.inr (by decide)) q1) fun s2 e2 q2 => ?_
  exact p_Tim_get_47 (wsub hP rfl) q2
set_option maxRecDepth 100000 in
set_option maxHeartbeats 4000000 in
theorem b_Tim_get_28 {l : Launch} {ad : Nat → Nat} {D : va_G} {cI : ClassId} {K : Option Value → Sg → Prop} {X : Nat → List Value → List Value → Sg → Prop} (hX : Cl l ad D cI mi_Tim_get pt_Tim K X) {σ : Sg} {y0 : Int32}   (hK : KV K (f_Tim_get_28 σ y0)) : X 28 [.ref 8, .null, .null] [.int y0, .ref 8] σ := by
  unfold f_Tim_get_28 at hK
  refine hX.1 42 I_Tim_get_28 ok_Tim_get_28 _ _ _ ?_
  refine And.intro trivial (SG_g hK fun s1 e1 hK => ?_)
  refine And.intro trivial (SG_g hK fun s2 e2 hK => ?_)
  exact b_Tim_get_47 hX  hK
def f_Tim_get (σ : Sg) (a1 : Int32) : Sg := (if (σ 8 4) = (0 : Int32) then (bnd (up2 σ 8 3 a1) fun s2 => (f_Tim_get_47 s2)) else (if ((a1 <<< ((8 : Int32) &&& 31 : Int32)) ||| (σ 8 3)) = (0 : Int32) then (f_Tim_get_28 σ (65536 : Int32)) else (f_Tim_get_28 σ ((a1 <<< ((8 : Int32) &&& 31 : Int32)) ||| (σ 8 3)))))
abbrev w_Tim_get : List (Nat × Option Nat) := [(8, some 1), (8, some 2), (8, some 3), (8, some 4)]
theorem p_Tim_get {P : Sg → Prop} (hP : WP w_Tim_get P) {σ : Sg} {a1 : Int32} (h : P σ) : P (f_Tim_get σ a1) := by
  unfold f_Tim_get
  refine ite_z (fun _ => ?_) (fun _ => ?_)
  · refine bnd_zz (Z := P) (hP _ _ _ _ (Or.inr (by decide)) h) fun s2 e2 q2 => ?_
    exact p_Tim_get_47 (wsub hP rfl) q2
  · refine ite_z (fun _ => ?_) (fun _ => ?_)
    · exact p_Tim_get_28 (wsub hP rfl) h
    · exact p_Tim_get_28 (wsub hP rfl) h
set_option maxRecDepth 100000 in
set_option maxHeartbeats 4000000 in
theorem s_Tim_get {l : Launch} {ad : Nat → Nat} {D : va_G} {cI : ClassId} {σ : Sg} {a1 : Int32} {K : Option Value → Sg → Prop}   (hK : KV K (f_Tim_get σ a1)) : MetJ l ad D cI mi_Tim_get [.ref 8, .int a1] σ K := by
  refine met_of mi_Tim_get pt_Tim pt_Tim_in rfl pl_Tim rfl (Nat.le_of_ble_eq_true rfl) fun X hX => ?_
  have hX : Cl l ad D cI mi_Tim_get pt_Tim K X := hX
  show X 0 [.ref 8, .int a1, .null] [] σ
  unfold f_Tim_get at hK
  refine hX.1 27 I_Tim_get_0 ok_Tim_get_0 _ _ _ ?_
  refine And.intro (fun h1 => ?_) (fun h1 => ?_)
  · have hK := ite_p hK h1
    refine hX.1 47 I_Tim_get_42 ok_Tim_get_42 _ _ _ ?_
    refine And.intro trivial (SG_g hK fun s2 e2 hK => ?_)
    refine hX.fg [1] ?_
    exact b_Tim_get_47 hX  hK
  · have hK := ite_n hK h1
    refine And.intro (fun h3 => ?_) (fun h3 => ?_)
    · have hK := ite_p hK h3
      refine hX.fg [1, 2] ?_
      exact b_Tim_get_28 hX  hK
    · have hK := ite_n hK h3
      refine hX.1 28 I_Tim_get_27 ok_Tim_get_27 _ _ _ ?_
      refine hX.fg [1, 2] ?_
      exact b_Tim_get_28 hX  hK
def I_Tim_answer_0 : List IT := [(0, .aload_n 0, 1, 0, 0, []), (1, .getfield 34, 3, 0, 0, []), (4, .istore_n 1, 1, 0, 0, []), (5, .aload_n 0, 1, 0, 0, []), (6, .iload_n 1, 1, 0, 0, []), (7, .ifCond .ne 7, 3, 0, 14, []), (10, .iconst 1, 1, 1, 0, []), (11, .goto 4, 3, 0, 15, [])]
theorem ok_Tim_answer_0 : blkOK b_Tim_answer pt_Tim 14 I_Tim_answer_0 = true := by decide +kernel
def I_Tim_answer_14 : List IT := [(14, .iconst 0, 1, 0, 0, [])]
theorem ok_Tim_answer_14 : blkOK b_Tim_answer pt_Tim 15 I_Tim_answer_14 = true := by decide +kernel
def I_Tim_answer_15 : List IT := [(15, .putfield 34, 3, 0, 0, []), (18, .iload_n 1, 1, 0, 0, []), (19, .ifCond .eq 11, 3, 0, 30, []), (22, .aload_n 0, 1, 0, 0, []), (23, .getfield 37, 3, 0, 0, []), (26, .bipush 8, 2, 8, 0, []), (28, .ishr, 1, 0, 0, []), (29, .ireturn, 1, 0, 0, [])]
theorem ok_Tim_answer_15 : blkOK b_Tim_answer pt_Tim 30 I_Tim_answer_15 = true := by decide +kernel
def I_Tim_answer_30 : List IT := [(30, .aload_n 0, 1, 0, 0, []), (31, .aload_n 0, 1, 0, 0, []), (32, .getfield 13, 3, 0, 0, []), (35, .ldc 40, 2, 65535, 0, []), (37, .iand, 1, 0, 0, []), (38, .putfield 37, 3, 0, 0, []), (41, .aload_n 0, 1, 0, 0, []), (42, .getfield 37, 3, 0, 0, []), (45, .sipush 255, 3, 255, 0, []), (48, .iand, 1, 0, 0, []), (49, .ireturn, 1, 0, 0, [])]
theorem ok_Tim_answer_30 : blkOK b_Tim_answer pt_Tim 50 I_Tim_answer_30 = true := by decide +kernel
def f_Tim_answer_15 (σ : Sg) (x1 : Int32) (y0 : Int32) : Int32 × Sg := (bnd (up2 σ 8 6 y0) fun s1 => (if x1 = (0 : Int32) then (bnd (up2 s1 8 5 ((s1 8 1) &&& (65535 : Int32))) fun s3 => (((s3 8 5) &&& (255 : Int32)), s3)) else (((s1 8 5) >>> ((8 : Int32) &&& 31 : Int32)), s1)))
abbrev w_Tim_answer_15 : List (Nat × Option Nat) := [(8, some 5), (8, some 6)]
theorem p_Tim_answer_15 {P : Sg → Prop} (hP : WP w_Tim_answer_15 P) {σ : Sg} {x1 : Int32} {y0 : Int32} (h : P σ) : PP P (f_Tim_answer_15 σ x1 y0) := by
  unfold f_Tim_answer_15
  refine bnd_zz (Z := P) (hP _ _ _ _ (Or.inr (by decide)) h) fun s1 e1 q1 => ?_
  refine ite_z (fun _ => ?_) (fun _ => ?_)
  · refine bnd_zz (Z := P) (hP _ _ _ _ (Or.inr (by decide)) q1) fun s3 e3 q3 => ?_
    exact q3
  · exact q1
set_option maxRecDepth 100000 in
set_option maxHeartbeats 4000000 in
theorem b_Tim_answer_15 {l : Launch} {ad : Nat → Nat} {D : va_G} {cI : ClassId} {K : Option Value → Sg → Prop} {X : Nat → List Value → List Value → Sg → Prop} (hX : Cl l ad D cI mi_Tim_answer pt_Tim K X) {σ : Sg} {x1 : Int32} {y0 : Int32} (z_y0 : y0 = 0 ∨ y0 = 1)  (hK : KI K (f_Tim_answer_15 σ x1 y0)) : X 15 [.ref 8, .int x1] [.int y0, .ref 8] σ := by
  unfold f_Tim_answer_15 at hK
  refine hX.1 30 I_Tim_answer_15 ok_Tim_answer_15 _ _ _ ?_
  refine And.intro z_y0 (SG_g hK fun s1 e1 hK => ?_)
  refine And.intro (fun h2 => ?_) (fun h2 => ?_)
  · have hK := ite_p hK h2
    refine hX.1 50 I_Tim_answer_30 ok_Tim_answer_30 _ _ _ ?_
    refine And.intro trivial (SG_g hK fun s3 e3 hK => ?_)
    exact hK
  · have hK := ite_n hK h2
    exact hK
def f_Tim_answer (σ : Sg)  : Int32 × Sg := (if (σ 8 6) = (0 : Int32) then (f_Tim_answer_15 σ (σ 8 6) (1 : Int32)) else (f_Tim_answer_15 σ (σ 8 6) (0 : Int32)))
abbrev w_Tim_answer : List (Nat × Option Nat) := [(8, some 5), (8, some 6)]
theorem p_Tim_answer {P : Sg → Prop} (hP : WP w_Tim_answer P) {σ : Sg}  (h : P σ) : PP P (f_Tim_answer σ ) := by
  unfold f_Tim_answer
  refine ite_z (fun _ => ?_) (fun _ => ?_)
  · exact p_Tim_answer_15 (wsub hP rfl) h
  · exact p_Tim_answer_15 (wsub hP rfl) h
set_option maxRecDepth 100000 in
set_option maxHeartbeats 4000000 in
theorem s_Tim_answer {l : Launch} {ad : Nat → Nat} {D : va_G} {cI : ClassId} {σ : Sg}  {K : Option Value → Sg → Prop}   (hK : KI K (f_Tim_answer σ )) : MetJ l ad D cI mi_Tim_answer [.ref 8] σ K := by
  refine met_of mi_Tim_answer pt_Tim pt_Tim_in rfl pl_Tim rfl (Nat.le_of_ble_eq_true rfl) fun X hX => ?_
  have hX : Cl l ad D cI mi_Tim_answer pt_Tim K X := hX
  show X 0 [.ref 8, .null] [] σ
  unfold f_Tim_answer at hK
  refine hX.1 14 I_Tim_answer_0 ok_Tim_answer_0 _ _ _ ?_
  refine And.intro (fun h1 => ?_) (fun h1 => ?_)
  · have hK := ite_p hK h1
    exact b_Tim_answer_15 hX (Or.inr rfl) hK
  · have hK := ite_n hK h1
    refine hX.1 15 I_Tim_answer_14 ok_Tim_answer_14 _ _ _ ?_
    exact b_Tim_answer_15 hX (Or.inl rfl) hK
def I_Key_come_0 : List IT := [(0, .aload_n 0, 1, 0, 0, []), (1, .getfield 17, 3, 0, 0, []), (4, .iconst 4, 1, 4, 0, []), (5, .if_icmp .lt 5, 3, 0, 10, []), (8, .iconst 0, 1, 0, 0, []), (9, .ireturn, 1, 0, 0, [])]
theorem ok_Key_come_0 : blkOK b_Key_come pt_Key 10 I_Key_come_0 = true := by decide +kernel
def I_Key_come_10 : List IT := [(10, .aload_n 0, 1, 0, 0, []), (11, .getfield 17, 3, 0, 0, []), (14, .ifCond .ne 11, 3, 0, 25, []), (17, .aload_n 0, 1, 0, 0, []), (18, .getfield 13, 3, 0, 0, []), (21, .iconst 1, 1, 1, 0, []), (22, .invokevirtual 21, 3, 0, 0, [])]
theorem ok_Key_come_10 : blkOK b_Key_come pt_Key 25 I_Key_come_10 = true := by decide +kernel
def I_Key_come_25 : List IT := [(25, .aload_n 0, 1, 0, 0, []), (26, .getfield 9, 3, 0, 0, []), (29, .aload_n 0, 1, 0, 0, []), (30, .getfield 17, 3, 0, 0, []), (33, .iload_n 1, 1, 0, 0, []), (34, .iastore, 1, 0, 0, []), (35, .aload_n 0, 1, 0, 0, []), (36, .dup, 1, 0, 0, []), (37, .getfield 17, 3, 0, 0, []), (40, .iconst 1, 1, 1, 0, []), (41, .iadd, 1, 0, 0, []), (42, .putfield 17, 3, 0, 0, []), (45, .iconst 1, 1, 1, 0, []), (46, .ireturn, 1, 0, 0, [])]
theorem ok_Key_come_25 : blkOK b_Key_come pt_Key 47 I_Key_come_25 = true := by decide +kernel
def f_Key_come_25 (σ : Sg) (x1 : Int32) : Int32 × Sg := (bnd (up2 σ 10 (Int32.toNatClampNeg (σ 9 2)) x1) fun s1 => bnd (up2 s1 9 2 ((s1 9 2) + (1 : Int32))) fun s2 => ((1 : Int32), s2))
theorem z_Key_come_25 {σ : Sg} {x1 : Int32}  (hw : vp_in (σ 9 2) 4) : (f_Key_come_25 σ x1).1 = 0 ∨ (f_Key_come_25 σ x1).1 = 1 := by
  show Zb (f_Key_come_25 σ x1)
  unfold f_Key_come_25
  refine bnd_z fun s1 e1 => ?_
  refine bnd_z fun s2 e2 => ?_
  exact (Or.inr rfl)
abbrev w_Key_come_25 : List (Nat × Option Nat) := [(9, some 2), (10, none)]
theorem p_Key_come_25 {P : Sg → Prop} (hP : WP w_Key_come_25 P) {σ : Sg} {x1 : Int32} (h : P σ) : PP P (f_Key_come_25 σ x1) := by
  unfold f_Key_come_25
  refine bnd_zz (Z := P) (hP _ _ _ _ (Or.inl (by decide)) h) fun s1 e1 q1 => ?_
  refine bnd_zz (Z := P) (hP _ _ _ _ (Or.inr (by decide)) q1) fun s2 e2 q2 => ?_
  exact q2
set_option maxRecDepth 100000 in
set_option maxHeartbeats 4000000 in
theorem b_Key_come_25 {l : Launch} {ad : Nat → Nat} {D : va_G} {cI : ClassId} {K : Option Value → Sg → Prop} {X : Nat → List Value → List Value → Sg → Prop} (hX : Cl l ad D cI mi_Key_come pt_Key K X) {σ : Sg} {x1 : Int32}  (hw : vp_in (σ 9 2) 4) (hK : KI K (f_Key_come_25 σ x1)) : X 25 [.ref 9, .int x1] [] σ := by
  unfold f_Key_come_25 at hK
  refine hX.1 47 I_Key_come_25 ok_Key_come_25 _ _ _ ?_
  refine And.intro hw (SG_g hK fun s1 e1 hK => ?_)
  refine And.intro trivial (SG_g hK fun s2 e2 hK => ?_)
  exact And.intro (Or.inr rfl) hK
def f_Key_come (σ : Sg) (a1 : Int32) : Int32 × Sg := (if (σ 9 2) < (4 : Int32) then (if (σ 9 2) = (0 : Int32) then (bnd (f_Ctl_request σ (1 : Int32)) fun r3 => (f_Key_come_25 r3 a1)) else (f_Key_come_25 σ a1)) else ((0 : Int32), σ))
theorem z_Key_come {σ : Sg} {a1 : Int32}  (hw : ¬ σ 9 2 < 0) : (f_Key_come σ a1).1 = 0 ∨ (f_Key_come σ a1).1 = 1 := by
  show Zb (f_Key_come σ a1)
  unfold f_Key_come
  refine ite_z (fun h1 => ?_) (fun h1 => ?_)
  · refine ite_z (fun h2 => ?_) (fun h2 => ?_)
    · refine bnd_z fun r3 e3 => ?_
      exact z_Key_come_25  (by subst_vars; exact vin_lt (m := 4) rfl hw (by assumption))
    · exact z_Key_come_25  (by subst_vars; exact vin_lt (m := 4) rfl hw (by assumption))
  · exact (Or.inl rfl)
abbrev w_Key_come : List (Nat × Option Nat) := [(7, some 0), (9, some 2), (10, none)]
theorem p_Key_come {P : Sg → Prop} (hP : WP w_Key_come P) {σ : Sg} {a1 : Int32} (h : P σ) : PP P (f_Key_come σ a1) := by
  unfold f_Key_come
  refine ite_z (fun _ => ?_) (fun _ => ?_)
  · refine ite_z (fun _ => ?_) (fun _ => ?_)
    · refine bnd_zz (Z := P) (p_Ctl_request (wsub hP rfl) h) fun r3 e3 q3 => ?_
      exact p_Key_come_25 (wsub hP rfl) q3
    · exact p_Key_come_25 (wsub hP rfl) h
  · exact h
set_option maxRecDepth 100000 in
set_option maxHeartbeats 4000000 in
theorem s_Key_come {l : Launch} {ad : Nat → Nat} {D : va_G} {cI : ClassId} {σ : Sg} {a1 : Int32} {K : Option Value → Sg → Prop}  (hw : ¬ σ 9 2 < 0) (hK : KI K (f_Key_come σ a1)) : MetJ l ad D cI mi_Key_come [.ref 9, .int a1] σ K := by
  refine met_of mi_Key_come pt_Key pt_Key_in rfl pl_Key rfl (Nat.le_of_ble_eq_true rfl) fun X hX => ?_
  have hX : Cl l ad D cI mi_Key_come pt_Key K X := hX
  show X 0 [.ref 9, .int a1] [] σ
  unfold f_Key_come at hK
  refine hX.1 10 I_Key_come_0 ok_Key_come_0 _ _ _ ?_
  refine And.intro (fun h1 => ?_) (fun h1 => ?_)
  · have hK := ite_p hK h1
    refine hX.1 25 I_Key_come_10 ok_Key_come_10 _ _ _ ?_
    refine And.intro (fun h2 => ?_) (fun h2 => ?_)
    · have hK := ite_p hK h2
      refine s_Ctl_request (bnd_g hK fun r3 e3 hK => ?_)
      exact b_Key_come_25 hX (by subst_vars; exact vin_lt (m := 4) rfl hw (by assumption)) hK
    · have hK := ite_n hK h2
      exact b_Key_come_25 hX (by subst_vars; exact vin_lt (m := 4) rfl hw (by assumption)) hK
  · have hK := ite_n hK h1
    exact And.intro (Or.inl rfl) hK
def I_Key_take_0 : List IT := [(0, .aload_n 0, 1, 0, 0, []), (1, .getfield 17, 3, 0, 0, []), (4, .ifCond .ne 5, 3, 0, 9, []), (7, .iconst 0, 1, 0, 0, []), (8, .ireturn, 1, 0, 0, [])]
theorem ok_Key_take_0 : blkOK b_Key_take pt_Key 9 I_Key_take_0 = true := by decide +kernel
def I_Key_take_9 : List IT := [(9, .aload_n 0, 1, 0, 0, []), (10, .getfield 9, 3, 0, 0, []), (13, .iconst 0, 1, 0, 0, []), (14, .iaload, 1, 0, 0, []), (15, .istore_n 1, 1, 0, 0, []), (16, .iconst 1, 1, 1, 0, []), (17, .istore_n 2, 1, 0, 0, [])]
theorem ok_Key_take_9 : blkOK b_Key_take pt_Key 18 I_Key_take_9 = true := by decide +kernel
def I_Key_take_18 : List IT := [(18, .iload_n 2, 1, 0, 0, []), (19, .iconst 4, 1, 4, 0, []), (20, .if_icmp .ge 23, 3, 0, 43, []), (23, .aload_n 0, 1, 0, 0, []), (24, .getfield 9, 3, 0, 0, []), (27, .iload_n 2, 1, 0, 0, []), (28, .iconst 1, 1, 1, 0, []), (29, .isub, 1, 0, 0, []), (30, .aload_n 0, 1, 0, 0, []), (31, .getfield 9, 3, 0, 0, []), (34, .iload_n 2, 1, 0, 0, []), (35, .iaload, 1, 0, 0, []), (36, .iastore, 1, 0, 0, []), (37, .iinc 2 1, 3, 1, 0, []), (40, .goto (-22), 3, 0, 18, [])]
theorem ok_Key_take_18 : blkOK b_Key_take pt_Key 43 I_Key_take_18 = true := by decide +kernel
def I_Key_take_43 : List IT := [(43, .aload_n 0, 1, 0, 0, []), (44, .dup, 1, 0, 0, []), (45, .getfield 17, 3, 0, 0, []), (48, .iconst 1, 1, 1, 0, []), (49, .isub, 1, 0, 0, []), (50, .putfield 17, 3, 0, 0, []), (53, .aload_n 0, 1, 0, 0, []), (54, .getfield 17, 3, 0, 0, []), (57, .ifCond .le 11, 3, 0, 68, []), (60, .aload_n 0, 1, 0, 0, []), (61, .getfield 13, 3, 0, 0, []), (64, .iconst 1, 1, 1, 0, []), (65, .invokevirtual 21, 3, 0, 0, [])]
theorem ok_Key_take_43 : blkOK b_Key_take pt_Key 68 I_Key_take_43 = true := by decide +kernel
def I_Key_take_68 : List IT := [(68, .iload_n 1, 1, 0, 0, []), (69, .ireturn, 1, 0, 0, [])]
theorem ok_Key_take_68 : blkOK b_Key_take pt_Key 70 I_Key_take_68 = true := by decide +kernel
def f_Key_take_18_c4 (σ : Sg) (x1 : Int32) : Int32 × Sg := (bnd (up2 σ 9 2 ((σ 9 2) - (1 : Int32))) fun s1 => (if (s1 9 2) ≤ (0 : Int32) then (x1, s1) else (bnd (f_Ctl_request s1 (1 : Int32)) fun r3 => (x1, r3))))
abbrev w_Key_take_18_c4 : List (Nat × Option Nat) := [(7, some 0), (9, some 2)]
theorem p_Key_take_18_c4 {P : Sg → Prop} (hP : WP w_Key_take_18_c4 P) {σ : Sg} {x1 : Int32} (h : P σ) : PP P (f_Key_take_18_c4 σ x1) := by
  unfold f_Key_take_18_c4
  refine bnd_zz (Z := P) (hP _ _ _ _ (Or.inr (by decide)) h) fun s1 e1 q1 => ?_
  refine ite_z (fun _ => ?_) (fun _ => ?_)
  · exact q1
  · refine bnd_zz (Z := P) (p_Ctl_request (wsub hP rfl) q1) fun r3 e3 q3 => ?_
    exact q3
set_option maxRecDepth 100000 in
set_option maxHeartbeats 4000000 in
theorem b_Key_take_18_c4 {l : Launch} {ad : Nat → Nat} {D : va_G} {cI : ClassId} {K : Option Value → Sg → Prop} {X : Nat → List Value → List Value → Sg → Prop} (hX : Cl l ad D cI mi_Key_take pt_Key K X) {σ : Sg} {x1 : Int32}   (hK : KI K (f_Key_take_18_c4 σ x1)) : X 18 [.ref 9, .int x1, .int ((((1 : Int32) + (1 : Int32)) + (1 : Int32)) + (1 : Int32))] [] σ := by
  unfold f_Key_take_18_c4 at hK
  refine hX.1 43 I_Key_take_18 ok_Key_take_18 _ _ _ ?_
  refine And.intro (fun _ => ?_) (fun h => absurd (by decide) h)
  refine hX.1 68 I_Key_take_43 ok_Key_take_43 _ _ _ ?_
  refine And.intro trivial (SG_g hK fun s1 e1 hK => ?_)
  refine And.intro (fun h2 => ?_) (fun h2 => ?_)
  · have hK := ite_p hK h2
    refine hX.1 70 I_Key_take_68 ok_Key_take_68 _ _ _ ?_
    exact hK
  · have hK := ite_n hK h2
    refine s_Ctl_request (bnd_g hK fun r3 e3 hK => ?_)
    refine hX.1 70 I_Key_take_68 ok_Key_take_68 _ _ _ ?_
    exact hK
def f_Key_take_18_c3 (σ : Sg) (x1 : Int32) : Int32 × Sg := (bnd (up2 σ 10 (Int32.toNatClampNeg ((((1 : Int32) + (1 : Int32)) + (1 : Int32)) - (1 : Int32))) (σ 10 (Int32.toNatClampNeg (((1 : Int32) + (1 : Int32)) + (1 : Int32))))) fun s1 => (f_Key_take_18_c4 s1 x1))
abbrev w_Key_take_18_c3 : List (Nat × Option Nat) := [(7, some 0), (9, some 2), (10, none)]
theorem p_Key_take_18_c3 {P : Sg → Prop} (hP : WP w_Key_take_18_c3 P) {σ : Sg} {x1 : Int32} (h : P σ) : PP P (f_Key_take_18_c3 σ x1) := by
  unfold f_Key_take_18_c3
  refine bnd_zz (Z := P) (hP _ _ _ _ (Or.inl (by decide)) h) fun s1 e1 q1 => ?_
  exact p_Key_take_18_c4 (wsub hP rfl) q1
set_option maxRecDepth 100000 in
set_option maxHeartbeats 4000000 in
theorem b_Key_take_18_c3 {l : Launch} {ad : Nat → Nat} {D : va_G} {cI : ClassId} {K : Option Value → Sg → Prop} {X : Nat → List Value → List Value → Sg → Prop} (hX : Cl l ad D cI mi_Key_take pt_Key K X) {σ : Sg} {x1 : Int32}   (hK : KI K (f_Key_take_18_c3 σ x1)) : X 18 [.ref 9, .int x1, .int (((1 : Int32) + (1 : Int32)) + (1 : Int32))] [] σ := by
  unfold f_Key_take_18_c3 at hK
  refine hX.1 43 I_Key_take_18 ok_Key_take_18 _ _ _ ?_
  refine And.intro (fun h => absurd h (by decide)) (fun _ => ?_)
  refine And.intro (vin (by decide)) ?_
  refine And.intro (vin (by decide)) (SG_g hK fun s1 e1 hK => ?_)
  exact b_Key_take_18_c4 hX  hK
def f_Key_take_18_c2 (σ : Sg) (x1 : Int32) : Int32 × Sg := (bnd (up2 σ 10 (Int32.toNatClampNeg (((1 : Int32) + (1 : Int32)) - (1 : Int32))) (σ 10 (Int32.toNatClampNeg ((1 : Int32) + (1 : Int32))))) fun s1 => (f_Key_take_18_c3 s1 x1))
abbrev w_Key_take_18_c2 : List (Nat × Option Nat) := [(7, some 0), (9, some 2), (10, none)]
theorem p_Key_take_18_c2 {P : Sg → Prop} (hP : WP w_Key_take_18_c2 P) {σ : Sg} {x1 : Int32} (h : P σ) : PP P (f_Key_take_18_c2 σ x1) := by
  unfold f_Key_take_18_c2
  refine bnd_zz (Z := P) (hP _ _ _ _ (Or.inl (by decide)) h) fun s1 e1 q1 => ?_
  exact p_Key_take_18_c3 (wsub hP rfl) q1
set_option maxRecDepth 100000 in
set_option maxHeartbeats 4000000 in
theorem b_Key_take_18_c2 {l : Launch} {ad : Nat → Nat} {D : va_G} {cI : ClassId} {K : Option Value → Sg → Prop} {X : Nat → List Value → List Value → Sg → Prop} (hX : Cl l ad D cI mi_Key_take pt_Key K X) {σ : Sg} {x1 : Int32}   (hK : KI K (f_Key_take_18_c2 σ x1)) : X 18 [.ref 9, .int x1, .int ((1 : Int32) + (1 : Int32))] [] σ := by
  unfold f_Key_take_18_c2 at hK
  refine hX.1 43 I_Key_take_18 ok_Key_take_18 _ _ _ ?_
  refine And.intro (fun h => absurd h (by decide)) (fun _ => ?_)
  refine And.intro (vin (by decide)) ?_
  refine And.intro (vin (by decide)) (SG_g hK fun s1 e1 hK => ?_)
  exact b_Key_take_18_c3 hX  hK
def f_Key_take_18_c1 (σ : Sg) (x1 : Int32) : Int32 × Sg := (bnd (up2 σ 10 (Int32.toNatClampNeg ((1 : Int32) - (1 : Int32))) (σ 10 (Int32.toNatClampNeg (1 : Int32)))) fun s1 => (f_Key_take_18_c2 s1 x1))
abbrev w_Key_take_18_c1 : List (Nat × Option Nat) := [(7, some 0), (9, some 2), (10, none)]
theorem p_Key_take_18_c1 {P : Sg → Prop} (hP : WP w_Key_take_18_c1 P) {σ : Sg} {x1 : Int32} (h : P σ) : PP P (f_Key_take_18_c1 σ x1) := by
  unfold f_Key_take_18_c1
  refine bnd_zz (Z := P) (hP _ _ _ _ (Or.inl (by decide)) h) fun s1 e1 q1 => ?_
  exact p_Key_take_18_c2 (wsub hP rfl) q1
set_option maxRecDepth 100000 in
set_option maxHeartbeats 4000000 in
theorem b_Key_take_18_c1 {l : Launch} {ad : Nat → Nat} {D : va_G} {cI : ClassId} {K : Option Value → Sg → Prop} {X : Nat → List Value → List Value → Sg → Prop} (hX : Cl l ad D cI mi_Key_take pt_Key K X) {σ : Sg} {x1 : Int32}   (hK : KI K (f_Key_take_18_c1 σ x1)) : X 18 [.ref 9, .int x1, .int (1 : Int32)] [] σ := by
  unfold f_Key_take_18_c1 at hK
  refine hX.1 43 I_Key_take_18 ok_Key_take_18 _ _ _ ?_
  refine And.intro (fun h => absurd h (by decide)) (fun _ => ?_)
  refine And.intro (vin (by decide)) ?_
  refine And.intro (vin (by decide)) (SG_g hK fun s1 e1 hK => ?_)
  exact b_Key_take_18_c2 hX  hK
def f_Key_take (σ : Sg)  : Int32 × Sg := (if (σ 9 2) = (0 : Int32) then ((0 : Int32), σ) else (f_Key_take_18_c1 σ (σ 10 (Int32.toNatClampNeg (0 : Int32)))))
abbrev w_Key_take : List (Nat × Option Nat) := [(7, some 0), (9, some 2), (10, none)]
theorem p_Key_take {P : Sg → Prop} (hP : WP w_Key_take P) {σ : Sg}  (h : P σ) : PP P (f_Key_take σ ) := by
  unfold f_Key_take
  refine ite_z (fun _ => ?_) (fun _ => ?_)
  · exact h
  · exact p_Key_take_18_c1 (wsub hP rfl) h
set_option maxRecDepth 100000 in
set_option maxHeartbeats 4000000 in
theorem s_Key_take {l : Launch} {ad : Nat → Nat} {D : va_G} {cI : ClassId} {σ : Sg}  {K : Option Value → Sg → Prop}   (hK : KI K (f_Key_take σ )) : MetJ l ad D cI mi_Key_take [.ref 9] σ K := by
  refine met_of mi_Key_take pt_Key pt_Key_in rfl pl_Key rfl (Nat.le_of_ble_eq_true rfl) fun X hX => ?_
  have hX : Cl l ad D cI mi_Key_take pt_Key K X := hX
  show X 0 [.ref 9, .null, .null] [] σ
  unfold f_Key_take at hK
  refine hX.1 9 I_Key_take_0 ok_Key_take_0 _ _ _ ?_
  refine And.intro (fun h1 => ?_) (fun h1 => ?_)
  · have hK := ite_p hK h1
    exact hK
  · have hK := ite_n hK h1
    refine hX.1 18 I_Key_take_9 ok_Key_take_9 _ _ _ ?_
    refine And.intro (vin (by decide)) ?_
    exact b_Key_take_18_c1 hX  hK
def I_Key_answerWaiting_0 : List IT := [(0, .aload_n 0, 1, 0, 0, []), (1, .getfield 17, 3, 0, 0, []), (4, .ifCond .le 7, 3, 0, 11, []), (7, .iconst 1, 1, 1, 0, []), (8, .goto 4, 3, 0, 12, [])]
theorem ok_Key_answerWaiting_0 : blkOK b_Key_answerWaiting pt_Key 11 I_Key_answerWaiting_0 = true := by decide +kernel
def I_Key_answerWaiting_11 : List IT := [(11, .iconst 0, 1, 0, 0, [])]
theorem ok_Key_answerWaiting_11 : blkOK b_Key_answerWaiting pt_Key 12 I_Key_answerWaiting_11 = true := by decide +kernel
def I_Key_answerWaiting_12 : List IT := [(12, .ireturn, 1, 0, 0, [])]
theorem ok_Key_answerWaiting_12 : blkOK b_Key_answerWaiting pt_Key 13 I_Key_answerWaiting_12 = true := by decide +kernel
def f_Key_answerWaiting (σ : Sg)  : Int32 × Sg := (if (σ 9 2) ≤ (0 : Int32) then ((0 : Int32), σ) else ((1 : Int32), σ))
abbrev w_Key_answerWaiting : List (Nat × Option Nat) := []
theorem p_Key_answerWaiting {P : Sg → Prop} (hP : WP w_Key_answerWaiting P) {σ : Sg}  (h : P σ) : PP P (f_Key_answerWaiting σ ) := by
  unfold f_Key_answerWaiting
  refine ite_z (fun _ => ?_) (fun _ => ?_)
  · exact h
  · exact h
set_option maxRecDepth 100000 in
set_option maxHeartbeats 4000000 in
theorem s_Key_answerWaiting {l : Launch} {ad : Nat → Nat} {D : va_G} {cI : ClassId} {σ : Sg}  {K : Option Value → Sg → Prop}   (hK : KI K (f_Key_answerWaiting σ )) : MetJ l ad D cI mi_Key_answerWaiting [.ref 9] σ K := by
  refine met_of mi_Key_answerWaiting pt_Key pt_Key_in rfl pl_Key rfl (Nat.le_of_ble_eq_true rfl) fun X hX => ?_
  have hX : Cl l ad D cI mi_Key_answerWaiting pt_Key K X := hX
  show X 0 [.ref 9] [] σ
  unfold f_Key_answerWaiting at hK
  refine hX.1 11 I_Key_answerWaiting_0 ok_Key_answerWaiting_0 _ _ _ ?_
  refine And.intro (fun h1 => ?_) (fun h1 => ?_)
  · have hK := ite_p hK h1
    refine hX.1 12 I_Key_answerWaiting_11 ok_Key_answerWaiting_11 _ _ _ ?_
    refine hX.1 13 I_Key_answerWaiting_12 ok_Key_answerWaiting_12 _ _ _ ?_
    exact hK
  · have hK := ite_n hK h1
    refine hX.1 13 I_Key_answerWaiting_12 ok_Key_answerWaiting_12 _ _ _ ?_
    exact hK
def I_Cha_getPlace_0 : List IT := [(0, .aload_n 0, 1, 0, 0, []), (1, .getfield 17, 3, 0, 0, []), (4, .ifCond .ne 8, 3, 0, 12, []), (7, .aload_n 0, 1, 0, 0, []), (8, .iload_n 1, 1, 0, 0, []), (9, .putfield 21, 3, 0, 0, [])]
theorem ok_Cha_getPlace_0 : blkOK b_Cha_getPlace pt_Cha 12 I_Cha_getPlace_0 = true := by decide +kernel
def I_Cha_getPlace_12 : List IT := [(12, .aload_n 0, 1, 0, 0, []), (13, .aload_n 0, 1, 0, 0, []), (14, .getfield 17, 3, 0, 0, []), (17, .ifCond .ne 7, 3, 0, 24, []), (20, .iconst 1, 1, 1, 0, []), (21, .goto 4, 3, 0, 25, [])]
theorem ok_Cha_getPlace_12 : blkOK b_Cha_getPlace pt_Cha 24 I_Cha_getPlace_12 = true := by decide +kernel
def I_Cha_getPlace_24 : List IT := [(24, .iconst 0, 1, 0, 0, [])]
theorem ok_Cha_getPlace_24 : blkOK b_Cha_getPlace pt_Cha 25 I_Cha_getPlace_24 = true := by decide +kernel
def I_Cha_getPlace_25 : List IT := [(25, .putfield 17, 3, 0, 0, []), (28, .return_, 1, 0, 0, [])]
theorem ok_Cha_getPlace_25 : blkOK b_Cha_getPlace pt_Cha 29 I_Cha_getPlace_25 = true := by decide +kernel
def f_Cha_getPlace_12 (σ : Sg)  : Sg := (if (σ 11 7) = (0 : Int32) then (bnd (up2 σ 11 7 (1 : Int32)) fun s2 => s2) else (bnd (up2 σ 11 7 (0 : Int32)) fun s3 => s3))
abbrev w_Cha_getPlace_12 : List (Nat × Option Nat) := [(11, some 7)]
theorem p_Cha_getPlace_12 {P : Sg → Prop} (hP : WP w_Cha_getPlace_12 P) {σ : Sg}  (h : P σ) : P (f_Cha_getPlace_12 σ ) := by
  unfold f_Cha_getPlace_12
  refine ite_z (fun _ => ?_) (fun _ => ?_)
  · refine bnd_zz (Z := P) (hP _ _ _ _ (Or.inr (by decide)) h) fun s2 e2 q2 => ?_
    exact q2
  · refine bnd_zz (Z := P) (hP _ _ _ _ (Or.inr (by decide)) h) fun s3 e3 q3 => ?_
    exact q3
set_option maxRecDepth 100000 in
set_option maxHeartbeats 4000000 in
theorem b_Cha_getPlace_12 {l : Launch} {ad : Nat → Nat} {D : va_G} {cI : ClassId} {K : Option Value → Sg → Prop} {X : Nat → List Value → List Value → Sg → Prop} (hX : Cl l ad D cI mi_Cha_getPlace pt_Cha K X) {σ : Sg}    (hK : KV K (f_Cha_getPlace_12 σ )) : X 12 [.ref 11, .null] [] σ := by
  unfold f_Cha_getPlace_12 at hK
  refine hX.1 24 I_Cha_getPlace_12 ok_Cha_getPlace_12 _ _ _ ?_
  refine And.intro (fun h1 => ?_) (fun h1 => ?_)
  · have hK := ite_p hK h1
    refine hX.1 29 I_Cha_getPlace_25 ok_Cha_getPlace_25 _ _ _ ?_
    refine And.intro (Or.inr rfl) (SG_g hK fun s2 e2 hK => ?_)
    exact hK
  · have hK := ite_n hK h1
    refine hX.1 25 I_Cha_getPlace_24 ok_Cha_getPlace_24 _ _ _ ?_
    refine hX.1 29 I_Cha_getPlace_25 ok_Cha_getPlace_25 _ _ _ ?_
    refine And.intro (Or.inl rfl) (SG_g hK fun s3 e3 hK => ?_)
    exact hK
def f_Cha_getPlace (σ : Sg) (a1 : Int32) : Sg := (if (σ 11 7) = (0 : Int32) then (bnd (up2 σ 11 2 a1) fun s2 => (f_Cha_getPlace_12 s2)) else (f_Cha_getPlace_12 σ))
abbrev w_Cha_getPlace : List (Nat × Option Nat) := [(11, some 2), (11, some 7)]
theorem p_Cha_getPlace {P : Sg → Prop} (hP : WP w_Cha_getPlace P) {σ : Sg} {a1 : Int32} (h : P σ) : P (f_Cha_getPlace σ a1) := by
  unfold f_Cha_getPlace
  refine ite_z (fun _ => ?_) (fun _ => ?_)
  · refine bnd_zz (Z := P) (hP _ _ _ _ (Or.inr (by decide)) h) fun s2 e2 q2 => ?_
    exact p_Cha_getPlace_12 (wsub hP rfl) q2
  · exact p_Cha_getPlace_12 (wsub hP rfl) h
set_option maxRecDepth 100000 in
set_option maxHeartbeats 4000000 in
theorem s_Cha_getPlace {l : Launch} {ad : Nat → Nat} {D : va_G} {cI : ClassId} {σ : Sg} {a1 : Int32} {K : Option Value → Sg → Prop}   (hK : KV K (f_Cha_getPlace σ a1)) : MetJ l ad D cI mi_Cha_getPlace [.ref 11, .int a1] σ K := by
  refine met_of mi_Cha_getPlace pt_Cha pt_Cha_in rfl pl_Cha rfl (Nat.le_of_ble_eq_true rfl) fun X hX => ?_
  have hX : Cl l ad D cI mi_Cha_getPlace pt_Cha K X := hX
  show X 0 [.ref 11, .int a1] [] σ
  unfold f_Cha_getPlace at hK
  refine hX.1 12 I_Cha_getPlace_0 ok_Cha_getPlace_0 _ _ _ ?_
  refine And.intro (fun h1 => ?_) (fun h1 => ?_)
  · have hK := ite_p hK h1
    refine And.intro trivial (SG_g hK fun s2 e2 hK => ?_)
    refine hX.fg [1] ?_
    exact b_Cha_getPlace_12 hX  hK
  · have hK := ite_n hK h1
    refine hX.fg [1] ?_
    exact b_Cha_getPlace_12 hX  hK
def I_Cha_getLeft_0 : List IT := [(0, .aload_n 0, 1, 0, 0, []), (1, .aload_n 0, 1, 0, 0, []), (2, .getfield 17, 3, 0, 0, []), (5, .ifCond .eq 19, 3, 0, 24, []), (8, .aload_n 0, 1, 0, 0, []), (9, .getfield 25, 3, 0, 0, []), (12, .sipush 255, 3, 255, 0, []), (15, .iand, 1, 0, 0, []), (16, .iload_n 1, 1, 0, 0, []), (17, .bipush 8, 2, 8, 0, []), (19, .ishl, 1, 0, 0, []), (20, .ior, 1, 0, 0, []), (21, .goto 12, 3, 0, 33, [])]
theorem ok_Cha_getLeft_0 : blkOK b_Cha_getLeft pt_Cha 24 I_Cha_getLeft_0 = true := by decide +kernel
def I_Cha_getLeft_24 : List IT := [(24, .aload_n 0, 1, 0, 0, []), (25, .getfield 25, 3, 0, 0, []), (28, .ldc 28, 2, 65280, 0, []), (30, .iand, 1, 0, 0, []), (31, .iload_n 1, 1, 0, 0, []), (32, .ior, 1, 0, 0, [])]
theorem ok_Cha_getLeft_24 : blkOK b_Cha_getLeft pt_Cha 33 I_Cha_getLeft_24 = true := by decide +kernel
def I_Cha_getLeft_33 : List IT := [(33, .putfield 25, 3, 0, 0, []), (36, .aload_n 0, 1, 0, 0, []), (37, .aload_n 0, 1, 0, 0, []), (38, .getfield 17, 3, 0, 0, []), (41, .ifCond .ne 7, 3, 0, 48, []), (44, .iconst 1, 1, 1, 0, []), (45, .goto 4, 3, 0, 49, [])]
theorem ok_Cha_getLeft_33 : blkOK b_Cha_getLeft pt_Cha 48 I_Cha_getLeft_33 = true := by decide +kernel
def I_Cha_getLeft_48 : List IT := [(48, .iconst 0, 1, 0, 0, [])]
theorem ok_Cha_getLeft_48 : blkOK b_Cha_getLeft pt_Cha 49 I_Cha_getLeft_48 = true := by decide +kernel
def I_Cha_getLeft_49 : List IT := [(49, .putfield 17, 3, 0, 0, []), (52, .return_, 1, 0, 0, [])]
theorem ok_Cha_getLeft_49 : blkOK b_Cha_getLeft pt_Cha 53 I_Cha_getLeft_49 = true := by decide +kernel
def f_Cha_getLeft_33 (σ : Sg) (y0 : Int32) : Sg := (bnd (up2 σ 11 3 y0) fun s1 => (if (s1 11 7) = (0 : Int32) then (bnd (up2 s1 11 7 (1 : Int32)) fun s3 => s3) else (bnd (up2 s1 11 7 (0 : Int32)) fun s4 => s4)))
abbrev w_Cha_getLeft_33 : List (Nat × Option Nat) := [(11, some 3), (11, some 7)]
theorem p_Cha_getLeft_33 {P : Sg → Prop} (hP : WP w_Cha_getLeft_33 P) {σ : Sg} {y0 : Int32} (h : P σ) : P (f_Cha_getLeft_33 σ y0) := by
  unfold f_Cha_getLeft_33
  refine bnd_zz (Z := P) (hP _ _ _ _ (Or.inr (by decide)) h) fun s1 e1 q1 => ?_
  refine ite_z (fun _ => ?_) (fun _ => ?_)
  · refine bnd_zz (Z := P) (hP _ _ _ _ (Or.inr (by decide)) q1) fun s3 e3 q3 => ?_
    exact q3
  · refine bnd_zz (Z := P) (hP _ _ _ _ (Or.inr (by decide)) q1) fun s4 e4 q4 => ?_
    exact q4
set_option maxRecDepth 100000 in
set_option maxHeartbeats 4000000 in
theorem b_Cha_getLeft_33 {l : Launch} {ad : Nat → Nat} {D : va_G} {cI : ClassId} {K : Option Value → Sg → Prop} {X : Nat → List Value → List Value → Sg → Prop} (hX : Cl l ad D cI mi_Cha_getLeft pt_Cha K X) {σ : Sg} {y0 : Int32}   (hK : KV K (f_Cha_getLeft_33 σ y0)) : X 33 [.ref 11, .null] [.int y0, .ref 11] σ := by
  unfold f_Cha_getLeft_33 at hK
  refine hX.1 48 I_Cha_getLeft_33 ok_Cha_getLeft_33 _ _ _ ?_
  refine And.intro trivial (SG_g hK fun s1 e1 hK => ?_)
  refine And.intro (fun h2 => ?_) (fun h2 => ?_)
  · have hK := ite_p hK h2
    refine hX.1 53 I_Cha_getLeft_49 ok_Cha_getLeft_49 _ _ _ ?_
    refine And.intro (Or.inr rfl) (SG_g hK fun s3 e3 hK => ?_)
    exact hK
  · have hK := ite_n hK h2
    refine hX.1 49 I_Cha_getLeft_48 ok_Cha_getLeft_48 _ _ _ ?_
    refine hX.1 53 I_Cha_getLeft_49 ok_Cha_getLeft_49 _ _ _ ?_
    refine And.intro (Or.inl rfl) (SG_g hK fun s4 e4 hK => ?_)
    exact hK
def f_Cha_getLeft (σ : Sg) (a1 : Int32) : Sg := (if (σ 11 7) = (0 : Int32) then (f_Cha_getLeft_33 σ (((σ 11 3) &&& (65280 : Int32)) ||| a1)) else (f_Cha_getLeft_33 σ (((σ 11 3) &&& (255 : Int32)) ||| (a1 <<< ((8 : Int32) &&& 31 : Int32)))))
abbrev w_Cha_getLeft : List (Nat × Option Nat) := [(11, some 3), (11, some 7)]
theorem p_Cha_getLeft {P : Sg → Prop} (hP : WP w_Cha_getLeft P) {σ : Sg} {a1 : Int32} (h : P σ) : P (f_Cha_getLeft σ a1) := by
  unfold f_Cha_getLeft
  refine ite_z (fun _ => ?_) (fun _ => ?_)
  · exact p_Cha_getLeft_33 (wsub hP rfl) h
  · exact p_Cha_getLeft_33 (wsub hP rfl) h
set_option maxRecDepth 100000 in
set_option maxHeartbeats 4000000 in
theorem s_Cha_getLeft {l : Launch} {ad : Nat → Nat} {D : va_G} {cI : ClassId} {σ : Sg} {a1 : Int32} {K : Option Value → Sg → Prop}   (hK : KV K (f_Cha_getLeft σ a1)) : MetJ l ad D cI mi_Cha_getLeft [.ref 11, .int a1] σ K := by
  refine met_of mi_Cha_getLeft pt_Cha pt_Cha_in rfl pl_Cha rfl (Nat.le_of_ble_eq_true rfl) fun X hX => ?_
  have hX : Cl l ad D cI mi_Cha_getLeft pt_Cha K X := hX
  show X 0 [.ref 11, .int a1] [] σ
  unfold f_Cha_getLeft at hK
  refine hX.1 24 I_Cha_getLeft_0 ok_Cha_getLeft_0 _ _ _ ?_
  refine And.intro (fun h1 => ?_) (fun h1 => ?_)
  · have hK := ite_p hK h1
    refine hX.1 33 I_Cha_getLeft_24 ok_Cha_getLeft_24 _ _ _ ?_
    refine hX.fg [1] ?_
    exact b_Cha_getLeft_33 hX  hK
  · have hK := ite_n hK h1
    refine hX.fg [1] ?_
    exact b_Cha_getLeft_33 hX  hK
def I_Cha_beginTurn_0 : List IT := [(0, .aload_n 0, 1, 0, 0, []), (1, .iconst 0, 1, 0, 0, []), (2, .putfield 17, 3, 0, 0, []), (5, .return_, 1, 0, 0, [])]
theorem ok_Cha_beginTurn_0 : blkOK b_Cha_beginTurn pt_Cha 6 I_Cha_beginTurn_0 = true := by decide +kernel
def f_Cha_beginTurn (σ : Sg)  : Sg := (bnd (up2 σ 11 7 (0 : Int32)) fun s1 => s1)
abbrev w_Cha_beginTurn : List (Nat × Option Nat) := [(11, some 7)]
theorem p_Cha_beginTurn {P : Sg → Prop} (hP : WP w_Cha_beginTurn P) {σ : Sg}  (h : P σ) : P (f_Cha_beginTurn σ ) := by
  unfold f_Cha_beginTurn
  refine bnd_zz (Z := P) (hP _ _ _ _ (Or.inr (by decide)) h) fun s1 e1 q1 => ?_
  exact q1
set_option maxRecDepth 100000 in
set_option maxHeartbeats 4000000 in
theorem s_Cha_beginTurn {l : Launch} {ad : Nat → Nat} {D : va_G} {cI : ClassId} {σ : Sg}  {K : Option Value → Sg → Prop}   (hK : KV K (f_Cha_beginTurn σ )) : MetJ l ad D cI mi_Cha_beginTurn [.ref 11] σ K := by
  refine met_of mi_Cha_beginTurn pt_Cha pt_Cha_in rfl pl_Cha rfl (Nat.le_of_ble_eq_true rfl) fun X hX => ?_
  have hX : Cl l ad D cI mi_Cha_beginTurn pt_Cha K X := hX
  show X 0 [.ref 11] [] σ
  unfold f_Cha_beginTurn at hK
  refine hX.1 6 I_Cha_beginTurn_0 ok_Cha_beginTurn_0 _ _ _ ?_
  refine And.intro (Or.inl rfl) (SG_g hK fun s1 e1 hK => ?_)
  exact hK
def I_Cha_getPage_0 : List IT := [(0, .aload_n 0, 1, 0, 0, []), (1, .iload_n 1, 1, 0, 0, []), (2, .iconst 3, 1, 3, 0, []), (3, .iand, 1, 0, 0, []), (4, .putfield 29, 3, 0, 0, []), (7, .return_, 1, 0, 0, [])]
theorem ok_Cha_getPage_0 : blkOK b_Cha_getPage pt_Cha 8 I_Cha_getPage_0 = true := by decide +kernel
def f_Cha_getPage (σ : Sg) (a1 : Int32) : Sg := (bnd (up2 σ 11 4 (a1 &&& (3 : Int32))) fun s1 => s1)
abbrev w_Cha_getPage : List (Nat × Option Nat) := [(11, some 4)]
theorem p_Cha_getPage {P : Sg → Prop} (hP : WP w_Cha_getPage P) {σ : Sg} {a1 : Int32} (h : P σ) : P (f_Cha_getPage σ a1) := by
  unfold f_Cha_getPage
  refine bnd_zz (Z := P) (hP _ _ _ _ (Or.inr (by decide)) h) fun s1 e1 q1 => ?_
  exact q1
set_option maxRecDepth 100000 in
set_option maxHeartbeats 4000000 in
theorem s_Cha_getPage {l : Launch} {ad : Nat → Nat} {D : va_G} {cI : ClassId} {σ : Sg} {a1 : Int32} {K : Option Value → Sg → Prop}   (hK : KV K (f_Cha_getPage σ a1)) : MetJ l ad D cI mi_Cha_getPage [.ref 11, .int a1] σ K := by
  refine met_of mi_Cha_getPage pt_Cha pt_Cha_in rfl pl_Cha rfl (Nat.le_of_ble_eq_true rfl) fun X hX => ?_
  have hX : Cl l ad D cI mi_Cha_getPage pt_Cha K X := hX
  show X 0 [.ref 11, .int a1] [] σ
  unfold f_Cha_getPage at hK
  refine hX.1 8 I_Cha_getPage_0 ok_Cha_getPage_0 _ _ _ ?_
  refine And.intro trivial (SG_g hK fun s1 e1 hK => ?_)
  exact hK
def I_Cha_getMask_0 : List IT := [(0, .aload_n 0, 1, 0, 0, []), (1, .iload_n 1, 1, 0, 0, []), (2, .iconst 4, 1, 4, 0, []), (3, .iand, 1, 0, 0, []), (4, .ifCond .ne 7, 3, 0, 11, []), (7, .iconst 1, 1, 1, 0, []), (8, .goto 4, 3, 0, 12, [])]
theorem ok_Cha_getMask_0 : blkOK b_Cha_getMask pt_Cha 11 I_Cha_getMask_0 = true := by decide +kernel
def I_Cha_getMask_11 : List IT := [(11, .iconst 0, 1, 0, 0, [])]
theorem ok_Cha_getMask_11 : blkOK b_Cha_getMask pt_Cha 12 I_Cha_getMask_11 = true := by decide +kernel
def I_Cha_getMask_12 : List IT := [(12, .putfield 32, 3, 0, 0, []), (15, .return_, 1, 0, 0, [])]
theorem ok_Cha_getMask_12 : blkOK b_Cha_getMask pt_Cha 16 I_Cha_getMask_12 = true := by decide +kernel
def f_Cha_getMask (σ : Sg) (a1 : Int32) : Sg := (if (a1 &&& (4 : Int32)) = (0 : Int32) then (bnd (up2 σ 11 5 (1 : Int32)) fun s2 => s2) else (bnd (up2 σ 11 5 (0 : Int32)) fun s3 => s3))
abbrev w_Cha_getMask : List (Nat × Option Nat) := [(11, some 5)]
theorem p_Cha_getMask {P : Sg → Prop} (hP : WP w_Cha_getMask P) {σ : Sg} {a1 : Int32} (h : P σ) : P (f_Cha_getMask σ a1) := by
  unfold f_Cha_getMask
  refine ite_z (fun _ => ?_) (fun _ => ?_)
  · refine bnd_zz (Z := P) (hP _ _ _ _ (Or.inr (by decide)) h) fun s2 e2 q2 => ?_
    exact q2
  · refine bnd_zz (Z := P) (hP _ _ _ _ (Or.inr (by decide)) h) fun s3 e3 q3 => ?_
    exact q3
set_option maxRecDepth 100000 in
set_option maxHeartbeats 4000000 in
theorem s_Cha_getMask {l : Launch} {ad : Nat → Nat} {D : va_G} {cI : ClassId} {σ : Sg} {a1 : Int32} {K : Option Value → Sg → Prop}   (hK : KV K (f_Cha_getMask σ a1)) : MetJ l ad D cI mi_Cha_getMask [.ref 11, .int a1] σ K := by
  refine met_of mi_Cha_getMask pt_Cha pt_Cha_in rfl pl_Cha rfl (Nat.le_of_ble_eq_true rfl) fun X hX => ?_
  have hX : Cl l ad D cI mi_Cha_getMask pt_Cha K X := hX
  show X 0 [.ref 11, .int a1] [] σ
  unfold f_Cha_getMask at hK
  refine hX.1 11 I_Cha_getMask_0 ok_Cha_getMask_0 _ _ _ ?_
  refine And.intro (fun h1 => ?_) (fun h1 => ?_)
  · have hK := ite_p hK h1
    refine hX.1 16 I_Cha_getMask_12 ok_Cha_getMask_12 _ _ _ ?_
    refine And.intro (Or.inr rfl) (SG_g hK fun s2 e2 hK => ?_)
    exact hK
  · have hK := ite_n hK h1
    refine hX.1 12 I_Cha_getMask_11 ok_Cha_getMask_11 _ _ _ ?_
    refine hX.1 16 I_Cha_getMask_12 ok_Cha_getMask_12 _ _ _ ?_
    refine And.intro (Or.inl rfl) (SG_g hK fun s3 e3 hK => ?_)
    exact hK
def I_Cha_come_0 : List IT := [(0, .aload_n 0, 1, 0, 0, []), (1, .getfield 32, 3, 0, 0, []), (4, .ifCond .ne 5, 3, 0, 9, []), (7, .iconst 0, 1, 0, 0, []), (8, .ireturn, 1, 0, 0, [])]
theorem ok_Cha_come_0 : blkOK b_Cha_come pt_Cha 9 I_Cha_come_0 = true := by decide +kernel
def I_Cha_come_9 : List IT := [(9, .aload_n 0, 1, 0, 0, []), (10, .getfield 13, 3, 0, 0, []), (13, .sipush 256, 3, 256, 0, []), (16, .aload_n 0, 1, 0, 0, []), (17, .getfield 29, 3, 0, 0, []), (20, .imul, 1, 0, 0, []), (21, .aload_n 0, 1, 0, 0, []), (22, .getfield 21, 3, 0, 0, []), (25, .iadd, 1, 0, 0, []), (26, .iload_n 1, 1, 0, 0, []), (27, .invokevirtual 35, 3, 0, 0, []), (30, .aload_n 0, 1, 0, 0, []), (31, .aload_n 0, 1, 0, 0, []), (32, .getfield 21, 3, 0, 0, []), (35, .iconst 1, 1, 1, 0, []), (36, .iadd, 1, 0, 0, []), (37, .sipush 255, 3, 255, 0, []), (40, .iand, 1, 0, 0, []), (41, .putfield 21, 3, 0, 0, []), (44, .aload_n 0, 1, 0, 0, []), (45, .getfield 25, 3, 0, 0, []), (48, .ifCond .ne 24, 3, 0, 72, []), (51, .aload_n 0, 1, 0, 0, []), (52, .iconst 0, 1, 0, 0, []), (53, .putfield 32, 3, 0, 0, []), (56, .aload_n 0, 1, 0, 0, []), (57, .iconst 1, 1, 1, 0, []), (58, .putfield 41, 3, 0, 0, []), (61, .aload_n 0, 1, 0, 0, []), (62, .getfield 7, 3, 0, 0, []), (65, .iconst 2, 1, 2, 0, []), (66, .invokevirtual 44, 3, 0, 0, []), (69, .goto 13, 3, 0, 82, [])]
theorem ok_Cha_come_9 : blkOK b_Cha_come pt_Cha 72 I_Cha_come_9 = true := by decide +kernel
def I_Cha_come_72 : List IT := [(72, .aload_n 0, 1, 0, 0, []), (73, .dup, 1, 0, 0, []), (74, .getfield 25, 3, 0, 0, []), (77, .iconst 1, 1, 1, 0, []), (78, .isub, 1, 0, 0, []), (79, .putfield 25, 3, 0, 0, [])]
theorem ok_Cha_come_72 : blkOK b_Cha_come pt_Cha 82 I_Cha_come_72 = true := by decide +kernel
def I_Cha_come_82 : List IT := [(82, .iconst 1, 1, 1, 0, []), (83, .ireturn, 1, 0, 0, [])]
theorem ok_Cha_come_82 : blkOK b_Cha_come pt_Cha 84 I_Cha_come_82 = true := by decide +kernel
def f_Cha_come (σ : Sg) (a1 : Int32) : Int32 × Sg := (if (σ 11 5) = (0 : Int32) then ((0 : Int32), σ) else (bnd (f_Mem_setByteAt σ (((256 : Int32) * (σ 11 4)) + (σ 11 2)) a1) fun r2 => bnd (up2 r2 11 2 (((r2 11 2) + (1 : Int32)) &&& (255 : Int32))) fun s3 => (if (s3 11 3) = (0 : Int32) then (bnd (up2 s3 11 5 (0 : Int32)) fun s5 => bnd (up2 s5 11 6 (1 : Int32)) fun s6 => bnd (f_Ctl_request s6 (2 : Int32)) fun r7 => ((1 : Int32), r7)) else (bnd (up2 s3 11 3 ((s3 11 3) - (1 : Int32))) fun s8 => ((1 : Int32), s8)))))
theorem z_Cha_come {σ : Sg} {a1 : Int32}   : (f_Cha_come σ a1).1 = 0 ∨ (f_Cha_come σ a1).1 = 1 := by
  show Zb (f_Cha_come σ a1)
  unfold f_Cha_come
  refine ite_z (fun h1 => ?_) (fun h1 => ?_)
  · exact (Or.inl rfl)
  · refine bnd_z fun r2 e2 => ?_
    refine bnd_z fun s3 e3 => ?_
    refine ite_z (fun h4 => ?_) (fun h4 => ?_)
    · refine bnd_z fun s5 e5 => ?_
      refine bnd_z fun s6 e6 => ?_
      refine bnd_z fun r7 e7 => ?_
      exact (Or.inr rfl)
    · refine bnd_z fun s8 e8 => ?_
      exact (Or.inr rfl)
abbrev w_Cha_come : List (Nat × Option Nat) := [(2, none), (7, some 0), (11, some 2), (11, some 3), (11, some 5), (11, some 6)]
theorem p_Cha_come {P : Sg → Prop} (hP : WP w_Cha_come P) {σ : Sg} {a1 : Int32} (h : P σ) : PP P (f_Cha_come σ a1) := by
  unfold f_Cha_come
  refine ite_z (fun _ => ?_) (fun _ => ?_)
  · exact h
  · refine bnd_zz (Z := P) (p_Mem_setByteAt (wsub hP rfl) h) fun r2 e2 q2 => ?_
    refine bnd_zz (Z := P) (hP _ _ _ _ (Or.inr (by decide)) q2) fun s3 e3 q3 => ?_
    refine ite_z (fun _ => ?_) (fun _ => ?_)
    · refine bnd_zz (Z := P) (hP _ _ _ _ (Or.inr (by decide)) q3) fun s5 e5 q5 => ?_
      refine bnd_zz (Z := P) (hP _ _ _ _ (Or.inr (by decide)) q5) fun s6 e6 q6 => ?_
      refine bnd_zz (Z := P) (p_Ctl_request (wsub hP rfl) q6) fun r7 e7 q7 => ?_
      exact q7
    · refine bnd_zz (Z := P) (hP _ _ _ _ (Or.inr (by decide)) q3) fun s8 e8 q8 => ?_
      exact q8
set_option maxRecDepth 100000 in
set_option maxHeartbeats 4000000 in
theorem s_Cha_come {l : Launch} {ad : Nat → Nat} {D : va_G} {cI : ClassId} {σ : Sg} {a1 : Int32} {K : Option Value → Sg → Prop}   (hK : KI K (f_Cha_come σ a1)) : MetJ l ad D cI mi_Cha_come [.ref 11, .int a1] σ K := by
  refine met_of mi_Cha_come pt_Cha pt_Cha_in rfl pl_Cha rfl (Nat.le_of_ble_eq_true rfl) fun X hX => ?_
  have hX : Cl l ad D cI mi_Cha_come pt_Cha K X := hX
  show X 0 [.ref 11, .int a1] [] σ
  unfold f_Cha_come at hK
  refine hX.1 9 I_Cha_come_0 ok_Cha_come_0 _ _ _ ?_
  refine And.intro (fun h1 => ?_) (fun h1 => ?_)
  · have hK := ite_p hK h1
    exact And.intro (Or.inl rfl) hK
  · have hK := ite_n hK h1
    refine hX.1 72 I_Cha_come_9 ok_Cha_come_9 _ _ _ ?_
    refine s_Mem_setByteAt (bnd_g hK fun r2 e2 hK => ?_)
    refine And.intro trivial (SG_g hK fun s3 e3 hK => ?_)
    refine And.intro (fun h4 => ?_) (fun h4 => ?_)
    · have hK := ite_p hK h4
      refine And.intro (Or.inl rfl) (SG_g hK fun s5 e5 hK => ?_)
      refine And.intro (Or.inr rfl) (SG_g hK fun s6 e6 hK => ?_)
      refine s_Ctl_request (bnd_g hK fun r7 e7 hK => ?_)
      refine hX.1 84 I_Cha_come_82 ok_Cha_come_82 _ _ _ ?_
      exact And.intro (Or.inr rfl) hK
    · have hK := ite_n hK h4
      refine hX.1 82 I_Cha_come_72 ok_Cha_come_72 _ _ _ ?_
      refine And.intro trivial (SG_g hK fun s8 e8 hK => ?_)
      refine hX.1 84 I_Cha_come_82 ok_Cha_come_82 _ _ _ ?_
      exact And.intro (Or.inr rfl) hK
def I_Cha_answerDone_0 : List IT := [(0, .aload_n 0, 1, 0, 0, []), (1, .getfield 41, 3, 0, 0, []), (4, .ifCond .eq 7, 3, 0, 11, []), (7, .iconst 2, 1, 2, 0, []), (8, .goto 4, 3, 0, 12, [])]
theorem ok_Cha_answerDone_0 : blkOK b_Cha_answerDone pt_Cha 11 I_Cha_answerDone_0 = true := by decide +kernel
def I_Cha_answerDone_11 : List IT := [(11, .iconst 0, 1, 0, 0, [])]
theorem ok_Cha_answerDone_11 : blkOK b_Cha_answerDone pt_Cha 12 I_Cha_answerDone_11 = true := by decide +kernel
def I_Cha_answerDone_12 : List IT := [(12, .istore_n 1, 1, 0, 0, []), (13, .aload_n 0, 1, 0, 0, []), (14, .iconst 0, 1, 0, 0, []), (15, .putfield 41, 3, 0, 0, []), (18, .iload_n 1, 1, 0, 0, []), (19, .ireturn, 1, 0, 0, [])]
theorem ok_Cha_answerDone_12 : blkOK b_Cha_answerDone pt_Cha 20 I_Cha_answerDone_12 = true := by decide +kernel
def f_Cha_answerDone (σ : Sg)  : Int32 × Sg := (if (σ 11 6) = (0 : Int32) then (bnd (up2 σ 11 6 (0 : Int32)) fun s2 => ((0 : Int32), s2)) else (bnd (up2 σ 11 6 (0 : Int32)) fun s3 => ((2 : Int32), s3)))
abbrev w_Cha_answerDone : List (Nat × Option Nat) := [(11, some 6)]
theorem p_Cha_answerDone {P : Sg → Prop} (hP : WP w_Cha_answerDone P) {σ : Sg}  (h : P σ) : PP P (f_Cha_answerDone σ ) := by
  unfold f_Cha_answerDone
  refine ite_z (fun _ => ?_) (fun _ => ?_)
  · refine bnd_zz (Z := P) (hP _ _ _ _ (Or.inr (by decide)) h) fun s2 e2 q2 => ?_
    exact q2
  · refine bnd_zz (Z := P) (hP _ _ _ _ (Or.inr (by decide)) h) fun s3 e3 q3 => ?_
    exact q3
set_option maxRecDepth 100000 in
set_option maxHeartbeats 4000000 in
theorem s_Cha_answerDone {l : Launch} {ad : Nat → Nat} {D : va_G} {cI : ClassId} {σ : Sg}  {K : Option Value → Sg → Prop}   (hK : KI K (f_Cha_answerDone σ )) : MetJ l ad D cI mi_Cha_answerDone [.ref 11] σ K := by
  refine met_of mi_Cha_answerDone pt_Cha pt_Cha_in rfl pl_Cha rfl (Nat.le_of_ble_eq_true rfl) fun X hX => ?_
  have hX : Cl l ad D cI mi_Cha_answerDone pt_Cha K X := hX
  show X 0 [.ref 11, .null] [] σ
  unfold f_Cha_answerDone at hK
  refine hX.1 11 I_Cha_answerDone_0 ok_Cha_answerDone_0 _ _ _ ?_
  refine And.intro (fun h1 => ?_) (fun h1 => ?_)
  · have hK := ite_p hK h1
    refine hX.1 12 I_Cha_answerDone_11 ok_Cha_answerDone_11 _ _ _ ?_
    refine hX.1 20 I_Cha_answerDone_12 ok_Cha_answerDone_12 _ _ _ ?_
    refine And.intro (Or.inl rfl) (SG_g hK fun s2 e2 hK => ?_)
    exact hK
  · have hK := ite_n hK h1
    refine hX.1 20 I_Cha_answerDone_12 ok_Cha_answerDone_12 _ _ _ ?_
    refine And.intro (Or.inl rfl) (SG_g hK fun s3 e3 hK => ?_)
    exact hK
def I_Por_answer_0 : List IT := [(0, .iload_n 1, 1, 0, 0, []), (1, .lookupswitch 107 #[(8, 59), (32, 67), (33, 75), (64, 83), (96, 91), (100, 99)], 59, 0, 108, [(8, 60), (32, 68), (33, 76), (64, 84), (96, 92), (100, 100)])]
theorem ok_Por_answer_0 : blkOK b_Por_answer pt_Por 60 I_Por_answer_0 = true := by decide +kernel
def I_Por_answer_60 : List IT := [(60, .aload_n 0, 1, 0, 0, []), (61, .getfield 21, 3, 0, 0, []), (64, .invokevirtual 25, 3, 0, 0, []), (67, .ireturn, 1, 0, 0, [])]
theorem ok_Por_answer_60 : blkOK b_Por_answer pt_Por 68 I_Por_answer_60 = true := by decide +kernel
def I_Por_answer_68 : List IT := [(68, .aload_n 0, 1, 0, 0, []), (69, .getfield 7, 3, 0, 0, []), (72, .invokevirtual 31, 3, 0, 0, []), (75, .ireturn, 1, 0, 0, [])]
theorem ok_Por_answer_68 : blkOK b_Por_answer pt_Por 76 I_Por_answer_68 = true := by decide +kernel
def I_Por_answer_76 : List IT := [(76, .aload_n 0, 1, 0, 0, []), (77, .getfield 7, 3, 0, 0, []), (80, .getfield 36, 3, 0, 0, []), (83, .ireturn, 1, 0, 0, [])]
theorem ok_Por_answer_76 : blkOK b_Por_answer pt_Por 84 I_Por_answer_76 = true := by decide +kernel
def I_Por_answer_84 : List IT := [(84, .aload_n 0, 1, 0, 0, []), (85, .getfield 13, 3, 0, 0, []), (88, .invokevirtual 40, 3, 0, 0, []), (91, .ireturn, 1, 0, 0, [])]
theorem ok_Por_answer_84 : blkOK b_Por_answer pt_Por 92 I_Por_answer_84 = true := by decide +kernel
def I_Por_answer_92 : List IT := [(92, .aload_n 0, 1, 0, 0, []), (93, .getfield 17, 3, 0, 0, []), (96, .invokevirtual 45, 3, 0, 0, []), (99, .ireturn, 1, 0, 0, [])]
theorem ok_Por_answer_92 : blkOK b_Por_answer pt_Por 100 I_Por_answer_92 = true := by decide +kernel
def I_Por_answer_100 : List IT := [(100, .aload_n 0, 1, 0, 0, []), (101, .getfield 17, 3, 0, 0, []), (104, .invokevirtual 50, 3, 0, 0, []), (107, .ireturn, 1, 0, 0, [])]
theorem ok_Por_answer_100 : blkOK b_Por_answer pt_Por 108 I_Por_answer_100 = true := by decide +kernel
def I_Por_answer_108 : List IT := [(108, .sipush 255, 3, 255, 0, []), (111, .ireturn, 1, 0, 0, [])]
theorem ok_Por_answer_108 : blkOK b_Por_answer pt_Por 112 I_Por_answer_108 = true := by decide +kernel
def f_Por_answer (σ : Sg) (a1 : Int32) : Int32 × Sg := (if a1 = (8 : Int32) then (bnd (f_Cha_answerDone σ) fun r2 => (r2.1, r2.2)) else (if a1 = (32 : Int32) then (bnd (f_Ctl_shown σ) fun r4 => (r4.1, r4.2)) else (if a1 = (33 : Int32) then ((σ 7 2), σ) else (if a1 = (64 : Int32) then (bnd (f_Tim_answer σ) fun r7 => (r7.1, r7.2)) else (if a1 = (96 : Int32) then (bnd (f_Key_take σ) fun r9 => (r9.1, r9.2)) else (if a1 = (100 : Int32) then (bnd (f_Key_answerWaiting σ) fun r11 => (r11.1, r11.2)) else ((255 : Int32), σ)))))))
abbrev w_Por_answer : List (Nat × Option Nat) := [(7, some 0), (8, some 5), (8, some 6), (9, some 2), (10, none), (11, some 6)]
theorem p_Por_answer {P : Sg → Prop} (hP : WP w_Por_answer P) {σ : Sg} {a1 : Int32} (h : P σ) : PP P (f_Por_answer σ a1) := by
  unfold f_Por_answer
  refine ite_z (fun _ => ?_) (fun _ => ?_)
  · refine bnd_zz (Z := PP P) (p_Cha_answerDone (wsub hP rfl) h) fun r2 e2 q2 => ?_
    exact q2
  refine ite_z (fun _ => ?_) (fun _ => ?_)
  · refine bnd_zz (Z := PP P) (p_Ctl_shown (wsub hP rfl) h) fun r4 e4 q4 => ?_
    exact q4
  refine ite_z (fun _ => ?_) (fun _ => ?_)
  · exact h
  refine ite_z (fun _ => ?_) (fun _ => ?_)
  · refine bnd_zz (Z := PP P) (p_Tim_answer (wsub hP rfl) h) fun r7 e7 q7 => ?_
    exact q7
  refine ite_z (fun _ => ?_) (fun _ => ?_)
  · refine bnd_zz (Z := PP P) (p_Key_take (wsub hP rfl) h) fun r9 e9 q9 => ?_
    exact q9
  refine ite_z (fun _ => ?_) (fun _ => ?_)
  · refine bnd_zz (Z := PP P) (p_Key_answerWaiting (wsub hP rfl) h) fun r11 e11 q11 => ?_
    exact q11
  exact h
set_option maxRecDepth 100000 in
set_option maxHeartbeats 4000000 in
theorem s_Por_answer {l : Launch} {ad : Nat → Nat} {D : va_G} {cI : ClassId} {σ : Sg} {a1 : Int32} {K : Option Value → Sg → Prop}   (hK : KI K (f_Por_answer σ a1)) : MetJ l ad D cI mi_Por_answer [.ref 13, .int a1] σ K := by
  refine met_of mi_Por_answer pt_Por pt_Por_in rfl pl_Por rfl (Nat.le_of_ble_eq_true rfl) fun X hX => ?_
  have hX : Cl l ad D cI mi_Por_answer pt_Por K X := hX
  show X 0 [.ref 13, .int a1] [] σ
  unfold f_Por_answer at hK
  refine hX.1 60 I_Por_answer_0 ok_Por_answer_0 _ _ _ ?_
  refine And.intro (fun h1 => ?_) (fun h1 => ?_)
  · have hK := ite_p hK h1
    refine hX.1 68 I_Por_answer_60 ok_Por_answer_60 _ _ _ ?_
    refine s_Cha_answerDone (bnd_g hK fun r2 e2 hK => ?_)
    exact hK
  have hK := ite_n hK h1
  refine And.intro (fun h3 => ?_) (fun h3 => ?_)
  · have hK := ite_p hK h3
    refine hX.1 76 I_Por_answer_68 ok_Por_answer_68 _ _ _ ?_
    refine s_Ctl_shown (bnd_g hK fun r4 e4 hK => ?_)
    exact hK
  have hK := ite_n hK h3
  refine And.intro (fun h5 => ?_) (fun h5 => ?_)
  · have hK := ite_p hK h5
    refine hX.1 84 I_Por_answer_76 ok_Por_answer_76 _ _ _ ?_
    exact hK
  have hK := ite_n hK h5
  refine And.intro (fun h6 => ?_) (fun h6 => ?_)
  · have hK := ite_p hK h6
    refine hX.1 92 I_Por_answer_84 ok_Por_answer_84 _ _ _ ?_
    refine s_Tim_answer (bnd_g hK fun r7 e7 hK => ?_)
    exact hK
  have hK := ite_n hK h6
  refine And.intro (fun h8 => ?_) (fun h8 => ?_)
  · have hK := ite_p hK h8
    refine hX.1 100 I_Por_answer_92 ok_Por_answer_92 _ _ _ ?_
    refine s_Key_take (bnd_g hK fun r9 e9 hK => ?_)
    exact hK
  have hK := ite_n hK h8
  refine And.intro (fun h10 => ?_) (fun h10 => ?_)
  · have hK := ite_p hK h10
    refine hX.1 108 I_Por_answer_100 ok_Por_answer_100 _ _ _ ?_
    refine s_Key_answerWaiting (bnd_g hK fun r11 e11 hK => ?_)
    exact hK
  have hK := ite_n hK h10
  refine hX.1 112 I_Por_answer_108 ok_Por_answer_108 _ _ _ ?_
  exact hK
def I_Por_get_0 : List IT := [(0, .iload_n 1, 1, 0, 0, []), (1, .lookupswitch 162 #[(2, 75), (3, 86), (10, 97), (12, 108), (32, 118), (33, 129), (64, 140), (131, 151)], 75, 0, 163, [(2, 76), (3, 87), (10, 98), (12, 109), (32, 119), (33, 130), (64, 141), (131, 152)])]
theorem ok_Por_get_0 : blkOK b_Por_get pt_Por 76 I_Por_get_0 = true := by decide +kernel
def I_Por_get_76 : List IT := [(76, .aload_n 0, 1, 0, 0, []), (77, .getfield 21, 3, 0, 0, []), (80, .iload_n 2, 1, 0, 0, []), (81, .invokevirtual 53, 3, 0, 0, []), (84, .goto 79, 3, 0, 163, [])]
theorem ok_Por_get_76 : blkOK b_Por_get pt_Por 87 I_Por_get_76 = true := by decide +kernel
def I_Por_get_87 : List IT := [(87, .aload_n 0, 1, 0, 0, []), (88, .getfield 21, 3, 0, 0, []), (91, .iload_n 2, 1, 0, 0, []), (92, .invokevirtual 57, 3, 0, 0, []), (95, .goto 68, 3, 0, 163, [])]
theorem ok_Por_get_87 : blkOK b_Por_get pt_Por 98 I_Por_get_87 = true := by decide +kernel
def I_Por_get_98 : List IT := [(98, .aload_n 0, 1, 0, 0, []), (99, .getfield 21, 3, 0, 0, []), (102, .iload_n 2, 1, 0, 0, []), (103, .invokevirtual 60, 3, 0, 0, []), (106, .goto 57, 3, 0, 163, [])]
theorem ok_Por_get_98 : blkOK b_Por_get pt_Por 109 I_Por_get_98 = true := by decide +kernel
def I_Por_get_109 : List IT := [(109, .aload_n 0, 1, 0, 0, []), (110, .getfield 21, 3, 0, 0, []), (113, .invokevirtual 63, 3, 0, 0, []), (116, .goto 47, 3, 0, 163, [])]
theorem ok_Por_get_109 : blkOK b_Por_get pt_Por 119 I_Por_get_109 = true := by decide +kernel
def I_Por_get_119 : List IT := [(119, .aload_n 0, 1, 0, 0, []), (120, .getfield 7, 3, 0, 0, []), (123, .iload_n 2, 1, 0, 0, []), (124, .invokevirtual 66, 3, 0, 0, []), (127, .goto 36, 3, 0, 163, [])]
theorem ok_Por_get_119 : blkOK b_Por_get pt_Por 130 I_Por_get_119 = true := by decide +kernel
def I_Por_get_130 : List IT := [(130, .aload_n 0, 1, 0, 0, []), (131, .getfield 7, 3, 0, 0, []), (134, .iload_n 2, 1, 0, 0, []), (135, .putfield 36, 3, 0, 0, []), (138, .goto 25, 3, 0, 163, [])]
theorem ok_Por_get_130 : blkOK b_Por_get pt_Por 141 I_Por_get_130 = true := by decide +kernel
def I_Por_get_141 : List IT := [(141, .aload_n 0, 1, 0, 0, []), (142, .getfield 13, 3, 0, 0, []), (145, .iload_n 2, 1, 0, 0, []), (146, .invokevirtual 69, 3, 0, 0, []), (149, .goto 14, 3, 0, 163, [])]
theorem ok_Por_get_141 : blkOK b_Por_get pt_Por 152 I_Por_get_141 = true := by decide +kernel
def I_Por_get_152 : List IT := [(152, .aload_n 0, 1, 0, 0, []), (153, .getfield 21, 3, 0, 0, []), (156, .iload_n 2, 1, 0, 0, []), (157, .invokevirtual 72, 3, 0, 0, []), (160, .goto 3, 3, 0, 163, [])]
theorem ok_Por_get_152 : blkOK b_Por_get pt_Por 163 I_Por_get_152 = true := by decide +kernel
def I_Por_get_163 : List IT := [(163, .return_, 1, 0, 0, [])]
theorem ok_Por_get_163 : blkOK b_Por_get pt_Por 164 I_Por_get_163 = true := by decide +kernel
def f_Por_get (σ : Sg) (a1 : Int32) (a2 : Int32) : Sg := (if a1 = (2 : Int32) then (bnd (f_Cha_getPlace σ a2) fun r2 => r2) else (if a1 = (3 : Int32) then (bnd (f_Cha_getLeft σ a2) fun r4 => r4) else (if a1 = (10 : Int32) then (bnd (f_Cha_getMask σ a2) fun r6 => r6) else (if a1 = (12 : Int32) then (bnd (f_Cha_beginTurn σ) fun r8 => r8) else (if a1 = (32 : Int32) then (bnd (f_Ctl_command σ a2) fun r10 => r10) else (if a1 = (33 : Int32) then (bnd (up2 σ 7 2 a2) fun s12 => s12) else (if a1 = (64 : Int32) then (bnd (f_Tim_get σ a2) fun r14 => r14) else (if a1 = (131 : Int32) then (bnd (f_Cha_getPage σ a2) fun r16 => r16) else σ))))))))
abbrev w_Por_get : List (Nat × Option Nat) := [(7, some 1), (7, some 2), (7, some 3), (8, some 1), (8, some 2), (8, some 3), (8, some 4), (11, some 2), (11, some 3), (11, some 4), (11, some 5), (11, some 7)]
theorem p_Por_get {P : Sg → Prop} (hP : WP w_Por_get P) {σ : Sg} {a1 : Int32} {a2 : Int32} (h : P σ) : P (f_Por_get σ a1 a2) := by
  unfold f_Por_get
  refine ite_z (fun _ => ?_) (fun _ => ?_)
  · refine bnd_zz (Z := P) (p_Cha_getPlace (wsub hP rfl) h) fun r2 e2 q2 => ?_
    exact q2
  refine ite_z (fun _ => ?_) (fun _ => ?_)
  · refine bnd_zz (Z := P) (p_Cha_getLeft (wsub hP rfl) h) fun r4 e4 q4 => ?_
    exact q4
  refine ite_z (fun _ => ?_) (fun _ => ?_)
  · refine bnd_zz (Z := P) (p_Cha_getMask (wsub hP rfl) h) fun r6 e6 q6 => ?_
    exact q6
  refine ite_z (fun _ => ?_) (fun _ => ?_)
  · refine bnd_zz (Z := P) (p_Cha_beginTurn (wsub hP rfl) h) fun r8 e8 q8 => ?_
    exact q8
  refine ite_z (fun _ => ?_) (fun _ => ?_)
  · refine bnd_zz (Z := P) (p_Ctl_command (wsub hP rfl) h) fun r10 e10 q10 => ?_
    exact q10
  refine ite_z (fun _ => ?_) (fun _ => ?_)
  · refine bnd_zz (Z := P) (hP _ _ _ _ (Or.inr (by decide)) h) fun s12 e12 q12 => ?_
    exact q12
  refine ite_z (fun _ => ?_) (fun _ => ?_)
  · refine bnd_zz (Z := P) (p_Tim_get (wsub hP rfl) h) fun r14 e14 q14 => ?_
    exact q14
  refine ite_z (fun _ => ?_) (fun _ => ?_)
  · refine bnd_zz (Z := P) (p_Cha_getPage (wsub hP rfl) h) fun r16 e16 q16 => ?_
    exact q16
  exact h
set_option maxRecDepth 100000 in
set_option maxHeartbeats 4000000 in
theorem s_Por_get {l : Launch} {ad : Nat → Nat} {D : va_G} {cI : ClassId} {σ : Sg} {a1 : Int32} {a2 : Int32} {K : Option Value → Sg → Prop}   (hK : KV K (f_Por_get σ a1 a2)) : MetJ l ad D cI mi_Por_get [.ref 13, .int a1, .int a2] σ K := by
  refine met_of mi_Por_get pt_Por pt_Por_in rfl pl_Por rfl (Nat.le_of_ble_eq_true rfl) fun X hX => ?_
  have hX : Cl l ad D cI mi_Por_get pt_Por K X := hX
  show X 0 [.ref 13, .int a1, .int a2] [] σ
  unfold f_Por_get at hK
  refine hX.1 76 I_Por_get_0 ok_Por_get_0 _ _ _ ?_
  refine And.intro (fun h1 => ?_) (fun h1 => ?_)
  · have hK := ite_p hK h1
    refine hX.1 87 I_Por_get_76 ok_Por_get_76 _ _ _ ?_
    refine s_Cha_getPlace (bnd_g hK fun r2 e2 hK => ?_)
    refine hX.1 164 I_Por_get_163 ok_Por_get_163 _ _ _ ?_
    exact hK
  have hK := ite_n hK h1
  refine And.intro (fun h3 => ?_) (fun h3 => ?_)
  · have hK := ite_p hK h3
    refine hX.1 98 I_Por_get_87 ok_Por_get_87 _ _ _ ?_
    refine s_Cha_getLeft (bnd_g hK fun r4 e4 hK => ?_)
    refine hX.1 164 I_Por_get_163 ok_Por_get_163 _ _ _ ?_
    exact hK
  have hK := ite_n hK h3
  refine And.intro (fun h5 => ?_) (fun h5 => ?_)
  · have hK := ite_p hK h5
    refine hX.1 109 I_Por_get_98 ok_Por_get_98 _ _ _ ?_
    refine s_Cha_getMask (bnd_g hK fun r6 e6 hK => ?_)
    refine hX.1 164 I_Por_get_163 ok_Por_get_163 _ _ _ ?_
    exact hK
  have hK := ite_n hK h5
  refine And.intro (fun h7 => ?_) (fun h7 => ?_)
  · have hK := ite_p hK h7
    refine hX.1 119 I_Por_get_109 ok_Por_get_109 _ _ _ ?_
    refine s_Cha_beginTurn (bnd_g hK fun r8 e8 hK => ?_)
    refine hX.1 164 I_Por_get_163 ok_Por_get_163 _ _ _ ?_
    exact hK
  have hK := ite_n hK h7
  refine And.intro (fun h9 => ?_) (fun h9 => ?_)
  · have hK := ite_p hK h9
    refine hX.1 130 I_Por_get_119 ok_Por_get_119 _ _ _ ?_
    refine s_Ctl_command (bnd_g hK fun r10 e10 hK => ?_)
    refine hX.1 164 I_Por_get_163 ok_Por_get_163 _ _ _ ?_
    exact hK
  have hK := ite_n hK h9
  refine And.intro (fun h11 => ?_) (fun h11 => ?_)
  · have hK := ite_p hK h11
    refine hX.1 141 I_Por_get_130 ok_Por_get_130 _ _ _ ?_
    refine And.intro trivial (SG_g hK fun s12 e12 hK => ?_)
    refine hX.1 164 I_Por_get_163 ok_Por_get_163 _ _ _ ?_
    exact hK
  have hK := ite_n hK h11
  refine And.intro (fun h13 => ?_) (fun h13 => ?_)
  · have hK := ite_p hK h13
    refine hX.1 152 I_Por_get_141 ok_Por_get_141 _ _ _ ?_
    refine s_Tim_get (bnd_g hK fun r14 e14 hK => ?_)
    refine hX.1 164 I_Por_get_163 ok_Por_get_163 _ _ _ ?_
    exact hK
  have hK := ite_n hK h13
  refine And.intro (fun h15 => ?_) (fun h15 => ?_)
  · have hK := ite_p hK h15
    refine hX.1 163 I_Por_get_152 ok_Por_get_152 _ _ _ ?_
    refine s_Cha_getPage (bnd_g hK fun r16 e16 hK => ?_)
    refine hX.1 164 I_Por_get_163 ok_Por_get_163 _ _ _ ?_
    exact hK
  have hK := ite_n hK h15
  refine hX.1 164 I_Por_get_163 ok_Por_get_163 _ _ _ ?_
  exact hK
end
section
def I_Dec_nextByte_0 : List IT := [(0, .aload_n 0, 1, 0, 0, []), (1, .getfield 7, 3, 0, 0, []), (4, .aload_n 0, 1, 0, 0, []), (5, .getfield 13, 3, 0, 0, []), (8, .getfield 39, 3, 0, 0, []), (11, .iconst 1, 1, 1, 0, []), (12, .iaload, 1, 0, 0, []), (13, .aload_n 0, 1, 0, 0, []), (14, .getfield 13, 3, 0, 0, []), (17, .getfield 17, 3, 0, 0, []), (20, .iconst 0, 1, 0, 0, []), (21, .invokevirtual 43, 3, 0, 0, []), (24, .istore_n 1, 1, 0, 0, []), (25, .aload_n 0, 1, 0, 0, []), (26, .getfield 13, 3, 0, 0, []), (29, .aload_n 0, 1, 0, 0, []), (30, .getfield 13, 3, 0, 0, []), (33, .getfield 17, 3, 0, 0, []), (36, .iconst 1, 1, 1, 0, []), (37, .iadd, 1, 0, 0, []), (38, .ldc 49, 2, 65535, 0, []), (40, .iand, 1, 0, 0, []), (41, .putfield 17, 3, 0, 0, []), (44, .iload_n 1, 1, 0, 0, []), (45, .ireturn, 1, 0, 0, [])]
theorem ok_Dec_nextByte_0 : blkOK b_Dec_nextByte pt_Dec 46 I_Dec_nextByte_0 = true := by decide +kernel
def f_Dec_nextByte (σ : Sg)  : Int32 × Sg := (bnd (f_Mem_fetch σ (σ 5 (Int32.toNatClampNeg (1 : Int32))) (σ 3 2) (0 : Int32)) fun r1 => bnd (up2 r1.2 3 2 (((r1.2 3 2) + (1 : Int32)) &&& (65535 : Int32))) fun s2 => (r1.1, s2))
abbrev w_Dec_nextByte : List (Nat × Option Nat) := [(3, some 2)]
theorem p_Dec_nextByte {P : Sg → Prop} (hP : WP w_Dec_nextByte P) {σ : Sg}  (h : P σ) : PP P (f_Dec_nextByte σ ) := by
  unfold f_Dec_nextByte
  refine bnd_zz (Z := PP P) (p_Mem_fetch (wsub hP rfl) h) fun r1 e1 q1 => ?_
  refine bnd_zz (Z := P) (hP _ _ _ _ (Or.inr (by decide)) q1) fun s2 e2 q2 => ?_
  exact q2
set_option maxRecDepth 100000 in
set_option maxHeartbeats 4000000 in
theorem s_Dec_nextByte {l : Launch} {ad : Nat → Nat} {D : va_G} {cI : ClassId} {σ : Sg}  {K : Option Value → Sg → Prop}   (hK : KI K (f_Dec_nextByte σ )) : MetJ l ad D cI mi_Dec_nextByte [.ref 14] σ K := by
  refine met_of mi_Dec_nextByte pt_Dec pt_Dec_in rfl pl_Dec rfl (Nat.le_of_ble_eq_true rfl) fun X hX => ?_
  have hX : Cl l ad D cI mi_Dec_nextByte pt_Dec K X := hX
  show X 0 [.ref 14, .null] [] σ
  unfold f_Dec_nextByte at hK
  refine hX.1 46 I_Dec_nextByte_0 ok_Dec_nextByte_0 _ _ _ ?_
  refine And.intro (vin (by decide)) ?_
  refine s_Mem_fetch (bnd_g hK fun r1 e1 hK => ?_)
  refine And.intro trivial (SG_g hK fun s2 e2 hK => ?_)
  exact hK
def I_Dec_begin_0 : List IT := [(0, .aload_n 0, 1, 0, 0, []), (1, .aload_n 0, 1, 0, 0, []), (2, .getfield 13, 3, 0, 0, []), (5, .getfield 17, 3, 0, 0, []), (8, .putfield 23, 3, 0, 0, []), (11, .aload_n 0, 1, 0, 0, []), (12, .iconst (-1), 1, (-1), 0, []), (13, .putfield 26, 3, 0, 0, []), (16, .aload_n 0, 1, 0, 0, []), (17, .iconst 0, 1, 0, 0, []), (18, .putfield 29, 3, 0, 0, []), (21, .iconst 0, 1, 0, 0, []), (22, .istore_n 1, 1, 0, 0, [])]
theorem ok_Dec_begin_0 : blkOK b_Dec_begin pt_Dec 23 I_Dec_begin_0 = true := by decide +kernel
def I_Dec_begin_23 : List IT := [(23, .iload_n 1, 1, 0, 0, []), (24, .iconst 3, 1, 3, 0, []), (25, .if_icmp .gt 102, 3, 0, 127, []), (28, .aload_n 0, 1, 0, 0, []), (29, .aload_n 0, 1, 0, 0, []), (30, .invokevirtual 32, 3, 0, 0, []), (33, .putfield 36, 3, 0, 0, []), (36, .aload_n 0, 1, 0, 0, []), (37, .getfield 36, 3, 0, 0, []), (40, .sipush 243, 3, 243, 0, []), (43, .if_icmp .eq 13, 3, 0, 56, []), (46, .aload_n 0, 1, 0, 0, []), (47, .getfield 36, 3, 0, 0, []), (50, .sipush 242, 3, 242, 0, []), (53, .if_icmp .ne 14, 3, 0, 67, [])]
theorem ok_Dec_begin_23 : blkOK b_Dec_begin pt_Dec 56 I_Dec_begin_23 = true := by decide +kernel
def I_Dec_begin_56 : List IT := [(56, .aload_n 0, 1, 0, 0, []), (57, .aload_n 0, 1, 0, 0, []), (58, .getfield 36, 3, 0, 0, []), (61, .putfield 29, 3, 0, 0, []), (64, .goto 57, 3, 0, 121, [])]
theorem ok_Dec_begin_56 : blkOK b_Dec_begin pt_Dec 67 I_Dec_begin_56 = true := by decide +kernel
def I_Dec_begin_67 : List IT := [(67, .aload_n 0, 1, 0, 0, []), (68, .getfield 36, 3, 0, 0, []), (71, .bipush 38, 2, 38, 0, []), (73, .if_icmp .eq 30, 3, 0, 103, []), (76, .aload_n 0, 1, 0, 0, []), (77, .getfield 36, 3, 0, 0, []), (80, .bipush 46, 2, 46, 0, []), (82, .if_icmp .eq 21, 3, 0, 103, []), (85, .aload_n 0, 1, 0, 0, []), (86, .getfield 36, 3, 0, 0, []), (89, .bipush 54, 2, 54, 0, []), (91, .if_icmp .eq 12, 3, 0, 103, []), (94, .aload_n 0, 1, 0, 0, []), (95, .getfield 36, 3, 0, 0, []), (98, .bipush 62, 2, 62, 0, []), (100, .if_icmp .ne 19, 3, 0, 119, [])]
theorem ok_Dec_begin_67 : blkOK b_Dec_begin pt_Dec 103 I_Dec_begin_67 = true := by decide +kernel
def I_Dec_begin_103 : List IT := [(103, .aload_n 0, 1, 0, 0, []), (104, .aload_n 0, 1, 0, 0, []), (105, .getfield 36, 3, 0, 0, []), (108, .bipush 38, 2, 38, 0, []), (110, .isub, 1, 0, 0, []), (111, .iconst 3, 1, 3, 0, []), (112, .ishr, 1, 0, 0, []), (113, .putfield 26, 3, 0, 0, []), (116, .goto 5, 3, 0, 121, [])]
theorem ok_Dec_begin_103 : blkOK b_Dec_begin pt_Dec 119 I_Dec_begin_103 = true := by decide +kernel
def I_Dec_begin_119 : List IT := [(119, .iconst 1, 1, 1, 0, []), (120, .ireturn, 1, 0, 0, [])]
theorem ok_Dec_begin_119 : blkOK b_Dec_begin pt_Dec 121 I_Dec_begin_119 = true := by decide +kernel
def I_Dec_begin_121 : List IT := [(121, .iinc 1 1, 3, 1, 0, []), (124, .goto (-101), 3, 0, 23, [])]
theorem ok_Dec_begin_121 : blkOK b_Dec_begin pt_Dec 127 I_Dec_begin_121 = true := by decide +kernel
def I_Dec_begin_127 : List IT := [(127, .iconst 0, 1, 0, 0, []), (128, .ireturn, 1, 0, 0, [])]
theorem ok_Dec_begin_127 : blkOK b_Dec_begin pt_Dec 129 I_Dec_begin_127 = true := by decide +kernel
def f_Dec_begin_23_c4 (σ : Sg)  : Int32 × Sg := ((0 : Int32), σ)
theorem z_Dec_begin_23_c4 {σ : Sg}    : (f_Dec_begin_23_c4 σ ).1 = 0 ∨ (f_Dec_begin_23_c4 σ ).1 = 1 := by
  show Zb (f_Dec_begin_23_c4 σ )
  unfold f_Dec_begin_23_c4
  exact (Or.inl rfl)
abbrev w_Dec_begin_23_c4 : List (Nat × Option Nat) := []
theorem p_Dec_begin_23_c4 {P : Sg → Prop} (hP : WP w_Dec_begin_23_c4 P) {σ : Sg}  (h : P σ) : PP P (f_Dec_begin_23_c4 σ ) := by
  unfold f_Dec_begin_23_c4
  exact h
set_option maxRecDepth 100000 in
set_option maxHeartbeats 4000000 in
theorem b_Dec_begin_23_c4 {l : Launch} {ad : Nat → Nat} {D : va_G} {cI : ClassId} {K : Option Value → Sg → Prop} {X : Nat → List Value → List Value → Sg → Prop} (hX : Cl l ad D cI mi_Dec_begin pt_Dec K X) {σ : Sg}    (hK : KI K (f_Dec_begin_23_c4 σ )) : X 23 [.ref 14, .int (((((0 : Int32) + (1 : Int32)) + (1 : Int32)) + (1 : Int32)) + (1 : Int32))] [] σ := by
  unfold f_Dec_begin_23_c4 at hK
  refine hX.1 56 I_Dec_begin_23 ok_Dec_begin_23 _ _ _ ?_
  refine And.intro (fun _ => ?_) (fun h => absurd (by decide) h)
  refine hX.1 129 I_Dec_begin_127 ok_Dec_begin_127 _ _ _ ?_
  exact And.intro (Or.inl rfl) hK
def f_Dec_begin_121_c3 (σ : Sg)  : Int32 × Sg := (f_Dec_begin_23_c4 σ)
theorem z_Dec_begin_121_c3 {σ : Sg}    : (f_Dec_begin_121_c3 σ ).1 = 0 ∨ (f_Dec_begin_121_c3 σ ).1 = 1 := by
  show Zb (f_Dec_begin_121_c3 σ )
  unfold f_Dec_begin_121_c3
  exact z_Dec_begin_23_c4  
abbrev w_Dec_begin_121_c3 : List (Nat × Option Nat) := []
theorem p_Dec_begin_121_c3 {P : Sg → Prop} (hP : WP w_Dec_begin_121_c3 P) {σ : Sg}  (h : P σ) : PP P (f_Dec_begin_121_c3 σ ) := by
  unfold f_Dec_begin_121_c3
  exact p_Dec_begin_23_c4 (wsub hP rfl) h
set_option maxRecDepth 100000 in
set_option maxHeartbeats 4000000 in
theorem b_Dec_begin_121_c3 {l : Launch} {ad : Nat → Nat} {D : va_G} {cI : ClassId} {K : Option Value → Sg → Prop} {X : Nat → List Value → List Value → Sg → Prop} (hX : Cl l ad D cI mi_Dec_begin pt_Dec K X) {σ : Sg}    (hK : KI K (f_Dec_begin_121_c3 σ )) : X 121 [.ref 14, .int ((((0 : Int32) + (1 : Int32)) + (1 : Int32)) + (1 : Int32))] [] σ := by
  unfold f_Dec_begin_121_c3 at hK
  refine hX.1 127 I_Dec_begin_121 ok_Dec_begin_121 _ _ _ ?_
  exact b_Dec_begin_23_c4 hX  hK
def f_Dec_begin_56_c3 (σ : Sg)  : Int32 × Sg := (bnd (up2 σ 14 4 (σ 14 3)) fun s1 => (f_Dec_begin_121_c3 s1))
theorem z_Dec_begin_56_c3 {σ : Sg}    : (f_Dec_begin_56_c3 σ ).1 = 0 ∨ (f_Dec_begin_56_c3 σ ).1 = 1 := by
  show Zb (f_Dec_begin_56_c3 σ )
  unfold f_Dec_begin_56_c3
  refine bnd_z fun s1 e1 => ?_
  exact z_Dec_begin_121_c3  
abbrev w_Dec_begin_56_c3 : List (Nat × Option Nat) := [(14, some 4)]
theorem p_Dec_begin_56_c3 {P : Sg → Prop} (hP : WP w_Dec_begin_56_c3 P) {σ : Sg}  (h : P σ) : PP P (f_Dec_begin_56_c3 σ ) := by
  unfold f_Dec_begin_56_c3
  refine bnd_zz (Z := P) (hP _ _ _ _ (Or.inr (by decide)) h) fun s1 e1 q1 => ?_
  exact p_Dec_begin_121_c3 (wsub hP rfl) q1
set_option maxRecDepth 100000 in
set_option maxHeartbeats 4000000 in
theorem b_Dec_begin_56_c3 {l : Launch} {ad : Nat → Nat} {D : va_G} {cI : ClassId} {K : Option Value → Sg → Prop} {X : Nat → List Value → List Value → Sg → Prop} (hX : Cl l ad D cI mi_Dec_begin pt_Dec K X) {σ : Sg}    (hK : KI K (f_Dec_begin_56_c3 σ )) : X 56 [.ref 14, .int ((((0 : Int32) + (1 : Int32)) + (1 : Int32)) + (1 : Int32))] [] σ := by
  unfold f_Dec_begin_56_c3 at hK
  refine hX.1 67 I_Dec_begin_56 ok_Dec_begin_56 _ _ _ ?_
  refine And.intro trivial (SG_g hK fun s1 e1 hK => ?_)
  exact b_Dec_begin_121_c3 hX  hK
def f_Dec_begin_103_c3 (σ : Sg)  : Int32 × Sg := (bnd (up2 σ 14 8 (((σ 14 3) - (38 : Int32)) >>> ((3 : Int32) &&& 31 : Int32))) fun s1 => (f_Dec_begin_121_c3 s1))
theorem z_Dec_begin_103_c3 {σ : Sg}    : (f_Dec_begin_103_c3 σ ).1 = 0 ∨ (f_Dec_begin_103_c3 σ ).1 = 1 := by
  show Zb (f_Dec_begin_103_c3 σ )
  unfold f_Dec_begin_103_c3
  refine bnd_z fun s1 e1 => ?_
  exact z_Dec_begin_121_c3  
abbrev w_Dec_begin_103_c3 : List (Nat × Option Nat) := [(14, some 8)]
theorem p_Dec_begin_103_c3 {P : Sg → Prop} (hP : WP w_Dec_begin_103_c3 P) {σ : Sg}  (h : P σ) : PP P (f_Dec_begin_103_c3 σ ) := by
  unfold f_Dec_begin_103_c3
  refine bnd_zz (Z := P) (hP _ _ _ _ (Or.inr (by decide)) h) fun s1 e1 q1 => ?_
  exact p_Dec_begin_121_c3 (wsub hP rfl) q1
set_option maxRecDepth 100000 in
set_option maxHeartbeats 4000000 in
theorem b_Dec_begin_103_c3 {l : Launch} {ad : Nat → Nat} {D : va_G} {cI : ClassId} {K : Option Value → Sg → Prop} {X : Nat → List Value → List Value → Sg → Prop} (hX : Cl l ad D cI mi_Dec_begin pt_Dec K X) {σ : Sg}    (hK : KI K (f_Dec_begin_103_c3 σ )) : X 103 [.ref 14, .int ((((0 : Int32) + (1 : Int32)) + (1 : Int32)) + (1 : Int32))] [] σ := by
  unfold f_Dec_begin_103_c3 at hK
  refine hX.1 119 I_Dec_begin_103 ok_Dec_begin_103 _ _ _ ?_
  refine And.intro trivial (SG_g hK fun s1 e1 hK => ?_)
  exact b_Dec_begin_121_c3 hX  hK
def f_Dec_begin_23_c3 (σ : Sg)  : Int32 × Sg := (bnd (f_Dec_nextByte σ) fun r1 => bnd (up2 r1.2 14 3 r1.1) fun s2 => (if (s2 14 3) = (243 : Int32) then (f_Dec_begin_56_c3 s2) else (if (s2 14 3) = (242 : Int32) then (f_Dec_begin_56_c3 s2) else (if (s2 14 3) = (38 : Int32) then (f_Dec_begin_103_c3 s2) else (if (s2 14 3) = (46 : Int32) then (f_Dec_begin_103_c3 s2) else (if (s2 14 3) = (54 : Int32) then (f_Dec_begin_103_c3 s2) else (if (s2 14 3) = (62 : Int32) then (f_Dec_begin_103_c3 s2) else ((1 : Int32), s2))))))))
theorem z_Dec_begin_23_c3 {σ : Sg}    : (f_Dec_begin_23_c3 σ ).1 = 0 ∨ (f_Dec_begin_23_c3 σ ).1 = 1 := by
  show Zb (f_Dec_begin_23_c3 σ )
  unfold f_Dec_begin_23_c3
  refine bnd_z fun r1 e1 => ?_
  refine bnd_z fun s2 e2 => ?_
  refine ite_z (fun h3 => ?_) (fun h3 => ?_)
  · exact z_Dec_begin_56_c3
  · refine ite_z (fun h4 => ?_) (fun h4 => ?_)
    · exact z_Dec_begin_56_c3
    · refine ite_z (fun h5 => ?_) (fun h5 => ?_)
      · exact z_Dec_begin_103_c3
      · refine ite_z (fun h6 => ?_) (fun h6 => ?_)
        · exact z_Dec_begin_103_c3
        · refine ite_z (fun h7 => ?_) (fun h7 => ?_)
          · exact z_Dec_begin_103_c3
          · refine ite_z (fun h8 => ?_) (fun h8 => ?_)
            · exact z_Dec_begin_103_c3
            · exact (Or.inr rfl)
abbrev w_Dec_begin_23_c3 : List (Nat × Option Nat) := [(3, some 2), (14, some 3), (14, some 4), (14, some 8)]
theorem p_Dec_begin_23_c3 {P : Sg → Prop} (hP : WP w_Dec_begin_23_c3 P) {σ : Sg}  (h : P σ) : PP P (f_Dec_begin_23_c3 σ ) := by
  unfold f_Dec_begin_23_c3
  refine bnd_zz (Z := PP P) (p_Dec_nextByte (wsub hP rfl) h) fun r1 e1 q1 => ?_
  refine bnd_zz (Z := P) (hP _ _ _ _ (Or.inr (by decide)) q1) fun s2 e2 q2 => ?_
  refine ite_z (fun _ => ?_) (fun _ => ?_)
  · exact p_Dec_begin_56_c3 (wsub hP rfl) q2
  · refine ite_z (fun _ => ?_) (fun _ => ?_)
    · exact p_Dec_begin_56_c3 (wsub hP rfl) q2
    · refine ite_z (fun _ => ?_) (fun _ => ?_)
      · exact p_Dec_begin_103_c3 (wsub hP rfl) q2
      · refine ite_z (fun _ => ?_) (fun _ => ?_)
        · exact p_Dec_begin_103_c3 (wsub hP rfl) q2
        · refine ite_z (fun _ => ?_) (fun _ => ?_)
          · exact p_Dec_begin_103_c3 (wsub hP rfl) q2
          · refine ite_z (fun _ => ?_) (fun _ => ?_)
            · exact p_Dec_begin_103_c3 (wsub hP rfl) q2
            · exact q2
set_option maxRecDepth 100000 in
set_option maxHeartbeats 4000000 in
theorem b_Dec_begin_23_c3 {l : Launch} {ad : Nat → Nat} {D : va_G} {cI : ClassId} {K : Option Value → Sg → Prop} {X : Nat → List Value → List Value → Sg → Prop} (hX : Cl l ad D cI mi_Dec_begin pt_Dec K X) {σ : Sg}    (hK : KI K (f_Dec_begin_23_c3 σ )) : X 23 [.ref 14, .int ((((0 : Int32) + (1 : Int32)) + (1 : Int32)) + (1 : Int32))] [] σ := by
  unfold f_Dec_begin_23_c3 at hK
  refine hX.1 56 I_Dec_begin_23 ok_Dec_begin_23 _ _ _ ?_
  refine And.intro (fun h => absurd h (by decide)) (fun _ => ?_)
  refine s_Dec_nextByte (bnd_g hK fun r1 e1 hK => ?_)
  refine And.intro trivial (SG_g hK fun s2 e2 hK => ?_)
  refine And.intro (fun h3 => ?_) (fun h3 => ?_)
  · have hK := ite_p hK h3
    exact b_Dec_begin_56_c3 hX  hK
  · have hK := ite_n hK h3
    refine And.intro (fun h4 => ?_) (fun h4 => ?_)
    · have hK := ite_p hK h4
      exact b_Dec_begin_56_c3 hX  hK
    · have hK := ite_n hK h4
      refine hX.1 103 I_Dec_begin_67 ok_Dec_begin_67 _ _ _ ?_
      refine And.intro (fun h5 => ?_) (fun h5 => ?_)
      · have hK := ite_p hK h5
        exact b_Dec_begin_103_c3 hX  hK
      · have hK := ite_n hK h5
        refine And.intro (fun h6 => ?_) (fun h6 => ?_)
        · have hK := ite_p hK h6
          exact b_Dec_begin_103_c3 hX  hK
        · have hK := ite_n hK h6
          refine And.intro (fun h7 => ?_) (fun h7 => ?_)
          · have hK := ite_p hK h7
            exact b_Dec_begin_103_c3 hX  hK
          · have hK := ite_n hK h7
            refine And.intro (fun h8 => ?_) (fun h8 => ?_)
            · have hK := ite_p hK h8
              exact b_Dec_begin_103_c3 hX  hK
            · have hK := ite_n hK h8
              refine hX.1 121 I_Dec_begin_119 ok_Dec_begin_119 _ _ _ ?_
              exact And.intro (Or.inr rfl) hK
def f_Dec_begin_121_c2 (σ : Sg)  : Int32 × Sg := (f_Dec_begin_23_c3 σ)
theorem z_Dec_begin_121_c2 {σ : Sg}    : (f_Dec_begin_121_c2 σ ).1 = 0 ∨ (f_Dec_begin_121_c2 σ ).1 = 1 := by
  show Zb (f_Dec_begin_121_c2 σ )
  unfold f_Dec_begin_121_c2
  exact z_Dec_begin_23_c3  
abbrev w_Dec_begin_121_c2 : List (Nat × Option Nat) := [(3, some 2), (14, some 3), (14, some 4), (14, some 8)]
theorem p_Dec_begin_121_c2 {P : Sg → Prop} (hP : WP w_Dec_begin_121_c2 P) {σ : Sg}  (h : P σ) : PP P (f_Dec_begin_121_c2 σ ) := by
  unfold f_Dec_begin_121_c2
  exact p_Dec_begin_23_c3 (wsub hP rfl) h
set_option maxRecDepth 100000 in
set_option maxHeartbeats 4000000 in
theorem b_Dec_begin_121_c2 {l : Launch} {ad : Nat → Nat} {D : va_G} {cI : ClassId} {K : Option Value → Sg → Prop} {X : Nat → List Value → List Value → Sg → Prop} (hX : Cl l ad D cI mi_Dec_begin pt_Dec K X) {σ : Sg}    (hK : KI K (f_Dec_begin_121_c2 σ )) : X 121 [.ref 14, .int (((0 : Int32) + (1 : Int32)) + (1 : Int32))] [] σ := by
  unfold f_Dec_begin_121_c2 at hK
  refine hX.1 127 I_Dec_begin_121 ok_Dec_begin_121 _ _ _ ?_
  exact b_Dec_begin_23_c3 hX  hK
def f_Dec_begin_56_c2 (σ : Sg)  : Int32 × Sg := (bnd (up2 σ 14 4 (σ 14 3)) fun s1 => (f_Dec_begin_121_c2 s1))
theorem z_Dec_begin_56_c2 {σ : Sg}    : (f_Dec_begin_56_c2 σ ).1 = 0 ∨ (f_Dec_begin_56_c2 σ ).1 = 1 := by
  show Zb (f_Dec_begin_56_c2 σ )
  unfold f_Dec_begin_56_c2
  refine bnd_z fun s1 e1 => ?_
  exact z_Dec_begin_121_c2  
abbrev w_Dec_begin_56_c2 : List (Nat × Option Nat) := [(3, some 2), (14, some 3), (14, some 4), (14, some 8)]
theorem p_Dec_begin_56_c2 {P : Sg → Prop} (hP : WP w_Dec_begin_56_c2 P) {σ : Sg}  (h : P σ) : PP P (f_Dec_begin_56_c2 σ ) := by
  unfold f_Dec_begin_56_c2
  refine bnd_zz (Z := P) (hP _ _ _ _ (Or.inr (by decide)) h) fun s1 e1 q1 => ?_
  exact p_Dec_begin_121_c2 (wsub hP rfl) q1
set_option maxRecDepth 100000 in
set_option maxHeartbeats 4000000 in
theorem b_Dec_begin_56_c2 {l : Launch} {ad : Nat → Nat} {D : va_G} {cI : ClassId} {K : Option Value → Sg → Prop} {X : Nat → List Value → List Value → Sg → Prop} (hX : Cl l ad D cI mi_Dec_begin pt_Dec K X) {σ : Sg}    (hK : KI K (f_Dec_begin_56_c2 σ )) : X 56 [.ref 14, .int (((0 : Int32) + (1 : Int32)) + (1 : Int32))] [] σ := by
  unfold f_Dec_begin_56_c2 at hK
  refine hX.1 67 I_Dec_begin_56 ok_Dec_begin_56 _ _ _ ?_
  refine And.intro trivial (SG_g hK fun s1 e1 hK => ?_)
  exact b_Dec_begin_121_c2 hX  hK
def f_Dec_begin_103_c2 (σ : Sg)  : Int32 × Sg := (bnd (up2 σ 14 8 (((σ 14 3) - (38 : Int32)) >>> ((3 : Int32) &&& 31 : Int32))) fun s1 => (f_Dec_begin_121_c2 s1))
theorem z_Dec_begin_103_c2 {σ : Sg}    : (f_Dec_begin_103_c2 σ ).1 = 0 ∨ (f_Dec_begin_103_c2 σ ).1 = 1 := by
  show Zb (f_Dec_begin_103_c2 σ )
  unfold f_Dec_begin_103_c2
  refine bnd_z fun s1 e1 => ?_
  exact z_Dec_begin_121_c2  
abbrev w_Dec_begin_103_c2 : List (Nat × Option Nat) := [(3, some 2), (14, some 3), (14, some 4), (14, some 8)]
theorem p_Dec_begin_103_c2 {P : Sg → Prop} (hP : WP w_Dec_begin_103_c2 P) {σ : Sg}  (h : P σ) : PP P (f_Dec_begin_103_c2 σ ) := by
  unfold f_Dec_begin_103_c2
  refine bnd_zz (Z := P) (hP _ _ _ _ (Or.inr (by decide)) h) fun s1 e1 q1 => ?_
  exact p_Dec_begin_121_c2 (wsub hP rfl) q1
set_option maxRecDepth 100000 in
set_option maxHeartbeats 4000000 in
theorem b_Dec_begin_103_c2 {l : Launch} {ad : Nat → Nat} {D : va_G} {cI : ClassId} {K : Option Value → Sg → Prop} {X : Nat → List Value → List Value → Sg → Prop} (hX : Cl l ad D cI mi_Dec_begin pt_Dec K X) {σ : Sg}    (hK : KI K (f_Dec_begin_103_c2 σ )) : X 103 [.ref 14, .int (((0 : Int32) + (1 : Int32)) + (1 : Int32))] [] σ := by
  unfold f_Dec_begin_103_c2 at hK
  refine hX.1 119 I_Dec_begin_103 ok_Dec_begin_103 _ _ _ ?_
  refine And.intro trivial (SG_g hK fun s1 e1 hK => ?_)
  exact b_Dec_begin_121_c2 hX  hK
def f_Dec_begin_23_c2 (σ : Sg)  : Int32 × Sg := (bnd (f_Dec_nextByte σ) fun r1 => bnd (up2 r1.2 14 3 r1.1) fun s2 => (if (s2 14 3) = (243 : Int32) then (f_Dec_begin_56_c2 s2) else (if (s2 14 3) = (242 : Int32) then (f_Dec_begin_56_c2 s2) else (if (s2 14 3) = (38 : Int32) then (f_Dec_begin_103_c2 s2) else (if (s2 14 3) = (46 : Int32) then (f_Dec_begin_103_c2 s2) else (if (s2 14 3) = (54 : Int32) then (f_Dec_begin_103_c2 s2) else (if (s2 14 3) = (62 : Int32) then (f_Dec_begin_103_c2 s2) else ((1 : Int32), s2))))))))
theorem z_Dec_begin_23_c2 {σ : Sg}    : (f_Dec_begin_23_c2 σ ).1 = 0 ∨ (f_Dec_begin_23_c2 σ ).1 = 1 := by
  show Zb (f_Dec_begin_23_c2 σ )
  unfold f_Dec_begin_23_c2
  refine bnd_z fun r1 e1 => ?_
  refine bnd_z fun s2 e2 => ?_
  refine ite_z (fun h3 => ?_) (fun h3 => ?_)
  · exact z_Dec_begin_56_c2
  · refine ite_z (fun h4 => ?_) (fun h4 => ?_)
    · exact z_Dec_begin_56_c2
    · refine ite_z (fun h5 => ?_) (fun h5 => ?_)
      · exact z_Dec_begin_103_c2
      · refine ite_z (fun h6 => ?_) (fun h6 => ?_)
        · exact z_Dec_begin_103_c2
        · refine ite_z (fun h7 => ?_) (fun h7 => ?_)
          · exact z_Dec_begin_103_c2
          · refine ite_z (fun h8 => ?_) (fun h8 => ?_)
            · exact z_Dec_begin_103_c2
            · exact (Or.inr rfl)
abbrev w_Dec_begin_23_c2 : List (Nat × Option Nat) := [(3, some 2), (14, some 3), (14, some 4), (14, some 8)]
theorem p_Dec_begin_23_c2 {P : Sg → Prop} (hP : WP w_Dec_begin_23_c2 P) {σ : Sg}  (h : P σ) : PP P (f_Dec_begin_23_c2 σ ) := by
  unfold f_Dec_begin_23_c2
  refine bnd_zz (Z := PP P) (p_Dec_nextByte (wsub hP rfl) h) fun r1 e1 q1 => ?_
  refine bnd_zz (Z := P) (hP _ _ _ _ (Or.inr (by decide)) q1) fun s2 e2 q2 => ?_
  refine ite_z (fun _ => ?_) (fun _ => ?_)
  · exact p_Dec_begin_56_c2 (wsub hP rfl) q2
  · refine ite_z (fun _ => ?_) (fun _ => ?_)
    · exact p_Dec_begin_56_c2 (wsub hP rfl) q2
    · refine ite_z (fun _ => ?_) (fun _ => ?_)
      · exact p_Dec_begin_103_c2 (wsub hP rfl) q2
      · refine ite_z (fun _ => ?_) (fun _ => ?_)
        · exact p_Dec_begin_103_c2 (wsub hP rfl) q2
        · refine ite_z (fun _ => ?_) (fun _ => ?_)
          · exact p_Dec_begin_103_c2 (wsub hP rfl) q2
          · refine ite_z (fun _ => ?_) (fun _ => ?_)
            · exact p_Dec_begin_103_c2 (wsub hP rfl) q2
            · exact q2
set_option maxRecDepth 100000 in
set_option maxHeartbeats 4000000 in
theorem b_Dec_begin_23_c2 {l : Launch} {ad : Nat → Nat} {D : va_G} {cI : ClassId} {K : Option Value → Sg → Prop} {X : Nat → List Value → List Value → Sg → Prop} (hX : Cl l ad D cI mi_Dec_begin pt_Dec K X) {σ : Sg}    (hK : KI K (f_Dec_begin_23_c2 σ )) : X 23 [.ref 14, .int (((0 : Int32) + (1 : Int32)) + (1 : Int32))] [] σ := by
  unfold f_Dec_begin_23_c2 at hK
  refine hX.1 56 I_Dec_begin_23 ok_Dec_begin_23 _ _ _ ?_
  refine And.intro (fun h => absurd h (by decide)) (fun _ => ?_)
  refine s_Dec_nextByte (bnd_g hK fun r1 e1 hK => ?_)
  refine And.intro trivial (SG_g hK fun s2 e2 hK => ?_)
  refine And.intro (fun h3 => ?_) (fun h3 => ?_)
  · have hK := ite_p hK h3
    exact b_Dec_begin_56_c2 hX  hK
  · have hK := ite_n hK h3
    refine And.intro (fun h4 => ?_) (fun h4 => ?_)
    · have hK := ite_p hK h4
      exact b_Dec_begin_56_c2 hX  hK
    · have hK := ite_n hK h4
      refine hX.1 103 I_Dec_begin_67 ok_Dec_begin_67 _ _ _ ?_
      refine And.intro (fun h5 => ?_) (fun h5 => ?_)
      · have hK := ite_p hK h5
        exact b_Dec_begin_103_c2 hX  hK
      · have hK := ite_n hK h5
        refine And.intro (fun h6 => ?_) (fun h6 => ?_)
        · have hK := ite_p hK h6
          exact b_Dec_begin_103_c2 hX  hK
        · have hK := ite_n hK h6
          refine And.intro (fun h7 => ?_) (fun h7 => ?_)
          · have hK := ite_p hK h7
            exact b_Dec_begin_103_c2 hX  hK
          · have hK := ite_n hK h7
            refine And.intro (fun h8 => ?_) (fun h8 => ?_)
            · have hK := ite_p hK h8
              exact b_Dec_begin_103_c2 hX  hK
            · have hK := ite_n hK h8
              refine hX.1 121 I_Dec_begin_119 ok_Dec_begin_119 _ _ _ ?_
              exact And.intro (Or.inr rfl) hK
def f_Dec_begin_121_c1 (σ : Sg)  : Int32 × Sg := (f_Dec_begin_23_c2 σ)
theorem z_Dec_begin_121_c1 {σ : Sg}    : (f_Dec_begin_121_c1 σ ).1 = 0 ∨ (f_Dec_begin_121_c1 σ ).1 = 1 := by
  show Zb (f_Dec_begin_121_c1 σ )
  unfold f_Dec_begin_121_c1
  exact z_Dec_begin_23_c2  
abbrev w_Dec_begin_121_c1 : List (Nat × Option Nat) := [(3, some 2), (14, some 3), (14, some 4), (14, some 8)]
theorem p_Dec_begin_121_c1 {P : Sg → Prop} (hP : WP w_Dec_begin_121_c1 P) {σ : Sg}  (h : P σ) : PP P (f_Dec_begin_121_c1 σ ) := by
  unfold f_Dec_begin_121_c1
  exact p_Dec_begin_23_c2 (wsub hP rfl) h
set_option maxRecDepth 100000 in
set_option maxHeartbeats 4000000 in
theorem b_Dec_begin_121_c1 {l : Launch} {ad : Nat → Nat} {D : va_G} {cI : ClassId} {K : Option Value → Sg → Prop} {X : Nat → List Value → List Value → Sg → Prop} (hX : Cl l ad D cI mi_Dec_begin pt_Dec K X) {σ : Sg}    (hK : KI K (f_Dec_begin_121_c1 σ )) : X 121 [.ref 14, .int ((0 : Int32) + (1 : Int32))] [] σ := by
  unfold f_Dec_begin_121_c1 at hK
  refine hX.1 127 I_Dec_begin_121 ok_Dec_begin_121 _ _ _ ?_
  exact b_Dec_begin_23_c2 hX  hK
def f_Dec_begin_56_c1 (σ : Sg)  : Int32 × Sg := (bnd (up2 σ 14 4 (σ 14 3)) fun s1 => (f_Dec_begin_121_c1 s1))
theorem z_Dec_begin_56_c1 {σ : Sg}    : (f_Dec_begin_56_c1 σ ).1 = 0 ∨ (f_Dec_begin_56_c1 σ ).1 = 1 := by
  show Zb (f_Dec_begin_56_c1 σ )
  unfold f_Dec_begin_56_c1
  refine bnd_z fun s1 e1 => ?_
  exact z_Dec_begin_121_c1  
abbrev w_Dec_begin_56_c1 : List (Nat × Option Nat) := [(3, some 2), (14, some 3), (14, some 4), (14, some 8)]
theorem p_Dec_begin_56_c1 {P : Sg → Prop} (hP : WP w_Dec_begin_56_c1 P) {σ : Sg}  (h : P σ) : PP P (f_Dec_begin_56_c1 σ ) := by
  unfold f_Dec_begin_56_c1
  refine bnd_zz (Z := P) (hP _ _ _ _ (Or.inr (by decide)) h) fun s1 e1 q1 => ?_
  exact p_Dec_begin_121_c1 (wsub hP rfl) q1
set_option maxRecDepth 100000 in
set_option maxHeartbeats 4000000 in
theorem b_Dec_begin_56_c1 {l : Launch} {ad : Nat → Nat} {D : va_G} {cI : ClassId} {K : Option Value → Sg → Prop} {X : Nat → List Value → List Value → Sg → Prop} (hX : Cl l ad D cI mi_Dec_begin pt_Dec K X) {σ : Sg}    (hK : KI K (f_Dec_begin_56_c1 σ )) : X 56 [.ref 14, .int ((0 : Int32) + (1 : Int32))] [] σ := by
  unfold f_Dec_begin_56_c1 at hK
  refine hX.1 67 I_Dec_begin_56 ok_Dec_begin_56 _ _ _ ?_
  refine And.intro trivial (SG_g hK fun s1 e1 hK => ?_)
  exact b_Dec_begin_121_c1 hX  hK
def f_Dec_begin_103_c1 (σ : Sg)  : Int32 × Sg := (bnd (up2 σ 14 8 (((σ 14 3) - (38 : Int32)) >>> ((3 : Int32) &&& 31 : Int32))) fun s1 => (f_Dec_begin_121_c1 s1))
theorem z_Dec_begin_103_c1 {σ : Sg}    : (f_Dec_begin_103_c1 σ ).1 = 0 ∨ (f_Dec_begin_103_c1 σ ).1 = 1 := by
  show Zb (f_Dec_begin_103_c1 σ )
  unfold f_Dec_begin_103_c1
  refine bnd_z fun s1 e1 => ?_
  exact z_Dec_begin_121_c1  
abbrev w_Dec_begin_103_c1 : List (Nat × Option Nat) := [(3, some 2), (14, some 3), (14, some 4), (14, some 8)]
theorem p_Dec_begin_103_c1 {P : Sg → Prop} (hP : WP w_Dec_begin_103_c1 P) {σ : Sg}  (h : P σ) : PP P (f_Dec_begin_103_c1 σ ) := by
  unfold f_Dec_begin_103_c1
  refine bnd_zz (Z := P) (hP _ _ _ _ (Or.inr (by decide)) h) fun s1 e1 q1 => ?_
  exact p_Dec_begin_121_c1 (wsub hP rfl) q1
set_option maxRecDepth 100000 in
set_option maxHeartbeats 4000000 in
theorem b_Dec_begin_103_c1 {l : Launch} {ad : Nat → Nat} {D : va_G} {cI : ClassId} {K : Option Value → Sg → Prop} {X : Nat → List Value → List Value → Sg → Prop} (hX : Cl l ad D cI mi_Dec_begin pt_Dec K X) {σ : Sg}    (hK : KI K (f_Dec_begin_103_c1 σ )) : X 103 [.ref 14, .int ((0 : Int32) + (1 : Int32))] [] σ := by
  unfold f_Dec_begin_103_c1 at hK
  refine hX.1 119 I_Dec_begin_103 ok_Dec_begin_103 _ _ _ ?_
  refine And.intro trivial (SG_g hK fun s1 e1 hK => ?_)
  exact b_Dec_begin_121_c1 hX  hK
def f_Dec_begin_23_c1 (σ : Sg)  : Int32 × Sg := (bnd (f_Dec_nextByte σ) fun r1 => bnd (up2 r1.2 14 3 r1.1) fun s2 => (if (s2 14 3) = (243 : Int32) then (f_Dec_begin_56_c1 s2) else (if (s2 14 3) = (242 : Int32) then (f_Dec_begin_56_c1 s2) else (if (s2 14 3) = (38 : Int32) then (f_Dec_begin_103_c1 s2) else (if (s2 14 3) = (46 : Int32) then (f_Dec_begin_103_c1 s2) else (if (s2 14 3) = (54 : Int32) then (f_Dec_begin_103_c1 s2) else (if (s2 14 3) = (62 : Int32) then (f_Dec_begin_103_c1 s2) else ((1 : Int32), s2))))))))
theorem z_Dec_begin_23_c1 {σ : Sg}    : (f_Dec_begin_23_c1 σ ).1 = 0 ∨ (f_Dec_begin_23_c1 σ ).1 = 1 := by
  show Zb (f_Dec_begin_23_c1 σ )
  unfold f_Dec_begin_23_c1
  refine bnd_z fun r1 e1 => ?_
  refine bnd_z fun s2 e2 => ?_
  refine ite_z (fun h3 => ?_) (fun h3 => ?_)
  · exact z_Dec_begin_56_c1
  · refine ite_z (fun h4 => ?_) (fun h4 => ?_)
    · exact z_Dec_begin_56_c1
    · refine ite_z (fun h5 => ?_) (fun h5 => ?_)
      · exact z_Dec_begin_103_c1
      · refine ite_z (fun h6 => ?_) (fun h6 => ?_)
        · exact z_Dec_begin_103_c1
        · refine ite_z (fun h7 => ?_) (fun h7 => ?_)
          · exact z_Dec_begin_103_c1
          · refine ite_z (fun h8 => ?_) (fun h8 => ?_)
            · exact z_Dec_begin_103_c1
            · exact (Or.inr rfl)
abbrev w_Dec_begin_23_c1 : List (Nat × Option Nat) := [(3, some 2), (14, some 3), (14, some 4), (14, some 8)]
theorem p_Dec_begin_23_c1 {P : Sg → Prop} (hP : WP w_Dec_begin_23_c1 P) {σ : Sg}  (h : P σ) : PP P (f_Dec_begin_23_c1 σ ) := by
  unfold f_Dec_begin_23_c1
  refine bnd_zz (Z := PP P) (p_Dec_nextByte (wsub hP rfl) h) fun r1 e1 q1 => ?_
  refine bnd_zz (Z := P) (hP _ _ _ _ (Or.inr (by decide)) q1) fun s2 e2 q2 => ?_
  refine ite_z (fun _ => ?_) (fun _ => ?_)
  · exact p_Dec_begin_56_c1 (wsub hP rfl) q2
  · refine ite_z (fun _ => ?_) (fun _ => ?_)
    · exact p_Dec_begin_56_c1 (wsub hP rfl) q2
    · refine ite_z (fun _ => ?_) (fun _ => ?_)
      · exact p_Dec_begin_103_c1 (wsub hP rfl) q2
      · refine ite_z (fun _ => ?_) (fun _ => ?_)
        · exact p_Dec_begin_103_c1 (wsub hP rfl) q2
        · refine ite_z (fun _ => ?_) (fun _ => ?_)
          · exact p_Dec_begin_103_c1 (wsub hP rfl) q2
          · refine ite_z (fun _ => ?_) (fun _ => ?_)
            · exact p_Dec_begin_103_c1 (wsub hP rfl) q2
            · exact q2
set_option maxRecDepth 100000 in
set_option maxHeartbeats 4000000 in
theorem b_Dec_begin_23_c1 {l : Launch} {ad : Nat → Nat} {D : va_G} {cI : ClassId} {K : Option Value → Sg → Prop} {X : Nat → List Value → List Value → Sg → Prop} (hX : Cl l ad D cI mi_Dec_begin pt_Dec K X) {σ : Sg}    (hK : KI K (f_Dec_begin_23_c1 σ )) : X 23 [.ref 14, .int ((0 : Int32) + (1 : Int32))] [] σ := by
  unfold f_Dec_begin_23_c1 at hK
  refine hX.1 56 I_Dec_begin_23 ok_Dec_begin_23 _ _ _ ?_
  refine And.intro (fun h => absurd h (by decide)) (fun _ => ?_)
  refine s_Dec_nextByte (bnd_g hK fun r1 e1 hK => ?_)
  refine And.intro trivial (SG_g hK fun s2 e2 hK => ?_)
  refine And.intro (fun h3 => ?_) (fun h3 => ?_)
  · have hK := ite_p hK h3
    exact b_Dec_begin_56_c1 hX  hK
  · have hK := ite_n hK h3
    refine And.intro (fun h4 => ?_) (fun h4 => ?_)
    · have hK := ite_p hK h4
      exact b_Dec_begin_56_c1 hX  hK
    · have hK := ite_n hK h4
      refine hX.1 103 I_Dec_begin_67 ok_Dec_begin_67 _ _ _ ?_
      refine And.intro (fun h5 => ?_) (fun h5 => ?_)
      · have hK := ite_p hK h5
        exact b_Dec_begin_103_c1 hX  hK
      · have hK := ite_n hK h5
        refine And.intro (fun h6 => ?_) (fun h6 => ?_)
        · have hK := ite_p hK h6
          exact b_Dec_begin_103_c1 hX  hK
        · have hK := ite_n hK h6
          refine And.intro (fun h7 => ?_) (fun h7 => ?_)
          · have hK := ite_p hK h7
            exact b_Dec_begin_103_c1 hX  hK
          · have hK := ite_n hK h7
            refine And.intro (fun h8 => ?_) (fun h8 => ?_)
            · have hK := ite_p hK h8
              exact b_Dec_begin_103_c1 hX  hK
            · have hK := ite_n hK h8
              refine hX.1 121 I_Dec_begin_119 ok_Dec_begin_119 _ _ _ ?_
              exact And.intro (Or.inr rfl) hK
def f_Dec_begin_121_c0 (σ : Sg)  : Int32 × Sg := (f_Dec_begin_23_c1 σ)
theorem z_Dec_begin_121_c0 {σ : Sg}    : (f_Dec_begin_121_c0 σ ).1 = 0 ∨ (f_Dec_begin_121_c0 σ ).1 = 1 := by
  show Zb (f_Dec_begin_121_c0 σ )
  unfold f_Dec_begin_121_c0
  exact z_Dec_begin_23_c1  
abbrev w_Dec_begin_121_c0 : List (Nat × Option Nat) := [(3, some 2), (14, some 3), (14, some 4), (14, some 8)]
theorem p_Dec_begin_121_c0 {P : Sg → Prop} (hP : WP w_Dec_begin_121_c0 P) {σ : Sg}  (h : P σ) : PP P (f_Dec_begin_121_c0 σ ) := by
  unfold f_Dec_begin_121_c0
  exact p_Dec_begin_23_c1 (wsub hP rfl) h
set_option maxRecDepth 100000 in
set_option maxHeartbeats 4000000 in
theorem b_Dec_begin_121_c0 {l : Launch} {ad : Nat → Nat} {D : va_G} {cI : ClassId} {K : Option Value → Sg → Prop} {X : Nat → List Value → List Value → Sg → Prop} (hX : Cl l ad D cI mi_Dec_begin pt_Dec K X) {σ : Sg}    (hK : KI K (f_Dec_begin_121_c0 σ )) : X 121 [.ref 14, .int (0 : Int32)] [] σ := by
  unfold f_Dec_begin_121_c0 at hK
  refine hX.1 127 I_Dec_begin_121 ok_Dec_begin_121 _ _ _ ?_
  exact b_Dec_begin_23_c1 hX  hK
def f_Dec_begin_56_c0 (σ : Sg)  : Int32 × Sg := (bnd (up2 σ 14 4 (σ 14 3)) fun s1 => (f_Dec_begin_121_c0 s1))
theorem z_Dec_begin_56_c0 {σ : Sg}    : (f_Dec_begin_56_c0 σ ).1 = 0 ∨ (f_Dec_begin_56_c0 σ ).1 = 1 := by
  show Zb (f_Dec_begin_56_c0 σ )
  unfold f_Dec_begin_56_c0
  refine bnd_z fun s1 e1 => ?_
  exact z_Dec_begin_121_c0  
abbrev w_Dec_begin_56_c0 : List (Nat × Option Nat) := [(3, some 2), (14, some 3), (14, some 4), (14, some 8)]
theorem p_Dec_begin_56_c0 {P : Sg → Prop} (hP : WP w_Dec_begin_56_c0 P) {σ : Sg}  (h : P σ) : PP P (f_Dec_begin_56_c0 σ ) := by
  unfold f_Dec_begin_56_c0
  refine bnd_zz (Z := P) (hP _ _ _ _ (Or.inr (by decide)) h) fun s1 e1 q1 => ?_
  exact p_Dec_begin_121_c0 (wsub hP rfl) q1
set_option maxRecDepth 100000 in
set_option maxHeartbeats 4000000 in
theorem b_Dec_begin_56_c0 {l : Launch} {ad : Nat → Nat} {D : va_G} {cI : ClassId} {K : Option Value → Sg → Prop} {X : Nat → List Value → List Value → Sg → Prop} (hX : Cl l ad D cI mi_Dec_begin pt_Dec K X) {σ : Sg}    (hK : KI K (f_Dec_begin_56_c0 σ )) : X 56 [.ref 14, .int (0 : Int32)] [] σ := by
  unfold f_Dec_begin_56_c0 at hK
  refine hX.1 67 I_Dec_begin_56 ok_Dec_begin_56 _ _ _ ?_
  refine And.intro trivial (SG_g hK fun s1 e1 hK => ?_)
  exact b_Dec_begin_121_c0 hX  hK
def f_Dec_begin_103_c0 (σ : Sg)  : Int32 × Sg := (bnd (up2 σ 14 8 (((σ 14 3) - (38 : Int32)) >>> ((3 : Int32) &&& 31 : Int32))) fun s1 => (f_Dec_begin_121_c0 s1))
theorem z_Dec_begin_103_c0 {σ : Sg}    : (f_Dec_begin_103_c0 σ ).1 = 0 ∨ (f_Dec_begin_103_c0 σ ).1 = 1 := by
  show Zb (f_Dec_begin_103_c0 σ )
  unfold f_Dec_begin_103_c0
  refine bnd_z fun s1 e1 => ?_
  exact z_Dec_begin_121_c0  
abbrev w_Dec_begin_103_c0 : List (Nat × Option Nat) := [(3, some 2), (14, some 3), (14, some 4), (14, some 8)]
theorem p_Dec_begin_103_c0 {P : Sg → Prop} (hP : WP w_Dec_begin_103_c0 P) {σ : Sg}  (h : P σ) : PP P (f_Dec_begin_103_c0 σ ) := by
  unfold f_Dec_begin_103_c0
  refine bnd_zz (Z := P) (hP _ _ _ _ (Or.inr (by decide)) h) fun s1 e1 q1 => ?_
  exact p_Dec_begin_121_c0 (wsub hP rfl) q1
set_option maxRecDepth 100000 in
set_option maxHeartbeats 4000000 in
theorem b_Dec_begin_103_c0 {l : Launch} {ad : Nat → Nat} {D : va_G} {cI : ClassId} {K : Option Value → Sg → Prop} {X : Nat → List Value → List Value → Sg → Prop} (hX : Cl l ad D cI mi_Dec_begin pt_Dec K X) {σ : Sg}    (hK : KI K (f_Dec_begin_103_c0 σ )) : X 103 [.ref 14, .int (0 : Int32)] [] σ := by
  unfold f_Dec_begin_103_c0 at hK
  refine hX.1 119 I_Dec_begin_103 ok_Dec_begin_103 _ _ _ ?_
  refine And.intro trivial (SG_g hK fun s1 e1 hK => ?_)
  exact b_Dec_begin_121_c0 hX  hK
def f_Dec_begin_23_c0 (σ : Sg)  : Int32 × Sg := (bnd (f_Dec_nextByte σ) fun r1 => bnd (up2 r1.2 14 3 r1.1) fun s2 => (if (s2 14 3) = (243 : Int32) then (f_Dec_begin_56_c0 s2) else (if (s2 14 3) = (242 : Int32) then (f_Dec_begin_56_c0 s2) else (if (s2 14 3) = (38 : Int32) then (f_Dec_begin_103_c0 s2) else (if (s2 14 3) = (46 : Int32) then (f_Dec_begin_103_c0 s2) else (if (s2 14 3) = (54 : Int32) then (f_Dec_begin_103_c0 s2) else (if (s2 14 3) = (62 : Int32) then (f_Dec_begin_103_c0 s2) else ((1 : Int32), s2))))))))
theorem z_Dec_begin_23_c0 {σ : Sg}    : (f_Dec_begin_23_c0 σ ).1 = 0 ∨ (f_Dec_begin_23_c0 σ ).1 = 1 := by
  show Zb (f_Dec_begin_23_c0 σ )
  unfold f_Dec_begin_23_c0
  refine bnd_z fun r1 e1 => ?_
  refine bnd_z fun s2 e2 => ?_
  refine ite_z (fun h3 => ?_) (fun h3 => ?_)
  · exact z_Dec_begin_56_c0
  · refine ite_z (fun h4 => ?_) (fun h4 => ?_)
    · exact z_Dec_begin_56_c0
    · refine ite_z (fun h5 => ?_) (fun h5 => ?_)
      · exact z_Dec_begin_103_c0
      · refine ite_z (fun h6 => ?_) (fun h6 => ?_)
        · exact z_Dec_begin_103_c0
        · refine ite_z (fun h7 => ?_) (fun h7 => ?_)
          · exact z_Dec_begin_103_c0
          · refine ite_z (fun h8 => ?_) (fun h8 => ?_)
            · exact z_Dec_begin_103_c0
            · exact (Or.inr rfl)
abbrev w_Dec_begin_23_c0 : List (Nat × Option Nat) := [(3, some 2), (14, some 3), (14, some 4), (14, some 8)]
theorem p_Dec_begin_23_c0 {P : Sg → Prop} (hP : WP w_Dec_begin_23_c0 P) {σ : Sg}  (h : P σ) : PP P (f_Dec_begin_23_c0 σ ) := by
  unfold f_Dec_begin_23_c0
  refine bnd_zz (Z := PP P) (p_Dec_nextByte (wsub hP rfl) h) fun r1 e1 q1 => ?_
  refine bnd_zz (Z := P) (hP _ _ _ _ (Or.inr (by decide)) q1) fun s2 e2 q2 => ?_
  refine ite_z (fun _ => ?_) (fun _ => ?_)
  · exact p_Dec_begin_56_c0 (wsub hP rfl) q2
  · refine ite_z (fun _ => ?_) (fun _ => ?_)
    · exact p_Dec_begin_56_c0 (wsub hP rfl) q2
    · refine ite_z (fun _ => ?_) (fun _ => ?_)
      · exact p_Dec_begin_103_c0 (wsub hP rfl) q2
      · refine ite_z (fun _ => ?_) (fun _ => ?_)
        · exact p_Dec_begin_103_c0 (wsub hP rfl) q2
        · refine ite_z (fun _ => ?_) (fun _ => ?_)
          · exact p_Dec_begin_103_c0 (wsub hP rfl) q2
          · refine ite_z (fun _ => ?_) (fun _ => ?_)
            · exact p_Dec_begin_103_c0 (wsub hP rfl) q2
            · exact q2
set_option maxRecDepth 100000 in
set_option maxHeartbeats 4000000 in
theorem b_Dec_begin_23_c0 {l : Launch} {ad : Nat → Nat} {D : va_G} {cI : ClassId} {K : Option Value → Sg → Prop} {X : Nat → List Value → List Value → Sg → Prop} (hX : Cl l ad D cI mi_Dec_begin pt_Dec K X) {σ : Sg}    (hK : KI K (f_Dec_begin_23_c0 σ )) : X 23 [.ref 14, .int (0 : Int32)] [] σ := by
  unfold f_Dec_begin_23_c0 at hK
  refine hX.1 56 I_Dec_begin_23 ok_Dec_begin_23 _ _ _ ?_
  refine And.intro (fun h => absurd h (by decide)) (fun _ => ?_)
  refine s_Dec_nextByte (bnd_g hK fun r1 e1 hK => ?_)
  refine And.intro trivial (SG_g hK fun s2 e2 hK => ?_)
  refine And.intro (fun h3 => ?_) (fun h3 => ?_)
  · have hK := ite_p hK h3
    exact b_Dec_begin_56_c0 hX  hK
  · have hK := ite_n hK h3
    refine And.intro (fun h4 => ?_) (fun h4 => ?_)
    · have hK := ite_p hK h4
      exact b_Dec_begin_56_c0 hX  hK
    · have hK := ite_n hK h4
      refine hX.1 103 I_Dec_begin_67 ok_Dec_begin_67 _ _ _ ?_
      refine And.intro (fun h5 => ?_) (fun h5 => ?_)
      · have hK := ite_p hK h5
        exact b_Dec_begin_103_c0 hX  hK
      · have hK := ite_n hK h5
        refine And.intro (fun h6 => ?_) (fun h6 => ?_)
        · have hK := ite_p hK h6
          exact b_Dec_begin_103_c0 hX  hK
        · have hK := ite_n hK h6
          refine And.intro (fun h7 => ?_) (fun h7 => ?_)
          · have hK := ite_p hK h7
            exact b_Dec_begin_103_c0 hX  hK
          · have hK := ite_n hK h7
            refine And.intro (fun h8 => ?_) (fun h8 => ?_)
            · have hK := ite_p hK h8
              exact b_Dec_begin_103_c0 hX  hK
            · have hK := ite_n hK h8
              refine hX.1 121 I_Dec_begin_119 ok_Dec_begin_119 _ _ _ ?_
              exact And.intro (Or.inr rfl) hK
def f_Dec_begin (σ : Sg)  : Int32 × Sg := (bnd (up2 σ 14 2 (σ 3 2)) fun s1 => bnd (up2 s1 14 8 (-1 : Int32)) fun s2 => bnd (up2 s2 14 4 (0 : Int32)) fun s3 => (f_Dec_begin_23_c0 s3))
theorem z_Dec_begin {σ : Sg}    : (f_Dec_begin σ ).1 = 0 ∨ (f_Dec_begin σ ).1 = 1 := by
  show Zb (f_Dec_begin σ )
  unfold f_Dec_begin
  refine bnd_z fun s1 e1 => ?_
  refine bnd_z fun s2 e2 => ?_
  refine bnd_z fun s3 e3 => ?_
  exact z_Dec_begin_23_c0  
abbrev w_Dec_begin : List (Nat × Option Nat) := [(3, some 2), (14, some 2), (14, some 3), (14, some 4), (14, some 8)]
theorem p_Dec_begin {P : Sg → Prop} (hP : WP w_Dec_begin P) {σ : Sg}  (h : P σ) : PP P (f_Dec_begin σ ) := by
  unfold f_Dec_begin
  refine bnd_zz (Z := P) (hP _ _ _ _ (Or.inr (by decide)) h) fun s1 e1 q1 => ?_
  refine bnd_zz (Z := P) (hP _ _ _ _ (Or.inr (by decide)) q1) fun s2 e2 q2 => ?_
  refine bnd_zz (Z := P) (hP _ _ _ _ (Or.inr (by decide)) q2) fun s3 e3 q3 => ?_
  exact p_Dec_begin_23_c0 (wsub hP rfl) q3
set_option maxRecDepth 100000 in
set_option maxHeartbeats 4000000 in
theorem s_Dec_begin {l : Launch} {ad : Nat → Nat} {D : va_G} {cI : ClassId} {σ : Sg}  {K : Option Value → Sg → Prop}   (hK : KI K (f_Dec_begin σ )) : MetJ l ad D cI mi_Dec_begin [.ref 14] σ K := by
  refine met_of mi_Dec_begin pt_Dec pt_Dec_in rfl pl_Dec rfl (Nat.le_of_ble_eq_true rfl) fun X hX => ?_
  have hX : Cl l ad D cI mi_Dec_begin pt_Dec K X := hX
  show X 0 [.ref 14, .null] [] σ
  unfold f_Dec_begin at hK
  refine hX.1 23 I_Dec_begin_0 ok_Dec_begin_0 _ _ _ ?_
  refine And.intro trivial (SG_g hK fun s1 e1 hK => ?_)
  refine And.intro trivial (SG_g hK fun s2 e2 hK => ?_)
  refine And.intro trivial (SG_g hK fun s3 e3 hK => ?_)
  exact b_Dec_begin_23_c0 hX  hK
def I_Dec_nextWord_0 : List IT := [(0, .aload_n 0, 1, 0, 0, []), (1, .getfield 7, 3, 0, 0, []), (4, .aload_n 0, 1, 0, 0, []), (5, .getfield 13, 3, 0, 0, []), (8, .getfield 39, 3, 0, 0, []), (11, .iconst 1, 1, 1, 0, []), (12, .iaload, 1, 0, 0, []), (13, .aload_n 0, 1, 0, 0, []), (14, .getfield 13, 3, 0, 0, []), (17, .getfield 17, 3, 0, 0, []), (20, .iconst 1, 1, 1, 0, []), (21, .invokevirtual 43, 3, 0, 0, []), (24, .istore_n 1, 1, 0, 0, []), (25, .aload_n 0, 1, 0, 0, []), (26, .getfield 13, 3, 0, 0, []), (29, .aload_n 0, 1, 0, 0, []), (30, .getfield 13, 3, 0, 0, []), (33, .getfield 17, 3, 0, 0, []), (36, .iconst 2, 1, 2, 0, []), (37, .iadd, 1, 0, 0, []), (38, .ldc 49, 2, 65535, 0, []), (40, .iand, 1, 0, 0, []), (41, .putfield 17, 3, 0, 0, []), (44, .iload_n 1, 1, 0, 0, []), (45, .ireturn, 1, 0, 0, [])]
theorem ok_Dec_nextWord_0 : blkOK b_Dec_nextWord pt_Dec 46 I_Dec_nextWord_0 = true := by decide +kernel
def f_Dec_nextWord (σ : Sg)  : Int32 × Sg := (bnd (f_Mem_fetch σ (σ 5 (Int32.toNatClampNeg (1 : Int32))) (σ 3 2) (1 : Int32)) fun r1 => bnd (up2 r1.2 3 2 (((r1.2 3 2) + (2 : Int32)) &&& (65535 : Int32))) fun s2 => (r1.1, s2))
abbrev w_Dec_nextWord : List (Nat × Option Nat) := [(3, some 2)]
theorem p_Dec_nextWord {P : Sg → Prop} (hP : WP w_Dec_nextWord P) {σ : Sg}  (h : P σ) : PP P (f_Dec_nextWord σ ) := by
  unfold f_Dec_nextWord
  refine bnd_zz (Z := PP P) (p_Mem_fetch (wsub hP rfl) h) fun r1 e1 q1 => ?_
  refine bnd_zz (Z := P) (hP _ _ _ _ (Or.inr (by decide)) q1) fun s2 e2 q2 => ?_
  exact q2
set_option maxRecDepth 100000 in
set_option maxHeartbeats 4000000 in
theorem s_Dec_nextWord {l : Launch} {ad : Nat → Nat} {D : va_G} {cI : ClassId} {σ : Sg}  {K : Option Value → Sg → Prop}   (hK : KI K (f_Dec_nextWord σ )) : MetJ l ad D cI mi_Dec_nextWord [.ref 14] σ K := by
  refine met_of mi_Dec_nextWord pt_Dec pt_Dec_in rfl pl_Dec rfl (Nat.le_of_ble_eq_true rfl) fun X hX => ?_
  have hX : Cl l ad D cI mi_Dec_nextWord pt_Dec K X := hX
  show X 0 [.ref 14, .null] [] σ
  unfold f_Dec_nextWord at hK
  refine hX.1 46 I_Dec_nextWord_0 ok_Dec_nextWord_0 _ _ _ ?_
  refine And.intro (vin (by decide)) ?_
  refine s_Mem_fetch (bnd_g hK fun r1 e1 hK => ?_)
  refine And.intro trivial (SG_g hK fun s2 e2 hK => ?_)
  exact hK
def I_Dec_nextSigned_0 : List IT := [(0, .aload_n 0, 1, 0, 0, []), (1, .invokevirtual 32, 3, 0, 0, []), (4, .i2b, 1, 0, 0, []), (5, .ireturn, 1, 0, 0, [])]
theorem ok_Dec_nextSigned_0 : blkOK b_Dec_nextSigned pt_Dec 6 I_Dec_nextSigned_0 = true := by decide +kernel
def f_Dec_nextSigned (σ : Sg)  : Int32 × Sg := (bnd (f_Dec_nextByte σ) fun r1 => ((r1.1 : Int32).toInt8.toInt32, r1.2))
abbrev w_Dec_nextSigned : List (Nat × Option Nat) := [(3, some 2)]
theorem p_Dec_nextSigned {P : Sg → Prop} (hP : WP w_Dec_nextSigned P) {σ : Sg}  (h : P σ) : PP P (f_Dec_nextSigned σ ) := by
  unfold f_Dec_nextSigned
  refine bnd_zz (Z := PP P) (p_Dec_nextByte (wsub hP rfl) h) fun r1 e1 q1 => ?_
  exact q1
set_option maxRecDepth 100000 in
set_option maxHeartbeats 4000000 in
theorem s_Dec_nextSigned {l : Launch} {ad : Nat → Nat} {D : va_G} {cI : ClassId} {σ : Sg}  {K : Option Value → Sg → Prop}   (hK : KI K (f_Dec_nextSigned σ )) : MetJ l ad D cI mi_Dec_nextSigned [.ref 14] σ K := by
  refine met_of mi_Dec_nextSigned pt_Dec pt_Dec_in rfl pl_Dec rfl (Nat.le_of_ble_eq_true rfl) fun X hX => ?_
  have hX : Cl l ad D cI mi_Dec_nextSigned pt_Dec K X := hX
  show X 0 [.ref 14] [] σ
  unfold f_Dec_nextSigned at hK
  refine hX.1 6 I_Dec_nextSigned_0 ok_Dec_nextSigned_0 _ _ _ ?_
  refine s_Dec_nextByte (bnd_g hK fun r1 e1 hK => ?_)
  exact hK
def I_Dec_nextOf_0 : List IT := [(0, .iload_n 1, 1, 0, 0, []), (1, .ifCond .eq 10, 3, 0, 11, []), (4, .aload_n 0, 1, 0, 0, []), (5, .invokevirtual 50, 3, 0, 0, []), (8, .goto 7, 3, 0, 15, [])]
theorem ok_Dec_nextOf_0 : blkOK b_Dec_nextOf pt_Dec 11 I_Dec_nextOf_0 = true := by decide +kernel
def I_Dec_nextOf_11 : List IT := [(11, .aload_n 0, 1, 0, 0, []), (12, .invokevirtual 32, 3, 0, 0, [])]
theorem ok_Dec_nextOf_11 : blkOK b_Dec_nextOf pt_Dec 15 I_Dec_nextOf_11 = true := by decide +kernel
def I_Dec_nextOf_15 : List IT := [(15, .ireturn, 1, 0, 0, [])]
theorem ok_Dec_nextOf_15 : blkOK b_Dec_nextOf pt_Dec 16 I_Dec_nextOf_15 = true := by decide +kernel
def f_Dec_nextOf (σ : Sg) (a1 : Int32) : Int32 × Sg := (if a1 = (0 : Int32) then (bnd (f_Dec_nextByte σ) fun r2 => (r2.1, r2.2)) else (bnd (f_Dec_nextWord σ) fun r3 => (r3.1, r3.2)))
abbrev w_Dec_nextOf : List (Nat × Option Nat) := [(3, some 2)]
theorem p_Dec_nextOf {P : Sg → Prop} (hP : WP w_Dec_nextOf P) {σ : Sg} {a1 : Int32} (h : P σ) : PP P (f_Dec_nextOf σ a1) := by
  unfold f_Dec_nextOf
  refine ite_z (fun _ => ?_) (fun _ => ?_)
  · refine bnd_zz (Z := PP P) (p_Dec_nextByte (wsub hP rfl) h) fun r2 e2 q2 => ?_
    exact q2
  · refine bnd_zz (Z := PP P) (p_Dec_nextWord (wsub hP rfl) h) fun r3 e3 q3 => ?_
    exact q3
set_option maxRecDepth 100000 in
set_option maxHeartbeats 4000000 in
theorem s_Dec_nextOf {l : Launch} {ad : Nat → Nat} {D : va_G} {cI : ClassId} {σ : Sg} {a1 : Int32} {K : Option Value → Sg → Prop}   (hK : KI K (f_Dec_nextOf σ a1)) : MetJ l ad D cI mi_Dec_nextOf [.ref 14, .int a1] σ K := by
  refine met_of mi_Dec_nextOf pt_Dec pt_Dec_in rfl pl_Dec rfl (Nat.le_of_ble_eq_true rfl) fun X hX => ?_
  have hX : Cl l ad D cI mi_Dec_nextOf pt_Dec K X := hX
  show X 0 [.ref 14, .int a1] [] σ
  unfold f_Dec_nextOf at hK
  refine hX.1 11 I_Dec_nextOf_0 ok_Dec_nextOf_0 _ _ _ ?_
  refine And.intro (fun h1 => ?_) (fun h1 => ?_)
  · have hK := ite_p hK h1
    refine hX.1 15 I_Dec_nextOf_11 ok_Dec_nextOf_11 _ _ _ ?_
    refine s_Dec_nextByte (bnd_g hK fun r2 e2 hK => ?_)
    refine hX.1 16 I_Dec_nextOf_15 ok_Dec_nextOf_15 _ _ _ ?_
    exact hK
  · have hK := ite_n hK h1
    refine s_Dec_nextWord (bnd_g hK fun r3 e3 hK => ?_)
    refine hX.1 16 I_Dec_nextOf_15 ok_Dec_nextOf_15 _ _ _ ?_
    exact hK
def I_Dec_segmentOr_0 : List IT := [(0, .aload_n 0, 1, 0, 0, []), (1, .getfield 13, 3, 0, 0, []), (4, .getfield 39, 3, 0, 0, []), (7, .aload_n 0, 1, 0, 0, []), (8, .getfield 26, 3, 0, 0, []), (11, .iconst (-1), 1, (-1), 0, []), (12, .if_icmp .ne 7, 3, 0, 19, []), (15, .iload_n 1, 1, 0, 0, []), (16, .goto 7, 3, 0, 23, [])]
theorem ok_Dec_segmentOr_0 : blkOK b_Dec_segmentOr pt_Dec 19 I_Dec_segmentOr_0 = true := by decide +kernel
def I_Dec_segmentOr_19 : List IT := [(19, .aload_n 0, 1, 0, 0, []), (20, .getfield 26, 3, 0, 0, [])]
theorem ok_Dec_segmentOr_19 : blkOK b_Dec_segmentOr pt_Dec 23 I_Dec_segmentOr_19 = true := by decide +kernel
def I_Dec_segmentOr_23 : List IT := [(23, .iconst 3, 1, 3, 0, []), (24, .iand, 1, 0, 0, []), (25, .iaload, 1, 0, 0, []), (26, .ireturn, 1, 0, 0, [])]
theorem ok_Dec_segmentOr_23 : blkOK b_Dec_segmentOr pt_Dec 27 I_Dec_segmentOr_23 = true := by decide +kernel
def f_Dec_segmentOr (σ : Sg) (a1 : Int32) : Int32 × Sg := (if (σ 14 8) = (-1 : Int32) then ((σ 5 (Int32.toNatClampNeg (a1 &&& (3 : Int32)))), σ) else ((σ 5 (Int32.toNatClampNeg ((σ 14 8) &&& (3 : Int32)))), σ))
abbrev w_Dec_segmentOr : List (Nat × Option Nat) := []
theorem p_Dec_segmentOr {P : Sg → Prop} (hP : WP w_Dec_segmentOr P) {σ : Sg} {a1 : Int32} (h : P σ) : PP P (f_Dec_segmentOr σ a1) := by
  unfold f_Dec_segmentOr
  refine ite_z (fun _ => ?_) (fun _ => ?_)
  · exact h
  · exact h
set_option maxRecDepth 100000 in
set_option maxHeartbeats 4000000 in
theorem s_Dec_segmentOr {l : Launch} {ad : Nat → Nat} {D : va_G} {cI : ClassId} {σ : Sg} {a1 : Int32} {K : Option Value → Sg → Prop}   (hK : KI K (f_Dec_segmentOr σ a1)) : MetJ l ad D cI mi_Dec_segmentOr [.ref 14, .int a1] σ K := by
  refine met_of mi_Dec_segmentOr pt_Dec pt_Dec_in rfl pl_Dec rfl (Nat.le_of_ble_eq_true rfl) fun X hX => ?_
  have hX : Cl l ad D cI mi_Dec_segmentOr pt_Dec K X := hX
  show X 0 [.ref 14, .int a1] [] σ
  unfold f_Dec_segmentOr at hK
  refine hX.1 19 I_Dec_segmentOr_0 ok_Dec_segmentOr_0 _ _ _ ?_
  refine And.intro (fun h1 => ?_) (fun h1 => ?_)
  · have hK := ite_p hK h1
    refine hX.1 27 I_Dec_segmentOr_23 ok_Dec_segmentOr_23 _ _ _ ?_
    refine And.intro (pk_andIn _ 2 rfl (by decide)) ?_
    exact hK
  · have hK := ite_n hK h1
    refine hX.1 23 I_Dec_segmentOr_19 ok_Dec_segmentOr_19 _ _ _ ?_
    refine hX.1 27 I_Dec_segmentOr_23 ok_Dec_segmentOr_23 _ _ _ ?_
    refine And.intro (pk_andIn _ 2 rfl (by decide)) ?_
    exact hK
def I_Dec_base_0 : List IT := [(0, .aload_n 0, 1, 0, 0, []), (1, .getfield 13, 3, 0, 0, []), (4, .getfield 91, 3, 0, 0, []), (7, .astore_n 1, 1, 0, 0, []), (8, .aload_n 0, 1, 0, 0, []), (9, .getfield 56, 3, 0, 0, []), (12, .tableswitch 94 0 6 #[44, 53, 62, 71, 80, 85, 90], 44, 0, 106, [(0, 56), (1, 65), (2, 74), (3, 83), (4, 92), (5, 97), (6, 102)])]
theorem ok_Dec_base_0 : blkOK b_Dec_base pt_Dec 56 I_Dec_base_0 = true := by decide +kernel
def I_Dec_base_56 : List IT := [(56, .aload_n 1, 1, 0, 0, []), (57, .iconst 3, 1, 3, 0, []), (58, .iaload, 1, 0, 0, []), (59, .aload_n 1, 1, 0, 0, []), (60, .bipush 6, 2, 6, 0, []), (62, .iaload, 1, 0, 0, []), (63, .iadd, 1, 0, 0, []), (64, .ireturn, 1, 0, 0, [])]
theorem ok_Dec_base_56 : blkOK b_Dec_base pt_Dec 65 I_Dec_base_56 = true := by decide +kernel
def I_Dec_base_65 : List IT := [(65, .aload_n 1, 1, 0, 0, []), (66, .iconst 3, 1, 3, 0, []), (67, .iaload, 1, 0, 0, []), (68, .aload_n 1, 1, 0, 0, []), (69, .bipush 7, 2, 7, 0, []), (71, .iaload, 1, 0, 0, []), (72, .iadd, 1, 0, 0, []), (73, .ireturn, 1, 0, 0, [])]
theorem ok_Dec_base_65 : blkOK b_Dec_base pt_Dec 74 I_Dec_base_65 = true := by decide +kernel
def I_Dec_base_74 : List IT := [(74, .aload_n 1, 1, 0, 0, []), (75, .iconst 5, 1, 5, 0, []), (76, .iaload, 1, 0, 0, []), (77, .aload_n 1, 1, 0, 0, []), (78, .bipush 6, 2, 6, 0, []), (80, .iaload, 1, 0, 0, []), (81, .iadd, 1, 0, 0, []), (82, .ireturn, 1, 0, 0, [])]
theorem ok_Dec_base_74 : blkOK b_Dec_base pt_Dec 83 I_Dec_base_74 = true := by decide +kernel
def I_Dec_base_83 : List IT := [(83, .aload_n 1, 1, 0, 0, []), (84, .iconst 5, 1, 5, 0, []), (85, .iaload, 1, 0, 0, []), (86, .aload_n 1, 1, 0, 0, []), (87, .bipush 7, 2, 7, 0, []), (89, .iaload, 1, 0, 0, []), (90, .iadd, 1, 0, 0, []), (91, .ireturn, 1, 0, 0, [])]
theorem ok_Dec_base_83 : blkOK b_Dec_base pt_Dec 92 I_Dec_base_83 = true := by decide +kernel
def I_Dec_base_92 : List IT := [(92, .aload_n 1, 1, 0, 0, []), (93, .bipush 6, 2, 6, 0, []), (95, .iaload, 1, 0, 0, []), (96, .ireturn, 1, 0, 0, [])]
theorem ok_Dec_base_92 : blkOK b_Dec_base pt_Dec 97 I_Dec_base_92 = true := by decide +kernel
def I_Dec_base_97 : List IT := [(97, .aload_n 1, 1, 0, 0, []), (98, .bipush 7, 2, 7, 0, []), (100, .iaload, 1, 0, 0, []), (101, .ireturn, 1, 0, 0, [])]
theorem ok_Dec_base_97 : blkOK b_Dec_base pt_Dec 102 I_Dec_base_97 = true := by decide +kernel
def I_Dec_base_102 : List IT := [(102, .aload_n 1, 1, 0, 0, []), (103, .iconst 5, 1, 5, 0, []), (104, .iaload, 1, 0, 0, []), (105, .ireturn, 1, 0, 0, [])]
theorem ok_Dec_base_102 : blkOK b_Dec_base pt_Dec 106 I_Dec_base_102 = true := by decide +kernel
def I_Dec_base_106 : List IT := [(106, .aload_n 1, 1, 0, 0, []), (107, .iconst 3, 1, 3, 0, []), (108, .iaload, 1, 0, 0, []), (109, .ireturn, 1, 0, 0, [])]
theorem ok_Dec_base_106 : blkOK b_Dec_base pt_Dec 110 I_Dec_base_106 = true := by decide +kernel
def f_Dec_base (σ : Sg)  : Int32 × Sg := (if (σ 14 9) = (0 : Int32) then (((σ 4 (Int32.toNatClampNeg (3 : Int32))) + (σ 4 (Int32.toNatClampNeg (6 : Int32)))), σ) else (if (σ 14 9) = (1 : Int32) then (((σ 4 (Int32.toNatClampNeg (3 : Int32))) + (σ 4 (Int32.toNatClampNeg (7 : Int32)))), σ) else (if (σ 14 9) = (2 : Int32) then (((σ 4 (Int32.toNatClampNeg (5 : Int32))) + (σ 4 (Int32.toNatClampNeg (6 : Int32)))), σ) else (if (σ 14 9) = (3 : Int32) then (((σ 4 (Int32.toNatClampNeg (5 : Int32))) + (σ 4 (Int32.toNatClampNeg (7 : Int32)))), σ) else (if (σ 14 9) = (4 : Int32) then ((σ 4 (Int32.toNatClampNeg (6 : Int32))), σ) else (if (σ 14 9) = (5 : Int32) then ((σ 4 (Int32.toNatClampNeg (7 : Int32))), σ) else (if (σ 14 9) = (6 : Int32) then ((σ 4 (Int32.toNatClampNeg (5 : Int32))), σ) else ((σ 4 (Int32.toNatClampNeg (3 : Int32))), σ))))))))
abbrev w_Dec_base : List (Nat × Option Nat) := []
theorem p_Dec_base {P : Sg → Prop} (hP : WP w_Dec_base P) {σ : Sg}  (h : P σ) : PP P (f_Dec_base σ ) := by
  unfold f_Dec_base
  refine ite_z (fun _ => ?_) (fun _ => ?_)
  · exact h
  refine ite_z (fun _ => ?_) (fun _ => ?_)
  · exact h
  refine ite_z (fun _ => ?_) (fun _ => ?_)
  · exact h
  refine ite_z (fun _ => ?_) (fun _ => ?_)
  · exact h
  refine ite_z (fun _ => ?_) (fun _ => ?_)
  · exact h
  refine ite_z (fun _ => ?_) (fun _ => ?_)
  · exact h
  refine ite_z (fun _ => ?_) (fun _ => ?_)
  · exact h
  exact h
set_option maxRecDepth 100000 in
set_option maxHeartbeats 4000000 in
theorem s_Dec_base {l : Launch} {ad : Nat → Nat} {D : va_G} {cI : ClassId} {σ : Sg}  {K : Option Value → Sg → Prop}   (hK : KI K (f_Dec_base σ )) : MetJ l ad D cI mi_Dec_base [.ref 14] σ K := by
  refine met_of mi_Dec_base pt_Dec pt_Dec_in rfl pl_Dec rfl (Nat.le_of_ble_eq_true rfl) fun X hX => ?_
  have hX : Cl l ad D cI mi_Dec_base pt_Dec K X := hX
  show X 0 [.ref 14, .null] [] σ
  unfold f_Dec_base at hK
  refine hX.1 56 I_Dec_base_0 ok_Dec_base_0 _ _ _ ?_
  refine And.intro (fun h1 => ?_) (fun h1 => ?_)
  · have hK := ite_p hK h1
    refine hX.1 65 I_Dec_base_56 ok_Dec_base_56 _ _ _ ?_
    refine And.intro (vin (by decide)) ?_
    refine And.intro (vin (by decide)) ?_
    exact hK
  have hK := ite_n hK h1
  refine And.intro (fun h2 => ?_) (fun h2 => ?_)
  · have hK := ite_p hK h2
    refine hX.1 74 I_Dec_base_65 ok_Dec_base_65 _ _ _ ?_
    refine And.intro (vin (by decide)) ?_
    refine And.intro (vin (by decide)) ?_
    exact hK
  have hK := ite_n hK h2
  refine And.intro (fun h3 => ?_) (fun h3 => ?_)
  · have hK := ite_p hK h3
    refine hX.1 83 I_Dec_base_74 ok_Dec_base_74 _ _ _ ?_
    refine And.intro (vin (by decide)) ?_
    refine And.intro (vin (by decide)) ?_
    exact hK
  have hK := ite_n hK h3
  refine And.intro (fun h4 => ?_) (fun h4 => ?_)
  · have hK := ite_p hK h4
    refine hX.1 92 I_Dec_base_83 ok_Dec_base_83 _ _ _ ?_
    refine And.intro (vin (by decide)) ?_
    refine And.intro (vin (by decide)) ?_
    exact hK
  have hK := ite_n hK h4
  refine And.intro (fun h5 => ?_) (fun h5 => ?_)
  · have hK := ite_p hK h5
    refine hX.1 97 I_Dec_base_92 ok_Dec_base_92 _ _ _ ?_
    refine And.intro (vin (by decide)) ?_
    exact hK
  have hK := ite_n hK h5
  refine And.intro (fun h6 => ?_) (fun h6 => ?_)
  · have hK := ite_p hK h6
    refine hX.1 102 I_Dec_base_97 ok_Dec_base_97 _ _ _ ?_
    refine And.intro (vin (by decide)) ?_
    exact hK
  have hK := ite_n hK h6
  refine And.intro (fun h7 => ?_) (fun h7 => ?_)
  · have hK := ite_p hK h7
    refine hX.1 106 I_Dec_base_102 ok_Dec_base_102 _ _ _ ?_
    refine And.intro (vin (by decide)) ?_
    exact hK
  have hK := ite_n hK h7
  refine hX.1 110 I_Dec_base_106 ok_Dec_base_106 _ _ _ ?_
  refine And.intro (vin (by decide)) ?_
  exact hK
def I_Dec_readModrm_0 : List IT := [(0, .aload_n 0, 1, 0, 0, []), (1, .invokevirtual 32, 3, 0, 0, []), (4, .istore_n 2, 1, 0, 0, []), (5, .iload_n 2, 1, 0, 0, []), (6, .bipush 6, 2, 6, 0, []), (8, .ishr, 1, 0, 0, []), (9, .istore_n 3, 1, 0, 0, []), (10, .aload_n 0, 1, 0, 0, []), (11, .iload_n 2, 1, 0, 0, []), (12, .iconst 3, 1, 3, 0, []), (13, .ishr, 1, 0, 0, []), (14, .bipush 7, 2, 7, 0, []), (16, .iand, 1, 0, 0, []), (17, .putfield 53, 3, 0, 0, []), (20, .aload_n 0, 1, 0, 0, []), (21, .iload_n 2, 1, 0, 0, []), (22, .bipush 7, 2, 7, 0, []), (24, .iand, 1, 0, 0, []), (25, .putfield 56, 3, 0, 0, []), (28, .aload_n 0, 1, 0, 0, []), (29, .iload_n 1, 1, 0, 0, []), (30, .putfield 59, 3, 0, 0, []), (33, .aload_n 0, 1, 0, 0, []), (34, .iload_n 3, 1, 0, 0, []), (35, .iconst 3, 1, 3, 0, []), (36, .if_icmp .eq 7, 3, 0, 43, []), (39, .iconst 1, 1, 1, 0, []), (40, .goto 4, 3, 0, 44, [])]
theorem ok_Dec_readModrm_0 : blkOK b_Dec_readModrm pt_Dec 43 I_Dec_readModrm_0 = true := by decide +kernel
def I_Dec_readModrm_43 : List IT := [(43, .iconst 0, 1, 0, 0, [])]
theorem ok_Dec_readModrm_43 : blkOK b_Dec_readModrm pt_Dec 44 I_Dec_readModrm_43 = true := by decide +kernel
def I_Dec_readModrm_44 : List IT := [(44, .putfield 63, 3, 0, 0, []), (47, .aload_n 0, 1, 0, 0, []), (48, .getfield 63, 3, 0, 0, []), (51, .ifCond .ne 4, 3, 0, 55, []), (54, .return_, 1, 0, 0, [])]
theorem ok_Dec_readModrm_44 : blkOK b_Dec_readModrm pt_Dec 55 I_Dec_readModrm_44 = true := by decide +kernel
def I_Dec_readModrm_55 : List IT := [(55, .iload_n 3, 1, 0, 0, []), (56, .ifCond .ne 16, 3, 0, 72, []), (59, .aload_n 0, 1, 0, 0, []), (60, .getfield 56, 3, 0, 0, []), (63, .bipush 6, 2, 6, 0, []), (65, .if_icmp .ne 7, 3, 0, 72, []), (68, .iconst 1, 1, 1, 0, []), (69, .goto 4, 3, 0, 73, [])]
theorem ok_Dec_readModrm_55 : blkOK b_Dec_readModrm pt_Dec 72 I_Dec_readModrm_55 = true := by decide +kernel
def I_Dec_readModrm_72 : List IT := [(72, .iconst 0, 1, 0, 0, [])]
theorem ok_Dec_readModrm_72 : blkOK b_Dec_readModrm pt_Dec 73 I_Dec_readModrm_72 = true := by decide +kernel
def I_Dec_readModrm_73 : List IT := [(73, .istore 4, 2, 0, 0, []), (75, .iload 4, 2, 0, 0, []), (77, .ifCond .eq 10, 3, 0, 87, []), (80, .aload_n 0, 1, 0, 0, []), (81, .invokevirtual 50, 3, 0, 0, []), (84, .goto 7, 3, 0, 91, [])]
theorem ok_Dec_readModrm_73 : blkOK b_Dec_readModrm pt_Dec 87 I_Dec_readModrm_73 = true := by decide +kernel
def I_Dec_readModrm_87 : List IT := [(87, .aload_n 0, 1, 0, 0, []), (88, .invokevirtual 66, 3, 0, 0, [])]
theorem ok_Dec_readModrm_87 : blkOK b_Dec_readModrm pt_Dec 91 I_Dec_readModrm_87 = true := by decide +kernel
def I_Dec_readModrm_91 : List IT := [(91, .istore 5, 2, 0, 0, []), (93, .iload_n 3, 1, 0, 0, []), (94, .iconst 1, 1, 1, 0, []), (95, .if_icmp .ne 16, 3, 0, 111, []), (98, .iload 5, 2, 0, 0, []), (100, .aload_n 0, 1, 0, 0, []), (101, .invokevirtual 32, 3, 0, 0, []), (104, .i2b, 1, 0, 0, []), (105, .iadd, 1, 0, 0, []), (106, .istore 5, 2, 0, 0, []), (108, .goto 17, 3, 0, 125, [])]
theorem ok_Dec_readModrm_91 : blkOK b_Dec_readModrm pt_Dec 111 I_Dec_readModrm_91 = true := by decide +kernel
def I_Dec_readModrm_111 : List IT := [(111, .iload_n 3, 1, 0, 0, []), (112, .iconst 2, 1, 2, 0, []), (113, .if_icmp .ne 12, 3, 0, 125, []), (116, .iload 5, 2, 0, 0, []), (118, .aload_n 0, 1, 0, 0, []), (119, .invokevirtual 50, 3, 0, 0, []), (122, .iadd, 1, 0, 0, []), (123, .istore 5, 2, 0, 0, [])]
theorem ok_Dec_readModrm_111 : blkOK b_Dec_readModrm pt_Dec 125 I_Dec_readModrm_111 = true := by decide +kernel
def I_Dec_readModrm_125 : List IT := [(125, .aload_n 0, 1, 0, 0, []), (126, .iload 5, 2, 0, 0, []), (128, .ldc 49, 2, 65535, 0, []), (130, .iand, 1, 0, 0, []), (131, .putfield 69, 3, 0, 0, []), (134, .iload 4, 2, 0, 0, []), (136, .ifCond .ne 32, 3, 0, 168, []), (139, .aload_n 0, 1, 0, 0, []), (140, .getfield 56, 3, 0, 0, []), (143, .iconst 2, 1, 2, 0, []), (144, .if_icmp .eq 20, 3, 0, 164, []), (147, .aload_n 0, 1, 0, 0, []), (148, .getfield 56, 3, 0, 0, []), (151, .iconst 3, 1, 3, 0, []), (152, .if_icmp .eq 12, 3, 0, 164, []), (155, .aload_n 0, 1, 0, 0, []), (156, .getfield 56, 3, 0, 0, []), (159, .bipush 6, 2, 6, 0, []), (161, .if_icmp .ne 7, 3, 0, 168, [])]
theorem ok_Dec_readModrm_125 : blkOK b_Dec_readModrm pt_Dec 164 I_Dec_readModrm_125 = true := by decide +kernel
def I_Dec_readModrm_164 : List IT := [(164, .iconst 1, 1, 1, 0, []), (165, .goto 4, 3, 0, 169, [])]
theorem ok_Dec_readModrm_164 : blkOK b_Dec_readModrm pt_Dec 168 I_Dec_readModrm_164 = true := by decide +kernel
def I_Dec_readModrm_168 : List IT := [(168, .iconst 0, 1, 0, 0, [])]
theorem ok_Dec_readModrm_168 : blkOK b_Dec_readModrm pt_Dec 169 I_Dec_readModrm_168 = true := by decide +kernel
def I_Dec_readModrm_169 : List IT := [(169, .istore 6, 2, 0, 0, []), (171, .aload_n 0, 1, 0, 0, []), (172, .aload_n 0, 1, 0, 0, []), (173, .iload 6, 2, 0, 0, []), (175, .ifCond .eq 7, 3, 0, 182, []), (178, .iconst 2, 1, 2, 0, []), (179, .goto 4, 3, 0, 183, [])]
theorem ok_Dec_readModrm_169 : blkOK b_Dec_readModrm pt_Dec 182 I_Dec_readModrm_169 = true := by decide +kernel
def I_Dec_readModrm_182 : List IT := [(182, .iconst 3, 1, 3, 0, [])]
theorem ok_Dec_readModrm_182 : blkOK b_Dec_readModrm pt_Dec 183 I_Dec_readModrm_182 = true := by decide +kernel
def I_Dec_readModrm_183 : List IT := [(183, .invokevirtual 72, 3, 0, 0, []), (186, .putfield 76, 3, 0, 0, []), (189, .return_, 1, 0, 0, [])]
theorem ok_Dec_readModrm_183 : blkOK b_Dec_readModrm pt_Dec 190 I_Dec_readModrm_183 = true := by decide +kernel
def f_Dec_readModrm_183 (σ : Sg) (y0 : Int32) : Sg := (bnd (f_Dec_segmentOr σ y0) fun r1 => bnd (up2 r1.2 14 10 r1.1) fun s2 => s2)
abbrev w_Dec_readModrm_183 : List (Nat × Option Nat) := [(14, some 10)]
theorem p_Dec_readModrm_183 {P : Sg → Prop} (hP : WP w_Dec_readModrm_183 P) {σ : Sg} {y0 : Int32} (h : P σ) : P (f_Dec_readModrm_183 σ y0) := by
  unfold f_Dec_readModrm_183
  refine bnd_zz (Z := PP P) (p_Dec_segmentOr (wsub hP rfl) h) fun r1 e1 q1 => ?_
  refine bnd_zz (Z := P) (hP _ _ _ _ (Or.inr (by decide)) q1) fun s2 e2 q2 => ?_
  exact q2
set_option maxRecDepth 100000 in
set_option maxHeartbeats 4000000 in
theorem b_Dec_readModrm_183 {l : Launch} {ad : Nat → Nat} {D : va_G} {cI : ClassId} {K : Option Value → Sg → Prop} {X : Nat → List Value → List Value → Sg → Prop} (hX : Cl l ad D cI mi_Dec_readModrm pt_Dec K X) {σ : Sg} {y0 : Int32}   (hK : KV K (f_Dec_readModrm_183 σ y0)) : X 183 [.null, .null, .null, .null, .null, .null, .null] [.int y0, .ref 14, .ref 14] σ := by
  unfold f_Dec_readModrm_183 at hK
  refine hX.1 190 I_Dec_readModrm_183 ok_Dec_readModrm_183 _ _ _ ?_
  refine s_Dec_segmentOr (bnd_g hK fun r1 e1 hK => ?_)
  refine And.intro trivial (SG_g hK fun s2 e2 hK => ?_)
  exact hK
def f_Dec_readModrm_169 (σ : Sg) (y0 : Int32) : Sg := (if y0 = (0 : Int32) then (f_Dec_readModrm_183 σ (3 : Int32)) else (f_Dec_readModrm_183 σ (2 : Int32)))
abbrev w_Dec_readModrm_169 : List (Nat × Option Nat) := [(14, some 10)]
theorem p_Dec_readModrm_169 {P : Sg → Prop} (hP : WP w_Dec_readModrm_169 P) {σ : Sg} {y0 : Int32} (h : P σ) : P (f_Dec_readModrm_169 σ y0) := by
  unfold f_Dec_readModrm_169
  refine ite_z (fun _ => ?_) (fun _ => ?_)
  · exact p_Dec_readModrm_183 (wsub hP rfl) h
  · exact p_Dec_readModrm_183 (wsub hP rfl) h
set_option maxRecDepth 100000 in
set_option maxHeartbeats 4000000 in
theorem b_Dec_readModrm_169 {l : Launch} {ad : Nat → Nat} {D : va_G} {cI : ClassId} {K : Option Value → Sg → Prop} {X : Nat → List Value → List Value → Sg → Prop} (hX : Cl l ad D cI mi_Dec_readModrm pt_Dec K X) {σ : Sg} {y0 : Int32} (z_y0 : y0 = 0 ∨ y0 = 1)  (hK : KV K (f_Dec_readModrm_169 σ y0)) : X 169 [.ref 14, .null, .null, .null, .null, .null, .null] [.int y0] σ := by
  unfold f_Dec_readModrm_169 at hK
  refine hX.1 182 I_Dec_readModrm_169 ok_Dec_readModrm_169 _ _ _ ?_
  refine And.intro (fun h1 => ?_) (fun h1 => ?_)
  · have hK := ite_p hK h1
    refine hX.1 183 I_Dec_readModrm_182 ok_Dec_readModrm_182 _ _ _ ?_
    refine hX.fg [0, 6] ?_
    exact b_Dec_readModrm_183 hX  hK
  · have hK := ite_n hK h1
    refine hX.fg [0, 6] ?_
    exact b_Dec_readModrm_183 hX  hK
def f_Dec_readModrm_164 (σ : Sg)  : Sg := (f_Dec_readModrm_169 σ (1 : Int32))
abbrev w_Dec_readModrm_164 : List (Nat × Option Nat) := [(14, some 10)]
theorem p_Dec_readModrm_164 {P : Sg → Prop} (hP : WP w_Dec_readModrm_164 P) {σ : Sg}  (h : P σ) : P (f_Dec_readModrm_164 σ ) := by
  unfold f_Dec_readModrm_164
  exact p_Dec_readModrm_169 (wsub hP rfl) h
set_option maxRecDepth 100000 in
set_option maxHeartbeats 4000000 in
theorem b_Dec_readModrm_164 {l : Launch} {ad : Nat → Nat} {D : va_G} {cI : ClassId} {K : Option Value → Sg → Prop} {X : Nat → List Value → List Value → Sg → Prop} (hX : Cl l ad D cI mi_Dec_readModrm pt_Dec K X) {σ : Sg}    (hK : KV K (f_Dec_readModrm_164 σ )) : X 164 [.ref 14, .null, .null, .null, .null, .null, .null] [] σ := by
  unfold f_Dec_readModrm_164 at hK
  refine hX.1 168 I_Dec_readModrm_164 ok_Dec_readModrm_164 _ _ _ ?_
  exact b_Dec_readModrm_169 hX (Or.inr rfl) hK
def f_Dec_readModrm_168 (σ : Sg)  : Sg := (f_Dec_readModrm_169 σ (0 : Int32))
abbrev w_Dec_readModrm_168 : List (Nat × Option Nat) := [(14, some 10)]
theorem p_Dec_readModrm_168 {P : Sg → Prop} (hP : WP w_Dec_readModrm_168 P) {σ : Sg}  (h : P σ) : P (f_Dec_readModrm_168 σ ) := by
  unfold f_Dec_readModrm_168
  exact p_Dec_readModrm_169 (wsub hP rfl) h
set_option maxRecDepth 100000 in
set_option maxHeartbeats 4000000 in
theorem b_Dec_readModrm_168 {l : Launch} {ad : Nat → Nat} {D : va_G} {cI : ClassId} {K : Option Value → Sg → Prop} {X : Nat → List Value → List Value → Sg → Prop} (hX : Cl l ad D cI mi_Dec_readModrm pt_Dec K X) {σ : Sg}    (hK : KV K (f_Dec_readModrm_168 σ )) : X 168 [.ref 14, .null, .null, .null, .null, .null, .null] [] σ := by
  unfold f_Dec_readModrm_168 at hK
  refine hX.1 169 I_Dec_readModrm_168 ok_Dec_readModrm_168 _ _ _ ?_
  exact b_Dec_readModrm_169 hX (Or.inl rfl) hK
def f_Dec_readModrm_125 (σ : Sg) (x4 : Int32) (x5 : Int32) : Sg := (bnd (up2 σ 14 6 (x5 &&& (65535 : Int32))) fun s1 => (if x4 = (0 : Int32) then (if (s1 14 9) = (2 : Int32) then (f_Dec_readModrm_164 s1) else (if (s1 14 9) = (3 : Int32) then (f_Dec_readModrm_164 s1) else (if (s1 14 9) = (6 : Int32) then (f_Dec_readModrm_164 s1) else (f_Dec_readModrm_168 s1)))) else (f_Dec_readModrm_168 s1)))
abbrev w_Dec_readModrm_125 : List (Nat × Option Nat) := [(14, some 6), (14, some 10)]
theorem p_Dec_readModrm_125 {P : Sg → Prop} (hP : WP w_Dec_readModrm_125 P) {σ : Sg} {x4 : Int32} {x5 : Int32} (h : P σ) : P (f_Dec_readModrm_125 σ x4 x5) := by
  unfold f_Dec_readModrm_125
  refine bnd_zz (Z := P) (hP _ _ _ _ (Or.inr (by decide)) h) fun s1 e1 q1 => ?_
  refine ite_z (fun _ => ?_) (fun _ => ?_)
  · refine ite_z (fun _ => ?_) (fun _ => ?_)
    · exact p_Dec_readModrm_164 (wsub hP rfl) q1
    · refine ite_z (fun _ => ?_) (fun _ => ?_)
      · exact p_Dec_readModrm_164 (wsub hP rfl) q1
      · refine ite_z (fun _ => ?_) (fun _ => ?_)
        · exact p_Dec_readModrm_164 (wsub hP rfl) q1
        · exact p_Dec_readModrm_168 (wsub hP rfl) q1
  · exact p_Dec_readModrm_168 (wsub hP rfl) q1
set_option maxRecDepth 100000 in
set_option maxHeartbeats 4000000 in
theorem b_Dec_readModrm_125 {l : Launch} {ad : Nat → Nat} {D : va_G} {cI : ClassId} {K : Option Value → Sg → Prop} {X : Nat → List Value → List Value → Sg → Prop} (hX : Cl l ad D cI mi_Dec_readModrm pt_Dec K X) {σ : Sg} {x4 : Int32} {x5 : Int32} (z_x4 : x4 = 0 ∨ x4 = 1)  (hK : KV K (f_Dec_readModrm_125 σ x4 x5)) : X 125 [.ref 14, .null, .null, .null, .int x4, .int x5, .null] [] σ := by
  unfold f_Dec_readModrm_125 at hK
  refine hX.1 164 I_Dec_readModrm_125 ok_Dec_readModrm_125 _ _ _ ?_
  refine And.intro trivial (SG_g hK fun s1 e1 hK => ?_)
  refine And.intro (fun h2 => ?_) (fun h2 => ?_)
  · have hK := ite_p hK h2
    refine And.intro (fun h3 => ?_) (fun h3 => ?_)
    · have hK := ite_p hK h3
      refine hX.fg [4, 5] ?_
      exact b_Dec_readModrm_164 hX  hK
    · have hK := ite_n hK h3
      refine And.intro (fun h4 => ?_) (fun h4 => ?_)
      · have hK := ite_p hK h4
        refine hX.fg [4, 5] ?_
        exact b_Dec_readModrm_164 hX  hK
      · have hK := ite_n hK h4
        refine And.intro (fun h5 => ?_) (fun h5 => ?_)
        · have hK := ite_p hK h5
          refine hX.fg [4, 5] ?_
          exact b_Dec_readModrm_164 hX  hK
        · have hK := ite_n hK h5
          refine hX.fg [4, 5] ?_
          exact b_Dec_readModrm_168 hX  hK
  · have hK := ite_n hK h2
    refine hX.fg [4, 5] ?_
    exact b_Dec_readModrm_168 hX  hK
def f_Dec_readModrm_91 (σ : Sg) (x3 : Int32) (x4 : Int32) (y0 : Int32) : Sg := (if x3 = (1 : Int32) then (bnd (f_Dec_nextByte σ) fun r2 => (f_Dec_readModrm_125 r2.2 x4 (y0 + (r2.1 : Int32).toInt8.toInt32))) else (if x3 = (2 : Int32) then (bnd (f_Dec_nextWord σ) fun r4 => (f_Dec_readModrm_125 r4.2 x4 (y0 + r4.1))) else (f_Dec_readModrm_125 σ x4 y0)))
abbrev w_Dec_readModrm_91 : List (Nat × Option Nat) := [(3, some 2), (14, some 6), (14, some 10)]
theorem p_Dec_readModrm_91 {P : Sg → Prop} (hP : WP w_Dec_readModrm_91 P) {σ : Sg} {x3 : Int32} {x4 : Int32} {y0 : Int32} (h : P σ) : P (f_Dec_readModrm_91 σ x3 x4 y0) := by
  unfold f_Dec_readModrm_91
  refine ite_z (fun _ => ?_) (fun _ => ?_)
  · refine bnd_zz (Z := PP P) (p_Dec_nextByte (wsub hP rfl) h) fun r2 e2 q2 => ?_
    exact p_Dec_readModrm_125 (wsub hP rfl) q2
  · refine ite_z (fun _ => ?_) (fun _ => ?_)
    · refine bnd_zz (Z := PP P) (p_Dec_nextWord (wsub hP rfl) h) fun r4 e4 q4 => ?_
      exact p_Dec_readModrm_125 (wsub hP rfl) q4
    · exact p_Dec_readModrm_125 (wsub hP rfl) h
set_option maxRecDepth 100000 in
set_option maxHeartbeats 4000000 in
theorem b_Dec_readModrm_91 {l : Launch} {ad : Nat → Nat} {D : va_G} {cI : ClassId} {K : Option Value → Sg → Prop} {X : Nat → List Value → List Value → Sg → Prop} (hX : Cl l ad D cI mi_Dec_readModrm pt_Dec K X) {σ : Sg} {x3 : Int32} {x4 : Int32} {y0 : Int32} (z_x4 : x4 = 0 ∨ x4 = 1)  (hK : KV K (f_Dec_readModrm_91 σ x3 x4 y0)) : X 91 [.ref 14, .null, .null, .int x3, .int x4, .null, .null] [.int y0] σ := by
  unfold f_Dec_readModrm_91 at hK
  refine hX.1 111 I_Dec_readModrm_91 ok_Dec_readModrm_91 _ _ _ ?_
  refine And.intro (fun h1 => ?_) (fun h1 => ?_)
  · have hK := ite_p hK h1
    refine s_Dec_nextByte (bnd_g hK fun r2 e2 hK => ?_)
    refine hX.fg [3] ?_
    exact b_Dec_readModrm_125 hX z_x4 hK
  · have hK := ite_n hK h1
    refine hX.1 125 I_Dec_readModrm_111 ok_Dec_readModrm_111 _ _ _ ?_
    refine And.intro (fun h3 => ?_) (fun h3 => ?_)
    · have hK := ite_p hK h3
      refine s_Dec_nextWord (bnd_g hK fun r4 e4 hK => ?_)
      refine hX.fg [3] ?_
      exact b_Dec_readModrm_125 hX z_x4 hK
    · have hK := ite_n hK h3
      refine hX.fg [3] ?_
      exact b_Dec_readModrm_125 hX z_x4 hK
def f_Dec_readModrm_73 (σ : Sg) (x3 : Int32) (y0 : Int32) : Sg := (if y0 = (0 : Int32) then (bnd (f_Dec_base σ) fun r2 => (f_Dec_readModrm_91 r2.2 x3 y0 r2.1)) else (bnd (f_Dec_nextWord σ) fun r3 => (f_Dec_readModrm_91 r3.2 x3 y0 r3.1)))
abbrev w_Dec_readModrm_73 : List (Nat × Option Nat) := [(3, some 2), (14, some 6), (14, some 10)]
theorem p_Dec_readModrm_73 {P : Sg → Prop} (hP : WP w_Dec_readModrm_73 P) {σ : Sg} {x3 : Int32} {y0 : Int32} (h : P σ) : P (f_Dec_readModrm_73 σ x3 y0) := by
  unfold f_Dec_readModrm_73
  refine ite_z (fun _ => ?_) (fun _ => ?_)
  · refine bnd_zz (Z := PP P) (p_Dec_base (wsub hP rfl) h) fun r2 e2 q2 => ?_
    exact p_Dec_readModrm_91 (wsub hP rfl) q2
  · refine bnd_zz (Z := PP P) (p_Dec_nextWord (wsub hP rfl) h) fun r3 e3 q3 => ?_
    exact p_Dec_readModrm_91 (wsub hP rfl) q3
set_option maxRecDepth 100000 in
set_option maxHeartbeats 4000000 in
theorem b_Dec_readModrm_73 {l : Launch} {ad : Nat → Nat} {D : va_G} {cI : ClassId} {K : Option Value → Sg → Prop} {X : Nat → List Value → List Value → Sg → Prop} (hX : Cl l ad D cI mi_Dec_readModrm pt_Dec K X) {σ : Sg} {x3 : Int32} {y0 : Int32} (z_y0 : y0 = 0 ∨ y0 = 1)  (hK : KV K (f_Dec_readModrm_73 σ x3 y0)) : X 73 [.ref 14, .null, .null, .int x3, .null, .null, .null] [.int y0] σ := by
  unfold f_Dec_readModrm_73 at hK
  refine hX.1 87 I_Dec_readModrm_73 ok_Dec_readModrm_73 _ _ _ ?_
  refine And.intro (fun h1 => ?_) (fun h1 => ?_)
  · have hK := ite_p hK h1
    refine hX.1 91 I_Dec_readModrm_87 ok_Dec_readModrm_87 _ _ _ ?_
    refine s_Dec_base (bnd_g hK fun r2 e2 hK => ?_)
    exact b_Dec_readModrm_91 hX z_y0 hK
  · have hK := ite_n hK h1
    refine s_Dec_nextWord (bnd_g hK fun r3 e3 hK => ?_)
    exact b_Dec_readModrm_91 hX z_y0 hK
def f_Dec_readModrm_72 (σ : Sg) (x3 : Int32) : Sg := (f_Dec_readModrm_73 σ x3 (0 : Int32))
abbrev w_Dec_readModrm_72 : List (Nat × Option Nat) := [(3, some 2), (14, some 6), (14, some 10)]
theorem p_Dec_readModrm_72 {P : Sg → Prop} (hP : WP w_Dec_readModrm_72 P) {σ : Sg} {x3 : Int32} (h : P σ) : P (f_Dec_readModrm_72 σ x3) := by
  unfold f_Dec_readModrm_72
  exact p_Dec_readModrm_73 (wsub hP rfl) h
set_option maxRecDepth 100000 in
set_option maxHeartbeats 4000000 in
theorem b_Dec_readModrm_72 {l : Launch} {ad : Nat → Nat} {D : va_G} {cI : ClassId} {K : Option Value → Sg → Prop} {X : Nat → List Value → List Value → Sg → Prop} (hX : Cl l ad D cI mi_Dec_readModrm pt_Dec K X) {σ : Sg} {x3 : Int32}   (hK : KV K (f_Dec_readModrm_72 σ x3)) : X 72 [.ref 14, .null, .null, .int x3, .null, .null, .null] [] σ := by
  unfold f_Dec_readModrm_72 at hK
  refine hX.1 73 I_Dec_readModrm_72 ok_Dec_readModrm_72 _ _ _ ?_
  exact b_Dec_readModrm_73 hX (Or.inl rfl) hK
def f_Dec_readModrm_44 (σ : Sg) (x3 : Int32) (y0 : Int32) : Sg := (bnd (up2 σ 14 7 y0) fun s1 => (if (s1 14 7) = (0 : Int32) then s1 else (if x3 = (0 : Int32) then (if (s1 14 9) = (6 : Int32) then (f_Dec_readModrm_73 s1 x3 (1 : Int32)) else (f_Dec_readModrm_72 s1 x3)) else (f_Dec_readModrm_72 s1 x3))))
abbrev w_Dec_readModrm_44 : List (Nat × Option Nat) := [(3, some 2), (14, some 6), (14, some 7), (14, some 10)]
theorem p_Dec_readModrm_44 {P : Sg → Prop} (hP : WP w_Dec_readModrm_44 P) {σ : Sg} {x3 : Int32} {y0 : Int32} (h : P σ) : P (f_Dec_readModrm_44 σ x3 y0) := by
  unfold f_Dec_readModrm_44
  refine bnd_zz (Z := P) (hP _ _ _ _ (Or.inr (by decide)) h) fun s1 e1 q1 => ?_
  refine ite_z (fun _ => ?_) (fun _ => ?_)
  · exact q1
  · refine ite_z (fun _ => ?_) (fun _ => ?_)
    · refine ite_z (fun _ => ?_) (fun _ => ?_)
      · exact p_Dec_readModrm_73 (wsub hP rfl) q1
      · exact p_Dec_readModrm_72 (wsub hP rfl) q1
    · exact p_Dec_readModrm_72 (wsub hP rfl) q1
set_option maxRecDepth 100000 in
set_option maxHeartbeats 4000000 in
theorem b_Dec_readModrm_44 {l : Launch} {ad : Nat → Nat} {D : va_G} {cI : ClassId} {K : Option Value → Sg → Prop} {X : Nat → List Value → List Value → Sg → Prop} (hX : Cl l ad D cI mi_Dec_readModrm pt_Dec K X) {σ : Sg} {x3 : Int32} {y0 : Int32} (z_y0 : y0 = 0 ∨ y0 = 1)  (hK : KV K (f_Dec_readModrm_44 σ x3 y0)) : X 44 [.ref 14, .null, .null, .int x3, .null, .null, .null] [.int y0, .ref 14] σ := by
  unfold f_Dec_readModrm_44 at hK
  refine hX.1 55 I_Dec_readModrm_44 ok_Dec_readModrm_44 _ _ _ ?_
  refine And.intro z_y0 (SG_g hK fun s1 e1 hK => ?_)
  refine And.intro (fun h2 => ?_) (fun h2 => ?_)
  · have hK := ite_p hK h2
    exact hK
  · have hK := ite_n hK h2
    refine hX.1 72 I_Dec_readModrm_55 ok_Dec_readModrm_55 _ _ _ ?_
    refine And.intro (fun h3 => ?_) (fun h3 => ?_)
    · have hK := ite_p hK h3
      refine And.intro (fun h4 => ?_) (fun h4 => ?_)
      · have hK := ite_p hK h4
        exact b_Dec_readModrm_73 hX (Or.inr rfl) hK
      · have hK := ite_n hK h4
        exact b_Dec_readModrm_72 hX  hK
    · have hK := ite_n hK h3
      exact b_Dec_readModrm_72 hX  hK
def f_Dec_readModrm (σ : Sg) (a1 : Int32) : Sg := (bnd (f_Dec_nextByte σ) fun r1 => bnd (up2 r1.2 14 5 ((r1.1 >>> ((3 : Int32) &&& 31 : Int32)) &&& (7 : Int32))) fun s2 => bnd (up2 s2 14 9 (r1.1 &&& (7 : Int32))) fun s3 => bnd (up2 s3 14 11 a1) fun s4 => (if (r1.1 >>> ((6 : Int32) &&& 31 : Int32)) = (3 : Int32) then (f_Dec_readModrm_44 s4 (r1.1 >>> ((6 : Int32) &&& 31 : Int32)) (0 : Int32)) else (f_Dec_readModrm_44 s4 (r1.1 >>> ((6 : Int32) &&& 31 : Int32)) (1 : Int32))))
abbrev w_Dec_readModrm : List (Nat × Option Nat) := [(3, some 2), (14, some 5), (14, some 6), (14, some 7), (14, some 9), (14, some 10), (14, some 11)]
theorem p_Dec_readModrm {P : Sg → Prop} (hP : WP w_Dec_readModrm P) {σ : Sg} {a1 : Int32} (h : P σ) : P (f_Dec_readModrm σ a1) := by
  unfold f_Dec_readModrm
  refine bnd_zz (Z := PP P) (p_Dec_nextByte (wsub hP rfl) h) fun r1 e1 q1 => ?_
  refine bnd_zz (Z := P) (hP _ _ _ _ (Or.inr (by decide)) q1) fun s2 e2 q2 => ?_
  refine bnd_zz (Z := P) (hP _ _ _ _ (Or.inr (by decide)) q2) fun s3 e3 q3 => ?_
  refine bnd_zz (Z := P) (hP _ _ _ _ (Or.inr (by decide)) q3) fun s4 e4 q4 => ?_
  refine ite_z (fun _ => ?_) (fun _ => ?_)
  · exact p_Dec_readModrm_44 (wsub hP rfl) q4
  · exact p_Dec_readModrm_44 (wsub hP rfl) q4
set_option maxRecDepth 100000 in
set_option maxHeartbeats 4000000 in
theorem s_Dec_readModrm {l : Launch} {ad : Nat → Nat} {D : va_G} {cI : ClassId} {σ : Sg} {a1 : Int32} {K : Option Value → Sg → Prop} (z_a1 : a1 = 0 ∨ a1 = 1)  (hK : KV K (f_Dec_readModrm σ a1)) : MetJ l ad D cI mi_Dec_readModrm [.ref 14, .int a1] σ K := by
  refine met_of mi_Dec_readModrm pt_Dec pt_Dec_in rfl pl_Dec rfl (Nat.le_of_ble_eq_true rfl) fun X hX => ?_
  have hX : Cl l ad D cI mi_Dec_readModrm pt_Dec K X := hX
  show X 0 [.ref 14, .int a1, .null, .null, .null, .null, .null] [] σ
  unfold f_Dec_readModrm at hK
  refine hX.1 43 I_Dec_readModrm_0 ok_Dec_readModrm_0 _ _ _ ?_
  refine s_Dec_nextByte (bnd_g hK fun r1 e1 hK => ?_)
  refine And.intro trivial (SG_g hK fun s2 e2 hK => ?_)
  refine And.intro trivial (SG_g hK fun s3 e3 hK => ?_)
  refine And.intro z_a1 (SG_g hK fun s4 e4 hK => ?_)
  refine And.intro (fun h5 => ?_) (fun h5 => ?_)
  · have hK := ite_p hK h5
    refine hX.1 44 I_Dec_readModrm_43 ok_Dec_readModrm_43 _ _ _ ?_
    refine hX.fg [1, 2] ?_
    exact b_Dec_readModrm_44 hX (Or.inl rfl) hK
  · have hK := ite_n hK h5
    refine hX.fg [1, 2] ?_
    exact b_Dec_readModrm_44 hX (Or.inr rfl) hK
def I_Dec_value_0 : List IT := [(0, .aload_n 0, 1, 0, 0, []), (1, .getfield 63, 3, 0, 0, []), (4, .ifCond .eq 25, 3, 0, 29, []), (7, .aload_n 0, 1, 0, 0, []), (8, .getfield 7, 3, 0, 0, []), (11, .aload_n 0, 1, 0, 0, []), (12, .getfield 76, 3, 0, 0, []), (15, .aload_n 0, 1, 0, 0, []), (16, .getfield 69, 3, 0, 0, []), (19, .aload_n 0, 1, 0, 0, []), (20, .getfield 59, 3, 0, 0, []), (23, .invokevirtual 43, 3, 0, 0, []), (26, .goto 18, 3, 0, 44, [])]
theorem ok_Dec_value_0 : blkOK b_Dec_value pt_Dec 29 I_Dec_value_0 = true := by decide +kernel
def I_Dec_value_29 : List IT := [(29, .aload_n 0, 1, 0, 0, []), (30, .getfield 13, 3, 0, 0, []), (33, .aload_n 0, 1, 0, 0, []), (34, .getfield 56, 3, 0, 0, []), (37, .aload_n 0, 1, 0, 0, []), (38, .getfield 59, 3, 0, 0, []), (41, .invokevirtual 79, 3, 0, 0, [])]
theorem ok_Dec_value_29 : blkOK b_Dec_value pt_Dec 44 I_Dec_value_29 = true := by decide +kernel
def I_Dec_value_44 : List IT := [(44, .ireturn, 1, 0, 0, [])]
theorem ok_Dec_value_44 : blkOK b_Dec_value pt_Dec 45 I_Dec_value_44 = true := by decide +kernel
def f_Dec_value (σ : Sg)  : Int32 × Sg := (if (σ 14 7) = (0 : Int32) then (bnd (f_Reg_value σ (σ 14 9) (σ 14 11)) fun r2 => (r2.1, r2.2)) else (bnd (f_Mem_fetch σ (σ 14 10) (σ 14 6) (σ 14 11)) fun r3 => (r3.1, r3.2)))
abbrev w_Dec_value : List (Nat × Option Nat) := []
theorem p_Dec_value {P : Sg → Prop} (hP : WP w_Dec_value P) {σ : Sg}  (h : P σ) : PP P (f_Dec_value σ ) := by
  unfold f_Dec_value
  refine ite_z (fun _ => ?_) (fun _ => ?_)
  · refine bnd_zz (Z := PP P) (p_Reg_value (wsub hP rfl) h) fun r2 e2 q2 => ?_
    exact q2
  · refine bnd_zz (Z := PP P) (p_Mem_fetch (wsub hP rfl) h) fun r3 e3 q3 => ?_
    exact q3
set_option maxRecDepth 100000 in
set_option maxHeartbeats 4000000 in
theorem s_Dec_value {l : Launch} {ad : Nat → Nat} {D : va_G} {cI : ClassId} {σ : Sg}  {K : Option Value → Sg → Prop}   (hK : KI K (f_Dec_value σ )) : MetJ l ad D cI mi_Dec_value [.ref 14] σ K := by
  refine met_of mi_Dec_value pt_Dec pt_Dec_in rfl pl_Dec rfl (Nat.le_of_ble_eq_true rfl) fun X hX => ?_
  have hX : Cl l ad D cI mi_Dec_value pt_Dec K X := hX
  show X 0 [.ref 14] [] σ
  unfold f_Dec_value at hK
  refine hX.1 29 I_Dec_value_0 ok_Dec_value_0 _ _ _ ?_
  refine And.intro (fun h1 => ?_) (fun h1 => ?_)
  · have hK := ite_p hK h1
    refine hX.1 44 I_Dec_value_29 ok_Dec_value_29 _ _ _ ?_
    refine s_Reg_value (bnd_g hK fun r2 e2 hK => ?_)
    refine hX.1 45 I_Dec_value_44 ok_Dec_value_44 _ _ _ ?_
    exact hK
  · have hK := ite_n hK h1
    refine s_Mem_fetch (bnd_g hK fun r3 e3 hK => ?_)
    refine hX.1 45 I_Dec_value_44 ok_Dec_value_44 _ _ _ ?_
    exact hK
def I_Dec_change_0 : List IT := [(0, .aload_n 0, 1, 0, 0, []), (1, .getfield 63, 3, 0, 0, []), (4, .ifCond .eq 26, 3, 0, 30, []), (7, .aload_n 0, 1, 0, 0, []), (8, .getfield 7, 3, 0, 0, []), (11, .aload_n 0, 1, 0, 0, []), (12, .getfield 76, 3, 0, 0, []), (15, .aload_n 0, 1, 0, 0, []), (16, .getfield 69, 3, 0, 0, []), (19, .aload_n 0, 1, 0, 0, []), (20, .getfield 59, 3, 0, 0, []), (23, .iload_n 1, 1, 0, 0, []), (24, .invokevirtual 83, 3, 0, 0, []), (27, .goto 19, 3, 0, 46, [])]
theorem ok_Dec_change_0 : blkOK b_Dec_change pt_Dec 30 I_Dec_change_0 = true := by decide +kernel
def I_Dec_change_30 : List IT := [(30, .aload_n 0, 1, 0, 0, []), (31, .getfield 13, 3, 0, 0, []), (34, .aload_n 0, 1, 0, 0, []), (35, .getfield 56, 3, 0, 0, []), (38, .aload_n 0, 1, 0, 0, []), (39, .getfield 59, 3, 0, 0, []), (42, .iload_n 1, 1, 0, 0, []), (43, .invokevirtual 87, 3, 0, 0, [])]
theorem ok_Dec_change_30 : blkOK b_Dec_change pt_Dec 46 I_Dec_change_30 = true := by decide +kernel
def I_Dec_change_46 : List IT := [(46, .return_, 1, 0, 0, [])]
theorem ok_Dec_change_46 : blkOK b_Dec_change pt_Dec 47 I_Dec_change_46 = true := by decide +kernel
def f_Dec_change (σ : Sg) (a1 : Int32) : Sg := (if (σ 14 7) = (0 : Int32) then (bnd (f_Reg_change σ (σ 14 9) (σ 14 11) a1) fun r2 => r2) else (bnd (f_Mem_store σ (σ 14 10) (σ 14 6) (σ 14 11) a1) fun r3 => r3))
abbrev w_Dec_change : List (Nat × Option Nat) := [(2, none), (4, none)]
theorem p_Dec_change {P : Sg → Prop} (hP : WP w_Dec_change P) {σ : Sg} {a1 : Int32} (h : P σ) : P (f_Dec_change σ a1) := by
  unfold f_Dec_change
  refine ite_z (fun _ => ?_) (fun _ => ?_)
  · refine bnd_zz (Z := P) (p_Reg_change (wsub hP rfl) h) fun r2 e2 q2 => ?_
    exact q2
  · refine bnd_zz (Z := P) (p_Mem_store (wsub hP rfl) h) fun r3 e3 q3 => ?_
    exact q3
set_option maxRecDepth 100000 in
set_option maxHeartbeats 4000000 in
theorem s_Dec_change {l : Launch} {ad : Nat → Nat} {D : va_G} {cI : ClassId} {σ : Sg} {a1 : Int32} {K : Option Value → Sg → Prop}   (hK : KV K (f_Dec_change σ a1)) : MetJ l ad D cI mi_Dec_change [.ref 14, .int a1] σ K := by
  refine met_of mi_Dec_change pt_Dec pt_Dec_in rfl pl_Dec rfl (Nat.le_of_ble_eq_true rfl) fun X hX => ?_
  have hX : Cl l ad D cI mi_Dec_change pt_Dec K X := hX
  show X 0 [.ref 14, .int a1] [] σ
  unfold f_Dec_change at hK
  refine hX.1 30 I_Dec_change_0 ok_Dec_change_0 _ _ _ ?_
  refine And.intro (fun h1 => ?_) (fun h1 => ?_)
  · have hK := ite_p hK h1
    refine hX.1 46 I_Dec_change_30 ok_Dec_change_30 _ _ _ ?_
    refine s_Reg_change (bnd_g hK fun r2 e2 hK => ?_)
    refine hX.1 47 I_Dec_change_46 ok_Dec_change_46 _ _ _ ?_
    exact hK
  · have hK := ite_n hK h1
    refine s_Mem_store (bnd_g hK fun r3 e3 hK => ?_)
    refine hX.1 47 I_Dec_change_46 ok_Dec_change_46 _ _ _ ?_
    exact hK
end
section
/-! what a function doesn't write stays -/
theorem WP_at {W : List (Nat × Option Nat)} {a b : Nat} {R : Int32 → Prop} (h : (W.all fun q => decide (q ≠ (a, none)) && decide (q ≠ (a, some b))) = true) : WP W (fun s => R (s a b)) := by
  intro s i j v hw hp
  have h1 := fun q hq => List.all_eq_true.mp h q hq
  show R (up2 s i j v a b)
  by_cases hi : a = i
  · subst hi
    by_cases hj : b = j
    · subst hj
      rcases hw with hw | hw
      · have := h1 _ hw
        simp at this
      · have := h1 _ hw
        simp at this
    · rw [up2_same, upd, if_neg hj]
      exact hp
  · rw [up2_ne _ _ _ hi]
    exact hp
theorem WP_cell {W : List (Nat × Option Nat)} {a : Nat} {R : (Nat → Int32) → Prop} (h : (W.all fun q => decide (q.1 ≠ a)) = true) : WP W (fun s => R (s a)) := by
  intro s i j v hw hp
  have h1 := fun q hq => List.all_eq_true.mp h q hq
  show R (up2 s i j v a)
  have hi : a ≠ i := by
    intro e
    subst e
    rcases hw with hw | hw
    · have := h1 _ hw
      simp at this
    · have := h1 _ hw
      simp at this
  rw [up2_ne _ _ _ hi]
  exact hp
theorem WP_and {W : List (Nat × Option Nat)} {P Q : Sg → Prop} (hp : WP W P) (hq : WP W Q) : WP W (fun s => P s ∧ Q s) := fun s i j v hw h => ⟨hp s i j v hw h.1, hq s i j v hw h.2⟩
def Bb (s : Sg) : Prop := s 14 7 = 0 ∨ s 14 7 = 1
theorem rm44_b {σ : Sg} {x3 y0 : Int32} (hz : y0 = 0 ∨ y0 = 1) : Bb (f_Dec_readModrm_44 σ x3 y0) := by
  unfold f_Dec_readModrm_44
  refine bnd_z fun s1 e1 => ?_
  have h1 : Bb s1 := by
    rw [← e1]
    exact hz
  refine ite_z (fun _ => h1) (fun _ => ite_z (fun _ => ite_z (fun _ => ?_) (fun _ => ?_)) (fun _ => ?_))
  · exact p_Dec_readModrm_73 (P := Bb) (WP_at (R := fun z => z = 0 ∨ z = 1) rfl) h1
  · exact p_Dec_readModrm_72 (P := Bb) (WP_at (R := fun z => z = 0 ∨ z = 1) rfl) h1
  · exact p_Dec_readModrm_72 (P := Bb) (WP_at (R := fun z => z = 0 ∨ z = 1) rfl) h1
theorem rm_b (σ : Sg) (w : Int32) : f_Dec_readModrm σ w 14 7 = 0 ∨ f_Dec_readModrm σ w 14 7 = 1 := by
  show Bb (f_Dec_readModrm σ w)
  unfold f_Dec_readModrm
  refine bnd_z fun r1 e1 => bnd_z fun s2 e2 => bnd_z fun s3 e3 => bnd_z fun s4 e4 => ite_z (fun _ => ?_) (fun _ => ?_)
  · exact rm44_b (Or.inl rfl)
  · exact rm44_b (Or.inr rfl)
/-- no byte is negative -/
def Mb (s : Sg) : Prop := ∀ i, ¬ s 2 i < 0
def Cg (s : Sg) : Prop := Mb s ∧ ¬ s 14 3 < 0
def Nb (r : Int32 × Sg) : Prop := Mb r.2 ∧ ¬ r.1 < 0
theorem nb_ok {σ : Sg} (h : Mb σ) : Nb (f_Dec_nextByte σ) := ⟨p_Dec_nextByte (P := Mb) (WP_cell (R := fun m => ∀ i, ¬ m i < 0) rfl) h, h _⟩
theorem Cg_w {W : List (Nat × Option Nat)} (h1 : (W.all fun q => decide (q.1 ≠ 2)) = true) (h2 : (W.all fun q => decide (q ≠ (14, none)) && decide (q ≠ (14, some 3))) = true) : WP W Cg := WP_and (WP_cell (R := fun m => ∀ i, ¬ m i < 0) h1) (WP_at (R := fun z => ¬ z < 0) h2)
theorem bg_c4 {σ : Sg} (h : Cg σ) : PP Cg (f_Dec_begin_23_c4 σ) := h
set_option maxHeartbeats 400000 in
theorem bg_c3 {σ : Sg} (h : Mb σ) : PP Cg (f_Dec_begin_23_c3 σ) := by
  have k1 : ∀ s, Cg s → PP Cg (f_Dec_begin_56_c3 s) := fun s hs => by
    unfold f_Dec_begin_56_c3
    exact bnd_zz (Z := Cg) (P := PP Cg) (Cg_w (W := [(14, some 4)]) rfl rfl _ _ _ _ (Or.inr (by decide)) hs) fun s1 _ h1 => bg_c4 h1
  have k2 : ∀ s, Cg s → PP Cg (f_Dec_begin_103_c3 s) := fun s hs => by
    unfold f_Dec_begin_103_c3
    exact bnd_zz (Z := Cg) (P := PP Cg) (Cg_w (W := [(14, some 8)]) rfl rfl _ _ _ _ (Or.inr (by decide)) hs) fun s1 _ h1 => bg_c4 h1
  unfold f_Dec_begin_23_c3
  refine bnd_zz (Z := Nb) (P := PP Cg) (nb_ok h) fun r1 e1 h1 => ?_
  have h9 : Cg (up2 r1.2 14 3 r1.1) := ⟨fun i => by rw [up2_ne _ _ _ (by decide)]; exact h1.1 i, by rw [up2_same, upd, if_pos rfl]; exact h1.2⟩
  refine bnd_zz (Z := Cg) (P := PP Cg) h9 fun s2 e2 h2 => ?_
  refine ite_z (P := PP Cg) (fun _ => k1 _ h2) (fun _ => ?_)
  refine ite_z (P := PP Cg) (fun _ => k1 _ h2) (fun _ => ?_)
  refine ite_z (P := PP Cg) (fun _ => k2 _ h2) (fun _ => ?_)
  refine ite_z (P := PP Cg) (fun _ => k2 _ h2) (fun _ => ?_)
  refine ite_z (P := PP Cg) (fun _ => k2 _ h2) (fun _ => ?_)
  refine ite_z (P := PP Cg) (fun _ => k2 _ h2) (fun _ => ?_)
  exact h2
set_option maxHeartbeats 400000 in
theorem bg_c2 {σ : Sg} (h : Mb σ) : PP Cg (f_Dec_begin_23_c2 σ) := by
  have k1 : ∀ s, Cg s → PP Cg (f_Dec_begin_56_c2 s) := fun s hs => by
    unfold f_Dec_begin_56_c2
    exact bnd_zz (Z := Cg) (P := PP Cg) (Cg_w (W := [(14, some 4)]) rfl rfl _ _ _ _ (Or.inr (by decide)) hs) fun s1 _ h1 => bg_c3 h1.1
  have k2 : ∀ s, Cg s → PP Cg (f_Dec_begin_103_c2 s) := fun s hs => by
    unfold f_Dec_begin_103_c2
    exact bnd_zz (Z := Cg) (P := PP Cg) (Cg_w (W := [(14, some 8)]) rfl rfl _ _ _ _ (Or.inr (by decide)) hs) fun s1 _ h1 => bg_c3 h1.1
  unfold f_Dec_begin_23_c2
  refine bnd_zz (Z := Nb) (P := PP Cg) (nb_ok h) fun r1 e1 h1 => ?_
  have h9 : Cg (up2 r1.2 14 3 r1.1) := ⟨fun i => by rw [up2_ne _ _ _ (by decide)]; exact h1.1 i, by rw [up2_same, upd, if_pos rfl]; exact h1.2⟩
  refine bnd_zz (Z := Cg) (P := PP Cg) h9 fun s2 e2 h2 => ?_
  refine ite_z (P := PP Cg) (fun _ => k1 _ h2) (fun _ => ?_)
  refine ite_z (P := PP Cg) (fun _ => k1 _ h2) (fun _ => ?_)
  refine ite_z (P := PP Cg) (fun _ => k2 _ h2) (fun _ => ?_)
  refine ite_z (P := PP Cg) (fun _ => k2 _ h2) (fun _ => ?_)
  refine ite_z (P := PP Cg) (fun _ => k2 _ h2) (fun _ => ?_)
  refine ite_z (P := PP Cg) (fun _ => k2 _ h2) (fun _ => ?_)
  exact h2
set_option maxHeartbeats 400000 in
theorem bg_c1 {σ : Sg} (h : Mb σ) : PP Cg (f_Dec_begin_23_c1 σ) := by
  have k1 : ∀ s, Cg s → PP Cg (f_Dec_begin_56_c1 s) := fun s hs => by
    unfold f_Dec_begin_56_c1
    exact bnd_zz (Z := Cg) (P := PP Cg) (Cg_w (W := [(14, some 4)]) rfl rfl _ _ _ _ (Or.inr (by decide)) hs) fun s1 _ h1 => bg_c2 h1.1
  have k2 : ∀ s, Cg s → PP Cg (f_Dec_begin_103_c1 s) := fun s hs => by
    unfold f_Dec_begin_103_c1
    exact bnd_zz (Z := Cg) (P := PP Cg) (Cg_w (W := [(14, some 8)]) rfl rfl _ _ _ _ (Or.inr (by decide)) hs) fun s1 _ h1 => bg_c2 h1.1
  unfold f_Dec_begin_23_c1
  refine bnd_zz (Z := Nb) (P := PP Cg) (nb_ok h) fun r1 e1 h1 => ?_
  have h9 : Cg (up2 r1.2 14 3 r1.1) := ⟨fun i => by rw [up2_ne _ _ _ (by decide)]; exact h1.1 i, by rw [up2_same, upd, if_pos rfl]; exact h1.2⟩
  refine bnd_zz (Z := Cg) (P := PP Cg) h9 fun s2 e2 h2 => ?_
  refine ite_z (P := PP Cg) (fun _ => k1 _ h2) (fun _ => ?_)
  refine ite_z (P := PP Cg) (fun _ => k1 _ h2) (fun _ => ?_)
  refine ite_z (P := PP Cg) (fun _ => k2 _ h2) (fun _ => ?_)
  refine ite_z (P := PP Cg) (fun _ => k2 _ h2) (fun _ => ?_)
  refine ite_z (P := PP Cg) (fun _ => k2 _ h2) (fun _ => ?_)
  refine ite_z (P := PP Cg) (fun _ => k2 _ h2) (fun _ => ?_)
  exact h2
set_option maxHeartbeats 400000 in
theorem bg_c0 {σ : Sg} (h : Mb σ) : PP Cg (f_Dec_begin_23_c0 σ) := by
  have k1 : ∀ s, Cg s → PP Cg (f_Dec_begin_56_c0 s) := fun s hs => by
    unfold f_Dec_begin_56_c0
    exact bnd_zz (Z := Cg) (P := PP Cg) (Cg_w (W := [(14, some 4)]) rfl rfl _ _ _ _ (Or.inr (by decide)) hs) fun s1 _ h1 => bg_c1 h1.1
  have k2 : ∀ s, Cg s → PP Cg (f_Dec_begin_103_c0 s) := fun s hs => by
    unfold f_Dec_begin_103_c0
    exact bnd_zz (Z := Cg) (P := PP Cg) (Cg_w (W := [(14, some 8)]) rfl rfl _ _ _ _ (Or.inr (by decide)) hs) fun s1 _ h1 => bg_c1 h1.1
  unfold f_Dec_begin_23_c0
  refine bnd_zz (Z := Nb) (P := PP Cg) (nb_ok h) fun r1 e1 h1 => ?_
  have h9 : Cg (up2 r1.2 14 3 r1.1) := ⟨fun i => by rw [up2_ne _ _ _ (by decide)]; exact h1.1 i, by rw [up2_same, upd, if_pos rfl]; exact h1.2⟩
  refine bnd_zz (Z := Cg) (P := PP Cg) h9 fun s2 e2 h2 => ?_
  refine ite_z (P := PP Cg) (fun _ => k1 _ h2) (fun _ => ?_)
  refine ite_z (P := PP Cg) (fun _ => k1 _ h2) (fun _ => ?_)
  refine ite_z (P := PP Cg) (fun _ => k2 _ h2) (fun _ => ?_)
  refine ite_z (P := PP Cg) (fun _ => k2 _ h2) (fun _ => ?_)
  refine ite_z (P := PP Cg) (fun _ => k2 _ h2) (fun _ => ?_)
  refine ite_z (P := PP Cg) (fun _ => k2 _ h2) (fun _ => ?_)
  exact h2
theorem beg_code {σ : Sg} (h : Mb σ) : ¬ (f_Dec_begin σ).2 14 3 < 0 := by
  have : PP Cg (f_Dec_begin σ) := by
    unfold f_Dec_begin
    refine bnd_zz (Z := Mb) (P := PP Cg) h fun s1 _ h1 => ?_
    refine bnd_zz (Z := Mb) (P := PP Cg) h1 fun s2 _ h2 => ?_
    refine bnd_zz (Z := Mb) (P := PP Cg) h2 fun s3 _ h3 => ?_
    exact bg_c0 h3
  exact this.2
end
section
def I_Pro_push_0 : List IT := [(0, .aload_n 0, 1, 0, 0, []), (1, .getfield 13, 3, 0, 0, []), (4, .getfield 166, 3, 0, 0, []), (7, .iconst 4, 1, 4, 0, []), (8, .iaload, 1, 0, 0, []), (9, .iconst 2, 1, 2, 0, []), (10, .isub, 1, 0, 0, []), (11, .ldc 155, 2, 65535, 0, []), (13, .iand, 1, 0, 0, []), (14, .istore_n 2, 1, 0, 0, []), (15, .aload_n 0, 1, 0, 0, []), (16, .getfield 13, 3, 0, 0, []), (19, .getfield 166, 3, 0, 0, []), (22, .iconst 4, 1, 4, 0, []), (23, .iload_n 2, 1, 0, 0, []), (24, .iastore, 1, 0, 0, []), (25, .aload_n 0, 1, 0, 0, []), (26, .getfield 7, 3, 0, 0, []), (29, .aload_n 0, 1, 0, 0, []), (30, .getfield 13, 3, 0, 0, []), (33, .getfield 156, 3, 0, 0, []), (36, .iconst 2, 1, 2, 0, []), (37, .iaload, 1, 0, 0, []), (38, .iload_n 2, 1, 0, 0, []), (39, .iconst 1, 1, 1, 0, []), (40, .iload_n 1, 1, 0, 0, []), (41, .invokevirtual 206, 3, 0, 0, []), (44, .return_, 1, 0, 0, [])]
theorem ok_Pro_push_0 : blkOK b_Pro_push pt_Pro 45 I_Pro_push_0 = true := by decide +kernel
def f_Pro_push (σ : Sg) (a1 : Int32) : Sg := (bnd (up2 σ 4 (Int32.toNatClampNeg (4 : Int32)) (((σ 4 (Int32.toNatClampNeg (4 : Int32))) - (2 : Int32)) &&& (65535 : Int32))) fun s1 => bnd (f_Mem_store s1 (s1 5 (Int32.toNatClampNeg (2 : Int32))) (((σ 4 (Int32.toNatClampNeg (4 : Int32))) - (2 : Int32)) &&& (65535 : Int32)) (1 : Int32) a1) fun r2 => r2)
abbrev w_Pro_push : List (Nat × Option Nat) := [(2, none), (4, none)]
theorem p_Pro_push {P : Sg → Prop} (hP : WP w_Pro_push P) {σ : Sg} {a1 : Int32} (h : P σ) : P (f_Pro_push σ a1) := by
  unfold f_Pro_push
  refine bnd_zz (Z := P) (hP _ _ _ _ (Or.inl (by decide)) h) fun s1 e1 q1 => ?_
  refine bnd_zz (Z := P) (p_Mem_store (wsub hP rfl) q1) fun r2 e2 q2 => ?_
  exact q2
set_option maxRecDepth 100000 in
set_option maxHeartbeats 4000000 in
theorem s_Pro_push {l : Launch} {ad : Nat → Nat} {D : va_G} {cI : ClassId} {σ : Sg} {a1 : Int32} {K : Option Value → Sg → Prop}   (hK : KV K (f_Pro_push σ a1)) : MetJ l ad D cI mi_Pro_push [.ref 12, .int a1] σ K := by
  refine met_of mi_Pro_push pt_Pro pt_Pro_in rfl pl_Pro rfl (Nat.le_of_ble_eq_true rfl) fun X hX => ?_
  have hX : Cl l ad D cI mi_Pro_push pt_Pro K X := hX
  show X 0 [.ref 12, .int a1, .null] [] σ
  unfold f_Pro_push at hK
  refine hX.1 45 I_Pro_push_0 ok_Pro_push_0 _ _ _ ?_
  refine And.intro (vin (by decide)) ?_
  refine And.intro (vin (by decide)) (SG_g hK fun s1 e1 hK => ?_)
  refine And.intro (vin (by decide)) ?_
  refine s_Mem_store (bnd_g hK fun r2 e2 hK => ?_)
  exact hK
def I_Pro_interrupt_0 : List IT := [(0, .aload_n 0, 1, 0, 0, []), (1, .aload_n 0, 1, 0, 0, []), (2, .getfield 17, 3, 0, 0, []), (5, .getfield 216, 3, 0, 0, []), (8, .invokevirtual 160, 3, 0, 0, []), (11, .aload_n 0, 1, 0, 0, []), (12, .aload_n 0, 1, 0, 0, []), (13, .getfield 13, 3, 0, 0, []), (16, .getfield 156, 3, 0, 0, []), (19, .iconst 1, 1, 1, 0, []), (20, .iaload, 1, 0, 0, []), (21, .invokevirtual 160, 3, 0, 0, []), (24, .aload_n 0, 1, 0, 0, []), (25, .aload_n 0, 1, 0, 0, []), (26, .getfield 13, 3, 0, 0, []), (29, .getfield 78, 3, 0, 0, []), (32, .invokevirtual 160, 3, 0, 0, []), (35, .aload_n 0, 1, 0, 0, []), (36, .getfield 17, 3, 0, 0, []), (39, .sipush 512, 3, 512, 0, []), (42, .iconst 0, 1, 0, 0, []), (43, .invokevirtual 247, 3, 0, 0, []), (46, .iconst 4, 1, 4, 0, []), (47, .iload_n 1, 1, 0, 0, []), (48, .bipush 15, 2, 15, 0, []), (50, .iand, 1, 0, 0, []), (51, .imul, 1, 0, 0, []), (52, .istore_n 2, 1, 0, 0, []), (53, .aload_n 0, 1, 0, 0, []), (54, .getfield 13, 3, 0, 0, []), (57, .aload_n 0, 1, 0, 0, []), (58, .getfield 7, 3, 0, 0, []), (61, .iconst 0, 1, 0, 0, []), (62, .iload_n 2, 1, 0, 0, []), (63, .iconst 1, 1, 1, 0, []), (64, .invokevirtual 200, 3, 0, 0, []), (67, .putfield 78, 3, 0, 0, []), (70, .aload_n 0, 1, 0, 0, []), (71, .getfield 13, 3, 0, 0, []), (74, .getfield 156, 3, 0, 0, []), (77, .iconst 1, 1, 1, 0, []), (78, .aload_n 0, 1, 0, 0, []), (79, .getfield 7, 3, 0, 0, []), (82, .iconst 0, 1, 0, 0, []), (83, .iload_n 2, 1, 0, 0, []), (84, .iconst 2, 1, 2, 0, []), (85, .iadd, 1, 0, 0, []), (86, .iconst 1, 1, 1, 0, []), (87, .invokevirtual 200, 3, 0, 0, []), (90, .iastore, 1, 0, 0, []), (91, .aload_n 0, 1, 0, 0, []), (92, .dup, 1, 0, 0, []), (93, .getfield 252, 3, 0, 0, []), (96, .iconst 1, 1, 1, 0, []), (97, .iadd, 1, 0, 0, []), (98, .putfield 252, 3, 0, 0, []), (101, .return_, 1, 0, 0, [])]
theorem ok_Pro_interrupt_0 : blkOK b_Pro_interrupt pt_Pro 102 I_Pro_interrupt_0 = true := by decide +kernel
def f_Pro_interrupt (σ : Sg) (a1 : Int32) : Sg := (bnd (f_Pro_push σ (σ 6 0)) fun r1 => bnd (f_Pro_push r1 (r1 5 (Int32.toNatClampNeg (1 : Int32)))) fun r2 => bnd (f_Pro_push r2 (r2 3 2)) fun r3 => bnd (f_Fla_set r3 (512 : Int32) (0 : Int32)) fun r4 => bnd (f_Mem_fetch r4 (0 : Int32) ((4 : Int32) * (a1 &&& (15 : Int32))) (1 : Int32)) fun r5 => bnd (up2 r5.2 3 2 r5.1) fun s6 => bnd (f_Mem_fetch s6 (0 : Int32) (((4 : Int32) * (a1 &&& (15 : Int32))) + (2 : Int32)) (1 : Int32)) fun r7 => bnd (up2 r7.2 5 (Int32.toNatClampNeg (1 : Int32)) r7.1) fun s8 => bnd (up2 s8 12 7 ((s8 12 7) + (1 : Int32))) fun s9 => s9)
abbrev w_Pro_interrupt : List (Nat × Option Nat) := [(2, none), (3, some 2), (4, none), (5, none), (6, some 0), (12, some 7)]
theorem p_Pro_interrupt {P : Sg → Prop} (hP : WP w_Pro_interrupt P) {σ : Sg} {a1 : Int32} (h : P σ) : P (f_Pro_interrupt σ a1) := by
  unfold f_Pro_interrupt
  refine bnd_zz (Z := P) (p_Pro_push (wsub hP rfl) h) fun r1 e1 q1 => ?_
  refine bnd_zz (Z := P) (p_Pro_push (wsub hP rfl) q1) fun r2 e2 q2 => ?_
  refine bnd_zz (Z := P) (p_Pro_push (wsub hP rfl) q2) fun r3 e3 q3 => ?_
  refine bnd_zz (Z := P) (p_Fla_set (wsub hP rfl) q3) fun r4 e4 q4 => ?_
  refine bnd_zz (Z := PP P) (p_Mem_fetch (wsub hP rfl) q4) fun r5 e5 q5 => ?_
  refine bnd_zz (Z := P) (hP _ _ _ _ (Or.inr (by decide)) q5) fun s6 e6 q6 => ?_
  refine bnd_zz (Z := PP P) (p_Mem_fetch (wsub hP rfl) q6) fun r7 e7 q7 => ?_
  refine bnd_zz (Z := P) (hP _ _ _ _ (Or.inl (by decide)) q7) fun s8 e8 q8 => ?_
  refine bnd_zz (Z := P) (hP _ _ _ _ (Or.inr (by decide)) q8) fun s9 e9 q9 => ?_
  exact q9
set_option maxRecDepth 100000 in
set_option maxHeartbeats 4000000 in
theorem s_Pro_interrupt {l : Launch} {ad : Nat → Nat} {D : va_G} {cI : ClassId} {σ : Sg} {a1 : Int32} {K : Option Value → Sg → Prop}   (hK : KV K (f_Pro_interrupt σ a1)) : MetJ l ad D cI mi_Pro_interrupt [.ref 12, .int a1] σ K := by
  refine met_of mi_Pro_interrupt pt_Pro pt_Pro_in rfl pl_Pro rfl (Nat.le_of_ble_eq_true rfl) fun X hX => ?_
  have hX : Cl l ad D cI mi_Pro_interrupt pt_Pro K X := hX
  show X 0 [.ref 12, .int a1, .null] [] σ
  unfold f_Pro_interrupt at hK
  refine hX.1 102 I_Pro_interrupt_0 ok_Pro_interrupt_0 _ _ _ ?_
  refine s_Pro_push (bnd_g hK fun r1 e1 hK => ?_)
  refine And.intro (vin (by decide)) ?_
  refine s_Pro_push (bnd_g hK fun r2 e2 hK => ?_)
  refine s_Pro_push (bnd_g hK fun r3 e3 hK => ?_)
  refine s_Fla_set (bnd_g hK fun r4 e4 hK => ?_)
  refine s_Mem_fetch (bnd_g hK fun r5 e5 hK => ?_)
  refine And.intro trivial (SG_g hK fun s6 e6 hK => ?_)
  refine s_Mem_fetch (bnd_g hK fun r7 e7 hK => ?_)
  refine And.intro (vin (by decide)) (SG_g hK fun s8 e8 hK => ?_)
  refine And.intro trivial (SG_g hK fun s9 e9 hK => ?_)
  exact hK
def I_Pro_combine_0 : List IT := [(0, .iload_n 1, 1, 0, 0, []), (1, .iconst 3, 1, 3, 0, []), (2, .ishr, 1, 0, 0, []), (3, .istore_n 2, 1, 0, 0, []), (4, .iload_n 1, 1, 0, 0, []), (5, .iconst 1, 1, 1, 0, []), (6, .iand, 1, 0, 0, []), (7, .iconst 1, 1, 1, 0, []), (8, .if_icmp .ne 7, 3, 0, 15, []), (11, .iconst 1, 1, 1, 0, []), (12, .goto 4, 3, 0, 16, [])]
theorem ok_Pro_combine_0 : blkOK b_Pro_combine pt_Pro 15 I_Pro_combine_0 = true := by decide +kernel
def I_Pro_combine_15 : List IT := [(15, .iconst 0, 1, 0, 0, [])]
theorem ok_Pro_combine_15 : blkOK b_Pro_combine pt_Pro 16 I_Pro_combine_15 = true := by decide +kernel
def I_Pro_combine_16 : List IT := [(16, .istore_n 3, 1, 0, 0, []), (17, .iload_n 1, 1, 0, 0, []), (18, .iconst 4, 1, 4, 0, []), (19, .iand, 1, 0, 0, []), (20, .ifCond .eq 44, 3, 0, 64, []), (23, .aload_n 0, 1, 0, 0, []), (24, .getfield 34, 3, 0, 0, []), (27, .iload_n 3, 1, 0, 0, []), (28, .invokevirtual 126, 3, 0, 0, []), (31, .istore 4, 2, 0, 0, []), (33, .aload_n 0, 1, 0, 0, []), (34, .getfield 13, 3, 0, 0, []), (37, .iconst 0, 1, 0, 0, []), (38, .iload_n 3, 1, 0, 0, []), (39, .aload_n 0, 1, 0, 0, []), (40, .getfield 17, 3, 0, 0, []), (43, .iload_n 2, 1, 0, 0, []), (44, .aload_n 0, 1, 0, 0, []), (45, .getfield 13, 3, 0, 0, []), (48, .iconst 0, 1, 0, 0, []), (49, .iload_n 3, 1, 0, 0, []), (50, .invokevirtual 130, 3, 0, 0, []), (53, .iload 4, 2, 0, 0, []), (55, .iload_n 3, 1, 0, 0, []), (56, .invokevirtual 134, 3, 0, 0, []), (59, .invokevirtual 137, 3, 0, 0, []), (62, .iconst 1, 1, 1, 0, []), (63, .ireturn, 1, 0, 0, [])]
theorem ok_Pro_combine_16 : blkOK b_Pro_combine pt_Pro 64 I_Pro_combine_16 = true := by decide +kernel
def I_Pro_combine_64 : List IT := [(64, .aload_n 0, 1, 0, 0, []), (65, .getfield 34, 3, 0, 0, []), (68, .iload_n 3, 1, 0, 0, []), (69, .invokevirtual 141, 3, 0, 0, []), (72, .aload_n 0, 1, 0, 0, []), (73, .getfield 34, 3, 0, 0, []), (76, .invokevirtual 145, 3, 0, 0, []), (79, .istore 4, 2, 0, 0, []), (81, .aload_n 0, 1, 0, 0, []), (82, .getfield 13, 3, 0, 0, []), (85, .aload_n 0, 1, 0, 0, []), (86, .getfield 34, 3, 0, 0, []), (89, .getfield 147, 3, 0, 0, []), (92, .iload_n 3, 1, 0, 0, []), (93, .invokevirtual 130, 3, 0, 0, []), (96, .istore 5, 2, 0, 0, []), (98, .iload_n 1, 1, 0, 0, []), (99, .iconst 2, 1, 2, 0, []), (100, .iand, 1, 0, 0, []), (101, .ifCond .ne 26, 3, 0, 127, []), (104, .aload_n 0, 1, 0, 0, []), (105, .getfield 34, 3, 0, 0, []), (108, .aload_n 0, 1, 0, 0, []), (109, .getfield 17, 3, 0, 0, []), (112, .iload_n 2, 1, 0, 0, []), (113, .iload 4, 2, 0, 0, []), (115, .iload 5, 2, 0, 0, []), (117, .iload_n 3, 1, 0, 0, []), (118, .invokevirtual 134, 3, 0, 0, []), (121, .invokevirtual 150, 3, 0, 0, []), (124, .goto 31, 3, 0, 155, [])]
theorem ok_Pro_combine_64 : blkOK b_Pro_combine pt_Pro 127 I_Pro_combine_64 = true := by decide +kernel
def I_Pro_combine_127 : List IT := [(127, .aload_n 0, 1, 0, 0, []), (128, .getfield 13, 3, 0, 0, []), (131, .aload_n 0, 1, 0, 0, []), (132, .getfield 34, 3, 0, 0, []), (135, .getfield 147, 3, 0, 0, []), (138, .iload_n 3, 1, 0, 0, []), (139, .aload_n 0, 1, 0, 0, []), (140, .getfield 17, 3, 0, 0, []), (143, .iload_n 2, 1, 0, 0, []), (144, .iload 5, 2, 0, 0, []), (146, .iload 4, 2, 0, 0, []), (148, .iload_n 3, 1, 0, 0, []), (149, .invokevirtual 134, 3, 0, 0, []), (152, .invokevirtual 137, 3, 0, 0, [])]
theorem ok_Pro_combine_127 : blkOK b_Pro_combine pt_Pro 155 I_Pro_combine_127 = true := by decide +kernel
def I_Pro_combine_155 : List IT := [(155, .iconst 1, 1, 1, 0, []), (156, .ireturn, 1, 0, 0, [])]
theorem ok_Pro_combine_155 : blkOK b_Pro_combine pt_Pro 157 I_Pro_combine_155 = true := by decide +kernel
def f_Pro_combine_16 (σ : Sg) (x1 : Int32) (x2 : Int32) (y0 : Int32) : Int32 × Sg := (if (x1 &&& (4 : Int32)) = (0 : Int32) then (bnd (f_Dec_readModrm σ y0) fun r2 => bnd (f_Dec_value r2) fun r3 => bnd (f_Reg_value r3.2 (r3.2 14 5) y0) fun r4 => (if (x1 &&& (2 : Int32)) = (0 : Int32) then (bnd (f_Fla_combine r4.2 x2 r3.1 r4.1 y0) fun r6 => bnd (f_Dec_change r6.2 r6.1) fun r7 => ((1 : Int32), r7)) else (bnd (f_Fla_combine r4.2 x2 r4.1 r3.1 y0) fun r8 => bnd (f_Reg_change r8.2 (r4.2 14 5) y0 r8.1) fun r9 => ((1 : Int32), r9)))) else (bnd (f_Dec_nextOf σ y0) fun r10 => bnd (f_Reg_value r10.2 (0 : Int32) y0) fun r11 => bnd (f_Fla_combine r11.2 x2 r11.1 r10.1 y0) fun r12 => bnd (f_Reg_change r12.2 (0 : Int32) y0 r12.1) fun r13 => ((1 : Int32), r13)))
theorem z_Pro_combine_16 {σ : Sg} {x1 : Int32} {x2 : Int32} {y0 : Int32} (z_y0 : y0 = 0 ∨ y0 = 1)  : (f_Pro_combine_16 σ x1 x2 y0).1 = 0 ∨ (f_Pro_combine_16 σ x1 x2 y0).1 = 1 := by
  show Zb (f_Pro_combine_16 σ x1 x2 y0)
  unfold f_Pro_combine_16
  refine ite_z (fun h1 => ?_) (fun h1 => ?_)
  · refine bnd_z fun r2 e2 => ?_
    refine bnd_z fun r3 e3 => ?_
    refine bnd_z fun r4 e4 => ?_
    refine ite_z (fun h5 => ?_) (fun h5 => ?_)
    · refine bnd_z fun r6 e6 => ?_
      refine bnd_z fun r7 e7 => ?_
      exact (Or.inr rfl)
    · refine bnd_z fun r8 e8 => ?_
      refine bnd_z fun r9 e9 => ?_
      exact (Or.inr rfl)
  · refine bnd_z fun r10 e10 => ?_
    refine bnd_z fun r11 e11 => ?_
    refine bnd_z fun r12 e12 => ?_
    refine bnd_z fun r13 e13 => ?_
    exact (Or.inr rfl)
abbrev w_Pro_combine_16 : List (Nat × Option Nat) := [(2, none), (3, some 2), (4, none), (6, some 0), (14, some 5), (14, some 6), (14, some 7), (14, some 9), (14, some 10), (14, some 11)]
theorem p_Pro_combine_16 {P : Sg → Prop} (hP : WP w_Pro_combine_16 P) {σ : Sg} {x1 : Int32} {x2 : Int32} {y0 : Int32} (h : P σ) : PP P (f_Pro_combine_16 σ x1 x2 y0) := by
  unfold f_Pro_combine_16
  refine ite_z (fun _ => ?_) (fun _ => ?_)
  · refine bnd_zz (Z := P) (p_Dec_readModrm (wsub hP rfl) h) fun r2 e2 q2 => ?_
    refine bnd_zz (Z := PP P) (p_Dec_value (wsub hP rfl) q2) fun r3 e3 q3 => ?_
    refine bnd_zz (Z := PP P) (p_Reg_value (wsub hP rfl) q3) fun r4 e4 q4 => ?_
    refine ite_z (fun _ => ?_) (fun _ => ?_)
    · refine bnd_zz (Z := PP P) (p_Fla_combine (wsub hP rfl) q4) fun r6 e6 q6 => ?_
      refine bnd_zz (Z := P) (p_Dec_change (wsub hP rfl) q6) fun r7 e7 q7 => ?_
      exact q7
    · refine bnd_zz (Z := PP P) (p_Fla_combine (wsub hP rfl) q4) fun r8 e8 q8 => ?_
      refine bnd_zz (Z := P) (p_Reg_change (wsub hP rfl) q8) fun r9 e9 q9 => ?_
      exact q9
  · refine bnd_zz (Z := PP P) (p_Dec_nextOf (wsub hP rfl) h) fun r10 e10 q10 => ?_
    refine bnd_zz (Z := PP P) (p_Reg_value (wsub hP rfl) q10) fun r11 e11 q11 => ?_
    refine bnd_zz (Z := PP P) (p_Fla_combine (wsub hP rfl) q11) fun r12 e12 q12 => ?_
    refine bnd_zz (Z := P) (p_Reg_change (wsub hP rfl) q12) fun r13 e13 q13 => ?_
    exact q13
set_option maxRecDepth 100000 in
set_option maxHeartbeats 4000000 in
theorem b_Pro_combine_16 {l : Launch} {ad : Nat → Nat} {D : va_G} {cI : ClassId} {K : Option Value → Sg → Prop} {X : Nat → List Value → List Value → Sg → Prop} (hX : Cl l ad D cI mi_Pro_combine pt_Pro K X) {σ : Sg} {x1 : Int32} {x2 : Int32} {y0 : Int32} (z_y0 : y0 = 0 ∨ y0 = 1)  (hK : KI K (f_Pro_combine_16 σ x1 x2 y0)) : X 16 [.ref 12, .int x1, .int x2, .null, .null, .null] [.int y0] σ := by
  unfold f_Pro_combine_16 at hK
  refine hX.1 64 I_Pro_combine_16 ok_Pro_combine_16 _ _ _ ?_
  refine And.intro (fun h1 => ?_) (fun h1 => ?_)
  · have hK := ite_p hK h1
    refine hX.1 127 I_Pro_combine_64 ok_Pro_combine_64 _ _ _ ?_
    refine s_Dec_readModrm z_y0 (bnd_g hK fun r2 e2 hK => ?_)
    refine s_Dec_value (bnd_g hK fun r3 e3 hK => ?_)
    refine s_Reg_value (bnd_g hK fun r4 e4 hK => ?_)
    refine And.intro (fun h5 => ?_) (fun h5 => ?_)
    · have hK := ite_p hK h5
      refine s_Fla_combine (bnd_g hK fun r6 e6 hK => ?_)
      refine s_Dec_change (bnd_g hK fun r7 e7 hK => ?_)
      refine hX.1 157 I_Pro_combine_155 ok_Pro_combine_155 _ _ _ ?_
      exact And.intro (Or.inr rfl) hK
    · have hK := ite_n hK h5
      refine hX.1 155 I_Pro_combine_127 ok_Pro_combine_127 _ _ _ ?_
      refine s_Fla_combine (bnd_g hK fun r8 e8 hK => ?_)
      refine s_Reg_change (bnd_g hK fun r9 e9 hK => ?_)
      refine hX.1 157 I_Pro_combine_155 ok_Pro_combine_155 _ _ _ ?_
      exact And.intro (Or.inr rfl) hK
  · have hK := ite_n hK h1
    refine s_Dec_nextOf (bnd_g hK fun r10 e10 hK => ?_)
    refine s_Reg_value (bnd_g hK fun r11 e11 hK => ?_)
    refine s_Fla_combine (bnd_g hK fun r12 e12 hK => ?_)
    refine s_Reg_change (bnd_g hK fun r13 e13 hK => ?_)
    exact And.intro (Or.inr rfl) hK
def f_Pro_combine (σ : Sg) (a1 : Int32) : Int32 × Sg := (if (a1 &&& (1 : Int32)) = (1 : Int32) then (f_Pro_combine_16 σ a1 (a1 >>> ((3 : Int32) &&& 31 : Int32)) (1 : Int32)) else (f_Pro_combine_16 σ a1 (a1 >>> ((3 : Int32) &&& 31 : Int32)) (0 : Int32)))
theorem z_Pro_combine {σ : Sg} {a1 : Int32}   : (f_Pro_combine σ a1).1 = 0 ∨ (f_Pro_combine σ a1).1 = 1 := by
  show Zb (f_Pro_combine σ a1)
  unfold f_Pro_combine
  refine ite_z (fun h1 => ?_) (fun h1 => ?_)
  · exact z_Pro_combine_16 (Or.inr rfl)
  · exact z_Pro_combine_16 (Or.inl rfl)
abbrev w_Pro_combine : List (Nat × Option Nat) := [(2, none), (3, some 2), (4, none), (6, some 0), (14, some 5), (14, some 6), (14, some 7), (14, some 9), (14, some 10), (14, some 11)]
theorem p_Pro_combine {P : Sg → Prop} (hP : WP w_Pro_combine P) {σ : Sg} {a1 : Int32} (h : P σ) : PP P (f_Pro_combine σ a1) := by
  unfold f_Pro_combine
  refine ite_z (fun _ => ?_) (fun _ => ?_)
  · exact p_Pro_combine_16 (wsub hP rfl) h
  · exact p_Pro_combine_16 (wsub hP rfl) h
set_option maxRecDepth 100000 in
set_option maxHeartbeats 4000000 in
theorem s_Pro_combine {l : Launch} {ad : Nat → Nat} {D : va_G} {cI : ClassId} {σ : Sg} {a1 : Int32} {K : Option Value → Sg → Prop}   (hK : KI K (f_Pro_combine σ a1)) : MetJ l ad D cI mi_Pro_combine [.ref 12, .int a1] σ K := by
  refine met_of mi_Pro_combine pt_Pro pt_Pro_in rfl pl_Pro rfl (Nat.le_of_ble_eq_true rfl) fun X hX => ?_
  have hX : Cl l ad D cI mi_Pro_combine pt_Pro K X := hX
  show X 0 [.ref 12, .int a1, .null, .null, .null, .null] [] σ
  unfold f_Pro_combine at hK
  refine hX.1 15 I_Pro_combine_0 ok_Pro_combine_0 _ _ _ ?_
  refine And.intro (fun h1 => ?_) (fun h1 => ?_)
  · have hK := ite_p hK h1
    exact b_Pro_combine_16 hX (Or.inr rfl) hK
  · have hK := ite_n hK h1
    refine hX.1 16 I_Pro_combine_15 ok_Pro_combine_15 _ _ _ ?_
    exact b_Pro_combine_16 hX (Or.inl rfl) hK
def I_Pro_pop_0 : List IT := [(0, .aload_n 0, 1, 0, 0, []), (1, .getfield 13, 3, 0, 0, []), (4, .getfield 166, 3, 0, 0, []), (7, .iconst 4, 1, 4, 0, []), (8, .iaload, 1, 0, 0, []), (9, .istore_n 1, 1, 0, 0, []), (10, .aload_n 0, 1, 0, 0, []), (11, .getfield 13, 3, 0, 0, []), (14, .getfield 166, 3, 0, 0, []), (17, .iconst 4, 1, 4, 0, []), (18, .iload_n 1, 1, 0, 0, []), (19, .iconst 2, 1, 2, 0, []), (20, .iadd, 1, 0, 0, []), (21, .ldc 155, 2, 65535, 0, []), (23, .iand, 1, 0, 0, []), (24, .iastore, 1, 0, 0, []), (25, .aload_n 0, 1, 0, 0, []), (26, .getfield 7, 3, 0, 0, []), (29, .aload_n 0, 1, 0, 0, []), (30, .getfield 13, 3, 0, 0, []), (33, .getfield 156, 3, 0, 0, []), (36, .iconst 2, 1, 2, 0, []), (37, .iaload, 1, 0, 0, []), (38, .iload_n 1, 1, 0, 0, []), (39, .iconst 1, 1, 1, 0, []), (40, .invokevirtual 200, 3, 0, 0, []), (43, .ireturn, 1, 0, 0, [])]
theorem ok_Pro_pop_0 : blkOK b_Pro_pop pt_Pro 44 I_Pro_pop_0 = true := by decide +kernel
def f_Pro_pop (σ : Sg)  : Int32 × Sg := (bnd (up2 σ 4 (Int32.toNatClampNeg (4 : Int32)) (((σ 4 (Int32.toNatClampNeg (4 : Int32))) + (2 : Int32)) &&& (65535 : Int32))) fun s1 => bnd (f_Mem_fetch s1 (s1 5 (Int32.toNatClampNeg (2 : Int32))) (σ 4 (Int32.toNatClampNeg (4 : Int32))) (1 : Int32)) fun r2 => (r2.1, r2.2))
abbrev w_Pro_pop : List (Nat × Option Nat) := [(4, none)]
theorem p_Pro_pop {P : Sg → Prop} (hP : WP w_Pro_pop P) {σ : Sg}  (h : P σ) : PP P (f_Pro_pop σ ) := by
  unfold f_Pro_pop
  refine bnd_zz (Z := P) (hP _ _ _ _ (Or.inl (by decide)) h) fun s1 e1 q1 => ?_
  refine bnd_zz (Z := PP P) (p_Mem_fetch (wsub hP rfl) q1) fun r2 e2 q2 => ?_
  exact q2
set_option maxRecDepth 100000 in
set_option maxHeartbeats 4000000 in
theorem s_Pro_pop {l : Launch} {ad : Nat → Nat} {D : va_G} {cI : ClassId} {σ : Sg}  {K : Option Value → Sg → Prop}   (hK : KI K (f_Pro_pop σ )) : MetJ l ad D cI mi_Pro_pop [.ref 12] σ K := by
  refine met_of mi_Pro_pop pt_Pro pt_Pro_in rfl pl_Pro rfl (Nat.le_of_ble_eq_true rfl) fun X hX => ?_
  have hX : Cl l ad D cI mi_Pro_pop pt_Pro K X := hX
  show X 0 [.ref 12, .null] [] σ
  unfold f_Pro_pop at hK
  refine hX.1 44 I_Pro_pop_0 ok_Pro_pop_0 _ _ _ ?_
  refine And.intro (vin (by decide)) ?_
  refine And.intro (vin (by decide)) (SG_g hK fun s1 e1 hK => ?_)
  refine And.intro (vin (by decide)) ?_
  refine s_Mem_fetch (bnd_g hK fun r2 e2 hK => ?_)
  exact hK
def I_Pro_segmentOnStack_0 : List IT := [(0, .iload_n 1, 1, 0, 0, []), (1, .iconst 3, 1, 3, 0, []), (2, .ishr, 1, 0, 0, []), (3, .istore_n 2, 1, 0, 0, []), (4, .iload_n 2, 1, 0, 0, []), (5, .iconst 3, 1, 3, 0, []), (6, .if_icmp .le 5, 3, 0, 11, []), (9, .iconst 0, 1, 0, 0, []), (10, .ireturn, 1, 0, 0, [])]
theorem ok_Pro_segmentOnStack_0 : blkOK b_Pro_segmentOnStack pt_Pro 11 I_Pro_segmentOnStack_0 = true := by decide +kernel
def I_Pro_segmentOnStack_11 : List IT := [(11, .iload_n 1, 1, 0, 0, []), (12, .iconst 1, 1, 1, 0, []), (13, .iand, 1, 0, 0, []), (14, .ifCond .ne 18, 3, 0, 32, []), (17, .aload_n 0, 1, 0, 0, []), (18, .aload_n 0, 1, 0, 0, []), (19, .getfield 13, 3, 0, 0, []), (22, .getfield 156, 3, 0, 0, []), (25, .iload_n 2, 1, 0, 0, []), (26, .iaload, 1, 0, 0, []), (27, .invokevirtual 160, 3, 0, 0, []), (30, .iconst 1, 1, 1, 0, []), (31, .ireturn, 1, 0, 0, [])]
theorem ok_Pro_segmentOnStack_11 : blkOK b_Pro_segmentOnStack pt_Pro 32 I_Pro_segmentOnStack_11 = true := by decide +kernel
def I_Pro_segmentOnStack_32 : List IT := [(32, .iload_n 2, 1, 0, 0, []), (33, .iconst 1, 1, 1, 0, []), (34, .if_icmp .ne 5, 3, 0, 39, []), (37, .iconst 0, 1, 0, 0, []), (38, .ireturn, 1, 0, 0, [])]
theorem ok_Pro_segmentOnStack_32 : blkOK b_Pro_segmentOnStack pt_Pro 39 I_Pro_segmentOnStack_32 = true := by decide +kernel
def I_Pro_segmentOnStack_39 : List IT := [(39, .aload_n 0, 1, 0, 0, []), (40, .getfield 13, 3, 0, 0, []), (43, .getfield 156, 3, 0, 0, []), (46, .iload_n 2, 1, 0, 0, []), (47, .aload_n 0, 1, 0, 0, []), (48, .invokevirtual 163, 3, 0, 0, []), (51, .iastore, 1, 0, 0, []), (52, .aload_n 0, 1, 0, 0, []), (53, .iload_n 2, 1, 0, 0, []), (54, .iconst 2, 1, 2, 0, []), (55, .if_icmp .ne 7, 3, 0, 62, []), (58, .iconst 1, 1, 1, 0, []), (59, .goto 4, 3, 0, 63, [])]
theorem ok_Pro_segmentOnStack_39 : blkOK b_Pro_segmentOnStack pt_Pro 62 I_Pro_segmentOnStack_39 = true := by decide +kernel
def I_Pro_segmentOnStack_62 : List IT := [(62, .iconst 0, 1, 0, 0, [])]
theorem ok_Pro_segmentOnStack_62 : blkOK b_Pro_segmentOnStack pt_Pro 63 I_Pro_segmentOnStack_62 = true := by decide +kernel
def I_Pro_segmentOnStack_63 : List IT := [(63, .putfield 44, 3, 0, 0, []), (66, .iconst 1, 1, 1, 0, []), (67, .ireturn, 1, 0, 0, [])]
theorem ok_Pro_segmentOnStack_63 : blkOK b_Pro_segmentOnStack pt_Pro 68 I_Pro_segmentOnStack_63 = true := by decide +kernel
def f_Pro_segmentOnStack (σ : Sg) (a1 : Int32) : Int32 × Sg := (if (a1 >>> ((3 : Int32) &&& 31 : Int32)) ≤ (3 : Int32) then (if (a1 &&& (1 : Int32)) = (0 : Int32) then (bnd (f_Pro_push σ (σ 5 (Int32.toNatClampNeg (a1 >>> ((3 : Int32) &&& 31 : Int32))))) fun r3 => ((1 : Int32), r3)) else (if (a1 >>> ((3 : Int32) &&& 31 : Int32)) = (1 : Int32) then ((0 : Int32), σ) else (bnd (f_Pro_pop σ) fun r5 => bnd (up2 r5.2 5 (Int32.toNatClampNeg (a1 >>> ((3 : Int32) &&& 31 : Int32))) r5.1) fun s6 => (if (a1 >>> ((3 : Int32) &&& 31 : Int32)) = (2 : Int32) then (bnd (up2 s6 12 8 (1 : Int32)) fun s8 => ((1 : Int32), s8)) else (bnd (up2 s6 12 8 (0 : Int32)) fun s9 => ((1 : Int32), s9)))))) else ((0 : Int32), σ))
theorem z_Pro_segmentOnStack {σ : Sg} {a1 : Int32}  (hc : ¬ a1 < 0) : (f_Pro_segmentOnStack σ a1).1 = 0 ∨ (f_Pro_segmentOnStack σ a1).1 = 1 := by
  show Zb (f_Pro_segmentOnStack σ a1)
  unfold f_Pro_segmentOnStack
  refine ite_z (fun h1 => ?_) (fun h1 => ?_)
  · refine ite_z (fun h2 => ?_) (fun h2 => ?_)
    · refine bnd_z fun r3 e3 => ?_
      exact (Or.inr rfl)
    · refine ite_z (fun h4 => ?_) (fun h4 => ?_)
      · exact (Or.inl rfl)
      · refine bnd_z fun r5 e5 => ?_
        refine bnd_z fun s6 e6 => ?_
        refine ite_z (fun h7 => ?_) (fun h7 => ?_)
        · refine bnd_z fun s8 e8 => ?_
          exact (Or.inr rfl)
        · refine bnd_z fun s9 e9 => ?_
          exact (Or.inr rfl)
  · exact (Or.inl rfl)
abbrev w_Pro_segmentOnStack : List (Nat × Option Nat) := [(2, none), (4, none), (5, none), (12, some 8)]
theorem p_Pro_segmentOnStack {P : Sg → Prop} (hP : WP w_Pro_segmentOnStack P) {σ : Sg} {a1 : Int32} (h : P σ) : PP P (f_Pro_segmentOnStack σ a1) := by
  unfold f_Pro_segmentOnStack
  refine ite_z (fun _ => ?_) (fun _ => ?_)
  · refine ite_z (fun _ => ?_) (fun _ => ?_)
    · refine bnd_zz (Z := P) (p_Pro_push (wsub hP rfl) h) fun r3 e3 q3 => ?_
      exact q3
    · refine ite_z (fun _ => ?_) (fun _ => ?_)
      · exact h
      · refine bnd_zz (Z := PP P) (p_Pro_pop (wsub hP rfl) h) fun r5 e5 q5 => ?_
        refine bnd_zz (Z := P) (hP _ _ _ _ (Or.inl (by decide)) q5) fun s6 e6 q6 => ?_
        refine ite_z (fun _ => ?_) (fun _ => ?_)
        · refine bnd_zz (Z := P) (hP _ _ _ _ (Or.inr (by decide)) q6) fun s8 e8 q8 => ?_
          exact q8
        · refine bnd_zz (Z := P) (hP _ _ _ _ (Or.inr (by decide)) q6) fun s9 e9 q9 => ?_
          exact q9
  · exact h
set_option maxRecDepth 100000 in
set_option maxHeartbeats 4000000 in
theorem s_Pro_segmentOnStack {l : Launch} {ad : Nat → Nat} {D : va_G} {cI : ClassId} {σ : Sg} {a1 : Int32} {K : Option Value → Sg → Prop}  (hc : ¬ a1 < 0) (hK : KI K (f_Pro_segmentOnStack σ a1)) : MetJ l ad D cI mi_Pro_segmentOnStack [.ref 12, .int a1] σ K := by
  refine met_of mi_Pro_segmentOnStack pt_Pro pt_Pro_in rfl pl_Pro rfl (Nat.le_of_ble_eq_true rfl) fun X hX => ?_
  have hX : Cl l ad D cI mi_Pro_segmentOnStack pt_Pro K X := hX
  show X 0 [.ref 12, .int a1, .null] [] σ
  unfold f_Pro_segmentOnStack at hK
  refine hX.1 11 I_Pro_segmentOnStack_0 ok_Pro_segmentOnStack_0 _ _ _ ?_
  refine And.intro (fun h1 => ?_) (fun h1 => ?_)
  · have hK := ite_p hK h1
    refine hX.1 32 I_Pro_segmentOnStack_11 ok_Pro_segmentOnStack_11 _ _ _ ?_
    refine And.intro (fun h2 => ?_) (fun h2 => ?_)
    · have hK := ite_p hK h2
      refine And.intro (vin_sh (m := 3) rfl rfl hc h1) ?_
      refine s_Pro_push (bnd_g hK fun r3 e3 hK => ?_)
      exact And.intro (Or.inr rfl) hK
    · have hK := ite_n hK h2
      refine hX.1 39 I_Pro_segmentOnStack_32 ok_Pro_segmentOnStack_32 _ _ _ ?_
      refine And.intro (fun h4 => ?_) (fun h4 => ?_)
      · have hK := ite_p hK h4
        exact And.intro (Or.inl rfl) hK
      · have hK := ite_n hK h4
        refine hX.1 62 I_Pro_segmentOnStack_39 ok_Pro_segmentOnStack_39 _ _ _ ?_
        refine s_Pro_pop (bnd_g hK fun r5 e5 hK => ?_)
        refine And.intro (vin_sh (m := 3) rfl rfl hc h1) (SG_g hK fun s6 e6 hK => ?_)
        refine And.intro (fun h7 => ?_) (fun h7 => ?_)
        · have hK := ite_p hK h7
          refine hX.1 68 I_Pro_segmentOnStack_63 ok_Pro_segmentOnStack_63 _ _ _ ?_
          refine And.intro (Or.inr rfl) (SG_g hK fun s8 e8 hK => ?_)
          exact And.intro (Or.inr rfl) hK
        · have hK := ite_n hK h7
          refine hX.1 63 I_Pro_segmentOnStack_62 ok_Pro_segmentOnStack_62 _ _ _ ?_
          refine hX.1 68 I_Pro_segmentOnStack_63 ok_Pro_segmentOnStack_63 _ _ _ ?_
          refine And.intro (Or.inl rfl) (SG_g hK fun s9 e9 hK => ?_)
          exact And.intro (Or.inr rfl) hK
  · have hK := ite_n hK h1
    exact And.intro (Or.inl rfl) hK
def I_Pro_countRegister_0 : List IT := [(0, .iload_n 1, 1, 0, 0, []), (1, .bipush 7, 2, 7, 0, []), (3, .iand, 1, 0, 0, []), (4, .istore_n 2, 1, 0, 0, []), (5, .aload_n 0, 1, 0, 0, []), (6, .getfield 13, 3, 0, 0, []), (9, .getfield 166, 3, 0, 0, []), (12, .iload_n 2, 1, 0, 0, []), (13, .iaload, 1, 0, 0, []), (14, .istore_n 3, 1, 0, 0, []), (15, .aload_n 0, 1, 0, 0, []), (16, .getfield 13, 3, 0, 0, []), (19, .getfield 166, 3, 0, 0, []), (22, .iload_n 2, 1, 0, 0, []), (23, .iload_n 1, 1, 0, 0, []), (24, .bipush 72, 2, 72, 0, []), (26, .if_icmp .ge 15, 3, 0, 41, []), (29, .aload_n 0, 1, 0, 0, []), (30, .getfield 17, 3, 0, 0, []), (33, .iload_n 3, 1, 0, 0, []), (34, .iconst 1, 1, 1, 0, []), (35, .invokevirtual 169, 3, 0, 0, []), (38, .goto 12, 3, 0, 50, [])]
theorem ok_Pro_countRegister_0 : blkOK b_Pro_countRegister pt_Pro 41 I_Pro_countRegister_0 = true := by decide +kernel
def I_Pro_countRegister_41 : List IT := [(41, .aload_n 0, 1, 0, 0, []), (42, .getfield 17, 3, 0, 0, []), (45, .iload_n 3, 1, 0, 0, []), (46, .iconst 1, 1, 1, 0, []), (47, .invokevirtual 172, 3, 0, 0, [])]
theorem ok_Pro_countRegister_41 : blkOK b_Pro_countRegister pt_Pro 50 I_Pro_countRegister_41 = true := by decide +kernel
def I_Pro_countRegister_50 : List IT := [(50, .iastore, 1, 0, 0, []), (51, .iconst 1, 1, 1, 0, []), (52, .ireturn, 1, 0, 0, [])]
theorem ok_Pro_countRegister_50 : blkOK b_Pro_countRegister pt_Pro 53 I_Pro_countRegister_50 = true := by decide +kernel
def f_Pro_countRegister (σ : Sg) (a1 : Int32) : Int32 × Sg := (if (72 : Int32) ≤ a1 then (bnd (f_Fla_oneLess σ (σ 4 (Int32.toNatClampNeg (a1 &&& (7 : Int32)))) (1 : Int32)) fun r2 => (bnd (up2 r2.2 4 (Int32.toNatClampNeg (a1 &&& (7 : Int32))) r2.1) fun s3 => ((1 : Int32), s3))) else (bnd (f_Fla_oneMore σ (σ 4 (Int32.toNatClampNeg (a1 &&& (7 : Int32)))) (1 : Int32)) fun r4 => (bnd (up2 r4.2 4 (Int32.toNatClampNeg (a1 &&& (7 : Int32))) r4.1) fun s5 => ((1 : Int32), s5))))
theorem z_Pro_countRegister {σ : Sg} {a1 : Int32}   : (f_Pro_countRegister σ a1).1 = 0 ∨ (f_Pro_countRegister σ a1).1 = 1 := by
  show Zb (f_Pro_countRegister σ a1)
  unfold f_Pro_countRegister
  refine ite_z (fun h1 => ?_) (fun h1 => ?_)
  · refine bnd_z fun r2 e2 => ?_
    refine bnd_z fun s3 e3 => ?_
    exact (Or.inr rfl)
  · refine bnd_z fun r4 e4 => ?_
    refine bnd_z fun s5 e5 => ?_
    exact (Or.inr rfl)
abbrev w_Pro_countRegister : List (Nat × Option Nat) := [(4, none), (6, some 0)]
theorem p_Pro_countRegister {P : Sg → Prop} (hP : WP w_Pro_countRegister P) {σ : Sg} {a1 : Int32} (h : P σ) : PP P (f_Pro_countRegister σ a1) := by
  unfold f_Pro_countRegister
  refine ite_z (fun _ => ?_) (fun _ => ?_)
  · refine bnd_zz (Z := PP P) (p_Fla_oneLess (wsub hP rfl) h) fun r2 e2 q2 => ?_
    refine bnd_zz (Z := P) (hP _ _ _ _ (Or.inl (by decide)) q2) fun s3 e3 q3 => ?_
    exact q3
  · refine bnd_zz (Z := PP P) (p_Fla_oneMore (wsub hP rfl) h) fun r4 e4 q4 => ?_
    refine bnd_zz (Z := P) (hP _ _ _ _ (Or.inl (by decide)) q4) fun s5 e5 q5 => ?_
    exact q5
set_option maxRecDepth 100000 in
set_option maxHeartbeats 4000000 in
theorem s_Pro_countRegister {l : Launch} {ad : Nat → Nat} {D : va_G} {cI : ClassId} {σ : Sg} {a1 : Int32} {K : Option Value → Sg → Prop}   (hK : KI K (f_Pro_countRegister σ a1)) : MetJ l ad D cI mi_Pro_countRegister [.ref 12, .int a1] σ K := by
  refine met_of mi_Pro_countRegister pt_Pro pt_Pro_in rfl pl_Pro rfl (Nat.le_of_ble_eq_true rfl) fun X hX => ?_
  have hX : Cl l ad D cI mi_Pro_countRegister pt_Pro K X := hX
  show X 0 [.ref 12, .int a1, .null, .null] [] σ
  unfold f_Pro_countRegister at hK
  refine hX.1 41 I_Pro_countRegister_0 ok_Pro_countRegister_0 _ _ _ ?_
  refine And.intro (pk_andIn _ 3 rfl (by decide)) ?_
  refine And.intro (fun h1 => ?_) (fun h1 => ?_)
  · have hK := ite_p hK h1
    refine hX.1 50 I_Pro_countRegister_41 ok_Pro_countRegister_41 _ _ _ ?_
    refine s_Fla_oneLess (bnd_g hK fun r2 e2 hK => ?_)
    refine hX.1 53 I_Pro_countRegister_50 ok_Pro_countRegister_50 _ _ _ ?_
    refine And.intro (pk_andIn _ 3 rfl (by decide)) (SG_g hK fun s3 e3 hK => ?_)
    exact And.intro (Or.inr rfl) hK
  · have hK := ite_n hK h1
    refine s_Fla_oneMore (bnd_g hK fun r4 e4 hK => ?_)
    refine hX.1 53 I_Pro_countRegister_50 ok_Pro_countRegister_50 _ _ _ ?_
    refine And.intro (pk_andIn _ 3 rfl (by decide)) (SG_g hK fun s5 e5 hK => ?_)
    exact And.intro (Or.inr rfl) hK
end
section
def I_Pro_registerOnStack_0 : List IT := [(0, .iload_n 1, 1, 0, 0, []), (1, .bipush 7, 2, 7, 0, []), (3, .iand, 1, 0, 0, []), (4, .istore_n 2, 1, 0, 0, []), (5, .iload_n 1, 1, 0, 0, []), (6, .bipush 88, 2, 88, 0, []), (8, .if_icmp .ge 19, 3, 0, 27, []), (11, .aload_n 0, 1, 0, 0, []), (12, .aload_n 0, 1, 0, 0, []), (13, .getfield 13, 3, 0, 0, []), (16, .getfield 166, 3, 0, 0, []), (19, .iload_n 2, 1, 0, 0, []), (20, .iaload, 1, 0, 0, []), (21, .invokevirtual 160, 3, 0, 0, []), (24, .goto 16, 3, 0, 40, [])]
theorem ok_Pro_registerOnStack_0 : blkOK b_Pro_registerOnStack pt_Pro 27 I_Pro_registerOnStack_0 = true := by decide +kernel
def I_Pro_registerOnStack_27 : List IT := [(27, .aload_n 0, 1, 0, 0, []), (28, .getfield 13, 3, 0, 0, []), (31, .getfield 166, 3, 0, 0, []), (34, .iload_n 2, 1, 0, 0, []), (35, .aload_n 0, 1, 0, 0, []), (36, .invokevirtual 163, 3, 0, 0, []), (39, .iastore, 1, 0, 0, [])]
theorem ok_Pro_registerOnStack_27 : blkOK b_Pro_registerOnStack pt_Pro 40 I_Pro_registerOnStack_27 = true := by decide +kernel
def I_Pro_registerOnStack_40 : List IT := [(40, .iconst 1, 1, 1, 0, []), (41, .ireturn, 1, 0, 0, [])]
theorem ok_Pro_registerOnStack_40 : blkOK b_Pro_registerOnStack pt_Pro 42 I_Pro_registerOnStack_40 = true := by decide +kernel
def f_Pro_registerOnStack (σ : Sg) (a1 : Int32) : Int32 × Sg := (if (88 : Int32) ≤ a1 then (bnd (f_Pro_pop σ) fun r2 => bnd (up2 r2.2 4 (Int32.toNatClampNeg (a1 &&& (7 : Int32))) r2.1) fun s3 => ((1 : Int32), s3)) else (bnd (f_Pro_push σ (σ 4 (Int32.toNatClampNeg (a1 &&& (7 : Int32))))) fun r4 => ((1 : Int32), r4)))
theorem z_Pro_registerOnStack {σ : Sg} {a1 : Int32}   : (f_Pro_registerOnStack σ a1).1 = 0 ∨ (f_Pro_registerOnStack σ a1).1 = 1 := by
  show Zb (f_Pro_registerOnStack σ a1)
  unfold f_Pro_registerOnStack
  refine ite_z (fun h1 => ?_) (fun h1 => ?_)
  · refine bnd_z fun r2 e2 => ?_
    refine bnd_z fun s3 e3 => ?_
    exact (Or.inr rfl)
  · refine bnd_z fun r4 e4 => ?_
    exact (Or.inr rfl)
abbrev w_Pro_registerOnStack : List (Nat × Option Nat) := [(2, none), (4, none)]
theorem p_Pro_registerOnStack {P : Sg → Prop} (hP : WP w_Pro_registerOnStack P) {σ : Sg} {a1 : Int32} (h : P σ) : PP P (f_Pro_registerOnStack σ a1) := by
  unfold f_Pro_registerOnStack
  refine ite_z (fun _ => ?_) (fun _ => ?_)
  · refine bnd_zz (Z := PP P) (p_Pro_pop (wsub hP rfl) h) fun r2 e2 q2 => ?_
    refine bnd_zz (Z := P) (hP _ _ _ _ (Or.inl (by decide)) q2) fun s3 e3 q3 => ?_
    exact q3
  · refine bnd_zz (Z := P) (p_Pro_push (wsub hP rfl) h) fun r4 e4 q4 => ?_
    exact q4
set_option maxRecDepth 100000 in
set_option maxHeartbeats 4000000 in
theorem s_Pro_registerOnStack {l : Launch} {ad : Nat → Nat} {D : va_G} {cI : ClassId} {σ : Sg} {a1 : Int32} {K : Option Value → Sg → Prop}   (hK : KI K (f_Pro_registerOnStack σ a1)) : MetJ l ad D cI mi_Pro_registerOnStack [.ref 12, .int a1] σ K := by
  refine met_of mi_Pro_registerOnStack pt_Pro pt_Pro_in rfl pl_Pro rfl (Nat.le_of_ble_eq_true rfl) fun X hX => ?_
  have hX : Cl l ad D cI mi_Pro_registerOnStack pt_Pro K X := hX
  show X 0 [.ref 12, .int a1, .null] [] σ
  unfold f_Pro_registerOnStack at hK
  refine hX.1 27 I_Pro_registerOnStack_0 ok_Pro_registerOnStack_0 _ _ _ ?_
  refine And.intro (fun h1 => ?_) (fun h1 => ?_)
  · have hK := ite_p hK h1
    refine hX.1 40 I_Pro_registerOnStack_27 ok_Pro_registerOnStack_27 _ _ _ ?_
    refine s_Pro_pop (bnd_g hK fun r2 e2 hK => ?_)
    refine And.intro (pk_andIn _ 3 rfl (by decide)) (SG_g hK fun s3 e3 hK => ?_)
    refine hX.1 42 I_Pro_registerOnStack_40 ok_Pro_registerOnStack_40 _ _ _ ?_
    exact And.intro (Or.inr rfl) hK
  · have hK := ite_n hK h1
    refine And.intro (pk_andIn _ 3 rfl (by decide)) ?_
    refine s_Pro_push (bnd_g hK fun r4 e4 hK => ?_)
    refine hX.1 42 I_Pro_registerOnStack_40 ok_Pro_registerOnStack_40 _ _ _ ?_
    exact And.intro (Or.inr rfl) hK
def I_Pro_holds_0 : List IT := [(0, .aload_n 0, 1, 0, 0, []), (1, .getfield 17, 3, 0, 0, []), (4, .sipush 128, 3, 128, 0, []), (7, .invokevirtual 40, 3, 0, 0, []), (10, .aload_n 0, 1, 0, 0, []), (11, .getfield 17, 3, 0, 0, []), (14, .sipush 2048, 3, 2048, 0, []), (17, .invokevirtual 40, 3, 0, 0, []), (20, .if_icmp .eq 7, 3, 0, 27, []), (23, .iconst 1, 1, 1, 0, []), (24, .goto 4, 3, 0, 28, [])]
theorem ok_Pro_holds_0 : blkOK b_Pro_holds pt_Pro 27 I_Pro_holds_0 = true := by decide +kernel
def I_Pro_holds_27 : List IT := [(27, .iconst 0, 1, 0, 0, [])]
theorem ok_Pro_holds_27 : blkOK b_Pro_holds pt_Pro 28 I_Pro_holds_27 = true := by decide +kernel
def I_Pro_holds_28 : List IT := [(28, .istore_n 2, 1, 0, 0, []), (29, .iload_n 1, 1, 0, 0, []), (30, .tableswitch 95 0 6 #[42, 53, 62, 72, 82, 95, 93], 42, 0, 125, [(0, 72), (1, 83), (2, 92), (3, 102), (4, 112), (5, 125), (6, 123)])]
theorem ok_Pro_holds_28 : blkOK b_Pro_holds pt_Pro 72 I_Pro_holds_28 = true := by decide +kernel
def I_Pro_holds_72 : List IT := [(72, .aload_n 0, 1, 0, 0, []), (73, .getfield 17, 3, 0, 0, []), (76, .sipush 2048, 3, 2048, 0, []), (79, .invokevirtual 40, 3, 0, 0, []), (82, .ireturn, 1, 0, 0, [])]
theorem ok_Pro_holds_72 : blkOK b_Pro_holds pt_Pro 83 I_Pro_holds_72 = true := by decide +kernel
def I_Pro_holds_83 : List IT := [(83, .aload_n 0, 1, 0, 0, []), (84, .getfield 17, 3, 0, 0, []), (87, .iconst 1, 1, 1, 0, []), (88, .invokevirtual 40, 3, 0, 0, []), (91, .ireturn, 1, 0, 0, [])]
theorem ok_Pro_holds_83 : blkOK b_Pro_holds pt_Pro 92 I_Pro_holds_83 = true := by decide +kernel
def I_Pro_holds_92 : List IT := [(92, .aload_n 0, 1, 0, 0, []), (93, .getfield 17, 3, 0, 0, []), (96, .bipush 64, 2, 64, 0, []), (98, .invokevirtual 40, 3, 0, 0, []), (101, .ireturn, 1, 0, 0, [])]
theorem ok_Pro_holds_92 : blkOK b_Pro_holds pt_Pro 102 I_Pro_holds_92 = true := by decide +kernel
def I_Pro_holds_102 : List IT := [(102, .aload_n 0, 1, 0, 0, []), (103, .getfield 17, 3, 0, 0, []), (106, .bipush 65, 2, 65, 0, []), (108, .invokevirtual 40, 3, 0, 0, []), (111, .ireturn, 1, 0, 0, [])]
theorem ok_Pro_holds_102 : blkOK b_Pro_holds pt_Pro 112 I_Pro_holds_102 = true := by decide +kernel
def I_Pro_holds_112 : List IT := [(112, .aload_n 0, 1, 0, 0, []), (113, .getfield 17, 3, 0, 0, []), (116, .sipush 128, 3, 128, 0, []), (119, .invokevirtual 40, 3, 0, 0, []), (122, .ireturn, 1, 0, 0, [])]
theorem ok_Pro_holds_112 : blkOK b_Pro_holds pt_Pro 123 I_Pro_holds_112 = true := by decide +kernel
def I_Pro_holds_123 : List IT := [(123, .iload_n 2, 1, 0, 0, []), (124, .ireturn, 1, 0, 0, [])]
theorem ok_Pro_holds_123 : blkOK b_Pro_holds pt_Pro 125 I_Pro_holds_123 = true := by decide +kernel
def I_Pro_holds_125 : List IT := [(125, .iload_n 2, 1, 0, 0, []), (126, .ifCond .ne 15, 3, 0, 141, []), (129, .aload_n 0, 1, 0, 0, []), (130, .getfield 17, 3, 0, 0, []), (133, .bipush 64, 2, 64, 0, []), (135, .invokevirtual 40, 3, 0, 0, []), (138, .ifCond .eq 7, 3, 0, 145, [])]
theorem ok_Pro_holds_125 : blkOK b_Pro_holds pt_Pro 141 I_Pro_holds_125 = true := by decide +kernel
def I_Pro_holds_141 : List IT := [(141, .iconst 1, 1, 1, 0, []), (142, .goto 4, 3, 0, 146, [])]
theorem ok_Pro_holds_141 : blkOK b_Pro_holds pt_Pro 145 I_Pro_holds_141 = true := by decide +kernel
def I_Pro_holds_145 : List IT := [(145, .iconst 0, 1, 0, 0, [])]
theorem ok_Pro_holds_145 : blkOK b_Pro_holds pt_Pro 146 I_Pro_holds_145 = true := by decide +kernel
def I_Pro_holds_146 : List IT := [(146, .ireturn, 1, 0, 0, [])]
theorem ok_Pro_holds_146 : blkOK b_Pro_holds pt_Pro 147 I_Pro_holds_146 = true := by decide +kernel
def f_Pro_holds_125 (σ : Sg) (x2 : Int32) : Int32 × Sg := (if x2 = (0 : Int32) then (bnd (f_Fla_on σ (64 : Int32)) fun r2 => (if r2.1 = (0 : Int32) then ((0 : Int32), r2.2) else ((1 : Int32), r2.2))) else ((1 : Int32), σ))
theorem z_Pro_holds_125 {σ : Sg} {x2 : Int32} (z_x2 : x2 = 0 ∨ x2 = 1)  : (f_Pro_holds_125 σ x2).1 = 0 ∨ (f_Pro_holds_125 σ x2).1 = 1 := by
  show Zb (f_Pro_holds_125 σ x2)
  unfold f_Pro_holds_125
  refine ite_z (fun h1 => ?_) (fun h1 => ?_)
  · refine bnd_zz (Z := Zb) (z_Fla_on) fun r2 e2 z2 => ?_
    refine ite_z (fun h3 => ?_) (fun h3 => ?_)
    · exact (Or.inl rfl)
    · exact (Or.inr rfl)
  · exact (Or.inr rfl)
abbrev w_Pro_holds_125 : List (Nat × Option Nat) := []
theorem p_Pro_holds_125 {P : Sg → Prop} (hP : WP w_Pro_holds_125 P) {σ : Sg} {x2 : Int32} (h : P σ) : PP P (f_Pro_holds_125 σ x2) := by
  unfold f_Pro_holds_125
  refine ite_z (fun _ => ?_) (fun _ => ?_)
  · refine bnd_zz (Z := PP P) (p_Fla_on (wsub hP rfl) h) fun r2 e2 q2 => ?_
    refine ite_z (fun _ => ?_) (fun _ => ?_)
    · exact q2
    · exact q2
  · exact h
set_option maxRecDepth 100000 in
set_option maxHeartbeats 4000000 in
theorem b_Pro_holds_125 {l : Launch} {ad : Nat → Nat} {D : va_G} {cI : ClassId} {K : Option Value → Sg → Prop} {X : Nat → List Value → List Value → Sg → Prop} (hX : Cl l ad D cI mi_Pro_holds pt_Pro K X) {σ : Sg} {x2 : Int32} (z_x2 : x2 = 0 ∨ x2 = 1)  (hK : KI K (f_Pro_holds_125 σ x2)) : X 125 [.ref 12, .null, .int x2] [] σ := by
  unfold f_Pro_holds_125 at hK
  refine hX.1 141 I_Pro_holds_125 ok_Pro_holds_125 _ _ _ ?_
  refine And.intro (fun h1 => ?_) (fun h1 => ?_)
  · have hK := ite_p hK h1
    refine s_Fla_on (bnd_g hK fun r2 e2 hK => ?_)
    have z2 : r2.1 = 0 ∨ r2.1 = 1 := by rw [← e2]; exact z_Fla_on
    refine And.intro (fun h3 => ?_) (fun h3 => ?_)
    · have hK := ite_p hK h3
      refine hX.1 146 I_Pro_holds_145 ok_Pro_holds_145 _ _ _ ?_
      refine hX.1 147 I_Pro_holds_146 ok_Pro_holds_146 _ _ _ ?_
      exact And.intro (Or.inl rfl) hK
    · have hK := ite_n hK h3
      refine hX.1 145 I_Pro_holds_141 ok_Pro_holds_141 _ _ _ ?_
      refine hX.1 147 I_Pro_holds_146 ok_Pro_holds_146 _ _ _ ?_
      exact And.intro (Or.inr rfl) hK
  · have hK := ite_n hK h1
    refine hX.1 145 I_Pro_holds_141 ok_Pro_holds_141 _ _ _ ?_
    refine hX.1 147 I_Pro_holds_146 ok_Pro_holds_146 _ _ _ ?_
    exact And.intro (Or.inr rfl) hK
def f_Pro_holds_28 (σ : Sg) (x1 : Int32) (y0 : Int32) : Int32 × Sg := (if x1 = (0 : Int32) then (bnd (f_Fla_on σ (2048 : Int32)) fun r2 => (r2.1, r2.2)) else (if x1 = (1 : Int32) then (bnd (f_Fla_on σ (1 : Int32)) fun r4 => (r4.1, r4.2)) else (if x1 = (2 : Int32) then (bnd (f_Fla_on σ (64 : Int32)) fun r6 => (r6.1, r6.2)) else (if x1 = (3 : Int32) then (bnd (f_Fla_on σ (65 : Int32)) fun r8 => (r8.1, r8.2)) else (if x1 = (4 : Int32) then (bnd (f_Fla_on σ (128 : Int32)) fun r10 => (r10.1, r10.2)) else (if x1 = (5 : Int32) then (f_Pro_holds_125 σ y0) else (if x1 = (6 : Int32) then (y0, σ) else (f_Pro_holds_125 σ y0))))))))
theorem z_Pro_holds_28 {σ : Sg} {x1 : Int32} {y0 : Int32} (z_y0 : y0 = 0 ∨ y0 = 1)  : (f_Pro_holds_28 σ x1 y0).1 = 0 ∨ (f_Pro_holds_28 σ x1 y0).1 = 1 := by
  show Zb (f_Pro_holds_28 σ x1 y0)
  unfold f_Pro_holds_28
  refine ite_z (fun h1 => ?_) (fun h1 => ?_)
  · refine bnd_zz (Z := Zb) (z_Fla_on) fun r2 e2 z2 => ?_
    exact z2
  refine ite_z (fun h3 => ?_) (fun h3 => ?_)
  · refine bnd_zz (Z := Zb) (z_Fla_on) fun r4 e4 z4 => ?_
    exact z4
  refine ite_z (fun h5 => ?_) (fun h5 => ?_)
  · refine bnd_zz (Z := Zb) (z_Fla_on) fun r6 e6 z6 => ?_
    exact z6
  refine ite_z (fun h7 => ?_) (fun h7 => ?_)
  · refine bnd_zz (Z := Zb) (z_Fla_on) fun r8 e8 z8 => ?_
    exact z8
  refine ite_z (fun h9 => ?_) (fun h9 => ?_)
  · refine bnd_zz (Z := Zb) (z_Fla_on) fun r10 e10 z10 => ?_
    exact z10
  refine ite_z (fun h11 => ?_) (fun h11 => ?_)
  · exact z_Pro_holds_125 z_y0
  refine ite_z (fun h12 => ?_) (fun h12 => ?_)
  · exact z_y0
  exact z_Pro_holds_125 z_y0 
abbrev w_Pro_holds_28 : List (Nat × Option Nat) := []
theorem p_Pro_holds_28 {P : Sg → Prop} (hP : WP w_Pro_holds_28 P) {σ : Sg} {x1 : Int32} {y0 : Int32} (h : P σ) : PP P (f_Pro_holds_28 σ x1 y0) := by
  unfold f_Pro_holds_28
  refine ite_z (fun _ => ?_) (fun _ => ?_)
  · refine bnd_zz (Z := PP P) (p_Fla_on (wsub hP rfl) h) fun r2 e2 q2 => ?_
    exact q2
  refine ite_z (fun _ => ?_) (fun _ => ?_)
  · refine bnd_zz (Z := PP P) (p_Fla_on (wsub hP rfl) h) fun r4 e4 q4 => ?_
    exact q4
  refine ite_z (fun _ => ?_) (fun _ => ?_)
  · refine bnd_zz (Z := PP P) (p_Fla_on (wsub hP rfl) h) fun r6 e6 q6 => ?_
    exact q6
  refine ite_z (fun _ => ?_) (fun _ => ?_)
  · refine bnd_zz (Z := PP P) (p_Fla_on (wsub hP rfl) h) fun r8 e8 q8 => ?_
    exact q8
  refine ite_z (fun _ => ?_) (fun _ => ?_)
  · refine bnd_zz (Z := PP P) (p_Fla_on (wsub hP rfl) h) fun r10 e10 q10 => ?_
    exact q10
  refine ite_z (fun _ => ?_) (fun _ => ?_)
  · exact p_Pro_holds_125 (wsub hP rfl) h
  refine ite_z (fun _ => ?_) (fun _ => ?_)
  · exact h
  exact p_Pro_holds_125 (wsub hP rfl) h
set_option maxRecDepth 100000 in
set_option maxHeartbeats 4000000 in
theorem b_Pro_holds_28 {l : Launch} {ad : Nat → Nat} {D : va_G} {cI : ClassId} {K : Option Value → Sg → Prop} {X : Nat → List Value → List Value → Sg → Prop} (hX : Cl l ad D cI mi_Pro_holds pt_Pro K X) {σ : Sg} {x1 : Int32} {y0 : Int32} (z_y0 : y0 = 0 ∨ y0 = 1)  (hK : KI K (f_Pro_holds_28 σ x1 y0)) : X 28 [.ref 12, .int x1, .null] [.int y0] σ := by
  unfold f_Pro_holds_28 at hK
  refine hX.1 72 I_Pro_holds_28 ok_Pro_holds_28 _ _ _ ?_
  refine And.intro (fun h1 => ?_) (fun h1 => ?_)
  · have hK := ite_p hK h1
    refine hX.1 83 I_Pro_holds_72 ok_Pro_holds_72 _ _ _ ?_
    refine s_Fla_on (bnd_g hK fun r2 e2 hK => ?_)
    have z2 : r2.1 = 0 ∨ r2.1 = 1 := by rw [← e2]; exact z_Fla_on
    exact And.intro z2 hK
  have hK := ite_n hK h1
  refine And.intro (fun h3 => ?_) (fun h3 => ?_)
  · have hK := ite_p hK h3
    refine hX.1 92 I_Pro_holds_83 ok_Pro_holds_83 _ _ _ ?_
    refine s_Fla_on (bnd_g hK fun r4 e4 hK => ?_)
    have z4 : r4.1 = 0 ∨ r4.1 = 1 := by rw [← e4]; exact z_Fla_on
    exact And.intro z4 hK
  have hK := ite_n hK h3
  refine And.intro (fun h5 => ?_) (fun h5 => ?_)
  · have hK := ite_p hK h5
    refine hX.1 102 I_Pro_holds_92 ok_Pro_holds_92 _ _ _ ?_
    refine s_Fla_on (bnd_g hK fun r6 e6 hK => ?_)
    have z6 : r6.1 = 0 ∨ r6.1 = 1 := by rw [← e6]; exact z_Fla_on
    exact And.intro z6 hK
  have hK := ite_n hK h5
  refine And.intro (fun h7 => ?_) (fun h7 => ?_)
  · have hK := ite_p hK h7
    refine hX.1 112 I_Pro_holds_102 ok_Pro_holds_102 _ _ _ ?_
    refine s_Fla_on (bnd_g hK fun r8 e8 hK => ?_)
    have z8 : r8.1 = 0 ∨ r8.1 = 1 := by rw [← e8]; exact z_Fla_on
    exact And.intro z8 hK
  have hK := ite_n hK h7
  refine And.intro (fun h9 => ?_) (fun h9 => ?_)
  · have hK := ite_p hK h9
    refine hX.1 123 I_Pro_holds_112 ok_Pro_holds_112 _ _ _ ?_
    refine s_Fla_on (bnd_g hK fun r10 e10 hK => ?_)
    have z10 : r10.1 = 0 ∨ r10.1 = 1 := by rw [← e10]; exact z_Fla_on
    exact And.intro z10 hK
  have hK := ite_n hK h9
  refine And.intro (fun h11 => ?_) (fun h11 => ?_)
  · have hK := ite_p hK h11
    refine hX.fg [1] ?_
    exact b_Pro_holds_125 hX z_y0 hK
  have hK := ite_n hK h11
  refine And.intro (fun h12 => ?_) (fun h12 => ?_)
  · have hK := ite_p hK h12
    refine hX.1 125 I_Pro_holds_123 ok_Pro_holds_123 _ _ _ ?_
    exact And.intro z_y0 hK
  have hK := ite_n hK h12
  refine hX.fg [1] ?_
  exact b_Pro_holds_125 hX z_y0 hK
def f_Pro_holds (σ : Sg) (a1 : Int32) : Int32 × Sg := (bnd (f_Fla_on σ (128 : Int32)) fun r1 => bnd (f_Fla_on r1.2 (2048 : Int32)) fun r2 => (if r1.1 = r2.1 then (f_Pro_holds_28 r2.2 a1 (0 : Int32)) else (f_Pro_holds_28 r2.2 a1 (1 : Int32))))
theorem z_Pro_holds {σ : Sg} {a1 : Int32}   : (f_Pro_holds σ a1).1 = 0 ∨ (f_Pro_holds σ a1).1 = 1 := by
  show Zb (f_Pro_holds σ a1)
  unfold f_Pro_holds
  refine bnd_zz (Z := Zb) (z_Fla_on) fun r1 e1 z1 => ?_
  refine bnd_zz (Z := Zb) (z_Fla_on) fun r2 e2 z2 => ?_
  refine ite_z (fun h3 => ?_) (fun h3 => ?_)
  · exact z_Pro_holds_28 (Or.inl rfl)
  · exact z_Pro_holds_28 (Or.inr rfl)
abbrev w_Pro_holds : List (Nat × Option Nat) := []
theorem p_Pro_holds {P : Sg → Prop} (hP : WP w_Pro_holds P) {σ : Sg} {a1 : Int32} (h : P σ) : PP P (f_Pro_holds σ a1) := by
  unfold f_Pro_holds
  refine bnd_zz (Z := PP P) (p_Fla_on (wsub hP rfl) h) fun r1 e1 q1 => ?_
  refine bnd_zz (Z := PP P) (p_Fla_on (wsub hP rfl) q1) fun r2 e2 q2 => ?_
  refine ite_z (fun _ => ?_) (fun _ => ?_)
  · exact p_Pro_holds_28 (wsub hP rfl) q2
  · exact p_Pro_holds_28 (wsub hP rfl) q2
set_option maxRecDepth 100000 in
set_option maxHeartbeats 4000000 in
theorem s_Pro_holds {l : Launch} {ad : Nat → Nat} {D : va_G} {cI : ClassId} {σ : Sg} {a1 : Int32} {K : Option Value → Sg → Prop}   (hK : KI K (f_Pro_holds σ a1)) : MetJ l ad D cI mi_Pro_holds [.ref 12, .int a1] σ K := by
  refine met_of mi_Pro_holds pt_Pro pt_Pro_in rfl pl_Pro rfl (Nat.le_of_ble_eq_true rfl) fun X hX => ?_
  have hX : Cl l ad D cI mi_Pro_holds pt_Pro K X := hX
  show X 0 [.ref 12, .int a1, .null] [] σ
  unfold f_Pro_holds at hK
  refine hX.1 27 I_Pro_holds_0 ok_Pro_holds_0 _ _ _ ?_
  refine s_Fla_on (bnd_g hK fun r1 e1 hK => ?_)
  have z1 : r1.1 = 0 ∨ r1.1 = 1 := by rw [← e1]; exact z_Fla_on
  refine s_Fla_on (bnd_g hK fun r2 e2 hK => ?_)
  have z2 : r2.1 = 0 ∨ r2.1 = 1 := by rw [← e2]; exact z_Fla_on
  refine And.intro (fun h3 => ?_) (fun h3 => ?_)
  · have hK := ite_p hK h3
    refine hX.1 28 I_Pro_holds_27 ok_Pro_holds_27 _ _ _ ?_
    exact b_Pro_holds_28 hX (Or.inl rfl) hK
  · have hK := ite_n hK h3
    exact b_Pro_holds_28 hX (Or.inr rfl) hK
def I_Pro_jumpIf_0 : List IT := [(0, .iload_n 1, 1, 0, 0, []), (1, .bipush 10, 2, 10, 0, []), (3, .if_icmp .eq 9, 3, 0, 12, []), (6, .iload_n 1, 1, 0, 0, []), (7, .bipush 11, 2, 11, 0, []), (9, .if_icmp .ne 5, 3, 0, 14, [])]
theorem ok_Pro_jumpIf_0 : blkOK b_Pro_jumpIf pt_Pro 12 I_Pro_jumpIf_0 = true := by decide +kernel
def I_Pro_jumpIf_12 : List IT := [(12, .iconst 0, 1, 0, 0, []), (13, .ireturn, 1, 0, 0, [])]
theorem ok_Pro_jumpIf_12 : blkOK b_Pro_jumpIf pt_Pro 14 I_Pro_jumpIf_12 = true := by decide +kernel
def I_Pro_jumpIf_14 : List IT := [(14, .aload_n 0, 1, 0, 0, []), (15, .getfield 34, 3, 0, 0, []), (18, .invokevirtual 152, 3, 0, 0, []), (21, .istore_n 2, 1, 0, 0, []), (22, .aload_n 0, 1, 0, 0, []), (23, .iload_n 1, 1, 0, 0, []), (24, .iconst 1, 1, 1, 0, []), (25, .ishr, 1, 0, 0, []), (26, .invokevirtual 175, 3, 0, 0, []), (29, .iload_n 1, 1, 0, 0, []), (30, .iconst 1, 1, 1, 0, []), (31, .iand, 1, 0, 0, []), (32, .ifCond .ne 7, 3, 0, 39, []), (35, .iconst 1, 1, 1, 0, []), (36, .goto 4, 3, 0, 40, [])]
theorem ok_Pro_jumpIf_14 : blkOK b_Pro_jumpIf pt_Pro 39 I_Pro_jumpIf_14 = true := by decide +kernel
def I_Pro_jumpIf_39 : List IT := [(39, .iconst 0, 1, 0, 0, [])]
theorem ok_Pro_jumpIf_39 : blkOK b_Pro_jumpIf pt_Pro 40 I_Pro_jumpIf_39 = true := by decide +kernel
def I_Pro_jumpIf_40 : List IT := [(40, .if_icmp .ne 11, 3, 0, 51, []), (43, .aload_n 0, 1, 0, 0, []), (44, .getfield 13, 3, 0, 0, []), (47, .iload_n 2, 1, 0, 0, []), (48, .invokevirtual 178, 3, 0, 0, [])]
theorem ok_Pro_jumpIf_40 : blkOK b_Pro_jumpIf pt_Pro 51 I_Pro_jumpIf_40 = true := by decide +kernel
def I_Pro_jumpIf_51 : List IT := [(51, .iconst 1, 1, 1, 0, []), (52, .ireturn, 1, 0, 0, [])]
theorem ok_Pro_jumpIf_51 : blkOK b_Pro_jumpIf pt_Pro 53 I_Pro_jumpIf_51 = true := by decide +kernel
def f_Pro_jumpIf_40 (σ : Sg) (x2 : Int32) (y0 : Int32) (y1 : Int32) : Int32 × Sg := (if y1 = y0 then (bnd (f_Reg_jump σ x2) fun r2 => ((1 : Int32), r2)) else ((1 : Int32), σ))
theorem z_Pro_jumpIf_40 {σ : Sg} {x2 : Int32} {y0 : Int32} {y1 : Int32} (z_y0 : y0 = 0 ∨ y0 = 1) (z_y1 : y1 = 0 ∨ y1 = 1)  : (f_Pro_jumpIf_40 σ x2 y0 y1).1 = 0 ∨ (f_Pro_jumpIf_40 σ x2 y0 y1).1 = 1 := by
  show Zb (f_Pro_jumpIf_40 σ x2 y0 y1)
  unfold f_Pro_jumpIf_40
  refine ite_z (fun h1 => ?_) (fun h1 => ?_)
  · refine bnd_z fun r2 e2 => ?_
    exact (Or.inr rfl)
  · exact (Or.inr rfl)
abbrev w_Pro_jumpIf_40 : List (Nat × Option Nat) := [(3, some 2)]
theorem p_Pro_jumpIf_40 {P : Sg → Prop} (hP : WP w_Pro_jumpIf_40 P) {σ : Sg} {x2 : Int32} {y0 : Int32} {y1 : Int32} (h : P σ) : PP P (f_Pro_jumpIf_40 σ x2 y0 y1) := by
  unfold f_Pro_jumpIf_40
  refine ite_z (fun _ => ?_) (fun _ => ?_)
  · refine bnd_zz (Z := P) (p_Reg_jump (wsub hP rfl) h) fun r2 e2 q2 => ?_
    exact q2
  · exact h
set_option maxRecDepth 100000 in
set_option maxHeartbeats 4000000 in
theorem b_Pro_jumpIf_40 {l : Launch} {ad : Nat → Nat} {D : va_G} {cI : ClassId} {K : Option Value → Sg → Prop} {X : Nat → List Value → List Value → Sg → Prop} (hX : Cl l ad D cI mi_Pro_jumpIf pt_Pro K X) {σ : Sg} {x2 : Int32} {y0 : Int32} {y1 : Int32} (z_y0 : y0 = 0 ∨ y0 = 1) (z_y1 : y1 = 0 ∨ y1 = 1)  (hK : KI K (f_Pro_jumpIf_40 σ x2 y0 y1)) : X 40 [.ref 12, .null, .int x2] [.int y0, .int y1] σ := by
  unfold f_Pro_jumpIf_40 at hK
  refine hX.1 51 I_Pro_jumpIf_40 ok_Pro_jumpIf_40 _ _ _ ?_
  refine And.intro (fun h1 => ?_) (fun h1 => ?_)
  · have hK := ite_p hK h1
    refine s_Reg_jump (bnd_g hK fun r2 e2 hK => ?_)
    refine hX.1 53 I_Pro_jumpIf_51 ok_Pro_jumpIf_51 _ _ _ ?_
    exact And.intro (Or.inr rfl) hK
  · have hK := ite_n hK h1
    refine hX.1 53 I_Pro_jumpIf_51 ok_Pro_jumpIf_51 _ _ _ ?_
    exact And.intro (Or.inr rfl) hK
def f_Pro_jumpIf (σ : Sg) (a1 : Int32) : Int32 × Sg := (if a1 = (10 : Int32) then ((0 : Int32), σ) else (if a1 = (11 : Int32) then ((0 : Int32), σ) else (bnd (f_Dec_nextSigned σ) fun r3 => bnd (f_Pro_holds r3.2 (a1 >>> ((1 : Int32) &&& 31 : Int32))) fun r4 => (if (a1 &&& (1 : Int32)) = (0 : Int32) then (f_Pro_jumpIf_40 r4.2 r3.1 (1 : Int32) r4.1) else (f_Pro_jumpIf_40 r4.2 r3.1 (0 : Int32) r4.1)))))
theorem z_Pro_jumpIf {σ : Sg} {a1 : Int32}   : (f_Pro_jumpIf σ a1).1 = 0 ∨ (f_Pro_jumpIf σ a1).1 = 1 := by
  show Zb (f_Pro_jumpIf σ a1)
  unfold f_Pro_jumpIf
  refine ite_z (fun h1 => ?_) (fun h1 => ?_)
  · exact (Or.inl rfl)
  · refine ite_z (fun h2 => ?_) (fun h2 => ?_)
    · exact (Or.inl rfl)
    · refine bnd_z fun r3 e3 => ?_
      refine bnd_zz (Z := Zb) (z_Pro_holds) fun r4 e4 z4 => ?_
      refine ite_z (fun h5 => ?_) (fun h5 => ?_)
      · exact z_Pro_jumpIf_40 (Or.inr rfl) z4
      · exact z_Pro_jumpIf_40 (Or.inl rfl) z4
abbrev w_Pro_jumpIf : List (Nat × Option Nat) := [(3, some 2)]
theorem p_Pro_jumpIf {P : Sg → Prop} (hP : WP w_Pro_jumpIf P) {σ : Sg} {a1 : Int32} (h : P σ) : PP P (f_Pro_jumpIf σ a1) := by
  unfold f_Pro_jumpIf
  refine ite_z (fun _ => ?_) (fun _ => ?_)
  · exact h
  · refine ite_z (fun _ => ?_) (fun _ => ?_)
    · exact h
    · refine bnd_zz (Z := PP P) (p_Dec_nextSigned (wsub hP rfl) h) fun r3 e3 q3 => ?_
      refine bnd_zz (Z := PP P) (p_Pro_holds (wsub hP rfl) q3) fun r4 e4 q4 => ?_
      refine ite_z (fun _ => ?_) (fun _ => ?_)
      · exact p_Pro_jumpIf_40 (wsub hP rfl) q4
      · exact p_Pro_jumpIf_40 (wsub hP rfl) q4
set_option maxRecDepth 100000 in
set_option maxHeartbeats 4000000 in
theorem s_Pro_jumpIf {l : Launch} {ad : Nat → Nat} {D : va_G} {cI : ClassId} {σ : Sg} {a1 : Int32} {K : Option Value → Sg → Prop}   (hK : KI K (f_Pro_jumpIf σ a1)) : MetJ l ad D cI mi_Pro_jumpIf [.ref 12, .int a1] σ K := by
  refine met_of mi_Pro_jumpIf pt_Pro pt_Pro_in rfl pl_Pro rfl (Nat.le_of_ble_eq_true rfl) fun X hX => ?_
  have hX : Cl l ad D cI mi_Pro_jumpIf pt_Pro K X := hX
  show X 0 [.ref 12, .int a1, .null] [] σ
  unfold f_Pro_jumpIf at hK
  refine hX.1 12 I_Pro_jumpIf_0 ok_Pro_jumpIf_0 _ _ _ ?_
  refine And.intro (fun h1 => ?_) (fun h1 => ?_)
  · have hK := ite_p hK h1
    refine hX.1 14 I_Pro_jumpIf_12 ok_Pro_jumpIf_12 _ _ _ ?_
    exact And.intro (Or.inl rfl) hK
  · have hK := ite_n hK h1
    refine And.intro (fun h2 => ?_) (fun h2 => ?_)
    · have hK := ite_p hK h2
      refine hX.1 14 I_Pro_jumpIf_12 ok_Pro_jumpIf_12 _ _ _ ?_
      exact And.intro (Or.inl rfl) hK
    · have hK := ite_n hK h2
      refine hX.1 39 I_Pro_jumpIf_14 ok_Pro_jumpIf_14 _ _ _ ?_
      refine s_Dec_nextSigned (bnd_g hK fun r3 e3 hK => ?_)
      refine s_Pro_holds (bnd_g hK fun r4 e4 hK => ?_)
      have z4 : r4.1 = 0 ∨ r4.1 = 1 := by rw [← e4]; exact z_Pro_holds
      refine And.intro (fun h5 => ?_) (fun h5 => ?_)
      · have hK := ite_p hK h5
        refine hX.fg [1] ?_
        exact b_Pro_jumpIf_40 hX (Or.inr rfl) z4 hK
      · have hK := ite_n hK h5
        refine hX.1 40 I_Pro_jumpIf_39 ok_Pro_jumpIf_39 _ _ _ ?_
        refine hX.fg [1] ?_
        exact b_Pro_jumpIf_40 hX (Or.inl rfl) z4 hK
def I_Pro_combineGiven_0 : List IT := [(0, .iload_n 1, 1, 0, 0, []), (1, .sipush 131, 3, 131, 0, []), (4, .if_icmp .gt 10, 3, 0, 14, []), (7, .iload_n 1, 1, 0, 0, []), (8, .sipush 130, 3, 130, 0, []), (11, .if_icmp .ne 5, 3, 0, 16, [])]
theorem ok_Pro_combineGiven_0 : blkOK b_Pro_combineGiven pt_Pro 14 I_Pro_combineGiven_0 = true := by decide +kernel
def I_Pro_combineGiven_14 : List IT := [(14, .iconst 0, 1, 0, 0, []), (15, .ireturn, 1, 0, 0, [])]
theorem ok_Pro_combineGiven_14 : blkOK b_Pro_combineGiven pt_Pro 16 I_Pro_combineGiven_14 = true := by decide +kernel
def I_Pro_combineGiven_16 : List IT := [(16, .iload_n 1, 1, 0, 0, []), (17, .sipush 128, 3, 128, 0, []), (20, .if_icmp .eq 7, 3, 0, 27, []), (23, .iconst 1, 1, 1, 0, []), (24, .goto 4, 3, 0, 28, [])]
theorem ok_Pro_combineGiven_16 : blkOK b_Pro_combineGiven pt_Pro 27 I_Pro_combineGiven_16 = true := by decide +kernel
def I_Pro_combineGiven_27 : List IT := [(27, .iconst 0, 1, 0, 0, [])]
theorem ok_Pro_combineGiven_27 : blkOK b_Pro_combineGiven pt_Pro 28 I_Pro_combineGiven_27 = true := by decide +kernel
def I_Pro_combineGiven_28 : List IT := [(28, .istore_n 2, 1, 0, 0, []), (29, .aload_n 0, 1, 0, 0, []), (30, .getfield 34, 3, 0, 0, []), (33, .iload_n 2, 1, 0, 0, []), (34, .invokevirtual 141, 3, 0, 0, []), (37, .iload_n 1, 1, 0, 0, []), (38, .sipush 131, 3, 131, 0, []), (41, .if_icmp .ne 16, 3, 0, 57, []), (44, .aload_n 0, 1, 0, 0, []), (45, .getfield 34, 3, 0, 0, []), (48, .invokevirtual 152, 3, 0, 0, []), (51, .ldc 155, 2, 65535, 0, []), (53, .iand, 1, 0, 0, []), (54, .goto 11, 3, 0, 65, [])]
theorem ok_Pro_combineGiven_28 : blkOK b_Pro_combineGiven pt_Pro 57 I_Pro_combineGiven_28 = true := by decide +kernel
def I_Pro_combineGiven_57 : List IT := [(57, .aload_n 0, 1, 0, 0, []), (58, .getfield 34, 3, 0, 0, []), (61, .iload_n 2, 1, 0, 0, []), (62, .invokevirtual 126, 3, 0, 0, [])]
theorem ok_Pro_combineGiven_57 : blkOK b_Pro_combineGiven pt_Pro 65 I_Pro_combineGiven_57 = true := by decide +kernel
def I_Pro_combineGiven_65 : List IT := [(65, .istore_n 3, 1, 0, 0, []), (66, .aload_n 0, 1, 0, 0, []), (67, .getfield 34, 3, 0, 0, []), (70, .aload_n 0, 1, 0, 0, []), (71, .getfield 17, 3, 0, 0, []), (74, .aload_n 0, 1, 0, 0, []), (75, .getfield 34, 3, 0, 0, []), (78, .getfield 147, 3, 0, 0, []), (81, .aload_n 0, 1, 0, 0, []), (82, .getfield 34, 3, 0, 0, []), (85, .invokevirtual 145, 3, 0, 0, []), (88, .iload_n 3, 1, 0, 0, []), (89, .iload_n 2, 1, 0, 0, []), (90, .invokevirtual 134, 3, 0, 0, []), (93, .invokevirtual 150, 3, 0, 0, []), (96, .iconst 1, 1, 1, 0, []), (97, .ireturn, 1, 0, 0, [])]
theorem ok_Pro_combineGiven_65 : blkOK b_Pro_combineGiven pt_Pro 98 I_Pro_combineGiven_65 = true := by decide +kernel
def f_Pro_combineGiven_65 (σ : Sg) (x2 : Int32) (y0 : Int32) : Int32 × Sg := (bnd (f_Dec_value σ) fun r1 => bnd (f_Fla_combine r1.2 (σ 14 5) r1.1 y0 x2) fun r2 => bnd (f_Dec_change r2.2 r2.1) fun r3 => ((1 : Int32), r3))
theorem z_Pro_combineGiven_65 {σ : Sg} {x2 : Int32} {y0 : Int32} (z_x2 : x2 = 0 ∨ x2 = 1)  : (f_Pro_combineGiven_65 σ x2 y0).1 = 0 ∨ (f_Pro_combineGiven_65 σ x2 y0).1 = 1 := by
  show Zb (f_Pro_combineGiven_65 σ x2 y0)
  unfold f_Pro_combineGiven_65
  refine bnd_z fun r1 e1 => ?_
  refine bnd_z fun r2 e2 => ?_
  refine bnd_z fun r3 e3 => ?_
  exact (Or.inr rfl)
abbrev w_Pro_combineGiven_65 : List (Nat × Option Nat) := [(2, none), (4, none), (6, some 0)]
theorem p_Pro_combineGiven_65 {P : Sg → Prop} (hP : WP w_Pro_combineGiven_65 P) {σ : Sg} {x2 : Int32} {y0 : Int32} (h : P σ) : PP P (f_Pro_combineGiven_65 σ x2 y0) := by
  unfold f_Pro_combineGiven_65
  refine bnd_zz (Z := PP P) (p_Dec_value (wsub hP rfl) h) fun r1 e1 q1 => ?_
  refine bnd_zz (Z := PP P) (p_Fla_combine (wsub hP rfl) q1) fun r2 e2 q2 => ?_
  refine bnd_zz (Z := P) (p_Dec_change (wsub hP rfl) q2) fun r3 e3 q3 => ?_
  exact q3
set_option maxRecDepth 100000 in
set_option maxHeartbeats 4000000 in
theorem b_Pro_combineGiven_65 {l : Launch} {ad : Nat → Nat} {D : va_G} {cI : ClassId} {K : Option Value → Sg → Prop} {X : Nat → List Value → List Value → Sg → Prop} (hX : Cl l ad D cI mi_Pro_combineGiven pt_Pro K X) {σ : Sg} {x2 : Int32} {y0 : Int32} (z_x2 : x2 = 0 ∨ x2 = 1)  (hK : KI K (f_Pro_combineGiven_65 σ x2 y0)) : X 65 [.ref 12, .null, .int x2, .null] [.int y0] σ := by
  unfold f_Pro_combineGiven_65 at hK
  refine hX.1 98 I_Pro_combineGiven_65 ok_Pro_combineGiven_65 _ _ _ ?_
  refine s_Dec_value (bnd_g hK fun r1 e1 hK => ?_)
  refine s_Fla_combine (bnd_g hK fun r2 e2 hK => ?_)
  refine s_Dec_change (bnd_g hK fun r3 e3 hK => ?_)
  exact And.intro (Or.inr rfl) hK
def f_Pro_combineGiven_28 (σ : Sg) (x1 : Int32) (y0 : Int32) : Int32 × Sg := (bnd (f_Dec_readModrm σ y0) fun r1 => (if x1 = (131 : Int32) then (bnd (f_Dec_nextSigned r1) fun r3 => (f_Pro_combineGiven_65 r3.2 y0 (r3.1 &&& (65535 : Int32)))) else (bnd (f_Dec_nextOf r1 y0) fun r4 => (f_Pro_combineGiven_65 r4.2 y0 r4.1))))
theorem z_Pro_combineGiven_28 {σ : Sg} {x1 : Int32} {y0 : Int32} (z_y0 : y0 = 0 ∨ y0 = 1)  : (f_Pro_combineGiven_28 σ x1 y0).1 = 0 ∨ (f_Pro_combineGiven_28 σ x1 y0).1 = 1 := by
  show Zb (f_Pro_combineGiven_28 σ x1 y0)
  unfold f_Pro_combineGiven_28
  refine bnd_z fun r1 e1 => ?_
  refine ite_z (fun h2 => ?_) (fun h2 => ?_)
  · refine bnd_z fun r3 e3 => ?_
    exact z_Pro_combineGiven_65 z_y0 
  · refine bnd_z fun r4 e4 => ?_
    exact z_Pro_combineGiven_65 z_y0 
abbrev w_Pro_combineGiven_28 : List (Nat × Option Nat) := [(2, none), (3, some 2), (4, none), (6, some 0), (14, some 5), (14, some 6), (14, some 7), (14, some 9), (14, some 10), (14, some 11)]
theorem p_Pro_combineGiven_28 {P : Sg → Prop} (hP : WP w_Pro_combineGiven_28 P) {σ : Sg} {x1 : Int32} {y0 : Int32} (h : P σ) : PP P (f_Pro_combineGiven_28 σ x1 y0) := by
  unfold f_Pro_combineGiven_28
  refine bnd_zz (Z := P) (p_Dec_readModrm (wsub hP rfl) h) fun r1 e1 q1 => ?_
  refine ite_z (fun _ => ?_) (fun _ => ?_)
  · refine bnd_zz (Z := PP P) (p_Dec_nextSigned (wsub hP rfl) q1) fun r3 e3 q3 => ?_
    exact p_Pro_combineGiven_65 (wsub hP rfl) q3
  · refine bnd_zz (Z := PP P) (p_Dec_nextOf (wsub hP rfl) q1) fun r4 e4 q4 => ?_
    exact p_Pro_combineGiven_65 (wsub hP rfl) q4
set_option maxRecDepth 100000 in
set_option maxHeartbeats 4000000 in
theorem b_Pro_combineGiven_28 {l : Launch} {ad : Nat → Nat} {D : va_G} {cI : ClassId} {K : Option Value → Sg → Prop} {X : Nat → List Value → List Value → Sg → Prop} (hX : Cl l ad D cI mi_Pro_combineGiven pt_Pro K X) {σ : Sg} {x1 : Int32} {y0 : Int32} (z_y0 : y0 = 0 ∨ y0 = 1)  (hK : KI K (f_Pro_combineGiven_28 σ x1 y0)) : X 28 [.ref 12, .int x1, .null, .null] [.int y0] σ := by
  unfold f_Pro_combineGiven_28 at hK
  refine hX.1 57 I_Pro_combineGiven_28 ok_Pro_combineGiven_28 _ _ _ ?_
  refine s_Dec_readModrm z_y0 (bnd_g hK fun r1 e1 hK => ?_)
  refine And.intro (fun h2 => ?_) (fun h2 => ?_)
  · have hK := ite_p hK h2
    refine s_Dec_nextSigned (bnd_g hK fun r3 e3 hK => ?_)
    refine hX.fg [1] ?_
    exact b_Pro_combineGiven_65 hX z_y0 hK
  · have hK := ite_n hK h2
    refine hX.1 65 I_Pro_combineGiven_57 ok_Pro_combineGiven_57 _ _ _ ?_
    refine s_Dec_nextOf (bnd_g hK fun r4 e4 hK => ?_)
    refine hX.fg [1] ?_
    exact b_Pro_combineGiven_65 hX z_y0 hK
def f_Pro_combineGiven (σ : Sg) (a1 : Int32) : Int32 × Sg := (if (131 : Int32) < a1 then ((0 : Int32), σ) else (if a1 = (130 : Int32) then ((0 : Int32), σ) else (if a1 = (128 : Int32) then (f_Pro_combineGiven_28 σ a1 (0 : Int32)) else (f_Pro_combineGiven_28 σ a1 (1 : Int32)))))
theorem z_Pro_combineGiven {σ : Sg} {a1 : Int32}   : (f_Pro_combineGiven σ a1).1 = 0 ∨ (f_Pro_combineGiven σ a1).1 = 1 := by
  show Zb (f_Pro_combineGiven σ a1)
  unfold f_Pro_combineGiven
  refine ite_z (fun h1 => ?_) (fun h1 => ?_)
  · exact (Or.inl rfl)
  · refine ite_z (fun h2 => ?_) (fun h2 => ?_)
    · exact (Or.inl rfl)
    · refine ite_z (fun h3 => ?_) (fun h3 => ?_)
      · exact z_Pro_combineGiven_28 (Or.inl rfl)
      · exact z_Pro_combineGiven_28 (Or.inr rfl)
abbrev w_Pro_combineGiven : List (Nat × Option Nat) := [(2, none), (3, some 2), (4, none), (6, some 0), (14, some 5), (14, some 6), (14, some 7), (14, some 9), (14, some 10), (14, some 11)]
theorem p_Pro_combineGiven {P : Sg → Prop} (hP : WP w_Pro_combineGiven P) {σ : Sg} {a1 : Int32} (h : P σ) : PP P (f_Pro_combineGiven σ a1) := by
  unfold f_Pro_combineGiven
  refine ite_z (fun _ => ?_) (fun _ => ?_)
  · exact h
  · refine ite_z (fun _ => ?_) (fun _ => ?_)
    · exact h
    · refine ite_z (fun _ => ?_) (fun _ => ?_)
      · exact p_Pro_combineGiven_28 (wsub hP rfl) h
      · exact p_Pro_combineGiven_28 (wsub hP rfl) h
set_option maxRecDepth 100000 in
set_option maxHeartbeats 4000000 in
theorem s_Pro_combineGiven {l : Launch} {ad : Nat → Nat} {D : va_G} {cI : ClassId} {σ : Sg} {a1 : Int32} {K : Option Value → Sg → Prop}   (hK : KI K (f_Pro_combineGiven σ a1)) : MetJ l ad D cI mi_Pro_combineGiven [.ref 12, .int a1] σ K := by
  refine met_of mi_Pro_combineGiven pt_Pro pt_Pro_in rfl pl_Pro rfl (Nat.le_of_ble_eq_true rfl) fun X hX => ?_
  have hX : Cl l ad D cI mi_Pro_combineGiven pt_Pro K X := hX
  show X 0 [.ref 12, .int a1, .null, .null] [] σ
  unfold f_Pro_combineGiven at hK
  refine hX.1 14 I_Pro_combineGiven_0 ok_Pro_combineGiven_0 _ _ _ ?_
  refine And.intro (fun h1 => ?_) (fun h1 => ?_)
  · have hK := ite_p hK h1
    refine hX.1 16 I_Pro_combineGiven_14 ok_Pro_combineGiven_14 _ _ _ ?_
    exact And.intro (Or.inl rfl) hK
  · have hK := ite_n hK h1
    refine And.intro (fun h2 => ?_) (fun h2 => ?_)
    · have hK := ite_p hK h2
      refine hX.1 16 I_Pro_combineGiven_14 ok_Pro_combineGiven_14 _ _ _ ?_
      exact And.intro (Or.inl rfl) hK
    · have hK := ite_n hK h2
      refine hX.1 27 I_Pro_combineGiven_16 ok_Pro_combineGiven_16 _ _ _ ?_
      refine And.intro (fun h3 => ?_) (fun h3 => ?_)
      · have hK := ite_p hK h3
        refine hX.1 28 I_Pro_combineGiven_27 ok_Pro_combineGiven_27 _ _ _ ?_
        exact b_Pro_combineGiven_28 hX (Or.inl rfl) hK
      · have hK := ite_n hK h3
        exact b_Pro_combineGiven_28 hX (Or.inr rfl) hK
def I_Pro_moveSegmentOrOffset_0 : List IT := [(0, .aload_n 0, 1, 0, 0, []), (1, .getfield 34, 3, 0, 0, []), (4, .getfield 147, 3, 0, 0, []), (7, .iconst 3, 1, 3, 0, []), (8, .iand, 1, 0, 0, []), (9, .istore_n 2, 1, 0, 0, []), (10, .iload_n 1, 1, 0, 0, []), (11, .sipush 140, 3, 140, 0, []), (14, .if_icmp .ne 21, 3, 0, 35, []), (17, .aload_n 0, 1, 0, 0, []), (18, .getfield 34, 3, 0, 0, []), (21, .aload_n 0, 1, 0, 0, []), (22, .getfield 13, 3, 0, 0, []), (25, .getfield 156, 3, 0, 0, []), (28, .iload_n 2, 1, 0, 0, []), (29, .iaload, 1, 0, 0, []), (30, .invokevirtual 150, 3, 0, 0, []), (33, .iconst 1, 1, 1, 0, []), (34, .ireturn, 1, 0, 0, [])]
theorem ok_Pro_moveSegmentOrOffset_0 : blkOK b_Pro_moveSegmentOrOffset pt_Pro 35 I_Pro_moveSegmentOrOffset_0 = true := by decide +kernel
def I_Pro_moveSegmentOrOffset_35 : List IT := [(35, .iload_n 1, 1, 0, 0, []), (36, .sipush 141, 3, 141, 0, []), (39, .if_icmp .ne 46, 3, 0, 85, []), (42, .aload_n 0, 1, 0, 0, []), (43, .getfield 34, 3, 0, 0, []), (46, .getfield 184, 3, 0, 0, []), (49, .ifCond .eq 28, 3, 0, 77, []), (52, .aload_n 0, 1, 0, 0, []), (53, .getfield 13, 3, 0, 0, []), (56, .getfield 166, 3, 0, 0, []), (59, .aload_n 0, 1, 0, 0, []), (60, .getfield 34, 3, 0, 0, []), (63, .getfield 147, 3, 0, 0, []), (66, .bipush 7, 2, 7, 0, []), (68, .iand, 1, 0, 0, []), (69, .aload_n 0, 1, 0, 0, []), (70, .getfield 34, 3, 0, 0, []), (73, .getfield 187, 3, 0, 0, []), (76, .iastore, 1, 0, 0, [])]
theorem ok_Pro_moveSegmentOrOffset_35 : blkOK b_Pro_moveSegmentOrOffset pt_Pro 77 I_Pro_moveSegmentOrOffset_35 = true := by decide +kernel
def I_Pro_moveSegmentOrOffset_77 : List IT := [(77, .aload_n 0, 1, 0, 0, []), (78, .getfield 34, 3, 0, 0, []), (81, .getfield 184, 3, 0, 0, []), (84, .ireturn, 1, 0, 0, [])]
theorem ok_Pro_moveSegmentOrOffset_77 : blkOK b_Pro_moveSegmentOrOffset pt_Pro 85 I_Pro_moveSegmentOrOffset_77 = true := by decide +kernel
def I_Pro_moveSegmentOrOffset_85 : List IT := [(85, .iload_n 2, 1, 0, 0, []), (86, .iconst 1, 1, 1, 0, []), (87, .if_icmp .ne 5, 3, 0, 92, []), (90, .iconst 0, 1, 0, 0, []), (91, .ireturn, 1, 0, 0, [])]
theorem ok_Pro_moveSegmentOrOffset_85 : blkOK b_Pro_moveSegmentOrOffset pt_Pro 92 I_Pro_moveSegmentOrOffset_85 = true := by decide +kernel
def I_Pro_moveSegmentOrOffset_92 : List IT := [(92, .aload_n 0, 1, 0, 0, []), (93, .getfield 13, 3, 0, 0, []), (96, .getfield 156, 3, 0, 0, []), (99, .iload_n 2, 1, 0, 0, []), (100, .aload_n 0, 1, 0, 0, []), (101, .getfield 34, 3, 0, 0, []), (104, .invokevirtual 145, 3, 0, 0, []), (107, .iastore, 1, 0, 0, []), (108, .aload_n 0, 1, 0, 0, []), (109, .iload_n 2, 1, 0, 0, []), (110, .iconst 2, 1, 2, 0, []), (111, .if_icmp .ne 7, 3, 0, 118, []), (114, .iconst 1, 1, 1, 0, []), (115, .goto 4, 3, 0, 119, [])]
theorem ok_Pro_moveSegmentOrOffset_92 : blkOK b_Pro_moveSegmentOrOffset pt_Pro 118 I_Pro_moveSegmentOrOffset_92 = true := by decide +kernel
def I_Pro_moveSegmentOrOffset_118 : List IT := [(118, .iconst 0, 1, 0, 0, [])]
theorem ok_Pro_moveSegmentOrOffset_118 : blkOK b_Pro_moveSegmentOrOffset pt_Pro 119 I_Pro_moveSegmentOrOffset_118 = true := by decide +kernel
def I_Pro_moveSegmentOrOffset_119 : List IT := [(119, .putfield 44, 3, 0, 0, []), (122, .iconst 1, 1, 1, 0, []), (123, .ireturn, 1, 0, 0, [])]
theorem ok_Pro_moveSegmentOrOffset_119 : blkOK b_Pro_moveSegmentOrOffset pt_Pro 124 I_Pro_moveSegmentOrOffset_119 = true := by decide +kernel
def f_Pro_moveSegmentOrOffset (σ : Sg) (a1 : Int32) : Int32 × Sg := (if a1 = (140 : Int32) then (bnd (f_Dec_change σ (σ 5 (Int32.toNatClampNeg ((σ 14 5) &&& (3 : Int32))))) fun r2 => ((1 : Int32), r2)) else (if a1 = (141 : Int32) then (if (σ 14 7) = (0 : Int32) then ((σ 14 7), σ) else (bnd (up2 σ 4 (Int32.toNatClampNeg ((σ 14 5) &&& (7 : Int32))) (σ 14 6)) fun s5 => ((s5 14 7), s5))) else (if ((σ 14 5) &&& (3 : Int32)) = (1 : Int32) then ((0 : Int32), σ) else (bnd (f_Dec_value σ) fun r7 => bnd (up2 r7.2 5 (Int32.toNatClampNeg ((σ 14 5) &&& (3 : Int32))) r7.1) fun s8 => (if ((σ 14 5) &&& (3 : Int32)) = (2 : Int32) then (bnd (up2 s8 12 8 (1 : Int32)) fun s10 => ((1 : Int32), s10)) else (bnd (up2 s8 12 8 (0 : Int32)) fun s11 => ((1 : Int32), s11)))))))
theorem z_Pro_moveSegmentOrOffset {σ : Sg} {a1 : Int32}  (hb : σ 14 7 = 0 ∨ σ 14 7 = 1) : (f_Pro_moveSegmentOrOffset σ a1).1 = 0 ∨ (f_Pro_moveSegmentOrOffset σ a1).1 = 1 := by
  show Zb (f_Pro_moveSegmentOrOffset σ a1)
  unfold f_Pro_moveSegmentOrOffset
  refine ite_z (fun h1 => ?_) (fun h1 => ?_)
  · refine bnd_z fun r2 e2 => ?_
    exact (Or.inr rfl)
  · refine ite_z (fun h3 => ?_) (fun h3 => ?_)
    · refine ite_z (fun h4 => ?_) (fun h4 => ?_)
      · exact (by subst_vars; exact hb)
      · refine bnd_z fun s5 e5 => ?_
        exact (by subst_vars; exact hb)
    · refine ite_z (fun h6 => ?_) (fun h6 => ?_)
      · exact (Or.inl rfl)
      · refine bnd_z fun r7 e7 => ?_
        refine bnd_z fun s8 e8 => ?_
        refine ite_z (fun h9 => ?_) (fun h9 => ?_)
        · refine bnd_z fun s10 e10 => ?_
          exact (Or.inr rfl)
        · refine bnd_z fun s11 e11 => ?_
          exact (Or.inr rfl)
abbrev w_Pro_moveSegmentOrOffset : List (Nat × Option Nat) := [(2, none), (4, none), (5, none), (12, some 8)]
theorem p_Pro_moveSegmentOrOffset {P : Sg → Prop} (hP : WP w_Pro_moveSegmentOrOffset P) {σ : Sg} {a1 : Int32} (h : P σ) : PP P (f_Pro_moveSegmentOrOffset σ a1) := by
  unfold f_Pro_moveSegmentOrOffset
  refine ite_z (fun _ => ?_) (fun _ => ?_)
  · refine bnd_zz (Z := P) (p_Dec_change (wsub hP rfl) h) fun r2 e2 q2 => ?_
    exact q2
  · refine ite_z (fun _ => ?_) (fun _ => ?_)
    · refine ite_z (fun _ => ?_) (fun _ => ?_)
      · exact h
      · refine bnd_zz (Z := P) (hP _ _ _ _ (Or.inl (by decide)) h) fun s5 e5 q5 => ?_
        exact q5
    · refine ite_z (fun _ => ?_) (fun _ => ?_)
      · exact h
      · refine bnd_zz (Z := PP P) (p_Dec_value (wsub hP rfl) h) fun r7 e7 q7 => ?_
        refine bnd_zz (Z := P) (hP _ _ _ _ (Or.inl (by decide)) q7) fun s8 e8 q8 => ?_
        refine ite_z (fun _ => ?_) (fun _ => ?_)
        · refine bnd_zz (Z := P) (hP _ _ _ _ (Or.inr (by decide)) q8) fun s10 e10 q10 => ?_
          exact q10
        · refine bnd_zz (Z := P) (hP _ _ _ _ (Or.inr (by decide)) q8) fun s11 e11 q11 => ?_
          exact q11
set_option maxRecDepth 100000 in
set_option maxHeartbeats 4000000 in
theorem s_Pro_moveSegmentOrOffset {l : Launch} {ad : Nat → Nat} {D : va_G} {cI : ClassId} {σ : Sg} {a1 : Int32} {K : Option Value → Sg → Prop}  (hb : σ 14 7 = 0 ∨ σ 14 7 = 1) (hK : KI K (f_Pro_moveSegmentOrOffset σ a1)) : MetJ l ad D cI mi_Pro_moveSegmentOrOffset [.ref 12, .int a1] σ K := by
  refine met_of mi_Pro_moveSegmentOrOffset pt_Pro pt_Pro_in rfl pl_Pro rfl (Nat.le_of_ble_eq_true rfl) fun X hX => ?_
  have hX : Cl l ad D cI mi_Pro_moveSegmentOrOffset pt_Pro K X := hX
  show X 0 [.ref 12, .int a1, .null] [] σ
  unfold f_Pro_moveSegmentOrOffset at hK
  refine hX.1 35 I_Pro_moveSegmentOrOffset_0 ok_Pro_moveSegmentOrOffset_0 _ _ _ ?_
  refine And.intro (fun h1 => ?_) (fun h1 => ?_)
  · have hK := ite_p hK h1
    refine And.intro (pk_andIn _ 2 rfl (by decide)) ?_
    refine s_Dec_change (bnd_g hK fun r2 e2 hK => ?_)
    exact And.intro (Or.inr rfl) hK
  · have hK := ite_n hK h1
    refine hX.1 77 I_Pro_moveSegmentOrOffset_35 ok_Pro_moveSegmentOrOffset_35 _ _ _ ?_
    refine And.intro (fun h3 => ?_) (fun h3 => ?_)
    · have hK := ite_p hK h3
      refine And.intro (fun h4 => ?_) (fun h4 => ?_)
      · have hK := ite_p hK h4
        refine hX.1 85 I_Pro_moveSegmentOrOffset_77 ok_Pro_moveSegmentOrOffset_77 _ _ _ ?_
        exact And.intro (by subst_vars; exact hb) hK
      · have hK := ite_n hK h4
        refine And.intro (pk_andIn _ 3 rfl (by decide)) (SG_g hK fun s5 e5 hK => ?_)
        refine hX.1 85 I_Pro_moveSegmentOrOffset_77 ok_Pro_moveSegmentOrOffset_77 _ _ _ ?_
        exact And.intro (by subst_vars; exact hb) hK
    · have hK := ite_n hK h3
      refine hX.1 92 I_Pro_moveSegmentOrOffset_85 ok_Pro_moveSegmentOrOffset_85 _ _ _ ?_
      refine And.intro (fun h6 => ?_) (fun h6 => ?_)
      · have hK := ite_p hK h6
        exact And.intro (Or.inl rfl) hK
      · have hK := ite_n hK h6
        refine hX.1 118 I_Pro_moveSegmentOrOffset_92 ok_Pro_moveSegmentOrOffset_92 _ _ _ ?_
        refine s_Dec_value (bnd_g hK fun r7 e7 hK => ?_)
        refine And.intro (pk_andIn _ 2 rfl (by decide)) (SG_g hK fun s8 e8 hK => ?_)
        refine And.intro (fun h9 => ?_) (fun h9 => ?_)
        · have hK := ite_p hK h9
          refine hX.1 124 I_Pro_moveSegmentOrOffset_119 ok_Pro_moveSegmentOrOffset_119 _ _ _ ?_
          refine And.intro (Or.inr rfl) (SG_g hK fun s10 e10 hK => ?_)
          exact And.intro (Or.inr rfl) hK
        · have hK := ite_n hK h9
          refine hX.1 119 I_Pro_moveSegmentOrOffset_118 ok_Pro_moveSegmentOrOffset_118 _ _ _ ?_
          refine hX.1 124 I_Pro_moveSegmentOrOffset_119 ok_Pro_moveSegmentOrOffset_119 _ _ _ ?_
          refine And.intro (Or.inl rfl) (SG_g hK fun s11 e11 hK => ?_)
          exact And.intro (Or.inr rfl) hK
def I_Pro_move_0 : List IT := [(0, .iload_n 1, 1, 0, 0, []), (1, .sipush 143, 3, 143, 0, []), (4, .if_icmp .ne 5, 3, 0, 9, []), (7, .iconst 0, 1, 0, 0, []), (8, .ireturn, 1, 0, 0, [])]
theorem ok_Pro_move_0 : blkOK b_Pro_move pt_Pro 9 I_Pro_move_0 = true := by decide +kernel
def I_Pro_move_9 : List IT := [(9, .iload_n 1, 1, 0, 0, []), (10, .sipush 139, 3, 139, 0, []), (13, .if_icmp .gt 10, 3, 0, 23, []), (16, .iload_n 1, 1, 0, 0, []), (17, .iconst 1, 1, 1, 0, []), (18, .iand, 1, 0, 0, []), (19, .iconst 1, 1, 1, 0, []), (20, .if_icmp .ne 7, 3, 0, 27, [])]
theorem ok_Pro_move_9 : blkOK b_Pro_move pt_Pro 23 I_Pro_move_9 = true := by decide +kernel
def I_Pro_move_23 : List IT := [(23, .iconst 1, 1, 1, 0, []), (24, .goto 4, 3, 0, 28, [])]
theorem ok_Pro_move_23 : blkOK b_Pro_move pt_Pro 27 I_Pro_move_23 = true := by decide +kernel
def I_Pro_move_27 : List IT := [(27, .iconst 0, 1, 0, 0, [])]
theorem ok_Pro_move_27 : blkOK b_Pro_move pt_Pro 28 I_Pro_move_27 = true := by decide +kernel
def I_Pro_move_28 : List IT := [(28, .istore_n 2, 1, 0, 0, []), (29, .aload_n 0, 1, 0, 0, []), (30, .getfield 34, 3, 0, 0, []), (33, .iload_n 2, 1, 0, 0, []), (34, .invokevirtual 141, 3, 0, 0, []), (37, .iload_n 1, 1, 0, 0, []), (38, .sipush 140, 3, 140, 0, []), (41, .if_icmp .lt 9, 3, 0, 50, []), (44, .aload_n 0, 1, 0, 0, []), (45, .iload_n 1, 1, 0, 0, []), (46, .invokevirtual 181, 3, 0, 0, []), (49, .ireturn, 1, 0, 0, [])]
theorem ok_Pro_move_28 : blkOK b_Pro_move pt_Pro 50 I_Pro_move_28 = true := by decide +kernel
def I_Pro_move_50 : List IT := [(50, .iload_n 1, 1, 0, 0, []), (51, .sipush 138, 3, 138, 0, []), (54, .if_icmp .ge 28, 3, 0, 82, []), (57, .aload_n 0, 1, 0, 0, []), (58, .getfield 34, 3, 0, 0, []), (61, .aload_n 0, 1, 0, 0, []), (62, .getfield 13, 3, 0, 0, []), (65, .aload_n 0, 1, 0, 0, []), (66, .getfield 34, 3, 0, 0, []), (69, .getfield 147, 3, 0, 0, []), (72, .iload_n 2, 1, 0, 0, []), (73, .invokevirtual 130, 3, 0, 0, []), (76, .invokevirtual 150, 3, 0, 0, []), (79, .goto 25, 3, 0, 104, [])]
theorem ok_Pro_move_50 : blkOK b_Pro_move pt_Pro 82 I_Pro_move_50 = true := by decide +kernel
def I_Pro_move_82 : List IT := [(82, .aload_n 0, 1, 0, 0, []), (83, .getfield 13, 3, 0, 0, []), (86, .aload_n 0, 1, 0, 0, []), (87, .getfield 34, 3, 0, 0, []), (90, .getfield 147, 3, 0, 0, []), (93, .iload_n 2, 1, 0, 0, []), (94, .aload_n 0, 1, 0, 0, []), (95, .getfield 34, 3, 0, 0, []), (98, .invokevirtual 145, 3, 0, 0, []), (101, .invokevirtual 137, 3, 0, 0, [])]
theorem ok_Pro_move_82 : blkOK b_Pro_move pt_Pro 104 I_Pro_move_82 = true := by decide +kernel
def I_Pro_move_104 : List IT := [(104, .iconst 1, 1, 1, 0, []), (105, .ireturn, 1, 0, 0, [])]
theorem ok_Pro_move_104 : blkOK b_Pro_move pt_Pro 106 I_Pro_move_104 = true := by decide +kernel
def f_Pro_move_28 (σ : Sg) (x1 : Int32) (y0 : Int32) : Int32 × Sg := (bnd (f_Dec_readModrm σ y0) fun r1 => (if x1 < (140 : Int32) then (if (138 : Int32) ≤ x1 then (bnd (f_Dec_value r1) fun r4 => bnd (f_Reg_change r4.2 (r1 14 5) y0 r4.1) fun r5 => ((1 : Int32), r5)) else (bnd (f_Reg_value r1 (r1 14 5) y0) fun r6 => bnd (f_Dec_change r6.2 r6.1) fun r7 => ((1 : Int32), r7))) else (bnd (f_Pro_moveSegmentOrOffset r1 x1) fun r8 => (r8.1, r8.2))))
theorem z_Pro_move_28 {σ : Sg} {x1 : Int32} {y0 : Int32} (z_y0 : y0 = 0 ∨ y0 = 1)  : (f_Pro_move_28 σ x1 y0).1 = 0 ∨ (f_Pro_move_28 σ x1 y0).1 = 1 := by
  show Zb (f_Pro_move_28 σ x1 y0)
  unfold f_Pro_move_28
  refine bnd_z fun r1 e1 => ?_
  refine ite_z (fun h2 => ?_) (fun h2 => ?_)
  · refine ite_z (fun h3 => ?_) (fun h3 => ?_)
    · refine bnd_z fun r4 e4 => ?_
      refine bnd_z fun r5 e5 => ?_
      exact (Or.inr rfl)
    · refine bnd_z fun r6 e6 => ?_
      refine bnd_z fun r7 e7 => ?_
      exact (Or.inr rfl)
  · refine bnd_zz (Z := Zb) (z_Pro_moveSegmentOrOffset (by subst_vars; exact rm_b _ _)) fun r8 e8 z8 => ?_
    exact z8
abbrev w_Pro_move_28 : List (Nat × Option Nat) := [(2, none), (3, some 2), (4, none), (5, none), (12, some 8), (14, some 5), (14, some 6), (14, some 7), (14, some 9), (14, some 10), (14, some 11)]
theorem p_Pro_move_28 {P : Sg → Prop} (hP : WP w_Pro_move_28 P) {σ : Sg} {x1 : Int32} {y0 : Int32} (h : P σ) : PP P (f_Pro_move_28 σ x1 y0) := by
  unfold f_Pro_move_28
  refine bnd_zz (Z := P) (p_Dec_readModrm (wsub hP rfl) h) fun r1 e1 q1 => ?_
  refine ite_z (fun _ => ?_) (fun _ => ?_)
  · refine ite_z (fun _ => ?_) (fun _ => ?_)
    · refine bnd_zz (Z := PP P) (p_Dec_value (wsub hP rfl) q1) fun r4 e4 q4 => ?_
      refine bnd_zz (Z := P) (p_Reg_change (wsub hP rfl) q4) fun r5 e5 q5 => ?_
      exact q5
    · refine bnd_zz (Z := PP P) (p_Reg_value (wsub hP rfl) q1) fun r6 e6 q6 => ?_
      refine bnd_zz (Z := P) (p_Dec_change (wsub hP rfl) q6) fun r7 e7 q7 => ?_
      exact q7
  · refine bnd_zz (Z := PP P) (p_Pro_moveSegmentOrOffset (wsub hP rfl) q1) fun r8 e8 q8 => ?_
    exact q8
set_option maxRecDepth 100000 in
set_option maxHeartbeats 4000000 in
theorem b_Pro_move_28 {l : Launch} {ad : Nat → Nat} {D : va_G} {cI : ClassId} {K : Option Value → Sg → Prop} {X : Nat → List Value → List Value → Sg → Prop} (hX : Cl l ad D cI mi_Pro_move pt_Pro K X) {σ : Sg} {x1 : Int32} {y0 : Int32} (z_y0 : y0 = 0 ∨ y0 = 1)  (hK : KI K (f_Pro_move_28 σ x1 y0)) : X 28 [.ref 12, .int x1, .null] [.int y0] σ := by
  unfold f_Pro_move_28 at hK
  refine hX.1 50 I_Pro_move_28 ok_Pro_move_28 _ _ _ ?_
  refine s_Dec_readModrm z_y0 (bnd_g hK fun r1 e1 hK => ?_)
  refine And.intro (fun h2 => ?_) (fun h2 => ?_)
  · have hK := ite_p hK h2
    refine hX.1 82 I_Pro_move_50 ok_Pro_move_50 _ _ _ ?_
    refine And.intro (fun h3 => ?_) (fun h3 => ?_)
    · have hK := ite_p hK h3
      refine hX.1 104 I_Pro_move_82 ok_Pro_move_82 _ _ _ ?_
      refine s_Dec_value (bnd_g hK fun r4 e4 hK => ?_)
      refine s_Reg_change (bnd_g hK fun r5 e5 hK => ?_)
      refine hX.1 106 I_Pro_move_104 ok_Pro_move_104 _ _ _ ?_
      exact And.intro (Or.inr rfl) hK
    · have hK := ite_n hK h3
      refine s_Reg_value (bnd_g hK fun r6 e6 hK => ?_)
      refine s_Dec_change (bnd_g hK fun r7 e7 hK => ?_)
      refine hX.1 106 I_Pro_move_104 ok_Pro_move_104 _ _ _ ?_
      exact And.intro (Or.inr rfl) hK
  · have hK := ite_n hK h2
    refine s_Pro_moveSegmentOrOffset (by subst_vars; exact rm_b _ _) (bnd_g hK fun r8 e8 hK => ?_)
    have z8 : r8.1 = 0 ∨ r8.1 = 1 := by rw [← e8]; exact z_Pro_moveSegmentOrOffset (by subst_vars; exact rm_b _ _)
    exact And.intro z8 hK
def f_Pro_move_23 (σ : Sg) (x1 : Int32) : Int32 × Sg := (f_Pro_move_28 σ x1 (1 : Int32))
theorem z_Pro_move_23 {σ : Sg} {x1 : Int32}   : (f_Pro_move_23 σ x1).1 = 0 ∨ (f_Pro_move_23 σ x1).1 = 1 := by
  show Zb (f_Pro_move_23 σ x1)
  unfold f_Pro_move_23
  exact z_Pro_move_28 (Or.inr rfl) 
abbrev w_Pro_move_23 : List (Nat × Option Nat) := [(2, none), (3, some 2), (4, none), (5, none), (12, some 8), (14, some 5), (14, some 6), (14, some 7), (14, some 9), (14, some 10), (14, some 11)]
theorem p_Pro_move_23 {P : Sg → Prop} (hP : WP w_Pro_move_23 P) {σ : Sg} {x1 : Int32} (h : P σ) : PP P (f_Pro_move_23 σ x1) := by
  unfold f_Pro_move_23
  exact p_Pro_move_28 (wsub hP rfl) h
set_option maxRecDepth 100000 in
set_option maxHeartbeats 4000000 in
theorem b_Pro_move_23 {l : Launch} {ad : Nat → Nat} {D : va_G} {cI : ClassId} {K : Option Value → Sg → Prop} {X : Nat → List Value → List Value → Sg → Prop} (hX : Cl l ad D cI mi_Pro_move pt_Pro K X) {σ : Sg} {x1 : Int32}   (hK : KI K (f_Pro_move_23 σ x1)) : X 23 [.ref 12, .int x1, .null] [] σ := by
  unfold f_Pro_move_23 at hK
  refine hX.1 27 I_Pro_move_23 ok_Pro_move_23 _ _ _ ?_
  exact b_Pro_move_28 hX (Or.inr rfl) hK
def f_Pro_move (σ : Sg) (a1 : Int32) : Int32 × Sg := (if a1 = (143 : Int32) then ((0 : Int32), σ) else (if (139 : Int32) < a1 then (f_Pro_move_23 σ a1) else (if (a1 &&& (1 : Int32)) = (1 : Int32) then (f_Pro_move_23 σ a1) else (f_Pro_move_28 σ a1 (0 : Int32)))))
theorem z_Pro_move {σ : Sg} {a1 : Int32}   : (f_Pro_move σ a1).1 = 0 ∨ (f_Pro_move σ a1).1 = 1 := by
  show Zb (f_Pro_move σ a1)
  unfold f_Pro_move
  refine ite_z (fun h1 => ?_) (fun h1 => ?_)
  · exact (Or.inl rfl)
  · refine ite_z (fun h2 => ?_) (fun h2 => ?_)
    · exact z_Pro_move_23
    · refine ite_z (fun h3 => ?_) (fun h3 => ?_)
      · exact z_Pro_move_23
      · exact z_Pro_move_28 (Or.inl rfl)
abbrev w_Pro_move : List (Nat × Option Nat) := [(2, none), (3, some 2), (4, none), (5, none), (12, some 8), (14, some 5), (14, some 6), (14, some 7), (14, some 9), (14, some 10), (14, some 11)]
theorem p_Pro_move {P : Sg → Prop} (hP : WP w_Pro_move P) {σ : Sg} {a1 : Int32} (h : P σ) : PP P (f_Pro_move σ a1) := by
  unfold f_Pro_move
  refine ite_z (fun _ => ?_) (fun _ => ?_)
  · exact h
  · refine ite_z (fun _ => ?_) (fun _ => ?_)
    · exact p_Pro_move_23 (wsub hP rfl) h
    · refine ite_z (fun _ => ?_) (fun _ => ?_)
      · exact p_Pro_move_23 (wsub hP rfl) h
      · exact p_Pro_move_28 (wsub hP rfl) h
set_option maxRecDepth 100000 in
set_option maxHeartbeats 4000000 in
theorem s_Pro_move {l : Launch} {ad : Nat → Nat} {D : va_G} {cI : ClassId} {σ : Sg} {a1 : Int32} {K : Option Value → Sg → Prop}   (hK : KI K (f_Pro_move σ a1)) : MetJ l ad D cI mi_Pro_move [.ref 12, .int a1] σ K := by
  refine met_of mi_Pro_move pt_Pro pt_Pro_in rfl pl_Pro rfl (Nat.le_of_ble_eq_true rfl) fun X hX => ?_
  have hX : Cl l ad D cI mi_Pro_move pt_Pro K X := hX
  show X 0 [.ref 12, .int a1, .null] [] σ
  unfold f_Pro_move at hK
  refine hX.1 9 I_Pro_move_0 ok_Pro_move_0 _ _ _ ?_
  refine And.intro (fun h1 => ?_) (fun h1 => ?_)
  · have hK := ite_p hK h1
    exact And.intro (Or.inl rfl) hK
  · have hK := ite_n hK h1
    refine hX.1 23 I_Pro_move_9 ok_Pro_move_9 _ _ _ ?_
    refine And.intro (fun h2 => ?_) (fun h2 => ?_)
    · have hK := ite_p hK h2
      exact b_Pro_move_23 hX  hK
    · have hK := ite_n hK h2
      refine And.intro (fun h3 => ?_) (fun h3 => ?_)
      · have hK := ite_p hK h3
        exact b_Pro_move_23 hX  hK
      · have hK := ite_n hK h3
        refine hX.1 28 I_Pro_move_27 ok_Pro_move_27 _ _ _ ?_
        exact b_Pro_move_28 hX (Or.inl rfl) hK
end
section
def I_Pro_stringOnce_0 : List IT := [(0, .iload_n 1, 1, 0, 0, []), (1, .iconst 1, 1, 1, 0, []), (2, .iand, 1, 0, 0, []), (3, .iconst 1, 1, 1, 0, []), (4, .if_icmp .ne 7, 3, 0, 11, []), (7, .iconst 1, 1, 1, 0, []), (8, .goto 4, 3, 0, 12, [])]
theorem ok_Pro_stringOnce_0 : blkOK b_Pro_stringOnce pt_Pro 11 I_Pro_stringOnce_0 = true := by decide +kernel
def I_Pro_stringOnce_11 : List IT := [(11, .iconst 0, 1, 0, 0, [])]
theorem ok_Pro_stringOnce_11 : blkOK b_Pro_stringOnce pt_Pro 12 I_Pro_stringOnce_11 = true := by decide +kernel
def I_Pro_stringOnce_12 : List IT := [(12, .istore_n 2, 1, 0, 0, []), (13, .iload_n 1, 1, 0, 0, []), (14, .bipush (-2), 2, (-2), 0, []), (16, .iand, 1, 0, 0, []), (17, .istore_n 3, 1, 0, 0, []), (18, .aload_n 0, 1, 0, 0, []), (19, .getfield 13, 3, 0, 0, []), (22, .getfield 156, 3, 0, 0, []), (25, .iconst 0, 1, 0, 0, []), (26, .iaload, 1, 0, 0, []), (27, .istore 4, 2, 0, 0, []), (29, .aload_n 0, 1, 0, 0, []), (30, .getfield 34, 3, 0, 0, []), (33, .iconst 3, 1, 3, 0, []), (34, .invokevirtual 196, 3, 0, 0, []), (37, .istore 5, 2, 0, 0, []), (39, .aload_n 0, 1, 0, 0, []), (40, .getfield 13, 3, 0, 0, []), (43, .getfield 166, 3, 0, 0, []), (46, .bipush 6, 2, 6, 0, []), (48, .iaload, 1, 0, 0, []), (49, .istore 6, 2, 0, 0, []), (51, .aload_n 0, 1, 0, 0, []), (52, .getfield 13, 3, 0, 0, []), (55, .getfield 166, 3, 0, 0, []), (58, .bipush 7, 2, 7, 0, []), (60, .iaload, 1, 0, 0, []), (61, .istore 7, 2, 0, 0, []), (63, .aload_n 0, 1, 0, 0, []), (64, .getfield 13, 3, 0, 0, []), (67, .iconst 0, 1, 0, 0, []), (68, .iload_n 2, 1, 0, 0, []), (69, .invokevirtual 130, 3, 0, 0, []), (72, .istore 8, 2, 0, 0, []), (74, .iload_n 3, 1, 0, 0, []), (75, .sipush 164, 3, 164, 0, []), (78, .if_icmp .ne 30, 3, 0, 108, []), (81, .aload_n 0, 1, 0, 0, []), (82, .getfield 7, 3, 0, 0, []), (85, .iload 4, 2, 0, 0, []), (87, .iload 7, 2, 0, 0, []), (89, .iload_n 2, 1, 0, 0, []), (90, .aload_n 0, 1, 0, 0, []), (91, .getfield 7, 3, 0, 0, []), (94, .iload 5, 2, 0, 0, []), (96, .iload 6, 2, 0, 0, []), (98, .iload_n 2, 1, 0, 0, []), (99, .invokevirtual 200, 3, 0, 0, []), (102, .invokevirtual 206, 3, 0, 0, []), (105, .goto 82, 3, 0, 187, [])]
theorem ok_Pro_stringOnce_12 : blkOK b_Pro_stringOnce pt_Pro 108 I_Pro_stringOnce_12 = true := by decide +kernel
def I_Pro_stringOnce_108 : List IT := [(108, .iload_n 3, 1, 0, 0, []), (109, .sipush 170, 3, 170, 0, []), (112, .if_icmp .ne 20, 3, 0, 132, []), (115, .aload_n 0, 1, 0, 0, []), (116, .getfield 7, 3, 0, 0, []), (119, .iload 4, 2, 0, 0, []), (121, .iload 7, 2, 0, 0, []), (123, .iload_n 2, 1, 0, 0, []), (124, .iload 8, 2, 0, 0, []), (126, .invokevirtual 206, 3, 0, 0, []), (129, .goto 58, 3, 0, 187, [])]
theorem ok_Pro_stringOnce_108 : blkOK b_Pro_stringOnce pt_Pro 132 I_Pro_stringOnce_108 = true := by decide +kernel
def I_Pro_stringOnce_132 : List IT := [(132, .iload_n 3, 1, 0, 0, []), (133, .sipush 172, 3, 172, 0, []), (136, .if_icmp .ne 27, 3, 0, 163, []), (139, .aload_n 0, 1, 0, 0, []), (140, .getfield 13, 3, 0, 0, []), (143, .iconst 0, 1, 0, 0, []), (144, .iload_n 2, 1, 0, 0, []), (145, .aload_n 0, 1, 0, 0, []), (146, .getfield 7, 3, 0, 0, []), (149, .iload 5, 2, 0, 0, []), (151, .iload 6, 2, 0, 0, []), (153, .iload_n 2, 1, 0, 0, []), (154, .invokevirtual 200, 3, 0, 0, []), (157, .invokevirtual 137, 3, 0, 0, []), (160, .goto 27, 3, 0, 187, [])]
theorem ok_Pro_stringOnce_132 : blkOK b_Pro_stringOnce pt_Pro 163 I_Pro_stringOnce_132 = true := by decide +kernel
def I_Pro_stringOnce_163 : List IT := [(163, .aload_n 0, 1, 0, 0, []), (164, .getfield 17, 3, 0, 0, []), (167, .iload 8, 2, 0, 0, []), (169, .aload_n 0, 1, 0, 0, []), (170, .getfield 7, 3, 0, 0, []), (173, .iload 4, 2, 0, 0, []), (175, .iload 7, 2, 0, 0, []), (177, .iload_n 2, 1, 0, 0, []), (178, .invokevirtual 200, 3, 0, 0, []), (181, .iconst 0, 1, 0, 0, []), (182, .iload_n 2, 1, 0, 0, []), (183, .invokevirtual 210, 3, 0, 0, []), (186, .pop, 1, 0, 0, [])]
theorem ok_Pro_stringOnce_163 : blkOK b_Pro_stringOnce pt_Pro 187 I_Pro_stringOnce_163 = true := by decide +kernel
def I_Pro_stringOnce_187 : List IT := [(187, .iload_n 2, 1, 0, 0, []), (188, .ifCond .eq 7, 3, 0, 195, []), (191, .iconst 2, 1, 2, 0, []), (192, .goto 4, 3, 0, 196, [])]
theorem ok_Pro_stringOnce_187 : blkOK b_Pro_stringOnce pt_Pro 195 I_Pro_stringOnce_187 = true := by decide +kernel
def I_Pro_stringOnce_195 : List IT := [(195, .iconst 1, 1, 1, 0, [])]
theorem ok_Pro_stringOnce_195 : blkOK b_Pro_stringOnce pt_Pro 196 I_Pro_stringOnce_195 = true := by decide +kernel
def I_Pro_stringOnce_196 : List IT := [(196, .aload_n 0, 1, 0, 0, []), (197, .getfield 17, 3, 0, 0, []), (200, .sipush 1024, 3, 1024, 0, []), (203, .invokevirtual 40, 3, 0, 0, []), (206, .ifCond .eq 7, 3, 0, 213, []), (209, .iconst (-1), 1, (-1), 0, []), (210, .goto 4, 3, 0, 214, [])]
theorem ok_Pro_stringOnce_196 : blkOK b_Pro_stringOnce pt_Pro 213 I_Pro_stringOnce_196 = true := by decide +kernel
def I_Pro_stringOnce_213 : List IT := [(213, .iconst 1, 1, 1, 0, [])]
theorem ok_Pro_stringOnce_213 : blkOK b_Pro_stringOnce pt_Pro 214 I_Pro_stringOnce_213 = true := by decide +kernel
def I_Pro_stringOnce_214 : List IT := [(214, .imul, 1, 0, 0, []), (215, .istore 9, 2, 0, 0, []), (217, .iload_n 3, 1, 0, 0, []), (218, .sipush 164, 3, 164, 0, []), (221, .if_icmp .eq 10, 3, 0, 231, []), (224, .iload_n 3, 1, 0, 0, []), (225, .sipush 172, 3, 172, 0, []), (228, .if_icmp .ne 21, 3, 0, 249, [])]
theorem ok_Pro_stringOnce_214 : blkOK b_Pro_stringOnce pt_Pro 231 I_Pro_stringOnce_214 = true := by decide +kernel
def I_Pro_stringOnce_231 : List IT := [(231, .aload_n 0, 1, 0, 0, []), (232, .getfield 13, 3, 0, 0, []), (235, .getfield 166, 3, 0, 0, []), (238, .bipush 6, 2, 6, 0, []), (240, .iload 6, 2, 0, 0, []), (242, .iload 9, 2, 0, 0, []), (244, .iadd, 1, 0, 0, []), (245, .ldc 155, 2, 65535, 0, []), (247, .iand, 1, 0, 0, []), (248, .iastore, 1, 0, 0, [])]
theorem ok_Pro_stringOnce_231 : blkOK b_Pro_stringOnce pt_Pro 249 I_Pro_stringOnce_231 = true := by decide +kernel
def I_Pro_stringOnce_249 : List IT := [(249, .iload_n 3, 1, 0, 0, []), (250, .sipush 172, 3, 172, 0, []), (253, .if_icmp .eq 21, 3, 0, 274, []), (256, .aload_n 0, 1, 0, 0, []), (257, .getfield 13, 3, 0, 0, []), (260, .getfield 166, 3, 0, 0, []), (263, .bipush 7, 2, 7, 0, []), (265, .iload 7, 2, 0, 0, []), (267, .iload 9, 2, 0, 0, []), (269, .iadd, 1, 0, 0, []), (270, .ldc 155, 2, 65535, 0, []), (272, .iand, 1, 0, 0, []), (273, .iastore, 1, 0, 0, [])]
theorem ok_Pro_stringOnce_249 : blkOK b_Pro_stringOnce pt_Pro 274 I_Pro_stringOnce_249 = true := by decide +kernel
def I_Pro_stringOnce_274 : List IT := [(274, .return_, 1, 0, 0, [])]
theorem ok_Pro_stringOnce_274 : blkOK b_Pro_stringOnce pt_Pro 275 I_Pro_stringOnce_274 = true := by decide +kernel
def f_Pro_stringOnce_249 (σ : Sg) (x3 : Int32) (x7 : Int32) (x9 : Int32) : Sg := (if x3 = (172 : Int32) then σ else (bnd (up2 σ 4 (Int32.toNatClampNeg (7 : Int32)) ((x7 + x9) &&& (65535 : Int32))) fun s2 => s2))
abbrev w_Pro_stringOnce_249 : List (Nat × Option Nat) := [(4, none)]
theorem p_Pro_stringOnce_249 {P : Sg → Prop} (hP : WP w_Pro_stringOnce_249 P) {σ : Sg} {x3 : Int32} {x7 : Int32} {x9 : Int32} (h : P σ) : P (f_Pro_stringOnce_249 σ x3 x7 x9) := by
  unfold f_Pro_stringOnce_249
  refine ite_z (fun _ => ?_) (fun _ => ?_)
  · exact h
  · refine bnd_zz (Z := P) (hP _ _ _ _ (Or.inl (by decide)) h) fun s2 e2 q2 => ?_
    exact q2
set_option maxRecDepth 100000 in
set_option maxHeartbeats 4000000 in
theorem b_Pro_stringOnce_249 {l : Launch} {ad : Nat → Nat} {D : va_G} {cI : ClassId} {K : Option Value → Sg → Prop} {X : Nat → List Value → List Value → Sg → Prop} (hX : Cl l ad D cI mi_Pro_stringOnce pt_Pro K X) {σ : Sg} {x3 : Int32} {x7 : Int32} {x9 : Int32}   (hK : KV K (f_Pro_stringOnce_249 σ x3 x7 x9)) : X 249 [.ref 12, .null, .null, .int x3, .null, .null, .null, .int x7, .null, .int x9] [] σ := by
  unfold f_Pro_stringOnce_249 at hK
  refine hX.1 274 I_Pro_stringOnce_249 ok_Pro_stringOnce_249 _ _ _ ?_
  refine And.intro (fun h1 => ?_) (fun h1 => ?_)
  · have hK := ite_p hK h1
    refine hX.1 275 I_Pro_stringOnce_274 ok_Pro_stringOnce_274 _ _ _ ?_
    exact hK
  · have hK := ite_n hK h1
    refine And.intro (vin (by decide)) (SG_g hK fun s2 e2 hK => ?_)
    refine hX.1 275 I_Pro_stringOnce_274 ok_Pro_stringOnce_274 _ _ _ ?_
    exact hK
def f_Pro_stringOnce_231 (σ : Sg) (x3 : Int32) (x6 : Int32) (x7 : Int32) (x9 : Int32) : Sg := (bnd (up2 σ 4 (Int32.toNatClampNeg (6 : Int32)) ((x6 + x9) &&& (65535 : Int32))) fun s1 => (f_Pro_stringOnce_249 s1 x3 x7 x9))
abbrev w_Pro_stringOnce_231 : List (Nat × Option Nat) := [(4, none)]
theorem p_Pro_stringOnce_231 {P : Sg → Prop} (hP : WP w_Pro_stringOnce_231 P) {σ : Sg} {x3 : Int32} {x6 : Int32} {x7 : Int32} {x9 : Int32} (h : P σ) : P (f_Pro_stringOnce_231 σ x3 x6 x7 x9) := by
  unfold f_Pro_stringOnce_231
  refine bnd_zz (Z := P) (hP _ _ _ _ (Or.inl (by decide)) h) fun s1 e1 q1 => ?_
  exact p_Pro_stringOnce_249 (wsub hP rfl) q1
set_option maxRecDepth 100000 in
set_option maxHeartbeats 4000000 in
theorem b_Pro_stringOnce_231 {l : Launch} {ad : Nat → Nat} {D : va_G} {cI : ClassId} {K : Option Value → Sg → Prop} {X : Nat → List Value → List Value → Sg → Prop} (hX : Cl l ad D cI mi_Pro_stringOnce pt_Pro K X) {σ : Sg} {x3 : Int32} {x6 : Int32} {x7 : Int32} {x9 : Int32}   (hK : KV K (f_Pro_stringOnce_231 σ x3 x6 x7 x9)) : X 231 [.ref 12, .null, .null, .int x3, .null, .null, .int x6, .int x7, .null, .int x9] [] σ := by
  unfold f_Pro_stringOnce_231 at hK
  refine hX.1 249 I_Pro_stringOnce_231 ok_Pro_stringOnce_231 _ _ _ ?_
  refine And.intro (vin (by decide)) (SG_g hK fun s1 e1 hK => ?_)
  refine hX.fg [6] ?_
  exact b_Pro_stringOnce_249 hX  hK
def f_Pro_stringOnce_214 (σ : Sg) (x3 : Int32) (x6 : Int32) (x7 : Int32) (y0 : Int32) (y1 : Int32) : Sg := (if x3 = (164 : Int32) then (f_Pro_stringOnce_231 σ x3 x6 x7 (y1 * y0)) else (if x3 = (172 : Int32) then (f_Pro_stringOnce_231 σ x3 x6 x7 (y1 * y0)) else (f_Pro_stringOnce_249 σ x3 x7 (y1 * y0))))
abbrev w_Pro_stringOnce_214 : List (Nat × Option Nat) := [(4, none)]
theorem p_Pro_stringOnce_214 {P : Sg → Prop} (hP : WP w_Pro_stringOnce_214 P) {σ : Sg} {x3 : Int32} {x6 : Int32} {x7 : Int32} {y0 : Int32} {y1 : Int32} (h : P σ) : P (f_Pro_stringOnce_214 σ x3 x6 x7 y0 y1) := by
  unfold f_Pro_stringOnce_214
  refine ite_z (fun _ => ?_) (fun _ => ?_)
  · exact p_Pro_stringOnce_231 (wsub hP rfl) h
  · refine ite_z (fun _ => ?_) (fun _ => ?_)
    · exact p_Pro_stringOnce_231 (wsub hP rfl) h
    · exact p_Pro_stringOnce_249 (wsub hP rfl) h
set_option maxRecDepth 100000 in
set_option maxHeartbeats 4000000 in
theorem b_Pro_stringOnce_214 {l : Launch} {ad : Nat → Nat} {D : va_G} {cI : ClassId} {K : Option Value → Sg → Prop} {X : Nat → List Value → List Value → Sg → Prop} (hX : Cl l ad D cI mi_Pro_stringOnce pt_Pro K X) {σ : Sg} {x3 : Int32} {x6 : Int32} {x7 : Int32} {y0 : Int32} {y1 : Int32}   (hK : KV K (f_Pro_stringOnce_214 σ x3 x6 x7 y0 y1)) : X 214 [.ref 12, .null, .null, .int x3, .null, .null, .int x6, .int x7, .null, .null] [.int y0, .int y1] σ := by
  unfold f_Pro_stringOnce_214 at hK
  refine hX.1 231 I_Pro_stringOnce_214 ok_Pro_stringOnce_214 _ _ _ ?_
  refine And.intro (fun h1 => ?_) (fun h1 => ?_)
  · have hK := ite_p hK h1
    exact b_Pro_stringOnce_231 hX  hK
  · have hK := ite_n hK h1
    refine And.intro (fun h2 => ?_) (fun h2 => ?_)
    · have hK := ite_p hK h2
      exact b_Pro_stringOnce_231 hX  hK
    · have hK := ite_n hK h2
      refine hX.fg [6] ?_
      exact b_Pro_stringOnce_249 hX  hK
def f_Pro_stringOnce_196 (σ : Sg) (x3 : Int32) (x6 : Int32) (x7 : Int32) (y0 : Int32) : Sg := (bnd (f_Fla_on σ (1024 : Int32)) fun r1 => (if r1.1 = (0 : Int32) then (f_Pro_stringOnce_214 r1.2 x3 x6 x7 (1 : Int32) y0) else (f_Pro_stringOnce_214 r1.2 x3 x6 x7 (-1 : Int32) y0)))
abbrev w_Pro_stringOnce_196 : List (Nat × Option Nat) := [(4, none)]
theorem p_Pro_stringOnce_196 {P : Sg → Prop} (hP : WP w_Pro_stringOnce_196 P) {σ : Sg} {x3 : Int32} {x6 : Int32} {x7 : Int32} {y0 : Int32} (h : P σ) : P (f_Pro_stringOnce_196 σ x3 x6 x7 y0) := by
  unfold f_Pro_stringOnce_196
  refine bnd_zz (Z := PP P) (p_Fla_on (wsub hP rfl) h) fun r1 e1 q1 => ?_
  refine ite_z (fun _ => ?_) (fun _ => ?_)
  · exact p_Pro_stringOnce_214 (wsub hP rfl) q1
  · exact p_Pro_stringOnce_214 (wsub hP rfl) q1
set_option maxRecDepth 100000 in
set_option maxHeartbeats 4000000 in
theorem b_Pro_stringOnce_196 {l : Launch} {ad : Nat → Nat} {D : va_G} {cI : ClassId} {K : Option Value → Sg → Prop} {X : Nat → List Value → List Value → Sg → Prop} (hX : Cl l ad D cI mi_Pro_stringOnce pt_Pro K X) {σ : Sg} {x3 : Int32} {x6 : Int32} {x7 : Int32} {y0 : Int32}   (hK : KV K (f_Pro_stringOnce_196 σ x3 x6 x7 y0)) : X 196 [.ref 12, .null, .null, .int x3, .null, .null, .int x6, .int x7, .null, .null] [.int y0] σ := by
  unfold f_Pro_stringOnce_196 at hK
  refine hX.1 213 I_Pro_stringOnce_196 ok_Pro_stringOnce_196 _ _ _ ?_
  refine s_Fla_on (bnd_g hK fun r1 e1 hK => ?_)
  have z1 : r1.1 = 0 ∨ r1.1 = 1 := by rw [← e1]; exact z_Fla_on
  refine And.intro (fun h2 => ?_) (fun h2 => ?_)
  · have hK := ite_p hK h2
    refine hX.1 214 I_Pro_stringOnce_213 ok_Pro_stringOnce_213 _ _ _ ?_
    exact b_Pro_stringOnce_214 hX  hK
  · have hK := ite_n hK h2
    exact b_Pro_stringOnce_214 hX  hK
def f_Pro_stringOnce_187 (σ : Sg) (x2 : Int32) (x3 : Int32) (x6 : Int32) (x7 : Int32) : Sg := (if x2 = (0 : Int32) then (f_Pro_stringOnce_196 σ x3 x6 x7 (1 : Int32)) else (f_Pro_stringOnce_196 σ x3 x6 x7 (2 : Int32)))
abbrev w_Pro_stringOnce_187 : List (Nat × Option Nat) := [(4, none)]
theorem p_Pro_stringOnce_187 {P : Sg → Prop} (hP : WP w_Pro_stringOnce_187 P) {σ : Sg} {x2 : Int32} {x3 : Int32} {x6 : Int32} {x7 : Int32} (h : P σ) : P (f_Pro_stringOnce_187 σ x2 x3 x6 x7) := by
  unfold f_Pro_stringOnce_187
  refine ite_z (fun _ => ?_) (fun _ => ?_)
  · exact p_Pro_stringOnce_196 (wsub hP rfl) h
  · exact p_Pro_stringOnce_196 (wsub hP rfl) h
set_option maxRecDepth 100000 in
set_option maxHeartbeats 4000000 in
theorem b_Pro_stringOnce_187 {l : Launch} {ad : Nat → Nat} {D : va_G} {cI : ClassId} {K : Option Value → Sg → Prop} {X : Nat → List Value → List Value → Sg → Prop} (hX : Cl l ad D cI mi_Pro_stringOnce pt_Pro K X) {σ : Sg} {x2 : Int32} {x3 : Int32} {x6 : Int32} {x7 : Int32} (z_x2 : x2 = 0 ∨ x2 = 1)  (hK : KV K (f_Pro_stringOnce_187 σ x2 x3 x6 x7)) : X 187 [.ref 12, .null, .int x2, .int x3, .null, .null, .int x6, .int x7, .null, .null] [] σ := by
  unfold f_Pro_stringOnce_187 at hK
  refine hX.1 195 I_Pro_stringOnce_187 ok_Pro_stringOnce_187 _ _ _ ?_
  refine And.intro (fun h1 => ?_) (fun h1 => ?_)
  · have hK := ite_p hK h1
    refine hX.1 196 I_Pro_stringOnce_195 ok_Pro_stringOnce_195 _ _ _ ?_
    refine hX.fg [2] ?_
    exact b_Pro_stringOnce_196 hX  hK
  · have hK := ite_n hK h1
    refine hX.fg [2] ?_
    exact b_Pro_stringOnce_196 hX  hK
def f_Pro_stringOnce_12 (σ : Sg) (x1 : Int32) (y0 : Int32) : Sg := (bnd (f_Dec_segmentOr σ (3 : Int32)) fun r1 => bnd (f_Reg_value r1.2 (0 : Int32) y0) fun r2 => (if (x1 &&& (-2 : Int32)) = (164 : Int32) then (bnd (f_Mem_fetch r2.2 r1.1 (r1.2 4 (Int32.toNatClampNeg (6 : Int32))) y0) fun r4 => bnd (f_Mem_store r4.2 (σ 5 (Int32.toNatClampNeg (0 : Int32))) (r1.2 4 (Int32.toNatClampNeg (7 : Int32))) y0 r4.1) fun r5 => (f_Pro_stringOnce_187 r5 y0 (x1 &&& (-2 : Int32)) (r1.2 4 (Int32.toNatClampNeg (6 : Int32))) (r1.2 4 (Int32.toNatClampNeg (7 : Int32))))) else (if (x1 &&& (-2 : Int32)) = (170 : Int32) then (bnd (f_Mem_store r2.2 (σ 5 (Int32.toNatClampNeg (0 : Int32))) (r1.2 4 (Int32.toNatClampNeg (7 : Int32))) y0 r2.1) fun r7 => (f_Pro_stringOnce_187 r7 y0 (x1 &&& (-2 : Int32)) (r1.2 4 (Int32.toNatClampNeg (6 : Int32))) (r1.2 4 (Int32.toNatClampNeg (7 : Int32))))) else (if (x1 &&& (-2 : Int32)) = (172 : Int32) then (bnd (f_Mem_fetch r2.2 r1.1 (r1.2 4 (Int32.toNatClampNeg (6 : Int32))) y0) fun r9 => bnd (f_Reg_change r9.2 (0 : Int32) y0 r9.1) fun r10 => (f_Pro_stringOnce_187 r10 y0 (x1 &&& (-2 : Int32)) (r1.2 4 (Int32.toNatClampNeg (6 : Int32))) (r1.2 4 (Int32.toNatClampNeg (7 : Int32))))) else (bnd (f_Mem_fetch r2.2 (σ 5 (Int32.toNatClampNeg (0 : Int32))) (r1.2 4 (Int32.toNatClampNeg (7 : Int32))) y0) fun r11 => bnd (f_Fla_difference r11.2 r2.1 r11.1 (0 : Int32) y0) fun r12 => (f_Pro_stringOnce_187 r12.2 y0 (x1 &&& (-2 : Int32)) (r1.2 4 (Int32.toNatClampNeg (6 : Int32))) (r1.2 4 (Int32.toNatClampNeg (7 : Int32)))))))))
abbrev w_Pro_stringOnce_12 : List (Nat × Option Nat) := [(2, none), (4, none), (6, some 0)]
theorem p_Pro_stringOnce_12 {P : Sg → Prop} (hP : WP w_Pro_stringOnce_12 P) {σ : Sg} {x1 : Int32} {y0 : Int32} (h : P σ) : P (f_Pro_stringOnce_12 σ x1 y0) := by
  unfold f_Pro_stringOnce_12
  refine bnd_zz (Z := PP P) (p_Dec_segmentOr (wsub hP rfl) h) fun r1 e1 q1 => ?_
  refine bnd_zz (Z := PP P) (p_Reg_value (wsub hP rfl) q1) fun r2 e2 q2 => ?_
  refine ite_z (fun _ => ?_) (fun _ => ?_)
  · refine bnd_zz (Z := PP P) (p_Mem_fetch (wsub hP rfl) q2) fun r4 e4 q4 => ?_
    refine bnd_zz (Z := P) (p_Mem_store (wsub hP rfl) q4) fun r5 e5 q5 => ?_
    exact p_Pro_stringOnce_187 (wsub hP rfl) q5
  · refine ite_z (fun _ => ?_) (fun _ => ?_)
    · refine bnd_zz (Z := P) (p_Mem_store (wsub hP rfl) q2) fun r7 e7 q7 => ?_
      exact p_Pro_stringOnce_187 (wsub hP rfl) q7
    · refine ite_z (fun _ => ?_) (fun _ => ?_)
      · refine bnd_zz (Z := PP P) (p_Mem_fetch (wsub hP rfl) q2) fun r9 e9 q9 => ?_
        refine bnd_zz (Z := P) (p_Reg_change (wsub hP rfl) q9) fun r10 e10 q10 => ?_
        exact p_Pro_stringOnce_187 (wsub hP rfl) q10
      · refine bnd_zz (Z := PP P) (p_Mem_fetch (wsub hP rfl) q2) fun r11 e11 q11 => ?_
        refine bnd_zz (Z := PP P) (p_Fla_difference (wsub hP rfl) q11) fun r12 e12 q12 => ?_
        exact p_Pro_stringOnce_187 (wsub hP rfl) q12
set_option maxRecDepth 100000 in
set_option maxHeartbeats 4000000 in
theorem b_Pro_stringOnce_12 {l : Launch} {ad : Nat → Nat} {D : va_G} {cI : ClassId} {K : Option Value → Sg → Prop} {X : Nat → List Value → List Value → Sg → Prop} (hX : Cl l ad D cI mi_Pro_stringOnce pt_Pro K X) {σ : Sg} {x1 : Int32} {y0 : Int32} (z_y0 : y0 = 0 ∨ y0 = 1)  (hK : KV K (f_Pro_stringOnce_12 σ x1 y0)) : X 12 [.ref 12, .int x1, .null, .null, .null, .null, .null, .null, .null, .null] [.int y0] σ := by
  unfold f_Pro_stringOnce_12 at hK
  refine hX.1 108 I_Pro_stringOnce_12 ok_Pro_stringOnce_12 _ _ _ ?_
  refine And.intro (vin (by decide)) ?_
  refine s_Dec_segmentOr (bnd_g hK fun r1 e1 hK => ?_)
  refine And.intro (vin (by decide)) ?_
  refine And.intro (vin (by decide)) ?_
  refine s_Reg_value (bnd_g hK fun r2 e2 hK => ?_)
  refine And.intro (fun h3 => ?_) (fun h3 => ?_)
  · have hK := ite_p hK h3
    refine s_Mem_fetch (bnd_g hK fun r4 e4 hK => ?_)
    refine s_Mem_store (bnd_g hK fun r5 e5 hK => ?_)
    refine hX.fg [1, 4, 5, 8] ?_
    exact b_Pro_stringOnce_187 hX z_y0 hK
  · have hK := ite_n hK h3
    refine hX.1 132 I_Pro_stringOnce_108 ok_Pro_stringOnce_108 _ _ _ ?_
    refine And.intro (fun h6 => ?_) (fun h6 => ?_)
    · have hK := ite_p hK h6
      refine s_Mem_store (bnd_g hK fun r7 e7 hK => ?_)
      refine hX.fg [1, 4, 5, 8] ?_
      exact b_Pro_stringOnce_187 hX z_y0 hK
    · have hK := ite_n hK h6
      refine hX.1 163 I_Pro_stringOnce_132 ok_Pro_stringOnce_132 _ _ _ ?_
      refine And.intro (fun h8 => ?_) (fun h8 => ?_)
      · have hK := ite_p hK h8
        refine s_Mem_fetch (bnd_g hK fun r9 e9 hK => ?_)
        refine s_Reg_change (bnd_g hK fun r10 e10 hK => ?_)
        refine hX.fg [1, 4, 5, 8] ?_
        exact b_Pro_stringOnce_187 hX z_y0 hK
      · have hK := ite_n hK h8
        refine hX.1 187 I_Pro_stringOnce_163 ok_Pro_stringOnce_163 _ _ _ ?_
        refine s_Mem_fetch (bnd_g hK fun r11 e11 hK => ?_)
        refine s_Fla_difference (bnd_g hK fun r12 e12 hK => ?_)
        refine hX.fg [1, 4, 5, 8] ?_
        exact b_Pro_stringOnce_187 hX z_y0 hK
def f_Pro_stringOnce (σ : Sg) (a1 : Int32) : Sg := (if (a1 &&& (1 : Int32)) = (1 : Int32) then (f_Pro_stringOnce_12 σ a1 (1 : Int32)) else (f_Pro_stringOnce_12 σ a1 (0 : Int32)))
abbrev w_Pro_stringOnce : List (Nat × Option Nat) := [(2, none), (4, none), (6, some 0)]
theorem p_Pro_stringOnce {P : Sg → Prop} (hP : WP w_Pro_stringOnce P) {σ : Sg} {a1 : Int32} (h : P σ) : P (f_Pro_stringOnce σ a1) := by
  unfold f_Pro_stringOnce
  refine ite_z (fun _ => ?_) (fun _ => ?_)
  · exact p_Pro_stringOnce_12 (wsub hP rfl) h
  · exact p_Pro_stringOnce_12 (wsub hP rfl) h
set_option maxRecDepth 100000 in
set_option maxHeartbeats 4000000 in
theorem s_Pro_stringOnce {l : Launch} {ad : Nat → Nat} {D : va_G} {cI : ClassId} {σ : Sg} {a1 : Int32} {K : Option Value → Sg → Prop}   (hK : KV K (f_Pro_stringOnce σ a1)) : MetJ l ad D cI mi_Pro_stringOnce [.ref 12, .int a1] σ K := by
  refine met_of mi_Pro_stringOnce pt_Pro pt_Pro_in rfl pl_Pro rfl (Nat.le_of_ble_eq_true rfl) fun X hX => ?_
  have hX : Cl l ad D cI mi_Pro_stringOnce pt_Pro K X := hX
  show X 0 [.ref 12, .int a1, .null, .null, .null, .null, .null, .null, .null, .null] [] σ
  unfold f_Pro_stringOnce at hK
  refine hX.1 11 I_Pro_stringOnce_0 ok_Pro_stringOnce_0 _ _ _ ?_
  refine And.intro (fun h1 => ?_) (fun h1 => ?_)
  · have hK := ite_p hK h1
    exact b_Pro_stringOnce_12 hX (Or.inr rfl) hK
  · have hK := ite_n hK h1
    refine hX.1 12 I_Pro_stringOnce_11 ok_Pro_stringOnce_11 _ _ _ ?_
    exact b_Pro_stringOnce_12 hX (Or.inl rfl) hK
def I_Pro_string_0 : List IT := [(0, .iload_n 1, 1, 0, 0, []), (1, .sipush 164, 3, 164, 0, []), (4, .if_icmp .lt 17, 3, 0, 21, []), (7, .iload_n 1, 1, 0, 0, []), (8, .sipush 165, 3, 165, 0, []), (11, .if_icmp .le 12, 3, 0, 23, []), (14, .iload_n 1, 1, 0, 0, []), (15, .sipush 170, 3, 170, 0, []), (18, .if_icmp .ge 5, 3, 0, 23, [])]
theorem ok_Pro_string_0 : blkOK b_Pro_string pt_Pro 21 I_Pro_string_0 = true := by decide +kernel
def I_Pro_string_21 : List IT := [(21, .iconst 0, 1, 0, 0, []), (22, .ireturn, 1, 0, 0, [])]
theorem ok_Pro_string_21 : blkOK b_Pro_string pt_Pro 23 I_Pro_string_21 = true := by decide +kernel
def I_Pro_string_23 : List IT := [(23, .aload_n 0, 1, 0, 0, []), (24, .getfield 34, 3, 0, 0, []), (27, .getfield 190, 3, 0, 0, []), (30, .ifCond .ne 10, 3, 0, 40, []), (33, .aload_n 0, 1, 0, 0, []), (34, .iload_n 1, 1, 0, 0, []), (35, .invokevirtual 193, 3, 0, 0, []), (38, .iconst 1, 1, 1, 0, []), (39, .ireturn, 1, 0, 0, [])]
theorem ok_Pro_string_23 : blkOK b_Pro_string pt_Pro 40 I_Pro_string_23 = true := by decide +kernel
def I_Pro_string_40 : List IT := [(40, .aload_n 0, 1, 0, 0, []), (41, .getfield 13, 3, 0, 0, []), (44, .getfield 166, 3, 0, 0, []), (47, .iconst 1, 1, 1, 0, []), (48, .iaload, 1, 0, 0, []), (49, .ifCond .ne 5, 3, 0, 54, []), (52, .iconst 1, 1, 1, 0, []), (53, .ireturn, 1, 0, 0, [])]
theorem ok_Pro_string_40 : blkOK b_Pro_string pt_Pro 54 I_Pro_string_40 = true := by decide +kernel
def I_Pro_string_54 : List IT := [(54, .aload_n 0, 1, 0, 0, []), (55, .iload_n 1, 1, 0, 0, []), (56, .invokevirtual 193, 3, 0, 0, []), (59, .aload_n 0, 1, 0, 0, []), (60, .getfield 13, 3, 0, 0, []), (63, .getfield 166, 3, 0, 0, []), (66, .iconst 1, 1, 1, 0, []), (67, .dup2, 1, 0, 0, []), (68, .iaload, 1, 0, 0, []), (69, .iconst 1, 1, 1, 0, []), (70, .isub, 1, 0, 0, []), (71, .iastore, 1, 0, 0, []), (72, .aload_n 0, 1, 0, 0, []), (73, .getfield 34, 3, 0, 0, []), (76, .getfield 190, 3, 0, 0, []), (79, .sipush 243, 3, 243, 0, []), (82, .if_icmp .ne 7, 3, 0, 89, []), (85, .iconst 1, 1, 1, 0, []), (86, .goto 4, 3, 0, 90, [])]
theorem ok_Pro_string_54 : blkOK b_Pro_string pt_Pro 89 I_Pro_string_54 = true := by decide +kernel
def I_Pro_string_89 : List IT := [(89, .iconst 0, 1, 0, 0, [])]
theorem ok_Pro_string_89 : blkOK b_Pro_string pt_Pro 90 I_Pro_string_89 = true := by decide +kernel
def I_Pro_string_90 : List IT := [(90, .istore_n 2, 1, 0, 0, []), (91, .iload_n 1, 1, 0, 0, []), (92, .sipush 174, 3, 174, 0, []), (95, .if_icmp .lt 20, 3, 0, 115, []), (98, .aload_n 0, 1, 0, 0, []), (99, .getfield 17, 3, 0, 0, []), (102, .bipush 64, 2, 64, 0, []), (104, .invokevirtual 40, 3, 0, 0, []), (107, .iload_n 2, 1, 0, 0, []), (108, .if_icmp .eq 7, 3, 0, 115, []), (111, .iconst 1, 1, 1, 0, []), (112, .goto 4, 3, 0, 116, [])]
theorem ok_Pro_string_90 : blkOK b_Pro_string pt_Pro 115 I_Pro_string_90 = true := by decide +kernel
def I_Pro_string_115 : List IT := [(115, .iconst 0, 1, 0, 0, [])]
theorem ok_Pro_string_115 : blkOK b_Pro_string pt_Pro 116 I_Pro_string_115 = true := by decide +kernel
def I_Pro_string_116 : List IT := [(116, .istore_n 3, 1, 0, 0, []), (117, .aload_n 0, 1, 0, 0, []), (118, .getfield 13, 3, 0, 0, []), (121, .getfield 166, 3, 0, 0, []), (124, .iconst 1, 1, 1, 0, []), (125, .iaload, 1, 0, 0, []), (126, .ifCond .eq 21, 3, 0, 147, []), (129, .iload_n 3, 1, 0, 0, []), (130, .ifCond .ne 17, 3, 0, 147, []), (133, .aload_n 0, 1, 0, 0, []), (134, .getfield 13, 3, 0, 0, []), (137, .aload_n 0, 1, 0, 0, []), (138, .getfield 34, 3, 0, 0, []), (141, .getfield 75, 3, 0, 0, []), (144, .putfield 78, 3, 0, 0, [])]
theorem ok_Pro_string_116 : blkOK b_Pro_string pt_Pro 147 I_Pro_string_116 = true := by decide +kernel
def I_Pro_string_147 : List IT := [(147, .iconst 1, 1, 1, 0, []), (148, .ireturn, 1, 0, 0, [])]
theorem ok_Pro_string_147 : blkOK b_Pro_string pt_Pro 149 I_Pro_string_147 = true := by decide +kernel
def f_Pro_string_116 (σ : Sg) (y0 : Int32) : Int32 × Sg := (if (σ 4 (Int32.toNatClampNeg (1 : Int32))) = (0 : Int32) then ((1 : Int32), σ) else (if y0 = (0 : Int32) then (bnd (up2 σ 3 2 (σ 14 2)) fun s3 => ((1 : Int32), s3)) else ((1 : Int32), σ)))
theorem z_Pro_string_116 {σ : Sg} {y0 : Int32} (z_y0 : y0 = 0 ∨ y0 = 1)  : (f_Pro_string_116 σ y0).1 = 0 ∨ (f_Pro_string_116 σ y0).1 = 1 := by
  show Zb (f_Pro_string_116 σ y0)
  unfold f_Pro_string_116
  refine ite_z (fun h1 => ?_) (fun h1 => ?_)
  · exact (Or.inr rfl)
  · refine ite_z (fun h2 => ?_) (fun h2 => ?_)
    · refine bnd_z fun s3 e3 => ?_
      exact (Or.inr rfl)
    · exact (Or.inr rfl)
abbrev w_Pro_string_116 : List (Nat × Option Nat) := [(3, some 2)]
theorem p_Pro_string_116 {P : Sg → Prop} (hP : WP w_Pro_string_116 P) {σ : Sg} {y0 : Int32} (h : P σ) : PP P (f_Pro_string_116 σ y0) := by
  unfold f_Pro_string_116
  refine ite_z (fun _ => ?_) (fun _ => ?_)
  · exact h
  · refine ite_z (fun _ => ?_) (fun _ => ?_)
    · refine bnd_zz (Z := P) (hP _ _ _ _ (Or.inr (by decide)) h) fun s3 e3 q3 => ?_
      exact q3
    · exact h
set_option maxRecDepth 100000 in
set_option maxHeartbeats 4000000 in
theorem b_Pro_string_116 {l : Launch} {ad : Nat → Nat} {D : va_G} {cI : ClassId} {K : Option Value → Sg → Prop} {X : Nat → List Value → List Value → Sg → Prop} (hX : Cl l ad D cI mi_Pro_string pt_Pro K X) {σ : Sg} {y0 : Int32} (z_y0 : y0 = 0 ∨ y0 = 1)  (hK : KI K (f_Pro_string_116 σ y0)) : X 116 [.ref 12, .null, .null, .null] [.int y0] σ := by
  unfold f_Pro_string_116 at hK
  refine hX.1 147 I_Pro_string_116 ok_Pro_string_116 _ _ _ ?_
  refine And.intro (vin (by decide)) ?_
  refine And.intro (fun h1 => ?_) (fun h1 => ?_)
  · have hK := ite_p hK h1
    refine hX.1 149 I_Pro_string_147 ok_Pro_string_147 _ _ _ ?_
    exact And.intro (Or.inr rfl) hK
  · have hK := ite_n hK h1
    refine And.intro (fun h2 => ?_) (fun h2 => ?_)
    · have hK := ite_p hK h2
      refine And.intro trivial (SG_g hK fun s3 e3 hK => ?_)
      refine hX.1 149 I_Pro_string_147 ok_Pro_string_147 _ _ _ ?_
      exact And.intro (Or.inr rfl) hK
    · have hK := ite_n hK h2
      refine hX.1 149 I_Pro_string_147 ok_Pro_string_147 _ _ _ ?_
      exact And.intro (Or.inr rfl) hK
def f_Pro_string_115 (σ : Sg)  : Int32 × Sg := (f_Pro_string_116 σ (0 : Int32))
theorem z_Pro_string_115 {σ : Sg}    : (f_Pro_string_115 σ ).1 = 0 ∨ (f_Pro_string_115 σ ).1 = 1 := by
  show Zb (f_Pro_string_115 σ )
  unfold f_Pro_string_115
  exact z_Pro_string_116 (Or.inl rfl) 
abbrev w_Pro_string_115 : List (Nat × Option Nat) := [(3, some 2)]
theorem p_Pro_string_115 {P : Sg → Prop} (hP : WP w_Pro_string_115 P) {σ : Sg}  (h : P σ) : PP P (f_Pro_string_115 σ ) := by
  unfold f_Pro_string_115
  exact p_Pro_string_116 (wsub hP rfl) h
set_option maxRecDepth 100000 in
set_option maxHeartbeats 4000000 in
theorem b_Pro_string_115 {l : Launch} {ad : Nat → Nat} {D : va_G} {cI : ClassId} {K : Option Value → Sg → Prop} {X : Nat → List Value → List Value → Sg → Prop} (hX : Cl l ad D cI mi_Pro_string pt_Pro K X) {σ : Sg}    (hK : KI K (f_Pro_string_115 σ )) : X 115 [.ref 12, .null, .null, .null] [] σ := by
  unfold f_Pro_string_115 at hK
  refine hX.1 116 I_Pro_string_115 ok_Pro_string_115 _ _ _ ?_
  exact b_Pro_string_116 hX (Or.inl rfl) hK
def f_Pro_string_90 (σ : Sg) (x1 : Int32) (y0 : Int32) : Int32 × Sg := (if x1 < (174 : Int32) then (f_Pro_string_115 σ) else (bnd (f_Fla_on σ (64 : Int32)) fun r2 => (if r2.1 = y0 then (f_Pro_string_115 r2.2) else (f_Pro_string_116 r2.2 (1 : Int32)))))
theorem z_Pro_string_90 {σ : Sg} {x1 : Int32} {y0 : Int32} (z_y0 : y0 = 0 ∨ y0 = 1)  : (f_Pro_string_90 σ x1 y0).1 = 0 ∨ (f_Pro_string_90 σ x1 y0).1 = 1 := by
  show Zb (f_Pro_string_90 σ x1 y0)
  unfold f_Pro_string_90
  refine ite_z (fun h1 => ?_) (fun h1 => ?_)
  · exact z_Pro_string_115
  · refine bnd_zz (Z := Zb) (z_Fla_on) fun r2 e2 z2 => ?_
    refine ite_z (fun h3 => ?_) (fun h3 => ?_)
    · exact z_Pro_string_115
    · exact z_Pro_string_116 (Or.inr rfl)
abbrev w_Pro_string_90 : List (Nat × Option Nat) := [(3, some 2)]
theorem p_Pro_string_90 {P : Sg → Prop} (hP : WP w_Pro_string_90 P) {σ : Sg} {x1 : Int32} {y0 : Int32} (h : P σ) : PP P (f_Pro_string_90 σ x1 y0) := by
  unfold f_Pro_string_90
  refine ite_z (fun _ => ?_) (fun _ => ?_)
  · exact p_Pro_string_115 (wsub hP rfl) h
  · refine bnd_zz (Z := PP P) (p_Fla_on (wsub hP rfl) h) fun r2 e2 q2 => ?_
    refine ite_z (fun _ => ?_) (fun _ => ?_)
    · exact p_Pro_string_115 (wsub hP rfl) q2
    · exact p_Pro_string_116 (wsub hP rfl) q2
set_option maxRecDepth 100000 in
set_option maxHeartbeats 4000000 in
theorem b_Pro_string_90 {l : Launch} {ad : Nat → Nat} {D : va_G} {cI : ClassId} {K : Option Value → Sg → Prop} {X : Nat → List Value → List Value → Sg → Prop} (hX : Cl l ad D cI mi_Pro_string pt_Pro K X) {σ : Sg} {x1 : Int32} {y0 : Int32} (z_y0 : y0 = 0 ∨ y0 = 1)  (hK : KI K (f_Pro_string_90 σ x1 y0)) : X 90 [.ref 12, .int x1, .null, .null] [.int y0] σ := by
  unfold f_Pro_string_90 at hK
  refine hX.1 115 I_Pro_string_90 ok_Pro_string_90 _ _ _ ?_
  refine And.intro (fun h1 => ?_) (fun h1 => ?_)
  · have hK := ite_p hK h1
    refine hX.fg [1, 2] ?_
    exact b_Pro_string_115 hX  hK
  · have hK := ite_n hK h1
    refine s_Fla_on (bnd_g hK fun r2 e2 hK => ?_)
    have z2 : r2.1 = 0 ∨ r2.1 = 1 := by rw [← e2]; exact z_Fla_on
    refine And.intro (fun h3 => ?_) (fun h3 => ?_)
    · have hK := ite_p hK h3
      refine hX.fg [1, 2] ?_
      exact b_Pro_string_115 hX  hK
    · have hK := ite_n hK h3
      refine hX.fg [1, 2] ?_
      exact b_Pro_string_116 hX (Or.inr rfl) hK
def f_Pro_string_23 (σ : Sg) (x1 : Int32) : Int32 × Sg := (if (σ 14 4) = (0 : Int32) then (bnd (f_Pro_stringOnce σ x1) fun r2 => ((1 : Int32), r2)) else (if (σ 4 (Int32.toNatClampNeg (1 : Int32))) = (0 : Int32) then ((1 : Int32), σ) else (bnd (f_Pro_stringOnce σ x1) fun r4 => bnd (up2 r4 4 (Int32.toNatClampNeg (1 : Int32)) ((r4 4 (Int32.toNatClampNeg (1 : Int32))) - (1 : Int32))) fun s5 => (if (s5 14 4) = (243 : Int32) then (f_Pro_string_90 s5 x1 (1 : Int32)) else (f_Pro_string_90 s5 x1 (0 : Int32))))))
theorem z_Pro_string_23 {σ : Sg} {x1 : Int32}   : (f_Pro_string_23 σ x1).1 = 0 ∨ (f_Pro_string_23 σ x1).1 = 1 := by
  show Zb (f_Pro_string_23 σ x1)
  unfold f_Pro_string_23
  refine ite_z (fun h1 => ?_) (fun h1 => ?_)
  · refine bnd_z fun r2 e2 => ?_
    exact (Or.inr rfl)
  · refine ite_z (fun h3 => ?_) (fun h3 => ?_)
    · exact (Or.inr rfl)
    · refine bnd_z fun r4 e4 => ?_
      refine bnd_z fun s5 e5 => ?_
      refine ite_z (fun h6 => ?_) (fun h6 => ?_)
      · exact z_Pro_string_90 (Or.inr rfl)
      · exact z_Pro_string_90 (Or.inl rfl)
abbrev w_Pro_string_23 : List (Nat × Option Nat) := [(2, none), (3, some 2), (4, none), (6, some 0)]
theorem p_Pro_string_23 {P : Sg → Prop} (hP : WP w_Pro_string_23 P) {σ : Sg} {x1 : Int32} (h : P σ) : PP P (f_Pro_string_23 σ x1) := by
  unfold f_Pro_string_23
  refine ite_z (fun _ => ?_) (fun _ => ?_)
  · refine bnd_zz (Z := P) (p_Pro_stringOnce (wsub hP rfl) h) fun r2 e2 q2 => ?_
    exact q2
  · refine ite_z (fun _ => ?_) (fun _ => ?_)
    · exact h
    · refine bnd_zz (Z := P) (p_Pro_stringOnce (wsub hP rfl) h) fun r4 e4 q4 => ?_
      refine bnd_zz (Z := P) (hP _ _ _ _ (Or.inl (by decide)) q4) fun s5 e5 q5 => ?_
      refine ite_z (fun _ => ?_) (fun _ => ?_)
      · exact p_Pro_string_90 (wsub hP rfl) q5
      · exact p_Pro_string_90 (wsub hP rfl) q5
set_option maxRecDepth 100000 in
set_option maxHeartbeats 4000000 in
theorem b_Pro_string_23 {l : Launch} {ad : Nat → Nat} {D : va_G} {cI : ClassId} {K : Option Value → Sg → Prop} {X : Nat → List Value → List Value → Sg → Prop} (hX : Cl l ad D cI mi_Pro_string pt_Pro K X) {σ : Sg} {x1 : Int32}   (hK : KI K (f_Pro_string_23 σ x1)) : X 23 [.ref 12, .int x1, .null, .null] [] σ := by
  unfold f_Pro_string_23 at hK
  refine hX.1 40 I_Pro_string_23 ok_Pro_string_23 _ _ _ ?_
  refine And.intro (fun h1 => ?_) (fun h1 => ?_)
  · have hK := ite_p hK h1
    refine s_Pro_stringOnce (bnd_g hK fun r2 e2 hK => ?_)
    exact And.intro (Or.inr rfl) hK
  · have hK := ite_n hK h1
    refine hX.1 54 I_Pro_string_40 ok_Pro_string_40 _ _ _ ?_
    refine And.intro (vin (by decide)) ?_
    refine And.intro (fun h3 => ?_) (fun h3 => ?_)
    · have hK := ite_p hK h3
      exact And.intro (Or.inr rfl) hK
    · have hK := ite_n hK h3
      refine hX.1 89 I_Pro_string_54 ok_Pro_string_54 _ _ _ ?_
      refine s_Pro_stringOnce (bnd_g hK fun r4 e4 hK => ?_)
      refine And.intro (vin (by decide)) ?_
      refine And.intro (vin (by decide)) (SG_g hK fun s5 e5 hK => ?_)
      refine And.intro (fun h6 => ?_) (fun h6 => ?_)
      · have hK := ite_p hK h6
        exact b_Pro_string_90 hX (Or.inr rfl) hK
      · have hK := ite_n hK h6
        refine hX.1 90 I_Pro_string_89 ok_Pro_string_89 _ _ _ ?_
        exact b_Pro_string_90 hX (Or.inl rfl) hK
def f_Pro_string (σ : Sg) (a1 : Int32) : Int32 × Sg := (if a1 < (164 : Int32) then ((0 : Int32), σ) else (if a1 ≤ (165 : Int32) then (f_Pro_string_23 σ a1) else (if (170 : Int32) ≤ a1 then (f_Pro_string_23 σ a1) else ((0 : Int32), σ))))
theorem z_Pro_string {σ : Sg} {a1 : Int32}   : (f_Pro_string σ a1).1 = 0 ∨ (f_Pro_string σ a1).1 = 1 := by
  show Zb (f_Pro_string σ a1)
  unfold f_Pro_string
  refine ite_z (fun h1 => ?_) (fun h1 => ?_)
  · exact (Or.inl rfl)
  · refine ite_z (fun h2 => ?_) (fun h2 => ?_)
    · exact z_Pro_string_23
    · refine ite_z (fun h3 => ?_) (fun h3 => ?_)
      · exact z_Pro_string_23
      · exact (Or.inl rfl)
abbrev w_Pro_string : List (Nat × Option Nat) := [(2, none), (3, some 2), (4, none), (6, some 0)]
theorem p_Pro_string {P : Sg → Prop} (hP : WP w_Pro_string P) {σ : Sg} {a1 : Int32} (h : P σ) : PP P (f_Pro_string σ a1) := by
  unfold f_Pro_string
  refine ite_z (fun _ => ?_) (fun _ => ?_)
  · exact h
  · refine ite_z (fun _ => ?_) (fun _ => ?_)
    · exact p_Pro_string_23 (wsub hP rfl) h
    · refine ite_z (fun _ => ?_) (fun _ => ?_)
      · exact p_Pro_string_23 (wsub hP rfl) h
      · exact h
set_option maxRecDepth 100000 in
set_option maxHeartbeats 4000000 in
theorem s_Pro_string {l : Launch} {ad : Nat → Nat} {D : va_G} {cI : ClassId} {σ : Sg} {a1 : Int32} {K : Option Value → Sg → Prop}   (hK : KI K (f_Pro_string σ a1)) : MetJ l ad D cI mi_Pro_string [.ref 12, .int a1] σ K := by
  refine met_of mi_Pro_string pt_Pro pt_Pro_in rfl pl_Pro rfl (Nat.le_of_ble_eq_true rfl) fun X hX => ?_
  have hX : Cl l ad D cI mi_Pro_string pt_Pro K X := hX
  show X 0 [.ref 12, .int a1, .null, .null] [] σ
  unfold f_Pro_string at hK
  refine hX.1 21 I_Pro_string_0 ok_Pro_string_0 _ _ _ ?_
  refine And.intro (fun h1 => ?_) (fun h1 => ?_)
  · have hK := ite_p hK h1
    refine hX.1 23 I_Pro_string_21 ok_Pro_string_21 _ _ _ ?_
    exact And.intro (Or.inl rfl) hK
  · have hK := ite_n hK h1
    refine And.intro (fun h2 => ?_) (fun h2 => ?_)
    · have hK := ite_p hK h2
      exact b_Pro_string_23 hX  hK
    · have hK := ite_n hK h2
      refine And.intro (fun h3 => ?_) (fun h3 => ?_)
      · have hK := ite_p hK h3
        exact b_Pro_string_23 hX  hK
      · have hK := ite_n hK h3
        refine hX.1 23 I_Pro_string_21 ok_Pro_string_21 _ _ _ ?_
        exact And.intro (Or.inl rfl) hK
def I_Pro_moveGiven_0 : List IT := [(0, .iload_n 1, 1, 0, 0, []), (1, .sipush 184, 3, 184, 0, []), (4, .if_icmp .lt 7, 3, 0, 11, []), (7, .iconst 1, 1, 1, 0, []), (8, .goto 4, 3, 0, 12, [])]
theorem ok_Pro_moveGiven_0 : blkOK b_Pro_moveGiven pt_Pro 11 I_Pro_moveGiven_0 = true := by decide +kernel
def I_Pro_moveGiven_11 : List IT := [(11, .iconst 0, 1, 0, 0, [])]
theorem ok_Pro_moveGiven_11 : blkOK b_Pro_moveGiven pt_Pro 12 I_Pro_moveGiven_11 = true := by decide +kernel
def I_Pro_moveGiven_12 : List IT := [(12, .istore_n 2, 1, 0, 0, []), (13, .aload_n 0, 1, 0, 0, []), (14, .getfield 13, 3, 0, 0, []), (17, .iload_n 1, 1, 0, 0, []), (18, .bipush 7, 2, 7, 0, []), (20, .iand, 1, 0, 0, []), (21, .iload_n 2, 1, 0, 0, []), (22, .aload_n 0, 1, 0, 0, []), (23, .getfield 34, 3, 0, 0, []), (26, .iload_n 2, 1, 0, 0, []), (27, .invokevirtual 126, 3, 0, 0, []), (30, .invokevirtual 137, 3, 0, 0, []), (33, .iconst 1, 1, 1, 0, []), (34, .ireturn, 1, 0, 0, [])]
theorem ok_Pro_moveGiven_12 : blkOK b_Pro_moveGiven pt_Pro 35 I_Pro_moveGiven_12 = true := by decide +kernel
def f_Pro_moveGiven_12 (σ : Sg) (x1 : Int32) (y0 : Int32) : Int32 × Sg := (bnd (f_Dec_nextOf σ y0) fun r1 => bnd (f_Reg_change r1.2 (x1 &&& (7 : Int32)) y0 r1.1) fun r2 => ((1 : Int32), r2))
theorem z_Pro_moveGiven_12 {σ : Sg} {x1 : Int32} {y0 : Int32} (z_y0 : y0 = 0 ∨ y0 = 1)  : (f_Pro_moveGiven_12 σ x1 y0).1 = 0 ∨ (f_Pro_moveGiven_12 σ x1 y0).1 = 1 := by
  show Zb (f_Pro_moveGiven_12 σ x1 y0)
  unfold f_Pro_moveGiven_12
  refine bnd_z fun r1 e1 => ?_
  refine bnd_z fun r2 e2 => ?_
  exact (Or.inr rfl)
abbrev w_Pro_moveGiven_12 : List (Nat × Option Nat) := [(3, some 2), (4, none)]
theorem p_Pro_moveGiven_12 {P : Sg → Prop} (hP : WP w_Pro_moveGiven_12 P) {σ : Sg} {x1 : Int32} {y0 : Int32} (h : P σ) : PP P (f_Pro_moveGiven_12 σ x1 y0) := by
  unfold f_Pro_moveGiven_12
  refine bnd_zz (Z := PP P) (p_Dec_nextOf (wsub hP rfl) h) fun r1 e1 q1 => ?_
  refine bnd_zz (Z := P) (p_Reg_change (wsub hP rfl) q1) fun r2 e2 q2 => ?_
  exact q2
set_option maxRecDepth 100000 in
set_option maxHeartbeats 4000000 in
theorem b_Pro_moveGiven_12 {l : Launch} {ad : Nat → Nat} {D : va_G} {cI : ClassId} {K : Option Value → Sg → Prop} {X : Nat → List Value → List Value → Sg → Prop} (hX : Cl l ad D cI mi_Pro_moveGiven pt_Pro K X) {σ : Sg} {x1 : Int32} {y0 : Int32} (z_y0 : y0 = 0 ∨ y0 = 1)  (hK : KI K (f_Pro_moveGiven_12 σ x1 y0)) : X 12 [.ref 12, .int x1, .null] [.int y0] σ := by
  unfold f_Pro_moveGiven_12 at hK
  refine hX.1 35 I_Pro_moveGiven_12 ok_Pro_moveGiven_12 _ _ _ ?_
  refine s_Dec_nextOf (bnd_g hK fun r1 e1 hK => ?_)
  refine s_Reg_change (bnd_g hK fun r2 e2 hK => ?_)
  exact And.intro (Or.inr rfl) hK
def f_Pro_moveGiven (σ : Sg) (a1 : Int32) : Int32 × Sg := (if a1 < (184 : Int32) then (f_Pro_moveGiven_12 σ a1 (0 : Int32)) else (f_Pro_moveGiven_12 σ a1 (1 : Int32)))
theorem z_Pro_moveGiven {σ : Sg} {a1 : Int32}   : (f_Pro_moveGiven σ a1).1 = 0 ∨ (f_Pro_moveGiven σ a1).1 = 1 := by
  show Zb (f_Pro_moveGiven σ a1)
  unfold f_Pro_moveGiven
  refine ite_z (fun h1 => ?_) (fun h1 => ?_)
  · exact z_Pro_moveGiven_12 (Or.inl rfl)
  · exact z_Pro_moveGiven_12 (Or.inr rfl)
abbrev w_Pro_moveGiven : List (Nat × Option Nat) := [(3, some 2), (4, none)]
theorem p_Pro_moveGiven {P : Sg → Prop} (hP : WP w_Pro_moveGiven P) {σ : Sg} {a1 : Int32} (h : P σ) : PP P (f_Pro_moveGiven σ a1) := by
  unfold f_Pro_moveGiven
  refine ite_z (fun _ => ?_) (fun _ => ?_)
  · exact p_Pro_moveGiven_12 (wsub hP rfl) h
  · exact p_Pro_moveGiven_12 (wsub hP rfl) h
set_option maxRecDepth 100000 in
set_option maxHeartbeats 4000000 in
theorem s_Pro_moveGiven {l : Launch} {ad : Nat → Nat} {D : va_G} {cI : ClassId} {σ : Sg} {a1 : Int32} {K : Option Value → Sg → Prop}   (hK : KI K (f_Pro_moveGiven σ a1)) : MetJ l ad D cI mi_Pro_moveGiven [.ref 12, .int a1] σ K := by
  refine met_of mi_Pro_moveGiven pt_Pro pt_Pro_in rfl pl_Pro rfl (Nat.le_of_ble_eq_true rfl) fun X hX => ?_
  have hX : Cl l ad D cI mi_Pro_moveGiven pt_Pro K X := hX
  show X 0 [.ref 12, .int a1, .null] [] σ
  unfold f_Pro_moveGiven at hK
  refine hX.1 11 I_Pro_moveGiven_0 ok_Pro_moveGiven_0 _ _ _ ?_
  refine And.intro (fun h1 => ?_) (fun h1 => ?_)
  · have hK := ite_p hK h1
    refine hX.1 12 I_Pro_moveGiven_11 ok_Pro_moveGiven_11 _ _ _ ?_
    exact b_Pro_moveGiven_12 hX (Or.inl rfl) hK
  · have hK := ite_n hK h1
    exact b_Pro_moveGiven_12 hX (Or.inr rfl) hK
def I_Pro_leave_0 : List IT := [(0, .iload_n 1, 1, 0, 0, []), (1, .sipush 195, 3, 195, 0, []), (4, .if_icmp .ne 17, 3, 0, 21, []), (7, .aload_n 0, 1, 0, 0, []), (8, .getfield 13, 3, 0, 0, []), (11, .aload_n 0, 1, 0, 0, []), (12, .invokevirtual 163, 3, 0, 0, []), (15, .putfield 78, 3, 0, 0, []), (18, .goto 75, 3, 0, 93, [])]
theorem ok_Pro_leave_0 : blkOK b_Pro_leave pt_Pro 21 I_Pro_leave_0 = true := by decide +kernel
def I_Pro_leave_21 : List IT := [(21, .iload_n 1, 1, 0, 0, []), (22, .sipush 205, 3, 205, 0, []), (25, .if_icmp .ne 17, 3, 0, 42, []), (28, .aload_n 0, 1, 0, 0, []), (29, .aload_n 0, 1, 0, 0, []), (30, .getfield 34, 3, 0, 0, []), (33, .invokevirtual 213, 3, 0, 0, []), (36, .invokevirtual 61, 3, 0, 0, []), (39, .goto 54, 3, 0, 93, [])]
theorem ok_Pro_leave_21 : blkOK b_Pro_leave pt_Pro 42 I_Pro_leave_21 = true := by decide +kernel
def I_Pro_leave_42 : List IT := [(42, .iload_n 1, 1, 0, 0, []), (43, .sipush 207, 3, 207, 0, []), (46, .if_icmp .ne 45, 3, 0, 91, []), (49, .aload_n 0, 1, 0, 0, []), (50, .getfield 13, 3, 0, 0, []), (53, .aload_n 0, 1, 0, 0, []), (54, .invokevirtual 163, 3, 0, 0, []), (57, .putfield 78, 3, 0, 0, []), (60, .aload_n 0, 1, 0, 0, []), (61, .getfield 13, 3, 0, 0, []), (64, .getfield 156, 3, 0, 0, []), (67, .iconst 1, 1, 1, 0, []), (68, .aload_n 0, 1, 0, 0, []), (69, .invokevirtual 163, 3, 0, 0, []), (72, .iastore, 1, 0, 0, []), (73, .aload_n 0, 1, 0, 0, []), (74, .getfield 17, 3, 0, 0, []), (77, .aload_n 0, 1, 0, 0, []), (78, .invokevirtual 163, 3, 0, 0, []), (81, .sipush 3777, 3, 3777, 0, []), (84, .iand, 1, 0, 0, []), (85, .putfield 216, 3, 0, 0, []), (88, .goto 5, 3, 0, 93, [])]
theorem ok_Pro_leave_42 : blkOK b_Pro_leave pt_Pro 91 I_Pro_leave_42 = true := by decide +kernel
def I_Pro_leave_91 : List IT := [(91, .iconst 0, 1, 0, 0, []), (92, .ireturn, 1, 0, 0, [])]
theorem ok_Pro_leave_91 : blkOK b_Pro_leave pt_Pro 93 I_Pro_leave_91 = true := by decide +kernel
def I_Pro_leave_93 : List IT := [(93, .iconst 1, 1, 1, 0, []), (94, .ireturn, 1, 0, 0, [])]
theorem ok_Pro_leave_93 : blkOK b_Pro_leave pt_Pro 95 I_Pro_leave_93 = true := by decide +kernel
def f_Pro_leave (σ : Sg) (a1 : Int32) : Int32 × Sg := (if a1 = (195 : Int32) then (bnd (f_Pro_pop σ) fun r2 => bnd (up2 r2.2 3 2 r2.1) fun s3 => ((1 : Int32), s3)) else (if a1 = (205 : Int32) then (bnd (f_Dec_nextByte σ) fun r5 => bnd (f_Pro_interrupt r5.2 r5.1) fun r6 => ((1 : Int32), r6)) else (if a1 = (207 : Int32) then (bnd (f_Pro_pop σ) fun r8 => bnd (up2 r8.2 3 2 r8.1) fun s9 => bnd (f_Pro_pop s9) fun r10 => bnd (up2 r10.2 5 (Int32.toNatClampNeg (1 : Int32)) r10.1) fun s11 => bnd (f_Pro_pop s11) fun r12 => bnd (up2 r12.2 6 0 (r12.1 &&& (3777 : Int32))) fun s13 => ((1 : Int32), s13)) else ((0 : Int32), σ))))
theorem z_Pro_leave {σ : Sg} {a1 : Int32}   : (f_Pro_leave σ a1).1 = 0 ∨ (f_Pro_leave σ a1).1 = 1 := by
  show Zb (f_Pro_leave σ a1)
  unfold f_Pro_leave
  refine ite_z (fun h1 => ?_) (fun h1 => ?_)
  · refine bnd_z fun r2 e2 => ?_
    refine bnd_z fun s3 e3 => ?_
    exact (Or.inr rfl)
  · refine ite_z (fun h4 => ?_) (fun h4 => ?_)
    · refine bnd_z fun r5 e5 => ?_
      refine bnd_z fun r6 e6 => ?_
      exact (Or.inr rfl)
    · refine ite_z (fun h7 => ?_) (fun h7 => ?_)
      · refine bnd_z fun r8 e8 => ?_
        refine bnd_z fun s9 e9 => ?_
        refine bnd_z fun r10 e10 => ?_
        refine bnd_z fun s11 e11 => ?_
        refine bnd_z fun r12 e12 => ?_
        refine bnd_z fun s13 e13 => ?_
        exact (Or.inr rfl)
      · exact (Or.inl rfl)
abbrev w_Pro_leave : List (Nat × Option Nat) := [(2, none), (3, some 2), (4, none), (5, none), (6, some 0), (12, some 7)]
theorem p_Pro_leave {P : Sg → Prop} (hP : WP w_Pro_leave P) {σ : Sg} {a1 : Int32} (h : P σ) : PP P (f_Pro_leave σ a1) := by
  unfold f_Pro_leave
  refine ite_z (fun _ => ?_) (fun _ => ?_)
  · refine bnd_zz (Z := PP P) (p_Pro_pop (wsub hP rfl) h) fun r2 e2 q2 => ?_
    refine bnd_zz (Z := P) (hP _ _ _ _ (Or.inr (by decide)) q2) fun s3 e3 q3 => ?_
    exact q3
  · refine ite_z (fun _ => ?_) (fun _ => ?_)
    · refine bnd_zz (Z := PP P) (p_Dec_nextByte (wsub hP rfl) h) fun r5 e5 q5 => ?_
      refine bnd_zz (Z := P) (p_Pro_interrupt (wsub hP rfl) q5) fun r6 e6 q6 => ?_
      exact q6
    · refine ite_z (fun _ => ?_) (fun _ => ?_)
      · refine bnd_zz (Z := PP P) (p_Pro_pop (wsub hP rfl) h) fun r8 e8 q8 => ?_
        refine bnd_zz (Z := P) (hP _ _ _ _ (Or.inr (by decide)) q8) fun s9 e9 q9 => ?_
        refine bnd_zz (Z := PP P) (p_Pro_pop (wsub hP rfl) q9) fun r10 e10 q10 => ?_
        refine bnd_zz (Z := P) (hP _ _ _ _ (Or.inl (by decide)) q10) fun s11 e11 q11 => ?_
        refine bnd_zz (Z := PP P) (p_Pro_pop (wsub hP rfl) q11) fun r12 e12 q12 => ?_
        refine bnd_zz (Z := P) (hP _ _ _ _ (Or.inr (by decide)) q12) fun s13 e13 q13 => ?_
        exact q13
      · exact h
set_option maxRecDepth 100000 in
set_option maxHeartbeats 4000000 in
theorem s_Pro_leave {l : Launch} {ad : Nat → Nat} {D : va_G} {cI : ClassId} {σ : Sg} {a1 : Int32} {K : Option Value → Sg → Prop}   (hK : KI K (f_Pro_leave σ a1)) : MetJ l ad D cI mi_Pro_leave [.ref 12, .int a1] σ K := by
  refine met_of mi_Pro_leave pt_Pro pt_Pro_in rfl pl_Pro rfl (Nat.le_of_ble_eq_true rfl) fun X hX => ?_
  have hX : Cl l ad D cI mi_Pro_leave pt_Pro K X := hX
  show X 0 [.ref 12, .int a1] [] σ
  unfold f_Pro_leave at hK
  refine hX.1 21 I_Pro_leave_0 ok_Pro_leave_0 _ _ _ ?_
  refine And.intro (fun h1 => ?_) (fun h1 => ?_)
  · have hK := ite_p hK h1
    refine s_Pro_pop (bnd_g hK fun r2 e2 hK => ?_)
    refine And.intro trivial (SG_g hK fun s3 e3 hK => ?_)
    refine hX.1 95 I_Pro_leave_93 ok_Pro_leave_93 _ _ _ ?_
    exact And.intro (Or.inr rfl) hK
  · have hK := ite_n hK h1
    refine hX.1 42 I_Pro_leave_21 ok_Pro_leave_21 _ _ _ ?_
    refine And.intro (fun h4 => ?_) (fun h4 => ?_)
    · have hK := ite_p hK h4
      refine s_Dec_nextByte (bnd_g hK fun r5 e5 hK => ?_)
      refine s_Pro_interrupt (bnd_g hK fun r6 e6 hK => ?_)
      refine hX.1 95 I_Pro_leave_93 ok_Pro_leave_93 _ _ _ ?_
      exact And.intro (Or.inr rfl) hK
    · have hK := ite_n hK h4
      refine hX.1 91 I_Pro_leave_42 ok_Pro_leave_42 _ _ _ ?_
      refine And.intro (fun h7 => ?_) (fun h7 => ?_)
      · have hK := ite_p hK h7
        refine s_Pro_pop (bnd_g hK fun r8 e8 hK => ?_)
        refine And.intro trivial (SG_g hK fun s9 e9 hK => ?_)
        refine s_Pro_pop (bnd_g hK fun r10 e10 hK => ?_)
        refine And.intro (vin (by decide)) (SG_g hK fun s11 e11 hK => ?_)
        refine s_Pro_pop (bnd_g hK fun r12 e12 hK => ?_)
        refine And.intro trivial (SG_g hK fun s13 e13 hK => ?_)
        refine hX.1 95 I_Pro_leave_93 ok_Pro_leave_93 _ _ _ ?_
        exact And.intro (Or.inr rfl) hK
      · have hK := ite_n hK h7
        refine hX.1 93 I_Pro_leave_91 ok_Pro_leave_91 _ _ _ ?_
        exact And.intro (Or.inl rfl) hK
def I_Pro_loop_0 : List IT := [(0, .aload_n 0, 1, 0, 0, []), (1, .getfield 13, 3, 0, 0, []), (4, .getfield 166, 3, 0, 0, []), (7, .iconst 1, 1, 1, 0, []), (8, .iaload, 1, 0, 0, []), (9, .iconst 1, 1, 1, 0, []), (10, .isub, 1, 0, 0, []), (11, .ldc 155, 2, 65535, 0, []), (13, .iand, 1, 0, 0, []), (14, .istore_n 2, 1, 0, 0, []), (15, .aload_n 0, 1, 0, 0, []), (16, .getfield 13, 3, 0, 0, []), (19, .getfield 166, 3, 0, 0, []), (22, .iconst 1, 1, 1, 0, []), (23, .iload_n 2, 1, 0, 0, []), (24, .iastore, 1, 0, 0, []), (25, .iload_n 2, 1, 0, 0, []), (26, .ifCond .eq 11, 3, 0, 37, []), (29, .aload_n 0, 1, 0, 0, []), (30, .getfield 13, 3, 0, 0, []), (33, .iload_n 1, 1, 0, 0, []), (34, .invokevirtual 178, 3, 0, 0, [])]
theorem ok_Pro_loop_0 : blkOK b_Pro_loop pt_Pro 37 I_Pro_loop_0 = true := by decide +kernel
def I_Pro_loop_37 : List IT := [(37, .return_, 1, 0, 0, [])]
theorem ok_Pro_loop_37 : blkOK b_Pro_loop pt_Pro 38 I_Pro_loop_37 = true := by decide +kernel
def f_Pro_loop (σ : Sg) (a1 : Int32) : Sg := (bnd (up2 σ 4 (Int32.toNatClampNeg (1 : Int32)) (((σ 4 (Int32.toNatClampNeg (1 : Int32))) - (1 : Int32)) &&& (65535 : Int32))) fun s1 => (if (((σ 4 (Int32.toNatClampNeg (1 : Int32))) - (1 : Int32)) &&& (65535 : Int32)) = (0 : Int32) then s1 else (bnd (f_Reg_jump s1 a1) fun r3 => r3)))
abbrev w_Pro_loop : List (Nat × Option Nat) := [(3, some 2), (4, none)]
theorem p_Pro_loop {P : Sg → Prop} (hP : WP w_Pro_loop P) {σ : Sg} {a1 : Int32} (h : P σ) : P (f_Pro_loop σ a1) := by
  unfold f_Pro_loop
  refine bnd_zz (Z := P) (hP _ _ _ _ (Or.inl (by decide)) h) fun s1 e1 q1 => ?_
  refine ite_z (fun _ => ?_) (fun _ => ?_)
  · exact q1
  · refine bnd_zz (Z := P) (p_Reg_jump (wsub hP rfl) q1) fun r3 e3 q3 => ?_
    exact q3
set_option maxRecDepth 100000 in
set_option maxHeartbeats 4000000 in
theorem s_Pro_loop {l : Launch} {ad : Nat → Nat} {D : va_G} {cI : ClassId} {σ : Sg} {a1 : Int32} {K : Option Value → Sg → Prop}   (hK : KV K (f_Pro_loop σ a1)) : MetJ l ad D cI mi_Pro_loop [.ref 12, .int a1] σ K := by
  refine met_of mi_Pro_loop pt_Pro pt_Pro_in rfl pl_Pro rfl (Nat.le_of_ble_eq_true rfl) fun X hX => ?_
  have hX : Cl l ad D cI mi_Pro_loop pt_Pro K X := hX
  show X 0 [.ref 12, .int a1, .null] [] σ
  unfold f_Pro_loop at hK
  refine hX.1 37 I_Pro_loop_0 ok_Pro_loop_0 _ _ _ ?_
  refine And.intro (vin (by decide)) ?_
  refine And.intro (vin (by decide)) (SG_g hK fun s1 e1 hK => ?_)
  refine And.intro (fun h2 => ?_) (fun h2 => ?_)
  · have hK := ite_p hK h2
    refine hX.1 38 I_Pro_loop_37 ok_Pro_loop_37 _ _ _ ?_
    exact hK
  · have hK := ite_n hK h2
    refine s_Reg_jump (bnd_g hK fun r3 e3 hK => ?_)
    refine hX.1 38 I_Pro_loop_37 ok_Pro_loop_37 _ _ _ ?_
    exact hK
def I_Pro_visit_0 : List IT := [(0, .aload_n 0, 1, 0, 0, []), (1, .aload_n 0, 1, 0, 0, []), (2, .getfield 13, 3, 0, 0, []), (5, .getfield 78, 3, 0, 0, []), (8, .invokevirtual 160, 3, 0, 0, []), (11, .aload_n 0, 1, 0, 0, []), (12, .getfield 13, 3, 0, 0, []), (15, .iload_n 1, 1, 0, 0, []), (16, .invokevirtual 178, 3, 0, 0, []), (19, .return_, 1, 0, 0, [])]
theorem ok_Pro_visit_0 : blkOK b_Pro_visit pt_Pro 20 I_Pro_visit_0 = true := by decide +kernel
def f_Pro_visit (σ : Sg) (a1 : Int32) : Sg := (bnd (f_Pro_push σ (σ 3 2)) fun r1 => bnd (f_Reg_jump r1 a1) fun r2 => r2)
abbrev w_Pro_visit : List (Nat × Option Nat) := [(2, none), (3, some 2), (4, none)]
theorem p_Pro_visit {P : Sg → Prop} (hP : WP w_Pro_visit P) {σ : Sg} {a1 : Int32} (h : P σ) : P (f_Pro_visit σ a1) := by
  unfold f_Pro_visit
  refine bnd_zz (Z := P) (p_Pro_push (wsub hP rfl) h) fun r1 e1 q1 => ?_
  refine bnd_zz (Z := P) (p_Reg_jump (wsub hP rfl) q1) fun r2 e2 q2 => ?_
  exact q2
set_option maxRecDepth 100000 in
set_option maxHeartbeats 4000000 in
theorem s_Pro_visit {l : Launch} {ad : Nat → Nat} {D : va_G} {cI : ClassId} {σ : Sg} {a1 : Int32} {K : Option Value → Sg → Prop}   (hK : KV K (f_Pro_visit σ a1)) : MetJ l ad D cI mi_Pro_visit [.ref 12, .int a1] σ K := by
  refine met_of mi_Pro_visit pt_Pro pt_Pro_in rfl pl_Pro rfl (Nat.le_of_ble_eq_true rfl) fun X hX => ?_
  have hX : Cl l ad D cI mi_Pro_visit pt_Pro K X := hX
  show X 0 [.ref 12, .int a1] [] σ
  unfold f_Pro_visit at hK
  refine hX.1 20 I_Pro_visit_0 ok_Pro_visit_0 _ _ _ ?_
  refine s_Pro_push (bnd_g hK fun r1 e1 hK => ?_)
  refine s_Reg_jump (bnd_g hK fun r2 e2 hK => ?_)
  exact hK
end
section
def I_Pro_jumpOrPort_0 : List IT := [(0, .iload_n 1, 1, 0, 0, []), (1, .tableswitch 163 226 235 #[55, 163, 68, 163, 93, 163, 118, 131, 163, 147], 55, 0, 164, [(226, 56), (227, 164), (228, 69), (229, 164), (230, 94), (231, 164), (232, 119), (233, 132), (234, 164), (235, 148)])]
theorem ok_Pro_jumpOrPort_0 : blkOK b_Pro_jumpOrPort pt_Pro 56 I_Pro_jumpOrPort_0 = true := by decide +kernel
def I_Pro_jumpOrPort_56 : List IT := [(56, .aload_n 0, 1, 0, 0, []), (57, .aload_n 0, 1, 0, 0, []), (58, .getfield 34, 3, 0, 0, []), (61, .invokevirtual 152, 3, 0, 0, []), (64, .invokevirtual 219, 3, 0, 0, []), (67, .iconst 1, 1, 1, 0, []), (68, .ireturn, 1, 0, 0, [])]
theorem ok_Pro_jumpOrPort_56 : blkOK b_Pro_jumpOrPort pt_Pro 69 I_Pro_jumpOrPort_56 = true := by decide +kernel
def I_Pro_jumpOrPort_69 : List IT := [(69, .aload_n 0, 1, 0, 0, []), (70, .getfield 13, 3, 0, 0, []), (73, .iconst 0, 1, 0, 0, []), (74, .iconst 0, 1, 0, 0, []), (75, .aload_n 0, 1, 0, 0, []), (76, .getfield 25, 3, 0, 0, []), (79, .aload_n 0, 1, 0, 0, []), (80, .getfield 34, 3, 0, 0, []), (83, .invokevirtual 213, 3, 0, 0, []), (86, .invokevirtual 222, 3, 0, 0, []), (89, .invokevirtual 137, 3, 0, 0, []), (92, .iconst 1, 1, 1, 0, []), (93, .ireturn, 1, 0, 0, [])]
theorem ok_Pro_jumpOrPort_69 : blkOK b_Pro_jumpOrPort pt_Pro 94 I_Pro_jumpOrPort_69 = true := by decide +kernel
def I_Pro_jumpOrPort_94 : List IT := [(94, .aload_n 0, 1, 0, 0, []), (95, .getfield 25, 3, 0, 0, []), (98, .aload_n 0, 1, 0, 0, []), (99, .getfield 34, 3, 0, 0, []), (102, .invokevirtual 213, 3, 0, 0, []), (105, .aload_n 0, 1, 0, 0, []), (106, .getfield 13, 3, 0, 0, []), (109, .iconst 0, 1, 0, 0, []), (110, .iconst 0, 1, 0, 0, []), (111, .invokevirtual 130, 3, 0, 0, []), (114, .invokevirtual 227, 3, 0, 0, []), (117, .iconst 1, 1, 1, 0, []), (118, .ireturn, 1, 0, 0, [])]
theorem ok_Pro_jumpOrPort_94 : blkOK b_Pro_jumpOrPort pt_Pro 119 I_Pro_jumpOrPort_94 = true := by decide +kernel
def I_Pro_jumpOrPort_119 : List IT := [(119, .aload_n 0, 1, 0, 0, []), (120, .aload_n 0, 1, 0, 0, []), (121, .getfield 34, 3, 0, 0, []), (124, .invokevirtual 231, 3, 0, 0, []), (127, .invokevirtual 234, 3, 0, 0, []), (130, .iconst 1, 1, 1, 0, []), (131, .ireturn, 1, 0, 0, [])]
theorem ok_Pro_jumpOrPort_119 : blkOK b_Pro_jumpOrPort pt_Pro 132 I_Pro_jumpOrPort_119 = true := by decide +kernel
def I_Pro_jumpOrPort_132 : List IT := [(132, .aload_n 0, 1, 0, 0, []), (133, .getfield 13, 3, 0, 0, []), (136, .aload_n 0, 1, 0, 0, []), (137, .getfield 34, 3, 0, 0, []), (140, .invokevirtual 231, 3, 0, 0, []), (143, .invokevirtual 178, 3, 0, 0, []), (146, .iconst 1, 1, 1, 0, []), (147, .ireturn, 1, 0, 0, [])]
theorem ok_Pro_jumpOrPort_132 : blkOK b_Pro_jumpOrPort pt_Pro 148 I_Pro_jumpOrPort_132 = true := by decide +kernel
def I_Pro_jumpOrPort_148 : List IT := [(148, .aload_n 0, 1, 0, 0, []), (149, .getfield 13, 3, 0, 0, []), (152, .aload_n 0, 1, 0, 0, []), (153, .getfield 34, 3, 0, 0, []), (156, .invokevirtual 152, 3, 0, 0, []), (159, .invokevirtual 178, 3, 0, 0, []), (162, .iconst 1, 1, 1, 0, []), (163, .ireturn, 1, 0, 0, [])]
theorem ok_Pro_jumpOrPort_148 : blkOK b_Pro_jumpOrPort pt_Pro 164 I_Pro_jumpOrPort_148 = true := by decide +kernel
def I_Pro_jumpOrPort_164 : List IT := [(164, .iconst 0, 1, 0, 0, []), (165, .ireturn, 1, 0, 0, [])]
theorem ok_Pro_jumpOrPort_164 : blkOK b_Pro_jumpOrPort pt_Pro 166 I_Pro_jumpOrPort_164 = true := by decide +kernel
def f_Pro_jumpOrPort (σ : Sg) (a1 : Int32) : Int32 × Sg := (if a1 = (226 : Int32) then (bnd (f_Dec_nextSigned σ) fun r2 => bnd (f_Pro_loop r2.2 r2.1) fun r3 => ((1 : Int32), r3)) else (if a1 = (227 : Int32) then ((0 : Int32), σ) else (if a1 = (228 : Int32) then (bnd (f_Dec_nextByte σ) fun r6 => bnd (f_Por_answer r6.2 r6.1) fun r7 => bnd (f_Reg_change r7.2 (0 : Int32) (0 : Int32) r7.1) fun r8 => ((1 : Int32), r8)) else (if a1 = (229 : Int32) then ((0 : Int32), σ) else (if a1 = (230 : Int32) then (bnd (f_Dec_nextByte σ) fun r11 => bnd (f_Reg_value r11.2 (0 : Int32) (0 : Int32)) fun r12 => bnd (f_Por_get r12.2 r11.1 r12.1) fun r13 => ((1 : Int32), r13)) else (if a1 = (231 : Int32) then ((0 : Int32), σ) else (if a1 = (232 : Int32) then (bnd (f_Dec_nextWord σ) fun r16 => bnd (f_Pro_visit r16.2 r16.1) fun r17 => ((1 : Int32), r17)) else (if a1 = (233 : Int32) then (bnd (f_Dec_nextWord σ) fun r19 => bnd (f_Reg_jump r19.2 r19.1) fun r20 => ((1 : Int32), r20)) else (if a1 = (234 : Int32) then ((0 : Int32), σ) else (if a1 = (235 : Int32) then (bnd (f_Dec_nextSigned σ) fun r23 => bnd (f_Reg_jump r23.2 r23.1) fun r24 => ((1 : Int32), r24)) else ((0 : Int32), σ)))))))))))
theorem z_Pro_jumpOrPort {σ : Sg} {a1 : Int32}   : (f_Pro_jumpOrPort σ a1).1 = 0 ∨ (f_Pro_jumpOrPort σ a1).1 = 1 := by
  show Zb (f_Pro_jumpOrPort σ a1)
  unfold f_Pro_jumpOrPort
  refine ite_z (fun h1 => ?_) (fun h1 => ?_)
  · refine bnd_z fun r2 e2 => ?_
    refine bnd_z fun r3 e3 => ?_
    exact (Or.inr rfl)
  refine ite_z (fun h4 => ?_) (fun h4 => ?_)
  · exact (Or.inl rfl)
  refine ite_z (fun h5 => ?_) (fun h5 => ?_)
  · refine bnd_z fun r6 e6 => ?_
    refine bnd_z fun r7 e7 => ?_
    refine bnd_z fun r8 e8 => ?_
    exact (Or.inr rfl)
  refine ite_z (fun h9 => ?_) (fun h9 => ?_)
  · exact (Or.inl rfl)
  refine ite_z (fun h10 => ?_) (fun h10 => ?_)
  · refine bnd_z fun r11 e11 => ?_
    refine bnd_z fun r12 e12 => ?_
    refine bnd_z fun r13 e13 => ?_
    exact (Or.inr rfl)
  refine ite_z (fun h14 => ?_) (fun h14 => ?_)
  · exact (Or.inl rfl)
  refine ite_z (fun h15 => ?_) (fun h15 => ?_)
  · refine bnd_z fun r16 e16 => ?_
    refine bnd_z fun r17 e17 => ?_
    exact (Or.inr rfl)
  refine ite_z (fun h18 => ?_) (fun h18 => ?_)
  · refine bnd_z fun r19 e19 => ?_
    refine bnd_z fun r20 e20 => ?_
    exact (Or.inr rfl)
  refine ite_z (fun h21 => ?_) (fun h21 => ?_)
  · exact (Or.inl rfl)
  refine ite_z (fun h22 => ?_) (fun h22 => ?_)
  · refine bnd_z fun r23 e23 => ?_
    refine bnd_z fun r24 e24 => ?_
    exact (Or.inr rfl)
  exact (Or.inl rfl)
abbrev w_Pro_jumpOrPort : List (Nat × Option Nat) := [(2, none), (3, some 2), (4, none), (7, some 0), (7, some 1), (7, some 2), (7, some 3), (8, some 1), (8, some 2), (8, some 3), (8, some 4), (8, some 5), (8, some 6), (9, some 2), (10, none), (11, some 2), (11, some 3), (11, some 4), (11, some 5), (11, some 6), (11, some 7)]
theorem p_Pro_jumpOrPort {P : Sg → Prop} (hP : WP w_Pro_jumpOrPort P) {σ : Sg} {a1 : Int32} (h : P σ) : PP P (f_Pro_jumpOrPort σ a1) := by
  unfold f_Pro_jumpOrPort
  refine ite_z (fun _ => ?_) (fun _ => ?_)
  · refine bnd_zz (Z := PP P) (p_Dec_nextSigned (wsub hP rfl) h) fun r2 e2 q2 => ?_
    refine bnd_zz (Z := P) (p_Pro_loop (wsub hP rfl) q2) fun r3 e3 q3 => ?_
    exact q3
  refine ite_z (fun _ => ?_) (fun _ => ?_)
  · exact h
  refine ite_z (fun _ => ?_) (fun _ => ?_)
  · refine bnd_zz (Z := PP P) (p_Dec_nextByte (wsub hP rfl) h) fun r6 e6 q6 => ?_
    refine bnd_zz (Z := PP P) (p_Por_answer (wsub hP rfl) q6) fun r7 e7 q7 => ?_
    refine bnd_zz (Z := P) (p_Reg_change (wsub hP rfl) q7) fun r8 e8 q8 => ?_
    exact q8
  refine ite_z (fun _ => ?_) (fun _ => ?_)
  · exact h
  refine ite_z (fun _ => ?_) (fun _ => ?_)
  · refine bnd_zz (Z := PP P) (p_Dec_nextByte (wsub hP rfl) h) fun r11 e11 q11 => ?_
    refine bnd_zz (Z := PP P) (p_Reg_value (wsub hP rfl) q11) fun r12 e12 q12 => ?_
    refine bnd_zz (Z := P) (p_Por_get (wsub hP rfl) q12) fun r13 e13 q13 => ?_
    exact q13
  refine ite_z (fun _ => ?_) (fun _ => ?_)
  · exact h
  refine ite_z (fun _ => ?_) (fun _ => ?_)
  · refine bnd_zz (Z := PP P) (p_Dec_nextWord (wsub hP rfl) h) fun r16 e16 q16 => ?_
    refine bnd_zz (Z := P) (p_Pro_visit (wsub hP rfl) q16) fun r17 e17 q17 => ?_
    exact q17
  refine ite_z (fun _ => ?_) (fun _ => ?_)
  · refine bnd_zz (Z := PP P) (p_Dec_nextWord (wsub hP rfl) h) fun r19 e19 q19 => ?_
    refine bnd_zz (Z := P) (p_Reg_jump (wsub hP rfl) q19) fun r20 e20 q20 => ?_
    exact q20
  refine ite_z (fun _ => ?_) (fun _ => ?_)
  · exact h
  refine ite_z (fun _ => ?_) (fun _ => ?_)
  · refine bnd_zz (Z := PP P) (p_Dec_nextSigned (wsub hP rfl) h) fun r23 e23 q23 => ?_
    refine bnd_zz (Z := P) (p_Reg_jump (wsub hP rfl) q23) fun r24 e24 q24 => ?_
    exact q24
  exact h
set_option maxRecDepth 100000 in
set_option maxHeartbeats 4000000 in
theorem s_Pro_jumpOrPort {l : Launch} {ad : Nat → Nat} {D : va_G} {cI : ClassId} {σ : Sg} {a1 : Int32} {K : Option Value → Sg → Prop}   (hK : KI K (f_Pro_jumpOrPort σ a1)) : MetJ l ad D cI mi_Pro_jumpOrPort [.ref 12, .int a1] σ K := by
  refine met_of mi_Pro_jumpOrPort pt_Pro pt_Pro_in rfl pl_Pro rfl (Nat.le_of_ble_eq_true rfl) fun X hX => ?_
  have hX : Cl l ad D cI mi_Pro_jumpOrPort pt_Pro K X := hX
  show X 0 [.ref 12, .int a1] [] σ
  unfold f_Pro_jumpOrPort at hK
  refine hX.1 56 I_Pro_jumpOrPort_0 ok_Pro_jumpOrPort_0 _ _ _ ?_
  refine And.intro (fun h1 => ?_) (fun h1 => ?_)
  · have hK := ite_p hK h1
    refine hX.1 69 I_Pro_jumpOrPort_56 ok_Pro_jumpOrPort_56 _ _ _ ?_
    refine s_Dec_nextSigned (bnd_g hK fun r2 e2 hK => ?_)
    refine s_Pro_loop (bnd_g hK fun r3 e3 hK => ?_)
    exact And.intro (Or.inr rfl) hK
  have hK := ite_n hK h1
  refine And.intro (fun h4 => ?_) (fun h4 => ?_)
  · have hK := ite_p hK h4
    refine hX.1 166 I_Pro_jumpOrPort_164 ok_Pro_jumpOrPort_164 _ _ _ ?_
    exact And.intro (Or.inl rfl) hK
  have hK := ite_n hK h4
  refine And.intro (fun h5 => ?_) (fun h5 => ?_)
  · have hK := ite_p hK h5
    refine hX.1 94 I_Pro_jumpOrPort_69 ok_Pro_jumpOrPort_69 _ _ _ ?_
    refine s_Dec_nextByte (bnd_g hK fun r6 e6 hK => ?_)
    refine s_Por_answer (bnd_g hK fun r7 e7 hK => ?_)
    refine s_Reg_change (bnd_g hK fun r8 e8 hK => ?_)
    exact And.intro (Or.inr rfl) hK
  have hK := ite_n hK h5
  refine And.intro (fun h9 => ?_) (fun h9 => ?_)
  · have hK := ite_p hK h9
    refine hX.1 166 I_Pro_jumpOrPort_164 ok_Pro_jumpOrPort_164 _ _ _ ?_
    exact And.intro (Or.inl rfl) hK
  have hK := ite_n hK h9
  refine And.intro (fun h10 => ?_) (fun h10 => ?_)
  · have hK := ite_p hK h10
    refine hX.1 119 I_Pro_jumpOrPort_94 ok_Pro_jumpOrPort_94 _ _ _ ?_
    refine s_Dec_nextByte (bnd_g hK fun r11 e11 hK => ?_)
    refine s_Reg_value (bnd_g hK fun r12 e12 hK => ?_)
    refine s_Por_get (bnd_g hK fun r13 e13 hK => ?_)
    exact And.intro (Or.inr rfl) hK
  have hK := ite_n hK h10
  refine And.intro (fun h14 => ?_) (fun h14 => ?_)
  · have hK := ite_p hK h14
    refine hX.1 166 I_Pro_jumpOrPort_164 ok_Pro_jumpOrPort_164 _ _ _ ?_
    exact And.intro (Or.inl rfl) hK
  have hK := ite_n hK h14
  refine And.intro (fun h15 => ?_) (fun h15 => ?_)
  · have hK := ite_p hK h15
    refine hX.1 132 I_Pro_jumpOrPort_119 ok_Pro_jumpOrPort_119 _ _ _ ?_
    refine s_Dec_nextWord (bnd_g hK fun r16 e16 hK => ?_)
    refine s_Pro_visit (bnd_g hK fun r17 e17 hK => ?_)
    exact And.intro (Or.inr rfl) hK
  have hK := ite_n hK h15
  refine And.intro (fun h18 => ?_) (fun h18 => ?_)
  · have hK := ite_p hK h18
    refine hX.1 148 I_Pro_jumpOrPort_132 ok_Pro_jumpOrPort_132 _ _ _ ?_
    refine s_Dec_nextWord (bnd_g hK fun r19 e19 hK => ?_)
    refine s_Reg_jump (bnd_g hK fun r20 e20 hK => ?_)
    exact And.intro (Or.inr rfl) hK
  have hK := ite_n hK h18
  refine And.intro (fun h21 => ?_) (fun h21 => ?_)
  · have hK := ite_p hK h21
    refine hX.1 166 I_Pro_jumpOrPort_164 ok_Pro_jumpOrPort_164 _ _ _ ?_
    exact And.intro (Or.inl rfl) hK
  have hK := ite_n hK h21
  refine And.intro (fun h22 => ?_) (fun h22 => ?_)
  · have hK := ite_p hK h22
    refine hX.1 164 I_Pro_jumpOrPort_148 ok_Pro_jumpOrPort_148 _ _ _ ?_
    refine s_Dec_nextSigned (bnd_g hK fun r23 e23 hK => ?_)
    refine s_Reg_jump (bnd_g hK fun r24 e24 hK => ?_)
    exact And.intro (Or.inr rfl) hK
  have hK := ite_n hK h22
  refine hX.1 166 I_Pro_jumpOrPort_164 ok_Pro_jumpOrPort_164 _ _ _ ?_
  exact And.intro (Or.inl rfl) hK
def I_Pro_countOperand_0 : List IT := [(0, .aload_n 0, 1, 0, 0, []), (1, .getfield 34, 3, 0, 0, []), (4, .iload_n 1, 1, 0, 0, []), (5, .invokevirtual 141, 3, 0, 0, []), (8, .aload_n 0, 1, 0, 0, []), (9, .getfield 34, 3, 0, 0, []), (12, .invokevirtual 145, 3, 0, 0, []), (15, .istore_n 2, 1, 0, 0, []), (16, .aload_n 0, 1, 0, 0, []), (17, .getfield 34, 3, 0, 0, []), (20, .getfield 147, 3, 0, 0, []), (23, .iconst 1, 1, 1, 0, []), (24, .if_icmp .le 5, 3, 0, 29, []), (27, .iconst 0, 1, 0, 0, []), (28, .ireturn, 1, 0, 0, [])]
theorem ok_Pro_countOperand_0 : blkOK b_Pro_countOperand pt_Pro 29 I_Pro_countOperand_0 = true := by decide +kernel
def I_Pro_countOperand_29 : List IT := [(29, .aload_n 0, 1, 0, 0, []), (30, .getfield 34, 3, 0, 0, []), (33, .aload_n 0, 1, 0, 0, []), (34, .getfield 34, 3, 0, 0, []), (37, .getfield 147, 3, 0, 0, []), (40, .ifCond .ne 15, 3, 0, 55, []), (43, .aload_n 0, 1, 0, 0, []), (44, .getfield 17, 3, 0, 0, []), (47, .iload_n 2, 1, 0, 0, []), (48, .iload_n 1, 1, 0, 0, []), (49, .invokevirtual 169, 3, 0, 0, []), (52, .goto 12, 3, 0, 64, [])]
theorem ok_Pro_countOperand_29 : blkOK b_Pro_countOperand pt_Pro 55 I_Pro_countOperand_29 = true := by decide +kernel
def I_Pro_countOperand_55 : List IT := [(55, .aload_n 0, 1, 0, 0, []), (56, .getfield 17, 3, 0, 0, []), (59, .iload_n 2, 1, 0, 0, []), (60, .iload_n 1, 1, 0, 0, []), (61, .invokevirtual 172, 3, 0, 0, [])]
theorem ok_Pro_countOperand_55 : blkOK b_Pro_countOperand pt_Pro 64 I_Pro_countOperand_55 = true := by decide +kernel
def I_Pro_countOperand_64 : List IT := [(64, .invokevirtual 150, 3, 0, 0, []), (67, .iconst 1, 1, 1, 0, []), (68, .ireturn, 1, 0, 0, [])]
theorem ok_Pro_countOperand_64 : blkOK b_Pro_countOperand pt_Pro 69 I_Pro_countOperand_64 = true := by decide +kernel
def f_Pro_countOperand_64 (σ : Sg) (y0 : Int32) : Int32 × Sg := (bnd (f_Dec_change σ y0) fun r1 => ((1 : Int32), r1))
theorem z_Pro_countOperand_64 {σ : Sg} {y0 : Int32}   : (f_Pro_countOperand_64 σ y0).1 = 0 ∨ (f_Pro_countOperand_64 σ y0).1 = 1 := by
  show Zb (f_Pro_countOperand_64 σ y0)
  unfold f_Pro_countOperand_64
  refine bnd_z fun r1 e1 => ?_
  exact (Or.inr rfl)
abbrev w_Pro_countOperand_64 : List (Nat × Option Nat) := [(2, none), (4, none)]
theorem p_Pro_countOperand_64 {P : Sg → Prop} (hP : WP w_Pro_countOperand_64 P) {σ : Sg} {y0 : Int32} (h : P σ) : PP P (f_Pro_countOperand_64 σ y0) := by
  unfold f_Pro_countOperand_64
  refine bnd_zz (Z := P) (p_Dec_change (wsub hP rfl) h) fun r1 e1 q1 => ?_
  exact q1
set_option maxRecDepth 100000 in
set_option maxHeartbeats 4000000 in
theorem b_Pro_countOperand_64 {l : Launch} {ad : Nat → Nat} {D : va_G} {cI : ClassId} {K : Option Value → Sg → Prop} {X : Nat → List Value → List Value → Sg → Prop} (hX : Cl l ad D cI mi_Pro_countOperand pt_Pro K X) {σ : Sg} {y0 : Int32}   (hK : KI K (f_Pro_countOperand_64 σ y0)) : X 64 [.null, .null, .null] [.int y0, .ref 14] σ := by
  unfold f_Pro_countOperand_64 at hK
  refine hX.1 69 I_Pro_countOperand_64 ok_Pro_countOperand_64 _ _ _ ?_
  refine s_Dec_change (bnd_g hK fun r1 e1 hK => ?_)
  exact And.intro (Or.inr rfl) hK
def f_Pro_countOperand (σ : Sg) (a1 : Int32) : Int32 × Sg := (bnd (f_Dec_readModrm σ a1) fun r1 => bnd (f_Dec_value r1) fun r2 => (if (r2.2 14 5) ≤ (1 : Int32) then (if (r2.2 14 5) = (0 : Int32) then (bnd (f_Fla_oneMore r2.2 r2.1 a1) fun r5 => (f_Pro_countOperand_64 r5.2 r5.1)) else (bnd (f_Fla_oneLess r2.2 r2.1 a1) fun r6 => (f_Pro_countOperand_64 r6.2 r6.1))) else ((0 : Int32), r2.2)))
theorem z_Pro_countOperand {σ : Sg} {a1 : Int32} (z_a1 : a1 = 0 ∨ a1 = 1)  : (f_Pro_countOperand σ a1).1 = 0 ∨ (f_Pro_countOperand σ a1).1 = 1 := by
  show Zb (f_Pro_countOperand σ a1)
  unfold f_Pro_countOperand
  refine bnd_z fun r1 e1 => ?_
  refine bnd_z fun r2 e2 => ?_
  refine ite_z (fun h3 => ?_) (fun h3 => ?_)
  · refine ite_z (fun h4 => ?_) (fun h4 => ?_)
    · refine bnd_z fun r5 e5 => ?_
      exact z_Pro_countOperand_64  
    · refine bnd_z fun r6 e6 => ?_
      exact z_Pro_countOperand_64  
  · exact (Or.inl rfl)
abbrev w_Pro_countOperand : List (Nat × Option Nat) := [(2, none), (3, some 2), (4, none), (6, some 0), (14, some 5), (14, some 6), (14, some 7), (14, some 9), (14, some 10), (14, some 11)]
theorem p_Pro_countOperand {P : Sg → Prop} (hP : WP w_Pro_countOperand P) {σ : Sg} {a1 : Int32} (h : P σ) : PP P (f_Pro_countOperand σ a1) := by
  unfold f_Pro_countOperand
  refine bnd_zz (Z := P) (p_Dec_readModrm (wsub hP rfl) h) fun r1 e1 q1 => ?_
  refine bnd_zz (Z := PP P) (p_Dec_value (wsub hP rfl) q1) fun r2 e2 q2 => ?_
  refine ite_z (fun _ => ?_) (fun _ => ?_)
  · refine ite_z (fun _ => ?_) (fun _ => ?_)
    · refine bnd_zz (Z := PP P) (p_Fla_oneMore (wsub hP rfl) q2) fun r5 e5 q5 => ?_
      exact p_Pro_countOperand_64 (wsub hP rfl) q5
    · refine bnd_zz (Z := PP P) (p_Fla_oneLess (wsub hP rfl) q2) fun r6 e6 q6 => ?_
      exact p_Pro_countOperand_64 (wsub hP rfl) q6
  · exact q2
set_option maxRecDepth 100000 in
set_option maxHeartbeats 4000000 in
theorem s_Pro_countOperand {l : Launch} {ad : Nat → Nat} {D : va_G} {cI : ClassId} {σ : Sg} {a1 : Int32} {K : Option Value → Sg → Prop} (z_a1 : a1 = 0 ∨ a1 = 1)  (hK : KI K (f_Pro_countOperand σ a1)) : MetJ l ad D cI mi_Pro_countOperand [.ref 12, .int a1] σ K := by
  refine met_of mi_Pro_countOperand pt_Pro pt_Pro_in rfl pl_Pro rfl (Nat.le_of_ble_eq_true rfl) fun X hX => ?_
  have hX : Cl l ad D cI mi_Pro_countOperand pt_Pro K X := hX
  show X 0 [.ref 12, .int a1, .null] [] σ
  unfold f_Pro_countOperand at hK
  refine hX.1 29 I_Pro_countOperand_0 ok_Pro_countOperand_0 _ _ _ ?_
  refine s_Dec_readModrm z_a1 (bnd_g hK fun r1 e1 hK => ?_)
  refine s_Dec_value (bnd_g hK fun r2 e2 hK => ?_)
  refine And.intro (fun h3 => ?_) (fun h3 => ?_)
  · have hK := ite_p hK h3
    refine hX.1 55 I_Pro_countOperand_29 ok_Pro_countOperand_29 _ _ _ ?_
    refine And.intro (fun h4 => ?_) (fun h4 => ?_)
    · have hK := ite_p hK h4
      refine s_Fla_oneMore (bnd_g hK fun r5 e5 hK => ?_)
      refine hX.fg [0, 1, 2] ?_
      exact b_Pro_countOperand_64 hX  hK
    · have hK := ite_n hK h4
      refine hX.1 64 I_Pro_countOperand_55 ok_Pro_countOperand_55 _ _ _ ?_
      refine s_Fla_oneLess (bnd_g hK fun r6 e6 hK => ?_)
      refine hX.fg [0, 1, 2] ?_
      exact b_Pro_countOperand_64 hX  hK
  · have hK := ite_n hK h3
    exact And.intro (Or.inl rfl) hK
def I_Pro_multiply_0 : List IT := [(0, .aload_n 0, 1, 0, 0, []), (1, .getfield 13, 3, 0, 0, []), (4, .iconst 0, 1, 0, 0, []), (5, .iload_n 2, 1, 0, 0, []), (6, .invokevirtual 130, 3, 0, 0, []), (9, .i2l, 1, 0, 0, []), (10, .iload_n 1, 1, 0, 0, []), (11, .i2l, 1, 0, 0, []), (12, .lmul, 1, 0, 0, []), (13, .lstore_n 3, 1, 0, 0, []), (14, .aload_n 0, 1, 0, 0, []), (15, .getfield 13, 3, 0, 0, []), (18, .getfield 166, 3, 0, 0, []), (21, .iconst 0, 1, 0, 0, []), (22, .lload_n 3, 1, 0, 0, []), (23, .ldc2_w 245, 3, 0, 0, []), (26, .land, 1, 0, 0, []), (27, .l2i, 1, 0, 0, []), (28, .iastore, 1, 0, 0, []), (29, .lload_n 3, 1, 0, 0, []), (30, .iload_n 2, 1, 0, 0, []), (31, .ifCond .eq 8, 3, 0, 39, []), (34, .bipush 16, 2, 16, 0, []), (36, .goto 5, 3, 0, 41, [])]
theorem ok_Pro_multiply_0 : blkOK b_Pro_multiply pt_Pro 39 I_Pro_multiply_0 = true := by decide +kernel
def I_Pro_multiply_39 : List IT := [(39, .bipush 8, 2, 8, 0, [])]
theorem ok_Pro_multiply_39 : blkOK b_Pro_multiply pt_Pro 41 I_Pro_multiply_39 = true := by decide +kernel
def I_Pro_multiply_41 : List IT := [(41, .lshr, 1, 0, 0, []), (42, .l2i, 1, 0, 0, []), (43, .istore 5, 2, 0, 0, []), (45, .iload_n 2, 1, 0, 0, []), (46, .ifCond .eq 14, 3, 0, 60, []), (49, .aload_n 0, 1, 0, 0, []), (50, .getfield 13, 3, 0, 0, []), (53, .getfield 166, 3, 0, 0, []), (56, .iconst 2, 1, 2, 0, []), (57, .iload 5, 2, 0, 0, []), (59, .iastore, 1, 0, 0, [])]
theorem ok_Pro_multiply_41 : blkOK b_Pro_multiply pt_Pro 60 I_Pro_multiply_41 = true := by decide +kernel
def I_Pro_multiply_60 : List IT := [(60, .aload_n 0, 1, 0, 0, []), (61, .getfield 17, 3, 0, 0, []), (64, .sipush 2049, 3, 2049, 0, []), (67, .iload 5, 2, 0, 0, []), (69, .ifCond .eq 7, 3, 0, 76, []), (72, .iconst 1, 1, 1, 0, []), (73, .goto 4, 3, 0, 77, [])]
theorem ok_Pro_multiply_60 : blkOK b_Pro_multiply pt_Pro 76 I_Pro_multiply_60 = true := by decide +kernel
def I_Pro_multiply_76 : List IT := [(76, .iconst 0, 1, 0, 0, [])]
theorem ok_Pro_multiply_76 : blkOK b_Pro_multiply pt_Pro 77 I_Pro_multiply_76 = true := by decide +kernel
def I_Pro_multiply_77 : List IT := [(77, .invokevirtual 247, 3, 0, 0, []), (80, .return_, 1, 0, 0, [])]
theorem ok_Pro_multiply_77 : blkOK b_Pro_multiply pt_Pro 81 I_Pro_multiply_77 = true := by decide +kernel
def f_Pro_multiply_77 (σ : Sg) (y0 : Int32) (y1 : Int32) : Sg := (bnd (f_Fla_set σ y1 y0) fun r1 => r1)
abbrev w_Pro_multiply_77 : List (Nat × Option Nat) := [(6, some 0)]
theorem p_Pro_multiply_77 {P : Sg → Prop} (hP : WP w_Pro_multiply_77 P) {σ : Sg} {y0 : Int32} {y1 : Int32} (h : P σ) : P (f_Pro_multiply_77 σ y0 y1) := by
  unfold f_Pro_multiply_77
  refine bnd_zz (Z := P) (p_Fla_set (wsub hP rfl) h) fun r1 e1 q1 => ?_
  exact q1
set_option maxRecDepth 100000 in
set_option maxHeartbeats 4000000 in
theorem b_Pro_multiply_77 {l : Launch} {ad : Nat → Nat} {D : va_G} {cI : ClassId} {K : Option Value → Sg → Prop} {X : Nat → List Value → List Value → Sg → Prop} (hX : Cl l ad D cI mi_Pro_multiply pt_Pro K X) {σ : Sg} {y0 : Int32} {y1 : Int32} (z_y0 : y0 = 0 ∨ y0 = 1)  (hK : KV K (f_Pro_multiply_77 σ y0 y1)) : X 77 [.null, .null, .null, .null, .null, .null] [.int y0, .int y1, .ref 6] σ := by
  unfold f_Pro_multiply_77 at hK
  refine hX.1 81 I_Pro_multiply_77 ok_Pro_multiply_77 _ _ _ ?_
  refine s_Fla_set (bnd_g hK fun r1 e1 hK => ?_)
  exact hK
def f_Pro_multiply_60 (σ : Sg) (x5 : Int32) : Sg := (if x5 = (0 : Int32) then (f_Pro_multiply_77 σ (0 : Int32) (2049 : Int32)) else (f_Pro_multiply_77 σ (1 : Int32) (2049 : Int32)))
abbrev w_Pro_multiply_60 : List (Nat × Option Nat) := [(6, some 0)]
theorem p_Pro_multiply_60 {P : Sg → Prop} (hP : WP w_Pro_multiply_60 P) {σ : Sg} {x5 : Int32} (h : P σ) : P (f_Pro_multiply_60 σ x5) := by
  unfold f_Pro_multiply_60
  refine ite_z (fun _ => ?_) (fun _ => ?_)
  · exact p_Pro_multiply_77 (wsub hP rfl) h
  · exact p_Pro_multiply_77 (wsub hP rfl) h
set_option maxRecDepth 100000 in
set_option maxHeartbeats 4000000 in
theorem b_Pro_multiply_60 {l : Launch} {ad : Nat → Nat} {D : va_G} {cI : ClassId} {K : Option Value → Sg → Prop} {X : Nat → List Value → List Value → Sg → Prop} (hX : Cl l ad D cI mi_Pro_multiply pt_Pro K X) {σ : Sg} {x5 : Int32}   (hK : KV K (f_Pro_multiply_60 σ x5)) : X 60 [.ref 12, .null, .null, .null, .null, .int x5] [] σ := by
  unfold f_Pro_multiply_60 at hK
  refine hX.1 76 I_Pro_multiply_60 ok_Pro_multiply_60 _ _ _ ?_
  refine And.intro (fun h1 => ?_) (fun h1 => ?_)
  · have hK := ite_p hK h1
    refine hX.1 77 I_Pro_multiply_76 ok_Pro_multiply_76 _ _ _ ?_
    refine hX.fg [0, 5] ?_
    exact b_Pro_multiply_77 hX (Or.inl rfl) hK
  · have hK := ite_n hK h1
    refine hX.fg [0, 5] ?_
    exact b_Pro_multiply_77 hX (Or.inr rfl) hK
def f_Pro_multiply_41 (σ : Sg) (x2 : Int32) (y0 : Int32) (y1 : Int64) : Sg := (if x2 = (0 : Int32) then (f_Pro_multiply_60 σ ((y1 >>> ((y0 : Int32).toInt64 &&& 63)) : Int64).toInt32) else (bnd (up2 σ 4 (Int32.toNatClampNeg (2 : Int32)) ((y1 >>> ((y0 : Int32).toInt64 &&& 63)) : Int64).toInt32) fun s2 => (f_Pro_multiply_60 s2 ((y1 >>> ((y0 : Int32).toInt64 &&& 63)) : Int64).toInt32)))
abbrev w_Pro_multiply_41 : List (Nat × Option Nat) := [(4, none), (6, some 0)]
theorem p_Pro_multiply_41 {P : Sg → Prop} (hP : WP w_Pro_multiply_41 P) {σ : Sg} {x2 : Int32} {y0 : Int32} {y1 : Int64} (h : P σ) : P (f_Pro_multiply_41 σ x2 y0 y1) := by
  unfold f_Pro_multiply_41
  refine ite_z (fun _ => ?_) (fun _ => ?_)
  · exact p_Pro_multiply_60 (wsub hP rfl) h
  · refine bnd_zz (Z := P) (hP _ _ _ _ (Or.inl (by decide)) h) fun s2 e2 q2 => ?_
    exact p_Pro_multiply_60 (wsub hP rfl) q2
set_option maxRecDepth 100000 in
set_option maxHeartbeats 4000000 in
theorem b_Pro_multiply_41 {l : Launch} {ad : Nat → Nat} {D : va_G} {cI : ClassId} {K : Option Value → Sg → Prop} {X : Nat → List Value → List Value → Sg → Prop} (hX : Cl l ad D cI mi_Pro_multiply pt_Pro K X) {σ : Sg} {x2 : Int32} {y0 : Int32} {y1 : Int64}   (hK : KV K (f_Pro_multiply_41 σ x2 y0 y1)) : X 41 [.ref 12, .null, .int x2, .null, .null, .null] [.int y0, .long y1] σ := by
  unfold f_Pro_multiply_41 at hK
  refine hX.1 60 I_Pro_multiply_41 ok_Pro_multiply_41 _ _ _ ?_
  refine And.intro (fun h1 => ?_) (fun h1 => ?_)
  · have hK := ite_p hK h1
    refine hX.fg [2] ?_
    exact b_Pro_multiply_60 hX  hK
  · have hK := ite_n hK h1
    refine And.intro (vin (by decide)) (SG_g hK fun s2 e2 hK => ?_)
    refine hX.fg [2] ?_
    exact b_Pro_multiply_60 hX  hK
def f_Pro_multiply (σ : Sg) (a1 : Int32) (a2 : Int32) : Sg := (bnd (f_Reg_value σ (0 : Int32) a2) fun r1 => bnd (up2 r1.2 4 (Int32.toNatClampNeg (0 : Int32)) ((((r1.1 : Int32).toInt64 * (a1 : Int32).toInt64) &&& 65535) : Int64).toInt32) fun s2 => (if a2 = (0 : Int32) then (f_Pro_multiply_41 s2 a2 (8 : Int32) ((r1.1 : Int32).toInt64 * (a1 : Int32).toInt64)) else (f_Pro_multiply_41 s2 a2 (16 : Int32) ((r1.1 : Int32).toInt64 * (a1 : Int32).toInt64))))
abbrev w_Pro_multiply : List (Nat × Option Nat) := [(4, none), (6, some 0)]
theorem p_Pro_multiply {P : Sg → Prop} (hP : WP w_Pro_multiply P) {σ : Sg} {a1 : Int32} {a2 : Int32} (h : P σ) : P (f_Pro_multiply σ a1 a2) := by
  unfold f_Pro_multiply
  refine bnd_zz (Z := PP P) (p_Reg_value (wsub hP rfl) h) fun r1 e1 q1 => ?_
  refine bnd_zz (Z := P) (hP _ _ _ _ (Or.inl (by decide)) q1) fun s2 e2 q2 => ?_
  refine ite_z (fun _ => ?_) (fun _ => ?_)
  · exact p_Pro_multiply_41 (wsub hP rfl) q2
  · exact p_Pro_multiply_41 (wsub hP rfl) q2
set_option maxRecDepth 100000 in
set_option maxHeartbeats 4000000 in
theorem s_Pro_multiply {l : Launch} {ad : Nat → Nat} {D : va_G} {cI : ClassId} {σ : Sg} {a1 : Int32} {a2 : Int32} {K : Option Value → Sg → Prop}   (hK : KV K (f_Pro_multiply σ a1 a2)) : MetJ l ad D cI mi_Pro_multiply [.ref 12, .int a1, .int a2] σ K := by
  refine met_of mi_Pro_multiply pt_Pro pt_Pro_in rfl pl_Pro rfl (Nat.le_of_ble_eq_true rfl) fun X hX => ?_
  have hX : Cl l ad D cI mi_Pro_multiply pt_Pro K X := hX
  show X 0 [.ref 12, .int a1, .int a2, .null, .null, .null] [] σ
  unfold f_Pro_multiply at hK
  refine hX.1 39 I_Pro_multiply_0 ok_Pro_multiply_0 _ _ _ ?_
  refine s_Reg_value (bnd_g hK fun r1 e1 hK => ?_)
  refine And.intro (vin (by decide)) (SG_g hK fun s2 e2 hK => ?_)
  refine And.intro (fun h3 => ?_) (fun h3 => ?_)
  · have hK := ite_p hK h3
    refine hX.1 41 I_Pro_multiply_39 ok_Pro_multiply_39 _ _ _ ?_
    refine hX.fg [1, 3] ?_
    exact b_Pro_multiply_41 hX  hK
  · have hK := ite_n hK h3
    refine hX.fg [1, 3] ?_
    exact b_Pro_multiply_41 hX  hK
def I_Pro_divide_0 : List IT := [(0, .iload_n 2, 1, 0, 0, []), (1, .ifCond .eq 9, 3, 0, 10, []), (4, .ldc2_w 245, 3, 0, 0, []), (7, .goto 6, 3, 0, 13, [])]
theorem ok_Pro_divide_0 : blkOK b_Pro_divide pt_Pro 10 I_Pro_divide_0 = true := by decide +kernel
def I_Pro_divide_10 : List IT := [(10, .ldc2_w 250, 3, 0, 0, [])]
theorem ok_Pro_divide_10 : blkOK b_Pro_divide pt_Pro 13 I_Pro_divide_10 = true := by decide +kernel
def I_Pro_divide_13 : List IT := [(13, .lstore_n 3, 1, 0, 0, []), (14, .aload_n 0, 1, 0, 0, []), (15, .getfield 13, 3, 0, 0, []), (18, .getfield 166, 3, 0, 0, []), (21, .iconst 0, 1, 0, 0, []), (22, .iaload, 1, 0, 0, []), (23, .i2l, 1, 0, 0, []), (24, .lstore 5, 2, 0, 0, []), (26, .iload_n 2, 1, 0, 0, []), (27, .ifCond .eq 21, 3, 0, 48, []), (30, .lload 5, 2, 0, 0, []), (32, .aload_n 0, 1, 0, 0, []), (33, .getfield 13, 3, 0, 0, []), (36, .getfield 166, 3, 0, 0, []), (39, .iconst 2, 1, 2, 0, []), (40, .iaload, 1, 0, 0, []), (41, .i2l, 1, 0, 0, []), (42, .bipush 16, 2, 16, 0, []), (44, .lshl, 1, 0, 0, []), (45, .lor, 1, 0, 0, []), (46, .lstore 5, 2, 0, 0, [])]
theorem ok_Pro_divide_13 : blkOK b_Pro_divide pt_Pro 48 I_Pro_divide_13 = true := by decide +kernel
def I_Pro_divide_48 : List IT := [(48, .iload_n 1, 1, 0, 0, []), (49, .ifCond .eq 13, 3, 0, 62, []), (52, .lload 5, 2, 0, 0, []), (54, .iload_n 1, 1, 0, 0, []), (55, .i2l, 1, 0, 0, []), (56, .ldiv, 1, 0, 0, []), (57, .lload_n 3, 1, 0, 0, []), (58, .lcmp, 1, 0, 0, []), (59, .ifCond .le 5, 3, 0, 64, [])]
theorem ok_Pro_divide_48 : blkOK b_Pro_divide pt_Pro 62 I_Pro_divide_48 = true := by decide +kernel
def I_Pro_divide_62 : List IT := [(62, .iconst 0, 1, 0, 0, []), (63, .ireturn, 1, 0, 0, [])]
theorem ok_Pro_divide_62 : blkOK b_Pro_divide pt_Pro 64 I_Pro_divide_62 = true := by decide +kernel
def I_Pro_divide_64 : List IT := [(64, .lload 5, 2, 0, 0, []), (66, .iload_n 1, 1, 0, 0, []), (67, .i2l, 1, 0, 0, []), (68, .ldiv, 1, 0, 0, []), (69, .l2i, 1, 0, 0, []), (70, .istore 7, 2, 0, 0, []), (72, .lload 5, 2, 0, 0, []), (74, .iload_n 1, 1, 0, 0, []), (75, .i2l, 1, 0, 0, []), (76, .lrem, 1, 0, 0, []), (77, .l2i, 1, 0, 0, []), (78, .istore 8, 2, 0, 0, []), (80, .iload_n 2, 1, 0, 0, []), (81, .ifCond .eq 28, 3, 0, 109, []), (84, .aload_n 0, 1, 0, 0, []), (85, .getfield 13, 3, 0, 0, []), (88, .getfield 166, 3, 0, 0, []), (91, .iconst 0, 1, 0, 0, []), (92, .iload 7, 2, 0, 0, []), (94, .iastore, 1, 0, 0, []), (95, .aload_n 0, 1, 0, 0, []), (96, .getfield 13, 3, 0, 0, []), (99, .getfield 166, 3, 0, 0, []), (102, .iconst 2, 1, 2, 0, []), (103, .iload 8, 2, 0, 0, []), (105, .iastore, 1, 0, 0, []), (106, .goto 20, 3, 0, 126, [])]
theorem ok_Pro_divide_64 : blkOK b_Pro_divide pt_Pro 109 I_Pro_divide_64 = true := by decide +kernel
def I_Pro_divide_109 : List IT := [(109, .aload_n 0, 1, 0, 0, []), (110, .getfield 13, 3, 0, 0, []), (113, .getfield 166, 3, 0, 0, []), (116, .iconst 0, 1, 0, 0, []), (117, .iload 8, 2, 0, 0, []), (119, .bipush 8, 2, 8, 0, []), (121, .ishl, 1, 0, 0, []), (122, .iload 7, 2, 0, 0, []), (124, .ior, 1, 0, 0, []), (125, .iastore, 1, 0, 0, [])]
theorem ok_Pro_divide_109 : blkOK b_Pro_divide pt_Pro 126 I_Pro_divide_109 = true := by decide +kernel
def I_Pro_divide_126 : List IT := [(126, .iconst 1, 1, 1, 0, []), (127, .ireturn, 1, 0, 0, [])]
theorem ok_Pro_divide_126 : blkOK b_Pro_divide pt_Pro 128 I_Pro_divide_126 = true := by decide +kernel
def f_Pro_divide_48 (σ : Sg) (x1 : Int32) (x2 : Int32) (x3 : Int64) (x5 : Int64) : Int32 × Sg := (if x1 = (0 : Int32) then ((0 : Int32), σ) else (if (lg_cmp (x5 / (x1 : Int32).toInt64) x3) ≤ (0 : Int32) then (if x2 = (0 : Int32) then (bnd (up2 σ 4 (Int32.toNatClampNeg (0 : Int32)) ((((x5 - x5 / (x1 : Int32).toInt64 * (x1 : Int32).toInt64) : Int64).toInt32 <<< ((8 : Int32) &&& 31 : Int32)) ||| ((x5 / (x1 : Int32).toInt64) : Int64).toInt32)) fun s4 => ((1 : Int32), s4)) else (bnd (up2 σ 4 (Int32.toNatClampNeg (0 : Int32)) ((x5 / (x1 : Int32).toInt64) : Int64).toInt32) fun s5 => bnd (up2 s5 4 (Int32.toNatClampNeg (2 : Int32)) ((x5 - x5 / (x1 : Int32).toInt64 * (x1 : Int32).toInt64) : Int64).toInt32) fun s6 => ((1 : Int32), s6))) else ((0 : Int32), σ)))
theorem z_Pro_divide_48 {σ : Sg} {x1 : Int32} {x2 : Int32} {x3 : Int64} {x5 : Int64}   : (f_Pro_divide_48 σ x1 x2 x3 x5).1 = 0 ∨ (f_Pro_divide_48 σ x1 x2 x3 x5).1 = 1 := by
  show Zb (f_Pro_divide_48 σ x1 x2 x3 x5)
  unfold f_Pro_divide_48
  refine ite_z (fun h1 => ?_) (fun h1 => ?_)
  · exact (Or.inl rfl)
  · refine ite_z (fun h2 => ?_) (fun h2 => ?_)
    · refine ite_z (fun h3 => ?_) (fun h3 => ?_)
      · refine bnd_z fun s4 e4 => ?_
        exact (Or.inr rfl)
      · refine bnd_z fun s5 e5 => ?_
        refine bnd_z fun s6 e6 => ?_
        exact (Or.inr rfl)
    · exact (Or.inl rfl)
abbrev w_Pro_divide_48 : List (Nat × Option Nat) := [(4, none)]
theorem p_Pro_divide_48 {P : Sg → Prop} (hP : WP w_Pro_divide_48 P) {σ : Sg} {x1 : Int32} {x2 : Int32} {x3 : Int64} {x5 : Int64} (h : P σ) : PP P (f_Pro_divide_48 σ x1 x2 x3 x5) := by
  unfold f_Pro_divide_48
  refine ite_z (fun _ => ?_) (fun _ => ?_)
  · exact h
  · refine ite_z (fun _ => ?_) (fun _ => ?_)
    · refine ite_z (fun _ => ?_) (fun _ => ?_)
      · refine bnd_zz (Z := P) (hP _ _ _ _ (Or.inl (by decide)) h) fun s4 e4 q4 => ?_
        exact q4
      · refine bnd_zz (Z := P) (hP _ _ _ _ (Or.inl (by decide)) h) fun s5 e5 q5 => ?_
        refine bnd_zz (Z := P) (hP _ _ _ _ (Or.inl (by decide)) q5) fun s6 e6 q6 => ?_
        exact q6
    · exact h
set_option maxRecDepth 100000 in
set_option maxHeartbeats 4000000 in
theorem b_Pro_divide_48 {l : Launch} {ad : Nat → Nat} {D : va_G} {cI : ClassId} {K : Option Value → Sg → Prop} {X : Nat → List Value → List Value → Sg → Prop} (hX : Cl l ad D cI mi_Pro_divide pt_Pro K X) {σ : Sg} {x1 : Int32} {x2 : Int32} {x3 : Int64} {x5 : Int64}   (hK : KI K (f_Pro_divide_48 σ x1 x2 x3 x5)) : X 48 [.ref 12, .int x1, .int x2, .long x3, .null, .long x5, .null, .null, .null] [] σ := by
  unfold f_Pro_divide_48 at hK
  refine hX.1 62 I_Pro_divide_48 ok_Pro_divide_48 _ _ _ ?_
  refine And.intro (fun h1 => ?_) (fun h1 => ?_)
  · have hK := ite_p hK h1
    refine hX.1 64 I_Pro_divide_62 ok_Pro_divide_62 _ _ _ ?_
    exact And.intro (Or.inl rfl) hK
  · have hK := ite_n hK h1
    refine And.intro (i64_ne (by assumption)) ?_
    refine And.intro (fun h2 => ?_) (fun h2 => ?_)
    · have hK := ite_p hK h2
      refine hX.1 109 I_Pro_divide_64 ok_Pro_divide_64 _ _ _ ?_
      refine And.intro (i64_ne (by assumption)) ?_
      refine And.intro (i64_ne (by assumption)) ?_
      refine And.intro (fun h3 => ?_) (fun h3 => ?_)
      · have hK := ite_p hK h3
        refine hX.1 126 I_Pro_divide_109 ok_Pro_divide_109 _ _ _ ?_
        refine And.intro (vin (by decide)) (SG_g hK fun s4 e4 hK => ?_)
        refine hX.1 128 I_Pro_divide_126 ok_Pro_divide_126 _ _ _ ?_
        exact And.intro (Or.inr rfl) hK
      · have hK := ite_n hK h3
        refine And.intro (vin (by decide)) (SG_g hK fun s5 e5 hK => ?_)
        refine And.intro (vin (by decide)) (SG_g hK fun s6 e6 hK => ?_)
        refine hX.1 128 I_Pro_divide_126 ok_Pro_divide_126 _ _ _ ?_
        exact And.intro (Or.inr rfl) hK
    · have hK := ite_n hK h2
      refine hX.1 64 I_Pro_divide_62 ok_Pro_divide_62 _ _ _ ?_
      exact And.intro (Or.inl rfl) hK
def f_Pro_divide_13 (σ : Sg) (x1 : Int32) (x2 : Int32) (y0 : Int64) : Int32 × Sg := (if x2 = (0 : Int32) then (f_Pro_divide_48 σ x1 x2 y0 ((σ 4 (Int32.toNatClampNeg (0 : Int32))) : Int32).toInt64) else (f_Pro_divide_48 σ x1 x2 y0 (((σ 4 (Int32.toNatClampNeg (0 : Int32))) : Int32).toInt64 ||| (((σ 4 (Int32.toNatClampNeg (2 : Int32))) : Int32).toInt64 <<< (((16 : Int32) : Int32).toInt64 &&& 63)))))
theorem z_Pro_divide_13 {σ : Sg} {x1 : Int32} {x2 : Int32} {y0 : Int64}   : (f_Pro_divide_13 σ x1 x2 y0).1 = 0 ∨ (f_Pro_divide_13 σ x1 x2 y0).1 = 1 := by
  show Zb (f_Pro_divide_13 σ x1 x2 y0)
  unfold f_Pro_divide_13
  refine ite_z (fun h1 => ?_) (fun h1 => ?_)
  · exact z_Pro_divide_48
  · exact z_Pro_divide_48
abbrev w_Pro_divide_13 : List (Nat × Option Nat) := [(4, none)]
theorem p_Pro_divide_13 {P : Sg → Prop} (hP : WP w_Pro_divide_13 P) {σ : Sg} {x1 : Int32} {x2 : Int32} {y0 : Int64} (h : P σ) : PP P (f_Pro_divide_13 σ x1 x2 y0) := by
  unfold f_Pro_divide_13
  refine ite_z (fun _ => ?_) (fun _ => ?_)
  · exact p_Pro_divide_48 (wsub hP rfl) h
  · exact p_Pro_divide_48 (wsub hP rfl) h
set_option maxRecDepth 100000 in
set_option maxHeartbeats 4000000 in
theorem b_Pro_divide_13 {l : Launch} {ad : Nat → Nat} {D : va_G} {cI : ClassId} {K : Option Value → Sg → Prop} {X : Nat → List Value → List Value → Sg → Prop} (hX : Cl l ad D cI mi_Pro_divide pt_Pro K X) {σ : Sg} {x1 : Int32} {x2 : Int32} {y0 : Int64}   (hK : KI K (f_Pro_divide_13 σ x1 x2 y0)) : X 13 [.ref 12, .int x1, .int x2, .null, .null, .null, .null, .null, .null] [.long y0] σ := by
  unfold f_Pro_divide_13 at hK
  refine hX.1 48 I_Pro_divide_13 ok_Pro_divide_13 _ _ _ ?_
  refine And.intro (vin (by decide)) ?_
  refine And.intro (fun h1 => ?_) (fun h1 => ?_)
  · have hK := ite_p hK h1
    exact b_Pro_divide_48 hX  hK
  · have hK := ite_n hK h1
    refine And.intro (vin (by decide)) ?_
    exact b_Pro_divide_48 hX  hK
def f_Pro_divide (σ : Sg) (a1 : Int32) (a2 : Int32) : Int32 × Sg := (if a2 = (0 : Int32) then (f_Pro_divide_13 σ a1 a2 255) else (f_Pro_divide_13 σ a1 a2 65535))
theorem z_Pro_divide {σ : Sg} {a1 : Int32} {a2 : Int32}   : (f_Pro_divide σ a1 a2).1 = 0 ∨ (f_Pro_divide σ a1 a2).1 = 1 := by
  show Zb (f_Pro_divide σ a1 a2)
  unfold f_Pro_divide
  refine ite_z (fun h1 => ?_) (fun h1 => ?_)
  · exact z_Pro_divide_13
  · exact z_Pro_divide_13
abbrev w_Pro_divide : List (Nat × Option Nat) := [(4, none)]
theorem p_Pro_divide {P : Sg → Prop} (hP : WP w_Pro_divide P) {σ : Sg} {a1 : Int32} {a2 : Int32} (h : P σ) : PP P (f_Pro_divide σ a1 a2) := by
  unfold f_Pro_divide
  refine ite_z (fun _ => ?_) (fun _ => ?_)
  · exact p_Pro_divide_13 (wsub hP rfl) h
  · exact p_Pro_divide_13 (wsub hP rfl) h
set_option maxRecDepth 100000 in
set_option maxHeartbeats 4000000 in
theorem s_Pro_divide {l : Launch} {ad : Nat → Nat} {D : va_G} {cI : ClassId} {σ : Sg} {a1 : Int32} {a2 : Int32} {K : Option Value → Sg → Prop}   (hK : KI K (f_Pro_divide σ a1 a2)) : MetJ l ad D cI mi_Pro_divide [.ref 12, .int a1, .int a2] σ K := by
  refine met_of mi_Pro_divide pt_Pro pt_Pro_in rfl pl_Pro rfl (Nat.le_of_ble_eq_true rfl) fun X hX => ?_
  have hX : Cl l ad D cI mi_Pro_divide pt_Pro K X := hX
  show X 0 [.ref 12, .int a1, .int a2, .null, .null, .null, .null, .null, .null] [] σ
  unfold f_Pro_divide at hK
  refine hX.1 10 I_Pro_divide_0 ok_Pro_divide_0 _ _ _ ?_
  refine And.intro (fun h1 => ?_) (fun h1 => ?_)
  · have hK := ite_p hK h1
    refine hX.1 13 I_Pro_divide_10 ok_Pro_divide_10 _ _ _ ?_
    exact b_Pro_divide_13 hX  hK
  · have hK := ite_n hK h1
    exact b_Pro_divide_13 hX  hK
def I_Pro_haltOrUnary_0 : List IT := [(0, .iload_n 1, 1, 0, 0, []), (1, .sipush 244, 3, 244, 0, []), (4, .if_icmp .ne 10, 3, 0, 14, []), (7, .aload_n 0, 1, 0, 0, []), (8, .iconst 1, 1, 1, 0, []), (9, .putfield 58, 3, 0, 0, []), (12, .iconst 1, 1, 1, 0, []), (13, .ireturn, 1, 0, 0, [])]
theorem ok_Pro_haltOrUnary_0 : blkOK b_Pro_haltOrUnary pt_Pro 14 I_Pro_haltOrUnary_0 = true := by decide +kernel
def I_Pro_haltOrUnary_14 : List IT := [(14, .iload_n 1, 1, 0, 0, []), (15, .sipush 246, 3, 246, 0, []), (18, .if_icmp .ge 5, 3, 0, 23, []), (21, .iconst 0, 1, 0, 0, []), (22, .ireturn, 1, 0, 0, [])]
theorem ok_Pro_haltOrUnary_14 : blkOK b_Pro_haltOrUnary pt_Pro 23 I_Pro_haltOrUnary_14 = true := by decide +kernel
def I_Pro_haltOrUnary_23 : List IT := [(23, .iload_n 1, 1, 0, 0, []), (24, .sipush 247, 3, 247, 0, []), (27, .if_icmp .ne 7, 3, 0, 34, []), (30, .iconst 1, 1, 1, 0, []), (31, .goto 4, 3, 0, 35, [])]
theorem ok_Pro_haltOrUnary_23 : blkOK b_Pro_haltOrUnary pt_Pro 34 I_Pro_haltOrUnary_23 = true := by decide +kernel
def I_Pro_haltOrUnary_34 : List IT := [(34, .iconst 0, 1, 0, 0, [])]
theorem ok_Pro_haltOrUnary_34 : blkOK b_Pro_haltOrUnary pt_Pro 35 I_Pro_haltOrUnary_34 = true := by decide +kernel
def I_Pro_haltOrUnary_35 : List IT := [(35, .istore_n 2, 1, 0, 0, []), (36, .aload_n 0, 1, 0, 0, []), (37, .getfield 34, 3, 0, 0, []), (40, .iload_n 2, 1, 0, 0, []), (41, .invokevirtual 141, 3, 0, 0, []), (44, .aload_n 0, 1, 0, 0, []), (45, .getfield 34, 3, 0, 0, []), (48, .invokevirtual 145, 3, 0, 0, []), (51, .istore_n 3, 1, 0, 0, []), (52, .aload_n 0, 1, 0, 0, []), (53, .getfield 34, 3, 0, 0, []), (56, .getfield 147, 3, 0, 0, []), (59, .tableswitch 89 2 6 #[33, 45, 65, 89, 73], 33, 0, 148, [(2, 92), (3, 104), (4, 124), (5, 148), (6, 132)])]
theorem ok_Pro_haltOrUnary_35 : blkOK b_Pro_haltOrUnary pt_Pro 92 I_Pro_haltOrUnary_35 = true := by decide +kernel
def I_Pro_haltOrUnary_92 : List IT := [(92, .aload_n 0, 1, 0, 0, []), (93, .getfield 34, 3, 0, 0, []), (96, .iload_n 3, 1, 0, 0, []), (97, .iconst (-1), 1, (-1), 0, []), (98, .ixor, 1, 0, 0, []), (99, .invokevirtual 150, 3, 0, 0, []), (102, .iconst 1, 1, 1, 0, []), (103, .ireturn, 1, 0, 0, [])]
theorem ok_Pro_haltOrUnary_92 : blkOK b_Pro_haltOrUnary pt_Pro 104 I_Pro_haltOrUnary_92 = true := by decide +kernel
def I_Pro_haltOrUnary_104 : List IT := [(104, .aload_n 0, 1, 0, 0, []), (105, .getfield 34, 3, 0, 0, []), (108, .aload_n 0, 1, 0, 0, []), (109, .getfield 17, 3, 0, 0, []), (112, .iconst 0, 1, 0, 0, []), (113, .iload_n 3, 1, 0, 0, []), (114, .iconst 0, 1, 0, 0, []), (115, .iload_n 2, 1, 0, 0, []), (116, .invokevirtual 210, 3, 0, 0, []), (119, .invokevirtual 150, 3, 0, 0, []), (122, .iconst 1, 1, 1, 0, []), (123, .ireturn, 1, 0, 0, [])]
theorem ok_Pro_haltOrUnary_104 : blkOK b_Pro_haltOrUnary pt_Pro 124 I_Pro_haltOrUnary_104 = true := by decide +kernel
def I_Pro_haltOrUnary_124 : List IT := [(124, .aload_n 0, 1, 0, 0, []), (125, .iload_n 3, 1, 0, 0, []), (126, .iload_n 2, 1, 0, 0, []), (127, .invokevirtual 237, 3, 0, 0, []), (130, .iconst 1, 1, 1, 0, []), (131, .ireturn, 1, 0, 0, [])]
theorem ok_Pro_haltOrUnary_124 : blkOK b_Pro_haltOrUnary pt_Pro 132 I_Pro_haltOrUnary_124 = true := by decide +kernel
def I_Pro_haltOrUnary_132 : List IT := [(132, .aload_n 0, 1, 0, 0, []), (133, .iload_n 3, 1, 0, 0, []), (134, .iload_n 2, 1, 0, 0, []), (135, .invokevirtual 241, 3, 0, 0, []), (138, .ifCond .ne 8, 3, 0, 146, []), (141, .aload_n 0, 1, 0, 0, []), (142, .iconst 0, 1, 0, 0, []), (143, .invokevirtual 61, 3, 0, 0, [])]
theorem ok_Pro_haltOrUnary_132 : blkOK b_Pro_haltOrUnary pt_Pro 146 I_Pro_haltOrUnary_132 = true := by decide +kernel
def I_Pro_haltOrUnary_146 : List IT := [(146, .iconst 1, 1, 1, 0, []), (147, .ireturn, 1, 0, 0, [])]
theorem ok_Pro_haltOrUnary_146 : blkOK b_Pro_haltOrUnary pt_Pro 148 I_Pro_haltOrUnary_146 = true := by decide +kernel
def I_Pro_haltOrUnary_148 : List IT := [(148, .iconst 0, 1, 0, 0, []), (149, .ireturn, 1, 0, 0, [])]
theorem ok_Pro_haltOrUnary_148 : blkOK b_Pro_haltOrUnary pt_Pro 150 I_Pro_haltOrUnary_148 = true := by decide +kernel
def f_Pro_haltOrUnary_35 (σ : Sg) (y0 : Int32) : Int32 × Sg := (bnd (f_Dec_readModrm σ y0) fun r1 => bnd (f_Dec_value r1) fun r2 => (if (r2.2 14 5) = (2 : Int32) then (bnd (f_Dec_change r2.2 (r2.1 ^^^ (-1 : Int32))) fun r4 => ((1 : Int32), r4)) else (if (r2.2 14 5) = (3 : Int32) then (bnd (f_Fla_difference r2.2 (0 : Int32) r2.1 (0 : Int32) y0) fun r6 => bnd (f_Dec_change r6.2 r6.1) fun r7 => ((1 : Int32), r7)) else (if (r2.2 14 5) = (4 : Int32) then (bnd (f_Pro_multiply r2.2 r2.1 y0) fun r9 => ((1 : Int32), r9)) else (if (r2.2 14 5) = (5 : Int32) then ((0 : Int32), r2.2) else (if (r2.2 14 5) = (6 : Int32) then (bnd (f_Pro_divide r2.2 r2.1 y0) fun r12 => (if r12.1 = (0 : Int32) then (bnd (f_Pro_interrupt r12.2 (0 : Int32)) fun r14 => ((1 : Int32), r14)) else ((1 : Int32), r12.2))) else ((0 : Int32), r2.2)))))))
theorem z_Pro_haltOrUnary_35 {σ : Sg} {y0 : Int32} (z_y0 : y0 = 0 ∨ y0 = 1)  : (f_Pro_haltOrUnary_35 σ y0).1 = 0 ∨ (f_Pro_haltOrUnary_35 σ y0).1 = 1 := by
  show Zb (f_Pro_haltOrUnary_35 σ y0)
  unfold f_Pro_haltOrUnary_35
  refine bnd_z fun r1 e1 => ?_
  refine bnd_z fun r2 e2 => ?_
  refine ite_z (fun h3 => ?_) (fun h3 => ?_)
  · refine bnd_z fun r4 e4 => ?_
    exact (Or.inr rfl)
  refine ite_z (fun h5 => ?_) (fun h5 => ?_)
  · refine bnd_z fun r6 e6 => ?_
    refine bnd_z fun r7 e7 => ?_
    exact (Or.inr rfl)
  refine ite_z (fun h8 => ?_) (fun h8 => ?_)
  · refine bnd_z fun r9 e9 => ?_
    exact (Or.inr rfl)
  refine ite_z (fun h10 => ?_) (fun h10 => ?_)
  · exact (Or.inl rfl)
  refine ite_z (fun h11 => ?_) (fun h11 => ?_)
  · refine bnd_zz (Z := Zb) (z_Pro_divide) fun r12 e12 z12 => ?_
    refine ite_z (fun h13 => ?_) (fun h13 => ?_)
    · refine bnd_z fun r14 e14 => ?_
      exact (Or.inr rfl)
    · exact (Or.inr rfl)
  exact (Or.inl rfl)
abbrev w_Pro_haltOrUnary_35 : List (Nat × Option Nat) := [(2, none), (3, some 2), (4, none), (5, none), (6, some 0), (12, some 7), (14, some 5), (14, some 6), (14, some 7), (14, some 9), (14, some 10), (14, some 11)]
theorem p_Pro_haltOrUnary_35 {P : Sg → Prop} (hP : WP w_Pro_haltOrUnary_35 P) {σ : Sg} {y0 : Int32} (h : P σ) : PP P (f_Pro_haltOrUnary_35 σ y0) := by
  unfold f_Pro_haltOrUnary_35
  refine bnd_zz (Z := P) (p_Dec_readModrm (wsub hP rfl) h) fun r1 e1 q1 => ?_
  refine bnd_zz (Z := PP P) (p_Dec_value (wsub hP rfl) q1) fun r2 e2 q2 => ?_
  refine ite_z (fun _ => ?_) (fun _ => ?_)
  · refine bnd_zz (Z := P) (p_Dec_change (wsub hP rfl) q2) fun r4 e4 q4 => ?_
    exact q4
  refine ite_z (fun _ => ?_) (fun _ => ?_)
  · refine bnd_zz (Z := PP P) (p_Fla_difference (wsub hP rfl) q2) fun r6 e6 q6 => ?_
    refine bnd_zz (Z := P) (p_Dec_change (wsub hP rfl) q6) fun r7 e7 q7 => ?_
    exact q7
  refine ite_z (fun _ => ?_) (fun _ => ?_)
  · refine bnd_zz (Z := P) (p_Pro_multiply (wsub hP rfl) q2) fun r9 e9 q9 => ?_
    exact q9
  refine ite_z (fun _ => ?_) (fun _ => ?_)
  · exact q2
  refine ite_z (fun _ => ?_) (fun _ => ?_)
  · refine bnd_zz (Z := PP P) (p_Pro_divide (wsub hP rfl) q2) fun r12 e12 q12 => ?_
    refine ite_z (fun _ => ?_) (fun _ => ?_)
    · refine bnd_zz (Z := P) (p_Pro_interrupt (wsub hP rfl) q12) fun r14 e14 q14 => ?_
      exact q14
    · exact q12
  exact q2
set_option maxRecDepth 100000 in
set_option maxHeartbeats 4000000 in
theorem b_Pro_haltOrUnary_35 {l : Launch} {ad : Nat → Nat} {D : va_G} {cI : ClassId} {K : Option Value → Sg → Prop} {X : Nat → List Value → List Value → Sg → Prop} (hX : Cl l ad D cI mi_Pro_haltOrUnary pt_Pro K X) {σ : Sg} {y0 : Int32} (z_y0 : y0 = 0 ∨ y0 = 1)  (hK : KI K (f_Pro_haltOrUnary_35 σ y0)) : X 35 [.ref 12, .null, .null, .null] [.int y0] σ := by
  unfold f_Pro_haltOrUnary_35 at hK
  refine hX.1 92 I_Pro_haltOrUnary_35 ok_Pro_haltOrUnary_35 _ _ _ ?_
  refine s_Dec_readModrm z_y0 (bnd_g hK fun r1 e1 hK => ?_)
  refine s_Dec_value (bnd_g hK fun r2 e2 hK => ?_)
  refine And.intro (fun h3 => ?_) (fun h3 => ?_)
  · have hK := ite_p hK h3
    refine hX.1 104 I_Pro_haltOrUnary_92 ok_Pro_haltOrUnary_92 _ _ _ ?_
    refine s_Dec_change (bnd_g hK fun r4 e4 hK => ?_)
    exact And.intro (Or.inr rfl) hK
  have hK := ite_n hK h3
  refine And.intro (fun h5 => ?_) (fun h5 => ?_)
  · have hK := ite_p hK h5
    refine hX.1 124 I_Pro_haltOrUnary_104 ok_Pro_haltOrUnary_104 _ _ _ ?_
    refine s_Fla_difference (bnd_g hK fun r6 e6 hK => ?_)
    refine s_Dec_change (bnd_g hK fun r7 e7 hK => ?_)
    exact And.intro (Or.inr rfl) hK
  have hK := ite_n hK h5
  refine And.intro (fun h8 => ?_) (fun h8 => ?_)
  · have hK := ite_p hK h8
    refine hX.1 132 I_Pro_haltOrUnary_124 ok_Pro_haltOrUnary_124 _ _ _ ?_
    refine s_Pro_multiply (bnd_g hK fun r9 e9 hK => ?_)
    exact And.intro (Or.inr rfl) hK
  have hK := ite_n hK h8
  refine And.intro (fun h10 => ?_) (fun h10 => ?_)
  · have hK := ite_p hK h10
    refine hX.1 150 I_Pro_haltOrUnary_148 ok_Pro_haltOrUnary_148 _ _ _ ?_
    exact And.intro (Or.inl rfl) hK
  have hK := ite_n hK h10
  refine And.intro (fun h11 => ?_) (fun h11 => ?_)
  · have hK := ite_p hK h11
    refine hX.1 146 I_Pro_haltOrUnary_132 ok_Pro_haltOrUnary_132 _ _ _ ?_
    refine s_Pro_divide (bnd_g hK fun r12 e12 hK => ?_)
    have z12 : r12.1 = 0 ∨ r12.1 = 1 := by rw [← e12]; exact z_Pro_divide
    refine And.intro (fun h13 => ?_) (fun h13 => ?_)
    · have hK := ite_p hK h13
      refine s_Pro_interrupt (bnd_g hK fun r14 e14 hK => ?_)
      refine hX.1 148 I_Pro_haltOrUnary_146 ok_Pro_haltOrUnary_146 _ _ _ ?_
      exact And.intro (Or.inr rfl) hK
    · have hK := ite_n hK h13
      refine hX.1 148 I_Pro_haltOrUnary_146 ok_Pro_haltOrUnary_146 _ _ _ ?_
      exact And.intro (Or.inr rfl) hK
  have hK := ite_n hK h11
  refine hX.1 150 I_Pro_haltOrUnary_148 ok_Pro_haltOrUnary_148 _ _ _ ?_
  exact And.intro (Or.inl rfl) hK
def f_Pro_haltOrUnary (σ : Sg) (a1 : Int32) : Int32 × Sg := (if a1 = (244 : Int32) then (bnd (up2 σ 12 6 (1 : Int32)) fun s2 => ((1 : Int32), s2)) else (if (246 : Int32) ≤ a1 then (if a1 = (247 : Int32) then (f_Pro_haltOrUnary_35 σ (1 : Int32)) else (f_Pro_haltOrUnary_35 σ (0 : Int32))) else ((0 : Int32), σ)))
theorem z_Pro_haltOrUnary {σ : Sg} {a1 : Int32}   : (f_Pro_haltOrUnary σ a1).1 = 0 ∨ (f_Pro_haltOrUnary σ a1).1 = 1 := by
  show Zb (f_Pro_haltOrUnary σ a1)
  unfold f_Pro_haltOrUnary
  refine ite_z (fun h1 => ?_) (fun h1 => ?_)
  · refine bnd_z fun s2 e2 => ?_
    exact (Or.inr rfl)
  · refine ite_z (fun h3 => ?_) (fun h3 => ?_)
    · refine ite_z (fun h4 => ?_) (fun h4 => ?_)
      · exact z_Pro_haltOrUnary_35 (Or.inr rfl)
      · exact z_Pro_haltOrUnary_35 (Or.inl rfl)
    · exact (Or.inl rfl)
abbrev w_Pro_haltOrUnary : List (Nat × Option Nat) := [(2, none), (3, some 2), (4, none), (5, none), (6, some 0), (12, some 6), (12, some 7), (14, some 5), (14, some 6), (14, some 7), (14, some 9), (14, some 10), (14, some 11)]
theorem p_Pro_haltOrUnary {P : Sg → Prop} (hP : WP w_Pro_haltOrUnary P) {σ : Sg} {a1 : Int32} (h : P σ) : PP P (f_Pro_haltOrUnary σ a1) := by
  unfold f_Pro_haltOrUnary
  refine ite_z (fun _ => ?_) (fun _ => ?_)
  · refine bnd_zz (Z := P) (hP _ _ _ _ (Or.inr (by decide)) h) fun s2 e2 q2 => ?_
    exact q2
  · refine ite_z (fun _ => ?_) (fun _ => ?_)
    · refine ite_z (fun _ => ?_) (fun _ => ?_)
      · exact p_Pro_haltOrUnary_35 (wsub hP rfl) h
      · exact p_Pro_haltOrUnary_35 (wsub hP rfl) h
    · exact h
set_option maxRecDepth 100000 in
set_option maxHeartbeats 4000000 in
theorem s_Pro_haltOrUnary {l : Launch} {ad : Nat → Nat} {D : va_G} {cI : ClassId} {σ : Sg} {a1 : Int32} {K : Option Value → Sg → Prop}   (hK : KI K (f_Pro_haltOrUnary σ a1)) : MetJ l ad D cI mi_Pro_haltOrUnary [.ref 12, .int a1] σ K := by
  refine met_of mi_Pro_haltOrUnary pt_Pro pt_Pro_in rfl pl_Pro rfl (Nat.le_of_ble_eq_true rfl) fun X hX => ?_
  have hX : Cl l ad D cI mi_Pro_haltOrUnary pt_Pro K X := hX
  show X 0 [.ref 12, .int a1, .null, .null] [] σ
  unfold f_Pro_haltOrUnary at hK
  refine hX.1 14 I_Pro_haltOrUnary_0 ok_Pro_haltOrUnary_0 _ _ _ ?_
  refine And.intro (fun h1 => ?_) (fun h1 => ?_)
  · have hK := ite_p hK h1
    refine And.intro (Or.inr rfl) (SG_g hK fun s2 e2 hK => ?_)
    exact And.intro (Or.inr rfl) hK
  · have hK := ite_n hK h1
    refine hX.1 23 I_Pro_haltOrUnary_14 ok_Pro_haltOrUnary_14 _ _ _ ?_
    refine And.intro (fun h3 => ?_) (fun h3 => ?_)
    · have hK := ite_p hK h3
      refine hX.1 34 I_Pro_haltOrUnary_23 ok_Pro_haltOrUnary_23 _ _ _ ?_
      refine And.intro (fun h4 => ?_) (fun h4 => ?_)
      · have hK := ite_p hK h4
        refine hX.fg [1] ?_
        exact b_Pro_haltOrUnary_35 hX (Or.inr rfl) hK
      · have hK := ite_n hK h4
        refine hX.1 35 I_Pro_haltOrUnary_34 ok_Pro_haltOrUnary_34 _ _ _ ?_
        refine hX.fg [1] ?_
        exact b_Pro_haltOrUnary_35 hX (Or.inl rfl) hK
    · have hK := ite_n hK h3
      exact And.intro (Or.inl rfl) hK
def I_Pro_setFlag_0 : List IT := [(0, .iload_n 1, 1, 0, 0, []), (1, .sipush 250, 3, 250, 0, []), (4, .if_icmp .ge 7, 3, 0, 11, []), (7, .iconst 1, 1, 1, 0, []), (8, .goto 19, 3, 0, 27, [])]
theorem ok_Pro_setFlag_0 : blkOK b_Pro_setFlag pt_Pro 11 I_Pro_setFlag_0 = true := by decide +kernel
def I_Pro_setFlag_11 : List IT := [(11, .iload_n 1, 1, 0, 0, []), (12, .sipush 252, 3, 252, 0, []), (15, .if_icmp .ge 9, 3, 0, 24, []), (18, .sipush 512, 3, 512, 0, []), (21, .goto 6, 3, 0, 27, [])]
theorem ok_Pro_setFlag_11 : blkOK b_Pro_setFlag pt_Pro 24 I_Pro_setFlag_11 = true := by decide +kernel
def I_Pro_setFlag_24 : List IT := [(24, .sipush 1024, 3, 1024, 0, [])]
theorem ok_Pro_setFlag_24 : blkOK b_Pro_setFlag pt_Pro 27 I_Pro_setFlag_24 = true := by decide +kernel
def I_Pro_setFlag_27 : List IT := [(27, .istore_n 2, 1, 0, 0, []), (28, .aload_n 0, 1, 0, 0, []), (29, .getfield 17, 3, 0, 0, []), (32, .iload_n 2, 1, 0, 0, []), (33, .iload_n 1, 1, 0, 0, []), (34, .iconst 1, 1, 1, 0, []), (35, .iand, 1, 0, 0, []), (36, .iconst 1, 1, 1, 0, []), (37, .if_icmp .ne 7, 3, 0, 44, []), (40, .iconst 1, 1, 1, 0, []), (41, .goto 4, 3, 0, 45, [])]
theorem ok_Pro_setFlag_27 : blkOK b_Pro_setFlag pt_Pro 44 I_Pro_setFlag_27 = true := by decide +kernel
def I_Pro_setFlag_44 : List IT := [(44, .iconst 0, 1, 0, 0, [])]
theorem ok_Pro_setFlag_44 : blkOK b_Pro_setFlag pt_Pro 45 I_Pro_setFlag_44 = true := by decide +kernel
def I_Pro_setFlag_45 : List IT := [(45, .invokevirtual 247, 3, 0, 0, []), (48, .aload_n 0, 1, 0, 0, []), (49, .iload_n 1, 1, 0, 0, []), (50, .sipush 251, 3, 251, 0, []), (53, .if_icmp .ne 7, 3, 0, 60, []), (56, .iconst 1, 1, 1, 0, []), (57, .goto 4, 3, 0, 61, [])]
theorem ok_Pro_setFlag_45 : blkOK b_Pro_setFlag pt_Pro 60 I_Pro_setFlag_45 = true := by decide +kernel
def I_Pro_setFlag_60 : List IT := [(60, .iconst 0, 1, 0, 0, [])]
theorem ok_Pro_setFlag_60 : blkOK b_Pro_setFlag pt_Pro 61 I_Pro_setFlag_60 = true := by decide +kernel
def I_Pro_setFlag_61 : List IT := [(61, .putfield 44, 3, 0, 0, []), (64, .iconst 1, 1, 1, 0, []), (65, .ireturn, 1, 0, 0, [])]
theorem ok_Pro_setFlag_61 : blkOK b_Pro_setFlag pt_Pro 66 I_Pro_setFlag_61 = true := by decide +kernel
def f_Pro_setFlag_45 (σ : Sg) (x1 : Int32) (y0 : Int32) (y1 : Int32) : Int32 × Sg := (bnd (f_Fla_set σ y1 y0) fun r1 => (if x1 = (251 : Int32) then (bnd (up2 r1 12 8 (1 : Int32)) fun s3 => ((1 : Int32), s3)) else (bnd (up2 r1 12 8 (0 : Int32)) fun s4 => ((1 : Int32), s4))))
theorem z_Pro_setFlag_45 {σ : Sg} {x1 : Int32} {y0 : Int32} {y1 : Int32} (z_y0 : y0 = 0 ∨ y0 = 1)  : (f_Pro_setFlag_45 σ x1 y0 y1).1 = 0 ∨ (f_Pro_setFlag_45 σ x1 y0 y1).1 = 1 := by
  show Zb (f_Pro_setFlag_45 σ x1 y0 y1)
  unfold f_Pro_setFlag_45
  refine bnd_z fun r1 e1 => ?_
  refine ite_z (fun h2 => ?_) (fun h2 => ?_)
  · refine bnd_z fun s3 e3 => ?_
    exact (Or.inr rfl)
  · refine bnd_z fun s4 e4 => ?_
    exact (Or.inr rfl)
abbrev w_Pro_setFlag_45 : List (Nat × Option Nat) := [(6, some 0), (12, some 8)]
theorem p_Pro_setFlag_45 {P : Sg → Prop} (hP : WP w_Pro_setFlag_45 P) {σ : Sg} {x1 : Int32} {y0 : Int32} {y1 : Int32} (h : P σ) : PP P (f_Pro_setFlag_45 σ x1 y0 y1) := by
  unfold f_Pro_setFlag_45
  refine bnd_zz (Z := P) (p_Fla_set (wsub hP rfl) h) fun r1 e1 q1 => ?_
  refine ite_z (fun _ => ?_) (fun _ => ?_)
  · refine bnd_zz (Z := P) (hP _ _ _ _ (Or.inr (by decide)) q1) fun s3 e3 q3 => ?_
    exact q3
  · refine bnd_zz (Z := P) (hP _ _ _ _ (Or.inr (by decide)) q1) fun s4 e4 q4 => ?_
    exact q4
set_option maxRecDepth 100000 in
set_option maxHeartbeats 4000000 in
theorem b_Pro_setFlag_45 {l : Launch} {ad : Nat → Nat} {D : va_G} {cI : ClassId} {K : Option Value → Sg → Prop} {X : Nat → List Value → List Value → Sg → Prop} (hX : Cl l ad D cI mi_Pro_setFlag pt_Pro K X) {σ : Sg} {x1 : Int32} {y0 : Int32} {y1 : Int32} (z_y0 : y0 = 0 ∨ y0 = 1)  (hK : KI K (f_Pro_setFlag_45 σ x1 y0 y1)) : X 45 [.ref 12, .int x1, .null] [.int y0, .int y1, .ref 6] σ := by
  unfold f_Pro_setFlag_45 at hK
  refine hX.1 60 I_Pro_setFlag_45 ok_Pro_setFlag_45 _ _ _ ?_
  refine s_Fla_set (bnd_g hK fun r1 e1 hK => ?_)
  refine And.intro (fun h2 => ?_) (fun h2 => ?_)
  · have hK := ite_p hK h2
    refine hX.1 66 I_Pro_setFlag_61 ok_Pro_setFlag_61 _ _ _ ?_
    refine And.intro (Or.inr rfl) (SG_g hK fun s3 e3 hK => ?_)
    exact And.intro (Or.inr rfl) hK
  · have hK := ite_n hK h2
    refine hX.1 61 I_Pro_setFlag_60 ok_Pro_setFlag_60 _ _ _ ?_
    refine hX.1 66 I_Pro_setFlag_61 ok_Pro_setFlag_61 _ _ _ ?_
    refine And.intro (Or.inl rfl) (SG_g hK fun s4 e4 hK => ?_)
    exact And.intro (Or.inr rfl) hK
def f_Pro_setFlag_27 (σ : Sg) (x1 : Int32) (y0 : Int32) : Int32 × Sg := (if (x1 &&& (1 : Int32)) = (1 : Int32) then (f_Pro_setFlag_45 σ x1 (1 : Int32) y0) else (f_Pro_setFlag_45 σ x1 (0 : Int32) y0))
theorem z_Pro_setFlag_27 {σ : Sg} {x1 : Int32} {y0 : Int32}   : (f_Pro_setFlag_27 σ x1 y0).1 = 0 ∨ (f_Pro_setFlag_27 σ x1 y0).1 = 1 := by
  show Zb (f_Pro_setFlag_27 σ x1 y0)
  unfold f_Pro_setFlag_27
  refine ite_z (fun h1 => ?_) (fun h1 => ?_)
  · exact z_Pro_setFlag_45 (Or.inr rfl)
  · exact z_Pro_setFlag_45 (Or.inl rfl)
abbrev w_Pro_setFlag_27 : List (Nat × Option Nat) := [(6, some 0), (12, some 8)]
theorem p_Pro_setFlag_27 {P : Sg → Prop} (hP : WP w_Pro_setFlag_27 P) {σ : Sg} {x1 : Int32} {y0 : Int32} (h : P σ) : PP P (f_Pro_setFlag_27 σ x1 y0) := by
  unfold f_Pro_setFlag_27
  refine ite_z (fun _ => ?_) (fun _ => ?_)
  · exact p_Pro_setFlag_45 (wsub hP rfl) h
  · exact p_Pro_setFlag_45 (wsub hP rfl) h
set_option maxRecDepth 100000 in
set_option maxHeartbeats 4000000 in
theorem b_Pro_setFlag_27 {l : Launch} {ad : Nat → Nat} {D : va_G} {cI : ClassId} {K : Option Value → Sg → Prop} {X : Nat → List Value → List Value → Sg → Prop} (hX : Cl l ad D cI mi_Pro_setFlag pt_Pro K X) {σ : Sg} {x1 : Int32} {y0 : Int32}   (hK : KI K (f_Pro_setFlag_27 σ x1 y0)) : X 27 [.ref 12, .int x1, .null] [.int y0] σ := by
  unfold f_Pro_setFlag_27 at hK
  refine hX.1 44 I_Pro_setFlag_27 ok_Pro_setFlag_27 _ _ _ ?_
  refine And.intro (fun h1 => ?_) (fun h1 => ?_)
  · have hK := ite_p hK h1
    refine hX.fg [2] ?_
    exact b_Pro_setFlag_45 hX (Or.inr rfl) hK
  · have hK := ite_n hK h1
    refine hX.1 45 I_Pro_setFlag_44 ok_Pro_setFlag_44 _ _ _ ?_
    refine hX.fg [2] ?_
    exact b_Pro_setFlag_45 hX (Or.inl rfl) hK
def f_Pro_setFlag (σ : Sg) (a1 : Int32) : Int32 × Sg := (if (250 : Int32) ≤ a1 then (if (252 : Int32) ≤ a1 then (f_Pro_setFlag_27 σ a1 (1024 : Int32)) else (f_Pro_setFlag_27 σ a1 (512 : Int32))) else (f_Pro_setFlag_27 σ a1 (1 : Int32)))
theorem z_Pro_setFlag {σ : Sg} {a1 : Int32}   : (f_Pro_setFlag σ a1).1 = 0 ∨ (f_Pro_setFlag σ a1).1 = 1 := by
  show Zb (f_Pro_setFlag σ a1)
  unfold f_Pro_setFlag
  refine ite_z (fun h1 => ?_) (fun h1 => ?_)
  · refine ite_z (fun h2 => ?_) (fun h2 => ?_)
    · exact z_Pro_setFlag_27
    · exact z_Pro_setFlag_27
  · exact z_Pro_setFlag_27
abbrev w_Pro_setFlag : List (Nat × Option Nat) := [(6, some 0), (12, some 8)]
theorem p_Pro_setFlag {P : Sg → Prop} (hP : WP w_Pro_setFlag P) {σ : Sg} {a1 : Int32} (h : P σ) : PP P (f_Pro_setFlag σ a1) := by
  unfold f_Pro_setFlag
  refine ite_z (fun _ => ?_) (fun _ => ?_)
  · refine ite_z (fun _ => ?_) (fun _ => ?_)
    · exact p_Pro_setFlag_27 (wsub hP rfl) h
    · exact p_Pro_setFlag_27 (wsub hP rfl) h
  · exact p_Pro_setFlag_27 (wsub hP rfl) h
set_option maxRecDepth 100000 in
set_option maxHeartbeats 4000000 in
theorem s_Pro_setFlag {l : Launch} {ad : Nat → Nat} {D : va_G} {cI : ClassId} {σ : Sg} {a1 : Int32} {K : Option Value → Sg → Prop}   (hK : KI K (f_Pro_setFlag σ a1)) : MetJ l ad D cI mi_Pro_setFlag [.ref 12, .int a1] σ K := by
  refine met_of mi_Pro_setFlag pt_Pro pt_Pro_in rfl pl_Pro rfl (Nat.le_of_ble_eq_true rfl) fun X hX => ?_
  have hX : Cl l ad D cI mi_Pro_setFlag pt_Pro K X := hX
  show X 0 [.ref 12, .int a1, .null] [] σ
  unfold f_Pro_setFlag at hK
  refine hX.1 11 I_Pro_setFlag_0 ok_Pro_setFlag_0 _ _ _ ?_
  refine And.intro (fun h1 => ?_) (fun h1 => ?_)
  · have hK := ite_p hK h1
    refine hX.1 24 I_Pro_setFlag_11 ok_Pro_setFlag_11 _ _ _ ?_
    refine And.intro (fun h2 => ?_) (fun h2 => ?_)
    · have hK := ite_p hK h2
      refine hX.1 27 I_Pro_setFlag_24 ok_Pro_setFlag_24 _ _ _ ?_
      exact b_Pro_setFlag_27 hX  hK
    · have hK := ite_n hK h2
      exact b_Pro_setFlag_27 hX  hK
  · have hK := ite_n hK h1
    exact b_Pro_setFlag_27 hX  hK
end
section
def I_Pro_perform_0 : List IT := [(0, .iload_n 1, 1, 0, 0, []), (1, .iconst 4, 1, 4, 0, []), (2, .ishr, 1, 0, 0, []), (3, .tableswitch 224 0 15 #[77, 77, 77, 77, 100, 106, 224, 112, 121, 142, 155, 161, 167, 224, 173, 179], 77, 0, 227, [(0, 80), (1, 80), (2, 80), (3, 80), (4, 103), (5, 109), (6, 227), (7, 115), (8, 124), (9, 145), (10, 158), (11, 164), (12, 170), (13, 227), (14, 176), (15, 182)])]
theorem ok_Pro_perform_0 : blkOK b_Pro_perform pt_Pro 80 I_Pro_perform_0 = true := by decide +kernel
def I_Pro_perform_80 : List IT := [(80, .iload_n 1, 1, 0, 0, []), (81, .bipush 7, 2, 7, 0, []), (83, .iand, 1, 0, 0, []), (84, .bipush 6, 2, 6, 0, []), (86, .if_icmp .ge 11, 3, 0, 97, []), (89, .aload_n 0, 1, 0, 0, []), (90, .iload_n 1, 1, 0, 0, []), (91, .invokevirtual 83, 3, 0, 0, []), (94, .goto 8, 3, 0, 102, [])]
theorem ok_Pro_perform_80 : blkOK b_Pro_perform pt_Pro 97 I_Pro_perform_80 = true := by decide +kernel
def I_Pro_perform_97 : List IT := [(97, .aload_n 0, 1, 0, 0, []), (98, .iload_n 1, 1, 0, 0, []), (99, .invokevirtual 86, 3, 0, 0, [])]
theorem ok_Pro_perform_97 : blkOK b_Pro_perform pt_Pro 102 I_Pro_perform_97 = true := by decide +kernel
def I_Pro_perform_102 : List IT := [(102, .ireturn, 1, 0, 0, [])]
theorem ok_Pro_perform_102 : blkOK b_Pro_perform pt_Pro 103 I_Pro_perform_102 = true := by decide +kernel
def I_Pro_perform_103 : List IT := [(103, .aload_n 0, 1, 0, 0, []), (104, .iload_n 1, 1, 0, 0, []), (105, .invokevirtual 89, 3, 0, 0, []), (108, .ireturn, 1, 0, 0, [])]
theorem ok_Pro_perform_103 : blkOK b_Pro_perform pt_Pro 109 I_Pro_perform_103 = true := by decide +kernel
def I_Pro_perform_109 : List IT := [(109, .aload_n 0, 1, 0, 0, []), (110, .iload_n 1, 1, 0, 0, []), (111, .invokevirtual 92, 3, 0, 0, []), (114, .ireturn, 1, 0, 0, [])]
theorem ok_Pro_perform_109 : blkOK b_Pro_perform pt_Pro 115 I_Pro_perform_109 = true := by decide +kernel
def I_Pro_perform_115 : List IT := [(115, .aload_n 0, 1, 0, 0, []), (116, .iload_n 1, 1, 0, 0, []), (117, .bipush 15, 2, 15, 0, []), (119, .iand, 1, 0, 0, []), (120, .invokevirtual 95, 3, 0, 0, []), (123, .ireturn, 1, 0, 0, [])]
theorem ok_Pro_perform_115 : blkOK b_Pro_perform pt_Pro 124 I_Pro_perform_115 = true := by decide +kernel
def I_Pro_perform_124 : List IT := [(124, .iload_n 1, 1, 0, 0, []), (125, .sipush 136, 3, 136, 0, []), (128, .if_icmp .ge 11, 3, 0, 139, []), (131, .aload_n 0, 1, 0, 0, []), (132, .iload_n 1, 1, 0, 0, []), (133, .invokevirtual 98, 3, 0, 0, []), (136, .goto 8, 3, 0, 144, [])]
theorem ok_Pro_perform_124 : blkOK b_Pro_perform pt_Pro 139 I_Pro_perform_124 = true := by decide +kernel
def I_Pro_perform_139 : List IT := [(139, .aload_n 0, 1, 0, 0, []), (140, .iload_n 1, 1, 0, 0, []), (141, .invokevirtual 101, 3, 0, 0, [])]
theorem ok_Pro_perform_139 : blkOK b_Pro_perform pt_Pro 144 I_Pro_perform_139 = true := by decide +kernel
def I_Pro_perform_144 : List IT := [(144, .ireturn, 1, 0, 0, [])]
theorem ok_Pro_perform_144 : blkOK b_Pro_perform pt_Pro 145 I_Pro_perform_144 = true := by decide +kernel
def I_Pro_perform_145 : List IT := [(145, .iload_n 1, 1, 0, 0, []), (146, .sipush 144, 3, 144, 0, []), (149, .if_icmp .ne 7, 3, 0, 156, []), (152, .iconst 1, 1, 1, 0, []), (153, .goto 4, 3, 0, 157, [])]
theorem ok_Pro_perform_145 : blkOK b_Pro_perform pt_Pro 156 I_Pro_perform_145 = true := by decide +kernel
def I_Pro_perform_156 : List IT := [(156, .iconst 0, 1, 0, 0, [])]
theorem ok_Pro_perform_156 : blkOK b_Pro_perform pt_Pro 157 I_Pro_perform_156 = true := by decide +kernel
def I_Pro_perform_157 : List IT := [(157, .ireturn, 1, 0, 0, [])]
theorem ok_Pro_perform_157 : blkOK b_Pro_perform pt_Pro 158 I_Pro_perform_157 = true := by decide +kernel
def I_Pro_perform_158 : List IT := [(158, .aload_n 0, 1, 0, 0, []), (159, .iload_n 1, 1, 0, 0, []), (160, .invokevirtual 104, 3, 0, 0, []), (163, .ireturn, 1, 0, 0, [])]
theorem ok_Pro_perform_158 : blkOK b_Pro_perform pt_Pro 164 I_Pro_perform_158 = true := by decide +kernel
def I_Pro_perform_164 : List IT := [(164, .aload_n 0, 1, 0, 0, []), (165, .iload_n 1, 1, 0, 0, []), (166, .invokevirtual 107, 3, 0, 0, []), (169, .ireturn, 1, 0, 0, [])]
theorem ok_Pro_perform_164 : blkOK b_Pro_perform pt_Pro 170 I_Pro_perform_164 = true := by decide +kernel
def I_Pro_perform_170 : List IT := [(170, .aload_n 0, 1, 0, 0, []), (171, .iload_n 1, 1, 0, 0, []), (172, .invokevirtual 110, 3, 0, 0, []), (175, .ireturn, 1, 0, 0, [])]
theorem ok_Pro_perform_170 : blkOK b_Pro_perform pt_Pro 176 I_Pro_perform_170 = true := by decide +kernel
def I_Pro_perform_176 : List IT := [(176, .aload_n 0, 1, 0, 0, []), (177, .iload_n 1, 1, 0, 0, []), (178, .invokevirtual 113, 3, 0, 0, []), (181, .ireturn, 1, 0, 0, [])]
theorem ok_Pro_perform_176 : blkOK b_Pro_perform pt_Pro 182 I_Pro_perform_176 = true := by decide +kernel
def I_Pro_perform_182 : List IT := [(182, .iload_n 1, 1, 0, 0, []), (183, .sipush 254, 3, 254, 0, []), (186, .if_icmp .lt 20, 3, 0, 206, []), (189, .aload_n 0, 1, 0, 0, []), (190, .iload_n 1, 1, 0, 0, []), (191, .sipush 255, 3, 255, 0, []), (194, .if_icmp .ne 7, 3, 0, 201, []), (197, .iconst 1, 1, 1, 0, []), (198, .goto 4, 3, 0, 202, [])]
theorem ok_Pro_perform_182 : blkOK b_Pro_perform pt_Pro 201 I_Pro_perform_182 = true := by decide +kernel
def I_Pro_perform_201 : List IT := [(201, .iconst 0, 1, 0, 0, [])]
theorem ok_Pro_perform_201 : blkOK b_Pro_perform pt_Pro 202 I_Pro_perform_201 = true := by decide +kernel
def I_Pro_perform_202 : List IT := [(202, .invokevirtual 116, 3, 0, 0, []), (205, .ireturn, 1, 0, 0, [])]
theorem ok_Pro_perform_202 : blkOK b_Pro_perform pt_Pro 206 I_Pro_perform_202 = true := by decide +kernel
def I_Pro_perform_206 : List IT := [(206, .iload_n 1, 1, 0, 0, []), (207, .sipush 248, 3, 248, 0, []), (210, .if_icmp .ge 11, 3, 0, 221, []), (213, .aload_n 0, 1, 0, 0, []), (214, .iload_n 1, 1, 0, 0, []), (215, .invokevirtual 120, 3, 0, 0, []), (218, .goto 8, 3, 0, 226, [])]
theorem ok_Pro_perform_206 : blkOK b_Pro_perform pt_Pro 221 I_Pro_perform_206 = true := by decide +kernel
def I_Pro_perform_221 : List IT := [(221, .aload_n 0, 1, 0, 0, []), (222, .iload_n 1, 1, 0, 0, []), (223, .invokevirtual 123, 3, 0, 0, [])]
theorem ok_Pro_perform_221 : blkOK b_Pro_perform pt_Pro 226 I_Pro_perform_221 = true := by decide +kernel
def I_Pro_perform_226 : List IT := [(226, .ireturn, 1, 0, 0, [])]
theorem ok_Pro_perform_226 : blkOK b_Pro_perform pt_Pro 227 I_Pro_perform_226 = true := by decide +kernel
def I_Pro_perform_227 : List IT := [(227, .iconst 0, 1, 0, 0, []), (228, .ireturn, 1, 0, 0, [])]
theorem ok_Pro_perform_227 : blkOK b_Pro_perform pt_Pro 229 I_Pro_perform_227 = true := by decide +kernel
def f_Pro_perform_80 (σ : Sg) (x1 : Int32) : Int32 × Sg := (if (6 : Int32) ≤ (x1 &&& (7 : Int32)) then (bnd (f_Pro_segmentOnStack σ x1) fun r2 => (r2.1, r2.2)) else (bnd (f_Pro_combine σ x1) fun r3 => (r3.1, r3.2)))
theorem z_Pro_perform_80 {σ : Sg} {x1 : Int32}  (hc : ¬ x1 < 0) : (f_Pro_perform_80 σ x1).1 = 0 ∨ (f_Pro_perform_80 σ x1).1 = 1 := by
  show Zb (f_Pro_perform_80 σ x1)
  unfold f_Pro_perform_80
  refine ite_z (fun h1 => ?_) (fun h1 => ?_)
  · refine bnd_zz (Z := Zb) (z_Pro_segmentOnStack (by assumption)) fun r2 e2 z2 => ?_
    exact z2
  · refine bnd_zz (Z := Zb) (z_Pro_combine) fun r3 e3 z3 => ?_
    exact z3
abbrev w_Pro_perform_80 : List (Nat × Option Nat) := [(2, none), (3, some 2), (4, none), (5, none), (6, some 0), (12, some 8), (14, some 5), (14, some 6), (14, some 7), (14, some 9), (14, some 10), (14, some 11)]
theorem p_Pro_perform_80 {P : Sg → Prop} (hP : WP w_Pro_perform_80 P) {σ : Sg} {x1 : Int32} (h : P σ) : PP P (f_Pro_perform_80 σ x1) := by
  unfold f_Pro_perform_80
  refine ite_z (fun _ => ?_) (fun _ => ?_)
  · refine bnd_zz (Z := PP P) (p_Pro_segmentOnStack (wsub hP rfl) h) fun r2 e2 q2 => ?_
    exact q2
  · refine bnd_zz (Z := PP P) (p_Pro_combine (wsub hP rfl) h) fun r3 e3 q3 => ?_
    exact q3
set_option maxRecDepth 100000 in
set_option maxHeartbeats 4000000 in
theorem b_Pro_perform_80 {l : Launch} {ad : Nat → Nat} {D : va_G} {cI : ClassId} {K : Option Value → Sg → Prop} {X : Nat → List Value → List Value → Sg → Prop} (hX : Cl l ad D cI mi_Pro_perform pt_Pro K X) {σ : Sg} {x1 : Int32}  (hc : ¬ x1 < 0) (hK : KI K (f_Pro_perform_80 σ x1)) : X 80 [.ref 12, .int x1] [] σ := by
  unfold f_Pro_perform_80 at hK
  refine hX.1 97 I_Pro_perform_80 ok_Pro_perform_80 _ _ _ ?_
  refine And.intro (fun h1 => ?_) (fun h1 => ?_)
  · have hK := ite_p hK h1
    refine hX.1 102 I_Pro_perform_97 ok_Pro_perform_97 _ _ _ ?_
    refine s_Pro_segmentOnStack (by assumption) (bnd_g hK fun r2 e2 hK => ?_)
    have z2 : r2.1 = 0 ∨ r2.1 = 1 := by rw [← e2]; exact z_Pro_segmentOnStack (by assumption)
    refine hX.1 103 I_Pro_perform_102 ok_Pro_perform_102 _ _ _ ?_
    exact And.intro z2 hK
  · have hK := ite_n hK h1
    refine s_Pro_combine (bnd_g hK fun r3 e3 hK => ?_)
    have z3 : r3.1 = 0 ∨ r3.1 = 1 := by rw [← e3]; exact z_Pro_combine
    refine hX.1 103 I_Pro_perform_102 ok_Pro_perform_102 _ _ _ ?_
    exact And.intro z3 hK
def f_Pro_perform_202 (σ : Sg) (y0 : Int32) : Int32 × Sg := (bnd (f_Pro_countOperand σ y0) fun r1 => (r1.1, r1.2))
theorem z_Pro_perform_202 {σ : Sg} {y0 : Int32} (z_y0 : y0 = 0 ∨ y0 = 1)  : (f_Pro_perform_202 σ y0).1 = 0 ∨ (f_Pro_perform_202 σ y0).1 = 1 := by
  show Zb (f_Pro_perform_202 σ y0)
  unfold f_Pro_perform_202
  refine bnd_zz (Z := Zb) (z_Pro_countOperand z_y0) fun r1 e1 z1 => ?_
  exact z1
abbrev w_Pro_perform_202 : List (Nat × Option Nat) := [(2, none), (3, some 2), (4, none), (6, some 0), (14, some 5), (14, some 6), (14, some 7), (14, some 9), (14, some 10), (14, some 11)]
theorem p_Pro_perform_202 {P : Sg → Prop} (hP : WP w_Pro_perform_202 P) {σ : Sg} {y0 : Int32} (h : P σ) : PP P (f_Pro_perform_202 σ y0) := by
  unfold f_Pro_perform_202
  refine bnd_zz (Z := PP P) (p_Pro_countOperand (wsub hP rfl) h) fun r1 e1 q1 => ?_
  exact q1
set_option maxRecDepth 100000 in
set_option maxHeartbeats 4000000 in
theorem b_Pro_perform_202 {l : Launch} {ad : Nat → Nat} {D : va_G} {cI : ClassId} {K : Option Value → Sg → Prop} {X : Nat → List Value → List Value → Sg → Prop} (hX : Cl l ad D cI mi_Pro_perform pt_Pro K X) {σ : Sg} {y0 : Int32} (z_y0 : y0 = 0 ∨ y0 = 1)  (hK : KI K (f_Pro_perform_202 σ y0)) : X 202 [.null, .null] [.int y0, .ref 12] σ := by
  unfold f_Pro_perform_202 at hK
  refine hX.1 206 I_Pro_perform_202 ok_Pro_perform_202 _ _ _ ?_
  refine s_Pro_countOperand z_y0 (bnd_g hK fun r1 e1 hK => ?_)
  have z1 : r1.1 = 0 ∨ r1.1 = 1 := by rw [← e1]; exact z_Pro_countOperand z_y0
  exact And.intro z1 hK
def f_Pro_perform (σ : Sg) (a1 : Int32) : Int32 × Sg := (if (a1 >>> ((4 : Int32) &&& 31 : Int32)) = (0 : Int32) then (f_Pro_perform_80 σ a1) else (if (a1 >>> ((4 : Int32) &&& 31 : Int32)) = (1 : Int32) then (f_Pro_perform_80 σ a1) else (if (a1 >>> ((4 : Int32) &&& 31 : Int32)) = (2 : Int32) then (f_Pro_perform_80 σ a1) else (if (a1 >>> ((4 : Int32) &&& 31 : Int32)) = (3 : Int32) then (f_Pro_perform_80 σ a1) else (if (a1 >>> ((4 : Int32) &&& 31 : Int32)) = (4 : Int32) then (bnd (f_Pro_countRegister σ a1) fun r6 => (r6.1, r6.2)) else (if (a1 >>> ((4 : Int32) &&& 31 : Int32)) = (5 : Int32) then (bnd (f_Pro_registerOnStack σ a1) fun r8 => (r8.1, r8.2)) else (if (a1 >>> ((4 : Int32) &&& 31 : Int32)) = (6 : Int32) then ((0 : Int32), σ) else (if (a1 >>> ((4 : Int32) &&& 31 : Int32)) = (7 : Int32) then (bnd (f_Pro_jumpIf σ (a1 &&& (15 : Int32))) fun r11 => (r11.1, r11.2)) else (if (a1 >>> ((4 : Int32) &&& 31 : Int32)) = (8 : Int32) then (if (136 : Int32) ≤ a1 then (bnd (f_Pro_move σ a1) fun r14 => (r14.1, r14.2)) else (bnd (f_Pro_combineGiven σ a1) fun r15 => (r15.1, r15.2))) else (if (a1 >>> ((4 : Int32) &&& 31 : Int32)) = (9 : Int32) then (if a1 = (144 : Int32) then ((1 : Int32), σ) else ((0 : Int32), σ)) else (if (a1 >>> ((4 : Int32) &&& 31 : Int32)) = (10 : Int32) then (bnd (f_Pro_string σ a1) fun r19 => (r19.1, r19.2)) else (if (a1 >>> ((4 : Int32) &&& 31 : Int32)) = (11 : Int32) then (bnd (f_Pro_moveGiven σ a1) fun r21 => (r21.1, r21.2)) else (if (a1 >>> ((4 : Int32) &&& 31 : Int32)) = (12 : Int32) then (bnd (f_Pro_leave σ a1) fun r23 => (r23.1, r23.2)) else (if (a1 >>> ((4 : Int32) &&& 31 : Int32)) = (13 : Int32) then ((0 : Int32), σ) else (if (a1 >>> ((4 : Int32) &&& 31 : Int32)) = (14 : Int32) then (bnd (f_Pro_jumpOrPort σ a1) fun r26 => (r26.1, r26.2)) else (if (a1 >>> ((4 : Int32) &&& 31 : Int32)) = (15 : Int32) then (if a1 < (254 : Int32) then (if (248 : Int32) ≤ a1 then (bnd (f_Pro_setFlag σ a1) fun r30 => (r30.1, r30.2)) else (bnd (f_Pro_haltOrUnary σ a1) fun r31 => (r31.1, r31.2))) else (if a1 = (255 : Int32) then (f_Pro_perform_202 σ (1 : Int32)) else (f_Pro_perform_202 σ (0 : Int32)))) else ((0 : Int32), σ)))))))))))))))))
theorem z_Pro_perform {σ : Sg} {a1 : Int32}  (hc : ¬ a1 < 0) : (f_Pro_perform σ a1).1 = 0 ∨ (f_Pro_perform σ a1).1 = 1 := by
  show Zb (f_Pro_perform σ a1)
  unfold f_Pro_perform
  refine ite_z (fun h1 => ?_) (fun h1 => ?_)
  · exact z_Pro_perform_80  hc
  refine ite_z (fun h2 => ?_) (fun h2 => ?_)
  · exact z_Pro_perform_80  hc
  refine ite_z (fun h3 => ?_) (fun h3 => ?_)
  · exact z_Pro_perform_80  hc
  refine ite_z (fun h4 => ?_) (fun h4 => ?_)
  · exact z_Pro_perform_80  hc
  refine ite_z (fun h5 => ?_) (fun h5 => ?_)
  · refine bnd_zz (Z := Zb) (z_Pro_countRegister) fun r6 e6 z6 => ?_
    exact z6
  refine ite_z (fun h7 => ?_) (fun h7 => ?_)
  · refine bnd_zz (Z := Zb) (z_Pro_registerOnStack) fun r8 e8 z8 => ?_
    exact z8
  refine ite_z (fun h9 => ?_) (fun h9 => ?_)
  · exact (Or.inl rfl)
  refine ite_z (fun h10 => ?_) (fun h10 => ?_)
  · refine bnd_zz (Z := Zb) (z_Pro_jumpIf) fun r11 e11 z11 => ?_
    exact z11
  refine ite_z (fun h12 => ?_) (fun h12 => ?_)
  · refine ite_z (fun h13 => ?_) (fun h13 => ?_)
    · refine bnd_zz (Z := Zb) (z_Pro_move) fun r14 e14 z14 => ?_
      exact z14
    · refine bnd_zz (Z := Zb) (z_Pro_combineGiven) fun r15 e15 z15 => ?_
      exact z15
  refine ite_z (fun h16 => ?_) (fun h16 => ?_)
  · refine ite_z (fun h17 => ?_) (fun h17 => ?_)
    · exact (Or.inr rfl)
    · exact (Or.inl rfl)
  refine ite_z (fun h18 => ?_) (fun h18 => ?_)
  · refine bnd_zz (Z := Zb) (z_Pro_string) fun r19 e19 z19 => ?_
    exact z19
  refine ite_z (fun h20 => ?_) (fun h20 => ?_)
  · refine bnd_zz (Z := Zb) (z_Pro_moveGiven) fun r21 e21 z21 => ?_
    exact z21
  refine ite_z (fun h22 => ?_) (fun h22 => ?_)
  · refine bnd_zz (Z := Zb) (z_Pro_leave) fun r23 e23 z23 => ?_
    exact z23
  refine ite_z (fun h24 => ?_) (fun h24 => ?_)
  · exact (Or.inl rfl)
  refine ite_z (fun h25 => ?_) (fun h25 => ?_)
  · refine bnd_zz (Z := Zb) (z_Pro_jumpOrPort) fun r26 e26 z26 => ?_
    exact z26
  refine ite_z (fun h27 => ?_) (fun h27 => ?_)
  · refine ite_z (fun h28 => ?_) (fun h28 => ?_)
    · refine ite_z (fun h29 => ?_) (fun h29 => ?_)
      · refine bnd_zz (Z := Zb) (z_Pro_setFlag) fun r30 e30 z30 => ?_
        exact z30
      · refine bnd_zz (Z := Zb) (z_Pro_haltOrUnary) fun r31 e31 z31 => ?_
        exact z31
    · refine ite_z (fun h32 => ?_) (fun h32 => ?_)
      · exact z_Pro_perform_202 (Or.inr rfl)
      · exact z_Pro_perform_202 (Or.inl rfl)
  exact (Or.inl rfl)
abbrev w_Pro_perform : List (Nat × Option Nat) := [(2, none), (3, some 2), (4, none), (5, none), (6, some 0), (7, some 0), (7, some 1), (7, some 2), (7, some 3), (8, some 1), (8, some 2), (8, some 3), (8, some 4), (8, some 5), (8, some 6), (9, some 2), (10, none), (11, some 2), (11, some 3), (11, some 4), (11, some 5), (11, some 6), (11, some 7), (12, some 6), (12, some 7), (12, some 8), (14, some 5), (14, some 6), (14, some 7), (14, some 9), (14, some 10), (14, some 11)]
theorem p_Pro_perform {P : Sg → Prop} (hP : WP w_Pro_perform P) {σ : Sg} {a1 : Int32} (h : P σ) : PP P (f_Pro_perform σ a1) := by
  unfold f_Pro_perform
  refine ite_z (fun _ => ?_) (fun _ => ?_)
  · exact p_Pro_perform_80 (wsub hP rfl) h
  refine ite_z (fun _ => ?_) (fun _ => ?_)
  · exact p_Pro_perform_80 (wsub hP rfl) h
  refine ite_z (fun _ => ?_) (fun _ => ?_)
  · exact p_Pro_perform_80 (wsub hP rfl) h
  refine ite_z (fun _ => ?_) (fun _ => ?_)
  · exact p_Pro_perform_80 (wsub hP rfl) h
  refine ite_z (fun _ => ?_) (fun _ => ?_)
  · refine bnd_zz (Z := PP P) (p_Pro_countRegister (wsub hP rfl) h) fun r6 e6 q6 => ?_
    exact q6
  refine ite_z (fun _ => ?_) (fun _ => ?_)
  · refine bnd_zz (Z := PP P) (p_Pro_registerOnStack (wsub hP rfl) h) fun r8 e8 q8 => ?_
    exact q8
  refine ite_z (fun _ => ?_) (fun _ => ?_)
  · exact h
  refine ite_z (fun _ => ?_) (fun _ => ?_)
  · refine bnd_zz (Z := PP P) (p_Pro_jumpIf (wsub hP rfl) h) fun r11 e11 q11 => ?_
    exact q11
  refine ite_z (fun _ => ?_) (fun _ => ?_)
  · refine ite_z (fun _ => ?_) (fun _ => ?_)
    · refine bnd_zz (Z := PP P) (p_Pro_move (wsub hP rfl) h) fun r14 e14 q14 => ?_
      exact q14
    · refine bnd_zz (Z := PP P) (p_Pro_combineGiven (wsub hP rfl) h) fun r15 e15 q15 => ?_
      exact q15
  refine ite_z (fun _ => ?_) (fun _ => ?_)
  · refine ite_z (fun _ => ?_) (fun _ => ?_)
    · exact h
    · exact h
  refine ite_z (fun _ => ?_) (fun _ => ?_)
  · refine bnd_zz (Z := PP P) (p_Pro_string (wsub hP rfl) h) fun r19 e19 q19 => ?_
    exact q19
  refine ite_z (fun _ => ?_) (fun _ => ?_)
  · refine bnd_zz (Z := PP P) (p_Pro_moveGiven (wsub hP rfl) h) fun r21 e21 q21 => ?_
    exact q21
  refine ite_z (fun _ => ?_) (fun _ => ?_)
  · refine bnd_zz (Z := PP P) (p_Pro_leave (wsub hP rfl) h) fun r23 e23 q23 => ?_
    exact q23
  refine ite_z (fun _ => ?_) (fun _ => ?_)
  · exact h
  refine ite_z (fun _ => ?_) (fun _ => ?_)
  · refine bnd_zz (Z := PP P) (p_Pro_jumpOrPort (wsub hP rfl) h) fun r26 e26 q26 => ?_
    exact q26
  refine ite_z (fun _ => ?_) (fun _ => ?_)
  · refine ite_z (fun _ => ?_) (fun _ => ?_)
    · refine ite_z (fun _ => ?_) (fun _ => ?_)
      · refine bnd_zz (Z := PP P) (p_Pro_setFlag (wsub hP rfl) h) fun r30 e30 q30 => ?_
        exact q30
      · refine bnd_zz (Z := PP P) (p_Pro_haltOrUnary (wsub hP rfl) h) fun r31 e31 q31 => ?_
        exact q31
    · refine ite_z (fun _ => ?_) (fun _ => ?_)
      · exact p_Pro_perform_202 (wsub hP rfl) h
      · exact p_Pro_perform_202 (wsub hP rfl) h
  exact h
set_option maxRecDepth 100000 in
set_option maxHeartbeats 4000000 in
theorem s_Pro_perform {l : Launch} {ad : Nat → Nat} {D : va_G} {cI : ClassId} {σ : Sg} {a1 : Int32} {K : Option Value → Sg → Prop}  (hc : ¬ a1 < 0) (hK : KI K (f_Pro_perform σ a1)) : MetJ l ad D cI mi_Pro_perform [.ref 12, .int a1] σ K := by
  refine met_of mi_Pro_perform pt_Pro pt_Pro_in rfl pl_Pro rfl (Nat.le_of_ble_eq_true rfl) fun X hX => ?_
  have hX : Cl l ad D cI mi_Pro_perform pt_Pro K X := hX
  show X 0 [.ref 12, .int a1] [] σ
  unfold f_Pro_perform at hK
  refine hX.1 80 I_Pro_perform_0 ok_Pro_perform_0 _ _ _ ?_
  refine And.intro (fun h1 => ?_) (fun h1 => ?_)
  · have hK := ite_p hK h1
    exact b_Pro_perform_80 hX hc hK
  have hK := ite_n hK h1
  refine And.intro (fun h2 => ?_) (fun h2 => ?_)
  · have hK := ite_p hK h2
    exact b_Pro_perform_80 hX hc hK
  have hK := ite_n hK h2
  refine And.intro (fun h3 => ?_) (fun h3 => ?_)
  · have hK := ite_p hK h3
    exact b_Pro_perform_80 hX hc hK
  have hK := ite_n hK h3
  refine And.intro (fun h4 => ?_) (fun h4 => ?_)
  · have hK := ite_p hK h4
    exact b_Pro_perform_80 hX hc hK
  have hK := ite_n hK h4
  refine And.intro (fun h5 => ?_) (fun h5 => ?_)
  · have hK := ite_p hK h5
    refine hX.1 109 I_Pro_perform_103 ok_Pro_perform_103 _ _ _ ?_
    refine s_Pro_countRegister (bnd_g hK fun r6 e6 hK => ?_)
    have z6 : r6.1 = 0 ∨ r6.1 = 1 := by rw [← e6]; exact z_Pro_countRegister
    exact And.intro z6 hK
  have hK := ite_n hK h5
  refine And.intro (fun h7 => ?_) (fun h7 => ?_)
  · have hK := ite_p hK h7
    refine hX.1 115 I_Pro_perform_109 ok_Pro_perform_109 _ _ _ ?_
    refine s_Pro_registerOnStack (bnd_g hK fun r8 e8 hK => ?_)
    have z8 : r8.1 = 0 ∨ r8.1 = 1 := by rw [← e8]; exact z_Pro_registerOnStack
    exact And.intro z8 hK
  have hK := ite_n hK h7
  refine And.intro (fun h9 => ?_) (fun h9 => ?_)
  · have hK := ite_p hK h9
    refine hX.1 229 I_Pro_perform_227 ok_Pro_perform_227 _ _ _ ?_
    exact And.intro (Or.inl rfl) hK
  have hK := ite_n hK h9
  refine And.intro (fun h10 => ?_) (fun h10 => ?_)
  · have hK := ite_p hK h10
    refine hX.1 124 I_Pro_perform_115 ok_Pro_perform_115 _ _ _ ?_
    refine s_Pro_jumpIf (bnd_g hK fun r11 e11 hK => ?_)
    have z11 : r11.1 = 0 ∨ r11.1 = 1 := by rw [← e11]; exact z_Pro_jumpIf
    exact And.intro z11 hK
  have hK := ite_n hK h10
  refine And.intro (fun h12 => ?_) (fun h12 => ?_)
  · have hK := ite_p hK h12
    refine hX.1 139 I_Pro_perform_124 ok_Pro_perform_124 _ _ _ ?_
    refine And.intro (fun h13 => ?_) (fun h13 => ?_)
    · have hK := ite_p hK h13
      refine hX.1 144 I_Pro_perform_139 ok_Pro_perform_139 _ _ _ ?_
      refine s_Pro_move (bnd_g hK fun r14 e14 hK => ?_)
      have z14 : r14.1 = 0 ∨ r14.1 = 1 := by rw [← e14]; exact z_Pro_move
      refine hX.1 145 I_Pro_perform_144 ok_Pro_perform_144 _ _ _ ?_
      exact And.intro z14 hK
    · have hK := ite_n hK h13
      refine s_Pro_combineGiven (bnd_g hK fun r15 e15 hK => ?_)
      have z15 : r15.1 = 0 ∨ r15.1 = 1 := by rw [← e15]; exact z_Pro_combineGiven
      refine hX.1 145 I_Pro_perform_144 ok_Pro_perform_144 _ _ _ ?_
      exact And.intro z15 hK
  have hK := ite_n hK h12
  refine And.intro (fun h16 => ?_) (fun h16 => ?_)
  · have hK := ite_p hK h16
    refine hX.1 156 I_Pro_perform_145 ok_Pro_perform_145 _ _ _ ?_
    refine And.intro (fun h17 => ?_) (fun h17 => ?_)
    · have hK := ite_p hK h17
      refine hX.1 158 I_Pro_perform_157 ok_Pro_perform_157 _ _ _ ?_
      exact And.intro (Or.inr rfl) hK
    · have hK := ite_n hK h17
      refine hX.1 157 I_Pro_perform_156 ok_Pro_perform_156 _ _ _ ?_
      refine hX.1 158 I_Pro_perform_157 ok_Pro_perform_157 _ _ _ ?_
      exact And.intro (Or.inl rfl) hK
  have hK := ite_n hK h16
  refine And.intro (fun h18 => ?_) (fun h18 => ?_)
  · have hK := ite_p hK h18
    refine hX.1 164 I_Pro_perform_158 ok_Pro_perform_158 _ _ _ ?_
    refine s_Pro_string (bnd_g hK fun r19 e19 hK => ?_)
    have z19 : r19.1 = 0 ∨ r19.1 = 1 := by rw [← e19]; exact z_Pro_string
    exact And.intro z19 hK
  have hK := ite_n hK h18
  refine And.intro (fun h20 => ?_) (fun h20 => ?_)
  · have hK := ite_p hK h20
    refine hX.1 170 I_Pro_perform_164 ok_Pro_perform_164 _ _ _ ?_
    refine s_Pro_moveGiven (bnd_g hK fun r21 e21 hK => ?_)
    have z21 : r21.1 = 0 ∨ r21.1 = 1 := by rw [← e21]; exact z_Pro_moveGiven
    exact And.intro z21 hK
  have hK := ite_n hK h20
  refine And.intro (fun h22 => ?_) (fun h22 => ?_)
  · have hK := ite_p hK h22
    refine hX.1 176 I_Pro_perform_170 ok_Pro_perform_170 _ _ _ ?_
    refine s_Pro_leave (bnd_g hK fun r23 e23 hK => ?_)
    have z23 : r23.1 = 0 ∨ r23.1 = 1 := by rw [← e23]; exact z_Pro_leave
    exact And.intro z23 hK
  have hK := ite_n hK h22
  refine And.intro (fun h24 => ?_) (fun h24 => ?_)
  · have hK := ite_p hK h24
    refine hX.1 229 I_Pro_perform_227 ok_Pro_perform_227 _ _ _ ?_
    exact And.intro (Or.inl rfl) hK
  have hK := ite_n hK h24
  refine And.intro (fun h25 => ?_) (fun h25 => ?_)
  · have hK := ite_p hK h25
    refine hX.1 182 I_Pro_perform_176 ok_Pro_perform_176 _ _ _ ?_
    refine s_Pro_jumpOrPort (bnd_g hK fun r26 e26 hK => ?_)
    have z26 : r26.1 = 0 ∨ r26.1 = 1 := by rw [← e26]; exact z_Pro_jumpOrPort
    exact And.intro z26 hK
  have hK := ite_n hK h25
  refine And.intro (fun h27 => ?_) (fun h27 => ?_)
  · have hK := ite_p hK h27
    refine hX.1 201 I_Pro_perform_182 ok_Pro_perform_182 _ _ _ ?_
    refine And.intro (fun h28 => ?_) (fun h28 => ?_)
    · have hK := ite_p hK h28
      refine hX.1 221 I_Pro_perform_206 ok_Pro_perform_206 _ _ _ ?_
      refine And.intro (fun h29 => ?_) (fun h29 => ?_)
      · have hK := ite_p hK h29
        refine hX.1 226 I_Pro_perform_221 ok_Pro_perform_221 _ _ _ ?_
        refine s_Pro_setFlag (bnd_g hK fun r30 e30 hK => ?_)
        have z30 : r30.1 = 0 ∨ r30.1 = 1 := by rw [← e30]; exact z_Pro_setFlag
        refine hX.1 227 I_Pro_perform_226 ok_Pro_perform_226 _ _ _ ?_
        exact And.intro z30 hK
      · have hK := ite_n hK h29
        refine s_Pro_haltOrUnary (bnd_g hK fun r31 e31 hK => ?_)
        have z31 : r31.1 = 0 ∨ r31.1 = 1 := by rw [← e31]; exact z_Pro_haltOrUnary
        refine hX.1 227 I_Pro_perform_226 ok_Pro_perform_226 _ _ _ ?_
        exact And.intro z31 hK
    · have hK := ite_n hK h28
      refine And.intro (fun h32 => ?_) (fun h32 => ?_)
      · have hK := ite_p hK h32
        refine hX.fg [0, 1] ?_
        exact b_Pro_perform_202 hX (Or.inr rfl) hK
      · have hK := ite_n hK h32
        refine hX.1 202 I_Pro_perform_201 ok_Pro_perform_201 _ _ _ ?_
        refine hX.fg [0, 1] ?_
        exact b_Pro_perform_202 hX (Or.inl rfl) hK
  have hK := ite_n hK h27
  refine hX.1 229 I_Pro_perform_227 ok_Pro_perform_227 _ _ _ ?_
  exact And.intro (Or.inl rfl) hK
def I_Pro_advance_0 : List IT := [(0, .aload_n 0, 1, 0, 0, []), (1, .getfield 17, 3, 0, 0, []), (4, .sipush 512, 3, 512, 0, []), (7, .invokevirtual 40, 3, 0, 0, []), (10, .ifCond .eq 20, 3, 0, 30, []), (13, .aload_n 0, 1, 0, 0, []), (14, .getfield 44, 3, 0, 0, []), (17, .ifCond .ne 13, 3, 0, 30, []), (20, .aload_n 0, 1, 0, 0, []), (21, .getfield 21, 3, 0, 0, []), (24, .invokevirtual 48, 3, 0, 0, []), (27, .goto 4, 3, 0, 31, [])]
theorem ok_Pro_advance_0 : blkOK b_Pro_advance pt_Pro 30 I_Pro_advance_0 = true := by decide +kernel
def I_Pro_advance_30 : List IT := [(30, .iconst (-1), 1, (-1), 0, [])]
theorem ok_Pro_advance_30 : blkOK b_Pro_advance pt_Pro 31 I_Pro_advance_30 = true := by decide +kernel
def I_Pro_advance_31 : List IT := [(31, .istore_n 1, 1, 0, 0, []), (32, .aload_n 0, 1, 0, 0, []), (33, .iconst 0, 1, 0, 0, []), (34, .putfield 44, 3, 0, 0, []), (37, .iload_n 1, 1, 0, 0, []), (38, .ifCond .lt 27, 3, 0, 65, []), (41, .aload_n 0, 1, 0, 0, []), (42, .getfield 21, 3, 0, 0, []), (45, .iload_n 1, 1, 0, 0, []), (46, .invokevirtual 54, 3, 0, 0, []), (49, .aload_n 0, 1, 0, 0, []), (50, .iconst 0, 1, 0, 0, []), (51, .putfield 58, 3, 0, 0, []), (54, .aload_n 0, 1, 0, 0, []), (55, .bipush 8, 2, 8, 0, []), (57, .iload_n 1, 1, 0, 0, []), (58, .iadd, 1, 0, 0, []), (59, .invokevirtual 61, 3, 0, 0, []), (62, .goto 54, 3, 0, 116, [])]
theorem ok_Pro_advance_31 : blkOK b_Pro_advance pt_Pro 65 I_Pro_advance_31 = true := by decide +kernel
def I_Pro_advance_65 : List IT := [(65, .aload_n 0, 1, 0, 0, []), (66, .getfield 58, 3, 0, 0, []), (69, .ifCond .ne 47, 3, 0, 116, []), (72, .aload_n 0, 1, 0, 0, []), (73, .getfield 34, 3, 0, 0, []), (76, .invokevirtual 64, 3, 0, 0, []), (79, .ifCond .eq 17, 3, 0, 96, []), (82, .aload_n 0, 1, 0, 0, []), (83, .aload_n 0, 1, 0, 0, []), (84, .getfield 34, 3, 0, 0, []), (87, .getfield 68, 3, 0, 0, []), (90, .invokevirtual 72, 3, 0, 0, []), (93, .ifCond .ne 23, 3, 0, 116, [])]
theorem ok_Pro_advance_65 : blkOK b_Pro_advance pt_Pro 96 I_Pro_advance_65 = true := by decide +kernel
def I_Pro_advance_96 : List IT := [(96, .aload_n 0, 1, 0, 0, []), (97, .getfield 13, 3, 0, 0, []), (100, .aload_n 0, 1, 0, 0, []), (101, .getfield 34, 3, 0, 0, []), (104, .getfield 75, 3, 0, 0, []), (107, .putfield 78, 3, 0, 0, []), (110, .aload_n 0, 1, 0, 0, []), (111, .bipush 6, 2, 6, 0, []), (113, .invokevirtual 61, 3, 0, 0, [])]
theorem ok_Pro_advance_96 : blkOK b_Pro_advance pt_Pro 116 I_Pro_advance_96 = true := by decide +kernel
def I_Pro_advance_116 : List IT := [(116, .return_, 1, 0, 0, [])]
theorem ok_Pro_advance_116 : blkOK b_Pro_advance pt_Pro 117 I_Pro_advance_116 = true := by decide +kernel
def f_Pro_advance_96 (σ : Sg)  : Sg := (bnd (up2 σ 3 2 (σ 14 2)) fun s1 => bnd (f_Pro_interrupt s1 (6 : Int32)) fun r2 => r2)
abbrev w_Pro_advance_96 : List (Nat × Option Nat) := [(2, none), (3, some 2), (4, none), (5, none), (6, some 0), (12, some 7)]
theorem p_Pro_advance_96 {P : Sg → Prop} (hP : WP w_Pro_advance_96 P) {σ : Sg}  (h : P σ) : P (f_Pro_advance_96 σ ) := by
  unfold f_Pro_advance_96
  refine bnd_zz (Z := P) (hP _ _ _ _ (Or.inr (by decide)) h) fun s1 e1 q1 => ?_
  refine bnd_zz (Z := P) (p_Pro_interrupt (wsub hP rfl) q1) fun r2 e2 q2 => ?_
  exact q2
set_option maxRecDepth 100000 in
set_option maxHeartbeats 4000000 in
theorem b_Pro_advance_96 {l : Launch} {ad : Nat → Nat} {D : va_G} {cI : ClassId} {K : Option Value → Sg → Prop} {X : Nat → List Value → List Value → Sg → Prop} (hX : Cl l ad D cI mi_Pro_advance pt_Pro K X) {σ : Sg}    (hK : KV K (f_Pro_advance_96 σ )) : X 96 [.ref 12, .null] [] σ := by
  unfold f_Pro_advance_96 at hK
  refine hX.1 116 I_Pro_advance_96 ok_Pro_advance_96 _ _ _ ?_
  refine And.intro trivial (SG_g hK fun s1 e1 hK => ?_)
  refine s_Pro_interrupt (bnd_g hK fun r2 e2 hK => ?_)
  refine hX.1 117 I_Pro_advance_116 ok_Pro_advance_116 _ _ _ ?_
  exact hK
def f_Pro_advance_31 (σ : Sg) (y0 : Int32) : Sg := (bnd (up2 σ 12 8 (0 : Int32)) fun s1 => (if y0 < (0 : Int32) then (if (s1 12 6) = (0 : Int32) then (bnd (f_Dec_begin s1) fun r4 => (if r4.1 = (0 : Int32) then (f_Pro_advance_96 r4.2) else (bnd (f_Pro_perform r4.2 (r4.2 14 3)) fun r6 => (if r6.1 = (0 : Int32) then (f_Pro_advance_96 r6.2) else r6.2)))) else s1) else (bnd (f_Ctl_give s1 y0) fun r8 => bnd (up2 r8 12 6 (0 : Int32)) fun s9 => bnd (f_Pro_interrupt s9 ((8 : Int32) + y0)) fun r10 => r10)))
abbrev w_Pro_advance_31 : List (Nat × Option Nat) := [(2, none), (3, some 2), (4, none), (5, none), (6, some 0), (7, some 0), (7, some 1), (7, some 2), (7, some 3), (8, some 1), (8, some 2), (8, some 3), (8, some 4), (8, some 5), (8, some 6), (9, some 2), (10, none), (11, some 2), (11, some 3), (11, some 4), (11, some 5), (11, some 6), (11, some 7), (12, some 6), (12, some 7), (12, some 8), (14, some 2), (14, some 3), (14, some 4), (14, some 5), (14, some 6), (14, some 7), (14, some 8), (14, some 9), (14, some 10), (14, some 11)]
theorem p_Pro_advance_31 {P : Sg → Prop} (hP : WP w_Pro_advance_31 P) {σ : Sg} {y0 : Int32} (h : P σ) : P (f_Pro_advance_31 σ y0) := by
  unfold f_Pro_advance_31
  refine bnd_zz (Z := P) (hP _ _ _ _ (Or.inr (by decide)) h) fun s1 e1 q1 => ?_
  refine ite_z (fun _ => ?_) (fun _ => ?_)
  · refine ite_z (fun _ => ?_) (fun _ => ?_)
    · refine bnd_zz (Z := PP P) (p_Dec_begin (wsub hP rfl) q1) fun r4 e4 q4 => ?_
      refine ite_z (fun _ => ?_) (fun _ => ?_)
      · exact p_Pro_advance_96 (wsub hP rfl) q4
      · refine bnd_zz (Z := PP P) (p_Pro_perform (wsub hP rfl) q4) fun r6 e6 q6 => ?_
        refine ite_z (fun _ => ?_) (fun _ => ?_)
        · exact p_Pro_advance_96 (wsub hP rfl) q6
        · exact q6
    · exact q1
  · refine bnd_zz (Z := P) (p_Ctl_give (wsub hP rfl) q1) fun r8 e8 q8 => ?_
    refine bnd_zz (Z := P) (hP _ _ _ _ (Or.inr (by decide)) q8) fun s9 e9 q9 => ?_
    refine bnd_zz (Z := P) (p_Pro_interrupt (wsub hP rfl) q9) fun r10 e10 q10 => ?_
    exact q10
set_option maxRecDepth 100000 in
set_option maxHeartbeats 4000000 in
theorem b_Pro_advance_31 {l : Launch} {ad : Nat → Nat} {D : va_G} {cI : ClassId} {K : Option Value → Sg → Prop} {X : Nat → List Value → List Value → Sg → Prop} (hX : Cl l ad D cI mi_Pro_advance pt_Pro K X) {σ : Sg} {y0 : Int32}  (hm : Mb σ) (hK : KV K (f_Pro_advance_31 σ y0)) : X 31 [.ref 12, .null] [.int y0] σ := by
  unfold f_Pro_advance_31 at hK
  refine hX.1 65 I_Pro_advance_31 ok_Pro_advance_31 _ _ _ ?_
  refine And.intro (Or.inl rfl) (SG_g hK fun s1 e1 hK => ?_)
  refine And.intro (fun h2 => ?_) (fun h2 => ?_)
  · have hK := ite_p hK h2
    refine hX.1 96 I_Pro_advance_65 ok_Pro_advance_65 _ _ _ ?_
    refine And.intro (fun h3 => ?_) (fun h3 => ?_)
    · have hK := ite_p hK h3
      refine s_Dec_begin (bnd_g hK fun r4 e4 hK => ?_)
      have z4 : r4.1 = 0 ∨ r4.1 = 1 := by rw [← e4]; exact z_Dec_begin
      refine And.intro (fun h5 => ?_) (fun h5 => ?_)
      · have hK := ite_p hK h5
        refine hX.fg [1] ?_
        exact b_Pro_advance_96 hX  hK
      · have hK := ite_n hK h5
        refine s_Pro_perform (by subst_vars; exact beg_code hm) (bnd_g hK fun r6 e6 hK => ?_)
        have z6 : r6.1 = 0 ∨ r6.1 = 1 := by rw [← e6]; exact z_Pro_perform (by subst_vars; exact beg_code hm)
        refine And.intro (fun h7 => ?_) (fun h7 => ?_)
        · have hK := ite_p hK h7
          refine hX.fg [1] ?_
          exact b_Pro_advance_96 hX  hK
        · have hK := ite_n hK h7
          refine hX.1 117 I_Pro_advance_116 ok_Pro_advance_116 _ _ _ ?_
          exact hK
    · have hK := ite_n hK h3
      refine hX.1 117 I_Pro_advance_116 ok_Pro_advance_116 _ _ _ ?_
      exact hK
  · have hK := ite_n hK h2
    refine s_Ctl_give (bnd_g hK fun r8 e8 hK => ?_)
    refine And.intro (Or.inl rfl) (SG_g hK fun s9 e9 hK => ?_)
    refine s_Pro_interrupt (bnd_g hK fun r10 e10 hK => ?_)
    refine hX.1 117 I_Pro_advance_116 ok_Pro_advance_116 _ _ _ ?_
    exact hK
def f_Pro_advance_30 (σ : Sg)  : Sg := (f_Pro_advance_31 σ (-1 : Int32))
abbrev w_Pro_advance_30 : List (Nat × Option Nat) := [(2, none), (3, some 2), (4, none), (5, none), (6, some 0), (7, some 0), (7, some 1), (7, some 2), (7, some 3), (8, some 1), (8, some 2), (8, some 3), (8, some 4), (8, some 5), (8, some 6), (9, some 2), (10, none), (11, some 2), (11, some 3), (11, some 4), (11, some 5), (11, some 6), (11, some 7), (12, some 6), (12, some 7), (12, some 8), (14, some 2), (14, some 3), (14, some 4), (14, some 5), (14, some 6), (14, some 7), (14, some 8), (14, some 9), (14, some 10), (14, some 11)]
theorem p_Pro_advance_30 {P : Sg → Prop} (hP : WP w_Pro_advance_30 P) {σ : Sg}  (h : P σ) : P (f_Pro_advance_30 σ ) := by
  unfold f_Pro_advance_30
  exact p_Pro_advance_31 (wsub hP rfl) h
set_option maxRecDepth 100000 in
set_option maxHeartbeats 4000000 in
theorem b_Pro_advance_30 {l : Launch} {ad : Nat → Nat} {D : va_G} {cI : ClassId} {K : Option Value → Sg → Prop} {X : Nat → List Value → List Value → Sg → Prop} (hX : Cl l ad D cI mi_Pro_advance pt_Pro K X) {σ : Sg}   (hm : Mb σ) (hK : KV K (f_Pro_advance_30 σ )) : X 30 [.ref 12, .null] [] σ := by
  unfold f_Pro_advance_30 at hK
  refine hX.1 31 I_Pro_advance_30 ok_Pro_advance_30 _ _ _ ?_
  exact b_Pro_advance_31 hX (by first | exact hm | (subst_vars; exact p_Ctl_lineToGive (P := Mb) (WP_cell (R := fun m => ∀ i, ¬ m i < 0) rfl) (p_Fla_on (P := Mb) (WP_cell (R := fun m => ∀ i, ¬ m i < 0) rfl) hm))) hK
def f_Pro_advance (σ : Sg)  : Sg := (bnd (f_Fla_on σ (512 : Int32)) fun r1 => (if r1.1 = (0 : Int32) then (f_Pro_advance_30 r1.2) else (if (r1.2 12 8) = (0 : Int32) then (bnd (f_Ctl_lineToGive r1.2) fun r4 => (f_Pro_advance_31 r4.2 r4.1)) else (f_Pro_advance_30 r1.2))))
abbrev w_Pro_advance : List (Nat × Option Nat) := [(2, none), (3, some 2), (4, none), (5, none), (6, some 0), (7, some 0), (7, some 1), (7, some 2), (7, some 3), (8, some 1), (8, some 2), (8, some 3), (8, some 4), (8, some 5), (8, some 6), (9, some 2), (10, none), (11, some 2), (11, some 3), (11, some 4), (11, some 5), (11, some 6), (11, some 7), (12, some 6), (12, some 7), (12, some 8), (14, some 2), (14, some 3), (14, some 4), (14, some 5), (14, some 6), (14, some 7), (14, some 8), (14, some 9), (14, some 10), (14, some 11)]
theorem p_Pro_advance {P : Sg → Prop} (hP : WP w_Pro_advance P) {σ : Sg}  (h : P σ) : P (f_Pro_advance σ ) := by
  unfold f_Pro_advance
  refine bnd_zz (Z := PP P) (p_Fla_on (wsub hP rfl) h) fun r1 e1 q1 => ?_
  refine ite_z (fun _ => ?_) (fun _ => ?_)
  · exact p_Pro_advance_30 (wsub hP rfl) q1
  · refine ite_z (fun _ => ?_) (fun _ => ?_)
    · refine bnd_zz (Z := PP P) (p_Ctl_lineToGive (wsub hP rfl) q1) fun r4 e4 q4 => ?_
      exact p_Pro_advance_31 (wsub hP rfl) q4
    · exact p_Pro_advance_30 (wsub hP rfl) q1
set_option maxRecDepth 100000 in
set_option maxHeartbeats 4000000 in
theorem s_Pro_advance {l : Launch} {ad : Nat → Nat} {D : va_G} {cI : ClassId} {σ : Sg}  {K : Option Value → Sg → Prop}  (hm : Mb σ) (hK : KV K (f_Pro_advance σ )) : MetJ l ad D cI mi_Pro_advance [.ref 12] σ K := by
  refine met_of mi_Pro_advance pt_Pro pt_Pro_in rfl pl_Pro rfl (Nat.le_of_ble_eq_true rfl) fun X hX => ?_
  have hX : Cl l ad D cI mi_Pro_advance pt_Pro K X := hX
  show X 0 [.ref 12, .null] [] σ
  unfold f_Pro_advance at hK
  refine hX.1 30 I_Pro_advance_0 ok_Pro_advance_0 _ _ _ ?_
  refine s_Fla_on (bnd_g hK fun r1 e1 hK => ?_)
  have z1 : r1.1 = 0 ∨ r1.1 = 1 := by rw [← e1]; exact z_Fla_on
  refine And.intro (fun h2 => ?_) (fun h2 => ?_)
  · have hK := ite_p hK h2
    exact b_Pro_advance_30 hX (by subst_vars; exact p_Fla_on (P := Mb) (WP_cell (R := fun m => ∀ i, ¬ m i < 0) rfl) hm) hK
  · have hK := ite_n hK h2
    refine And.intro (fun h3 => ?_) (fun h3 => ?_)
    · have hK := ite_p hK h3
      refine s_Ctl_lineToGive (bnd_g hK fun r4 e4 hK => ?_)
      exact b_Pro_advance_31 hX (by first | exact hm | (subst_vars; exact p_Ctl_lineToGive (P := Mb) (WP_cell (R := fun m => ∀ i, ¬ m i < 0) rfl) (p_Fla_on (P := Mb) (WP_cell (R := fun m => ∀ i, ¬ m i < 0) rfl) hm))) hK
    · have hK := ite_n hK h3
      exact b_Pro_advance_30 hX (by subst_vars; exact p_Fla_on (P := Mb) (WP_cell (R := fun m => ∀ i, ¬ m i < 0) rfl) hm) hK
end
section
def I_SC_isByte_0 : List IT := [(0, .iload_n 0, 1, 0, 0, []), (1, .ifCond .lt 14, 3, 0, 15, []), (4, .iload_n 0, 1, 0, 0, []), (5, .sipush 255, 3, 255, 0, []), (8, .if_icmp .gt 7, 3, 0, 15, []), (11, .iconst 1, 1, 1, 0, []), (12, .goto 4, 3, 0, 16, [])]
theorem ok_SC_isByte_0 : blkOK b_SC_isByte pt_SC 15 I_SC_isByte_0 = true := by decide +kernel
def I_SC_isByte_15 : List IT := [(15, .iconst 0, 1, 0, 0, [])]
theorem ok_SC_isByte_15 : blkOK b_SC_isByte pt_SC 16 I_SC_isByte_15 = true := by decide +kernel
def I_SC_isByte_16 : List IT := [(16, .ireturn, 1, 0, 0, [])]
theorem ok_SC_isByte_16 : blkOK b_SC_isByte pt_SC 17 I_SC_isByte_16 = true := by decide +kernel
def f_SC_isByte (σ : Sg) (a1 : Int32) : Int32 × Sg := (if a1 < (0 : Int32) then ((0 : Int32), σ) else (if (255 : Int32) < a1 then ((0 : Int32), σ) else ((1 : Int32), σ)))
theorem z_SC_isByte {σ : Sg} {a1 : Int32}   : (f_SC_isByte σ a1).1 = 0 ∨ (f_SC_isByte σ a1).1 = 1 := by
  show Zb (f_SC_isByte σ a1)
  unfold f_SC_isByte
  refine ite_z (fun h1 => ?_) (fun h1 => ?_)
  · exact (Or.inl rfl)
  · refine ite_z (fun h2 => ?_) (fun h2 => ?_)
    · exact (Or.inl rfl)
    · exact (Or.inr rfl)
abbrev w_SC_isByte : List (Nat × Option Nat) := []
theorem p_SC_isByte {P : Sg → Prop} (hP : WP w_SC_isByte P) {σ : Sg} {a1 : Int32} (h : P σ) : PP P (f_SC_isByte σ a1) := by
  unfold f_SC_isByte
  refine ite_z (fun _ => ?_) (fun _ => ?_)
  · exact h
  · refine ite_z (fun _ => ?_) (fun _ => ?_)
    · exact h
    · exact h
set_option maxRecDepth 100000 in
set_option maxHeartbeats 4000000 in
theorem s_SC_isByte {l : Launch} {ad : Nat → Nat} {D : va_G} {cI : ClassId} {σ : Sg} {a1 : Int32} {K : Option Value → Sg → Prop}   (hK : KI K (f_SC_isByte σ a1)) : MetJ l ad D cI mi_SC_isByte [.int a1] σ K := by
  refine met_of mi_SC_isByte pt_SC pt_SC_in rfl pl_SC rfl (Nat.le_of_ble_eq_true rfl) fun X hX => ?_
  have hX : Cl l ad D cI mi_SC_isByte pt_SC K X := hX
  show X 0 [.int a1] [] σ
  unfold f_SC_isByte at hK
  refine hX.1 15 I_SC_isByte_0 ok_SC_isByte_0 _ _ _ ?_
  refine And.intro (fun h1 => ?_) (fun h1 => ?_)
  · have hK := ite_p hK h1
    refine hX.1 16 I_SC_isByte_15 ok_SC_isByte_15 _ _ _ ?_
    refine hX.1 17 I_SC_isByte_16 ok_SC_isByte_16 _ _ _ ?_
    exact And.intro (Or.inl rfl) hK
  · have hK := ite_n hK h1
    refine And.intro (fun h2 => ?_) (fun h2 => ?_)
    · have hK := ite_p hK h2
      refine hX.1 16 I_SC_isByte_15 ok_SC_isByte_15 _ _ _ ?_
      refine hX.1 17 I_SC_isByte_16 ok_SC_isByte_16 _ _ _ ?_
      exact And.intro (Or.inl rfl) hK
    · have hK := ite_n hK h2
      refine hX.1 17 I_SC_isByte_16 ok_SC_isByte_16 _ _ _ ?_
      exact And.intro (Or.inr rfl) hK
def I_SC_poke_0 : List IT := [(0, .iload_n 1, 1, 0, 0, []), (1, .invokestatic 87, 3, 0, 0, []), (4, .ifCond .eq 10, 3, 0, 14, []), (7, .iload_n 2, 1, 0, 0, []), (8, .invokestatic 91, 3, 0, 0, []), (11, .ifCond .ne 5, 3, 0, 16, [])]
theorem ok_SC_poke_0 : blkOK b_SC_poke pt_SC 14 I_SC_poke_0 = true := by decide +kernel
def I_SC_poke_14 : List IT := [(14, .iconst 0, 1, 0, 0, []), (15, .ireturn, 1, 0, 0, [])]
theorem ok_SC_poke_14 : blkOK b_SC_poke pt_SC 16 I_SC_poke_14 = true := by decide +kernel
def I_SC_poke_16 : List IT := [(16, .aload_n 0, 1, 0, 0, []), (17, .getfield 10, 3, 0, 0, []), (20, .iload_n 1, 1, 0, 0, []), (21, .iload_n 2, 1, 0, 0, []), (22, .invokevirtual 94, 3, 0, 0, []), (25, .iconst 1, 1, 1, 0, []), (26, .ireturn, 1, 0, 0, [])]
theorem ok_SC_poke_16 : blkOK b_SC_poke pt_SC 27 I_SC_poke_16 = true := by decide +kernel
def f_SC_poke (σ : Sg) (a1 : Int32) (a2 : Int32) : Int32 × Sg := (bnd (f_Mem_has σ a1) fun r1 => (if r1.1 = (0 : Int32) then ((0 : Int32), r1.2) else (bnd (f_SC_isByte r1.2 a2) fun r3 => (if r3.1 = (0 : Int32) then ((0 : Int32), r3.2) else (bnd (f_Mem_setByteAt r3.2 a1 a2) fun r5 => ((1 : Int32), r5))))))
theorem z_SC_poke {σ : Sg} {a1 : Int32} {a2 : Int32}   : (f_SC_poke σ a1 a2).1 = 0 ∨ (f_SC_poke σ a1 a2).1 = 1 := by
  show Zb (f_SC_poke σ a1 a2)
  unfold f_SC_poke
  refine bnd_zz (Z := Zb) (z_Mem_has) fun r1 e1 z1 => ?_
  refine ite_z (fun h2 => ?_) (fun h2 => ?_)
  · exact (Or.inl rfl)
  · refine bnd_zz (Z := Zb) (z_SC_isByte) fun r3 e3 z3 => ?_
    refine ite_z (fun h4 => ?_) (fun h4 => ?_)
    · exact (Or.inl rfl)
    · refine bnd_z fun r5 e5 => ?_
      exact (Or.inr rfl)
abbrev w_SC_poke : List (Nat × Option Nat) := [(2, none)]
theorem p_SC_poke {P : Sg → Prop} (hP : WP w_SC_poke P) {σ : Sg} {a1 : Int32} {a2 : Int32} (h : P σ) : PP P (f_SC_poke σ a1 a2) := by
  unfold f_SC_poke
  refine bnd_zz (Z := PP P) (p_Mem_has (wsub hP rfl) h) fun r1 e1 q1 => ?_
  refine ite_z (fun _ => ?_) (fun _ => ?_)
  · exact q1
  · refine bnd_zz (Z := PP P) (p_SC_isByte (wsub hP rfl) q1) fun r3 e3 q3 => ?_
    refine ite_z (fun _ => ?_) (fun _ => ?_)
    · exact q3
    · refine bnd_zz (Z := P) (p_Mem_setByteAt (wsub hP rfl) q3) fun r5 e5 q5 => ?_
      exact q5
set_option maxRecDepth 100000 in
set_option maxHeartbeats 4000000 in
theorem s_SC_poke {l : Launch} {ad : Nat → Nat} {D : va_G} {cI : ClassId} {σ : Sg} {a1 : Int32} {a2 : Int32} {K : Option Value → Sg → Prop}   (hK : KI K (f_SC_poke σ a1 a2)) : MetJ l ad D cI mi_SC_poke [.ref 0, .int a1, .int a2] σ K := by
  refine met_of mi_SC_poke pt_SC pt_SC_in rfl pl_SC rfl (Nat.le_of_ble_eq_true rfl) fun X hX => ?_
  have hX : Cl l ad D cI mi_SC_poke pt_SC K X := hX
  show X 0 [.ref 0, .int a1, .int a2] [] σ
  unfold f_SC_poke at hK
  refine hX.1 14 I_SC_poke_0 ok_SC_poke_0 _ _ _ ?_
  refine s_Mem_has (bnd_g hK fun r1 e1 hK => ?_)
  have z1 : r1.1 = 0 ∨ r1.1 = 1 := by rw [← e1]; exact z_Mem_has
  refine And.intro (fun h2 => ?_) (fun h2 => ?_)
  · have hK := ite_p hK h2
    refine hX.1 16 I_SC_poke_14 ok_SC_poke_14 _ _ _ ?_
    exact And.intro (Or.inl rfl) hK
  · have hK := ite_n hK h2
    refine s_SC_isByte (bnd_g hK fun r3 e3 hK => ?_)
    have z3 : r3.1 = 0 ∨ r3.1 = 1 := by rw [← e3]; exact z_SC_isByte
    refine And.intro (fun h4 => ?_) (fun h4 => ?_)
    · have hK := ite_p hK h4
      refine hX.1 16 I_SC_poke_14 ok_SC_poke_14 _ _ _ ?_
      exact And.intro (Or.inl rfl) hK
    · have hK := ite_n hK h4
      refine hX.1 27 I_SC_poke_16 ok_SC_poke_16 _ _ _ ?_
      refine s_Mem_setByteAt (bnd_g hK fun r5 e5 hK => ?_)
      exact And.intro (Or.inr rfl) hK
def I_SC_seek_0 : List IT := [(0, .iload_n 1, 1, 0, 0, []), (1, .invokestatic 87, 3, 0, 0, []), (4, .ifCond .ne 5, 3, 0, 9, []), (7, .iconst 0, 1, 0, 0, []), (8, .ireturn, 1, 0, 0, [])]
theorem ok_SC_seek_0 : blkOK b_SC_seek pt_SC 9 I_SC_seek_0 = true := by decide +kernel
def I_SC_seek_9 : List IT := [(9, .aload_n 0, 1, 0, 0, []), (10, .iload_n 1, 1, 0, 0, []), (11, .putfield 84, 3, 0, 0, []), (14, .iconst 1, 1, 1, 0, []), (15, .ireturn, 1, 0, 0, [])]
theorem ok_SC_seek_9 : blkOK b_SC_seek pt_SC 16 I_SC_seek_9 = true := by decide +kernel
def f_SC_seek (σ : Sg) (a1 : Int32) : Int32 × Sg := (bnd (f_Mem_has σ a1) fun r1 => (if r1.1 = (0 : Int32) then ((0 : Int32), r1.2) else (bnd (up2 r1.2 0 8 a1) fun s3 => ((1 : Int32), s3))))
theorem z_SC_seek {σ : Sg} {a1 : Int32}   : (f_SC_seek σ a1).1 = 0 ∨ (f_SC_seek σ a1).1 = 1 := by
  show Zb (f_SC_seek σ a1)
  unfold f_SC_seek
  refine bnd_zz (Z := Zb) (z_Mem_has) fun r1 e1 z1 => ?_
  refine ite_z (fun h2 => ?_) (fun h2 => ?_)
  · exact (Or.inl rfl)
  · refine bnd_z fun s3 e3 => ?_
    exact (Or.inr rfl)
abbrev w_SC_seek : List (Nat × Option Nat) := [(0, some 8)]
theorem p_SC_seek {P : Sg → Prop} (hP : WP w_SC_seek P) {σ : Sg} {a1 : Int32} (h : P σ) : PP P (f_SC_seek σ a1) := by
  unfold f_SC_seek
  refine bnd_zz (Z := PP P) (p_Mem_has (wsub hP rfl) h) fun r1 e1 q1 => ?_
  refine ite_z (fun _ => ?_) (fun _ => ?_)
  · exact q1
  · refine bnd_zz (Z := P) (hP _ _ _ _ (Or.inr (by decide)) q1) fun s3 e3 q3 => ?_
    exact q3
set_option maxRecDepth 100000 in
set_option maxHeartbeats 4000000 in
theorem s_SC_seek {l : Launch} {ad : Nat → Nat} {D : va_G} {cI : ClassId} {σ : Sg} {a1 : Int32} {K : Option Value → Sg → Prop}   (hK : KI K (f_SC_seek σ a1)) : MetJ l ad D cI mi_SC_seek [.ref 0, .int a1] σ K := by
  refine met_of mi_SC_seek pt_SC pt_SC_in rfl pl_SC rfl (Nat.le_of_ble_eq_true rfl) fun X hX => ?_
  have hX : Cl l ad D cI mi_SC_seek pt_SC K X := hX
  show X 0 [.ref 0, .int a1] [] σ
  unfold f_SC_seek at hK
  refine hX.1 9 I_SC_seek_0 ok_SC_seek_0 _ _ _ ?_
  refine s_Mem_has (bnd_g hK fun r1 e1 hK => ?_)
  have z1 : r1.1 = 0 ∨ r1.1 = 1 := by rw [← e1]; exact z_Mem_has
  refine And.intro (fun h2 => ?_) (fun h2 => ?_)
  · have hK := ite_p hK h2
    exact And.intro (Or.inl rfl) hK
  · have hK := ite_n hK h2
    refine hX.1 16 I_SC_seek_9 ok_SC_seek_9 _ _ _ ?_
    refine And.intro trivial (SG_g hK fun s3 e3 hK => ?_)
    exact And.intro (Or.inr rfl) hK
def I_SC_peek_0 : List IT := [(0, .iload_n 1, 1, 0, 0, []), (1, .invokestatic 87, 3, 0, 0, []), (4, .ifCond .eq 14, 3, 0, 18, []), (7, .aload_n 0, 1, 0, 0, []), (8, .getfield 10, 3, 0, 0, []), (11, .iload_n 1, 1, 0, 0, []), (12, .invokevirtual 98, 3, 0, 0, []), (15, .goto 4, 3, 0, 19, [])]
theorem ok_SC_peek_0 : blkOK b_SC_peek pt_SC 18 I_SC_peek_0 = true := by decide +kernel
def I_SC_peek_18 : List IT := [(18, .iconst (-1), 1, (-1), 0, [])]
theorem ok_SC_peek_18 : blkOK b_SC_peek pt_SC 19 I_SC_peek_18 = true := by decide +kernel
def I_SC_peek_19 : List IT := [(19, .ireturn, 1, 0, 0, [])]
theorem ok_SC_peek_19 : blkOK b_SC_peek pt_SC 20 I_SC_peek_19 = true := by decide +kernel
def f_SC_peek (σ : Sg) (a1 : Int32) : Int32 × Sg := (bnd (f_Mem_has σ a1) fun r1 => (if r1.1 = (0 : Int32) then ((-1 : Int32), r1.2) else (bnd (f_Mem_byteAt r1.2 a1) fun r3 => (r3.1, r3.2))))
abbrev w_SC_peek : List (Nat × Option Nat) := []
theorem p_SC_peek {P : Sg → Prop} (hP : WP w_SC_peek P) {σ : Sg} {a1 : Int32} (h : P σ) : PP P (f_SC_peek σ a1) := by
  unfold f_SC_peek
  refine bnd_zz (Z := PP P) (p_Mem_has (wsub hP rfl) h) fun r1 e1 q1 => ?_
  refine ite_z (fun _ => ?_) (fun _ => ?_)
  · exact q1
  · refine bnd_zz (Z := PP P) (p_Mem_byteAt (wsub hP rfl) q1) fun r3 e3 q3 => ?_
    exact q3
set_option maxRecDepth 100000 in
set_option maxHeartbeats 4000000 in
theorem s_SC_peek {l : Launch} {ad : Nat → Nat} {D : va_G} {cI : ClassId} {σ : Sg} {a1 : Int32} {K : Option Value → Sg → Prop}   (hK : KI K (f_SC_peek σ a1)) : MetJ l ad D cI mi_SC_peek [.ref 0, .int a1] σ K := by
  refine met_of mi_SC_peek pt_SC pt_SC_in rfl pl_SC rfl (Nat.le_of_ble_eq_true rfl) fun X hX => ?_
  have hX : Cl l ad D cI mi_SC_peek pt_SC K X := hX
  show X 0 [.ref 0, .int a1] [] σ
  unfold f_SC_peek at hK
  refine hX.1 18 I_SC_peek_0 ok_SC_peek_0 _ _ _ ?_
  refine s_Mem_has (bnd_g hK fun r1 e1 hK => ?_)
  have z1 : r1.1 = 0 ∨ r1.1 = 1 := by rw [← e1]; exact z_Mem_has
  refine And.intro (fun h2 => ?_) (fun h2 => ?_)
  · have hK := ite_p hK h2
    refine hX.1 19 I_SC_peek_18 ok_SC_peek_18 _ _ _ ?_
    refine hX.1 20 I_SC_peek_19 ok_SC_peek_19 _ _ _ ?_
    exact hK
  · have hK := ite_n hK h2
    refine s_Mem_byteAt (bnd_g hK fun r3 e3 hK => ?_)
    refine hX.1 20 I_SC_peek_19 ok_SC_peek_19 _ _ _ ?_
    exact hK
def I_SC_register_0 : List IT := [(0, .iload_n 1, 1, 0, 0, []), (1, .ifCond .lt 9, 3, 0, 10, []), (4, .iload_n 1, 1, 0, 0, []), (5, .bipush 13, 2, 13, 0, []), (7, .if_icmp .le 5, 3, 0, 12, [])]
theorem ok_SC_register_0 : blkOK b_SC_register pt_SC 10 I_SC_register_0 = true := by decide +kernel
def I_SC_register_10 : List IT := [(10, .iconst (-1), 1, (-1), 0, []), (11, .ireturn, 1, 0, 0, [])]
theorem ok_SC_register_10 : blkOK b_SC_register pt_SC 12 I_SC_register_10 = true := by decide +kernel
def I_SC_register_12 : List IT := [(12, .iload_n 1, 1, 0, 0, []), (13, .bipush 8, 2, 8, 0, []), (15, .if_icmp .ge 13, 3, 0, 28, []), (18, .aload_n 0, 1, 0, 0, []), (19, .getfield 19, 3, 0, 0, []), (22, .getfield 76, 3, 0, 0, []), (25, .iload_n 1, 1, 0, 0, []), (26, .iaload, 1, 0, 0, []), (27, .ireturn, 1, 0, 0, [])]
theorem ok_SC_register_12 : blkOK b_SC_register pt_SC 28 I_SC_register_12 = true := by decide +kernel
def I_SC_register_28 : List IT := [(28, .iload_n 1, 1, 0, 0, []), (29, .bipush 12, 2, 12, 0, []), (31, .if_icmp .ge 16, 3, 0, 47, []), (34, .aload_n 0, 1, 0, 0, []), (35, .getfield 19, 3, 0, 0, []), (38, .getfield 108, 3, 0, 0, []), (41, .iload_n 1, 1, 0, 0, []), (42, .bipush 8, 2, 8, 0, []), (44, .isub, 1, 0, 0, []), (45, .iaload, 1, 0, 0, []), (46, .ireturn, 1, 0, 0, [])]
theorem ok_SC_register_28 : blkOK b_SC_register pt_SC 47 I_SC_register_28 = true := by decide +kernel
def I_SC_register_47 : List IT := [(47, .iload_n 1, 1, 0, 0, []), (48, .bipush 12, 2, 12, 0, []), (50, .if_icmp .ne 13, 3, 0, 63, []), (53, .aload_n 0, 1, 0, 0, []), (54, .getfield 19, 3, 0, 0, []), (57, .getfield 80, 3, 0, 0, []), (60, .goto 10, 3, 0, 70, [])]
theorem ok_SC_register_47 : blkOK b_SC_register pt_SC 63 I_SC_register_47 = true := by decide +kernel
def I_SC_register_63 : List IT := [(63, .aload_n 0, 1, 0, 0, []), (64, .getfield 26, 3, 0, 0, []), (67, .getfield 111, 3, 0, 0, [])]
theorem ok_SC_register_63 : blkOK b_SC_register pt_SC 70 I_SC_register_63 = true := by decide +kernel
def I_SC_register_70 : List IT := [(70, .ireturn, 1, 0, 0, [])]
theorem ok_SC_register_70 : blkOK b_SC_register pt_SC 71 I_SC_register_70 = true := by decide +kernel
def f_SC_register (σ : Sg) (a1 : Int32) : Int32 × Sg := (if a1 < (0 : Int32) then ((-1 : Int32), σ) else (if a1 ≤ (13 : Int32) then (if (8 : Int32) ≤ a1 then (if (12 : Int32) ≤ a1 then (if a1 = (12 : Int32) then ((σ 3 2), σ) else ((σ 6 0), σ)) else ((σ 5 (Int32.toNatClampNeg (a1 - (8 : Int32)))), σ)) else ((σ 4 (Int32.toNatClampNeg a1)), σ)) else ((-1 : Int32), σ)))
abbrev w_SC_register : List (Nat × Option Nat) := []
theorem p_SC_register {P : Sg → Prop} (hP : WP w_SC_register P) {σ : Sg} {a1 : Int32} (h : P σ) : PP P (f_SC_register σ a1) := by
  unfold f_SC_register
  refine ite_z (fun _ => ?_) (fun _ => ?_)
  · exact h
  · refine ite_z (fun _ => ?_) (fun _ => ?_)
    · refine ite_z (fun _ => ?_) (fun _ => ?_)
      · refine ite_z (fun _ => ?_) (fun _ => ?_)
        · refine ite_z (fun _ => ?_) (fun _ => ?_)
          · exact h
          · exact h
        · exact h
      · exact h
    · exact h
set_option maxRecDepth 100000 in
set_option maxHeartbeats 4000000 in
theorem s_SC_register {l : Launch} {ad : Nat → Nat} {D : va_G} {cI : ClassId} {σ : Sg} {a1 : Int32} {K : Option Value → Sg → Prop}   (hK : KI K (f_SC_register σ a1)) : MetJ l ad D cI mi_SC_register [.ref 0, .int a1] σ K := by
  refine met_of mi_SC_register pt_SC pt_SC_in rfl pl_SC rfl (Nat.le_of_ble_eq_true rfl) fun X hX => ?_
  have hX : Cl l ad D cI mi_SC_register pt_SC K X := hX
  show X 0 [.ref 0, .int a1] [] σ
  unfold f_SC_register at hK
  refine hX.1 10 I_SC_register_0 ok_SC_register_0 _ _ _ ?_
  refine And.intro (fun h1 => ?_) (fun h1 => ?_)
  · have hK := ite_p hK h1
    refine hX.1 12 I_SC_register_10 ok_SC_register_10 _ _ _ ?_
    exact hK
  · have hK := ite_n hK h1
    refine And.intro (fun h2 => ?_) (fun h2 => ?_)
    · have hK := ite_p hK h2
      refine hX.1 28 I_SC_register_12 ok_SC_register_12 _ _ _ ?_
      refine And.intro (fun h3 => ?_) (fun h3 => ?_)
      · have hK := ite_p hK h3
        refine hX.1 47 I_SC_register_28 ok_SC_register_28 _ _ _ ?_
        refine And.intro (fun h4 => ?_) (fun h4 => ?_)
        · have hK := ite_p hK h4
          refine hX.1 63 I_SC_register_47 ok_SC_register_47 _ _ _ ?_
          refine And.intro (fun h5 => ?_) (fun h5 => ?_)
          · have hK := ite_p hK h5
            refine hX.1 71 I_SC_register_70 ok_SC_register_70 _ _ _ ?_
            exact hK
          · have hK := ite_n hK h5
            refine hX.1 70 I_SC_register_63 ok_SC_register_63 _ _ _ ?_
            refine hX.1 71 I_SC_register_70 ok_SC_register_70 _ _ _ ?_
            exact hK
        · have hK := ite_n hK h4
          refine And.intro (vin_sub (k := 8) (m := 12) (by decide) (by decide) h3 h4) ?_
          exact hK
      · have hK := ite_n hK h3
        refine And.intro (vin_nle (m := 8) rfl h1 h3) ?_
        exact hK
    · have hK := ite_n hK h2
      refine hX.1 12 I_SC_register_10 ok_SC_register_10 _ _ _ ?_
      exact hK
def I_SC_put_0 : List IT := [(0, .iload_n 1, 1, 0, 0, []), (1, .ifCond .lt 9, 3, 0, 10, []), (4, .iload_n 1, 1, 0, 0, []), (5, .bipush 13, 2, 13, 0, []), (7, .if_icmp .le 5, 3, 0, 12, [])]
theorem ok_SC_put_0 : blkOK b_SC_put pt_SC 10 I_SC_put_0 = true := by decide +kernel
def I_SC_put_10 : List IT := [(10, .iconst 0, 1, 0, 0, []), (11, .ireturn, 1, 0, 0, [])]
theorem ok_SC_put_10 : blkOK b_SC_put pt_SC 12 I_SC_put_10 = true := by decide +kernel
def I_SC_put_12 : List IT := [(12, .iload_n 2, 1, 0, 0, []), (13, .ldc 114, 2, 65535, 0, []), (15, .iand, 1, 0, 0, []), (16, .istore_n 3, 1, 0, 0, []), (17, .iload_n 1, 1, 0, 0, []), (18, .bipush 8, 2, 8, 0, []), (20, .if_icmp .ge 16, 3, 0, 36, []), (23, .aload_n 0, 1, 0, 0, []), (24, .getfield 19, 3, 0, 0, []), (27, .getfield 76, 3, 0, 0, []), (30, .iload_n 1, 1, 0, 0, []), (31, .iload_n 3, 1, 0, 0, []), (32, .iastore, 1, 0, 0, []), (33, .goto 54, 3, 0, 87, [])]
theorem ok_SC_put_12 : blkOK b_SC_put pt_SC 36 I_SC_put_12 = true := by decide +kernel
def I_SC_put_36 : List IT := [(36, .iload_n 1, 1, 0, 0, []), (37, .bipush 12, 2, 12, 0, []), (39, .if_icmp .ge 19, 3, 0, 58, []), (42, .aload_n 0, 1, 0, 0, []), (43, .getfield 19, 3, 0, 0, []), (46, .getfield 108, 3, 0, 0, []), (49, .iload_n 1, 1, 0, 0, []), (50, .bipush 8, 2, 8, 0, []), (52, .isub, 1, 0, 0, []), (53, .iload_n 3, 1, 0, 0, []), (54, .iastore, 1, 0, 0, []), (55, .goto 32, 3, 0, 87, [])]
theorem ok_SC_put_36 : blkOK b_SC_put pt_SC 58 I_SC_put_36 = true := by decide +kernel
def I_SC_put_58 : List IT := [(58, .iload_n 1, 1, 0, 0, []), (59, .bipush 12, 2, 12, 0, []), (61, .if_icmp .ne 14, 3, 0, 75, []), (64, .aload_n 0, 1, 0, 0, []), (65, .getfield 19, 3, 0, 0, []), (68, .iload_n 3, 1, 0, 0, []), (69, .putfield 80, 3, 0, 0, []), (72, .goto 15, 3, 0, 87, [])]
theorem ok_SC_put_58 : blkOK b_SC_put pt_SC 75 I_SC_put_58 = true := by decide +kernel
def I_SC_put_75 : List IT := [(75, .aload_n 0, 1, 0, 0, []), (76, .getfield 26, 3, 0, 0, []), (79, .iload_n 3, 1, 0, 0, []), (80, .sipush 3777, 3, 3777, 0, []), (83, .iand, 1, 0, 0, []), (84, .putfield 111, 3, 0, 0, [])]
theorem ok_SC_put_75 : blkOK b_SC_put pt_SC 87 I_SC_put_75 = true := by decide +kernel
def I_SC_put_87 : List IT := [(87, .iconst 1, 1, 1, 0, []), (88, .ireturn, 1, 0, 0, [])]
theorem ok_SC_put_87 : blkOK b_SC_put pt_SC 89 I_SC_put_87 = true := by decide +kernel
def f_SC_put (σ : Sg) (a1 : Int32) (a2 : Int32) : Int32 × Sg := (if a1 < (0 : Int32) then ((0 : Int32), σ) else (if a1 ≤ (13 : Int32) then (if (8 : Int32) ≤ a1 then (if (12 : Int32) ≤ a1 then (if a1 = (12 : Int32) then (bnd (up2 σ 3 2 (a2 &&& (65535 : Int32))) fun s6 => ((1 : Int32), s6)) else (bnd (up2 σ 6 0 ((a2 &&& (65535 : Int32)) &&& (3777 : Int32))) fun s7 => ((1 : Int32), s7))) else (bnd (up2 σ 5 (Int32.toNatClampNeg (a1 - (8 : Int32))) (a2 &&& (65535 : Int32))) fun s8 => ((1 : Int32), s8))) else (bnd (up2 σ 4 (Int32.toNatClampNeg a1) (a2 &&& (65535 : Int32))) fun s9 => ((1 : Int32), s9))) else ((0 : Int32), σ)))
theorem z_SC_put {σ : Sg} {a1 : Int32} {a2 : Int32}   : (f_SC_put σ a1 a2).1 = 0 ∨ (f_SC_put σ a1 a2).1 = 1 := by
  show Zb (f_SC_put σ a1 a2)
  unfold f_SC_put
  refine ite_z (fun h1 => ?_) (fun h1 => ?_)
  · exact (Or.inl rfl)
  · refine ite_z (fun h2 => ?_) (fun h2 => ?_)
    · refine ite_z (fun h3 => ?_) (fun h3 => ?_)
      · refine ite_z (fun h4 => ?_) (fun h4 => ?_)
        · refine ite_z (fun h5 => ?_) (fun h5 => ?_)
          · refine bnd_z fun s6 e6 => ?_
            exact (Or.inr rfl)
          · refine bnd_z fun s7 e7 => ?_
            exact (Or.inr rfl)
        · refine bnd_z fun s8 e8 => ?_
          exact (Or.inr rfl)
      · refine bnd_z fun s9 e9 => ?_
        exact (Or.inr rfl)
    · exact (Or.inl rfl)
abbrev w_SC_put : List (Nat × Option Nat) := [(3, some 2), (4, none), (5, none), (6, some 0)]
theorem p_SC_put {P : Sg → Prop} (hP : WP w_SC_put P) {σ : Sg} {a1 : Int32} {a2 : Int32} (h : P σ) : PP P (f_SC_put σ a1 a2) := by
  unfold f_SC_put
  refine ite_z (fun _ => ?_) (fun _ => ?_)
  · exact h
  · refine ite_z (fun _ => ?_) (fun _ => ?_)
    · refine ite_z (fun _ => ?_) (fun _ => ?_)
      · refine ite_z (fun _ => ?_) (fun _ => ?_)
        · refine ite_z (fun _ => ?_) (fun _ => ?_)
          · refine bnd_zz (Z := P) (hP _ _ _ _ (Or.inr (by decide)) h) fun s6 e6 q6 => ?_
            exact q6
          · refine bnd_zz (Z := P) (hP _ _ _ _ (Or.inr (by decide)) h) fun s7 e7 q7 => ?_
            exact q7
        · refine bnd_zz (Z := P) (hP _ _ _ _ (Or.inl (by decide)) h) fun s8 e8 q8 => ?_
          exact q8
      · refine bnd_zz (Z := P) (hP _ _ _ _ (Or.inl (by decide)) h) fun s9 e9 q9 => ?_
        exact q9
    · exact h
set_option maxRecDepth 100000 in
set_option maxHeartbeats 4000000 in
theorem s_SC_put {l : Launch} {ad : Nat → Nat} {D : va_G} {cI : ClassId} {σ : Sg} {a1 : Int32} {a2 : Int32} {K : Option Value → Sg → Prop}   (hK : KI K (f_SC_put σ a1 a2)) : MetJ l ad D cI mi_SC_put [.ref 0, .int a1, .int a2] σ K := by
  refine met_of mi_SC_put pt_SC pt_SC_in rfl pl_SC rfl (Nat.le_of_ble_eq_true rfl) fun X hX => ?_
  have hX : Cl l ad D cI mi_SC_put pt_SC K X := hX
  show X 0 [.ref 0, .int a1, .int a2, .null] [] σ
  unfold f_SC_put at hK
  refine hX.1 10 I_SC_put_0 ok_SC_put_0 _ _ _ ?_
  refine And.intro (fun h1 => ?_) (fun h1 => ?_)
  · have hK := ite_p hK h1
    refine hX.1 12 I_SC_put_10 ok_SC_put_10 _ _ _ ?_
    exact And.intro (Or.inl rfl) hK
  · have hK := ite_n hK h1
    refine And.intro (fun h2 => ?_) (fun h2 => ?_)
    · have hK := ite_p hK h2
      refine hX.1 36 I_SC_put_12 ok_SC_put_12 _ _ _ ?_
      refine And.intro (fun h3 => ?_) (fun h3 => ?_)
      · have hK := ite_p hK h3
        refine hX.1 58 I_SC_put_36 ok_SC_put_36 _ _ _ ?_
        refine And.intro (fun h4 => ?_) (fun h4 => ?_)
        · have hK := ite_p hK h4
          refine hX.1 75 I_SC_put_58 ok_SC_put_58 _ _ _ ?_
          refine And.intro (fun h5 => ?_) (fun h5 => ?_)
          · have hK := ite_p hK h5
            refine And.intro trivial (SG_g hK fun s6 e6 hK => ?_)
            refine hX.1 89 I_SC_put_87 ok_SC_put_87 _ _ _ ?_
            exact And.intro (Or.inr rfl) hK
          · have hK := ite_n hK h5
            refine hX.1 87 I_SC_put_75 ok_SC_put_75 _ _ _ ?_
            refine And.intro trivial (SG_g hK fun s7 e7 hK => ?_)
            refine hX.1 89 I_SC_put_87 ok_SC_put_87 _ _ _ ?_
            exact And.intro (Or.inr rfl) hK
        · have hK := ite_n hK h4
          refine And.intro (vin_sub (k := 8) (m := 12) (by decide) (by decide) h3 h4) (SG_g hK fun s8 e8 hK => ?_)
          refine hX.1 89 I_SC_put_87 ok_SC_put_87 _ _ _ ?_
          exact And.intro (Or.inr rfl) hK
      · have hK := ite_n hK h3
        refine And.intro (vin_nle (m := 8) rfl h1 h3) (SG_g hK fun s9 e9 hK => ?_)
        refine hX.1 89 I_SC_put_87 ok_SC_put_87 _ _ _ ?_
        exact And.intro (Or.inr rfl) hK
    · have hK := ite_n hK h2
      refine hX.1 12 I_SC_put_10 ok_SC_put_10 _ _ _ ?_
      exact And.intro (Or.inl rfl) hK
def I_SC_halted_0 : List IT := [(0, .aload_n 0, 1, 0, 0, []), (1, .getfield 72, 3, 0, 0, []), (4, .getfield 115, 3, 0, 0, []), (7, .ireturn, 1, 0, 0, [])]
theorem ok_SC_halted_0 : blkOK b_SC_halted pt_SC 8 I_SC_halted_0 = true := by decide +kernel
def f_SC_halted (σ : Sg)  : Int32 × Sg := ((σ 12 6), σ)
theorem z_SC_halted {σ : Sg}   (hb : σ 12 6 = 0 ∨ σ 12 6 = 1) : (f_SC_halted σ ).1 = 0 ∨ (f_SC_halted σ ).1 = 1 := by
  show Zb (f_SC_halted σ )
  unfold f_SC_halted
  exact hb
abbrev w_SC_halted : List (Nat × Option Nat) := []
theorem p_SC_halted {P : Sg → Prop} (hP : WP w_SC_halted P) {σ : Sg}  (h : P σ) : PP P (f_SC_halted σ ) := by
  unfold f_SC_halted
  exact h
set_option maxRecDepth 100000 in
set_option maxHeartbeats 4000000 in
theorem s_SC_halted {l : Launch} {ad : Nat → Nat} {D : va_G} {cI : ClassId} {σ : Sg}  {K : Option Value → Sg → Prop}  (hb : σ 12 6 = 0 ∨ σ 12 6 = 1) (hK : KI K (f_SC_halted σ )) : MetJ l ad D cI mi_SC_halted [.ref 0] σ K := by
  refine met_of mi_SC_halted pt_SC pt_SC_in rfl pl_SC rfl (Nat.le_of_ble_eq_true rfl) fun X hX => ?_
  have hX : Cl l ad D cI mi_SC_halted pt_SC K X := hX
  show X 0 [.ref 0] [] σ
  unfold f_SC_halted at hK
  refine hX.1 8 I_SC_halted_0 ok_SC_halted_0 _ _ _ ?_
  exact And.intro hb hK
def I_SC_key_0 : List IT := [(0, .iload_n 1, 1, 0, 0, []), (1, .invokestatic 91, 3, 0, 0, []), (4, .ifCond .eq 18, 3, 0, 22, []), (7, .aload_n 0, 1, 0, 0, []), (8, .getfield 49, 3, 0, 0, []), (11, .iload_n 1, 1, 0, 0, []), (12, .invokevirtual 119, 3, 0, 0, []), (15, .ifCond .eq 7, 3, 0, 22, []), (18, .iconst 1, 1, 1, 0, []), (19, .goto 4, 3, 0, 23, [])]
theorem ok_SC_key_0 : blkOK b_SC_key pt_SC 22 I_SC_key_0 = true := by decide +kernel
def I_SC_key_22 : List IT := [(22, .iconst 0, 1, 0, 0, [])]
theorem ok_SC_key_22 : blkOK b_SC_key pt_SC 23 I_SC_key_22 = true := by decide +kernel
def I_SC_key_23 : List IT := [(23, .ireturn, 1, 0, 0, [])]
theorem ok_SC_key_23 : blkOK b_SC_key pt_SC 24 I_SC_key_23 = true := by decide +kernel
def f_SC_key (σ : Sg) (a1 : Int32) : Int32 × Sg := (bnd (f_SC_isByte σ a1) fun r1 => (if r1.1 = (0 : Int32) then ((0 : Int32), r1.2) else (bnd (f_Key_come r1.2 a1) fun r3 => (if r3.1 = (0 : Int32) then ((0 : Int32), r3.2) else ((1 : Int32), r3.2)))))
theorem z_SC_key {σ : Sg} {a1 : Int32}  (hw : ¬ σ 9 2 < 0) : (f_SC_key σ a1).1 = 0 ∨ (f_SC_key σ a1).1 = 1 := by
  show Zb (f_SC_key σ a1)
  unfold f_SC_key
  refine bnd_zz (Z := Zb) (z_SC_isByte) fun r1 e1 z1 => ?_
  refine ite_z (fun h2 => ?_) (fun h2 => ?_)
  · exact (Or.inl rfl)
  · refine bnd_zz (Z := Zb) (z_Key_come (by subst_vars; exact p_SC_isByte (P := fun s => ¬ s 9 2 < 0) (WP_at (R := fun z => ¬ z < 0) rfl) hw)) fun r3 e3 z3 => ?_
    refine ite_z (fun h4 => ?_) (fun h4 => ?_)
    · exact (Or.inl rfl)
    · exact (Or.inr rfl)
abbrev w_SC_key : List (Nat × Option Nat) := [(7, some 0), (9, some 2), (10, none)]
theorem p_SC_key {P : Sg → Prop} (hP : WP w_SC_key P) {σ : Sg} {a1 : Int32} (h : P σ) : PP P (f_SC_key σ a1) := by
  unfold f_SC_key
  refine bnd_zz (Z := PP P) (p_SC_isByte (wsub hP rfl) h) fun r1 e1 q1 => ?_
  refine ite_z (fun _ => ?_) (fun _ => ?_)
  · exact q1
  · refine bnd_zz (Z := PP P) (p_Key_come (wsub hP rfl) q1) fun r3 e3 q3 => ?_
    refine ite_z (fun _ => ?_) (fun _ => ?_)
    · exact q3
    · exact q3
set_option maxRecDepth 100000 in
set_option maxHeartbeats 4000000 in
theorem s_SC_key {l : Launch} {ad : Nat → Nat} {D : va_G} {cI : ClassId} {σ : Sg} {a1 : Int32} {K : Option Value → Sg → Prop}  (hw : ¬ σ 9 2 < 0) (hK : KI K (f_SC_key σ a1)) : MetJ l ad D cI mi_SC_key [.ref 0, .int a1] σ K := by
  refine met_of mi_SC_key pt_SC pt_SC_in rfl pl_SC rfl (Nat.le_of_ble_eq_true rfl) fun X hX => ?_
  have hX : Cl l ad D cI mi_SC_key pt_SC K X := hX
  show X 0 [.ref 0, .int a1] [] σ
  unfold f_SC_key at hK
  refine hX.1 22 I_SC_key_0 ok_SC_key_0 _ _ _ ?_
  refine s_SC_isByte (bnd_g hK fun r1 e1 hK => ?_)
  have z1 : r1.1 = 0 ∨ r1.1 = 1 := by rw [← e1]; exact z_SC_isByte
  refine And.intro (fun h2 => ?_) (fun h2 => ?_)
  · have hK := ite_p hK h2
    refine hX.1 23 I_SC_key_22 ok_SC_key_22 _ _ _ ?_
    refine hX.1 24 I_SC_key_23 ok_SC_key_23 _ _ _ ?_
    exact And.intro (Or.inl rfl) hK
  · have hK := ite_n hK h2
    refine s_Key_come (by subst_vars; exact p_SC_isByte (P := fun s => ¬ s 9 2 < 0) (WP_at (R := fun z => ¬ z < 0) rfl) hw) (bnd_g hK fun r3 e3 hK => ?_)
    have z3 : r3.1 = 0 ∨ r3.1 = 1 := by rw [← e3]; exact z_Key_come (by subst_vars; exact p_SC_isByte (P := fun s => ¬ s 9 2 < 0) (WP_at (R := fun z => ¬ z < 0) rfl) hw)
    refine And.intro (fun h4 => ?_) (fun h4 => ?_)
    · have hK := ite_p hK h4
      refine hX.1 23 I_SC_key_22 ok_SC_key_22 _ _ _ ?_
      refine hX.1 24 I_SC_key_23 ok_SC_key_23 _ _ _ ?_
      exact And.intro (Or.inl rfl) hK
    · have hK := ite_n hK h4
      refine hX.1 24 I_SC_key_23 ok_SC_key_23 _ _ _ ?_
      exact And.intro (Or.inr rfl) hK
def I_SC_transfer_0 : List IT := [(0, .iload_n 1, 1, 0, 0, []), (1, .invokestatic 91, 3, 0, 0, []), (4, .ifCond .eq 18, 3, 0, 22, []), (7, .aload_n 0, 1, 0, 0, []), (8, .getfield 58, 3, 0, 0, []), (11, .iload_n 1, 1, 0, 0, []), (12, .invokevirtual 122, 3, 0, 0, []), (15, .ifCond .eq 7, 3, 0, 22, []), (18, .iconst 1, 1, 1, 0, []), (19, .goto 4, 3, 0, 23, [])]
theorem ok_SC_transfer_0 : blkOK b_SC_transfer pt_SC 22 I_SC_transfer_0 = true := by decide +kernel
def I_SC_transfer_22 : List IT := [(22, .iconst 0, 1, 0, 0, [])]
theorem ok_SC_transfer_22 : blkOK b_SC_transfer pt_SC 23 I_SC_transfer_22 = true := by decide +kernel
def I_SC_transfer_23 : List IT := [(23, .ireturn, 1, 0, 0, [])]
theorem ok_SC_transfer_23 : blkOK b_SC_transfer pt_SC 24 I_SC_transfer_23 = true := by decide +kernel
def f_SC_transfer (σ : Sg) (a1 : Int32) : Int32 × Sg := (bnd (f_SC_isByte σ a1) fun r1 => (if r1.1 = (0 : Int32) then ((0 : Int32), r1.2) else (bnd (f_Cha_come r1.2 a1) fun r3 => (if r3.1 = (0 : Int32) then ((0 : Int32), r3.2) else ((1 : Int32), r3.2)))))
theorem z_SC_transfer {σ : Sg} {a1 : Int32}   : (f_SC_transfer σ a1).1 = 0 ∨ (f_SC_transfer σ a1).1 = 1 := by
  show Zb (f_SC_transfer σ a1)
  unfold f_SC_transfer
  refine bnd_zz (Z := Zb) (z_SC_isByte) fun r1 e1 z1 => ?_
  refine ite_z (fun h2 => ?_) (fun h2 => ?_)
  · exact (Or.inl rfl)
  · refine bnd_zz (Z := Zb) (z_Cha_come) fun r3 e3 z3 => ?_
    refine ite_z (fun h4 => ?_) (fun h4 => ?_)
    · exact (Or.inl rfl)
    · exact (Or.inr rfl)
abbrev w_SC_transfer : List (Nat × Option Nat) := [(2, none), (7, some 0), (11, some 2), (11, some 3), (11, some 5), (11, some 6)]
theorem p_SC_transfer {P : Sg → Prop} (hP : WP w_SC_transfer P) {σ : Sg} {a1 : Int32} (h : P σ) : PP P (f_SC_transfer σ a1) := by
  unfold f_SC_transfer
  refine bnd_zz (Z := PP P) (p_SC_isByte (wsub hP rfl) h) fun r1 e1 q1 => ?_
  refine ite_z (fun _ => ?_) (fun _ => ?_)
  · exact q1
  · refine bnd_zz (Z := PP P) (p_Cha_come (wsub hP rfl) q1) fun r3 e3 q3 => ?_
    refine ite_z (fun _ => ?_) (fun _ => ?_)
    · exact q3
    · exact q3
set_option maxRecDepth 100000 in
set_option maxHeartbeats 4000000 in
theorem s_SC_transfer {l : Launch} {ad : Nat → Nat} {D : va_G} {cI : ClassId} {σ : Sg} {a1 : Int32} {K : Option Value → Sg → Prop}   (hK : KI K (f_SC_transfer σ a1)) : MetJ l ad D cI mi_SC_transfer [.ref 0, .int a1] σ K := by
  refine met_of mi_SC_transfer pt_SC pt_SC_in rfl pl_SC rfl (Nat.le_of_ble_eq_true rfl) fun X hX => ?_
  have hX : Cl l ad D cI mi_SC_transfer pt_SC K X := hX
  show X 0 [.ref 0, .int a1] [] σ
  unfold f_SC_transfer at hK
  refine hX.1 22 I_SC_transfer_0 ok_SC_transfer_0 _ _ _ ?_
  refine s_SC_isByte (bnd_g hK fun r1 e1 hK => ?_)
  have z1 : r1.1 = 0 ∨ r1.1 = 1 := by rw [← e1]; exact z_SC_isByte
  refine And.intro (fun h2 => ?_) (fun h2 => ?_)
  · have hK := ite_p hK h2
    refine hX.1 23 I_SC_transfer_22 ok_SC_transfer_22 _ _ _ ?_
    refine hX.1 24 I_SC_transfer_23 ok_SC_transfer_23 _ _ _ ?_
    exact And.intro (Or.inl rfl) hK
  · have hK := ite_n hK h2
    refine s_Cha_come (bnd_g hK fun r3 e3 hK => ?_)
    have z3 : r3.1 = 0 ∨ r3.1 = 1 := by rw [← e3]; exact z_Cha_come
    refine And.intro (fun h4 => ?_) (fun h4 => ?_)
    · have hK := ite_p hK h4
      refine hX.1 23 I_SC_transfer_22 ok_SC_transfer_22 _ _ _ ?_
      refine hX.1 24 I_SC_transfer_23 ok_SC_transfer_23 _ _ _ ?_
      exact And.intro (Or.inl rfl) hK
    · have hK := ite_n hK h4
      refine hX.1 24 I_SC_transfer_23 ok_SC_transfer_23 _ _ _ ?_
      exact And.intro (Or.inr rfl) hK
def I_SC_lines_0 : List IT := [(0, .iload_n 1, 1, 0, 0, []), (1, .tableswitch 51 0 2 #[27, 35, 43], 27, 0, 52, [(0, 28), (1, 36), (2, 44)])]
theorem ok_SC_lines_0 : blkOK b_SC_lines pt_SC 28 I_SC_lines_0 = true := by decide +kernel
def I_SC_lines_28 : List IT := [(28, .aload_n 0, 1, 0, 0, []), (29, .getfield 33, 3, 0, 0, []), (32, .getfield 123, 3, 0, 0, []), (35, .ireturn, 1, 0, 0, [])]
theorem ok_SC_lines_28 : blkOK b_SC_lines pt_SC 36 I_SC_lines_28 = true := by decide +kernel
def I_SC_lines_36 : List IT := [(36, .aload_n 0, 1, 0, 0, []), (37, .getfield 33, 3, 0, 0, []), (40, .getfield 126, 3, 0, 0, []), (43, .ireturn, 1, 0, 0, [])]
theorem ok_SC_lines_36 : blkOK b_SC_lines pt_SC 44 I_SC_lines_36 = true := by decide +kernel
def I_SC_lines_44 : List IT := [(44, .aload_n 0, 1, 0, 0, []), (45, .getfield 33, 3, 0, 0, []), (48, .getfield 129, 3, 0, 0, []), (51, .ireturn, 1, 0, 0, [])]
theorem ok_SC_lines_44 : blkOK b_SC_lines pt_SC 52 I_SC_lines_44 = true := by decide +kernel
def I_SC_lines_52 : List IT := [(52, .iconst (-1), 1, (-1), 0, []), (53, .ireturn, 1, 0, 0, [])]
theorem ok_SC_lines_52 : blkOK b_SC_lines pt_SC 54 I_SC_lines_52 = true := by decide +kernel
def f_SC_lines (σ : Sg) (a1 : Int32) : Int32 × Sg := (if a1 = (0 : Int32) then ((σ 7 0), σ) else (if a1 = (1 : Int32) then ((σ 7 1), σ) else (if a1 = (2 : Int32) then ((σ 7 2), σ) else ((-1 : Int32), σ))))
abbrev w_SC_lines : List (Nat × Option Nat) := []
theorem p_SC_lines {P : Sg → Prop} (hP : WP w_SC_lines P) {σ : Sg} {a1 : Int32} (h : P σ) : PP P (f_SC_lines σ a1) := by
  unfold f_SC_lines
  refine ite_z (fun _ => ?_) (fun _ => ?_)
  · exact h
  refine ite_z (fun _ => ?_) (fun _ => ?_)
  · exact h
  refine ite_z (fun _ => ?_) (fun _ => ?_)
  · exact h
  exact h
set_option maxRecDepth 100000 in
set_option maxHeartbeats 4000000 in
theorem s_SC_lines {l : Launch} {ad : Nat → Nat} {D : va_G} {cI : ClassId} {σ : Sg} {a1 : Int32} {K : Option Value → Sg → Prop}   (hK : KI K (f_SC_lines σ a1)) : MetJ l ad D cI mi_SC_lines [.ref 0, .int a1] σ K := by
  refine met_of mi_SC_lines pt_SC pt_SC_in rfl pl_SC rfl (Nat.le_of_ble_eq_true rfl) fun X hX => ?_
  have hX : Cl l ad D cI mi_SC_lines pt_SC K X := hX
  show X 0 [.ref 0, .int a1] [] σ
  unfold f_SC_lines at hK
  refine hX.1 28 I_SC_lines_0 ok_SC_lines_0 _ _ _ ?_
  refine And.intro (fun h1 => ?_) (fun h1 => ?_)
  · have hK := ite_p hK h1
    refine hX.1 36 I_SC_lines_28 ok_SC_lines_28 _ _ _ ?_
    exact hK
  have hK := ite_n hK h1
  refine And.intro (fun h2 => ?_) (fun h2 => ?_)
  · have hK := ite_p hK h2
    refine hX.1 44 I_SC_lines_36 ok_SC_lines_36 _ _ _ ?_
    exact hK
  have hK := ite_n hK h2
  refine And.intro (fun h3 => ?_) (fun h3 => ?_)
  · have hK := ite_p hK h3
    refine hX.1 52 I_SC_lines_44 ok_SC_lines_44 _ _ _ ?_
    exact hK
  have hK := ite_n hK h3
  refine hX.1 54 I_SC_lines_52 ok_SC_lines_52 _ _ _ ?_
  exact hK
def I_SC_count_0 : List IT := [(0, .aload_n 0, 1, 0, 0, []), (1, .getfield 42, 3, 0, 0, []), (4, .getfield 132, 3, 0, 0, []), (7, .ireturn, 1, 0, 0, [])]
theorem ok_SC_count_0 : blkOK b_SC_count pt_SC 8 I_SC_count_0 = true := by decide +kernel
def f_SC_count (σ : Sg)  : Int32 × Sg := ((σ 8 1), σ)
abbrev w_SC_count : List (Nat × Option Nat) := []
theorem p_SC_count {P : Sg → Prop} (hP : WP w_SC_count P) {σ : Sg}  (h : P σ) : PP P (f_SC_count σ ) := by
  unfold f_SC_count
  exact h
set_option maxRecDepth 100000 in
set_option maxHeartbeats 4000000 in
theorem s_SC_count {l : Launch} {ad : Nat → Nat} {D : va_G} {cI : ClassId} {σ : Sg}  {K : Option Value → Sg → Prop}   (hK : KI K (f_SC_count σ )) : MetJ l ad D cI mi_SC_count [.ref 0] σ K := by
  refine met_of mi_SC_count pt_SC pt_SC_in rfl pl_SC rfl (Nat.le_of_ble_eq_true rfl) fun X hX => ?_
  have hX : Cl l ad D cI mi_SC_count pt_SC K X := hX
  show X 0 [.ref 0] [] σ
  unfold f_SC_count at hK
  refine hX.1 8 I_SC_count_0 ok_SC_count_0 _ _ _ ?_
  exact hK
def I_SC_interrupts_0 : List IT := [(0, .aload_n 0, 1, 0, 0, []), (1, .getfield 72, 3, 0, 0, []), (4, .getfield 135, 3, 0, 0, []), (7, .ireturn, 1, 0, 0, [])]
theorem ok_SC_interrupts_0 : blkOK b_SC_interrupts pt_SC 8 I_SC_interrupts_0 = true := by decide +kernel
def f_SC_interrupts (σ : Sg)  : Int32 × Sg := ((σ 12 7), σ)
abbrev w_SC_interrupts : List (Nat × Option Nat) := []
theorem p_SC_interrupts {P : Sg → Prop} (hP : WP w_SC_interrupts P) {σ : Sg}  (h : P σ) : PP P (f_SC_interrupts σ ) := by
  unfold f_SC_interrupts
  exact h
set_option maxRecDepth 100000 in
set_option maxHeartbeats 4000000 in
theorem s_SC_interrupts {l : Launch} {ad : Nat → Nat} {D : va_G} {cI : ClassId} {σ : Sg}  {K : Option Value → Sg → Prop}   (hK : KI K (f_SC_interrupts σ )) : MetJ l ad D cI mi_SC_interrupts [.ref 0] σ K := by
  refine met_of mi_SC_interrupts pt_SC pt_SC_in rfl pl_SC rfl (Nat.le_of_ble_eq_true rfl) fun X hX => ?_
  have hX : Cl l ad D cI mi_SC_interrupts pt_SC K X := hX
  show X 0 [.ref 0] [] σ
  unfold f_SC_interrupts at hK
  refine hX.1 8 I_SC_interrupts_0 ok_SC_interrupts_0 _ _ _ ?_
  exact hK
end
section
/-! the twin: what its fields are, as far as a step's indices need it -/
theorem WP_nil {P : Sg → Prop} : WP [] P := fun _ _ _ _ hw _ => by
  rcases hw with h | h <;> cases h
theorem WP_at2 {W : List (Nat × Option Nat)} {a b c : Nat} {R : Int32 → Int32 → Prop} (h : (W.all fun q => decide (q ≠ (a, none)) && (decide (q ≠ (a, some b)) && decide (q ≠ (a, some c)))) = true) : WP W (fun s => R (s a b) (s a c)) := by
  intro s i j v hw hp
  have e1 : up2 s i j v a b = s a b := WP_at (W := W) (a := a) (b := b) (R := fun z => z = s a b) (List.all_eq_true.mpr fun q hq => by
    have := List.all_eq_true.mp h q hq
    simp only [Bool.and_eq_true] at this ⊢
    exact ⟨this.1, this.2.1⟩) s i j v hw rfl
  have e2 : up2 s i j v a c = s a c := WP_at (W := W) (a := a) (b := c) (R := fun z => z = s a c) (List.all_eq_true.mpr fun q hq => by
    have := List.all_eq_true.mp h q hq
    simp only [Bool.and_eq_true] at this ⊢
    exact ⟨this.1, this.2.2⟩) s i j v hw rfl
  show R (up2 s i j v a b) (up2 s i j v a c)
  rw [e1, e2]
  exact hp
def OV (s : Sg) : Prop := s 15 10 < 0 ∨ vp_in (s 15 10) 4
def MK (s : Sg) : Prop := vp_in (s 15 12) 8
def EK (s : Sg) : Prop := vp_in (s 15 13) 8 ∨ (s 15 13 < 0 ∧ vp_in (s 15 15) 4)
def KY (s : Sg) : Prop := vp_in (s 15 28) 5
def MB (s : Sg) : Prop := ∀ i, ¬ s 16 i < 0
def EG (s : Sg) : Prop := vp_in (s 15 15) 4
theorem OVw {W : List (Nat × Option Nat)} (h : (W.all fun q => decide (q ≠ (15, none)) && decide (q ≠ (15, some 10))) = true) : WP W OV := WP_at (R := fun z => z < 0 ∨ vp_in z 4) h
theorem MKw {W : List (Nat × Option Nat)} (h : (W.all fun q => decide (q ≠ (15, none)) && decide (q ≠ (15, some 12))) = true) : WP W MK := WP_at (R := fun z => vp_in z 8) h
theorem EKw {W : List (Nat × Option Nat)} (h : (W.all fun q => decide (q ≠ (15, none)) && (decide (q ≠ (15, some 13)) && decide (q ≠ (15, some 15)))) = true) : WP W EK := WP_at2 (R := fun x y => vp_in x 8 ∨ (x < 0 ∧ vp_in y 4)) h
theorem KYw {W : List (Nat × Option Nat)} (h : (W.all fun q => decide (q ≠ (15, none)) && decide (q ≠ (15, some 28))) = true) : WP W KY := WP_at (R := fun z => vp_in z 5) h
theorem MBw {W : List (Nat × Option Nat)} (h : (W.all fun q => decide (q.1 ≠ 16)) = true) : WP W MB := WP_cell (R := fun m => ∀ i, ¬ m i < 0) h
theorem vin_m4 {a : Int32} (h : vp_in a 8) (h4 : 4 ≤ a) : vp_in (a - 4) 8 := by
  rw [vp_in_iff] at h ⊢
  rw [sub_toInt (by decide) h4]
  rw [i_le] at h4
  have e : (4 : Int32).toInt = 4 := by decide
  omega
theorem EK_s {s : Sg} (h : EK s) (h1 : s 15 13 < 0) : vp_in (s 15 15) 4 := by
  rcases h with h | h
  · exact absurd (Or.inl h1) h
  · exact h.2
theorem EK_r {s : Sg} (h : EK s) (h1 : ¬ s 15 13 < 0) : vp_in (s 15 13) 8 := by
  rcases h with h | h
  · exact h
  · exact absurd h.1 h1
theorem OV_in {s : Sg} (h : OV s) (h1 : ¬ s 15 10 < 0) : vp_in (s 15 10) 4 := by
  rcases h with h | h
  · exact absurd h h1
  · exact h
theorem KY_1 {s : Sg} (h : KY s) : s 15 28 - 1 ≤ 3 := by
  have h := vp_in_iff.mp h
  rw [i_le, Int32.toInt_sub]
  have e1 : (1 : Int32).toInt = 1 := by decide
  have e3 : (3 : Int32).toInt = 3 := by decide
  rw [e1, e3, Int.bmod_eq_of_le (by omega) (by omega)]
  omega
theorem KY_in {s : Sg} (h : KY s) (h4 : s 15 28 < 4) : vp_in (s 15 28) 4 := by
  have h := vp_in_iff.mp h
  rw [vp_in_iff]
  rw [i_lt] at h4
  have e4 : (4 : Int32).toInt = 4 := by decide
  omega
theorem vin_c3 {a : Int32} (h : ¬ a < 0) (h2 : ¬ 32 ≤ a) : vp_in (a >>> ((3 : Int32) &&& 31)) 4 := by
  rw [vp_in_iff, pk_shr a ((3 : Int32) &&& 31) 3 rfl, Int.shiftRight_eq_div_pow]
  rw [i_lt, Int32.toInt_zero] at h
  rw [i_le] at h2
  have e : (32 : Int32).toInt = 32 := by decide
  omega
theorem vin_vec (x : Int32) (j : Nat) (hj : j < 4) : vp_in ((4 : Int32) * (x &&& 15) + nI j) 1024 := by
  obtain ⟨k, hk, e⟩ := pk_andE x (m := 15) 4 rfl
  rw [e, show (4 : Int32) = nI 4 from rfl, pk_mul, nI_add]
  exact vp_in_nI (by omega) (by decide)
theorem vin_vec0 (x : Int32) : vp_in ((4 : Int32) * (x &&& 15)) 1024 := by
  obtain ⟨k, hk, e⟩ := pk_andE x (m := 15) 4 rfl
  rw [e, show (4 : Int32) = nI 4 from rfl, pk_mul]
  exact vp_in_nI (by omega) (by decide)
theorem vin_vec1 (x : Int32) : vp_in ((4 : Int32) * (x &&& 15) + 1) 1024 := vin_vec x 1 (by decide)
theorem vin_vec2 (x : Int32) : vp_in ((4 : Int32) * (x &&& 15) + 2) 1024 := vin_vec x 2 (by decide)
theorem vin_vec3 (x : Int32) : vp_in ((4 : Int32) * (x &&& 15) + 3) 1024 := vin_vec x 3 (by decide)
end
section
def I_Mod_in_0 : List IT := [(0, .iload_n 0, 1, 0, 0, []), (1, .iload_n 1, 1, 0, 0, []), (2, .if_icmp .lt 12, 3, 0, 14, []), (5, .iload_n 0, 1, 0, 0, []), (6, .iload_n 2, 1, 0, 0, []), (7, .if_icmp .gt 7, 3, 0, 14, []), (10, .iconst 1, 1, 1, 0, []), (11, .goto 4, 3, 0, 15, [])]
theorem ok_Mod_in_0 : blkOK b_Mod_in pt_Mod 14 I_Mod_in_0 = true := by decide +kernel
def I_Mod_in_14 : List IT := [(14, .iconst 0, 1, 0, 0, [])]
theorem ok_Mod_in_14 : blkOK b_Mod_in pt_Mod 15 I_Mod_in_14 = true := by decide +kernel
def I_Mod_in_15 : List IT := [(15, .ireturn, 1, 0, 0, [])]
theorem ok_Mod_in_15 : blkOK b_Mod_in pt_Mod 16 I_Mod_in_15 = true := by decide +kernel
def f_Mod_in (σ : Sg) (a1 : Int32) (a2 : Int32) (a3 : Int32) : Int32 × Sg := (if a1 < a2 then ((0 : Int32), σ) else (if a3 < a1 then ((0 : Int32), σ) else ((1 : Int32), σ)))
theorem z_Mod_in {σ : Sg} {a1 : Int32} {a2 : Int32} {a3 : Int32}   : (f_Mod_in σ a1 a2 a3).1 = 0 ∨ (f_Mod_in σ a1 a2 a3).1 = 1 := by
  show Zb (f_Mod_in σ a1 a2 a3)
  unfold f_Mod_in
  refine ite_z (fun h1 => ?_) (fun h1 => ?_)
  · exact (Or.inl rfl)
  · refine ite_z (fun h2 => ?_) (fun h2 => ?_)
    · exact (Or.inl rfl)
    · exact (Or.inr rfl)
abbrev w_Mod_in : List (Nat × Option Nat) := []
theorem p_Mod_in {P : Sg → Prop} (hP : WP w_Mod_in P) {σ : Sg} {a1 : Int32} {a2 : Int32} {a3 : Int32} (h : P σ) : PP P (f_Mod_in σ a1 a2 a3) := by
  unfold f_Mod_in
  refine ite_z (fun _ => ?_) (fun _ => ?_)
  · exact h
  · refine ite_z (fun _ => ?_) (fun _ => ?_)
    · exact h
    · exact h
set_option maxRecDepth 100000 in
set_option maxHeartbeats 4000000 in
theorem s_Mod_in {l : Launch} {ad : Nat → Nat} {D : va_G} {cI : ClassId} {σ : Sg} {a1 : Int32} {a2 : Int32} {a3 : Int32} {K : Option Value → Sg → Prop}   (hK : KI K (f_Mod_in σ a1 a2 a3)) : MetJ l ad D cI mi_Mod_in [.int a1, .int a2, .int a3] σ K := by
  refine met_of mi_Mod_in pt_Mod pt_Mod_in rfl pl_Mod rfl (Nat.le_of_ble_eq_true rfl) fun X hX => ?_
  have hX : Cl l ad D cI mi_Mod_in pt_Mod K X := hX
  show X 0 [.int a1, .int a2, .int a3] [] σ
  unfold f_Mod_in at hK
  refine hX.1 14 I_Mod_in_0 ok_Mod_in_0 _ _ _ ?_
  refine And.intro (fun h1 => ?_) (fun h1 => ?_)
  · have hK := ite_p hK h1
    refine hX.1 15 I_Mod_in_14 ok_Mod_in_14 _ _ _ ?_
    refine hX.1 16 I_Mod_in_15 ok_Mod_in_15 _ _ _ ?_
    exact And.intro (Or.inl rfl) hK
  · have hK := ite_n hK h1
    refine And.intro (fun h2 => ?_) (fun h2 => ?_)
    · have hK := ite_p hK h2
      refine hX.1 15 I_Mod_in_14 ok_Mod_in_14 _ _ _ ?_
      refine hX.1 16 I_Mod_in_15 ok_Mod_in_15 _ _ _ ?_
      exact And.intro (Or.inl rfl) hK
    · have hK := ite_n hK h2
      refine hX.1 16 I_Mod_in_15 ok_Mod_in_15 _ _ _ ?_
      exact And.intro (Or.inr rfl) hK
theorem in_ok {σ : Sg} {v lo hi : Int32} (h : ¬ (f_Mod_in σ v lo hi).1 = 0) : lo ≤ v ∧ v ≤ hi := by
  unfold f_Mod_in at h
  by_cases h1 : v < lo
  · rw [if_pos h1] at h
    exact absurd rfl h
  · rw [if_neg h1] at h
    by_cases h2 : hi < v
    · rw [if_pos h2] at h
      exact absurd rfl h
    · exact ⟨by rw [i_le]; rw [i_lt] at h1; omega, by rw [i_le]; rw [i_lt] at h2; omega⟩
theorem in_1024 {σ : Sg} {v : Int32} (h : ¬ (f_Mod_in σ v 0 1023).1 = 0) : vp_in v 1024 := by
  obtain ⟨h1, h2⟩ := in_ok h
  rw [vp_in_iff]
  rw [i_le] at h1 h2
  exact ⟨h1, Int.lt_of_le_of_lt h2 (by decide)⟩
theorem in_8 {σ : Sg} {v : Int32} (h : ¬ (f_Mod_in σ v 0 13).1 = 0) (h8 : ¬ 8 ≤ v) : vp_in v 8 := by
  obtain ⟨h1, h2⟩ := in_ok h
  exact vin_nle (m := 8) rfl (by rw [i_lt]; rw [i_le] at h1; omega) h8
theorem in_s {σ : Sg} {v : Int32} (h : ¬ (f_Mod_in σ v 8 11).1 = 0) : vp_in (v - 8) 4 := by
  obtain ⟨h1, h2⟩ := in_ok h
  refine vin_sub (k := 8) (m := 12) (by decide) (by decide) h1 ?_
  rw [i_le] at h2 ⊢
  have : (11 : Int32).toInt = 11 := by decide
  have : (12 : Int32).toInt = 12 := by decide
  omega
def I_Mod_address_0 : List IT := [(0, .bipush 16, 2, 16, 0, []), (2, .iload_n 0, 1, 0, 0, []), (3, .imul, 1, 0, 0, []), (4, .iload_n 1, 1, 0, 0, []), (5, .ldc 32, 2, 65535, 0, []), (7, .iand, 1, 0, 0, []), (8, .iadd, 1, 0, 0, []), (9, .sipush 1023, 3, 1023, 0, []), (12, .iand, 1, 0, 0, []), (13, .ireturn, 1, 0, 0, [])]
theorem ok_Mod_address_0 : blkOK b_Mod_address pt_Mod 14 I_Mod_address_0 = true := by decide +kernel
def f_Mod_address (σ : Sg) (a1 : Int32) (a2 : Int32) : Int32 × Sg := (((((16 : Int32) * a1) + (a2 &&& (65535 : Int32))) &&& (1023 : Int32)), σ)
abbrev w_Mod_address : List (Nat × Option Nat) := []
theorem p_Mod_address {P : Sg → Prop} (hP : WP w_Mod_address P) {σ : Sg} {a1 : Int32} {a2 : Int32} (h : P σ) : PP P (f_Mod_address σ a1 a2) := by
  unfold f_Mod_address
  exact h
set_option maxRecDepth 100000 in
set_option maxHeartbeats 4000000 in
theorem s_Mod_address {l : Launch} {ad : Nat → Nat} {D : va_G} {cI : ClassId} {σ : Sg} {a1 : Int32} {a2 : Int32} {K : Option Value → Sg → Prop}   (hK : KI K (f_Mod_address σ a1 a2)) : MetJ l ad D cI mi_Mod_address [.int a1, .int a2] σ K := by
  refine met_of mi_Mod_address pt_Mod pt_Mod_in rfl pl_Mod rfl (Nat.le_of_ble_eq_true rfl) fun X hX => ?_
  have hX : Cl l ad D cI mi_Mod_address pt_Mod K X := hX
  show X 0 [.int a1, .int a2] [] σ
  unfold f_Mod_address at hK
  refine hX.1 14 I_Mod_address_0 ok_Mod_address_0 _ _ _ ?_
  exact hK
def I_Mod_getByte_0 : List IT := [(0, .aload_n 0, 1, 0, 0, []), (1, .getfield 7, 3, 0, 0, []), (4, .iload_n 1, 1, 0, 0, []), (5, .iload_n 2, 1, 0, 0, []), (6, .invokestatic 33, 3, 0, 0, []), (9, .iaload, 1, 0, 0, []), (10, .ireturn, 1, 0, 0, [])]
theorem ok_Mod_getByte_0 : blkOK b_Mod_getByte pt_Mod 11 I_Mod_getByte_0 = true := by decide +kernel
def f_Mod_getByte (σ : Sg) (a1 : Int32) (a2 : Int32) : Int32 × Sg := (bnd (f_Mod_address σ a1 a2) fun r1 => ((r1.2 16 (Int32.toNatClampNeg r1.1)), r1.2))
abbrev w_Mod_getByte : List (Nat × Option Nat) := []
theorem p_Mod_getByte {P : Sg → Prop} (hP : WP w_Mod_getByte P) {σ : Sg} {a1 : Int32} {a2 : Int32} (h : P σ) : PP P (f_Mod_getByte σ a1 a2) := by
  unfold f_Mod_getByte
  refine bnd_zz (Z := PP P) (p_Mod_address (wsub hP rfl) h) fun r1 e1 q1 => ?_
  exact q1
set_option maxRecDepth 100000 in
set_option maxHeartbeats 4000000 in
theorem s_Mod_getByte {l : Launch} {ad : Nat → Nat} {D : va_G} {cI : ClassId} {σ : Sg} {a1 : Int32} {a2 : Int32} {K : Option Value → Sg → Prop}   (hK : KI K (f_Mod_getByte σ a1 a2)) : MetJ l ad D cI mi_Mod_getByte [.ref 15, .int a1, .int a2] σ K := by
  refine met_of mi_Mod_getByte pt_Mod pt_Mod_in rfl pl_Mod rfl (Nat.le_of_ble_eq_true rfl) fun X hX => ?_
  have hX : Cl l ad D cI mi_Mod_getByte pt_Mod K X := hX
  show X 0 [.ref 15, .int a1, .int a2] [] σ
  unfold f_Mod_getByte at hK
  refine hX.1 11 I_Mod_getByte_0 ok_Mod_getByte_0 _ _ _ ?_
  refine s_Mod_address (bnd_g hK fun r1 e1 hK => ?_)
  refine And.intro (by subst_vars; exact pk_andIn _ 10 rfl (by decide)) ?_
  exact hK
def I_Mod_getWord_0 : List IT := [(0, .aload_n 0, 1, 0, 0, []), (1, .iload_n 1, 1, 0, 0, []), (2, .iload_n 2, 1, 0, 0, []), (3, .invokevirtual 37, 3, 0, 0, []), (6, .sipush 256, 3, 256, 0, []), (9, .aload_n 0, 1, 0, 0, []), (10, .iload_n 1, 1, 0, 0, []), (11, .iload_n 2, 1, 0, 0, []), (12, .iconst 1, 1, 1, 0, []), (13, .iadd, 1, 0, 0, []), (14, .invokevirtual 37, 3, 0, 0, []), (17, .imul, 1, 0, 0, []), (18, .iadd, 1, 0, 0, []), (19, .ireturn, 1, 0, 0, [])]
theorem ok_Mod_getWord_0 : blkOK b_Mod_getWord pt_Mod 20 I_Mod_getWord_0 = true := by decide +kernel
def f_Mod_getWord (σ : Sg) (a1 : Int32) (a2 : Int32) : Int32 × Sg := (bnd (f_Mod_getByte σ a1 a2) fun r1 => bnd (f_Mod_getByte r1.2 a1 (a2 + (1 : Int32))) fun r2 => ((r1.1 + ((256 : Int32) * r2.1)), r2.2))
abbrev w_Mod_getWord : List (Nat × Option Nat) := []
theorem p_Mod_getWord {P : Sg → Prop} (hP : WP w_Mod_getWord P) {σ : Sg} {a1 : Int32} {a2 : Int32} (h : P σ) : PP P (f_Mod_getWord σ a1 a2) := by
  unfold f_Mod_getWord
  refine bnd_zz (Z := PP P) (p_Mod_getByte (wsub hP rfl) h) fun r1 e1 q1 => ?_
  refine bnd_zz (Z := PP P) (p_Mod_getByte (wsub hP rfl) q1) fun r2 e2 q2 => ?_
  exact q2
set_option maxRecDepth 100000 in
set_option maxHeartbeats 4000000 in
theorem s_Mod_getWord {l : Launch} {ad : Nat → Nat} {D : va_G} {cI : ClassId} {σ : Sg} {a1 : Int32} {a2 : Int32} {K : Option Value → Sg → Prop}   (hK : KI K (f_Mod_getWord σ a1 a2)) : MetJ l ad D cI mi_Mod_getWord [.ref 15, .int a1, .int a2] σ K := by
  refine met_of mi_Mod_getWord pt_Mod pt_Mod_in rfl pl_Mod rfl (Nat.le_of_ble_eq_true rfl) fun X hX => ?_
  have hX : Cl l ad D cI mi_Mod_getWord pt_Mod K X := hX
  show X 0 [.ref 15, .int a1, .int a2] [] σ
  unfold f_Mod_getWord at hK
  refine hX.1 20 I_Mod_getWord_0 ok_Mod_getWord_0 _ _ _ ?_
  refine s_Mod_getByte (bnd_g hK fun r1 e1 hK => ?_)
  refine s_Mod_getByte (bnd_g hK fun r2 e2 hK => ?_)
  exact hK
def I_Mod_setByte_0 : List IT := [(0, .aload_n 0, 1, 0, 0, []), (1, .getfield 7, 3, 0, 0, []), (4, .iload_n 1, 1, 0, 0, []), (5, .iload_n 2, 1, 0, 0, []), (6, .invokestatic 33, 3, 0, 0, []), (9, .iload_n 3, 1, 0, 0, []), (10, .sipush 255, 3, 255, 0, []), (13, .iand, 1, 0, 0, []), (14, .iastore, 1, 0, 0, []), (15, .return_, 1, 0, 0, [])]
theorem ok_Mod_setByte_0 : blkOK b_Mod_setByte pt_Mod 16 I_Mod_setByte_0 = true := by decide +kernel
def f_Mod_setByte (σ : Sg) (a1 : Int32) (a2 : Int32) (a3 : Int32) : Sg := (bnd (f_Mod_address σ a1 a2) fun r1 => bnd (up2 r1.2 16 (Int32.toNatClampNeg r1.1) (a3 &&& (255 : Int32))) fun s2 => s2)
abbrev w_Mod_setByte : List (Nat × Option Nat) := [(16, none)]
theorem p_Mod_setByte {P : Sg → Prop} (hP : WP w_Mod_setByte P) {σ : Sg} {a1 : Int32} {a2 : Int32} {a3 : Int32} (h : P σ) : P (f_Mod_setByte σ a1 a2 a3) := by
  unfold f_Mod_setByte
  refine bnd_zz (Z := PP P) (p_Mod_address (wsub hP rfl) h) fun r1 e1 q1 => ?_
  refine bnd_zz (Z := P) (hP _ _ _ _ (Or.inl (by decide)) q1) fun s2 e2 q2 => ?_
  exact q2
set_option maxRecDepth 100000 in
set_option maxHeartbeats 4000000 in
theorem s_Mod_setByte {l : Launch} {ad : Nat → Nat} {D : va_G} {cI : ClassId} {σ : Sg} {a1 : Int32} {a2 : Int32} {a3 : Int32} {K : Option Value → Sg → Prop}   (hK : KV K (f_Mod_setByte σ a1 a2 a3)) : MetJ l ad D cI mi_Mod_setByte [.ref 15, .int a1, .int a2, .int a3] σ K := by
  refine met_of mi_Mod_setByte pt_Mod pt_Mod_in rfl pl_Mod rfl (Nat.le_of_ble_eq_true rfl) fun X hX => ?_
  have hX : Cl l ad D cI mi_Mod_setByte pt_Mod K X := hX
  show X 0 [.ref 15, .int a1, .int a2, .int a3] [] σ
  unfold f_Mod_setByte at hK
  refine hX.1 16 I_Mod_setByte_0 ok_Mod_setByte_0 _ _ _ ?_
  refine s_Mod_address (bnd_g hK fun r1 e1 hK => ?_)
  refine And.intro (by subst_vars; exact pk_andIn _ 10 rfl (by decide)) (SG_g hK fun s2 e2 hK => ?_)
  exact hK
end
section
def I_Mod_setWord_0 : List IT := [(0, .aload_n 0, 1, 0, 0, []), (1, .iload_n 1, 1, 0, 0, []), (2, .iload_n 2, 1, 0, 0, []), (3, .iload_n 3, 1, 0, 0, []), (4, .invokevirtual 40, 3, 0, 0, []), (7, .aload_n 0, 1, 0, 0, []), (8, .iload_n 1, 1, 0, 0, []), (9, .iload_n 2, 1, 0, 0, []), (10, .iconst 1, 1, 1, 0, []), (11, .iadd, 1, 0, 0, []), (12, .iload_n 3, 1, 0, 0, []), (13, .bipush 8, 2, 8, 0, []), (15, .ishr, 1, 0, 0, []), (16, .invokevirtual 40, 3, 0, 0, []), (19, .return_, 1, 0, 0, [])]
theorem ok_Mod_setWord_0 : blkOK b_Mod_setWord pt_Mod 20 I_Mod_setWord_0 = true := by decide +kernel
def f_Mod_setWord (σ : Sg) (a1 : Int32) (a2 : Int32) (a3 : Int32) : Sg := (bnd (f_Mod_setByte σ a1 a2 a3) fun r1 => bnd (f_Mod_setByte r1 a1 (a2 + (1 : Int32)) (a3 >>> ((8 : Int32) &&& 31 : Int32))) fun r2 => r2)
abbrev w_Mod_setWord : List (Nat × Option Nat) := [(16, none)]
theorem p_Mod_setWord {P : Sg → Prop} (hP : WP w_Mod_setWord P) {σ : Sg} {a1 : Int32} {a2 : Int32} {a3 : Int32} (h : P σ) : P (f_Mod_setWord σ a1 a2 a3) := by
  unfold f_Mod_setWord
  refine bnd_zz (Z := P) (p_Mod_setByte (wsub hP rfl) h) fun r1 e1 q1 => ?_
  refine bnd_zz (Z := P) (p_Mod_setByte (wsub hP rfl) q1) fun r2 e2 q2 => ?_
  exact q2
set_option maxRecDepth 100000 in
set_option maxHeartbeats 4000000 in
theorem s_Mod_setWord {l : Launch} {ad : Nat → Nat} {D : va_G} {cI : ClassId} {σ : Sg} {a1 : Int32} {a2 : Int32} {a3 : Int32} {K : Option Value → Sg → Prop}   (hK : KV K (f_Mod_setWord σ a1 a2 a3)) : MetJ l ad D cI mi_Mod_setWord [.ref 15, .int a1, .int a2, .int a3] σ K := by
  refine met_of mi_Mod_setWord pt_Mod pt_Mod_in rfl pl_Mod rfl (Nat.le_of_ble_eq_true rfl) fun X hX => ?_
  have hX : Cl l ad D cI mi_Mod_setWord pt_Mod K X := hX
  show X 0 [.ref 15, .int a1, .int a2, .int a3] [] σ
  unfold f_Mod_setWord at hK
  refine hX.1 20 I_Mod_setWord_0 ok_Mod_setWord_0 _ _ _ ?_
  refine s_Mod_setByte (bnd_g hK fun r1 e1 hK => ?_)
  refine s_Mod_setByte (bnd_g hK fun r2 e2 hK => ?_)
  exact hK
def I_Mod_get_0 : List IT := [(0, .iload_n 3, 1, 0, 0, []), (1, .ifCond .eq 12, 3, 0, 13, []), (4, .aload_n 0, 1, 0, 0, []), (5, .iload_n 1, 1, 0, 0, []), (6, .iload_n 2, 1, 0, 0, []), (7, .invokevirtual 44, 3, 0, 0, []), (10, .goto 9, 3, 0, 19, [])]
theorem ok_Mod_get_0 : blkOK b_Mod_get pt_Mod 13 I_Mod_get_0 = true := by decide +kernel
def I_Mod_get_13 : List IT := [(13, .aload_n 0, 1, 0, 0, []), (14, .iload_n 1, 1, 0, 0, []), (15, .iload_n 2, 1, 0, 0, []), (16, .invokevirtual 37, 3, 0, 0, [])]
theorem ok_Mod_get_13 : blkOK b_Mod_get pt_Mod 19 I_Mod_get_13 = true := by decide +kernel
def I_Mod_get_19 : List IT := [(19, .ireturn, 1, 0, 0, [])]
theorem ok_Mod_get_19 : blkOK b_Mod_get pt_Mod 20 I_Mod_get_19 = true := by decide +kernel
def f_Mod_get (σ : Sg) (a1 : Int32) (a2 : Int32) (a3 : Int32) : Int32 × Sg := (if a3 = (0 : Int32) then (bnd (f_Mod_getByte σ a1 a2) fun r2 => (r2.1, r2.2)) else (bnd (f_Mod_getWord σ a1 a2) fun r3 => (r3.1, r3.2)))
abbrev w_Mod_get : List (Nat × Option Nat) := []
theorem p_Mod_get {P : Sg → Prop} (hP : WP w_Mod_get P) {σ : Sg} {a1 : Int32} {a2 : Int32} {a3 : Int32} (h : P σ) : PP P (f_Mod_get σ a1 a2 a3) := by
  unfold f_Mod_get
  refine ite_z (fun _ => ?_) (fun _ => ?_)
  · refine bnd_zz (Z := PP P) (p_Mod_getByte (wsub hP rfl) h) fun r2 e2 q2 => ?_
    exact q2
  · refine bnd_zz (Z := PP P) (p_Mod_getWord (wsub hP rfl) h) fun r3 e3 q3 => ?_
    exact q3
set_option maxRecDepth 100000 in
set_option maxHeartbeats 4000000 in
theorem s_Mod_get {l : Launch} {ad : Nat → Nat} {D : va_G} {cI : ClassId} {σ : Sg} {a1 : Int32} {a2 : Int32} {a3 : Int32} {K : Option Value → Sg → Prop}   (hK : KI K (f_Mod_get σ a1 a2 a3)) : MetJ l ad D cI mi_Mod_get [.ref 15, .int a1, .int a2, .int a3] σ K := by
  refine met_of mi_Mod_get pt_Mod pt_Mod_in rfl pl_Mod rfl (Nat.le_of_ble_eq_true rfl) fun X hX => ?_
  have hX : Cl l ad D cI mi_Mod_get pt_Mod K X := hX
  show X 0 [.ref 15, .int a1, .int a2, .int a3] [] σ
  unfold f_Mod_get at hK
  refine hX.1 13 I_Mod_get_0 ok_Mod_get_0 _ _ _ ?_
  refine And.intro (fun h1 => ?_) (fun h1 => ?_)
  · have hK := ite_p hK h1
    refine hX.1 19 I_Mod_get_13 ok_Mod_get_13 _ _ _ ?_
    refine s_Mod_getByte (bnd_g hK fun r2 e2 hK => ?_)
    refine hX.1 20 I_Mod_get_19 ok_Mod_get_19 _ _ _ ?_
    exact hK
  · have hK := ite_n hK h1
    refine s_Mod_getWord (bnd_g hK fun r3 e3 hK => ?_)
    refine hX.1 20 I_Mod_get_19 ok_Mod_get_19 _ _ _ ?_
    exact hK
def I_Mod_set_0 : List IT := [(0, .iload 4, 2, 0, 0, []), (2, .ifCond .eq 13, 3, 0, 15, []), (5, .aload_n 0, 1, 0, 0, []), (6, .iload_n 1, 1, 0, 0, []), (7, .iload_n 2, 1, 0, 0, []), (8, .iload_n 3, 1, 0, 0, []), (9, .invokevirtual 47, 3, 0, 0, []), (12, .goto 10, 3, 0, 22, [])]
theorem ok_Mod_set_0 : blkOK b_Mod_set pt_Mod 15 I_Mod_set_0 = true := by decide +kernel
def I_Mod_set_15 : List IT := [(15, .aload_n 0, 1, 0, 0, []), (16, .iload_n 1, 1, 0, 0, []), (17, .iload_n 2, 1, 0, 0, []), (18, .iload_n 3, 1, 0, 0, []), (19, .invokevirtual 40, 3, 0, 0, [])]
theorem ok_Mod_set_15 : blkOK b_Mod_set pt_Mod 22 I_Mod_set_15 = true := by decide +kernel
def I_Mod_set_22 : List IT := [(22, .return_, 1, 0, 0, [])]
theorem ok_Mod_set_22 : blkOK b_Mod_set pt_Mod 23 I_Mod_set_22 = true := by decide +kernel
def f_Mod_set (σ : Sg) (a1 : Int32) (a2 : Int32) (a3 : Int32) (a4 : Int32) : Sg := (if a4 = (0 : Int32) then (bnd (f_Mod_setByte σ a1 a2 a3) fun r2 => r2) else (bnd (f_Mod_setWord σ a1 a2 a3) fun r3 => r3))
abbrev w_Mod_set : List (Nat × Option Nat) := [(16, none)]
theorem p_Mod_set {P : Sg → Prop} (hP : WP w_Mod_set P) {σ : Sg} {a1 : Int32} {a2 : Int32} {a3 : Int32} {a4 : Int32} (h : P σ) : P (f_Mod_set σ a1 a2 a3 a4) := by
  unfold f_Mod_set
  refine ite_z (fun _ => ?_) (fun _ => ?_)
  · refine bnd_zz (Z := P) (p_Mod_setByte (wsub hP rfl) h) fun r2 e2 q2 => ?_
    exact q2
  · refine bnd_zz (Z := P) (p_Mod_setWord (wsub hP rfl) h) fun r3 e3 q3 => ?_
    exact q3
set_option maxRecDepth 100000 in
set_option maxHeartbeats 4000000 in
theorem s_Mod_set {l : Launch} {ad : Nat → Nat} {D : va_G} {cI : ClassId} {σ : Sg} {a1 : Int32} {a2 : Int32} {a3 : Int32} {a4 : Int32} {K : Option Value → Sg → Prop}   (hK : KV K (f_Mod_set σ a1 a2 a3 a4)) : MetJ l ad D cI mi_Mod_set [.ref 15, .int a1, .int a2, .int a3, .int a4] σ K := by
  refine met_of mi_Mod_set pt_Mod pt_Mod_in rfl pl_Mod rfl (Nat.le_of_ble_eq_true rfl) fun X hX => ?_
  have hX : Cl l ad D cI mi_Mod_set pt_Mod K X := hX
  show X 0 [.ref 15, .int a1, .int a2, .int a3, .int a4] [] σ
  unfold f_Mod_set at hK
  refine hX.1 15 I_Mod_set_0 ok_Mod_set_0 _ _ _ ?_
  refine And.intro (fun h1 => ?_) (fun h1 => ?_)
  · have hK := ite_p hK h1
    refine hX.1 22 I_Mod_set_15 ok_Mod_set_15 _ _ _ ?_
    refine s_Mod_setByte (bnd_g hK fun r2 e2 hK => ?_)
    refine hX.1 23 I_Mod_set_22 ok_Mod_set_22 _ _ _ ?_
    exact hK
  · have hK := ite_n hK h1
    refine s_Mod_setWord (bnd_g hK fun r3 e3 hK => ?_)
    refine hX.1 23 I_Mod_set_22 ok_Mod_set_22 _ _ _ ?_
    exact hK
def I_Mod_next_0 : List IT := [(0, .aload_n 0, 1, 0, 0, []), (1, .aload_n 0, 1, 0, 0, []), (2, .getfield 16, 3, 0, 0, []), (5, .iconst 1, 1, 1, 0, []), (6, .iaload, 1, 0, 0, []), (7, .aload_n 0, 1, 0, 0, []), (8, .getfield 22, 3, 0, 0, []), (11, .invokevirtual 37, 3, 0, 0, []), (14, .istore_n 1, 1, 0, 0, []), (15, .aload_n 0, 1, 0, 0, []), (16, .aload_n 0, 1, 0, 0, []), (17, .getfield 22, 3, 0, 0, []), (20, .iconst 1, 1, 1, 0, []), (21, .iadd, 1, 0, 0, []), (22, .ldc 32, 2, 65535, 0, []), (24, .iand, 1, 0, 0, []), (25, .putfield 22, 3, 0, 0, []), (28, .iload_n 1, 1, 0, 0, []), (29, .ireturn, 1, 0, 0, [])]
theorem ok_Mod_next_0 : blkOK b_Mod_next pt_Mod 30 I_Mod_next_0 = true := by decide +kernel
def f_Mod_next (σ : Sg)  : Int32 × Sg := (bnd (f_Mod_getByte σ (σ 18 (Int32.toNatClampNeg (1 : Int32))) (σ 15 3)) fun r1 => bnd (up2 r1.2 15 3 (((r1.2 15 3) + (1 : Int32)) &&& (65535 : Int32))) fun s2 => (r1.1, s2))
abbrev w_Mod_next : List (Nat × Option Nat) := [(15, some 3)]
theorem p_Mod_next {P : Sg → Prop} (hP : WP w_Mod_next P) {σ : Sg}  (h : P σ) : PP P (f_Mod_next σ ) := by
  unfold f_Mod_next
  refine bnd_zz (Z := PP P) (p_Mod_getByte (wsub hP rfl) h) fun r1 e1 q1 => ?_
  refine bnd_zz (Z := P) (hP _ _ _ _ (Or.inr (by decide)) q1) fun s2 e2 q2 => ?_
  exact q2
set_option maxRecDepth 100000 in
set_option maxHeartbeats 4000000 in
theorem s_Mod_next {l : Launch} {ad : Nat → Nat} {D : va_G} {cI : ClassId} {σ : Sg}  {K : Option Value → Sg → Prop}   (hK : KI K (f_Mod_next σ )) : MetJ l ad D cI mi_Mod_next [.ref 15] σ K := by
  refine met_of mi_Mod_next pt_Mod pt_Mod_in rfl pl_Mod rfl (Nat.le_of_ble_eq_true rfl) fun X hX => ?_
  have hX : Cl l ad D cI mi_Mod_next pt_Mod K X := hX
  show X 0 [.ref 15, .null] [] σ
  unfold f_Mod_next at hK
  refine hX.1 30 I_Mod_next_0 ok_Mod_next_0 _ _ _ ?_
  refine And.intro (vin (by decide)) ?_
  refine s_Mod_getByte (bnd_g hK fun r1 e1 hK => ?_)
  refine And.intro trivial (SG_g hK fun s2 e2 hK => ?_)
  exact hK
theorem nx_ok {σ : Sg} (h : MB (f_Mod_next σ).2) : ¬ (f_Mod_next σ).1 < 0 := h _
def I_Mod_nextWord_0 : List IT := [(0, .aload_n 0, 1, 0, 0, []), (1, .invokevirtual 50, 3, 0, 0, []), (4, .istore_n 1, 1, 0, 0, []), (5, .iload_n 1, 1, 0, 0, []), (6, .sipush 256, 3, 256, 0, []), (9, .aload_n 0, 1, 0, 0, []), (10, .invokevirtual 50, 3, 0, 0, []), (13, .imul, 1, 0, 0, []), (14, .iadd, 1, 0, 0, []), (15, .ireturn, 1, 0, 0, [])]
theorem ok_Mod_nextWord_0 : blkOK b_Mod_nextWord pt_Mod 16 I_Mod_nextWord_0 = true := by decide +kernel
def f_Mod_nextWord (σ : Sg)  : Int32 × Sg := (bnd (f_Mod_next σ) fun r1 => bnd (f_Mod_next r1.2) fun r2 => ((r1.1 + ((256 : Int32) * r2.1)), r2.2))
abbrev w_Mod_nextWord : List (Nat × Option Nat) := [(15, some 3)]
theorem p_Mod_nextWord {P : Sg → Prop} (hP : WP w_Mod_nextWord P) {σ : Sg}  (h : P σ) : PP P (f_Mod_nextWord σ ) := by
  unfold f_Mod_nextWord
  refine bnd_zz (Z := PP P) (p_Mod_next (wsub hP rfl) h) fun r1 e1 q1 => ?_
  refine bnd_zz (Z := PP P) (p_Mod_next (wsub hP rfl) q1) fun r2 e2 q2 => ?_
  exact q2
set_option maxRecDepth 100000 in
set_option maxHeartbeats 4000000 in
theorem s_Mod_nextWord {l : Launch} {ad : Nat → Nat} {D : va_G} {cI : ClassId} {σ : Sg}  {K : Option Value → Sg → Prop}   (hK : KI K (f_Mod_nextWord σ )) : MetJ l ad D cI mi_Mod_nextWord [.ref 15] σ K := by
  refine met_of mi_Mod_nextWord pt_Mod pt_Mod_in rfl pl_Mod rfl (Nat.le_of_ble_eq_true rfl) fun X hX => ?_
  have hX : Cl l ad D cI mi_Mod_nextWord pt_Mod K X := hX
  show X 0 [.ref 15, .null] [] σ
  unfold f_Mod_nextWord at hK
  refine hX.1 16 I_Mod_nextWord_0 ok_Mod_nextWord_0 _ _ _ ?_
  refine s_Mod_next (bnd_g hK fun r1 e1 hK => ?_)
  refine s_Mod_next (bnd_g hK fun r2 e2 hK => ?_)
  exact hK
end
section
def I_Mod_nextSigned_0 : List IT := [(0, .aload_n 0, 1, 0, 0, []), (1, .invokevirtual 50, 3, 0, 0, []), (4, .istore_n 1, 1, 0, 0, []), (5, .iload_n 1, 1, 0, 0, []), (6, .sipush 128, 3, 128, 0, []), (9, .if_icmp .lt 11, 3, 0, 20, []), (12, .iload_n 1, 1, 0, 0, []), (13, .sipush 256, 3, 256, 0, []), (16, .isub, 1, 0, 0, []), (17, .goto 4, 3, 0, 21, [])]
theorem ok_Mod_nextSigned_0 : blkOK b_Mod_nextSigned pt_Mod 20 I_Mod_nextSigned_0 = true := by decide +kernel
def I_Mod_nextSigned_20 : List IT := [(20, .iload_n 1, 1, 0, 0, [])]
theorem ok_Mod_nextSigned_20 : blkOK b_Mod_nextSigned pt_Mod 21 I_Mod_nextSigned_20 = true := by decide +kernel
def I_Mod_nextSigned_21 : List IT := [(21, .ireturn, 1, 0, 0, [])]
theorem ok_Mod_nextSigned_21 : blkOK b_Mod_nextSigned pt_Mod 22 I_Mod_nextSigned_21 = true := by decide +kernel
def f_Mod_nextSigned (σ : Sg)  : Int32 × Sg := (bnd (f_Mod_next σ) fun r1 => (if r1.1 < (128 : Int32) then (r1.1, r1.2) else ((r1.1 - (256 : Int32)), r1.2)))
abbrev w_Mod_nextSigned : List (Nat × Option Nat) := [(15, some 3)]
theorem p_Mod_nextSigned {P : Sg → Prop} (hP : WP w_Mod_nextSigned P) {σ : Sg}  (h : P σ) : PP P (f_Mod_nextSigned σ ) := by
  unfold f_Mod_nextSigned
  refine bnd_zz (Z := PP P) (p_Mod_next (wsub hP rfl) h) fun r1 e1 q1 => ?_
  refine ite_z (fun _ => ?_) (fun _ => ?_)
  · exact q1
  · exact q1
set_option maxRecDepth 100000 in
set_option maxHeartbeats 4000000 in
theorem s_Mod_nextSigned {l : Launch} {ad : Nat → Nat} {D : va_G} {cI : ClassId} {σ : Sg}  {K : Option Value → Sg → Prop}   (hK : KI K (f_Mod_nextSigned σ )) : MetJ l ad D cI mi_Mod_nextSigned [.ref 15] σ K := by
  refine met_of mi_Mod_nextSigned pt_Mod pt_Mod_in rfl pl_Mod rfl (Nat.le_of_ble_eq_true rfl) fun X hX => ?_
  have hX : Cl l ad D cI mi_Mod_nextSigned pt_Mod K X := hX
  show X 0 [.ref 15, .null] [] σ
  unfold f_Mod_nextSigned at hK
  refine hX.1 20 I_Mod_nextSigned_0 ok_Mod_nextSigned_0 _ _ _ ?_
  refine s_Mod_next (bnd_g hK fun r1 e1 hK => ?_)
  refine And.intro (fun h2 => ?_) (fun h2 => ?_)
  · have hK := ite_p hK h2
    refine hX.1 21 I_Mod_nextSigned_20 ok_Mod_nextSigned_20 _ _ _ ?_
    refine hX.1 22 I_Mod_nextSigned_21 ok_Mod_nextSigned_21 _ _ _ ?_
    exact hK
  · have hK := ite_n hK h2
    refine hX.1 22 I_Mod_nextSigned_21 ok_Mod_nextSigned_21 _ _ _ ?_
    exact hK
def I_Mod_immediate_0 : List IT := [(0, .iload_n 1, 1, 0, 0, []), (1, .ifCond .eq 10, 3, 0, 11, []), (4, .aload_n 0, 1, 0, 0, []), (5, .invokevirtual 54, 3, 0, 0, []), (8, .goto 7, 3, 0, 15, [])]
theorem ok_Mod_immediate_0 : blkOK b_Mod_immediate pt_Mod 11 I_Mod_immediate_0 = true := by decide +kernel
def I_Mod_immediate_11 : List IT := [(11, .aload_n 0, 1, 0, 0, []), (12, .invokevirtual 50, 3, 0, 0, [])]
theorem ok_Mod_immediate_11 : blkOK b_Mod_immediate pt_Mod 15 I_Mod_immediate_11 = true := by decide +kernel
def I_Mod_immediate_15 : List IT := [(15, .ireturn, 1, 0, 0, [])]
theorem ok_Mod_immediate_15 : blkOK b_Mod_immediate pt_Mod 16 I_Mod_immediate_15 = true := by decide +kernel
def f_Mod_immediate (σ : Sg) (a1 : Int32) : Int32 × Sg := (if a1 = (0 : Int32) then (bnd (f_Mod_next σ) fun r2 => (r2.1, r2.2)) else (bnd (f_Mod_nextWord σ) fun r3 => (r3.1, r3.2)))
abbrev w_Mod_immediate : List (Nat × Option Nat) := [(15, some 3)]
theorem p_Mod_immediate {P : Sg → Prop} (hP : WP w_Mod_immediate P) {σ : Sg} {a1 : Int32} (h : P σ) : PP P (f_Mod_immediate σ a1) := by
  unfold f_Mod_immediate
  refine ite_z (fun _ => ?_) (fun _ => ?_)
  · refine bnd_zz (Z := PP P) (p_Mod_next (wsub hP rfl) h) fun r2 e2 q2 => ?_
    exact q2
  · refine bnd_zz (Z := PP P) (p_Mod_nextWord (wsub hP rfl) h) fun r3 e3 q3 => ?_
    exact q3
set_option maxRecDepth 100000 in
set_option maxHeartbeats 4000000 in
theorem s_Mod_immediate {l : Launch} {ad : Nat → Nat} {D : va_G} {cI : ClassId} {σ : Sg} {a1 : Int32} {K : Option Value → Sg → Prop}   (hK : KI K (f_Mod_immediate σ a1)) : MetJ l ad D cI mi_Mod_immediate [.ref 15, .int a1] σ K := by
  refine met_of mi_Mod_immediate pt_Mod pt_Mod_in rfl pl_Mod rfl (Nat.le_of_ble_eq_true rfl) fun X hX => ?_
  have hX : Cl l ad D cI mi_Mod_immediate pt_Mod K X := hX
  show X 0 [.ref 15, .int a1] [] σ
  unfold f_Mod_immediate at hK
  refine hX.1 11 I_Mod_immediate_0 ok_Mod_immediate_0 _ _ _ ?_
  refine And.intro (fun h1 => ?_) (fun h1 => ?_)
  · have hK := ite_p hK h1
    refine hX.1 15 I_Mod_immediate_11 ok_Mod_immediate_11 _ _ _ ?_
    refine s_Mod_next (bnd_g hK fun r2 e2 hK => ?_)
    refine hX.1 16 I_Mod_immediate_15 ok_Mod_immediate_15 _ _ _ ?_
    exact hK
  · have hK := ite_n hK h1
    refine s_Mod_nextWord (bnd_g hK fun r3 e3 hK => ?_)
    refine hX.1 16 I_Mod_immediate_15 ok_Mod_immediate_15 _ _ _ ?_
    exact hK
def I_Mod_getRegister_0 : List IT := [(0, .iload_n 2, 1, 0, 0, []), (1, .ifCond .eq 12, 3, 0, 13, []), (4, .aload_n 0, 1, 0, 0, []), (5, .getfield 13, 3, 0, 0, []), (8, .iload_n 1, 1, 0, 0, []), (9, .iaload, 1, 0, 0, []), (10, .goto 32, 3, 0, 42, [])]
theorem ok_Mod_getRegister_0 : blkOK b_Mod_getRegister pt_Mod 13 I_Mod_getRegister_0 = true := by decide +kernel
def I_Mod_getRegister_13 : List IT := [(13, .iload_n 1, 1, 0, 0, []), (14, .iconst 4, 1, 4, 0, []), (15, .if_icmp .ge 16, 3, 0, 31, []), (18, .aload_n 0, 1, 0, 0, []), (19, .getfield 13, 3, 0, 0, []), (22, .iload_n 1, 1, 0, 0, []), (23, .iaload, 1, 0, 0, []), (24, .sipush 255, 3, 255, 0, []), (27, .iand, 1, 0, 0, []), (28, .goto 14, 3, 0, 42, [])]
theorem ok_Mod_getRegister_13 : blkOK b_Mod_getRegister pt_Mod 31 I_Mod_getRegister_13 = true := by decide +kernel
def I_Mod_getRegister_31 : List IT := [(31, .aload_n 0, 1, 0, 0, []), (32, .getfield 13, 3, 0, 0, []), (35, .iload_n 1, 1, 0, 0, []), (36, .iconst 4, 1, 4, 0, []), (37, .isub, 1, 0, 0, []), (38, .iaload, 1, 0, 0, []), (39, .bipush 8, 2, 8, 0, []), (41, .ishr, 1, 0, 0, [])]
theorem ok_Mod_getRegister_31 : blkOK b_Mod_getRegister pt_Mod 42 I_Mod_getRegister_31 = true := by decide +kernel
def I_Mod_getRegister_42 : List IT := [(42, .ireturn, 1, 0, 0, [])]
theorem ok_Mod_getRegister_42 : blkOK b_Mod_getRegister pt_Mod 43 I_Mod_getRegister_42 = true := by decide +kernel
def f_Mod_getRegister (σ : Sg) (a1 : Int32) (a2 : Int32) : Int32 × Sg := (if a2 = (0 : Int32) then (if (4 : Int32) ≤ a1 then (((σ 17 (Int32.toNatClampNeg (a1 - (4 : Int32)))) >>> ((8 : Int32) &&& 31 : Int32)), σ) else (((σ 17 (Int32.toNatClampNeg a1)) &&& (255 : Int32)), σ)) else ((σ 17 (Int32.toNatClampNeg a1)), σ))
abbrev w_Mod_getRegister : List (Nat × Option Nat) := []
theorem p_Mod_getRegister {P : Sg → Prop} (hP : WP w_Mod_getRegister P) {σ : Sg} {a1 : Int32} {a2 : Int32} (h : P σ) : PP P (f_Mod_getRegister σ a1 a2) := by
  unfold f_Mod_getRegister
  refine ite_z (fun _ => ?_) (fun _ => ?_)
  · refine ite_z (fun _ => ?_) (fun _ => ?_)
    · exact h
    · exact h
  · exact h
set_option maxRecDepth 100000 in
set_option maxHeartbeats 4000000 in
theorem s_Mod_getRegister {l : Launch} {ad : Nat → Nat} {D : va_G} {cI : ClassId} {σ : Sg} {a1 : Int32} {a2 : Int32} {K : Option Value → Sg → Prop} (v8_a1 : vp_in a1 8)  (hK : KI K (f_Mod_getRegister σ a1 a2)) : MetJ l ad D cI mi_Mod_getRegister [.ref 15, .int a1, .int a2] σ K := by
  refine met_of mi_Mod_getRegister pt_Mod pt_Mod_in rfl pl_Mod rfl (Nat.le_of_ble_eq_true rfl) fun X hX => ?_
  have hX : Cl l ad D cI mi_Mod_getRegister pt_Mod K X := hX
  show X 0 [.ref 15, .int a1, .int a2] [] σ
  unfold f_Mod_getRegister at hK
  refine hX.1 13 I_Mod_getRegister_0 ok_Mod_getRegister_0 _ _ _ ?_
  refine And.intro (fun h1 => ?_) (fun h1 => ?_)
  · have hK := ite_p hK h1
    refine hX.1 31 I_Mod_getRegister_13 ok_Mod_getRegister_13 _ _ _ ?_
    refine And.intro (fun h2 => ?_) (fun h2 => ?_)
    · have hK := ite_p hK h2
      refine hX.1 42 I_Mod_getRegister_31 ok_Mod_getRegister_31 _ _ _ ?_
      refine And.intro (vin_m4 v8_a1 h2) ?_
      refine hX.1 43 I_Mod_getRegister_42 ok_Mod_getRegister_42 _ _ _ ?_
      exact hK
    · have hK := ite_n hK h2
      refine And.intro v8_a1 ?_
      refine hX.1 43 I_Mod_getRegister_42 ok_Mod_getRegister_42 _ _ _ ?_
      exact hK
  · have hK := ite_n hK h1
    refine And.intro v8_a1 ?_
    refine hX.1 43 I_Mod_getRegister_42 ok_Mod_getRegister_42 _ _ _ ?_
    exact hK
def I_Mod_setRegister_0 : List IT := [(0, .iload_n 3, 1, 0, 0, []), (1, .ifCond .eq 16, 3, 0, 17, []), (4, .aload_n 0, 1, 0, 0, []), (5, .getfield 13, 3, 0, 0, []), (8, .iload_n 1, 1, 0, 0, []), (9, .iload_n 2, 1, 0, 0, []), (10, .ldc 32, 2, 65535, 0, []), (12, .iand, 1, 0, 0, []), (13, .iastore, 1, 0, 0, []), (14, .goto 61, 3, 0, 75, [])]
theorem ok_Mod_setRegister_0 : blkOK b_Mod_setRegister pt_Mod 17 I_Mod_setRegister_0 = true := by decide +kernel
def I_Mod_setRegister_17 : List IT := [(17, .iload_n 1, 1, 0, 0, []), (18, .iconst 4, 1, 4, 0, []), (19, .if_icmp .ge 27, 3, 0, 46, []), (22, .aload_n 0, 1, 0, 0, []), (23, .getfield 13, 3, 0, 0, []), (26, .iload_n 1, 1, 0, 0, []), (27, .aload_n 0, 1, 0, 0, []), (28, .getfield 13, 3, 0, 0, []), (31, .iload_n 1, 1, 0, 0, []), (32, .iaload, 1, 0, 0, []), (33, .ldc 57, 2, 65280, 0, []), (35, .iand, 1, 0, 0, []), (36, .iload_n 2, 1, 0, 0, []), (37, .sipush 255, 3, 255, 0, []), (40, .iand, 1, 0, 0, []), (41, .ior, 1, 0, 0, []), (42, .iastore, 1, 0, 0, []), (43, .goto 32, 3, 0, 75, [])]
theorem ok_Mod_setRegister_17 : blkOK b_Mod_setRegister pt_Mod 46 I_Mod_setRegister_17 = true := by decide +kernel
def I_Mod_setRegister_46 : List IT := [(46, .aload_n 0, 1, 0, 0, []), (47, .getfield 13, 3, 0, 0, []), (50, .iload_n 1, 1, 0, 0, []), (51, .iconst 4, 1, 4, 0, []), (52, .isub, 1, 0, 0, []), (53, .aload_n 0, 1, 0, 0, []), (54, .getfield 13, 3, 0, 0, []), (57, .iload_n 1, 1, 0, 0, []), (58, .iconst 4, 1, 4, 0, []), (59, .isub, 1, 0, 0, []), (60, .iaload, 1, 0, 0, []), (61, .sipush 255, 3, 255, 0, []), (64, .iand, 1, 0, 0, []), (65, .iload_n 2, 1, 0, 0, []), (66, .sipush 255, 3, 255, 0, []), (69, .iand, 1, 0, 0, []), (70, .bipush 8, 2, 8, 0, []), (72, .ishl, 1, 0, 0, []), (73, .ior, 1, 0, 0, []), (74, .iastore, 1, 0, 0, [])]
theorem ok_Mod_setRegister_46 : blkOK b_Mod_setRegister pt_Mod 75 I_Mod_setRegister_46 = true := by decide +kernel
def I_Mod_setRegister_75 : List IT := [(75, .return_, 1, 0, 0, [])]
theorem ok_Mod_setRegister_75 : blkOK b_Mod_setRegister pt_Mod 76 I_Mod_setRegister_75 = true := by decide +kernel
def f_Mod_setRegister (σ : Sg) (a1 : Int32) (a2 : Int32) (a3 : Int32) : Sg := (if a3 = (0 : Int32) then (if (4 : Int32) ≤ a1 then (bnd (up2 σ 17 (Int32.toNatClampNeg (a1 - (4 : Int32))) (((σ 17 (Int32.toNatClampNeg (a1 - (4 : Int32)))) &&& (255 : Int32)) ||| ((a2 &&& (255 : Int32)) <<< ((8 : Int32) &&& 31 : Int32)))) fun s3 => s3) else (bnd (up2 σ 17 (Int32.toNatClampNeg a1) (((σ 17 (Int32.toNatClampNeg a1)) &&& (65280 : Int32)) ||| (a2 &&& (255 : Int32)))) fun s4 => s4)) else (bnd (up2 σ 17 (Int32.toNatClampNeg a1) (a2 &&& (65535 : Int32))) fun s5 => s5))
abbrev w_Mod_setRegister : List (Nat × Option Nat) := [(17, none)]
theorem p_Mod_setRegister {P : Sg → Prop} (hP : WP w_Mod_setRegister P) {σ : Sg} {a1 : Int32} {a2 : Int32} {a3 : Int32} (h : P σ) : P (f_Mod_setRegister σ a1 a2 a3) := by
  unfold f_Mod_setRegister
  refine ite_z (fun _ => ?_) (fun _ => ?_)
  · refine ite_z (fun _ => ?_) (fun _ => ?_)
    · refine bnd_zz (Z := P) (hP _ _ _ _ (Or.inl (by decide)) h) fun s3 e3 q3 => ?_
      exact q3
    · refine bnd_zz (Z := P) (hP _ _ _ _ (Or.inl (by decide)) h) fun s4 e4 q4 => ?_
      exact q4
  · refine bnd_zz (Z := P) (hP _ _ _ _ (Or.inl (by decide)) h) fun s5 e5 q5 => ?_
    exact q5
set_option maxRecDepth 100000 in
set_option maxHeartbeats 4000000 in
theorem s_Mod_setRegister {l : Launch} {ad : Nat → Nat} {D : va_G} {cI : ClassId} {σ : Sg} {a1 : Int32} {a2 : Int32} {a3 : Int32} {K : Option Value → Sg → Prop} (v8_a1 : vp_in a1 8)  (hK : KV K (f_Mod_setRegister σ a1 a2 a3)) : MetJ l ad D cI mi_Mod_setRegister [.ref 15, .int a1, .int a2, .int a3] σ K := by
  refine met_of mi_Mod_setRegister pt_Mod pt_Mod_in rfl pl_Mod rfl (Nat.le_of_ble_eq_true rfl) fun X hX => ?_
  have hX : Cl l ad D cI mi_Mod_setRegister pt_Mod K X := hX
  show X 0 [.ref 15, .int a1, .int a2, .int a3] [] σ
  unfold f_Mod_setRegister at hK
  refine hX.1 17 I_Mod_setRegister_0 ok_Mod_setRegister_0 _ _ _ ?_
  refine And.intro (fun h1 => ?_) (fun h1 => ?_)
  · have hK := ite_p hK h1
    refine hX.1 46 I_Mod_setRegister_17 ok_Mod_setRegister_17 _ _ _ ?_
    refine And.intro (fun h2 => ?_) (fun h2 => ?_)
    · have hK := ite_p hK h2
      refine hX.1 75 I_Mod_setRegister_46 ok_Mod_setRegister_46 _ _ _ ?_
      refine And.intro (vin_m4 v8_a1 h2) ?_
      refine And.intro (vin_m4 v8_a1 h2) (SG_g hK fun s3 e3 hK => ?_)
      refine hX.1 76 I_Mod_setRegister_75 ok_Mod_setRegister_75 _ _ _ ?_
      exact hK
    · have hK := ite_n hK h2
      refine And.intro v8_a1 ?_
      refine And.intro v8_a1 (SG_g hK fun s4 e4 hK => ?_)
      refine hX.1 76 I_Mod_setRegister_75 ok_Mod_setRegister_75 _ _ _ ?_
      exact hK
  · have hK := ite_n hK h1
    refine And.intro v8_a1 (SG_g hK fun s5 e5 hK => ?_)
    refine hX.1 76 I_Mod_setRegister_75 ok_Mod_setRegister_75 _ _ _ ?_
    exact hK
def I_Mod_readModrm_0 : List IT := [(0, .aload_n 0, 1, 0, 0, []), (1, .invokevirtual 50, 3, 0, 0, []), (4, .istore_n 1, 1, 0, 0, []), (5, .iload_n 1, 1, 0, 0, []), (6, .bipush 6, 2, 6, 0, []), (8, .ishr, 1, 0, 0, []), (9, .istore_n 2, 1, 0, 0, []), (10, .iload_n 1, 1, 0, 0, []), (11, .bipush 7, 2, 7, 0, []), (13, .iand, 1, 0, 0, []), (14, .istore_n 3, 1, 0, 0, []), (15, .aload_n 0, 1, 0, 0, []), (16, .iload_n 1, 1, 0, 0, []), (17, .iconst 3, 1, 3, 0, []), (18, .ishr, 1, 0, 0, []), (19, .bipush 7, 2, 7, 0, []), (21, .iand, 1, 0, 0, []), (22, .putfield 58, 3, 0, 0, []), (25, .aload_n 0, 1, 0, 0, []), (26, .iload_n 2, 1, 0, 0, []), (27, .iconst 3, 1, 3, 0, []), (28, .if_icmp .ne 7, 3, 0, 35, []), (31, .iload_n 3, 1, 0, 0, []), (32, .goto 4, 3, 0, 36, [])]
theorem ok_Mod_readModrm_0 : blkOK b_Mod_readModrm pt_Mod 35 I_Mod_readModrm_0 = true := by decide +kernel
def I_Mod_readModrm_35 : List IT := [(35, .iconst (-1), 1, (-1), 0, [])]
theorem ok_Mod_readModrm_35 : blkOK b_Mod_readModrm pt_Mod 36 I_Mod_readModrm_35 = true := by decide +kernel
def I_Mod_readModrm_36 : List IT := [(36, .putfield 61, 3, 0, 0, []), (39, .iload_n 2, 1, 0, 0, []), (40, .ifCond .ne 13, 3, 0, 53, []), (43, .iload_n 3, 1, 0, 0, []), (44, .bipush 6, 2, 6, 0, []), (46, .if_icmp .ne 7, 3, 0, 53, []), (49, .iconst 1, 1, 1, 0, []), (50, .goto 4, 3, 0, 54, [])]
theorem ok_Mod_readModrm_36 : blkOK b_Mod_readModrm pt_Mod 53 I_Mod_readModrm_36 = true := by decide +kernel
def I_Mod_readModrm_53 : List IT := [(53, .iconst 0, 1, 0, 0, [])]
theorem ok_Mod_readModrm_53 : blkOK b_Mod_readModrm pt_Mod 54 I_Mod_readModrm_53 = true := by decide +kernel
def I_Mod_readModrm_54 : List IT := [(54, .istore 4, 2, 0, 0, []), (56, .iload_n 3, 1, 0, 0, []), (57, .ifCond .eq 14, 3, 0, 71, []), (60, .iload_n 3, 1, 0, 0, []), (61, .iconst 1, 1, 1, 0, []), (62, .if_icmp .eq 9, 3, 0, 71, []), (65, .iload_n 3, 1, 0, 0, []), (66, .bipush 7, 2, 7, 0, []), (68, .if_icmp .ne 12, 3, 0, 80, [])]
theorem ok_Mod_readModrm_54 : blkOK b_Mod_readModrm pt_Mod 71 I_Mod_readModrm_54 = true := by decide +kernel
def I_Mod_readModrm_71 : List IT := [(71, .aload_n 0, 1, 0, 0, []), (72, .getfield 13, 3, 0, 0, []), (75, .iconst 3, 1, 3, 0, []), (76, .iaload, 1, 0, 0, []), (77, .goto 29, 3, 0, 106, [])]
theorem ok_Mod_readModrm_71 : blkOK b_Mod_readModrm pt_Mod 80 I_Mod_readModrm_71 = true := by decide +kernel
def I_Mod_readModrm_80 : List IT := [(80, .iload_n 3, 1, 0, 0, []), (81, .iconst 2, 1, 2, 0, []), (82, .if_icmp .eq 14, 3, 0, 96, []), (85, .iload_n 3, 1, 0, 0, []), (86, .iconst 3, 1, 3, 0, []), (87, .if_icmp .eq 9, 3, 0, 96, []), (90, .iload_n 3, 1, 0, 0, []), (91, .bipush 6, 2, 6, 0, []), (93, .if_icmp .ne 12, 3, 0, 105, [])]
theorem ok_Mod_readModrm_80 : blkOK b_Mod_readModrm pt_Mod 96 I_Mod_readModrm_80 = true := by decide +kernel
def I_Mod_readModrm_96 : List IT := [(96, .aload_n 0, 1, 0, 0, []), (97, .getfield 13, 3, 0, 0, []), (100, .iconst 5, 1, 5, 0, []), (101, .iaload, 1, 0, 0, []), (102, .goto 4, 3, 0, 106, [])]
theorem ok_Mod_readModrm_96 : blkOK b_Mod_readModrm pt_Mod 105 I_Mod_readModrm_96 = true := by decide +kernel
def I_Mod_readModrm_105 : List IT := [(105, .iconst 0, 1, 0, 0, [])]
theorem ok_Mod_readModrm_105 : blkOK b_Mod_readModrm pt_Mod 106 I_Mod_readModrm_105 = true := by decide +kernel
def I_Mod_readModrm_106 : List IT := [(106, .istore 5, 2, 0, 0, []), (108, .iload_n 3, 1, 0, 0, []), (109, .ifCond .eq 13, 3, 0, 122, []), (112, .iload_n 3, 1, 0, 0, []), (113, .iconst 2, 1, 2, 0, []), (114, .if_icmp .eq 8, 3, 0, 122, []), (117, .iload_n 3, 1, 0, 0, []), (118, .iconst 4, 1, 4, 0, []), (119, .if_icmp .ne 13, 3, 0, 132, [])]
theorem ok_Mod_readModrm_106 : blkOK b_Mod_readModrm pt_Mod 122 I_Mod_readModrm_106 = true := by decide +kernel
def I_Mod_readModrm_122 : List IT := [(122, .aload_n 0, 1, 0, 0, []), (123, .getfield 13, 3, 0, 0, []), (126, .bipush 6, 2, 6, 0, []), (128, .iaload, 1, 0, 0, []), (129, .goto 29, 3, 0, 158, [])]
theorem ok_Mod_readModrm_122 : blkOK b_Mod_readModrm pt_Mod 132 I_Mod_readModrm_122 = true := by decide +kernel
def I_Mod_readModrm_132 : List IT := [(132, .iload_n 3, 1, 0, 0, []), (133, .iconst 1, 1, 1, 0, []), (134, .if_icmp .eq 13, 3, 0, 147, []), (137, .iload_n 3, 1, 0, 0, []), (138, .iconst 3, 1, 3, 0, []), (139, .if_icmp .eq 8, 3, 0, 147, []), (142, .iload_n 3, 1, 0, 0, []), (143, .iconst 5, 1, 5, 0, []), (144, .if_icmp .ne 13, 3, 0, 157, [])]
theorem ok_Mod_readModrm_132 : blkOK b_Mod_readModrm pt_Mod 147 I_Mod_readModrm_132 = true := by decide +kernel
def I_Mod_readModrm_147 : List IT := [(147, .aload_n 0, 1, 0, 0, []), (148, .getfield 13, 3, 0, 0, []), (151, .bipush 7, 2, 7, 0, []), (153, .iaload, 1, 0, 0, []), (154, .goto 4, 3, 0, 158, [])]
theorem ok_Mod_readModrm_147 : blkOK b_Mod_readModrm pt_Mod 157 I_Mod_readModrm_147 = true := by decide +kernel
def I_Mod_readModrm_157 : List IT := [(157, .iconst 0, 1, 0, 0, [])]
theorem ok_Mod_readModrm_157 : blkOK b_Mod_readModrm pt_Mod 158 I_Mod_readModrm_157 = true := by decide +kernel
def I_Mod_readModrm_158 : List IT := [(158, .istore 6, 2, 0, 0, []), (160, .iload_n 2, 1, 0, 0, []), (161, .iconst 3, 1, 3, 0, []), (162, .if_icmp .ne 7, 3, 0, 169, []), (165, .iconst 0, 1, 0, 0, []), (166, .goto 33, 3, 0, 199, [])]
theorem ok_Mod_readModrm_158 : blkOK b_Mod_readModrm pt_Mod 169 I_Mod_readModrm_158 = true := by decide +kernel
def I_Mod_readModrm_169 : List IT := [(169, .iload 4, 2, 0, 0, []), (171, .ifCond .ne 8, 3, 0, 179, []), (174, .iload_n 2, 1, 0, 0, []), (175, .iconst 2, 1, 2, 0, []), (176, .if_icmp .ne 10, 3, 0, 186, [])]
theorem ok_Mod_readModrm_169 : blkOK b_Mod_readModrm pt_Mod 179 I_Mod_readModrm_169 = true := by decide +kernel
def I_Mod_readModrm_179 : List IT := [(179, .aload_n 0, 1, 0, 0, []), (180, .invokevirtual 54, 3, 0, 0, []), (183, .goto 16, 3, 0, 199, [])]
theorem ok_Mod_readModrm_179 : blkOK b_Mod_readModrm pt_Mod 186 I_Mod_readModrm_179 = true := by decide +kernel
def I_Mod_readModrm_186 : List IT := [(186, .iload_n 2, 1, 0, 0, []), (187, .iconst 1, 1, 1, 0, []), (188, .if_icmp .ne 10, 3, 0, 198, []), (191, .aload_n 0, 1, 0, 0, []), (192, .invokevirtual 64, 3, 0, 0, []), (195, .goto 4, 3, 0, 199, [])]
theorem ok_Mod_readModrm_186 : blkOK b_Mod_readModrm pt_Mod 198 I_Mod_readModrm_186 = true := by decide +kernel
def I_Mod_readModrm_198 : List IT := [(198, .iconst 0, 1, 0, 0, [])]
theorem ok_Mod_readModrm_198 : blkOK b_Mod_readModrm pt_Mod 199 I_Mod_readModrm_198 = true := by decide +kernel
def I_Mod_readModrm_199 : List IT := [(199, .istore 7, 2, 0, 0, []), (201, .iload 4, 2, 0, 0, []), (203, .ifCond .ne 23, 3, 0, 226, []), (206, .iload_n 3, 1, 0, 0, []), (207, .iconst 2, 1, 2, 0, []), (208, .if_icmp .eq 14, 3, 0, 222, []), (211, .iload_n 3, 1, 0, 0, []), (212, .iconst 3, 1, 3, 0, []), (213, .if_icmp .eq 9, 3, 0, 222, []), (216, .iload_n 3, 1, 0, 0, []), (217, .bipush 6, 2, 6, 0, []), (219, .if_icmp .ne 7, 3, 0, 226, [])]
theorem ok_Mod_readModrm_199 : blkOK b_Mod_readModrm pt_Mod 222 I_Mod_readModrm_199 = true := by decide +kernel
def I_Mod_readModrm_222 : List IT := [(222, .iconst 1, 1, 1, 0, []), (223, .goto 4, 3, 0, 227, [])]
theorem ok_Mod_readModrm_222 : blkOK b_Mod_readModrm pt_Mod 226 I_Mod_readModrm_222 = true := by decide +kernel
def I_Mod_readModrm_226 : List IT := [(226, .iconst 0, 1, 0, 0, [])]
theorem ok_Mod_readModrm_226 : blkOK b_Mod_readModrm pt_Mod 227 I_Mod_readModrm_226 = true := by decide +kernel
def I_Mod_readModrm_227 : List IT := [(227, .istore 8, 2, 0, 0, []), (229, .aload_n 0, 1, 0, 0, []), (230, .iload 4, 2, 0, 0, []), (232, .ifCond .eq 7, 3, 0, 239, []), (235, .iconst 0, 1, 0, 0, []), (236, .goto 8, 3, 0, 244, [])]
theorem ok_Mod_readModrm_227 : blkOK b_Mod_readModrm pt_Mod 239 I_Mod_readModrm_227 = true := by decide +kernel
def I_Mod_readModrm_239 : List IT := [(239, .iload 5, 2, 0, 0, []), (241, .iload 6, 2, 0, 0, []), (243, .iadd, 1, 0, 0, [])]
theorem ok_Mod_readModrm_239 : blkOK b_Mod_readModrm pt_Mod 244 I_Mod_readModrm_239 = true := by decide +kernel
def I_Mod_readModrm_244 : List IT := [(244, .iload 7, 2, 0, 0, []), (246, .iadd, 1, 0, 0, []), (247, .ldc 32, 2, 65535, 0, []), (249, .iand, 1, 0, 0, []), (250, .putfield 67, 3, 0, 0, []), (253, .aload_n 0, 1, 0, 0, []), (254, .aload_n 0, 1, 0, 0, []), (255, .getfield 70, 3, 0, 0, []), (258, .ifCond .lt 10, 3, 0, 268, []), (261, .aload_n 0, 1, 0, 0, []), (262, .getfield 70, 3, 0, 0, []), (265, .goto 13, 3, 0, 278, [])]
theorem ok_Mod_readModrm_244 : blkOK b_Mod_readModrm pt_Mod 268 I_Mod_readModrm_244 = true := by decide +kernel
def I_Mod_readModrm_268 : List IT := [(268, .iload 8, 2, 0, 0, []), (270, .ifCond .eq 7, 3, 0, 277, []), (273, .iconst 2, 1, 2, 0, []), (274, .goto 4, 3, 0, 278, [])]
theorem ok_Mod_readModrm_268 : blkOK b_Mod_readModrm pt_Mod 277 I_Mod_readModrm_268 = true := by decide +kernel
def I_Mod_readModrm_277 : List IT := [(277, .iconst 3, 1, 3, 0, [])]
theorem ok_Mod_readModrm_277 : blkOK b_Mod_readModrm pt_Mod 278 I_Mod_readModrm_277 = true := by decide +kernel
def I_Mod_readModrm_278 : List IT := [(278, .putfield 73, 3, 0, 0, []), (281, .return_, 1, 0, 0, [])]
theorem ok_Mod_readModrm_278 : blkOK b_Mod_readModrm pt_Mod 282 I_Mod_readModrm_278 = true := by decide +kernel
def f_Mod_readModrm_244 (σ : Sg) (x7 : Int32) (x8 : Int32) (y0 : Int32) : Sg := (bnd (up2 σ 15 14 ((y0 + x7) &&& (65535 : Int32))) fun s1 => (if (s1 15 10) < (0 : Int32) then (if x8 = (0 : Int32) then (bnd (up2 s1 15 15 (3 : Int32)) fun s4 => s4) else (bnd (up2 s1 15 15 (2 : Int32)) fun s5 => s5)) else (bnd (up2 s1 15 15 (s1 15 10)) fun s6 => s6)))
abbrev w_Mod_readModrm_244 : List (Nat × Option Nat) := [(15, some 14), (15, some 15)]
theorem p_Mod_readModrm_244 {P : Sg → Prop} (hP : WP w_Mod_readModrm_244 P) {σ : Sg} {x7 : Int32} {x8 : Int32} {y0 : Int32} (h : P σ) : P (f_Mod_readModrm_244 σ x7 x8 y0) := by
  unfold f_Mod_readModrm_244
  refine bnd_zz (Z := P) (hP _ _ _ _ (Or.inr (by decide)) h) fun s1 e1 q1 => ?_
  refine ite_z (fun _ => ?_) (fun _ => ?_)
  · refine ite_z (fun _ => ?_) (fun _ => ?_)
    · refine bnd_zz (Z := P) (hP _ _ _ _ (Or.inr (by decide)) q1) fun s4 e4 q4 => ?_
      exact q4
    · refine bnd_zz (Z := P) (hP _ _ _ _ (Or.inr (by decide)) q1) fun s5 e5 q5 => ?_
      exact q5
  · refine bnd_zz (Z := P) (hP _ _ _ _ (Or.inr (by decide)) q1) fun s6 e6 q6 => ?_
    exact q6
set_option maxRecDepth 100000 in
set_option maxHeartbeats 4000000 in
theorem b_Mod_readModrm_244 {l : Launch} {ad : Nat → Nat} {D : va_G} {cI : ClassId} {K : Option Value → Sg → Prop} {X : Nat → List Value → List Value → Sg → Prop} (hX : Cl l ad D cI mi_Mod_readModrm pt_Mod K X) {σ : Sg} {x7 : Int32} {x8 : Int32} {y0 : Int32} (z_x8 : x8 = 0 ∨ x8 = 1)  (hK : KV K (f_Mod_readModrm_244 σ x7 x8 y0)) : X 244 [.ref 15, .null, .null, .null, .null, .null, .null, .int x7, .int x8] [.int y0, .ref 15] σ := by
  unfold f_Mod_readModrm_244 at hK
  refine hX.1 268 I_Mod_readModrm_244 ok_Mod_readModrm_244 _ _ _ ?_
  refine And.intro trivial (SG_g hK fun s1 e1 hK => ?_)
  refine And.intro (fun h2 => ?_) (fun h2 => ?_)
  · have hK := ite_p hK h2
    refine hX.1 277 I_Mod_readModrm_268 ok_Mod_readModrm_268 _ _ _ ?_
    refine And.intro (fun h3 => ?_) (fun h3 => ?_)
    · have hK := ite_p hK h3
      refine hX.1 278 I_Mod_readModrm_277 ok_Mod_readModrm_277 _ _ _ ?_
      refine hX.1 282 I_Mod_readModrm_278 ok_Mod_readModrm_278 _ _ _ ?_
      refine And.intro trivial (SG_g hK fun s4 e4 hK => ?_)
      exact hK
    · have hK := ite_n hK h3
      refine hX.1 282 I_Mod_readModrm_278 ok_Mod_readModrm_278 _ _ _ ?_
      refine And.intro trivial (SG_g hK fun s5 e5 hK => ?_)
      exact hK
  · have hK := ite_n hK h2
    refine hX.1 282 I_Mod_readModrm_278 ok_Mod_readModrm_278 _ _ _ ?_
    refine And.intro trivial (SG_g hK fun s6 e6 hK => ?_)
    exact hK
def f_Mod_readModrm_227 (σ : Sg) (x4 : Int32) (x5 : Int32) (x6 : Int32) (x7 : Int32) (y0 : Int32) : Sg := (if x4 = (0 : Int32) then (f_Mod_readModrm_244 σ x7 y0 (x5 + x6)) else (f_Mod_readModrm_244 σ x7 y0 (0 : Int32)))
abbrev w_Mod_readModrm_227 : List (Nat × Option Nat) := [(15, some 14), (15, some 15)]
theorem p_Mod_readModrm_227 {P : Sg → Prop} (hP : WP w_Mod_readModrm_227 P) {σ : Sg} {x4 : Int32} {x5 : Int32} {x6 : Int32} {x7 : Int32} {y0 : Int32} (h : P σ) : P (f_Mod_readModrm_227 σ x4 x5 x6 x7 y0) := by
  unfold f_Mod_readModrm_227
  refine ite_z (fun _ => ?_) (fun _ => ?_)
  · exact p_Mod_readModrm_244 (wsub hP rfl) h
  · exact p_Mod_readModrm_244 (wsub hP rfl) h
set_option maxRecDepth 100000 in
set_option maxHeartbeats 4000000 in
theorem b_Mod_readModrm_227 {l : Launch} {ad : Nat → Nat} {D : va_G} {cI : ClassId} {K : Option Value → Sg → Prop} {X : Nat → List Value → List Value → Sg → Prop} (hX : Cl l ad D cI mi_Mod_readModrm pt_Mod K X) {σ : Sg} {x4 : Int32} {x5 : Int32} {x6 : Int32} {x7 : Int32} {y0 : Int32} (z_x4 : x4 = 0 ∨ x4 = 1) (z_y0 : y0 = 0 ∨ y0 = 1)  (hK : KV K (f_Mod_readModrm_227 σ x4 x5 x6 x7 y0)) : X 227 [.ref 15, .null, .null, .null, .int x4, .int x5, .int x6, .int x7, .null] [.int y0] σ := by
  unfold f_Mod_readModrm_227 at hK
  refine hX.1 239 I_Mod_readModrm_227 ok_Mod_readModrm_227 _ _ _ ?_
  refine And.intro (fun h1 => ?_) (fun h1 => ?_)
  · have hK := ite_p hK h1
    refine hX.1 244 I_Mod_readModrm_239 ok_Mod_readModrm_239 _ _ _ ?_
    refine hX.fg [4, 5, 6] ?_
    exact b_Mod_readModrm_244 hX z_y0  hK
  · have hK := ite_n hK h1
    refine hX.fg [4, 5, 6] ?_
    exact b_Mod_readModrm_244 hX z_y0  hK
def f_Mod_readModrm_222 (σ : Sg) (x4 : Int32) (x5 : Int32) (x6 : Int32) (x7 : Int32) : Sg := (f_Mod_readModrm_227 σ x4 x5 x6 x7 (1 : Int32))
abbrev w_Mod_readModrm_222 : List (Nat × Option Nat) := [(15, some 14), (15, some 15)]
theorem p_Mod_readModrm_222 {P : Sg → Prop} (hP : WP w_Mod_readModrm_222 P) {σ : Sg} {x4 : Int32} {x5 : Int32} {x6 : Int32} {x7 : Int32} (h : P σ) : P (f_Mod_readModrm_222 σ x4 x5 x6 x7) := by
  unfold f_Mod_readModrm_222
  exact p_Mod_readModrm_227 (wsub hP rfl) h
set_option maxRecDepth 100000 in
set_option maxHeartbeats 4000000 in
theorem b_Mod_readModrm_222 {l : Launch} {ad : Nat → Nat} {D : va_G} {cI : ClassId} {K : Option Value → Sg → Prop} {X : Nat → List Value → List Value → Sg → Prop} (hX : Cl l ad D cI mi_Mod_readModrm pt_Mod K X) {σ : Sg} {x4 : Int32} {x5 : Int32} {x6 : Int32} {x7 : Int32} (z_x4 : x4 = 0 ∨ x4 = 1)  (hK : KV K (f_Mod_readModrm_222 σ x4 x5 x6 x7)) : X 222 [.ref 15, .null, .null, .null, .int x4, .int x5, .int x6, .int x7, .null] [] σ := by
  unfold f_Mod_readModrm_222 at hK
  refine hX.1 226 I_Mod_readModrm_222 ok_Mod_readModrm_222 _ _ _ ?_
  exact b_Mod_readModrm_227 hX z_x4 (Or.inr rfl)  hK
def f_Mod_readModrm_226 (σ : Sg) (x4 : Int32) (x5 : Int32) (x6 : Int32) (x7 : Int32) : Sg := (f_Mod_readModrm_227 σ x4 x5 x6 x7 (0 : Int32))
abbrev w_Mod_readModrm_226 : List (Nat × Option Nat) := [(15, some 14), (15, some 15)]
theorem p_Mod_readModrm_226 {P : Sg → Prop} (hP : WP w_Mod_readModrm_226 P) {σ : Sg} {x4 : Int32} {x5 : Int32} {x6 : Int32} {x7 : Int32} (h : P σ) : P (f_Mod_readModrm_226 σ x4 x5 x6 x7) := by
  unfold f_Mod_readModrm_226
  exact p_Mod_readModrm_227 (wsub hP rfl) h
set_option maxRecDepth 100000 in
set_option maxHeartbeats 4000000 in
theorem b_Mod_readModrm_226 {l : Launch} {ad : Nat → Nat} {D : va_G} {cI : ClassId} {K : Option Value → Sg → Prop} {X : Nat → List Value → List Value → Sg → Prop} (hX : Cl l ad D cI mi_Mod_readModrm pt_Mod K X) {σ : Sg} {x4 : Int32} {x5 : Int32} {x6 : Int32} {x7 : Int32} (z_x4 : x4 = 0 ∨ x4 = 1)  (hK : KV K (f_Mod_readModrm_226 σ x4 x5 x6 x7)) : X 226 [.ref 15, .null, .null, .null, .int x4, .int x5, .int x6, .int x7, .null] [] σ := by
  unfold f_Mod_readModrm_226 at hK
  refine hX.1 227 I_Mod_readModrm_226 ok_Mod_readModrm_226 _ _ _ ?_
  exact b_Mod_readModrm_227 hX z_x4 (Or.inl rfl)  hK
def f_Mod_readModrm_199 (σ : Sg) (x3 : Int32) (x4 : Int32) (x5 : Int32) (x6 : Int32) (y0 : Int32) : Sg := (if x4 = (0 : Int32) then (if x3 = (2 : Int32) then (f_Mod_readModrm_222 σ x4 x5 x6 y0) else (if x3 = (3 : Int32) then (f_Mod_readModrm_222 σ x4 x5 x6 y0) else (if x3 = (6 : Int32) then (f_Mod_readModrm_222 σ x4 x5 x6 y0) else (f_Mod_readModrm_226 σ x4 x5 x6 y0)))) else (f_Mod_readModrm_226 σ x4 x5 x6 y0))
abbrev w_Mod_readModrm_199 : List (Nat × Option Nat) := [(15, some 14), (15, some 15)]
theorem p_Mod_readModrm_199 {P : Sg → Prop} (hP : WP w_Mod_readModrm_199 P) {σ : Sg} {x3 : Int32} {x4 : Int32} {x5 : Int32} {x6 : Int32} {y0 : Int32} (h : P σ) : P (f_Mod_readModrm_199 σ x3 x4 x5 x6 y0) := by
  unfold f_Mod_readModrm_199
  refine ite_z (fun _ => ?_) (fun _ => ?_)
  · refine ite_z (fun _ => ?_) (fun _ => ?_)
    · exact p_Mod_readModrm_222 (wsub hP rfl) h
    · refine ite_z (fun _ => ?_) (fun _ => ?_)
      · exact p_Mod_readModrm_222 (wsub hP rfl) h
      · refine ite_z (fun _ => ?_) (fun _ => ?_)
        · exact p_Mod_readModrm_222 (wsub hP rfl) h
        · exact p_Mod_readModrm_226 (wsub hP rfl) h
  · exact p_Mod_readModrm_226 (wsub hP rfl) h
set_option maxRecDepth 100000 in
set_option maxHeartbeats 4000000 in
theorem b_Mod_readModrm_199 {l : Launch} {ad : Nat → Nat} {D : va_G} {cI : ClassId} {K : Option Value → Sg → Prop} {X : Nat → List Value → List Value → Sg → Prop} (hX : Cl l ad D cI mi_Mod_readModrm pt_Mod K X) {σ : Sg} {x3 : Int32} {x4 : Int32} {x5 : Int32} {x6 : Int32} {y0 : Int32} (z_x4 : x4 = 0 ∨ x4 = 1)  (hK : KV K (f_Mod_readModrm_199 σ x3 x4 x5 x6 y0)) : X 199 [.ref 15, .null, .null, .int x3, .int x4, .int x5, .int x6, .null, .null] [.int y0] σ := by
  unfold f_Mod_readModrm_199 at hK
  refine hX.1 222 I_Mod_readModrm_199 ok_Mod_readModrm_199 _ _ _ ?_
  refine And.intro (fun h1 => ?_) (fun h1 => ?_)
  · have hK := ite_p hK h1
    refine And.intro (fun h2 => ?_) (fun h2 => ?_)
    · have hK := ite_p hK h2
      refine hX.fg [3] ?_
      exact b_Mod_readModrm_222 hX z_x4  hK
    · have hK := ite_n hK h2
      refine And.intro (fun h3 => ?_) (fun h3 => ?_)
      · have hK := ite_p hK h3
        refine hX.fg [3] ?_
        exact b_Mod_readModrm_222 hX z_x4  hK
      · have hK := ite_n hK h3
        refine And.intro (fun h4 => ?_) (fun h4 => ?_)
        · have hK := ite_p hK h4
          refine hX.fg [3] ?_
          exact b_Mod_readModrm_222 hX z_x4  hK
        · have hK := ite_n hK h4
          refine hX.fg [3] ?_
          exact b_Mod_readModrm_226 hX z_x4  hK
  · have hK := ite_n hK h1
    refine hX.fg [3] ?_
    exact b_Mod_readModrm_226 hX z_x4  hK
def f_Mod_readModrm_179 (σ : Sg) (x3 : Int32) (x4 : Int32) (x5 : Int32) (x6 : Int32) : Sg := (bnd (f_Mod_nextWord σ) fun r1 => (f_Mod_readModrm_199 r1.2 x3 x4 x5 x6 r1.1))
abbrev w_Mod_readModrm_179 : List (Nat × Option Nat) := [(15, some 3), (15, some 14), (15, some 15)]
theorem p_Mod_readModrm_179 {P : Sg → Prop} (hP : WP w_Mod_readModrm_179 P) {σ : Sg} {x3 : Int32} {x4 : Int32} {x5 : Int32} {x6 : Int32} (h : P σ) : P (f_Mod_readModrm_179 σ x3 x4 x5 x6) := by
  unfold f_Mod_readModrm_179
  refine bnd_zz (Z := PP P) (p_Mod_nextWord (wsub hP rfl) h) fun r1 e1 q1 => ?_
  exact p_Mod_readModrm_199 (wsub hP rfl) q1
set_option maxRecDepth 100000 in
set_option maxHeartbeats 4000000 in
theorem b_Mod_readModrm_179 {l : Launch} {ad : Nat → Nat} {D : va_G} {cI : ClassId} {K : Option Value → Sg → Prop} {X : Nat → List Value → List Value → Sg → Prop} (hX : Cl l ad D cI mi_Mod_readModrm pt_Mod K X) {σ : Sg} {x3 : Int32} {x4 : Int32} {x5 : Int32} {x6 : Int32} (z_x4 : x4 = 0 ∨ x4 = 1)  (hK : KV K (f_Mod_readModrm_179 σ x3 x4 x5 x6)) : X 179 [.ref 15, .null, .null, .int x3, .int x4, .int x5, .int x6, .null, .null] [] σ := by
  unfold f_Mod_readModrm_179 at hK
  refine hX.1 186 I_Mod_readModrm_179 ok_Mod_readModrm_179 _ _ _ ?_
  refine s_Mod_nextWord (bnd_g hK fun r1 e1 hK => ?_)
  exact b_Mod_readModrm_199 hX z_x4  hK
def f_Mod_readModrm_158 (σ : Sg) (x2 : Int32) (x3 : Int32) (x4 : Int32) (x5 : Int32) (y0 : Int32) : Sg := (if x2 = (3 : Int32) then (f_Mod_readModrm_199 σ x3 x4 x5 y0 (0 : Int32)) else (if x4 = (0 : Int32) then (if x2 = (2 : Int32) then (f_Mod_readModrm_179 σ x3 x4 x5 y0) else (if x2 = (1 : Int32) then (bnd (f_Mod_nextSigned σ) fun r5 => (f_Mod_readModrm_199 r5.2 x3 x4 x5 y0 r5.1)) else (f_Mod_readModrm_199 σ x3 x4 x5 y0 (0 : Int32)))) else (f_Mod_readModrm_179 σ x3 x4 x5 y0)))
abbrev w_Mod_readModrm_158 : List (Nat × Option Nat) := [(15, some 3), (15, some 14), (15, some 15)]
theorem p_Mod_readModrm_158 {P : Sg → Prop} (hP : WP w_Mod_readModrm_158 P) {σ : Sg} {x2 : Int32} {x3 : Int32} {x4 : Int32} {x5 : Int32} {y0 : Int32} (h : P σ) : P (f_Mod_readModrm_158 σ x2 x3 x4 x5 y0) := by
  unfold f_Mod_readModrm_158
  refine ite_z (fun _ => ?_) (fun _ => ?_)
  · exact p_Mod_readModrm_199 (wsub hP rfl) h
  · refine ite_z (fun _ => ?_) (fun _ => ?_)
    · refine ite_z (fun _ => ?_) (fun _ => ?_)
      · exact p_Mod_readModrm_179 (wsub hP rfl) h
      · refine ite_z (fun _ => ?_) (fun _ => ?_)
        · refine bnd_zz (Z := PP P) (p_Mod_nextSigned (wsub hP rfl) h) fun r5 e5 q5 => ?_
          exact p_Mod_readModrm_199 (wsub hP rfl) q5
        · exact p_Mod_readModrm_199 (wsub hP rfl) h
    · exact p_Mod_readModrm_179 (wsub hP rfl) h
set_option maxRecDepth 100000 in
set_option maxHeartbeats 4000000 in
theorem b_Mod_readModrm_158 {l : Launch} {ad : Nat → Nat} {D : va_G} {cI : ClassId} {K : Option Value → Sg → Prop} {X : Nat → List Value → List Value → Sg → Prop} (hX : Cl l ad D cI mi_Mod_readModrm pt_Mod K X) {σ : Sg} {x2 : Int32} {x3 : Int32} {x4 : Int32} {x5 : Int32} {y0 : Int32} (z_x4 : x4 = 0 ∨ x4 = 1)  (hK : KV K (f_Mod_readModrm_158 σ x2 x3 x4 x5 y0)) : X 158 [.ref 15, .null, .int x2, .int x3, .int x4, .int x5, .null, .null, .null] [.int y0] σ := by
  unfold f_Mod_readModrm_158 at hK
  refine hX.1 169 I_Mod_readModrm_158 ok_Mod_readModrm_158 _ _ _ ?_
  refine And.intro (fun h1 => ?_) (fun h1 => ?_)
  · have hK := ite_p hK h1
    refine hX.fg [2] ?_
    exact b_Mod_readModrm_199 hX z_x4  hK
  · have hK := ite_n hK h1
    refine hX.1 179 I_Mod_readModrm_169 ok_Mod_readModrm_169 _ _ _ ?_
    refine And.intro (fun h2 => ?_) (fun h2 => ?_)
    · have hK := ite_p hK h2
      refine And.intro (fun h3 => ?_) (fun h3 => ?_)
      · have hK := ite_p hK h3
        refine hX.fg [2] ?_
        exact b_Mod_readModrm_179 hX z_x4  hK
      · have hK := ite_n hK h3
        refine hX.1 198 I_Mod_readModrm_186 ok_Mod_readModrm_186 _ _ _ ?_
        refine And.intro (fun h4 => ?_) (fun h4 => ?_)
        · have hK := ite_p hK h4
          refine s_Mod_nextSigned (bnd_g hK fun r5 e5 hK => ?_)
          refine hX.fg [2] ?_
          exact b_Mod_readModrm_199 hX z_x4  hK
        · have hK := ite_n hK h4
          refine hX.1 199 I_Mod_readModrm_198 ok_Mod_readModrm_198 _ _ _ ?_
          refine hX.fg [2] ?_
          exact b_Mod_readModrm_199 hX z_x4  hK
    · have hK := ite_n hK h2
      refine hX.fg [2] ?_
      exact b_Mod_readModrm_179 hX z_x4  hK
def f_Mod_readModrm_122 (σ : Sg) (x2 : Int32) (x3 : Int32) (x4 : Int32) (x5 : Int32) : Sg := (f_Mod_readModrm_158 σ x2 x3 x4 x5 (σ 17 (Int32.toNatClampNeg (6 : Int32))))
abbrev w_Mod_readModrm_122 : List (Nat × Option Nat) := [(15, some 3), (15, some 14), (15, some 15)]
theorem p_Mod_readModrm_122 {P : Sg → Prop} (hP : WP w_Mod_readModrm_122 P) {σ : Sg} {x2 : Int32} {x3 : Int32} {x4 : Int32} {x5 : Int32} (h : P σ) : P (f_Mod_readModrm_122 σ x2 x3 x4 x5) := by
  unfold f_Mod_readModrm_122
  exact p_Mod_readModrm_158 (wsub hP rfl) h
set_option maxRecDepth 100000 in
set_option maxHeartbeats 4000000 in
theorem b_Mod_readModrm_122 {l : Launch} {ad : Nat → Nat} {D : va_G} {cI : ClassId} {K : Option Value → Sg → Prop} {X : Nat → List Value → List Value → Sg → Prop} (hX : Cl l ad D cI mi_Mod_readModrm pt_Mod K X) {σ : Sg} {x2 : Int32} {x3 : Int32} {x4 : Int32} {x5 : Int32} (z_x4 : x4 = 0 ∨ x4 = 1)  (hK : KV K (f_Mod_readModrm_122 σ x2 x3 x4 x5)) : X 122 [.ref 15, .null, .int x2, .int x3, .int x4, .int x5, .null, .null, .null] [] σ := by
  unfold f_Mod_readModrm_122 at hK
  refine hX.1 132 I_Mod_readModrm_122 ok_Mod_readModrm_122 _ _ _ ?_
  refine And.intro (vin (by decide)) ?_
  exact b_Mod_readModrm_158 hX z_x4  hK
def f_Mod_readModrm_147 (σ : Sg) (x2 : Int32) (x3 : Int32) (x4 : Int32) (x5 : Int32) : Sg := (f_Mod_readModrm_158 σ x2 x3 x4 x5 (σ 17 (Int32.toNatClampNeg (7 : Int32))))
abbrev w_Mod_readModrm_147 : List (Nat × Option Nat) := [(15, some 3), (15, some 14), (15, some 15)]
theorem p_Mod_readModrm_147 {P : Sg → Prop} (hP : WP w_Mod_readModrm_147 P) {σ : Sg} {x2 : Int32} {x3 : Int32} {x4 : Int32} {x5 : Int32} (h : P σ) : P (f_Mod_readModrm_147 σ x2 x3 x4 x5) := by
  unfold f_Mod_readModrm_147
  exact p_Mod_readModrm_158 (wsub hP rfl) h
set_option maxRecDepth 100000 in
set_option maxHeartbeats 4000000 in
theorem b_Mod_readModrm_147 {l : Launch} {ad : Nat → Nat} {D : va_G} {cI : ClassId} {K : Option Value → Sg → Prop} {X : Nat → List Value → List Value → Sg → Prop} (hX : Cl l ad D cI mi_Mod_readModrm pt_Mod K X) {σ : Sg} {x2 : Int32} {x3 : Int32} {x4 : Int32} {x5 : Int32} (z_x4 : x4 = 0 ∨ x4 = 1)  (hK : KV K (f_Mod_readModrm_147 σ x2 x3 x4 x5)) : X 147 [.ref 15, .null, .int x2, .int x3, .int x4, .int x5, .null, .null, .null] [] σ := by
  unfold f_Mod_readModrm_147 at hK
  refine hX.1 157 I_Mod_readModrm_147 ok_Mod_readModrm_147 _ _ _ ?_
  refine And.intro (vin (by decide)) ?_
  exact b_Mod_readModrm_158 hX z_x4  hK
def f_Mod_readModrm_106 (σ : Sg) (x2 : Int32) (x3 : Int32) (x4 : Int32) (y0 : Int32) : Sg := (if x3 = (0 : Int32) then (f_Mod_readModrm_122 σ x2 x3 x4 y0) else (if x3 = (2 : Int32) then (f_Mod_readModrm_122 σ x2 x3 x4 y0) else (if x3 = (4 : Int32) then (f_Mod_readModrm_122 σ x2 x3 x4 y0) else (if x3 = (1 : Int32) then (f_Mod_readModrm_147 σ x2 x3 x4 y0) else (if x3 = (3 : Int32) then (f_Mod_readModrm_147 σ x2 x3 x4 y0) else (if x3 = (5 : Int32) then (f_Mod_readModrm_147 σ x2 x3 x4 y0) else (f_Mod_readModrm_158 σ x2 x3 x4 y0 (0 : Int32))))))))
abbrev w_Mod_readModrm_106 : List (Nat × Option Nat) := [(15, some 3), (15, some 14), (15, some 15)]
theorem p_Mod_readModrm_106 {P : Sg → Prop} (hP : WP w_Mod_readModrm_106 P) {σ : Sg} {x2 : Int32} {x3 : Int32} {x4 : Int32} {y0 : Int32} (h : P σ) : P (f_Mod_readModrm_106 σ x2 x3 x4 y0) := by
  unfold f_Mod_readModrm_106
  refine ite_z (fun _ => ?_) (fun _ => ?_)
  · exact p_Mod_readModrm_122 (wsub hP rfl) h
  · refine ite_z (fun _ => ?_) (fun _ => ?_)
    · exact p_Mod_readModrm_122 (wsub hP rfl) h
    · refine ite_z (fun _ => ?_) (fun _ => ?_)
      · exact p_Mod_readModrm_122 (wsub hP rfl) h
      · refine ite_z (fun _ => ?_) (fun _ => ?_)
        · exact p_Mod_readModrm_147 (wsub hP rfl) h
        · refine ite_z (fun _ => ?_) (fun _ => ?_)
          · exact p_Mod_readModrm_147 (wsub hP rfl) h
          · refine ite_z (fun _ => ?_) (fun _ => ?_)
            · exact p_Mod_readModrm_147 (wsub hP rfl) h
            · exact p_Mod_readModrm_158 (wsub hP rfl) h
set_option maxRecDepth 100000 in
set_option maxHeartbeats 4000000 in
theorem b_Mod_readModrm_106 {l : Launch} {ad : Nat → Nat} {D : va_G} {cI : ClassId} {K : Option Value → Sg → Prop} {X : Nat → List Value → List Value → Sg → Prop} (hX : Cl l ad D cI mi_Mod_readModrm pt_Mod K X) {σ : Sg} {x2 : Int32} {x3 : Int32} {x4 : Int32} {y0 : Int32} (z_x4 : x4 = 0 ∨ x4 = 1)  (hK : KV K (f_Mod_readModrm_106 σ x2 x3 x4 y0)) : X 106 [.ref 15, .null, .int x2, .int x3, .int x4, .null, .null, .null, .null] [.int y0] σ := by
  unfold f_Mod_readModrm_106 at hK
  refine hX.1 122 I_Mod_readModrm_106 ok_Mod_readModrm_106 _ _ _ ?_
  refine And.intro (fun h1 => ?_) (fun h1 => ?_)
  · have hK := ite_p hK h1
    exact b_Mod_readModrm_122 hX z_x4  hK
  · have hK := ite_n hK h1
    refine And.intro (fun h2 => ?_) (fun h2 => ?_)
    · have hK := ite_p hK h2
      exact b_Mod_readModrm_122 hX z_x4  hK
    · have hK := ite_n hK h2
      refine And.intro (fun h3 => ?_) (fun h3 => ?_)
      · have hK := ite_p hK h3
        exact b_Mod_readModrm_122 hX z_x4  hK
      · have hK := ite_n hK h3
        refine hX.1 147 I_Mod_readModrm_132 ok_Mod_readModrm_132 _ _ _ ?_
        refine And.intro (fun h4 => ?_) (fun h4 => ?_)
        · have hK := ite_p hK h4
          exact b_Mod_readModrm_147 hX z_x4  hK
        · have hK := ite_n hK h4
          refine And.intro (fun h5 => ?_) (fun h5 => ?_)
          · have hK := ite_p hK h5
            exact b_Mod_readModrm_147 hX z_x4  hK
          · have hK := ite_n hK h5
            refine And.intro (fun h6 => ?_) (fun h6 => ?_)
            · have hK := ite_p hK h6
              exact b_Mod_readModrm_147 hX z_x4  hK
            · have hK := ite_n hK h6
              refine hX.1 158 I_Mod_readModrm_157 ok_Mod_readModrm_157 _ _ _ ?_
              exact b_Mod_readModrm_158 hX z_x4  hK
def f_Mod_readModrm_71 (σ : Sg) (x2 : Int32) (x3 : Int32) (x4 : Int32) : Sg := (f_Mod_readModrm_106 σ x2 x3 x4 (σ 17 (Int32.toNatClampNeg (3 : Int32))))
abbrev w_Mod_readModrm_71 : List (Nat × Option Nat) := [(15, some 3), (15, some 14), (15, some 15)]
theorem p_Mod_readModrm_71 {P : Sg → Prop} (hP : WP w_Mod_readModrm_71 P) {σ : Sg} {x2 : Int32} {x3 : Int32} {x4 : Int32} (h : P σ) : P (f_Mod_readModrm_71 σ x2 x3 x4) := by
  unfold f_Mod_readModrm_71
  exact p_Mod_readModrm_106 (wsub hP rfl) h
set_option maxRecDepth 100000 in
set_option maxHeartbeats 4000000 in
theorem b_Mod_readModrm_71 {l : Launch} {ad : Nat → Nat} {D : va_G} {cI : ClassId} {K : Option Value → Sg → Prop} {X : Nat → List Value → List Value → Sg → Prop} (hX : Cl l ad D cI mi_Mod_readModrm pt_Mod K X) {σ : Sg} {x2 : Int32} {x3 : Int32} {x4 : Int32} (z_x4 : x4 = 0 ∨ x4 = 1)  (hK : KV K (f_Mod_readModrm_71 σ x2 x3 x4)) : X 71 [.ref 15, .null, .int x2, .int x3, .int x4, .null, .null, .null, .null] [] σ := by
  unfold f_Mod_readModrm_71 at hK
  refine hX.1 80 I_Mod_readModrm_71 ok_Mod_readModrm_71 _ _ _ ?_
  refine And.intro (vin (by decide)) ?_
  exact b_Mod_readModrm_106 hX z_x4  hK
def f_Mod_readModrm_96 (σ : Sg) (x2 : Int32) (x3 : Int32) (x4 : Int32) : Sg := (f_Mod_readModrm_106 σ x2 x3 x4 (σ 17 (Int32.toNatClampNeg (5 : Int32))))
abbrev w_Mod_readModrm_96 : List (Nat × Option Nat) := [(15, some 3), (15, some 14), (15, some 15)]
theorem p_Mod_readModrm_96 {P : Sg → Prop} (hP : WP w_Mod_readModrm_96 P) {σ : Sg} {x2 : Int32} {x3 : Int32} {x4 : Int32} (h : P σ) : P (f_Mod_readModrm_96 σ x2 x3 x4) := by
  unfold f_Mod_readModrm_96
  exact p_Mod_readModrm_106 (wsub hP rfl) h
set_option maxRecDepth 100000 in
set_option maxHeartbeats 4000000 in
theorem b_Mod_readModrm_96 {l : Launch} {ad : Nat → Nat} {D : va_G} {cI : ClassId} {K : Option Value → Sg → Prop} {X : Nat → List Value → List Value → Sg → Prop} (hX : Cl l ad D cI mi_Mod_readModrm pt_Mod K X) {σ : Sg} {x2 : Int32} {x3 : Int32} {x4 : Int32} (z_x4 : x4 = 0 ∨ x4 = 1)  (hK : KV K (f_Mod_readModrm_96 σ x2 x3 x4)) : X 96 [.ref 15, .null, .int x2, .int x3, .int x4, .null, .null, .null, .null] [] σ := by
  unfold f_Mod_readModrm_96 at hK
  refine hX.1 105 I_Mod_readModrm_96 ok_Mod_readModrm_96 _ _ _ ?_
  refine And.intro (vin (by decide)) ?_
  exact b_Mod_readModrm_106 hX z_x4  hK
def f_Mod_readModrm_54 (σ : Sg) (x2 : Int32) (x3 : Int32) (y0 : Int32) : Sg := (if x3 = (0 : Int32) then (f_Mod_readModrm_71 σ x2 x3 y0) else (if x3 = (1 : Int32) then (f_Mod_readModrm_71 σ x2 x3 y0) else (if x3 = (7 : Int32) then (f_Mod_readModrm_71 σ x2 x3 y0) else (if x3 = (2 : Int32) then (f_Mod_readModrm_96 σ x2 x3 y0) else (if x3 = (3 : Int32) then (f_Mod_readModrm_96 σ x2 x3 y0) else (if x3 = (6 : Int32) then (f_Mod_readModrm_96 σ x2 x3 y0) else (f_Mod_readModrm_106 σ x2 x3 y0 (0 : Int32))))))))
abbrev w_Mod_readModrm_54 : List (Nat × Option Nat) := [(15, some 3), (15, some 14), (15, some 15)]
theorem p_Mod_readModrm_54 {P : Sg → Prop} (hP : WP w_Mod_readModrm_54 P) {σ : Sg} {x2 : Int32} {x3 : Int32} {y0 : Int32} (h : P σ) : P (f_Mod_readModrm_54 σ x2 x3 y0) := by
  unfold f_Mod_readModrm_54
  refine ite_z (fun _ => ?_) (fun _ => ?_)
  · exact p_Mod_readModrm_71 (wsub hP rfl) h
  · refine ite_z (fun _ => ?_) (fun _ => ?_)
    · exact p_Mod_readModrm_71 (wsub hP rfl) h
    · refine ite_z (fun _ => ?_) (fun _ => ?_)
      · exact p_Mod_readModrm_71 (wsub hP rfl) h
      · refine ite_z (fun _ => ?_) (fun _ => ?_)
        · exact p_Mod_readModrm_96 (wsub hP rfl) h
        · refine ite_z (fun _ => ?_) (fun _ => ?_)
          · exact p_Mod_readModrm_96 (wsub hP rfl) h
          · refine ite_z (fun _ => ?_) (fun _ => ?_)
            · exact p_Mod_readModrm_96 (wsub hP rfl) h
            · exact p_Mod_readModrm_106 (wsub hP rfl) h
set_option maxRecDepth 100000 in
set_option maxHeartbeats 4000000 in
theorem b_Mod_readModrm_54 {l : Launch} {ad : Nat → Nat} {D : va_G} {cI : ClassId} {K : Option Value → Sg → Prop} {X : Nat → List Value → List Value → Sg → Prop} (hX : Cl l ad D cI mi_Mod_readModrm pt_Mod K X) {σ : Sg} {x2 : Int32} {x3 : Int32} {y0 : Int32} (z_y0 : y0 = 0 ∨ y0 = 1)  (hK : KV K (f_Mod_readModrm_54 σ x2 x3 y0)) : X 54 [.ref 15, .null, .int x2, .int x3, .null, .null, .null, .null, .null] [.int y0] σ := by
  unfold f_Mod_readModrm_54 at hK
  refine hX.1 71 I_Mod_readModrm_54 ok_Mod_readModrm_54 _ _ _ ?_
  refine And.intro (fun h1 => ?_) (fun h1 => ?_)
  · have hK := ite_p hK h1
    exact b_Mod_readModrm_71 hX z_y0  hK
  · have hK := ite_n hK h1
    refine And.intro (fun h2 => ?_) (fun h2 => ?_)
    · have hK := ite_p hK h2
      exact b_Mod_readModrm_71 hX z_y0  hK
    · have hK := ite_n hK h2
      refine And.intro (fun h3 => ?_) (fun h3 => ?_)
      · have hK := ite_p hK h3
        exact b_Mod_readModrm_71 hX z_y0  hK
      · have hK := ite_n hK h3
        refine hX.1 96 I_Mod_readModrm_80 ok_Mod_readModrm_80 _ _ _ ?_
        refine And.intro (fun h4 => ?_) (fun h4 => ?_)
        · have hK := ite_p hK h4
          exact b_Mod_readModrm_96 hX z_y0  hK
        · have hK := ite_n hK h4
          refine And.intro (fun h5 => ?_) (fun h5 => ?_)
          · have hK := ite_p hK h5
            exact b_Mod_readModrm_96 hX z_y0  hK
          · have hK := ite_n hK h5
            refine And.intro (fun h6 => ?_) (fun h6 => ?_)
            · have hK := ite_p hK h6
              exact b_Mod_readModrm_96 hX z_y0  hK
            · have hK := ite_n hK h6
              refine hX.1 106 I_Mod_readModrm_105 ok_Mod_readModrm_105 _ _ _ ?_
              exact b_Mod_readModrm_106 hX z_y0  hK
def f_Mod_readModrm_53 (σ : Sg) (x2 : Int32) (x3 : Int32) : Sg := (f_Mod_readModrm_54 σ x2 x3 (0 : Int32))
abbrev w_Mod_readModrm_53 : List (Nat × Option Nat) := [(15, some 3), (15, some 14), (15, some 15)]
theorem p_Mod_readModrm_53 {P : Sg → Prop} (hP : WP w_Mod_readModrm_53 P) {σ : Sg} {x2 : Int32} {x3 : Int32} (h : P σ) : P (f_Mod_readModrm_53 σ x2 x3) := by
  unfold f_Mod_readModrm_53
  exact p_Mod_readModrm_54 (wsub hP rfl) h
set_option maxRecDepth 100000 in
set_option maxHeartbeats 4000000 in
theorem b_Mod_readModrm_53 {l : Launch} {ad : Nat → Nat} {D : va_G} {cI : ClassId} {K : Option Value → Sg → Prop} {X : Nat → List Value → List Value → Sg → Prop} (hX : Cl l ad D cI mi_Mod_readModrm pt_Mod K X) {σ : Sg} {x2 : Int32} {x3 : Int32}   (hK : KV K (f_Mod_readModrm_53 σ x2 x3)) : X 53 [.ref 15, .null, .int x2, .int x3, .null, .null, .null, .null, .null] [] σ := by
  unfold f_Mod_readModrm_53 at hK
  refine hX.1 54 I_Mod_readModrm_53 ok_Mod_readModrm_53 _ _ _ ?_
  exact b_Mod_readModrm_54 hX (Or.inl rfl)  hK
def f_Mod_readModrm_36 (σ : Sg) (x2 : Int32) (x3 : Int32) (y0 : Int32) : Sg := (bnd (up2 σ 15 13 y0) fun s1 => (if x2 = (0 : Int32) then (if x3 = (6 : Int32) then (f_Mod_readModrm_54 s1 x2 x3 (1 : Int32)) else (f_Mod_readModrm_53 s1 x2 x3)) else (f_Mod_readModrm_53 s1 x2 x3)))
abbrev w_Mod_readModrm_36 : List (Nat × Option Nat) := [(15, some 3), (15, some 13), (15, some 14), (15, some 15)]
theorem p_Mod_readModrm_36 {P : Sg → Prop} (hP : WP w_Mod_readModrm_36 P) {σ : Sg} {x2 : Int32} {x3 : Int32} {y0 : Int32} (h : P σ) : P (f_Mod_readModrm_36 σ x2 x3 y0) := by
  unfold f_Mod_readModrm_36
  refine bnd_zz (Z := P) (hP _ _ _ _ (Or.inr (by decide)) h) fun s1 e1 q1 => ?_
  refine ite_z (fun _ => ?_) (fun _ => ?_)
  · refine ite_z (fun _ => ?_) (fun _ => ?_)
    · exact p_Mod_readModrm_54 (wsub hP rfl) q1
    · exact p_Mod_readModrm_53 (wsub hP rfl) q1
  · exact p_Mod_readModrm_53 (wsub hP rfl) q1
set_option maxRecDepth 100000 in
set_option maxHeartbeats 4000000 in
theorem b_Mod_readModrm_36 {l : Launch} {ad : Nat → Nat} {D : va_G} {cI : ClassId} {K : Option Value → Sg → Prop} {X : Nat → List Value → List Value → Sg → Prop} (hX : Cl l ad D cI mi_Mod_readModrm pt_Mod K X) {σ : Sg} {x2 : Int32} {x3 : Int32} {y0 : Int32}   (hK : KV K (f_Mod_readModrm_36 σ x2 x3 y0)) : X 36 [.ref 15, .null, .int x2, .int x3, .null, .null, .null, .null, .null] [.int y0, .ref 15] σ := by
  unfold f_Mod_readModrm_36 at hK
  refine hX.1 53 I_Mod_readModrm_36 ok_Mod_readModrm_36 _ _ _ ?_
  refine And.intro trivial (SG_g hK fun s1 e1 hK => ?_)
  refine And.intro (fun h2 => ?_) (fun h2 => ?_)
  · have hK := ite_p hK h2
    refine And.intro (fun h3 => ?_) (fun h3 => ?_)
    · have hK := ite_p hK h3
      exact b_Mod_readModrm_54 hX (Or.inr rfl)  hK
    · have hK := ite_n hK h3
      exact b_Mod_readModrm_53 hX  hK
  · have hK := ite_n hK h2
    exact b_Mod_readModrm_53 hX  hK
def f_Mod_readModrm (σ : Sg)  : Sg := (bnd (f_Mod_next σ) fun r1 => bnd (up2 r1.2 15 12 ((r1.1 >>> ((3 : Int32) &&& 31 : Int32)) &&& (7 : Int32))) fun s2 => (if (r1.1 >>> ((6 : Int32) &&& 31 : Int32)) = (3 : Int32) then (f_Mod_readModrm_36 s2 (r1.1 >>> ((6 : Int32) &&& 31 : Int32)) (r1.1 &&& (7 : Int32)) (r1.1 &&& (7 : Int32))) else (f_Mod_readModrm_36 s2 (r1.1 >>> ((6 : Int32) &&& 31 : Int32)) (r1.1 &&& (7 : Int32)) (-1 : Int32))))
abbrev w_Mod_readModrm : List (Nat × Option Nat) := [(15, some 3), (15, some 12), (15, some 13), (15, some 14), (15, some 15)]
theorem p_Mod_readModrm {P : Sg → Prop} (hP : WP w_Mod_readModrm P) {σ : Sg}  (h : P σ) : P (f_Mod_readModrm σ ) := by
  unfold f_Mod_readModrm
  refine bnd_zz (Z := PP P) (p_Mod_next (wsub hP rfl) h) fun r1 e1 q1 => ?_
  refine bnd_zz (Z := P) (hP _ _ _ _ (Or.inr (by decide)) q1) fun s2 e2 q2 => ?_
  refine ite_z (fun _ => ?_) (fun _ => ?_)
  · exact p_Mod_readModrm_36 (wsub hP rfl) q2
  · exact p_Mod_readModrm_36 (wsub hP rfl) q2
set_option maxRecDepth 100000 in
set_option maxHeartbeats 4000000 in
theorem s_Mod_readModrm {l : Launch} {ad : Nat → Nat} {D : va_G} {cI : ClassId} {σ : Sg}  {K : Option Value → Sg → Prop}   (hK : KV K (f_Mod_readModrm σ )) : MetJ l ad D cI mi_Mod_readModrm [.ref 15] σ K := by
  refine met_of mi_Mod_readModrm pt_Mod pt_Mod_in rfl pl_Mod rfl (Nat.le_of_ble_eq_true rfl) fun X hX => ?_
  have hX : Cl l ad D cI mi_Mod_readModrm pt_Mod K X := hX
  show X 0 [.ref 15, .null, .null, .null, .null, .null, .null, .null, .null] [] σ
  unfold f_Mod_readModrm at hK
  refine hX.1 35 I_Mod_readModrm_0 ok_Mod_readModrm_0 _ _ _ ?_
  refine s_Mod_next (bnd_g hK fun r1 e1 hK => ?_)
  refine And.intro trivial (SG_g hK fun s2 e2 hK => ?_)
  refine And.intro (fun h3 => ?_) (fun h3 => ?_)
  · have hK := ite_p hK h3
    refine hX.fg [1] ?_
    exact b_Mod_readModrm_36 hX  hK
  · have hK := ite_n hK h3
    refine hX.1 36 I_Mod_readModrm_35 ok_Mod_readModrm_35 _ _ _ ?_
    refine hX.fg [1] ?_
    exact b_Mod_readModrm_36 hX  hK
theorem g_244 {σ : Sg} {x7 x8 y0 : Int32} (h : OV σ) : EG (f_Mod_readModrm_244 σ x7 x8 y0) := by
  unfold f_Mod_readModrm_244
  refine bnd_zz (Z := OV) (OVw (W := [(15, some 14)]) rfl _ _ _ _ (Or.inr (by decide)) h) fun s1 e1 h1 => ?_
  refine ite_z (fun h2 => ite_z (fun _ => ?_) (fun _ => ?_)) (fun h2 => ?_)
  · refine bnd_z fun s4 e4 => ?_
    rw [← e4]
    exact (vin (by decide) : vp_in (3 : Int32) 4)
  · refine bnd_z fun s4 e4 => ?_
    rw [← e4]
    exact (vin (by decide) : vp_in (2 : Int32) 4)
  · refine bnd_z fun s4 e4 => ?_
    rw [← e4]
    exact OV_in h1 h2
theorem g_227 {σ : Sg} {x4 : Int32} {x5 : Int32} {x6 : Int32} {x7 : Int32} {y0 : Int32} (h : OV σ) : EG (f_Mod_readModrm_227 σ x4 x5 x6 x7 y0) := by
  unfold f_Mod_readModrm_227
  refine ite_z (fun _ => ?_) (fun _ => ?_)
  · exact g_244 h
  · exact g_244 h
theorem g_222 {σ : Sg} {x4 : Int32} {x5 : Int32} {x6 : Int32} {x7 : Int32} (h : OV σ) : EG (f_Mod_readModrm_222 σ x4 x5 x6 x7) := by
  unfold f_Mod_readModrm_222
  exact g_227 h
theorem g_226 {σ : Sg} {x4 : Int32} {x5 : Int32} {x6 : Int32} {x7 : Int32} (h : OV σ) : EG (f_Mod_readModrm_226 σ x4 x5 x6 x7) := by
  unfold f_Mod_readModrm_226
  exact g_227 h
theorem g_199 {σ : Sg} {x3 : Int32} {x4 : Int32} {x5 : Int32} {x6 : Int32} {y0 : Int32} (h : OV σ) : EG (f_Mod_readModrm_199 σ x3 x4 x5 x6 y0) := by
  unfold f_Mod_readModrm_199
  refine ite_z (fun _ => ?_) (fun _ => ?_)
  · refine ite_z (fun _ => ?_) (fun _ => ?_)
    · exact g_222 h
    · refine ite_z (fun _ => ?_) (fun _ => ?_)
      · exact g_222 h
      · refine ite_z (fun _ => ?_) (fun _ => ?_)
        · exact g_222 h
        · exact g_226 h
  · exact g_226 h
theorem g_179 {σ : Sg} {x3 : Int32} {x4 : Int32} {x5 : Int32} {x6 : Int32} (h : OV σ) : EG (f_Mod_readModrm_179 σ x3 x4 x5 x6) := by
  unfold f_Mod_readModrm_179
  refine bnd_zz (Z := PP OV) (p_Mod_nextWord (P := OV) (OVw rfl) h) fun r1 e1 q1 => ?_
  exact g_199 q1
theorem g_158 {σ : Sg} {x2 : Int32} {x3 : Int32} {x4 : Int32} {x5 : Int32} {y0 : Int32} (h : OV σ) : EG (f_Mod_readModrm_158 σ x2 x3 x4 x5 y0) := by
  unfold f_Mod_readModrm_158
  refine ite_z (fun _ => ?_) (fun _ => ?_)
  · exact g_199 h
  · refine ite_z (fun _ => ?_) (fun _ => ?_)
    · refine ite_z (fun _ => ?_) (fun _ => ?_)
      · exact g_179 h
      · refine ite_z (fun _ => ?_) (fun _ => ?_)
        · refine bnd_zz (Z := PP OV) (p_Mod_nextSigned (P := OV) (OVw rfl) h) fun r5 e5 q5 => ?_
          exact g_199 q5
        · exact g_199 h
    · exact g_179 h
theorem g_122 {σ : Sg} {x2 : Int32} {x3 : Int32} {x4 : Int32} {x5 : Int32} (h : OV σ) : EG (f_Mod_readModrm_122 σ x2 x3 x4 x5) := by
  unfold f_Mod_readModrm_122
  exact g_158 h
theorem g_147 {σ : Sg} {x2 : Int32} {x3 : Int32} {x4 : Int32} {x5 : Int32} (h : OV σ) : EG (f_Mod_readModrm_147 σ x2 x3 x4 x5) := by
  unfold f_Mod_readModrm_147
  exact g_158 h
theorem g_106 {σ : Sg} {x2 : Int32} {x3 : Int32} {x4 : Int32} {y0 : Int32} (h : OV σ) : EG (f_Mod_readModrm_106 σ x2 x3 x4 y0) := by
  unfold f_Mod_readModrm_106
  refine ite_z (fun _ => ?_) (fun _ => ?_)
  · exact g_122 h
  · refine ite_z (fun _ => ?_) (fun _ => ?_)
    · exact g_122 h
    · refine ite_z (fun _ => ?_) (fun _ => ?_)
      · exact g_122 h
      · refine ite_z (fun _ => ?_) (fun _ => ?_)
        · exact g_147 h
        · refine ite_z (fun _ => ?_) (fun _ => ?_)
          · exact g_147 h
          · refine ite_z (fun _ => ?_) (fun _ => ?_)
            · exact g_147 h
            · exact g_158 h
theorem g_71 {σ : Sg} {x2 : Int32} {x3 : Int32} {x4 : Int32} (h : OV σ) : EG (f_Mod_readModrm_71 σ x2 x3 x4) := by
  unfold f_Mod_readModrm_71
  exact g_106 h
theorem g_96 {σ : Sg} {x2 : Int32} {x3 : Int32} {x4 : Int32} (h : OV σ) : EG (f_Mod_readModrm_96 σ x2 x3 x4) := by
  unfold f_Mod_readModrm_96
  exact g_106 h
theorem g_54 {σ : Sg} {x2 : Int32} {x3 : Int32} {y0 : Int32} (h : OV σ) : EG (f_Mod_readModrm_54 σ x2 x3 y0) := by
  unfold f_Mod_readModrm_54
  refine ite_z (fun _ => ?_) (fun _ => ?_)
  · exact g_71 h
  · refine ite_z (fun _ => ?_) (fun _ => ?_)
    · exact g_71 h
    · refine ite_z (fun _ => ?_) (fun _ => ?_)
      · exact g_71 h
      · refine ite_z (fun _ => ?_) (fun _ => ?_)
        · exact g_96 h
        · refine ite_z (fun _ => ?_) (fun _ => ?_)
          · exact g_96 h
          · refine ite_z (fun _ => ?_) (fun _ => ?_)
            · exact g_96 h
            · exact g_106 h
theorem g_53 {σ : Sg} {x2 : Int32} {x3 : Int32} (h : OV σ) : EG (f_Mod_readModrm_53 σ x2 x3) := by
  unfold f_Mod_readModrm_53
  exact g_54 h
theorem ek_36 {σ : Sg} {x2 x3 y0 : Int32} (h : OV σ) (hy : vp_in y0 8 ∨ y0 < 0) : EK (f_Mod_readModrm_36 σ x2 x3 y0) := by
  unfold f_Mod_readModrm_36
  refine bnd_z fun s1 e1 => ?_
  have h1 : OV s1 := by rw [← e1]; exact OVw (W := [(15, some 13)]) rfl _ _ _ _ (Or.inr (by decide)) h
  have hy : vp_in (s1 15 13) 8 ∨ s1 15 13 < 0 := by rw [← e1]; exact hy
  have k54 : ∀ z, EK (f_Mod_readModrm_54 s1 x2 x3 z) := fun z => by
    rcases hy with hy | hy
    · exact Or.inl (p_Mod_readModrm_54 (P := fun s => vp_in (s 15 13) 8) (WP_at (R := fun z => vp_in z 8) rfl) hy)
    · exact Or.inr ⟨p_Mod_readModrm_54 (P := fun s => s 15 13 < 0) (WP_at (R := fun z => z < 0) rfl) hy, g_54 h1⟩
  exact ite_z (fun _ => ite_z (fun _ => k54 _) (fun _ => k54 _)) (fun _ => k54 _)
theorem rm_EK {σ : Sg} (h : OV σ) : EK (f_Mod_readModrm σ) := by
  unfold f_Mod_readModrm
  refine bnd_zz (Z := PP OV) (p_Mod_next (P := OV) (OVw rfl) h) fun r1 e1 h1 => ?_
  refine bnd_zz (Z := OV) (OVw (W := [(15, some 12)]) rfl _ _ _ _ (Or.inr (by decide)) h1) fun s2 e2 h2 => ?_
  exact ite_z (fun _ => ek_36 h2 (Or.inl (pk_andIn _ 3 rfl (by decide)))) (fun _ => ek_36 h2 (Or.inr (by decide)))
theorem rm_MK {σ : Sg} : MK (f_Mod_readModrm σ) := by
  unfold f_Mod_readModrm
  refine bnd_z fun r1 e1 => ?_
  refine bnd_z fun s2 e2 => ?_
  have h2 : MK s2 := by rw [← e2]; exact (pk_andIn _ 3 rfl (by decide) : vp_in ((r1.1 >>> ((3 : Int32) &&& 31)) &&& 7) 8)
  exact ite_z (fun _ => p_Mod_readModrm_36 (P := MK) (MKw rfl) h2) (fun _ => p_Mod_readModrm_36 (P := MK) (MKw rfl) h2)
end
section
def I_Mod_getE_0 : List IT := [(0, .aload_n 0, 1, 0, 0, []), (1, .getfield 61, 3, 0, 0, []), (4, .ifCond .lt 15, 3, 0, 19, []), (7, .aload_n 0, 1, 0, 0, []), (8, .aload_n 0, 1, 0, 0, []), (9, .getfield 61, 3, 0, 0, []), (12, .iload_n 1, 1, 0, 0, []), (13, .invokevirtual 76, 3, 0, 0, []), (16, .goto 21, 3, 0, 37, [])]
theorem ok_Mod_getE_0 : blkOK b_Mod_getE pt_Mod 19 I_Mod_getE_0 = true := by decide +kernel
def I_Mod_getE_19 : List IT := [(19, .aload_n 0, 1, 0, 0, []), (20, .aload_n 0, 1, 0, 0, []), (21, .getfield 16, 3, 0, 0, []), (24, .aload_n 0, 1, 0, 0, []), (25, .getfield 73, 3, 0, 0, []), (28, .iaload, 1, 0, 0, []), (29, .aload_n 0, 1, 0, 0, []), (30, .getfield 67, 3, 0, 0, []), (33, .iload_n 1, 1, 0, 0, []), (34, .invokevirtual 80, 3, 0, 0, [])]
theorem ok_Mod_getE_19 : blkOK b_Mod_getE pt_Mod 37 I_Mod_getE_19 = true := by decide +kernel
def I_Mod_getE_37 : List IT := [(37, .ireturn, 1, 0, 0, [])]
theorem ok_Mod_getE_37 : blkOK b_Mod_getE pt_Mod 38 I_Mod_getE_37 = true := by decide +kernel
def f_Mod_getE (σ : Sg) (a1 : Int32) : Int32 × Sg := (if (σ 15 13) < (0 : Int32) then (bnd (f_Mod_get σ (σ 18 (Int32.toNatClampNeg (σ 15 15))) (σ 15 14) a1) fun r2 => (r2.1, r2.2)) else (bnd (f_Mod_getRegister σ (σ 15 13) a1) fun r3 => (r3.1, r3.2)))
abbrev w_Mod_getE : List (Nat × Option Nat) := []
theorem p_Mod_getE {P : Sg → Prop} (hP : WP w_Mod_getE P) {σ : Sg} {a1 : Int32} (h : P σ) : PP P (f_Mod_getE σ a1) := by
  unfold f_Mod_getE
  refine ite_z (fun _ => ?_) (fun _ => ?_)
  · refine bnd_zz (Z := PP P) (p_Mod_get (wsub hP rfl) h) fun r2 e2 q2 => ?_
    exact q2
  · refine bnd_zz (Z := PP P) (p_Mod_getRegister (wsub hP rfl) h) fun r3 e3 q3 => ?_
    exact q3
set_option maxRecDepth 100000 in
set_option maxHeartbeats 4000000 in
theorem s_Mod_getE {l : Launch} {ad : Nat → Nat} {D : va_G} {cI : ClassId} {σ : Sg} {a1 : Int32} {K : Option Value → Sg → Prop}  (EK0 : EK σ) (hK : KI K (f_Mod_getE σ a1)) : MetJ l ad D cI mi_Mod_getE [.ref 15, .int a1] σ K := by
  refine met_of mi_Mod_getE pt_Mod pt_Mod_in rfl pl_Mod rfl (Nat.le_of_ble_eq_true rfl) fun X hX => ?_
  have hX : Cl l ad D cI mi_Mod_getE pt_Mod K X := hX
  show X 0 [.ref 15, .int a1] [] σ
  unfold f_Mod_getE at hK
  refine hX.1 19 I_Mod_getE_0 ok_Mod_getE_0 _ _ _ ?_
  refine And.intro (fun h1 => ?_) (fun h1 => ?_)
  · have hK := ite_p hK h1
    refine hX.1 37 I_Mod_getE_19 ok_Mod_getE_19 _ _ _ ?_
    refine And.intro (EK_s EK0 h1) ?_
    refine s_Mod_get (bnd_g hK fun r2 e2 hK => ?_)
    refine hX.1 38 I_Mod_getE_37 ok_Mod_getE_37 _ _ _ ?_
    exact hK
  · have hK := ite_n hK h1
    refine s_Mod_getRegister (EK_r EK0 h1) (bnd_g hK fun r3 e3 hK => ?_)
    refine hX.1 38 I_Mod_getE_37 ok_Mod_getE_37 _ _ _ ?_
    exact hK
def I_Mod_setE_0 : List IT := [(0, .aload_n 0, 1, 0, 0, []), (1, .getfield 61, 3, 0, 0, []), (4, .ifCond .lt 16, 3, 0, 20, []), (7, .aload_n 0, 1, 0, 0, []), (8, .aload_n 0, 1, 0, 0, []), (9, .getfield 61, 3, 0, 0, []), (12, .iload_n 1, 1, 0, 0, []), (13, .iload_n 2, 1, 0, 0, []), (14, .invokevirtual 84, 3, 0, 0, []), (17, .goto 22, 3, 0, 39, [])]
theorem ok_Mod_setE_0 : blkOK b_Mod_setE pt_Mod 20 I_Mod_setE_0 = true := by decide +kernel
def I_Mod_setE_20 : List IT := [(20, .aload_n 0, 1, 0, 0, []), (21, .aload_n 0, 1, 0, 0, []), (22, .getfield 16, 3, 0, 0, []), (25, .aload_n 0, 1, 0, 0, []), (26, .getfield 73, 3, 0, 0, []), (29, .iaload, 1, 0, 0, []), (30, .aload_n 0, 1, 0, 0, []), (31, .getfield 67, 3, 0, 0, []), (34, .iload_n 1, 1, 0, 0, []), (35, .iload_n 2, 1, 0, 0, []), (36, .invokevirtual 88, 3, 0, 0, [])]
theorem ok_Mod_setE_20 : blkOK b_Mod_setE pt_Mod 39 I_Mod_setE_20 = true := by decide +kernel
def I_Mod_setE_39 : List IT := [(39, .return_, 1, 0, 0, [])]
theorem ok_Mod_setE_39 : blkOK b_Mod_setE pt_Mod 40 I_Mod_setE_39 = true := by decide +kernel
def f_Mod_setE (σ : Sg) (a1 : Int32) (a2 : Int32) : Sg := (if (σ 15 13) < (0 : Int32) then (bnd (f_Mod_set σ (σ 18 (Int32.toNatClampNeg (σ 15 15))) (σ 15 14) a1 a2) fun r2 => r2) else (bnd (f_Mod_setRegister σ (σ 15 13) a1 a2) fun r3 => r3))
abbrev w_Mod_setE : List (Nat × Option Nat) := [(16, none), (17, none)]
theorem p_Mod_setE {P : Sg → Prop} (hP : WP w_Mod_setE P) {σ : Sg} {a1 : Int32} {a2 : Int32} (h : P σ) : P (f_Mod_setE σ a1 a2) := by
  unfold f_Mod_setE
  refine ite_z (fun _ => ?_) (fun _ => ?_)
  · refine bnd_zz (Z := P) (p_Mod_set (wsub hP rfl) h) fun r2 e2 q2 => ?_
    exact q2
  · refine bnd_zz (Z := P) (p_Mod_setRegister (wsub hP rfl) h) fun r3 e3 q3 => ?_
    exact q3
set_option maxRecDepth 100000 in
set_option maxHeartbeats 4000000 in
theorem s_Mod_setE {l : Launch} {ad : Nat → Nat} {D : va_G} {cI : ClassId} {σ : Sg} {a1 : Int32} {a2 : Int32} {K : Option Value → Sg → Prop}  (EK0 : EK σ) (hK : KV K (f_Mod_setE σ a1 a2)) : MetJ l ad D cI mi_Mod_setE [.ref 15, .int a1, .int a2] σ K := by
  refine met_of mi_Mod_setE pt_Mod pt_Mod_in rfl pl_Mod rfl (Nat.le_of_ble_eq_true rfl) fun X hX => ?_
  have hX : Cl l ad D cI mi_Mod_setE pt_Mod K X := hX
  show X 0 [.ref 15, .int a1, .int a2] [] σ
  unfold f_Mod_setE at hK
  refine hX.1 20 I_Mod_setE_0 ok_Mod_setE_0 _ _ _ ?_
  refine And.intro (fun h1 => ?_) (fun h1 => ?_)
  · have hK := ite_p hK h1
    refine hX.1 39 I_Mod_setE_20 ok_Mod_setE_20 _ _ _ ?_
    refine And.intro (EK_s EK0 h1) ?_
    refine s_Mod_set (bnd_g hK fun r2 e2 hK => ?_)
    refine hX.1 40 I_Mod_setE_39 ok_Mod_setE_39 _ _ _ ?_
    exact hK
  · have hK := ite_n hK h1
    refine s_Mod_setRegister (EK_r EK0 h1) (bnd_g hK fun r3 e3 hK => ?_)
    refine hX.1 40 I_Mod_setE_39 ok_Mod_setE_39 _ _ _ ?_
    exact hK
def I_Mod_push_0 : List IT := [(0, .aload_n 0, 1, 0, 0, []), (1, .getfield 13, 3, 0, 0, []), (4, .iconst 4, 1, 4, 0, []), (5, .aload_n 0, 1, 0, 0, []), (6, .getfield 13, 3, 0, 0, []), (9, .iconst 4, 1, 4, 0, []), (10, .iaload, 1, 0, 0, []), (11, .iconst 2, 1, 2, 0, []), (12, .isub, 1, 0, 0, []), (13, .ldc 32, 2, 65535, 0, []), (15, .iand, 1, 0, 0, []), (16, .iastore, 1, 0, 0, []), (17, .aload_n 0, 1, 0, 0, []), (18, .aload_n 0, 1, 0, 0, []), (19, .getfield 16, 3, 0, 0, []), (22, .iconst 2, 1, 2, 0, []), (23, .iaload, 1, 0, 0, []), (24, .aload_n 0, 1, 0, 0, []), (25, .getfield 13, 3, 0, 0, []), (28, .iconst 4, 1, 4, 0, []), (29, .iaload, 1, 0, 0, []), (30, .iload_n 1, 1, 0, 0, []), (31, .invokevirtual 47, 3, 0, 0, []), (34, .return_, 1, 0, 0, [])]
theorem ok_Mod_push_0 : blkOK b_Mod_push pt_Mod 35 I_Mod_push_0 = true := by decide +kernel
def f_Mod_push (σ : Sg) (a1 : Int32) : Sg := (bnd (up2 σ 17 (Int32.toNatClampNeg (4 : Int32)) (((σ 17 (Int32.toNatClampNeg (4 : Int32))) - (2 : Int32)) &&& (65535 : Int32))) fun s1 => bnd (f_Mod_setWord s1 (s1 18 (Int32.toNatClampNeg (2 : Int32))) (s1 17 (Int32.toNatClampNeg (4 : Int32))) a1) fun r2 => r2)
abbrev w_Mod_push : List (Nat × Option Nat) := [(16, none), (17, none)]
theorem p_Mod_push {P : Sg → Prop} (hP : WP w_Mod_push P) {σ : Sg} {a1 : Int32} (h : P σ) : P (f_Mod_push σ a1) := by
  unfold f_Mod_push
  refine bnd_zz (Z := P) (hP _ _ _ _ (Or.inl (by decide)) h) fun s1 e1 q1 => ?_
  refine bnd_zz (Z := P) (p_Mod_setWord (wsub hP rfl) q1) fun r2 e2 q2 => ?_
  exact q2
set_option maxRecDepth 100000 in
set_option maxHeartbeats 4000000 in
theorem s_Mod_push {l : Launch} {ad : Nat → Nat} {D : va_G} {cI : ClassId} {σ : Sg} {a1 : Int32} {K : Option Value → Sg → Prop}   (hK : KV K (f_Mod_push σ a1)) : MetJ l ad D cI mi_Mod_push [.ref 15, .int a1] σ K := by
  refine met_of mi_Mod_push pt_Mod pt_Mod_in rfl pl_Mod rfl (Nat.le_of_ble_eq_true rfl) fun X hX => ?_
  have hX : Cl l ad D cI mi_Mod_push pt_Mod K X := hX
  show X 0 [.ref 15, .int a1] [] σ
  unfold f_Mod_push at hK
  refine hX.1 35 I_Mod_push_0 ok_Mod_push_0 _ _ _ ?_
  refine And.intro (vin (by decide)) ?_
  refine And.intro (vin (by decide)) (SG_g hK fun s1 e1 hK => ?_)
  refine And.intro (vin (by decide)) ?_
  refine And.intro (vin (by decide)) ?_
  refine s_Mod_setWord (bnd_g hK fun r2 e2 hK => ?_)
  exact hK
def I_Mod_pop_0 : List IT := [(0, .aload_n 0, 1, 0, 0, []), (1, .aload_n 0, 1, 0, 0, []), (2, .getfield 16, 3, 0, 0, []), (5, .iconst 2, 1, 2, 0, []), (6, .iaload, 1, 0, 0, []), (7, .aload_n 0, 1, 0, 0, []), (8, .getfield 13, 3, 0, 0, []), (11, .iconst 4, 1, 4, 0, []), (12, .iaload, 1, 0, 0, []), (13, .invokevirtual 44, 3, 0, 0, []), (16, .istore_n 1, 1, 0, 0, []), (17, .aload_n 0, 1, 0, 0, []), (18, .getfield 13, 3, 0, 0, []), (21, .iconst 4, 1, 4, 0, []), (22, .aload_n 0, 1, 0, 0, []), (23, .getfield 13, 3, 0, 0, []), (26, .iconst 4, 1, 4, 0, []), (27, .iaload, 1, 0, 0, []), (28, .iconst 2, 1, 2, 0, []), (29, .iadd, 1, 0, 0, []), (30, .ldc 32, 2, 65535, 0, []), (32, .iand, 1, 0, 0, []), (33, .iastore, 1, 0, 0, []), (34, .iload_n 1, 1, 0, 0, []), (35, .ireturn, 1, 0, 0, [])]
theorem ok_Mod_pop_0 : blkOK b_Mod_pop pt_Mod 36 I_Mod_pop_0 = true := by decide +kernel
def f_Mod_pop (σ : Sg)  : Int32 × Sg := (bnd (f_Mod_getWord σ (σ 18 (Int32.toNatClampNeg (2 : Int32))) (σ 17 (Int32.toNatClampNeg (4 : Int32)))) fun r1 => bnd (up2 r1.2 17 (Int32.toNatClampNeg (4 : Int32)) (((r1.2 17 (Int32.toNatClampNeg (4 : Int32))) + (2 : Int32)) &&& (65535 : Int32))) fun s2 => (r1.1, s2))
abbrev w_Mod_pop : List (Nat × Option Nat) := [(17, none)]
theorem p_Mod_pop {P : Sg → Prop} (hP : WP w_Mod_pop P) {σ : Sg}  (h : P σ) : PP P (f_Mod_pop σ ) := by
  unfold f_Mod_pop
  refine bnd_zz (Z := PP P) (p_Mod_getWord (wsub hP rfl) h) fun r1 e1 q1 => ?_
  refine bnd_zz (Z := P) (hP _ _ _ _ (Or.inl (by decide)) q1) fun s2 e2 q2 => ?_
  exact q2
set_option maxRecDepth 100000 in
set_option maxHeartbeats 4000000 in
theorem s_Mod_pop {l : Launch} {ad : Nat → Nat} {D : va_G} {cI : ClassId} {σ : Sg}  {K : Option Value → Sg → Prop}   (hK : KI K (f_Mod_pop σ )) : MetJ l ad D cI mi_Mod_pop [.ref 15] σ K := by
  refine met_of mi_Mod_pop pt_Mod pt_Mod_in rfl pl_Mod rfl (Nat.le_of_ble_eq_true rfl) fun X hX => ?_
  have hX : Cl l ad D cI mi_Mod_pop pt_Mod K X := hX
  show X 0 [.ref 15, .null] [] σ
  unfold f_Mod_pop at hK
  refine hX.1 36 I_Mod_pop_0 ok_Mod_pop_0 _ _ _ ?_
  refine And.intro (vin (by decide)) ?_
  refine And.intro (vin (by decide)) ?_
  refine s_Mod_getWord (bnd_g hK fun r1 e1 hK => ?_)
  refine And.intro (vin (by decide)) ?_
  refine And.intro (vin (by decide)) (SG_g hK fun s2 e2 hK => ?_)
  exact hK
def I_Mod_flag_0 : List IT := [(0, .aload_n 0, 1, 0, 0, []), (1, .iload_n 2, 1, 0, 0, []), (2, .ifCond .eq 12, 3, 0, 14, []), (5, .aload_n 0, 1, 0, 0, []), (6, .getfield 92, 3, 0, 0, []), (9, .iload_n 1, 1, 0, 0, []), (10, .ior, 1, 0, 0, []), (11, .goto 11, 3, 0, 22, [])]
theorem ok_Mod_flag_0 : blkOK b_Mod_flag pt_Mod 14 I_Mod_flag_0 = true := by decide +kernel
def I_Mod_flag_14 : List IT := [(14, .aload_n 0, 1, 0, 0, []), (15, .getfield 92, 3, 0, 0, []), (18, .iload_n 1, 1, 0, 0, []), (19, .iconst (-1), 1, (-1), 0, []), (20, .ixor, 1, 0, 0, []), (21, .iand, 1, 0, 0, [])]
theorem ok_Mod_flag_14 : blkOK b_Mod_flag pt_Mod 22 I_Mod_flag_14 = true := by decide +kernel
def I_Mod_flag_22 : List IT := [(22, .putfield 92, 3, 0, 0, []), (25, .return_, 1, 0, 0, [])]
theorem ok_Mod_flag_22 : blkOK b_Mod_flag pt_Mod 26 I_Mod_flag_22 = true := by decide +kernel
def f_Mod_flag (σ : Sg) (a1 : Int32) (a2 : Int32) : Sg := (if a2 = (0 : Int32) then (bnd (up2 σ 15 4 ((σ 15 4) &&& (a1 ^^^ (-1 : Int32)))) fun s2 => s2) else (bnd (up2 σ 15 4 ((σ 15 4) ||| a1)) fun s3 => s3))
abbrev w_Mod_flag : List (Nat × Option Nat) := [(15, some 4)]
theorem p_Mod_flag {P : Sg → Prop} (hP : WP w_Mod_flag P) {σ : Sg} {a1 : Int32} {a2 : Int32} (h : P σ) : P (f_Mod_flag σ a1 a2) := by
  unfold f_Mod_flag
  refine ite_z (fun _ => ?_) (fun _ => ?_)
  · refine bnd_zz (Z := P) (hP _ _ _ _ (Or.inr (by decide)) h) fun s2 e2 q2 => ?_
    exact q2
  · refine bnd_zz (Z := P) (hP _ _ _ _ (Or.inr (by decide)) h) fun s3 e3 q3 => ?_
    exact q3
set_option maxRecDepth 100000 in
set_option maxHeartbeats 4000000 in
theorem s_Mod_flag {l : Launch} {ad : Nat → Nat} {D : va_G} {cI : ClassId} {σ : Sg} {a1 : Int32} {a2 : Int32} {K : Option Value → Sg → Prop}   (hK : KV K (f_Mod_flag σ a1 a2)) : MetJ l ad D cI mi_Mod_flag [.ref 15, .int a1, .int a2] σ K := by
  refine met_of mi_Mod_flag pt_Mod pt_Mod_in rfl pl_Mod rfl (Nat.le_of_ble_eq_true rfl) fun X hX => ?_
  have hX : Cl l ad D cI mi_Mod_flag pt_Mod K X := hX
  show X 0 [.ref 15, .int a1, .int a2] [] σ
  unfold f_Mod_flag at hK
  refine hX.1 14 I_Mod_flag_0 ok_Mod_flag_0 _ _ _ ?_
  refine And.intro (fun h1 => ?_) (fun h1 => ?_)
  · have hK := ite_p hK h1
    refine hX.1 22 I_Mod_flag_14 ok_Mod_flag_14 _ _ _ ?_
    refine hX.1 26 I_Mod_flag_22 ok_Mod_flag_22 _ _ _ ?_
    refine And.intro trivial (SG_g hK fun s2 e2 hK => ?_)
    exact hK
  · have hK := ite_n hK h1
    refine hX.1 26 I_Mod_flag_22 ok_Mod_flag_22 _ _ _ ?_
    refine And.intro trivial (SG_g hK fun s3 e3 hK => ?_)
    exact hK
end
section
def I_Mod_is_0 : List IT := [(0, .aload_n 0, 1, 0, 0, []), (1, .getfield 92, 3, 0, 0, []), (4, .iload_n 1, 1, 0, 0, []), (5, .iand, 1, 0, 0, []), (6, .ifCond .eq 7, 3, 0, 13, []), (9, .iconst 1, 1, 1, 0, []), (10, .goto 4, 3, 0, 14, [])]
theorem ok_Mod_is_0 : blkOK b_Mod_is pt_Mod 13 I_Mod_is_0 = true := by decide +kernel
def I_Mod_is_13 : List IT := [(13, .iconst 0, 1, 0, 0, [])]
theorem ok_Mod_is_13 : blkOK b_Mod_is pt_Mod 14 I_Mod_is_13 = true := by decide +kernel
def I_Mod_is_14 : List IT := [(14, .ireturn, 1, 0, 0, [])]
theorem ok_Mod_is_14 : blkOK b_Mod_is pt_Mod 15 I_Mod_is_14 = true := by decide +kernel
def f_Mod_is (σ : Sg) (a1 : Int32) : Int32 × Sg := (if ((σ 15 4) &&& a1) = (0 : Int32) then ((0 : Int32), σ) else ((1 : Int32), σ))
theorem z_Mod_is {σ : Sg} {a1 : Int32}   : (f_Mod_is σ a1).1 = 0 ∨ (f_Mod_is σ a1).1 = 1 := by
  show Zb (f_Mod_is σ a1)
  unfold f_Mod_is
  refine ite_z (fun h1 => ?_) (fun h1 => ?_)
  · exact (Or.inl rfl)
  · exact (Or.inr rfl)
abbrev w_Mod_is : List (Nat × Option Nat) := []
theorem p_Mod_is {P : Sg → Prop} (hP : WP w_Mod_is P) {σ : Sg} {a1 : Int32} (h : P σ) : PP P (f_Mod_is σ a1) := by
  unfold f_Mod_is
  refine ite_z (fun _ => ?_) (fun _ => ?_)
  · exact h
  · exact h
set_option maxRecDepth 100000 in
set_option maxHeartbeats 4000000 in
theorem s_Mod_is {l : Launch} {ad : Nat → Nat} {D : va_G} {cI : ClassId} {σ : Sg} {a1 : Int32} {K : Option Value → Sg → Prop}   (hK : KI K (f_Mod_is σ a1)) : MetJ l ad D cI mi_Mod_is [.ref 15, .int a1] σ K := by
  refine met_of mi_Mod_is pt_Mod pt_Mod_in rfl pl_Mod rfl (Nat.le_of_ble_eq_true rfl) fun X hX => ?_
  have hX : Cl l ad D cI mi_Mod_is pt_Mod K X := hX
  show X 0 [.ref 15, .int a1] [] σ
  unfold f_Mod_is at hK
  refine hX.1 13 I_Mod_is_0 ok_Mod_is_0 _ _ _ ?_
  refine And.intro (fun h1 => ?_) (fun h1 => ?_)
  · have hK := ite_p hK h1
    refine hX.1 14 I_Mod_is_13 ok_Mod_is_13 _ _ _ ?_
    refine hX.1 15 I_Mod_is_14 ok_Mod_is_14 _ _ _ ?_
    exact And.intro (Or.inl rfl) hK
  · have hK := ite_n hK h1
    refine hX.1 15 I_Mod_is_14 ok_Mod_is_14 _ _ _ ?_
    exact And.intro (Or.inr rfl) hK
def I_Mod_zeroAndSign_0 : List IT := [(0, .aload_n 0, 1, 0, 0, []), (1, .bipush 64, 2, 64, 0, []), (3, .iload_n 1, 1, 0, 0, []), (4, .iload_n 2, 1, 0, 0, []), (5, .ifCond .eq 8, 3, 0, 13, []), (8, .ldc 32, 2, 65535, 0, []), (10, .goto 6, 3, 0, 16, [])]
theorem ok_Mod_zeroAndSign_0 : blkOK b_Mod_zeroAndSign pt_Mod 13 I_Mod_zeroAndSign_0 = true := by decide +kernel
def I_Mod_zeroAndSign_13 : List IT := [(13, .sipush 255, 3, 255, 0, [])]
theorem ok_Mod_zeroAndSign_13 : blkOK b_Mod_zeroAndSign pt_Mod 16 I_Mod_zeroAndSign_13 = true := by decide +kernel
def I_Mod_zeroAndSign_16 : List IT := [(16, .iand, 1, 0, 0, []), (17, .ifCond .ne 7, 3, 0, 24, []), (20, .iconst 1, 1, 1, 0, []), (21, .goto 4, 3, 0, 25, [])]
theorem ok_Mod_zeroAndSign_16 : blkOK b_Mod_zeroAndSign pt_Mod 24 I_Mod_zeroAndSign_16 = true := by decide +kernel
def I_Mod_zeroAndSign_24 : List IT := [(24, .iconst 0, 1, 0, 0, [])]
theorem ok_Mod_zeroAndSign_24 : blkOK b_Mod_zeroAndSign pt_Mod 25 I_Mod_zeroAndSign_24 = true := by decide +kernel
def I_Mod_zeroAndSign_25 : List IT := [(25, .invokevirtual 95, 3, 0, 0, []), (28, .aload_n 0, 1, 0, 0, []), (29, .sipush 128, 3, 128, 0, []), (32, .iload_n 1, 1, 0, 0, []), (33, .iload_n 2, 1, 0, 0, []), (34, .ifCond .eq 8, 3, 0, 42, []), (37, .ldc 99, 2, 32768, 0, []), (39, .goto 6, 3, 0, 45, [])]
theorem ok_Mod_zeroAndSign_25 : blkOK b_Mod_zeroAndSign pt_Mod 42 I_Mod_zeroAndSign_25 = true := by decide +kernel
def I_Mod_zeroAndSign_42 : List IT := [(42, .sipush 128, 3, 128, 0, [])]
theorem ok_Mod_zeroAndSign_42 : blkOK b_Mod_zeroAndSign pt_Mod 45 I_Mod_zeroAndSign_42 = true := by decide +kernel
def I_Mod_zeroAndSign_45 : List IT := [(45, .iand, 1, 0, 0, []), (46, .ifCond .eq 7, 3, 0, 53, []), (49, .iconst 1, 1, 1, 0, []), (50, .goto 4, 3, 0, 54, [])]
theorem ok_Mod_zeroAndSign_45 : blkOK b_Mod_zeroAndSign pt_Mod 53 I_Mod_zeroAndSign_45 = true := by decide +kernel
def I_Mod_zeroAndSign_53 : List IT := [(53, .iconst 0, 1, 0, 0, [])]
theorem ok_Mod_zeroAndSign_53 : blkOK b_Mod_zeroAndSign pt_Mod 54 I_Mod_zeroAndSign_53 = true := by decide +kernel
def I_Mod_zeroAndSign_54 : List IT := [(54, .invokevirtual 95, 3, 0, 0, []), (57, .return_, 1, 0, 0, [])]
theorem ok_Mod_zeroAndSign_54 : blkOK b_Mod_zeroAndSign pt_Mod 58 I_Mod_zeroAndSign_54 = true := by decide +kernel
def f_Mod_zeroAndSign_54 (σ : Sg) (y0 : Int32) (y1 : Int32) : Sg := (bnd (f_Mod_flag σ y1 y0) fun r1 => r1)
abbrev w_Mod_zeroAndSign_54 : List (Nat × Option Nat) := [(15, some 4)]
theorem p_Mod_zeroAndSign_54 {P : Sg → Prop} (hP : WP w_Mod_zeroAndSign_54 P) {σ : Sg} {y0 : Int32} {y1 : Int32} (h : P σ) : P (f_Mod_zeroAndSign_54 σ y0 y1) := by
  unfold f_Mod_zeroAndSign_54
  refine bnd_zz (Z := P) (p_Mod_flag (wsub hP rfl) h) fun r1 e1 q1 => ?_
  exact q1
set_option maxRecDepth 100000 in
set_option maxHeartbeats 4000000 in
theorem b_Mod_zeroAndSign_54 {l : Launch} {ad : Nat → Nat} {D : va_G} {cI : ClassId} {K : Option Value → Sg → Prop} {X : Nat → List Value → List Value → Sg → Prop} (hX : Cl l ad D cI mi_Mod_zeroAndSign pt_Mod K X) {σ : Sg} {y0 : Int32} {y1 : Int32} (z_y0 : y0 = 0 ∨ y0 = 1)  (hK : KV K (f_Mod_zeroAndSign_54 σ y0 y1)) : X 54 [.null, .null, .null] [.int y0, .int y1, .ref 15] σ := by
  unfold f_Mod_zeroAndSign_54 at hK
  refine hX.1 58 I_Mod_zeroAndSign_54 ok_Mod_zeroAndSign_54 _ _ _ ?_
  refine s_Mod_flag (bnd_g hK fun r1 e1 hK => ?_)
  exact hK
def f_Mod_zeroAndSign_45 (σ : Sg) (y0 : Int32) (y1 : Int32) (y2 : Int32) : Sg := (if (y1 &&& y0) = (0 : Int32) then (f_Mod_zeroAndSign_54 σ (0 : Int32) y2) else (f_Mod_zeroAndSign_54 σ (1 : Int32) y2))
abbrev w_Mod_zeroAndSign_45 : List (Nat × Option Nat) := [(15, some 4)]
theorem p_Mod_zeroAndSign_45 {P : Sg → Prop} (hP : WP w_Mod_zeroAndSign_45 P) {σ : Sg} {y0 : Int32} {y1 : Int32} {y2 : Int32} (h : P σ) : P (f_Mod_zeroAndSign_45 σ y0 y1 y2) := by
  unfold f_Mod_zeroAndSign_45
  refine ite_z (fun _ => ?_) (fun _ => ?_)
  · exact p_Mod_zeroAndSign_54 (wsub hP rfl) h
  · exact p_Mod_zeroAndSign_54 (wsub hP rfl) h
set_option maxRecDepth 100000 in
set_option maxHeartbeats 4000000 in
theorem b_Mod_zeroAndSign_45 {l : Launch} {ad : Nat → Nat} {D : va_G} {cI : ClassId} {K : Option Value → Sg → Prop} {X : Nat → List Value → List Value → Sg → Prop} (hX : Cl l ad D cI mi_Mod_zeroAndSign pt_Mod K X) {σ : Sg} {y0 : Int32} {y1 : Int32} {y2 : Int32}   (hK : KV K (f_Mod_zeroAndSign_45 σ y0 y1 y2)) : X 45 [.null, .null, .null] [.int y0, .int y1, .int y2, .ref 15] σ := by
  unfold f_Mod_zeroAndSign_45 at hK
  refine hX.1 53 I_Mod_zeroAndSign_45 ok_Mod_zeroAndSign_45 _ _ _ ?_
  refine And.intro (fun h1 => ?_) (fun h1 => ?_)
  · have hK := ite_p hK h1
    refine hX.1 54 I_Mod_zeroAndSign_53 ok_Mod_zeroAndSign_53 _ _ _ ?_
    exact b_Mod_zeroAndSign_54 hX (Or.inl rfl)  hK
  · have hK := ite_n hK h1
    exact b_Mod_zeroAndSign_54 hX (Or.inr rfl)  hK
def f_Mod_zeroAndSign_25 (σ : Sg) (x1 : Int32) (x2 : Int32) (y0 : Int32) (y1 : Int32) : Sg := (bnd (f_Mod_flag σ y1 y0) fun r1 => (if x2 = (0 : Int32) then (f_Mod_zeroAndSign_45 r1 (128 : Int32) x1 (128 : Int32)) else (f_Mod_zeroAndSign_45 r1 (32768 : Int32) x1 (128 : Int32))))
abbrev w_Mod_zeroAndSign_25 : List (Nat × Option Nat) := [(15, some 4)]
theorem p_Mod_zeroAndSign_25 {P : Sg → Prop} (hP : WP w_Mod_zeroAndSign_25 P) {σ : Sg} {x1 : Int32} {x2 : Int32} {y0 : Int32} {y1 : Int32} (h : P σ) : P (f_Mod_zeroAndSign_25 σ x1 x2 y0 y1) := by
  unfold f_Mod_zeroAndSign_25
  refine bnd_zz (Z := P) (p_Mod_flag (wsub hP rfl) h) fun r1 e1 q1 => ?_
  refine ite_z (fun _ => ?_) (fun _ => ?_)
  · exact p_Mod_zeroAndSign_45 (wsub hP rfl) q1
  · exact p_Mod_zeroAndSign_45 (wsub hP rfl) q1
set_option maxRecDepth 100000 in
set_option maxHeartbeats 4000000 in
theorem b_Mod_zeroAndSign_25 {l : Launch} {ad : Nat → Nat} {D : va_G} {cI : ClassId} {K : Option Value → Sg → Prop} {X : Nat → List Value → List Value → Sg → Prop} (hX : Cl l ad D cI mi_Mod_zeroAndSign pt_Mod K X) {σ : Sg} {x1 : Int32} {x2 : Int32} {y0 : Int32} {y1 : Int32} (z_y0 : y0 = 0 ∨ y0 = 1)  (hK : KV K (f_Mod_zeroAndSign_25 σ x1 x2 y0 y1)) : X 25 [.ref 15, .int x1, .int x2] [.int y0, .int y1, .ref 15] σ := by
  unfold f_Mod_zeroAndSign_25 at hK
  refine hX.1 42 I_Mod_zeroAndSign_25 ok_Mod_zeroAndSign_25 _ _ _ ?_
  refine s_Mod_flag (bnd_g hK fun r1 e1 hK => ?_)
  refine And.intro (fun h2 => ?_) (fun h2 => ?_)
  · have hK := ite_p hK h2
    refine hX.1 45 I_Mod_zeroAndSign_42 ok_Mod_zeroAndSign_42 _ _ _ ?_
    refine hX.fg [0, 1, 2] ?_
    exact b_Mod_zeroAndSign_45 hX  hK
  · have hK := ite_n hK h2
    refine hX.fg [0, 1, 2] ?_
    exact b_Mod_zeroAndSign_45 hX  hK
def f_Mod_zeroAndSign_16 (σ : Sg) (x1 : Int32) (x2 : Int32) (y0 : Int32) (y1 : Int32) (y2 : Int32) : Sg := (if (y1 &&& y0) = (0 : Int32) then (f_Mod_zeroAndSign_25 σ x1 x2 (1 : Int32) y2) else (f_Mod_zeroAndSign_25 σ x1 x2 (0 : Int32) y2))
abbrev w_Mod_zeroAndSign_16 : List (Nat × Option Nat) := [(15, some 4)]
theorem p_Mod_zeroAndSign_16 {P : Sg → Prop} (hP : WP w_Mod_zeroAndSign_16 P) {σ : Sg} {x1 : Int32} {x2 : Int32} {y0 : Int32} {y1 : Int32} {y2 : Int32} (h : P σ) : P (f_Mod_zeroAndSign_16 σ x1 x2 y0 y1 y2) := by
  unfold f_Mod_zeroAndSign_16
  refine ite_z (fun _ => ?_) (fun _ => ?_)
  · exact p_Mod_zeroAndSign_25 (wsub hP rfl) h
  · exact p_Mod_zeroAndSign_25 (wsub hP rfl) h
set_option maxRecDepth 100000 in
set_option maxHeartbeats 4000000 in
theorem b_Mod_zeroAndSign_16 {l : Launch} {ad : Nat → Nat} {D : va_G} {cI : ClassId} {K : Option Value → Sg → Prop} {X : Nat → List Value → List Value → Sg → Prop} (hX : Cl l ad D cI mi_Mod_zeroAndSign pt_Mod K X) {σ : Sg} {x1 : Int32} {x2 : Int32} {y0 : Int32} {y1 : Int32} {y2 : Int32}   (hK : KV K (f_Mod_zeroAndSign_16 σ x1 x2 y0 y1 y2)) : X 16 [.ref 15, .int x1, .int x2] [.int y0, .int y1, .int y2, .ref 15] σ := by
  unfold f_Mod_zeroAndSign_16 at hK
  refine hX.1 24 I_Mod_zeroAndSign_16 ok_Mod_zeroAndSign_16 _ _ _ ?_
  refine And.intro (fun h1 => ?_) (fun h1 => ?_)
  · have hK := ite_p hK h1
    exact b_Mod_zeroAndSign_25 hX (Or.inr rfl)  hK
  · have hK := ite_n hK h1
    refine hX.1 25 I_Mod_zeroAndSign_24 ok_Mod_zeroAndSign_24 _ _ _ ?_
    exact b_Mod_zeroAndSign_25 hX (Or.inl rfl)  hK
def f_Mod_zeroAndSign (σ : Sg) (a1 : Int32) (a2 : Int32) : Sg := (if a2 = (0 : Int32) then (f_Mod_zeroAndSign_16 σ a1 a2 (255 : Int32) a1 (64 : Int32)) else (f_Mod_zeroAndSign_16 σ a1 a2 (65535 : Int32) a1 (64 : Int32)))
abbrev w_Mod_zeroAndSign : List (Nat × Option Nat) := [(15, some 4)]
theorem p_Mod_zeroAndSign {P : Sg → Prop} (hP : WP w_Mod_zeroAndSign P) {σ : Sg} {a1 : Int32} {a2 : Int32} (h : P σ) : P (f_Mod_zeroAndSign σ a1 a2) := by
  unfold f_Mod_zeroAndSign
  refine ite_z (fun _ => ?_) (fun _ => ?_)
  · exact p_Mod_zeroAndSign_16 (wsub hP rfl) h
  · exact p_Mod_zeroAndSign_16 (wsub hP rfl) h
set_option maxRecDepth 100000 in
set_option maxHeartbeats 4000000 in
theorem s_Mod_zeroAndSign {l : Launch} {ad : Nat → Nat} {D : va_G} {cI : ClassId} {σ : Sg} {a1 : Int32} {a2 : Int32} {K : Option Value → Sg → Prop}   (hK : KV K (f_Mod_zeroAndSign σ a1 a2)) : MetJ l ad D cI mi_Mod_zeroAndSign [.ref 15, .int a1, .int a2] σ K := by
  refine met_of mi_Mod_zeroAndSign pt_Mod pt_Mod_in rfl pl_Mod rfl (Nat.le_of_ble_eq_true rfl) fun X hX => ?_
  have hX : Cl l ad D cI mi_Mod_zeroAndSign pt_Mod K X := hX
  show X 0 [.ref 15, .int a1, .int a2] [] σ
  unfold f_Mod_zeroAndSign at hK
  refine hX.1 13 I_Mod_zeroAndSign_0 ok_Mod_zeroAndSign_0 _ _ _ ?_
  refine And.intro (fun h1 => ?_) (fun h1 => ?_)
  · have hK := ite_p hK h1
    refine hX.1 16 I_Mod_zeroAndSign_13 ok_Mod_zeroAndSign_13 _ _ _ ?_
    exact b_Mod_zeroAndSign_16 hX  hK
  · have hK := ite_n hK h1
    exact b_Mod_zeroAndSign_16 hX  hK
def I_Mod_signed_0 : List IT := [(0, .iload_n 1, 1, 0, 0, []), (1, .ifCond .eq 13, 3, 0, 14, []), (4, .iload_n 0, 1, 0, 0, []), (5, .ldc 99, 2, 32768, 0, []), (7, .ixor, 1, 0, 0, []), (8, .ldc 99, 2, 32768, 0, []), (10, .isub, 1, 0, 0, []), (11, .goto 12, 3, 0, 23, [])]
theorem ok_Mod_signed_0 : blkOK b_Mod_signed pt_Mod 14 I_Mod_signed_0 = true := by decide +kernel
def I_Mod_signed_14 : List IT := [(14, .iload_n 0, 1, 0, 0, []), (15, .sipush 128, 3, 128, 0, []), (18, .ixor, 1, 0, 0, []), (19, .sipush 128, 3, 128, 0, []), (22, .isub, 1, 0, 0, [])]
theorem ok_Mod_signed_14 : blkOK b_Mod_signed pt_Mod 23 I_Mod_signed_14 = true := by decide +kernel
def I_Mod_signed_23 : List IT := [(23, .ireturn, 1, 0, 0, [])]
theorem ok_Mod_signed_23 : blkOK b_Mod_signed pt_Mod 24 I_Mod_signed_23 = true := by decide +kernel
def f_Mod_signed (σ : Sg) (a1 : Int32) (a2 : Int32) : Int32 × Sg := (if a2 = (0 : Int32) then (((a1 ^^^ (128 : Int32)) - (128 : Int32)), σ) else (((a1 ^^^ (32768 : Int32)) - (32768 : Int32)), σ))
abbrev w_Mod_signed : List (Nat × Option Nat) := []
theorem p_Mod_signed {P : Sg → Prop} (hP : WP w_Mod_signed P) {σ : Sg} {a1 : Int32} {a2 : Int32} (h : P σ) : PP P (f_Mod_signed σ a1 a2) := by
  unfold f_Mod_signed
  refine ite_z (fun _ => ?_) (fun _ => ?_)
  · exact h
  · exact h
set_option maxRecDepth 100000 in
set_option maxHeartbeats 4000000 in
theorem s_Mod_signed {l : Launch} {ad : Nat → Nat} {D : va_G} {cI : ClassId} {σ : Sg} {a1 : Int32} {a2 : Int32} {K : Option Value → Sg → Prop}   (hK : KI K (f_Mod_signed σ a1 a2)) : MetJ l ad D cI mi_Mod_signed [.int a1, .int a2] σ K := by
  refine met_of mi_Mod_signed pt_Mod pt_Mod_in rfl pl_Mod rfl (Nat.le_of_ble_eq_true rfl) fun X hX => ?_
  have hX : Cl l ad D cI mi_Mod_signed pt_Mod K X := hX
  show X 0 [.int a1, .int a2] [] σ
  unfold f_Mod_signed at hK
  refine hX.1 14 I_Mod_signed_0 ok_Mod_signed_0 _ _ _ ?_
  refine And.intro (fun h1 => ?_) (fun h1 => ?_)
  · have hK := ite_p hK h1
    refine hX.1 23 I_Mod_signed_14 ok_Mod_signed_14 _ _ _ ?_
    refine hX.1 24 I_Mod_signed_23 ok_Mod_signed_23 _ _ _ ?_
    exact hK
  · have hK := ite_n hK h1
    refine hX.1 24 I_Mod_signed_23 ok_Mod_signed_23 _ _ _ ?_
    exact hK
def I_Mod_hasRoom_0 : List IT := [(0, .iload_n 1, 1, 0, 0, []), (1, .ifCond .eq 16, 3, 0, 17, []), (4, .iload_n 0, 1, 0, 0, []), (5, .sipush (-32768), 3, (-32768), 0, []), (8, .sipush 32767, 3, 32767, 0, []), (11, .invokestatic 100, 3, 0, 0, []), (14, .goto 11, 3, 0, 25, [])]
theorem ok_Mod_hasRoom_0 : blkOK b_Mod_hasRoom pt_Mod 17 I_Mod_hasRoom_0 = true := by decide +kernel
def I_Mod_hasRoom_17 : List IT := [(17, .iload_n 0, 1, 0, 0, []), (18, .bipush (-128), 2, (-128), 0, []), (20, .bipush 127, 2, 127, 0, []), (22, .invokestatic 100, 3, 0, 0, [])]
theorem ok_Mod_hasRoom_17 : blkOK b_Mod_hasRoom pt_Mod 25 I_Mod_hasRoom_17 = true := by decide +kernel
def I_Mod_hasRoom_25 : List IT := [(25, .ireturn, 1, 0, 0, [])]
theorem ok_Mod_hasRoom_25 : blkOK b_Mod_hasRoom pt_Mod 26 I_Mod_hasRoom_25 = true := by decide +kernel
def f_Mod_hasRoom (σ : Sg) (a1 : Int32) (a2 : Int32) : Int32 × Sg := (if a2 = (0 : Int32) then (bnd (f_Mod_in σ a1 (-128 : Int32) (127 : Int32)) fun r2 => (r2.1, r2.2)) else (bnd (f_Mod_in σ a1 (-32768 : Int32) (32767 : Int32)) fun r3 => (r3.1, r3.2)))
theorem z_Mod_hasRoom {σ : Sg} {a1 : Int32} {a2 : Int32}   : (f_Mod_hasRoom σ a1 a2).1 = 0 ∨ (f_Mod_hasRoom σ a1 a2).1 = 1 := by
  show Zb (f_Mod_hasRoom σ a1 a2)
  unfold f_Mod_hasRoom
  refine ite_z (fun h1 => ?_) (fun h1 => ?_)
  · refine bnd_zz (Z := Zb) (z_Mod_in) fun r2 e2 z2 => ?_
    exact z2
  · refine bnd_zz (Z := Zb) (z_Mod_in) fun r3 e3 z3 => ?_
    exact z3
abbrev w_Mod_hasRoom : List (Nat × Option Nat) := []
theorem p_Mod_hasRoom {P : Sg → Prop} (hP : WP w_Mod_hasRoom P) {σ : Sg} {a1 : Int32} {a2 : Int32} (h : P σ) : PP P (f_Mod_hasRoom σ a1 a2) := by
  unfold f_Mod_hasRoom
  refine ite_z (fun _ => ?_) (fun _ => ?_)
  · refine bnd_zz (Z := PP P) (p_Mod_in (wsub hP rfl) h) fun r2 e2 q2 => ?_
    exact q2
  · refine bnd_zz (Z := PP P) (p_Mod_in (wsub hP rfl) h) fun r3 e3 q3 => ?_
    exact q3
set_option maxRecDepth 100000 in
set_option maxHeartbeats 4000000 in
theorem s_Mod_hasRoom {l : Launch} {ad : Nat → Nat} {D : va_G} {cI : ClassId} {σ : Sg} {a1 : Int32} {a2 : Int32} {K : Option Value → Sg → Prop}   (hK : KI K (f_Mod_hasRoom σ a1 a2)) : MetJ l ad D cI mi_Mod_hasRoom [.int a1, .int a2] σ K := by
  refine met_of mi_Mod_hasRoom pt_Mod pt_Mod_in rfl pl_Mod rfl (Nat.le_of_ble_eq_true rfl) fun X hX => ?_
  have hX : Cl l ad D cI mi_Mod_hasRoom pt_Mod K X := hX
  show X 0 [.int a1, .int a2] [] σ
  unfold f_Mod_hasRoom at hK
  refine hX.1 17 I_Mod_hasRoom_0 ok_Mod_hasRoom_0 _ _ _ ?_
  refine And.intro (fun h1 => ?_) (fun h1 => ?_)
  · have hK := ite_p hK h1
    refine hX.1 25 I_Mod_hasRoom_17 ok_Mod_hasRoom_17 _ _ _ ?_
    refine s_Mod_in (bnd_g hK fun r2 e2 hK => ?_)
    have z2 : r2.1 = 0 ∨ r2.1 = 1 := by rw [← e2]; exact z_Mod_in
    refine hX.1 26 I_Mod_hasRoom_25 ok_Mod_hasRoom_25 _ _ _ ?_
    exact And.intro z2 hK
  · have hK := ite_n hK h1
    refine s_Mod_in (bnd_g hK fun r3 e3 hK => ?_)
    have z3 : r3.1 = 0 ∨ r3.1 = 1 := by rw [← e3]; exact z_Mod_in
    refine hX.1 26 I_Mod_hasRoom_25 ok_Mod_hasRoom_25 _ _ _ ?_
    exact And.intro z3 hK
def I_Mod_plus_0 : List IT := [(0, .iload_n 1, 1, 0, 0, []), (1, .iload_n 2, 1, 0, 0, []), (2, .iadd, 1, 0, 0, []), (3, .iload_n 3, 1, 0, 0, []), (4, .iadd, 1, 0, 0, []), (5, .istore 5, 2, 0, 0, []), (7, .aload_n 0, 1, 0, 0, []), (8, .iconst 1, 1, 1, 0, []), (9, .iload 5, 2, 0, 0, []), (11, .iload 4, 2, 0, 0, []), (13, .ifCond .eq 8, 3, 0, 21, []), (16, .ldc 32, 2, 65535, 0, []), (18, .goto 6, 3, 0, 24, [])]
theorem ok_Mod_plus_0 : blkOK b_Mod_plus pt_Mod 21 I_Mod_plus_0 = true := by decide +kernel
def I_Mod_plus_21 : List IT := [(21, .sipush 255, 3, 255, 0, [])]
theorem ok_Mod_plus_21 : blkOK b_Mod_plus pt_Mod 24 I_Mod_plus_21 = true := by decide +kernel
def I_Mod_plus_24 : List IT := [(24, .if_icmp .le 7, 3, 0, 31, []), (27, .iconst 1, 1, 1, 0, []), (28, .goto 4, 3, 0, 32, [])]
theorem ok_Mod_plus_24 : blkOK b_Mod_plus pt_Mod 31 I_Mod_plus_24 = true := by decide +kernel
def I_Mod_plus_31 : List IT := [(31, .iconst 0, 1, 0, 0, [])]
theorem ok_Mod_plus_31 : blkOK b_Mod_plus pt_Mod 32 I_Mod_plus_31 = true := by decide +kernel
def I_Mod_plus_32 : List IT := [(32, .invokevirtual 95, 3, 0, 0, []), (35, .aload_n 0, 1, 0, 0, []), (36, .sipush 2048, 3, 2048, 0, []), (39, .iload_n 1, 1, 0, 0, []), (40, .iload 4, 2, 0, 0, []), (42, .invokestatic 104, 3, 0, 0, []), (45, .iload_n 2, 1, 0, 0, []), (46, .iload 4, 2, 0, 0, []), (48, .invokestatic 104, 3, 0, 0, []), (51, .iadd, 1, 0, 0, []), (52, .iload_n 3, 1, 0, 0, []), (53, .iadd, 1, 0, 0, []), (54, .iload 4, 2, 0, 0, []), (56, .invokestatic 107, 3, 0, 0, []), (59, .ifCond .ne 7, 3, 0, 66, []), (62, .iconst 1, 1, 1, 0, []), (63, .goto 4, 3, 0, 67, [])]
theorem ok_Mod_plus_32 : blkOK b_Mod_plus pt_Mod 66 I_Mod_plus_32 = true := by decide +kernel
def I_Mod_plus_66 : List IT := [(66, .iconst 0, 1, 0, 0, [])]
theorem ok_Mod_plus_66 : blkOK b_Mod_plus pt_Mod 67 I_Mod_plus_66 = true := by decide +kernel
def I_Mod_plus_67 : List IT := [(67, .invokevirtual 95, 3, 0, 0, []), (70, .aload_n 0, 1, 0, 0, []), (71, .iload 5, 2, 0, 0, []), (73, .iload 4, 2, 0, 0, []), (75, .invokevirtual 111, 3, 0, 0, []), (78, .iload 5, 2, 0, 0, []), (80, .iload 4, 2, 0, 0, []), (82, .ifCond .eq 8, 3, 0, 90, []), (85, .ldc 32, 2, 65535, 0, []), (87, .goto 6, 3, 0, 93, [])]
theorem ok_Mod_plus_67 : blkOK b_Mod_plus pt_Mod 90 I_Mod_plus_67 = true := by decide +kernel
def I_Mod_plus_90 : List IT := [(90, .sipush 255, 3, 255, 0, [])]
theorem ok_Mod_plus_90 : blkOK b_Mod_plus pt_Mod 93 I_Mod_plus_90 = true := by decide +kernel
def I_Mod_plus_93 : List IT := [(93, .iand, 1, 0, 0, []), (94, .ireturn, 1, 0, 0, [])]
theorem ok_Mod_plus_93 : blkOK b_Mod_plus pt_Mod 95 I_Mod_plus_93 = true := by decide +kernel
def f_Mod_plus_67 (σ : Sg) (x4 : Int32) (x5 : Int32) (y0 : Int32) (y1 : Int32) : Int32 × Sg := (bnd (f_Mod_flag σ y1 y0) fun r1 => bnd (f_Mod_zeroAndSign r1 x5 x4) fun r2 => (if x4 = (0 : Int32) then ((x5 &&& (255 : Int32)), r2) else ((x5 &&& (65535 : Int32)), r2)))
abbrev w_Mod_plus_67 : List (Nat × Option Nat) := [(15, some 4)]
theorem p_Mod_plus_67 {P : Sg → Prop} (hP : WP w_Mod_plus_67 P) {σ : Sg} {x4 : Int32} {x5 : Int32} {y0 : Int32} {y1 : Int32} (h : P σ) : PP P (f_Mod_plus_67 σ x4 x5 y0 y1) := by
  unfold f_Mod_plus_67
  refine bnd_zz (Z := P) (p_Mod_flag (wsub hP rfl) h) fun r1 e1 q1 => ?_
  refine bnd_zz (Z := P) (p_Mod_zeroAndSign (wsub hP rfl) q1) fun r2 e2 q2 => ?_
  refine ite_z (fun _ => ?_) (fun _ => ?_)
  · exact q2
  · exact q2
set_option maxRecDepth 100000 in
set_option maxHeartbeats 4000000 in
theorem b_Mod_plus_67 {l : Launch} {ad : Nat → Nat} {D : va_G} {cI : ClassId} {K : Option Value → Sg → Prop} {X : Nat → List Value → List Value → Sg → Prop} (hX : Cl l ad D cI mi_Mod_plus pt_Mod K X) {σ : Sg} {x4 : Int32} {x5 : Int32} {y0 : Int32} {y1 : Int32} (z_y0 : y0 = 0 ∨ y0 = 1)  (hK : KI K (f_Mod_plus_67 σ x4 x5 y0 y1)) : X 67 [.ref 15, .null, .null, .null, .int x4, .int x5] [.int y0, .int y1, .ref 15] σ := by
  unfold f_Mod_plus_67 at hK
  refine hX.1 90 I_Mod_plus_67 ok_Mod_plus_67 _ _ _ ?_
  refine s_Mod_flag (bnd_g hK fun r1 e1 hK => ?_)
  refine s_Mod_zeroAndSign (bnd_g hK fun r2 e2 hK => ?_)
  refine And.intro (fun h3 => ?_) (fun h3 => ?_)
  · have hK := ite_p hK h3
    refine hX.1 93 I_Mod_plus_90 ok_Mod_plus_90 _ _ _ ?_
    refine hX.1 95 I_Mod_plus_93 ok_Mod_plus_93 _ _ _ ?_
    exact hK
  · have hK := ite_n hK h3
    refine hX.1 95 I_Mod_plus_93 ok_Mod_plus_93 _ _ _ ?_
    exact hK
def f_Mod_plus_32 (σ : Sg) (x1 : Int32) (x2 : Int32) (x3 : Int32) (x4 : Int32) (x5 : Int32) (y0 : Int32) (y1 : Int32) : Int32 × Sg := (bnd (f_Mod_flag σ y1 y0) fun r1 => bnd (f_Mod_signed r1 x1 x4) fun r2 => bnd (f_Mod_signed r2.2 x2 x4) fun r3 => bnd (f_Mod_hasRoom r3.2 ((r2.1 + r3.1) + x3) x4) fun r4 => (if r4.1 = (0 : Int32) then (f_Mod_plus_67 r4.2 x4 x5 (1 : Int32) (2048 : Int32)) else (f_Mod_plus_67 r4.2 x4 x5 (0 : Int32) (2048 : Int32))))
abbrev w_Mod_plus_32 : List (Nat × Option Nat) := [(15, some 4)]
theorem p_Mod_plus_32 {P : Sg → Prop} (hP : WP w_Mod_plus_32 P) {σ : Sg} {x1 : Int32} {x2 : Int32} {x3 : Int32} {x4 : Int32} {x5 : Int32} {y0 : Int32} {y1 : Int32} (h : P σ) : PP P (f_Mod_plus_32 σ x1 x2 x3 x4 x5 y0 y1) := by
  unfold f_Mod_plus_32
  refine bnd_zz (Z := P) (p_Mod_flag (wsub hP rfl) h) fun r1 e1 q1 => ?_
  refine bnd_zz (Z := PP P) (p_Mod_signed (wsub hP rfl) q1) fun r2 e2 q2 => ?_
  refine bnd_zz (Z := PP P) (p_Mod_signed (wsub hP rfl) q2) fun r3 e3 q3 => ?_
  refine bnd_zz (Z := PP P) (p_Mod_hasRoom (wsub hP rfl) q3) fun r4 e4 q4 => ?_
  refine ite_z (fun _ => ?_) (fun _ => ?_)
  · exact p_Mod_plus_67 (wsub hP rfl) q4
  · exact p_Mod_plus_67 (wsub hP rfl) q4
set_option maxRecDepth 100000 in
set_option maxHeartbeats 4000000 in
theorem b_Mod_plus_32 {l : Launch} {ad : Nat → Nat} {D : va_G} {cI : ClassId} {K : Option Value → Sg → Prop} {X : Nat → List Value → List Value → Sg → Prop} (hX : Cl l ad D cI mi_Mod_plus pt_Mod K X) {σ : Sg} {x1 : Int32} {x2 : Int32} {x3 : Int32} {x4 : Int32} {x5 : Int32} {y0 : Int32} {y1 : Int32} (z_y0 : y0 = 0 ∨ y0 = 1) (z_y1 : y1 = 0 ∨ y1 = 1)  (hK : KI K (f_Mod_plus_32 σ x1 x2 x3 x4 x5 y0 y1)) : X 32 [.ref 15, .int x1, .int x2, .int x3, .int x4, .int x5] [.int y0, .int y1, .ref 15] σ := by
  unfold f_Mod_plus_32 at hK
  refine hX.1 66 I_Mod_plus_32 ok_Mod_plus_32 _ _ _ ?_
  refine s_Mod_flag (bnd_g hK fun r1 e1 hK => ?_)
  refine s_Mod_signed (bnd_g hK fun r2 e2 hK => ?_)
  refine s_Mod_signed (bnd_g hK fun r3 e3 hK => ?_)
  refine s_Mod_hasRoom (bnd_g hK fun r4 e4 hK => ?_)
  have z4 : r4.1 = 0 ∨ r4.1 = 1 := by rw [← e4]; exact z_Mod_hasRoom
  refine And.intro (fun h5 => ?_) (fun h5 => ?_)
  · have hK := ite_p hK h5
    refine hX.fg [1, 2, 3] ?_
    exact b_Mod_plus_67 hX (Or.inr rfl)  hK
  · have hK := ite_n hK h5
    refine hX.1 67 I_Mod_plus_66 ok_Mod_plus_66 _ _ _ ?_
    refine hX.fg [1, 2, 3] ?_
    exact b_Mod_plus_67 hX (Or.inl rfl)  hK
def f_Mod_plus_24 (σ : Sg) (x1 : Int32) (x2 : Int32) (x3 : Int32) (x4 : Int32) (x5 : Int32) (y0 : Int32) (y1 : Int32) (y2 : Int32) : Int32 × Sg := (if y1 ≤ y0 then (f_Mod_plus_32 σ x1 x2 x3 x4 x5 (0 : Int32) y2) else (f_Mod_plus_32 σ x1 x2 x3 x4 x5 (1 : Int32) y2))
abbrev w_Mod_plus_24 : List (Nat × Option Nat) := [(15, some 4)]
theorem p_Mod_plus_24 {P : Sg → Prop} (hP : WP w_Mod_plus_24 P) {σ : Sg} {x1 : Int32} {x2 : Int32} {x3 : Int32} {x4 : Int32} {x5 : Int32} {y0 : Int32} {y1 : Int32} {y2 : Int32} (h : P σ) : PP P (f_Mod_plus_24 σ x1 x2 x3 x4 x5 y0 y1 y2) := by
  unfold f_Mod_plus_24
  refine ite_z (fun _ => ?_) (fun _ => ?_)
  · exact p_Mod_plus_32 (wsub hP rfl) h
  · exact p_Mod_plus_32 (wsub hP rfl) h
set_option maxRecDepth 100000 in
set_option maxHeartbeats 4000000 in
theorem b_Mod_plus_24 {l : Launch} {ad : Nat → Nat} {D : va_G} {cI : ClassId} {K : Option Value → Sg → Prop} {X : Nat → List Value → List Value → Sg → Prop} (hX : Cl l ad D cI mi_Mod_plus pt_Mod K X) {σ : Sg} {x1 : Int32} {x2 : Int32} {x3 : Int32} {x4 : Int32} {x5 : Int32} {y0 : Int32} {y1 : Int32} {y2 : Int32} (z_y2 : y2 = 0 ∨ y2 = 1)  (hK : KI K (f_Mod_plus_24 σ x1 x2 x3 x4 x5 y0 y1 y2)) : X 24 [.ref 15, .int x1, .int x2, .int x3, .int x4, .int x5] [.int y0, .int y1, .int y2, .ref 15] σ := by
  unfold f_Mod_plus_24 at hK
  refine hX.1 31 I_Mod_plus_24 ok_Mod_plus_24 _ _ _ ?_
  refine And.intro (fun h1 => ?_) (fun h1 => ?_)
  · have hK := ite_p hK h1
    refine hX.1 32 I_Mod_plus_31 ok_Mod_plus_31 _ _ _ ?_
    exact b_Mod_plus_32 hX (Or.inl rfl) z_y2  hK
  · have hK := ite_n hK h1
    exact b_Mod_plus_32 hX (Or.inr rfl) z_y2  hK
def f_Mod_plus (σ : Sg) (a1 : Int32) (a2 : Int32) (a3 : Int32) (a4 : Int32) : Int32 × Sg := (if a4 = (0 : Int32) then (f_Mod_plus_24 σ a1 a2 a3 a4 ((a1 + a2) + a3) (255 : Int32) ((a1 + a2) + a3) (1 : Int32)) else (f_Mod_plus_24 σ a1 a2 a3 a4 ((a1 + a2) + a3) (65535 : Int32) ((a1 + a2) + a3) (1 : Int32)))
abbrev w_Mod_plus : List (Nat × Option Nat) := [(15, some 4)]
theorem p_Mod_plus {P : Sg → Prop} (hP : WP w_Mod_plus P) {σ : Sg} {a1 : Int32} {a2 : Int32} {a3 : Int32} {a4 : Int32} (h : P σ) : PP P (f_Mod_plus σ a1 a2 a3 a4) := by
  unfold f_Mod_plus
  refine ite_z (fun _ => ?_) (fun _ => ?_)
  · exact p_Mod_plus_24 (wsub hP rfl) h
  · exact p_Mod_plus_24 (wsub hP rfl) h
set_option maxRecDepth 100000 in
set_option maxHeartbeats 4000000 in
theorem s_Mod_plus {l : Launch} {ad : Nat → Nat} {D : va_G} {cI : ClassId} {σ : Sg} {a1 : Int32} {a2 : Int32} {a3 : Int32} {a4 : Int32} {K : Option Value → Sg → Prop}   (hK : KI K (f_Mod_plus σ a1 a2 a3 a4)) : MetJ l ad D cI mi_Mod_plus [.ref 15, .int a1, .int a2, .int a3, .int a4] σ K := by
  refine met_of mi_Mod_plus pt_Mod pt_Mod_in rfl pl_Mod rfl (Nat.le_of_ble_eq_true rfl) fun X hX => ?_
  have hX : Cl l ad D cI mi_Mod_plus pt_Mod K X := hX
  show X 0 [.ref 15, .int a1, .int a2, .int a3, .int a4, .null] [] σ
  unfold f_Mod_plus at hK
  refine hX.1 21 I_Mod_plus_0 ok_Mod_plus_0 _ _ _ ?_
  refine And.intro (fun h1 => ?_) (fun h1 => ?_)
  · have hK := ite_p hK h1
    refine hX.1 24 I_Mod_plus_21 ok_Mod_plus_21 _ _ _ ?_
    exact b_Mod_plus_24 hX (Or.inr rfl)  hK
  · have hK := ite_n hK h1
    exact b_Mod_plus_24 hX (Or.inr rfl)  hK
end
section
def I_Mod_less_0 : List IT := [(0, .iload_n 1, 1, 0, 0, []), (1, .iload_n 2, 1, 0, 0, []), (2, .isub, 1, 0, 0, []), (3, .iload_n 3, 1, 0, 0, []), (4, .isub, 1, 0, 0, []), (5, .istore 5, 2, 0, 0, []), (7, .aload_n 0, 1, 0, 0, []), (8, .iconst 1, 1, 1, 0, []), (9, .iload 5, 2, 0, 0, []), (11, .ifCond .ge 7, 3, 0, 18, []), (14, .iconst 1, 1, 1, 0, []), (15, .goto 4, 3, 0, 19, [])]
theorem ok_Mod_less_0 : blkOK b_Mod_less pt_Mod 18 I_Mod_less_0 = true := by decide +kernel
def I_Mod_less_18 : List IT := [(18, .iconst 0, 1, 0, 0, [])]
theorem ok_Mod_less_18 : blkOK b_Mod_less pt_Mod 19 I_Mod_less_18 = true := by decide +kernel
def I_Mod_less_19 : List IT := [(19, .invokevirtual 95, 3, 0, 0, []), (22, .aload_n 0, 1, 0, 0, []), (23, .sipush 2048, 3, 2048, 0, []), (26, .iload_n 1, 1, 0, 0, []), (27, .iload 4, 2, 0, 0, []), (29, .invokestatic 104, 3, 0, 0, []), (32, .iload_n 2, 1, 0, 0, []), (33, .iload 4, 2, 0, 0, []), (35, .invokestatic 104, 3, 0, 0, []), (38, .isub, 1, 0, 0, []), (39, .iload_n 3, 1, 0, 0, []), (40, .isub, 1, 0, 0, []), (41, .iload 4, 2, 0, 0, []), (43, .invokestatic 107, 3, 0, 0, []), (46, .ifCond .ne 7, 3, 0, 53, []), (49, .iconst 1, 1, 1, 0, []), (50, .goto 4, 3, 0, 54, [])]
theorem ok_Mod_less_19 : blkOK b_Mod_less pt_Mod 53 I_Mod_less_19 = true := by decide +kernel
def I_Mod_less_53 : List IT := [(53, .iconst 0, 1, 0, 0, [])]
theorem ok_Mod_less_53 : blkOK b_Mod_less pt_Mod 54 I_Mod_less_53 = true := by decide +kernel
def I_Mod_less_54 : List IT := [(54, .invokevirtual 95, 3, 0, 0, []), (57, .aload_n 0, 1, 0, 0, []), (58, .iload 5, 2, 0, 0, []), (60, .iload 4, 2, 0, 0, []), (62, .invokevirtual 111, 3, 0, 0, []), (65, .iload 5, 2, 0, 0, []), (67, .iload 4, 2, 0, 0, []), (69, .ifCond .eq 8, 3, 0, 77, []), (72, .ldc 32, 2, 65535, 0, []), (74, .goto 6, 3, 0, 80, [])]
theorem ok_Mod_less_54 : blkOK b_Mod_less pt_Mod 77 I_Mod_less_54 = true := by decide +kernel
def I_Mod_less_77 : List IT := [(77, .sipush 255, 3, 255, 0, [])]
theorem ok_Mod_less_77 : blkOK b_Mod_less pt_Mod 80 I_Mod_less_77 = true := by decide +kernel
def I_Mod_less_80 : List IT := [(80, .iand, 1, 0, 0, []), (81, .ireturn, 1, 0, 0, [])]
theorem ok_Mod_less_80 : blkOK b_Mod_less pt_Mod 82 I_Mod_less_80 = true := by decide +kernel
def f_Mod_less_54 (σ : Sg) (x4 : Int32) (x5 : Int32) (y0 : Int32) (y1 : Int32) : Int32 × Sg := (bnd (f_Mod_flag σ y1 y0) fun r1 => bnd (f_Mod_zeroAndSign r1 x5 x4) fun r2 => (if x4 = (0 : Int32) then ((x5 &&& (255 : Int32)), r2) else ((x5 &&& (65535 : Int32)), r2)))
abbrev w_Mod_less_54 : List (Nat × Option Nat) := [(15, some 4)]
theorem p_Mod_less_54 {P : Sg → Prop} (hP : WP w_Mod_less_54 P) {σ : Sg} {x4 : Int32} {x5 : Int32} {y0 : Int32} {y1 : Int32} (h : P σ) : PP P (f_Mod_less_54 σ x4 x5 y0 y1) := by
  unfold f_Mod_less_54
  refine bnd_zz (Z := P) (p_Mod_flag (wsub hP rfl) h) fun r1 e1 q1 => ?_
  refine bnd_zz (Z := P) (p_Mod_zeroAndSign (wsub hP rfl) q1) fun r2 e2 q2 => ?_
  refine ite_z (fun _ => ?_) (fun _ => ?_)
  · exact q2
  · exact q2
set_option maxRecDepth 100000 in
set_option maxHeartbeats 4000000 in
theorem b_Mod_less_54 {l : Launch} {ad : Nat → Nat} {D : va_G} {cI : ClassId} {K : Option Value → Sg → Prop} {X : Nat → List Value → List Value → Sg → Prop} (hX : Cl l ad D cI mi_Mod_less pt_Mod K X) {σ : Sg} {x4 : Int32} {x5 : Int32} {y0 : Int32} {y1 : Int32} (z_y0 : y0 = 0 ∨ y0 = 1)  (hK : KI K (f_Mod_less_54 σ x4 x5 y0 y1)) : X 54 [.ref 15, .null, .null, .null, .int x4, .int x5] [.int y0, .int y1, .ref 15] σ := by
  unfold f_Mod_less_54 at hK
  refine hX.1 77 I_Mod_less_54 ok_Mod_less_54 _ _ _ ?_
  refine s_Mod_flag (bnd_g hK fun r1 e1 hK => ?_)
  refine s_Mod_zeroAndSign (bnd_g hK fun r2 e2 hK => ?_)
  refine And.intro (fun h3 => ?_) (fun h3 => ?_)
  · have hK := ite_p hK h3
    refine hX.1 80 I_Mod_less_77 ok_Mod_less_77 _ _ _ ?_
    refine hX.1 82 I_Mod_less_80 ok_Mod_less_80 _ _ _ ?_
    exact hK
  · have hK := ite_n hK h3
    refine hX.1 82 I_Mod_less_80 ok_Mod_less_80 _ _ _ ?_
    exact hK
def f_Mod_less_19 (σ : Sg) (x1 : Int32) (x2 : Int32) (x3 : Int32) (x4 : Int32) (x5 : Int32) (y0 : Int32) (y1 : Int32) : Int32 × Sg := (bnd (f_Mod_flag σ y1 y0) fun r1 => bnd (f_Mod_signed r1 x1 x4) fun r2 => bnd (f_Mod_signed r2.2 x2 x4) fun r3 => bnd (f_Mod_hasRoom r3.2 ((r2.1 - r3.1) - x3) x4) fun r4 => (if r4.1 = (0 : Int32) then (f_Mod_less_54 r4.2 x4 x5 (1 : Int32) (2048 : Int32)) else (f_Mod_less_54 r4.2 x4 x5 (0 : Int32) (2048 : Int32))))
abbrev w_Mod_less_19 : List (Nat × Option Nat) := [(15, some 4)]
theorem p_Mod_less_19 {P : Sg → Prop} (hP : WP w_Mod_less_19 P) {σ : Sg} {x1 : Int32} {x2 : Int32} {x3 : Int32} {x4 : Int32} {x5 : Int32} {y0 : Int32} {y1 : Int32} (h : P σ) : PP P (f_Mod_less_19 σ x1 x2 x3 x4 x5 y0 y1) := by
  unfold f_Mod_less_19
  refine bnd_zz (Z := P) (p_Mod_flag (wsub hP rfl) h) fun r1 e1 q1 => ?_
  refine bnd_zz (Z := PP P) (p_Mod_signed (wsub hP rfl) q1) fun r2 e2 q2 => ?_
  refine bnd_zz (Z := PP P) (p_Mod_signed (wsub hP rfl) q2) fun r3 e3 q3 => ?_
  refine bnd_zz (Z := PP P) (p_Mod_hasRoom (wsub hP rfl) q3) fun r4 e4 q4 => ?_
  refine ite_z (fun _ => ?_) (fun _ => ?_)
  · exact p_Mod_less_54 (wsub hP rfl) q4
  · exact p_Mod_less_54 (wsub hP rfl) q4
set_option maxRecDepth 100000 in
set_option maxHeartbeats 4000000 in
theorem b_Mod_less_19 {l : Launch} {ad : Nat → Nat} {D : va_G} {cI : ClassId} {K : Option Value → Sg → Prop} {X : Nat → List Value → List Value → Sg → Prop} (hX : Cl l ad D cI mi_Mod_less pt_Mod K X) {σ : Sg} {x1 : Int32} {x2 : Int32} {x3 : Int32} {x4 : Int32} {x5 : Int32} {y0 : Int32} {y1 : Int32} (z_y0 : y0 = 0 ∨ y0 = 1) (z_y1 : y1 = 0 ∨ y1 = 1)  (hK : KI K (f_Mod_less_19 σ x1 x2 x3 x4 x5 y0 y1)) : X 19 [.ref 15, .int x1, .int x2, .int x3, .int x4, .int x5] [.int y0, .int y1, .ref 15] σ := by
  unfold f_Mod_less_19 at hK
  refine hX.1 53 I_Mod_less_19 ok_Mod_less_19 _ _ _ ?_
  refine s_Mod_flag (bnd_g hK fun r1 e1 hK => ?_)
  refine s_Mod_signed (bnd_g hK fun r2 e2 hK => ?_)
  refine s_Mod_signed (bnd_g hK fun r3 e3 hK => ?_)
  refine s_Mod_hasRoom (bnd_g hK fun r4 e4 hK => ?_)
  have z4 : r4.1 = 0 ∨ r4.1 = 1 := by rw [← e4]; exact z_Mod_hasRoom
  refine And.intro (fun h5 => ?_) (fun h5 => ?_)
  · have hK := ite_p hK h5
    refine hX.fg [1, 2, 3] ?_
    exact b_Mod_less_54 hX (Or.inr rfl)  hK
  · have hK := ite_n hK h5
    refine hX.1 54 I_Mod_less_53 ok_Mod_less_53 _ _ _ ?_
    refine hX.fg [1, 2, 3] ?_
    exact b_Mod_less_54 hX (Or.inl rfl)  hK
def f_Mod_less (σ : Sg) (a1 : Int32) (a2 : Int32) (a3 : Int32) (a4 : Int32) : Int32 × Sg := (if (0 : Int32) ≤ ((a1 - a2) - a3) then (f_Mod_less_19 σ a1 a2 a3 a4 ((a1 - a2) - a3) (0 : Int32) (1 : Int32)) else (f_Mod_less_19 σ a1 a2 a3 a4 ((a1 - a2) - a3) (1 : Int32) (1 : Int32)))
abbrev w_Mod_less : List (Nat × Option Nat) := [(15, some 4)]
theorem p_Mod_less {P : Sg → Prop} (hP : WP w_Mod_less P) {σ : Sg} {a1 : Int32} {a2 : Int32} {a3 : Int32} {a4 : Int32} (h : P σ) : PP P (f_Mod_less σ a1 a2 a3 a4) := by
  unfold f_Mod_less
  refine ite_z (fun _ => ?_) (fun _ => ?_)
  · exact p_Mod_less_19 (wsub hP rfl) h
  · exact p_Mod_less_19 (wsub hP rfl) h
set_option maxRecDepth 100000 in
set_option maxHeartbeats 4000000 in
theorem s_Mod_less {l : Launch} {ad : Nat → Nat} {D : va_G} {cI : ClassId} {σ : Sg} {a1 : Int32} {a2 : Int32} {a3 : Int32} {a4 : Int32} {K : Option Value → Sg → Prop}   (hK : KI K (f_Mod_less σ a1 a2 a3 a4)) : MetJ l ad D cI mi_Mod_less [.ref 15, .int a1, .int a2, .int a3, .int a4] σ K := by
  refine met_of mi_Mod_less pt_Mod pt_Mod_in rfl pl_Mod rfl (Nat.le_of_ble_eq_true rfl) fun X hX => ?_
  have hX : Cl l ad D cI mi_Mod_less pt_Mod K X := hX
  show X 0 [.ref 15, .int a1, .int a2, .int a3, .int a4, .null] [] σ
  unfold f_Mod_less at hK
  refine hX.1 18 I_Mod_less_0 ok_Mod_less_0 _ _ _ ?_
  refine And.intro (fun h1 => ?_) (fun h1 => ?_)
  · have hK := ite_p hK h1
    refine hX.1 19 I_Mod_less_18 ok_Mod_less_18 _ _ _ ?_
    exact b_Mod_less_19 hX (Or.inl rfl) (Or.inr rfl)  hK
  · have hK := ite_n hK h1
    exact b_Mod_less_19 hX (Or.inr rfl) (Or.inr rfl)  hK
def I_Mod_logic_0 : List IT := [(0, .aload_n 0, 1, 0, 0, []), (1, .iconst 1, 1, 1, 0, []), (2, .iconst 0, 1, 0, 0, []), (3, .invokevirtual 95, 3, 0, 0, []), (6, .aload_n 0, 1, 0, 0, []), (7, .sipush 2048, 3, 2048, 0, []), (10, .iconst 0, 1, 0, 0, []), (11, .invokevirtual 95, 3, 0, 0, []), (14, .aload_n 0, 1, 0, 0, []), (15, .iload_n 1, 1, 0, 0, []), (16, .iload_n 2, 1, 0, 0, []), (17, .invokevirtual 111, 3, 0, 0, []), (20, .iload_n 1, 1, 0, 0, []), (21, .ireturn, 1, 0, 0, [])]
theorem ok_Mod_logic_0 : blkOK b_Mod_logic pt_Mod 22 I_Mod_logic_0 = true := by decide +kernel
def f_Mod_logic (σ : Sg) (a1 : Int32) (a2 : Int32) : Int32 × Sg := (bnd (f_Mod_flag σ (1 : Int32) (0 : Int32)) fun r1 => bnd (f_Mod_flag r1 (2048 : Int32) (0 : Int32)) fun r2 => bnd (f_Mod_zeroAndSign r2 a1 a2) fun r3 => (a1, r3))
abbrev w_Mod_logic : List (Nat × Option Nat) := [(15, some 4)]
theorem p_Mod_logic {P : Sg → Prop} (hP : WP w_Mod_logic P) {σ : Sg} {a1 : Int32} {a2 : Int32} (h : P σ) : PP P (f_Mod_logic σ a1 a2) := by
  unfold f_Mod_logic
  refine bnd_zz (Z := P) (p_Mod_flag (wsub hP rfl) h) fun r1 e1 q1 => ?_
  refine bnd_zz (Z := P) (p_Mod_flag (wsub hP rfl) q1) fun r2 e2 q2 => ?_
  refine bnd_zz (Z := P) (p_Mod_zeroAndSign (wsub hP rfl) q2) fun r3 e3 q3 => ?_
  exact q3
set_option maxRecDepth 100000 in
set_option maxHeartbeats 4000000 in
theorem s_Mod_logic {l : Launch} {ad : Nat → Nat} {D : va_G} {cI : ClassId} {σ : Sg} {a1 : Int32} {a2 : Int32} {K : Option Value → Sg → Prop}   (hK : KI K (f_Mod_logic σ a1 a2)) : MetJ l ad D cI mi_Mod_logic [.ref 15, .int a1, .int a2] σ K := by
  refine met_of mi_Mod_logic pt_Mod pt_Mod_in rfl pl_Mod rfl (Nat.le_of_ble_eq_true rfl) fun X hX => ?_
  have hX : Cl l ad D cI mi_Mod_logic pt_Mod K X := hX
  show X 0 [.ref 15, .int a1, .int a2] [] σ
  unfold f_Mod_logic at hK
  refine hX.1 22 I_Mod_logic_0 ok_Mod_logic_0 _ _ _ ?_
  refine s_Mod_flag (bnd_g hK fun r1 e1 hK => ?_)
  refine s_Mod_flag (bnd_g hK fun r2 e2 hK => ?_)
  refine s_Mod_zeroAndSign (bnd_g hK fun r3 e3 hK => ?_)
  exact hK
def I_Mod_combine_0 : List IT := [(0, .aload_n 0, 1, 0, 0, []), (1, .iconst 1, 1, 1, 0, []), (2, .invokevirtual 114, 3, 0, 0, []), (5, .ifCond .eq 7, 3, 0, 12, []), (8, .iconst 1, 1, 1, 0, []), (9, .goto 4, 3, 0, 13, [])]
theorem ok_Mod_combine_0 : blkOK b_Mod_combine pt_Mod 12 I_Mod_combine_0 = true := by decide +kernel
def I_Mod_combine_12 : List IT := [(12, .iconst 0, 1, 0, 0, [])]
theorem ok_Mod_combine_12 : blkOK b_Mod_combine pt_Mod 13 I_Mod_combine_12 = true := by decide +kernel
def I_Mod_combine_13 : List IT := [(13, .istore 5, 2, 0, 0, []), (15, .iload_n 1, 1, 0, 0, []), (16, .tableswitch 116 0 6 #[44, 54, 64, 75, 86, 96, 106], 44, 0, 132, [(0, 60), (1, 70), (2, 80), (3, 91), (4, 102), (5, 112), (6, 122)])]
theorem ok_Mod_combine_13 : blkOK b_Mod_combine pt_Mod 60 I_Mod_combine_13 = true := by decide +kernel
def I_Mod_combine_60 : List IT := [(60, .aload_n 0, 1, 0, 0, []), (61, .iload_n 2, 1, 0, 0, []), (62, .iload_n 3, 1, 0, 0, []), (63, .iconst 0, 1, 0, 0, []), (64, .iload 4, 2, 0, 0, []), (66, .invokevirtual 118, 3, 0, 0, []), (69, .ireturn, 1, 0, 0, [])]
theorem ok_Mod_combine_60 : blkOK b_Mod_combine pt_Mod 70 I_Mod_combine_60 = true := by decide +kernel
def I_Mod_combine_70 : List IT := [(70, .aload_n 0, 1, 0, 0, []), (71, .iload_n 2, 1, 0, 0, []), (72, .iload_n 3, 1, 0, 0, []), (73, .ior, 1, 0, 0, []), (74, .iload 4, 2, 0, 0, []), (76, .invokevirtual 122, 3, 0, 0, []), (79, .ireturn, 1, 0, 0, [])]
theorem ok_Mod_combine_70 : blkOK b_Mod_combine pt_Mod 80 I_Mod_combine_70 = true := by decide +kernel
def I_Mod_combine_80 : List IT := [(80, .aload_n 0, 1, 0, 0, []), (81, .iload_n 2, 1, 0, 0, []), (82, .iload_n 3, 1, 0, 0, []), (83, .iload 5, 2, 0, 0, []), (85, .iload 4, 2, 0, 0, []), (87, .invokevirtual 118, 3, 0, 0, []), (90, .ireturn, 1, 0, 0, [])]
theorem ok_Mod_combine_80 : blkOK b_Mod_combine pt_Mod 91 I_Mod_combine_80 = true := by decide +kernel
def I_Mod_combine_91 : List IT := [(91, .aload_n 0, 1, 0, 0, []), (92, .iload_n 2, 1, 0, 0, []), (93, .iload_n 3, 1, 0, 0, []), (94, .iload 5, 2, 0, 0, []), (96, .iload 4, 2, 0, 0, []), (98, .invokevirtual 125, 3, 0, 0, []), (101, .ireturn, 1, 0, 0, [])]
theorem ok_Mod_combine_91 : blkOK b_Mod_combine pt_Mod 102 I_Mod_combine_91 = true := by decide +kernel
def I_Mod_combine_102 : List IT := [(102, .aload_n 0, 1, 0, 0, []), (103, .iload_n 2, 1, 0, 0, []), (104, .iload_n 3, 1, 0, 0, []), (105, .iand, 1, 0, 0, []), (106, .iload 4, 2, 0, 0, []), (108, .invokevirtual 122, 3, 0, 0, []), (111, .ireturn, 1, 0, 0, [])]
theorem ok_Mod_combine_102 : blkOK b_Mod_combine pt_Mod 112 I_Mod_combine_102 = true := by decide +kernel
def I_Mod_combine_112 : List IT := [(112, .aload_n 0, 1, 0, 0, []), (113, .iload_n 2, 1, 0, 0, []), (114, .iload_n 3, 1, 0, 0, []), (115, .iconst 0, 1, 0, 0, []), (116, .iload 4, 2, 0, 0, []), (118, .invokevirtual 125, 3, 0, 0, []), (121, .ireturn, 1, 0, 0, [])]
theorem ok_Mod_combine_112 : blkOK b_Mod_combine pt_Mod 122 I_Mod_combine_112 = true := by decide +kernel
def I_Mod_combine_122 : List IT := [(122, .aload_n 0, 1, 0, 0, []), (123, .iload_n 2, 1, 0, 0, []), (124, .iload_n 3, 1, 0, 0, []), (125, .ixor, 1, 0, 0, []), (126, .iload 4, 2, 0, 0, []), (128, .invokevirtual 122, 3, 0, 0, []), (131, .ireturn, 1, 0, 0, [])]
theorem ok_Mod_combine_122 : blkOK b_Mod_combine pt_Mod 132 I_Mod_combine_122 = true := by decide +kernel
def I_Mod_combine_132 : List IT := [(132, .aload_n 0, 1, 0, 0, []), (133, .iload_n 2, 1, 0, 0, []), (134, .iload_n 3, 1, 0, 0, []), (135, .iconst 0, 1, 0, 0, []), (136, .iload 4, 2, 0, 0, []), (138, .invokevirtual 125, 3, 0, 0, []), (141, .pop, 1, 0, 0, []), (142, .iload_n 2, 1, 0, 0, []), (143, .ireturn, 1, 0, 0, [])]
theorem ok_Mod_combine_132 : blkOK b_Mod_combine pt_Mod 144 I_Mod_combine_132 = true := by decide +kernel
def f_Mod_combine_13 (σ : Sg) (x1 : Int32) (x2 : Int32) (x3 : Int32) (x4 : Int32) (y0 : Int32) : Int32 × Sg := (if x1 = (0 : Int32) then (bnd (f_Mod_plus σ x2 x3 (0 : Int32) x4) fun r2 => (r2.1, r2.2)) else (if x1 = (1 : Int32) then (bnd (f_Mod_logic σ (x2 ||| x3) x4) fun r4 => (r4.1, r4.2)) else (if x1 = (2 : Int32) then (bnd (f_Mod_plus σ x2 x3 y0 x4) fun r6 => (r6.1, r6.2)) else (if x1 = (3 : Int32) then (bnd (f_Mod_less σ x2 x3 y0 x4) fun r8 => (r8.1, r8.2)) else (if x1 = (4 : Int32) then (bnd (f_Mod_logic σ (x2 &&& x3) x4) fun r10 => (r10.1, r10.2)) else (if x1 = (5 : Int32) then (bnd (f_Mod_less σ x2 x3 (0 : Int32) x4) fun r12 => (r12.1, r12.2)) else (if x1 = (6 : Int32) then (bnd (f_Mod_logic σ (x2 ^^^ x3) x4) fun r14 => (r14.1, r14.2)) else (bnd (f_Mod_less σ x2 x3 (0 : Int32) x4) fun r15 => (x2, r15.2)))))))))
abbrev w_Mod_combine_13 : List (Nat × Option Nat) := [(15, some 4)]
theorem p_Mod_combine_13 {P : Sg → Prop} (hP : WP w_Mod_combine_13 P) {σ : Sg} {x1 : Int32} {x2 : Int32} {x3 : Int32} {x4 : Int32} {y0 : Int32} (h : P σ) : PP P (f_Mod_combine_13 σ x1 x2 x3 x4 y0) := by
  unfold f_Mod_combine_13
  refine ite_z (fun _ => ?_) (fun _ => ?_)
  · refine bnd_zz (Z := PP P) (p_Mod_plus (wsub hP rfl) h) fun r2 e2 q2 => ?_
    exact q2
  refine ite_z (fun _ => ?_) (fun _ => ?_)
  · refine bnd_zz (Z := PP P) (p_Mod_logic (wsub hP rfl) h) fun r4 e4 q4 => ?_
    exact q4
  refine ite_z (fun _ => ?_) (fun _ => ?_)
  · refine bnd_zz (Z := PP P) (p_Mod_plus (wsub hP rfl) h) fun r6 e6 q6 => ?_
    exact q6
  refine ite_z (fun _ => ?_) (fun _ => ?_)
  · refine bnd_zz (Z := PP P) (p_Mod_less (wsub hP rfl) h) fun r8 e8 q8 => ?_
    exact q8
  refine ite_z (fun _ => ?_) (fun _ => ?_)
  · refine bnd_zz (Z := PP P) (p_Mod_logic (wsub hP rfl) h) fun r10 e10 q10 => ?_
    exact q10
  refine ite_z (fun _ => ?_) (fun _ => ?_)
  · refine bnd_zz (Z := PP P) (p_Mod_less (wsub hP rfl) h) fun r12 e12 q12 => ?_
    exact q12
  refine ite_z (fun _ => ?_) (fun _ => ?_)
  · refine bnd_zz (Z := PP P) (p_Mod_logic (wsub hP rfl) h) fun r14 e14 q14 => ?_
    exact q14
  refine bnd_zz (Z := PP P) (p_Mod_less (wsub hP rfl) h) fun r15 e15 q15 => ?_
  exact q15
set_option maxRecDepth 100000 in
set_option maxHeartbeats 4000000 in
theorem b_Mod_combine_13 {l : Launch} {ad : Nat → Nat} {D : va_G} {cI : ClassId} {K : Option Value → Sg → Prop} {X : Nat → List Value → List Value → Sg → Prop} (hX : Cl l ad D cI mi_Mod_combine pt_Mod K X) {σ : Sg} {x1 : Int32} {x2 : Int32} {x3 : Int32} {x4 : Int32} {y0 : Int32} (z_y0 : y0 = 0 ∨ y0 = 1)  (hK : KI K (f_Mod_combine_13 σ x1 x2 x3 x4 y0)) : X 13 [.ref 15, .int x1, .int x2, .int x3, .int x4, .null] [.int y0] σ := by
  unfold f_Mod_combine_13 at hK
  refine hX.1 60 I_Mod_combine_13 ok_Mod_combine_13 _ _ _ ?_
  refine And.intro (fun h1 => ?_) (fun h1 => ?_)
  · have hK := ite_p hK h1
    refine hX.1 70 I_Mod_combine_60 ok_Mod_combine_60 _ _ _ ?_
    refine s_Mod_plus (bnd_g hK fun r2 e2 hK => ?_)
    exact hK
  have hK := ite_n hK h1
  refine And.intro (fun h3 => ?_) (fun h3 => ?_)
  · have hK := ite_p hK h3
    refine hX.1 80 I_Mod_combine_70 ok_Mod_combine_70 _ _ _ ?_
    refine s_Mod_logic (bnd_g hK fun r4 e4 hK => ?_)
    exact hK
  have hK := ite_n hK h3
  refine And.intro (fun h5 => ?_) (fun h5 => ?_)
  · have hK := ite_p hK h5
    refine hX.1 91 I_Mod_combine_80 ok_Mod_combine_80 _ _ _ ?_
    refine s_Mod_plus (bnd_g hK fun r6 e6 hK => ?_)
    exact hK
  have hK := ite_n hK h5
  refine And.intro (fun h7 => ?_) (fun h7 => ?_)
  · have hK := ite_p hK h7
    refine hX.1 102 I_Mod_combine_91 ok_Mod_combine_91 _ _ _ ?_
    refine s_Mod_less (bnd_g hK fun r8 e8 hK => ?_)
    exact hK
  have hK := ite_n hK h7
  refine And.intro (fun h9 => ?_) (fun h9 => ?_)
  · have hK := ite_p hK h9
    refine hX.1 112 I_Mod_combine_102 ok_Mod_combine_102 _ _ _ ?_
    refine s_Mod_logic (bnd_g hK fun r10 e10 hK => ?_)
    exact hK
  have hK := ite_n hK h9
  refine And.intro (fun h11 => ?_) (fun h11 => ?_)
  · have hK := ite_p hK h11
    refine hX.1 122 I_Mod_combine_112 ok_Mod_combine_112 _ _ _ ?_
    refine s_Mod_less (bnd_g hK fun r12 e12 hK => ?_)
    exact hK
  have hK := ite_n hK h11
  refine And.intro (fun h13 => ?_) (fun h13 => ?_)
  · have hK := ite_p hK h13
    refine hX.1 132 I_Mod_combine_122 ok_Mod_combine_122 _ _ _ ?_
    refine s_Mod_logic (bnd_g hK fun r14 e14 hK => ?_)
    exact hK
  have hK := ite_n hK h13
  refine hX.1 144 I_Mod_combine_132 ok_Mod_combine_132 _ _ _ ?_
  refine s_Mod_less (bnd_g hK fun r15 e15 hK => ?_)
  exact hK
def f_Mod_combine (σ : Sg) (a1 : Int32) (a2 : Int32) (a3 : Int32) (a4 : Int32) : Int32 × Sg := (bnd (f_Mod_is σ (1 : Int32)) fun r1 => (if r1.1 = (0 : Int32) then (f_Mod_combine_13 r1.2 a1 a2 a3 a4 (0 : Int32)) else (f_Mod_combine_13 r1.2 a1 a2 a3 a4 (1 : Int32))))
abbrev w_Mod_combine : List (Nat × Option Nat) := [(15, some 4)]
theorem p_Mod_combine {P : Sg → Prop} (hP : WP w_Mod_combine P) {σ : Sg} {a1 : Int32} {a2 : Int32} {a3 : Int32} {a4 : Int32} (h : P σ) : PP P (f_Mod_combine σ a1 a2 a3 a4) := by
  unfold f_Mod_combine
  refine bnd_zz (Z := PP P) (p_Mod_is (wsub hP rfl) h) fun r1 e1 q1 => ?_
  refine ite_z (fun _ => ?_) (fun _ => ?_)
  · exact p_Mod_combine_13 (wsub hP rfl) q1
  · exact p_Mod_combine_13 (wsub hP rfl) q1
set_option maxRecDepth 100000 in
set_option maxHeartbeats 4000000 in
theorem s_Mod_combine {l : Launch} {ad : Nat → Nat} {D : va_G} {cI : ClassId} {σ : Sg} {a1 : Int32} {a2 : Int32} {a3 : Int32} {a4 : Int32} {K : Option Value → Sg → Prop}   (hK : KI K (f_Mod_combine σ a1 a2 a3 a4)) : MetJ l ad D cI mi_Mod_combine [.ref 15, .int a1, .int a2, .int a3, .int a4] σ K := by
  refine met_of mi_Mod_combine pt_Mod pt_Mod_in rfl pl_Mod rfl (Nat.le_of_ble_eq_true rfl) fun X hX => ?_
  have hX : Cl l ad D cI mi_Mod_combine pt_Mod K X := hX
  show X 0 [.ref 15, .int a1, .int a2, .int a3, .int a4, .null] [] σ
  unfold f_Mod_combine at hK
  refine hX.1 12 I_Mod_combine_0 ok_Mod_combine_0 _ _ _ ?_
  refine s_Mod_is (bnd_g hK fun r1 e1 hK => ?_)
  have z1 : r1.1 = 0 ∨ r1.1 = 1 := by rw [← e1]; exact z_Mod_is
  refine And.intro (fun h2 => ?_) (fun h2 => ?_)
  · have hK := ite_p hK h2
    refine hX.1 13 I_Mod_combine_12 ok_Mod_combine_12 _ _ _ ?_
    exact b_Mod_combine_13 hX (Or.inl rfl)  hK
  · have hK := ite_n hK h2
    exact b_Mod_combine_13 hX (Or.inr rfl)  hK
def I_Mod_byOne_0 : List IT := [(0, .aload_n 0, 1, 0, 0, []), (1, .iconst 1, 1, 1, 0, []), (2, .invokevirtual 114, 3, 0, 0, []), (5, .istore 4, 2, 0, 0, []), (7, .iload_n 2, 1, 0, 0, []), (8, .ifCond .eq 14, 3, 0, 22, []), (11, .aload_n 0, 1, 0, 0, []), (12, .iload_n 1, 1, 0, 0, []), (13, .iconst 1, 1, 1, 0, []), (14, .iconst 0, 1, 0, 0, []), (15, .iload_n 3, 1, 0, 0, []), (16, .invokevirtual 125, 3, 0, 0, []), (19, .goto 11, 3, 0, 30, [])]
theorem ok_Mod_byOne_0 : blkOK b_Mod_byOne pt_Mod 22 I_Mod_byOne_0 = true := by decide +kernel
def I_Mod_byOne_22 : List IT := [(22, .aload_n 0, 1, 0, 0, []), (23, .iload_n 1, 1, 0, 0, []), (24, .iconst 1, 1, 1, 0, []), (25, .iconst 0, 1, 0, 0, []), (26, .iload_n 3, 1, 0, 0, []), (27, .invokevirtual 118, 3, 0, 0, [])]
theorem ok_Mod_byOne_22 : blkOK b_Mod_byOne pt_Mod 30 I_Mod_byOne_22 = true := by decide +kernel
def I_Mod_byOne_30 : List IT := [(30, .istore 5, 2, 0, 0, []), (32, .aload_n 0, 1, 0, 0, []), (33, .iconst 1, 1, 1, 0, []), (34, .iload 4, 2, 0, 0, []), (36, .invokevirtual 95, 3, 0, 0, []), (39, .iload 5, 2, 0, 0, []), (41, .ireturn, 1, 0, 0, [])]
theorem ok_Mod_byOne_30 : blkOK b_Mod_byOne pt_Mod 42 I_Mod_byOne_30 = true := by decide +kernel
def f_Mod_byOne_30 (σ : Sg) (x4 : Int32) (y0 : Int32) : Int32 × Sg := (bnd (f_Mod_flag σ (1 : Int32) x4) fun r1 => (y0, r1))
abbrev w_Mod_byOne_30 : List (Nat × Option Nat) := [(15, some 4)]
theorem p_Mod_byOne_30 {P : Sg → Prop} (hP : WP w_Mod_byOne_30 P) {σ : Sg} {x4 : Int32} {y0 : Int32} (h : P σ) : PP P (f_Mod_byOne_30 σ x4 y0) := by
  unfold f_Mod_byOne_30
  refine bnd_zz (Z := P) (p_Mod_flag (wsub hP rfl) h) fun r1 e1 q1 => ?_
  exact q1
set_option maxRecDepth 100000 in
set_option maxHeartbeats 4000000 in
theorem b_Mod_byOne_30 {l : Launch} {ad : Nat → Nat} {D : va_G} {cI : ClassId} {K : Option Value → Sg → Prop} {X : Nat → List Value → List Value → Sg → Prop} (hX : Cl l ad D cI mi_Mod_byOne pt_Mod K X) {σ : Sg} {x4 : Int32} {y0 : Int32} (z_x4 : x4 = 0 ∨ x4 = 1)  (hK : KI K (f_Mod_byOne_30 σ x4 y0)) : X 30 [.ref 15, .null, .null, .null, .int x4, .null] [.int y0] σ := by
  unfold f_Mod_byOne_30 at hK
  refine hX.1 42 I_Mod_byOne_30 ok_Mod_byOne_30 _ _ _ ?_
  refine s_Mod_flag (bnd_g hK fun r1 e1 hK => ?_)
  exact hK
def f_Mod_byOne (σ : Sg) (a1 : Int32) (a2 : Int32) (a3 : Int32) : Int32 × Sg := (bnd (f_Mod_is σ (1 : Int32)) fun r1 => (if a2 = (0 : Int32) then (bnd (f_Mod_plus r1.2 a1 (1 : Int32) (0 : Int32) a3) fun r3 => (f_Mod_byOne_30 r3.2 r1.1 r3.1)) else (bnd (f_Mod_less r1.2 a1 (1 : Int32) (0 : Int32) a3) fun r4 => (f_Mod_byOne_30 r4.2 r1.1 r4.1))))
abbrev w_Mod_byOne : List (Nat × Option Nat) := [(15, some 4)]
theorem p_Mod_byOne {P : Sg → Prop} (hP : WP w_Mod_byOne P) {σ : Sg} {a1 : Int32} {a2 : Int32} {a3 : Int32} (h : P σ) : PP P (f_Mod_byOne σ a1 a2 a3) := by
  unfold f_Mod_byOne
  refine bnd_zz (Z := PP P) (p_Mod_is (wsub hP rfl) h) fun r1 e1 q1 => ?_
  refine ite_z (fun _ => ?_) (fun _ => ?_)
  · refine bnd_zz (Z := PP P) (p_Mod_plus (wsub hP rfl) q1) fun r3 e3 q3 => ?_
    exact p_Mod_byOne_30 (wsub hP rfl) q3
  · refine bnd_zz (Z := PP P) (p_Mod_less (wsub hP rfl) q1) fun r4 e4 q4 => ?_
    exact p_Mod_byOne_30 (wsub hP rfl) q4
set_option maxRecDepth 100000 in
set_option maxHeartbeats 4000000 in
theorem s_Mod_byOne {l : Launch} {ad : Nat → Nat} {D : va_G} {cI : ClassId} {σ : Sg} {a1 : Int32} {a2 : Int32} {a3 : Int32} {K : Option Value → Sg → Prop}   (hK : KI K (f_Mod_byOne σ a1 a2 a3)) : MetJ l ad D cI mi_Mod_byOne [.ref 15, .int a1, .int a2, .int a3] σ K := by
  refine met_of mi_Mod_byOne pt_Mod pt_Mod_in rfl pl_Mod rfl (Nat.le_of_ble_eq_true rfl) fun X hX => ?_
  have hX : Cl l ad D cI mi_Mod_byOne pt_Mod K X := hX
  show X 0 [.ref 15, .int a1, .int a2, .int a3, .null, .null] [] σ
  unfold f_Mod_byOne at hK
  refine hX.1 22 I_Mod_byOne_0 ok_Mod_byOne_0 _ _ _ ?_
  refine s_Mod_is (bnd_g hK fun r1 e1 hK => ?_)
  have z1 : r1.1 = 0 ∨ r1.1 = 1 := by rw [← e1]; exact z_Mod_is
  refine And.intro (fun h2 => ?_) (fun h2 => ?_)
  · have hK := ite_p hK h2
    refine hX.1 30 I_Mod_byOne_22 ok_Mod_byOne_22 _ _ _ ?_
    refine s_Mod_plus (bnd_g hK fun r3 e3 hK => ?_)
    refine hX.fg [1, 2, 3] ?_
    exact b_Mod_byOne_30 hX z1  hK
  · have hK := ite_n hK h2
    refine s_Mod_less (bnd_g hK fun r4 e4 hK => ?_)
    refine hX.fg [1, 2, 3] ?_
    exact b_Mod_byOne_30 hX z1  hK
def I_Mod_interrupt_0 : List IT := [(0, .aload_n 0, 1, 0, 0, []), (1, .aload_n 0, 1, 0, 0, []), (2, .getfield 92, 3, 0, 0, []), (5, .invokevirtual 128, 3, 0, 0, []), (8, .aload_n 0, 1, 0, 0, []), (9, .aload_n 0, 1, 0, 0, []), (10, .getfield 16, 3, 0, 0, []), (13, .iconst 1, 1, 1, 0, []), (14, .iaload, 1, 0, 0, []), (15, .invokevirtual 128, 3, 0, 0, []), (18, .aload_n 0, 1, 0, 0, []), (19, .aload_n 0, 1, 0, 0, []), (20, .getfield 22, 3, 0, 0, []), (23, .invokevirtual 128, 3, 0, 0, []), (26, .aload_n 0, 1, 0, 0, []), (27, .sipush 512, 3, 512, 0, []), (30, .iconst 0, 1, 0, 0, []), (31, .invokevirtual 95, 3, 0, 0, []), (34, .iconst 4, 1, 4, 0, []), (35, .iload_n 1, 1, 0, 0, []), (36, .bipush 15, 2, 15, 0, []), (38, .iand, 1, 0, 0, []), (39, .imul, 1, 0, 0, []), (40, .istore_n 2, 1, 0, 0, []), (41, .aload_n 0, 1, 0, 0, []), (42, .aload_n 0, 1, 0, 0, []), (43, .getfield 7, 3, 0, 0, []), (46, .iload_n 2, 1, 0, 0, []), (47, .iaload, 1, 0, 0, []), (48, .sipush 256, 3, 256, 0, []), (51, .aload_n 0, 1, 0, 0, []), (52, .getfield 7, 3, 0, 0, []), (55, .iload_n 2, 1, 0, 0, []), (56, .iconst 1, 1, 1, 0, []), (57, .iadd, 1, 0, 0, []), (58, .iaload, 1, 0, 0, []), (59, .imul, 1, 0, 0, []), (60, .iadd, 1, 0, 0, []), (61, .putfield 22, 3, 0, 0, []), (64, .aload_n 0, 1, 0, 0, []), (65, .getfield 16, 3, 0, 0, []), (68, .iconst 1, 1, 1, 0, []), (69, .aload_n 0, 1, 0, 0, []), (70, .getfield 7, 3, 0, 0, []), (73, .iload_n 2, 1, 0, 0, []), (74, .iconst 2, 1, 2, 0, []), (75, .iadd, 1, 0, 0, []), (76, .iaload, 1, 0, 0, []), (77, .sipush 256, 3, 256, 0, []), (80, .aload_n 0, 1, 0, 0, []), (81, .getfield 7, 3, 0, 0, []), (84, .iload_n 2, 1, 0, 0, []), (85, .iconst 3, 1, 3, 0, []), (86, .iadd, 1, 0, 0, []), (87, .iaload, 1, 0, 0, []), (88, .imul, 1, 0, 0, []), (89, .iadd, 1, 0, 0, []), (90, .iastore, 1, 0, 0, []), (91, .aload_n 0, 1, 0, 0, []), (92, .aload_n 0, 1, 0, 0, []), (93, .getfield 132, 3, 0, 0, []), (96, .iconst 1, 1, 1, 0, []), (97, .iadd, 1, 0, 0, []), (98, .putfield 132, 3, 0, 0, []), (101, .return_, 1, 0, 0, [])]
theorem ok_Mod_interrupt_0 : blkOK b_Mod_interrupt pt_Mod 102 I_Mod_interrupt_0 = true := by decide +kernel
def f_Mod_interrupt (σ : Sg) (a1 : Int32) : Sg := (bnd (f_Mod_push σ (σ 15 4)) fun r1 => bnd (f_Mod_push r1 (r1 18 (Int32.toNatClampNeg (1 : Int32)))) fun r2 => bnd (f_Mod_push r2 (r2 15 3)) fun r3 => bnd (f_Mod_flag r3 (512 : Int32) (0 : Int32)) fun r4 => bnd (up2 r4 15 3 ((r4 16 (Int32.toNatClampNeg ((4 : Int32) * (a1 &&& (15 : Int32))))) + ((256 : Int32) * (r4 16 (Int32.toNatClampNeg (((4 : Int32) * (a1 &&& (15 : Int32))) + (1 : Int32))))))) fun s5 => bnd (up2 s5 18 (Int32.toNatClampNeg (1 : Int32)) ((s5 16 (Int32.toNatClampNeg (((4 : Int32) * (a1 &&& (15 : Int32))) + (2 : Int32)))) + ((256 : Int32) * (s5 16 (Int32.toNatClampNeg (((4 : Int32) * (a1 &&& (15 : Int32))) + (3 : Int32))))))) fun s6 => bnd (up2 s6 15 7 ((s6 15 7) + (1 : Int32))) fun s7 => s7)
abbrev w_Mod_interrupt : List (Nat × Option Nat) := [(15, some 3), (15, some 4), (15, some 7), (16, none), (17, none), (18, none)]
theorem p_Mod_interrupt {P : Sg → Prop} (hP : WP w_Mod_interrupt P) {σ : Sg} {a1 : Int32} (h : P σ) : P (f_Mod_interrupt σ a1) := by
  unfold f_Mod_interrupt
  refine bnd_zz (Z := P) (p_Mod_push (wsub hP rfl) h) fun r1 e1 q1 => ?_
  refine bnd_zz (Z := P) (p_Mod_push (wsub hP rfl) q1) fun r2 e2 q2 => ?_
  refine bnd_zz (Z := P) (p_Mod_push (wsub hP rfl) q2) fun r3 e3 q3 => ?_
  refine bnd_zz (Z := P) (p_Mod_flag (wsub hP rfl) q3) fun r4 e4 q4 => ?_
  refine bnd_zz (Z := P) (hP _ _ _ _ (Or.inr (by decide)) q4) fun s5 e5 q5 => ?_
  refine bnd_zz (Z := P) (hP _ _ _ _ (Or.inl (by decide)) q5) fun s6 e6 q6 => ?_
  refine bnd_zz (Z := P) (hP _ _ _ _ (Or.inr (by decide)) q6) fun s7 e7 q7 => ?_
  exact q7
set_option maxRecDepth 100000 in
set_option maxHeartbeats 4000000 in
theorem s_Mod_interrupt {l : Launch} {ad : Nat → Nat} {D : va_G} {cI : ClassId} {σ : Sg} {a1 : Int32} {K : Option Value → Sg → Prop}   (hK : KV K (f_Mod_interrupt σ a1)) : MetJ l ad D cI mi_Mod_interrupt [.ref 15, .int a1] σ K := by
  refine met_of mi_Mod_interrupt pt_Mod pt_Mod_in rfl pl_Mod rfl (Nat.le_of_ble_eq_true rfl) fun X hX => ?_
  have hX : Cl l ad D cI mi_Mod_interrupt pt_Mod K X := hX
  show X 0 [.ref 15, .int a1, .null] [] σ
  unfold f_Mod_interrupt at hK
  refine hX.1 102 I_Mod_interrupt_0 ok_Mod_interrupt_0 _ _ _ ?_
  refine s_Mod_push (bnd_g hK fun r1 e1 hK => ?_)
  refine And.intro (vin (by decide)) ?_
  refine s_Mod_push (bnd_g hK fun r2 e2 hK => ?_)
  refine s_Mod_push (bnd_g hK fun r3 e3 hK => ?_)
  refine s_Mod_flag (bnd_g hK fun r4 e4 hK => ?_)
  refine And.intro (vin_vec0 a1) ?_
  refine And.intro (vin_vec1 a1) ?_
  refine And.intro trivial (SG_g hK fun s5 e5 hK => ?_)
  refine And.intro (vin_vec2 a1) ?_
  refine And.intro (vin_vec3 a1) ?_
  refine And.intro (vin (by decide)) (SG_g hK fun s6 e6 hK => ?_)
  refine And.intro trivial (SG_g hK fun s7 e7 hK => ?_)
  exact hK
end
