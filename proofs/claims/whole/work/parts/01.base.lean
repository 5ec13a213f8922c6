/-! THE TYPES OF THE TABLES (names come behind) -/
/-- a method: name, bytes, locals, answer, frames and words of locals that its calls need -/
abbrev MI : Type := MethodName × ByteArray × Nat × Option FieldType × Nat × Nat
/-- an item of a block: pc, instruction, length, number, target, pairs of a switch -/
abbrev IT : Type := Nat × Instr × Nat × Int32 × Nat × List (Int32 × Nat)
/-- what a class's pool says: own name; fields (pool index, class, slot, kind: 1 int, 2 boolean, 0 not to be written); methods (pool index, method, arguments, receiver's class); static methods; ints; longs -/
abbrev PT : Type := String × List (Nat × Nat × Nat × Nat) × List (Nat × MI × Nat × Nat) × List (Nat × MI × Nat) × List (Nat × Int32) × List (Nat × Int64)
/-- a cell's shape: an int array of a length, or an object: its class, and for each slot the cell that it names, or a number -/
abbrev Sh : Type := Nat ⊕ (Nat × List (Option Nat))
