def RX0 : String := "MumpsHouse$House"
def TX0 : u_T := fun k => match k with
  | 0 => ("MumpsHouse$House", "globals", "LMumpsHouse$Tree;", true)
  | 1 => ("MumpsHouse$House", "routines", "[LMumpsHouse$Text;", true)
  | 2 => ("MumpsHouse$House", "routineCount", "I", false)
  | 3 => ("MumpsHouse$House", "spare", "LMumpsHouse$Text;", false)
  | 4 => ("MumpsHouse$House", "blocks", "[B", true)
  | 5 => ("MumpsHouse$House", "fresh", "[B", true)
  | 6 => ("MumpsHouse$House", "used", "I", false)
  | 7 => ("MumpsHouse$House", "waiting", "LMumpsHouse$Row;", true)
  | 8 => ("MumpsHouse$House", "units", "I", false)
  | 9 => ("MumpsHouse$House", "cutAt", "I", false)
  | 10 => ("MumpsHouse$House", "tear", "I", false)
  | 11 => ("MumpsHouse$House", "torn", "I", false)
  | 12 => ("MumpsHouse$House", "down", "Z", false)
  | 13 => ("MumpsHouse$House", "locks", "[LMumpsHouse$Node;", true)
  | 14 => ("MumpsHouse$House", "lockCount", "I", false)
  | 15 => ("MumpsHouse$House", "second", "I", false)
  | 16 => ("MumpsHouse$House", "x", "J", false)
  | _ => ("MumpsHouse$House", "counts", "[I", true)
def tyX0 : Nat → FieldType := fun k => match k with
  | 0 => .object "MumpsHouse$Tree"
  | 1 => .array (.object "MumpsHouse$Text")
  | 2 => .int
  | 3 => .object "MumpsHouse$Text"
  | 4 => .array .byte
  | 5 => .array .byte
  | 6 => .int
  | 7 => .object "MumpsHouse$Row"
  | 8 => .int
  | 9 => .int
  | 10 => .int
  | 11 => .int
  | 12 => .boolean
  | 13 => .array (.object "MumpsHouse$Node")
  | 14 => .int
  | 15 => .int
  | 16 => .long
  | _ => .array .int
abbrev wsX00 : List Cond := u_ws RX0 TX0 18
theorem nmX0 : ∀ a, a < 18 → ∀ b, b < 18 → a ≠ b → (TX0 a).2.1 ≠ (TX0 b).2.1 := by decide +kernel
theorem tyX0_ok : ∀ k, k < 18 → parseFieldDescriptor (TX0 k).2.2.1 = some (tyX0 k) := by decide +kernel
abbrev cX0_init : ByteArray := prog_2_method_1_code
def yX0_init : MethodName := ⟨RX0, "<init>", "()V"⟩
abbrev cX0_lockAt : ByteArray := prog_2_method_17_code
def yX0_lockAt : MethodName := ⟨RX0, "lockAt", "(I)LMumpsHouse$Node;"⟩
abbrev cX0_octetAt : ByteArray := prog_2_method_18_code
def yX0_octetAt : MethodName := ⟨RX0, "octetAt", "(II)I"⟩
abbrev cX0_write : ByteArray := prog_2_method_20_code
def yX0_write : MethodName := ⟨RX0, "write", "()I"⟩
def RX1 : String := "MumpsHouse$Level"
def TX1 : u_T := fun k => match k with
  | 0 => ("MumpsHouse$Level", "kind", "I", false)
  | 1 => ("MumpsHouse$Level", "text", "LMumpsHouse$Text;", false)
  | 2 => ("MumpsHouse$Level", "line", "I", false)
  | 3 => ("MumpsHouse$Level", "block", "I", false)
  | 4 => ("MumpsHouse$Level", "test", "I", false)
  | 5 => ("MumpsHouse$Level", "strings", "I", false)
  | 6 => ("MumpsHouse$Level", "nodes", "I", false)
  | 7 => ("MumpsHouse$Level", "ats", "I", false)
  | 8 => ("MumpsHouse$Level", "loops", "I", false)
  | 9 => ("MumpsHouse$Level", "hidden", "I", false)
  | 10 => ("MumpsHouse$Level", "back", "LMumpsHouse$Text;", false)
  | 11 => ("MumpsHouse$Level", "backPlace", "I", false)
  | 12 => ("MumpsHouse$Level", "trap", "LMumpsHouse$Row;", true)
  | 13 => ("MumpsHouse$Level", "trapped", "Z", false)
  | 14 => ("MumpsHouse$Level", "own", "LMumpsHouse$Text;", true)
  | _ => ("MumpsHouse$Level", "trapText", "LMumpsHouse$Text;", true)
def tyX1 : Nat → FieldType := fun k => match k with
  | 0 => .int
  | 1 => .object "MumpsHouse$Text"
  | 2 => .int
  | 3 => .int
  | 4 => .int
  | 5 => .int
  | 6 => .int
  | 7 => .int
  | 8 => .int
  | 9 => .int
  | 10 => .object "MumpsHouse$Text"
  | 11 => .int
  | 12 => .object "MumpsHouse$Row"
  | 13 => .boolean
  | 14 => .object "MumpsHouse$Text"
  | _ => .object "MumpsHouse$Text"
abbrev wsX10 : List Cond := u_ws RX1 TX1 16
theorem nmX1 : ∀ a, a < 16 → ∀ b, b < 16 → a ≠ b → (TX1 a).2.1 ≠ (TX1 b).2.1 := by decide +kernel
theorem tyX1_ok : ∀ k, k < 16 → parseFieldDescriptor (TX1 k).2.2.1 = some (tyX1 k) := by decide +kernel
abbrev cX1_init : ByteArray := prog_3_method_1_code
def yX1_init : MethodName := ⟨RX1, "<init>", "()V"⟩
abbrev cX1_many : ByteArray := prog_3_method_2_code
def yX1_many : MethodName := ⟨RX1, "many", "(I)[LMumpsHouse$Level;"⟩
def RX2 : String := "MumpsHouse$Machine"
def TX2 : u_T := fun k => match k with
  | 0 => ("MumpsHouse$Machine", "house", "LMumpsHouse$House;", true)
  | 1 => ("MumpsHouse$Machine", "locals", "LMumpsHouse$Tree;", true)
  | 2 => ("MumpsHouse$Machine", "references", "[I", true)
  | 3 => ("MumpsHouse$Machine", "procs", "[LMumpsHouse$Proc;", true)
  | 4 => ("MumpsHouse$Machine", "procCount", "I", false)
  | 5 => ("MumpsHouse$Machine", "works", "[LMumpsHouse$Work;", true)
  | 6 => ("MumpsHouse$Machine", "proc", "LMumpsHouse$Proc;", false)
  | 7 => ("MumpsHouse$Machine", "work", "LMumpsHouse$Work;", false)
  | 8 => ("MumpsHouse$Machine", "phase", "I", false)
  | 9 => ("MumpsHouse$Machine", "begun", "Z", false)
  | 10 => ("MumpsHouse$Machine", "error", "I", false)
  | 11 => ("MumpsHouse$Machine", "met", "LMumpsHouse$Node;", true)
  | 12 => ("MumpsHouse$Machine", "other", "LMumpsHouse$Node;", true)
  | 13 => ("MumpsHouse$Machine", "a", "LMumpsHouse$Num;", true)
  | 14 => ("MumpsHouse$Machine", "b", "LMumpsHouse$Num;", true)
  | 15 => ("MumpsHouse$Machine", "out", "LMumpsHouse$Row;", true)
  | 16 => ("MumpsHouse$Machine", "given", "LMumpsHouse$Row;", true)
  | 17 => ("MumpsHouse$Machine", "sets", "[J", true)
  | _ => ("MumpsHouse$Machine", "ids", "[I", true)
def tyX2 : Nat → FieldType := fun k => match k with
  | 0 => .object "MumpsHouse$House"
  | 1 => .object "MumpsHouse$Tree"
  | 2 => .array .int
  | 3 => .array (.object "MumpsHouse$Proc")
  | 4 => .int
  | 5 => .array (.object "MumpsHouse$Work")
  | 6 => .object "MumpsHouse$Proc"
  | 7 => .object "MumpsHouse$Work"
  | 8 => .int
  | 9 => .boolean
  | 10 => .int
  | 11 => .object "MumpsHouse$Node"
  | 12 => .object "MumpsHouse$Node"
  | 13 => .object "MumpsHouse$Num"
  | 14 => .object "MumpsHouse$Num"
  | 15 => .object "MumpsHouse$Row"
  | 16 => .object "MumpsHouse$Row"
  | 17 => .array .long
  | _ => .array .int
abbrev wsX20 : List Cond := u_ws RX2 TX2 19
theorem nmX2 : ∀ a, a < 19 → ∀ b, b < 19 → a ≠ b → (TX2 a).2.1 ≠ (TX2 b).2.1 := by decide +kernel
theorem tyX2_ok : ∀ k, k < 19 → parseFieldDescriptor (TX2 k).2.2.1 = some (tyX2 k) := by decide +kernel
abbrev cX2_init : ByteArray := prog_4_method_1_code
def yX2_init : MethodName := ⟨RX2, "<init>", "(LMumpsHouse$House;)V"⟩
abbrev cX2_proc : ByteArray := prog_4_method_3_code
def yX2_proc : MethodName := ⟨RX2, "proc", "(I)LMumpsHouse$Proc;"⟩
abbrev cX2_living : ByteArray := prog_4_method_4_code
def yX2_living : MethodName := ⟨RX2, "living", "(I)LMumpsHouse$Proc;"⟩
abbrev cX2_livingCount : ByteArray := prog_4_method_5_code
def yX2_livingCount : MethodName := ⟨RX2, "livingCount", "()I"⟩
abbrev cX2_isBusy : ByteArray := prog_4_method_6_code
def yX2_isBusy : MethodName := ⟨RX2, "isBusy", "(LMumpsHouse$Work;)Z"⟩
abbrev cX2_create : ByteArray := prog_4_method_7_code
def yX2_create : MethodName := ⟨RX2, "create", "()LMumpsHouse$Proc;"⟩
abbrev cX2_choose : ByteArray := prog_4_method_9_code
def yX2_choose : MethodName := ⟨RX2, "choose", "()I"⟩
abbrev cX2_beginProcess : ByteArray := prog_4_method_119_code
def yX2_beginProcess : MethodName := ⟨RX2, "beginProcess", "(LMumpsHouse$Row;)LMumpsHouse$Proc;"⟩
def RX3 : String := "MumpsHouse$Node"
def TX3 : u_T := fun k => match k with
  | 0 => ("MumpsHouse$Node", "key", "[B", true)
  | 1 => ("MumpsHouse$Node", "length", "I", false)
  | 2 => ("MumpsHouse$Node", "subscripts", "I", false)
  | 3 => ("MumpsHouse$Node", "name", "J", false)
  | 4 => ("MumpsHouse$Node", "kind", "I", false)
  | 5 => ("MumpsHouse$Node", "owner", "I", false)
  | 6 => ("MumpsHouse$Node", "times", "I", false)
  | 7 => ("MumpsHouse$Node", "bad", "Z", false)
  | _ => ("MumpsHouse$Node", "lastEmpty", "Z", false)
def tyX3 : Nat → FieldType := fun k => match k with
  | 0 => .array .byte
  | 1 => .int
  | 2 => .int
  | 3 => .long
  | 4 => .int
  | 5 => .int
  | 6 => .int
  | 7 => .boolean
  | _ => .boolean
abbrev wsX30 : List Cond := u_ws RX3 TX3 9
theorem nmX3 : ∀ a, a < 9 → ∀ b, b < 9 → a ≠ b → (TX3 a).2.1 ≠ (TX3 b).2.1 := by decide +kernel
theorem tyX3_ok : ∀ k, k < 9 → parseFieldDescriptor (TX3 k).2.2.1 = some (tyX3 k) := by decide +kernel
abbrev cX3_init : ByteArray := prog_5_method_1_code
def yX3_init : MethodName := ⟨RX3, "<init>", "()V"⟩
abbrev cX3_many : ByteArray := prog_5_method_2_code
def yX3_many : MethodName := ⟨RX3, "many", "(I)[LMumpsHouse$Node;"⟩
abbrev cX3_begin : ByteArray := prog_5_method_3_code
def yX3_begin : MethodName := ⟨RX3, "begin", "(IJ)V"⟩
abbrev cX3_read : ByteArray := prog_5_method_13_code
def yX3_read : MethodName := ⟨RX3, "read", "(LMumpsHouse$Row;LMumpsHouse$Row;)Z"⟩
def RX4 : String := "MumpsHouse$Num"
def TX4 : u_T := fun k => match k with
  | 0 => ("MumpsHouse$Num", "m", "J", false)
  | 1 => ("MumpsHouse$Num", "e", "I", false)
  | _ => ("MumpsHouse$Num", "row", "[I", true)
def tyX4 : Nat → FieldType := fun k => match k with
  | 0 => .long
  | 1 => .int
  | _ => .array .int
abbrev wsX40 : List Cond := u_ws RX4 TX4 3
theorem nmX4 : ∀ a, a < 3 → ∀ b, b < 3 → a ≠ b → (TX4 a).2.1 ≠ (TX4 b).2.1 := by decide +kernel
theorem tyX4_ok : ∀ k, k < 3 → parseFieldDescriptor (TX4 k).2.2.1 = some (tyX4 k) := by decide +kernel
abbrev cX4_init : ByteArray := prog_6_method_1_code
def yX4_init : MethodName := ⟨RX4, "<init>", "(I)V"⟩
abbrev cX4_many : ByteArray := prog_6_method_2_code
def yX4_many : MethodName := ⟨RX4, "many", "(I)[LMumpsHouse$Num;"⟩
def RX5 : String := "MumpsHouse$Proc"
def TX5 : u_T := fun k => match k with
  | 0 => ("MumpsHouse$Proc", "number", "I", false)
  | 1 => ("MumpsHouse$Proc", "work", "LMumpsHouse$Work;", false)
  | 2 => ("MumpsHouse$Proc", "status", "I", false)
  | 3 => ("MumpsHouse$Proc", "wait", "I", false)
  | 4 => ("MumpsHouse$Proc", "deadline", "J", false)
  | 5 => ("MumpsHouse$Proc", "test", "I", false)
  | 6 => ("MumpsHouse$Proc", "depth", "I", false)
  | 7 => ("MumpsHouse$Proc", "restarts", "I", false)
  | 8 => ("MumpsHouse$Proc", "x", "I", false)
  | 9 => ("MumpsHouse$Proc", "y", "I", false)
  | 10 => ("MumpsHouse$Proc", "began", "I", false)
  | 11 => ("MumpsHouse$Proc", "stream", "J", false)
  | 12 => ("MumpsHouse$Proc", "code", "LMumpsHouse$Row;", true)
  | _ => ("MumpsHouse$Proc", "out", "LMumpsHouse$Row;", true)
def tyX5 : Nat → FieldType := fun k => match k with
  | 0 => .int
  | 1 => .object "MumpsHouse$Work"
  | 2 => .int
  | 3 => .int
  | 4 => .long
  | 5 => .int
  | 6 => .int
  | 7 => .int
  | 8 => .int
  | 9 => .int
  | 10 => .int
  | 11 => .long
  | 12 => .object "MumpsHouse$Row"
  | _ => .object "MumpsHouse$Row"
abbrev wsX50 : List Cond := u_ws RX5 TX5 14
theorem nmX5 : ∀ a, a < 14 → ∀ b, b < 14 → a ≠ b → (TX5 a).2.1 ≠ (TX5 b).2.1 := by decide +kernel
theorem tyX5_ok : ∀ k, k < 14 → parseFieldDescriptor (TX5 k).2.2.1 = some (tyX5 k) := by decide +kernel
abbrev cX5_init : ByteArray := prog_7_method_1_code
def yX5_init : MethodName := ⟨RX5, "<init>", "()V"⟩
abbrev cX5_many : ByteArray := prog_7_method_2_code
def yX5_many : MethodName := ⟨RX5, "many", "(I)[LMumpsHouse$Proc;"⟩
abbrev cX5_begin : ByteArray := prog_7_method_3_code
def yX5_begin : MethodName := ⟨RX5, "begin", "(ILMumpsHouse$Work;)V"⟩
def RX6 : String := "MumpsHouse$Row"
def TX6 : u_T := fun k => match k with
  | 0 => ("MumpsHouse$Row", "bytes", "[B", true)
  | 1 => ("MumpsHouse$Row", "length", "I", false)
  | _ => ("MumpsHouse$Row", "kind", "I", false)
def tyX6 : Nat → FieldType := fun k => match k with
  | 0 => .array .byte
  | 1 => .int
  | _ => .int
abbrev wsX60 : List Cond := u_ws RX6 TX6 3
theorem nmX6 : ∀ a, a < 3 → ∀ b, b < 3 → a ≠ b → (TX6 a).2.1 ≠ (TX6 b).2.1 := by decide +kernel
theorem tyX6_ok : ∀ k, k < 3 → parseFieldDescriptor (TX6 k).2.2.1 = some (tyX6 k) := by decide +kernel
abbrev cX6_init : ByteArray := prog_8_method_1_code
def yX6_init : MethodName := ⟨RX6, "<init>", "(I)V"⟩
abbrev cX6_many : ByteArray := prog_8_method_2_code
def yX6_many : MethodName := ⟨RX6, "many", "(II)[LMumpsHouse$Row;"⟩
abbrev cX6_clear : ByteArray := prog_8_method_3_code
def yX6_clear : MethodName := ⟨RX6, "clear", "()V"⟩
abbrev cX6_at : ByteArray := prog_8_method_4_code
def yX6_at : MethodName := ⟨RX6, "at", "(I)I"⟩
abbrev cX6_add : ByteArray := prog_8_method_5_code
def yX6_add : MethodName := ⟨RX6, "add", "(I)V"⟩
abbrev cX6_addPart : ByteArray := prog_8_method_6_code
def yX6_addPart : MethodName := ⟨RX6, "addPart", "([BII)Z"⟩
def RX7 : String := "MumpsHouse$Scope"
def TX7 : u_T := fun k => match k with
  | 0 => ("MumpsHouse$Scope", "names", "[J", true)
  | 1 => ("MumpsHouse$Scope", "cells", "[I", true)
  | 2 => ("MumpsHouse$Scope", "count", "I", false)
  | 3 => ("MumpsHouse$Scope", "hiddenNames", "[J", true)
  | 4 => ("MumpsHouse$Scope", "hiddenCells", "[I", true)
  | 5 => ("MumpsHouse$Scope", "hiddenCount", "I", false)
  | 6 => ("MumpsHouse$Scope", "keptNames", "[J", true)
  | 7 => ("MumpsHouse$Scope", "keptCells", "[I", true)
  | 8 => ("MumpsHouse$Scope", "keptCount", "I", false)
  | 9 => ("MumpsHouse$Scope", "copies", "[J", true)
  | 10 => ("MumpsHouse$Scope", "marks", "[I", true)
  | 11 => ("MumpsHouse$Scope", "copyCount", "I", false)
  | 12 => ("MumpsHouse$Scope", "log", "LMumpsHouse$Row;", true)
  | 13 => ("MumpsHouse$Scope", "restartable", "Z", false)
  | 14 => ("MumpsHouse$Scope", "gone", "I", false)
  | 15 => ("MumpsHouse$Scope", "level", "I", false)
  | 16 => ("MumpsHouse$Scope", "loops", "I", false)
  | 17 => ("MumpsHouse$Scope", "text", "LMumpsHouse$Text;", false)
  | 18 => ("MumpsHouse$Scope", "line", "I", false)
  | _ => ("MumpsHouse$Scope", "place", "I", false)
def tyX7 : Nat → FieldType := fun k => match k with
  | 0 => .array .long
  | 1 => .array .int
  | 2 => .int
  | 3 => .array .long
  | 4 => .array .int
  | 5 => .int
  | 6 => .array .long
  | 7 => .array .int
  | 8 => .int
  | 9 => .array .long
  | 10 => .array .int
  | 11 => .int
  | 12 => .object "MumpsHouse$Row"
  | 13 => .boolean
  | 14 => .int
  | 15 => .int
  | 16 => .int
  | 17 => .object "MumpsHouse$Text"
  | 18 => .int
  | _ => .int
abbrev wsX70 : List Cond := u_ws RX7 TX7 20
theorem nmX7 : ∀ a, a < 20 → ∀ b, b < 20 → a ≠ b → (TX7 a).2.1 ≠ (TX7 b).2.1 := by decide +kernel
theorem tyX7_ok : ∀ k, k < 20 → parseFieldDescriptor (TX7 k).2.2.1 = some (tyX7 k) := by decide +kernel
abbrev cX7_init : ByteArray := prog_9_method_1_code
def yX7_init : MethodName := ⟨RX7, "<init>", "()V"⟩
abbrev cX7_begin : ByteArray := prog_9_method_2_code
def yX7_begin : MethodName := ⟨RX7, "begin", "()V"⟩
def RX8 : String := "MumpsHouse$Text"
def TX8 : u_T := fun k => match k with
  | 0 => ("MumpsHouse$Text", "bytes", "[B", true)
  | 1 => ("MumpsHouse$Text", "length", "I", false)
  | 2 => ("MumpsHouse$Text", "code", "[I", true)
  | 3 => ("MumpsHouse$Text", "codeLength", "I", false)
  | 4 => ("MumpsHouse$Text", "lines", "I", false)
  | 5 => ("MumpsHouse$Text", "starts", "[I", true)
  | 6 => ("MumpsHouse$Text", "codes", "[I", true)
  | 7 => ("MumpsHouse$Text", "levels", "[I", true)
  | 8 => ("MumpsHouse$Text", "labels", "[J", true)
  | 9 => ("MumpsHouse$Text", "formals", "[I", true)
  | 10 => ("MumpsHouse$Text", "targets", "[I", true)
  | 11 => ("MumpsHouse$Text", "name", "J", false)
  | 12 => ("MumpsHouse$Text", "back", "LMumpsHouse$Text;", false)
  | 13 => ("MumpsHouse$Text", "backPlace", "I", false)
  | 14 => ("MumpsHouse$Text", "at", "I", false)
  | 15 => ("MumpsHouse$Text", "fault", "I", false)
  | 16 => ("MumpsHouse$Text", "lined", "Z", false)
  | _ => ("MumpsHouse$Text", "found", "I", false)
def tyX8 : Nat → FieldType := fun k => match k with
  | 0 => .array .byte
  | 1 => .int
  | 2 => .array .int
  | 3 => .int
  | 4 => .int
  | 5 => .array .int
  | 6 => .array .int
  | 7 => .array .int
  | 8 => .array .long
  | 9 => .array .int
  | 10 => .array .int
  | 11 => .long
  | 12 => .object "MumpsHouse$Text"
  | 13 => .int
  | 14 => .int
  | 15 => .int
  | 16 => .boolean
  | _ => .int
abbrev wsX80 : List Cond := u_ws RX8 TX8 18
theorem nmX8 : ∀ a, a < 18 → ∀ b, b < 18 → a ≠ b → (TX8 a).2.1 ≠ (TX8 b).2.1 := by decide +kernel
theorem tyX8_ok : ∀ k, k < 18 → parseFieldDescriptor (TX8 k).2.2.1 = some (tyX8 k) := by decide +kernel
abbrev cX8_init : ByteArray := prog_10_method_1_code
def yX8_init : MethodName := ⟨RX8, "<init>", "(II)V"⟩
abbrev cX8_many : ByteArray := prog_10_method_2_code
def yX8_many : MethodName := ⟨RX8, "many", "(III)[LMumpsHouse$Text;"⟩
abbrev cX8_load : ByteArray := prog_10_method_3_code
def yX8_load : MethodName := ⟨RX8, "load", "([BII)Z"⟩
abbrev cX8_begin : ByteArray := prog_10_method_14_code
def yX8_begin : MethodName := ⟨RX8, "begin", "(Z)V"⟩
abbrev cX8_emit : ByteArray := prog_10_method_19_code
def yX8_emit : MethodName := ⟨RX8, "emit", "(II)V"⟩
abbrev cX8_lineEnds : ByteArray := prog_10_method_21_code
def yX8_lineEnds : MethodName := ⟨RX8, "lineEnds", "()Z"⟩
abbrev cX8_beginLine : ByteArray := prog_10_method_24_code
def yX8_beginLine : MethodName := ⟨RX8, "beginLine", "(I)V"⟩
abbrev cX8_readPiece : ByteArray := prog_10_method_28_code
def yX8_readPiece : MethodName := ⟨RX8, "readPiece", "(I)Z"⟩
abbrev cX8_commands : ByteArray := prog_10_method_32_code
def yX8_commands : MethodName := ⟨RX8, "commands", "()V"⟩
def RX9 : String := "MumpsHouse$Tree"
def TX9 : u_T := fun k => match k with
  | 0 => ("MumpsHouse$Tree", "nodes", "[LMumpsHouse$Node;", true)
  | 1 => ("MumpsHouse$Tree", "values", "[LMumpsHouse$Row;", true)
  | 2 => ("MumpsHouse$Tree", "order", "[I", true)
  | 3 => ("MumpsHouse$Tree", "spare", "[I", true)
  | 4 => ("MumpsHouse$Tree", "byName", "Z", true)
  | 5 => ("MumpsHouse$Tree", "count", "I", false)
  | 6 => ("MumpsHouse$Tree", "from", "I", false)
  | _ => ("MumpsHouse$Tree", "behind", "I", false)
def tyX9 : Nat → FieldType := fun k => match k with
  | 0 => .array (.object "MumpsHouse$Node")
  | 1 => .array (.object "MumpsHouse$Row")
  | 2 => .array .int
  | 3 => .array .int
  | 4 => .boolean
  | 5 => .int
  | 6 => .int
  | _ => .int
abbrev wsX90 : List Cond := u_ws RX9 TX9 8
theorem nmX9 : ∀ a, a < 8 → ∀ b, b < 8 → a ≠ b → (TX9 a).2.1 ≠ (TX9 b).2.1 := by decide +kernel
theorem tyX9_ok : ∀ k, k < 8 → parseFieldDescriptor (TX9 k).2.2.1 = some (tyX9 k) := by decide +kernel
abbrev cX9_init : ByteArray := prog_11_method_1_code
def yX9_init : MethodName := ⟨RX9, "<init>", "(IZ)V"⟩
abbrev cX9_clear : ByteArray := prog_11_method_2_code
def yX9_clear : MethodName := ⟨RX9, "clear", "()V"⟩
abbrev cX9_inOrder : ByteArray := prog_11_method_19_code
def yX9_inOrder : MethodName := ⟨RX9, "inOrder", "()Z"⟩
def RX10 : String := "MumpsHouse$Work"
def TX10 : u_T := fun k => match k with
  | 0 => ("MumpsHouse$Work", "strings", "[LMumpsHouse$Row;", true)
  | 1 => ("MumpsHouse$Work", "stringCount", "I", false)
  | 2 => ("MumpsHouse$Work", "nodes", "[LMumpsHouse$Node;", true)
  | 3 => ("MumpsHouse$Work", "nodeCount", "I", false)
  | 4 => ("MumpsHouse$Work", "levels", "[LMumpsHouse$Level;", true)
  | 5 => ("MumpsHouse$Work", "levelCount", "I", false)
  | 6 => ("MumpsHouse$Work", "ats", "[LMumpsHouse$Text;", true)
  | 7 => ("MumpsHouse$Work", "atCount", "I", false)
  | 8 => ("MumpsHouse$Work", "loops", "[I", true)
  | 9 => ("MumpsHouse$Work", "loopNames", "[J", true)
  | 10 => ("MumpsHouse$Work", "steps", "[LMumpsHouse$Num;", true)
  | 11 => ("MumpsHouse$Work", "limits", "[LMumpsHouse$Num;", true)
  | 12 => ("MumpsHouse$Work", "loopCount", "I", false)
  | 13 => ("MumpsHouse$Work", "text", "LMumpsHouse$Text;", false)
  | 14 => ("MumpsHouse$Work", "place", "I", false)
  | 15 => ("MumpsHouse$Work", "told", "[LMumpsHouse$Row;", true)
  | 16 => ("MumpsHouse$Work", "toldCount", "I", false)
  | 17 => ("MumpsHouse$Work", "naked", "LMumpsHouse$Node;", true)
  | 18 => ("MumpsHouse$Work", "scope", "LMumpsHouse$Scope;", true)
  | _ => ("MumpsHouse$Work", "owner", "I", true)
def tyX10 : Nat → FieldType := fun k => match k with
  | 0 => .array (.object "MumpsHouse$Row")
  | 1 => .int
  | 2 => .array (.object "MumpsHouse$Node")
  | 3 => .int
  | 4 => .array (.object "MumpsHouse$Level")
  | 5 => .int
  | 6 => .array (.object "MumpsHouse$Text")
  | 7 => .int
  | 8 => .array .int
  | 9 => .array .long
  | 10 => .array (.object "MumpsHouse$Num")
  | 11 => .array (.object "MumpsHouse$Num")
  | 12 => .int
  | 13 => .object "MumpsHouse$Text"
  | 14 => .int
  | 15 => .array (.object "MumpsHouse$Row")
  | 16 => .int
  | 17 => .object "MumpsHouse$Node"
  | 18 => .object "MumpsHouse$Scope"
  | _ => .int
abbrev wsX100 : List Cond := u_ws RX10 TX10 20
theorem nmX10 : ∀ a, a < 20 → ∀ b, b < 20 → a ≠ b → (TX10 a).2.1 ≠ (TX10 b).2.1 := by decide +kernel
theorem tyX10_ok : ∀ k, k < 20 → parseFieldDescriptor (TX10 k).2.2.1 = some (tyX10 k) := by decide +kernel
abbrev cX10_init : ByteArray := prog_12_method_1_code
def yX10_init : MethodName := ⟨RX10, "<init>", "(I)V"⟩
abbrev cX10_many : ByteArray := prog_12_method_2_code
def yX10_many : MethodName := ⟨RX10, "many", "(I)[LMumpsHouse$Work;"⟩
abbrev cX10_begin : ByteArray := prog_12_method_3_code
def yX10_begin : MethodName := ⟨RX10, "begin", "()V"⟩
abbrev cX10_levelAt : ByteArray := prog_12_method_4_code
def yX10_levelAt : MethodName := ⟨RX10, "levelAt", "(I)LMumpsHouse$Level;"⟩
abbrev cX10_top : ByteArray := prog_12_method_5_code
def yX10_top : MethodName := ⟨RX10, "top", "()LMumpsHouse$Level;"⟩
abbrev cX10_pushLevel : ByteArray := prog_12_method_12_code
def yX10_pushLevel : MethodName := ⟨RX10, "pushLevel", "(II)LMumpsHouse$Level;"⟩
def RX11 : String := "MumpsHouse"
def TX11 : u_T := fun k => match k with
  | 0 => ("MumpsHouse", "tape", "LMumpsHouse$Row;", true)
  | 1 => ("MumpsHouse", "result", "LMumpsHouse$Row;", true)
  | 2 => ("MumpsHouse", "house", "LMumpsHouse$House;", true)
  | 3 => ("MumpsHouse", "machine", "LMumpsHouse$Machine;", true)
  | 4 => ("MumpsHouse", "node", "LMumpsHouse$Node;", true)
  | _ => ("MumpsHouse", "value", "LMumpsHouse$Row;", true)
def tyX11 : Nat → FieldType := fun k => match k with
  | 0 => .object "MumpsHouse$Row"
  | 1 => .object "MumpsHouse$Row"
  | 2 => .object "MumpsHouse$House"
  | 3 => .object "MumpsHouse$Machine"
  | 4 => .object "MumpsHouse$Node"
  | _ => .object "MumpsHouse$Row"
abbrev wsX110 : List Cond := u_ws RX11 TX11 6
theorem nmX11 : ∀ a, a < 6 → ∀ b, b < 6 → a ≠ b → (TX11 a).2.1 ≠ (TX11 b).2.1 := by decide +kernel
theorem tyX11_ok : ∀ k, k < 6 → parseFieldDescriptor (TX11 k).2.2.1 = some (tyX11 k) := by decide +kernel
abbrev cX11_init : ByteArray := prog_1_method_1_code
def yX11_init : MethodName := ⟨RX11, "<init>", "()V"⟩
abbrev cX11_feed : ByteArray := prog_1_method_2_code
def yX11_feed : MethodName := ⟨RX11, "feed", "(IIIII)I"⟩
abbrev cX11_feedNumber : ByteArray := prog_1_method_3_code
def yX11_feedNumber : MethodName := ⟨RX11, "feedNumber", "(I)V"⟩
abbrev cX11_end : ByteArray := prog_1_method_4_code
def yX11_end : MethodName := ⟨RX11, "end", "(I)I"⟩
abbrev cX11_save : ByteArray := prog_1_method_5_code
def yX11_save : MethodName := ⟨RX11, "save", "(I)I"⟩
abbrev cX11_process : ByteArray := prog_1_method_7_code
def yX11_process : MethodName := ⟨RX11, "process", "()I"⟩
abbrev cX11_tell : ByteArray := prog_1_method_8_code
def yX11_tell : MethodName := ⟨RX11, "tell", "(I)I"⟩
abbrev cX11_time : ByteArray := prog_1_method_9_code
def yX11_time : MethodName := ⟨RX11, "time", "(I)I"⟩
abbrev cX11_seed : ByteArray := prog_1_method_10_code
def yX11_seed : MethodName := ⟨RX11, "seed", "(J)I"⟩
abbrev cX11_turns : ByteArray := prog_1_method_11_code
def yX11_turns : MethodName := ⟨RX11, "turns", "(I)I"⟩
abbrev cX11_halt : ByteArray := prog_1_method_12_code
def yX11_halt : MethodName := ⟨RX11, "halt", "(I)I"⟩
abbrev cX11_state : ByteArray := prog_1_method_13_code
def yX11_state : MethodName := ⟨RX11, "state", "(II)I"⟩
abbrev cX11_written : ByteArray := prog_1_method_14_code
def yX11_written : MethodName := ⟨RX11, "written", "(II)I"⟩
abbrev cX11_take : ByteArray := prog_1_method_15_code
def yX11_take : MethodName := ⟨RX11, "take", "(I)I"⟩
abbrev cX11_code : ByteArray := prog_1_method_16_code
def yX11_code : MethodName := ⟨RX11, "code", "(I)I"⟩
abbrev cX11_level : ByteArray := prog_1_method_17_code
def yX11_level : MethodName := ⟨RX11, "level", "(III)I"⟩
abbrev cX11_look : ByteArray := prog_1_method_18_code
def yX11_look : MethodName := ⟨RX11, "look", "(II)I"⟩
abbrev cX11_result : ByteArray := prog_1_method_19_code
def yX11_result : MethodName := ⟨RX11, "result", "(I)I"⟩
abbrev cX11_lock : ByteArray := prog_1_method_20_code
def yX11_lock : MethodName := ⟨RX11, "lock", "(II)I"⟩
abbrev cX11_count : ByteArray := prog_1_method_21_code
def yX11_count : MethodName := ⟨RX11, "count", "(I)I"⟩
abbrev cX11_sound : ByteArray := prog_1_method_22_code
def yX11_sound : MethodName := ⟨RX11, "sound", "()I"⟩
abbrev cX11_sync : ByteArray := prog_1_method_23_code
def yX11_sync : MethodName := ⟨RX11, "sync", "()I"⟩
abbrev cX11_cut : ByteArray := prog_1_method_24_code
def yX11_cut : MethodName := ⟨RX11, "cut", "(II)I"⟩
abbrev cX11_start : ByteArray := prog_1_method_25_code
def yX11_start : MethodName := ⟨RX11, "start", "()I"⟩
abbrev cX11_octet : ByteArray := prog_1_method_29_code
def yX11_octet : MethodName := ⟨RX11, "octet", "(II)I"⟩
abbrev cX11_poke : ByteArray := prog_1_method_30_code
def yX11_poke : MethodName := ⟨RX11, "poke", "(III)I"⟩
abbrev cX11_verify : ByteArray := prog_1_method_31_code
def yX11_verify : MethodName := ⟨RX11, "verify", "()I"⟩
abbrev cX11_beginsName : ByteArray := prog_1_method_33_code
def yX11_beginsName : MethodName := ⟨RX11, "beginsName", "(I)Z"⟩
def RX12 : String := "MumpsHouseModel"
def TX12 : u_T := fun k => match k with
  | 0 => ("MumpsHouseModel", "wide", "[I", true)
  | 1 => ("MumpsHouseModel", "wideB", "[I", true)
  | 2 => ("MumpsHouseModel", "wideR", "[I", true)
  | 3 => ("MumpsHouseModel", "numberM", "J", false)
  | 4 => ("MumpsHouseModel", "numberE", "I", false)
  | 5 => ("MumpsHouseModel", "textB", "[B", true)
  | 6 => ("MumpsHouseModel", "textN", "I", false)
  | 7 => ("MumpsHouseModel", "numberEnd", "I", false)
  | 8 => ("MumpsHouseModel", "rows", "I", false)
  | 9 => ("MumpsHouseModel", "rowKind", "[I", true)
  | 10 => ("MumpsHouseModel", "rowOf", "[I", true)
  | 11 => ("MumpsHouseModel", "rowName", "[J", true)
  | 12 => ("MumpsHouseModel", "rowKeyLength", "[I", true)
  | 13 => ("MumpsHouseModel", "rowKeys", "[B", true)
  | 14 => ("MumpsHouseModel", "rowLength", "[I", true)
  | 15 => ("MumpsHouseModel", "rowValues", "[B", true)
  | 16 => ("MumpsHouseModel", "src", "[B", false)
  | 17 => ("MumpsHouseModel", "at", "I", false)
  | 18 => ("MumpsHouseModel", "end", "I", false)
  | 19 => ("MumpsHouseModel", "faultAt", "I", false)
  | 20 => ("MumpsHouseModel", "opened", "I", false)
  | 21 => ("MumpsHouseModel", "code", "[I", true)
  | 22 => ("MumpsHouseModel", "codeAt", "I", false)
  | 23 => ("MumpsHouseModel", "conditionAt", "I", false)
  | 24 => ("MumpsHouseModel", "targetOps", "[I", true)
  | 25 => ("MumpsHouseModel", "targetArgs", "[I", true)
  | 26 => ("MumpsHouseModel", "targets", "I", false)
  | 27 => ("MumpsHouseModel", "commandStart", "I", false)
  | 28 => ("MumpsHouseModel", "routines", "I", false)
  | 29 => ("MumpsHouseModel", "routineName", "[J", true)
  | 30 => ("MumpsHouseModel", "routineLength", "[I", true)
  | 31 => ("MumpsHouseModel", "routineText", "[B", true)
  | 32 => ("MumpsHouseModel", "lineCount", "[I", true)
  | 33 => ("MumpsHouseModel", "lineAt", "[I", true)
  | 34 => ("MumpsHouseModel", "lineLevel", "[I", true)
  | 35 => ("MumpsHouseModel", "lineLabel", "[J", true)
  | 36 => ("MumpsHouseModel", "lineCode", "[I", true)
  | 37 => ("MumpsHouseModel", "lineStop", "[I", true)
  | 38 => ("MumpsHouseModel", "lineFormals", "[I", true)
  | 39 => ("MumpsHouseModel", "formals", "[J", true)
  | 40 => ("MumpsHouseModel", "draft", "[B", true)
  | 41 => ("MumpsHouseModel", "places", "[Z", true)
  | 42 => ("MumpsHouseModel", "patternB", "[B", false)
  | 43 => ("MumpsHouseModel", "patternEnd", "I", false)
  | 44 => ("MumpsHouseModel", "cur", "I", false)
  | 45 => ("MumpsHouseModel", "err", "I", false)
  | 46 => ("MumpsHouseModel", "handTop", "[I", true)
  | 47 => ("MumpsHouseModel", "handN", "[I", true)
  | 48 => ("MumpsHouseModel", "handB", "[B", true)
  | 49 => ("MumpsHouseModel", "nodeTop", "[I", true)
  | 50 => ("MumpsHouseModel", "nodeKind", "[I", true)
  | 51 => ("MumpsHouseModel", "nodeName", "[J", true)
  | 52 => ("MumpsHouseModel", "nodeLength", "[I", true)
  | 53 => ("MumpsHouseModel", "nodeKeys", "[B", true)
  | 54 => ("MumpsHouseModel", "handKind", "[I", true)
  | 55 => ("MumpsHouseModel", "handName", "[J", true)
  | 56 => ("MumpsHouseModel", "variables", "I", false)
  | 57 => ("MumpsHouseModel", "boundCount", "[I", true)
  | 58 => ("MumpsHouseModel", "boundName", "[J", true)
  | 59 => ("MumpsHouseModel", "boundVar", "[I", true)
  | 60 => ("MumpsHouseModel", "hiddenCount", "[I", true)
  | 61 => ("MumpsHouseModel", "hiddenName", "[J", true)
  | 62 => ("MumpsHouseModel", "hiddenVar", "[I", true)
  | 63 => ("MumpsHouseModel", "nakedName", "[J", true)
  | 64 => ("MumpsHouseModel", "nakedLength", "[I", true)
  | 65 => ("MumpsHouseModel", "nakedKeys", "[B", true)
  | 66 => ("MumpsHouseModel", "tLevel", "[I", true)
  | 67 => ("MumpsHouseModel", "tRestarts", "[I", true)
  | 68 => ("MumpsHouseModel", "tMay", "[Z", true)
  | 69 => ("MumpsHouseModel", "tAt", "[I", true)
  | 70 => ("MumpsHouseModel", "tPc", "[I", true)
  | 71 => ("MumpsHouseModel", "tStack", "[I", true)
  | 72 => ("MumpsHouseModel", "tFors", "[I", true)
  | 73 => ("MumpsHouseModel", "tSerial", "[I", true)
  | 74 => ("MumpsHouseModel", "tForSerial", "[I", true)
  | 75 => ("MumpsHouseModel", "copyCount", "[I", true)
  | 76 => ("MumpsHouseModel", "copyName", "[J", true)
  | 77 => ("MumpsHouseModel", "copyStale", "[Z", true)
  | 78 => ("MumpsHouseModel", "recordCount", "[I", true)
  | 79 => ("MumpsHouseModel", "recordBytes", "[B", true)
  | 80 => ("MumpsHouseModel", "keptCount", "[I", true)
  | 81 => ("MumpsHouseModel", "keptName", "[J", true)
  | 82 => ("MumpsHouseModel", "disk", "[B", true)
  | 83 => ("MumpsHouseModel", "used", "I", false)
  | 84 => ("MumpsHouseModel", "waiting", "[B", true)
  | 85 => ("MumpsHouseModel", "waitingBytes", "I", false)
  | 86 => ("MumpsHouseModel", "waitingUnits", "I", false)
  | 87 => ("MumpsHouseModel", "unit", "[B", true)
  | 88 => ("MumpsHouseModel", "unitLength", "I", false)
  | 89 => ("MumpsHouseModel", "treeKind", "I", false)
  | 90 => ("MumpsHouseModel", "treeOf", "I", false)
  | 91 => ("MumpsHouseModel", "treeName", "J", false)
  | 92 => ("MumpsHouseModel", "patternText", "[B", true)
  | 93 => ("MumpsHouseModel", "draftChars", "[B", true)
  | 94 => ("MumpsHouseModel", "draftNumber", "[B", true)
  | 95 => ("MumpsHouseModel", "pieceFrom", "I", false)
  | 96 => ("MumpsHouseModel", "pieceTo", "I", false)
  | 97 => ("MumpsHouseModel", "parsedMany", "I", false)
  | 98 => ("MumpsHouseModel", "parsedName", "J", false)
  | 99 => ("MumpsHouseModel", "parsedGlobal", "Z", false)
  | 100 => ("MumpsHouseModel", "parsedKey", "[B", true)
  | 101 => ("MumpsHouseModel", "parsedLength", "I", false)
  | 102 => ("MumpsHouseModel", "quoted", "[Z", true)
  | 103 => ("MumpsHouseModel", "stream", "[J", true)
  | 104 => ("MumpsHouseModel", "processes", "I", false)
  | 105 => ("MumpsHouseModel", "slotOf", "[I", true)
  | 106 => ("MumpsHouseModel", "numberAt", "[I", true)
  | 107 => ("MumpsHouseModel", "byError", "[Z", true)
  | 108 => ("MumpsHouseModel", "test", "[I", true)
  | 109 => ("MumpsHouseModel", "outX", "[I", true)
  | 110 => ("MumpsHouseModel", "outY", "[I", true)
  | 111 => ("MumpsHouseModel", "begun", "[I", true)
  | 112 => ("MumpsHouseModel", "outCount", "[I", true)
  | 113 => ("MumpsHouseModel", "outBytes", "[B", true)
  | 114 => ("MumpsHouseModel", "ecodeN", "[I", true)
  | 115 => ("MumpsHouseModel", "ecode", "[B", true)
  | 116 => ("MumpsHouseModel", "pc", "[I", true)
  | 117 => ("MumpsHouseModel", "atRound", "[Z", true)
  | 118 => ("MumpsHouseModel", "waits", "[I", true)
  | 119 => ("MumpsHouseModel", "until", "[J", true)
  | 120 => ("MumpsHouseModel", "timed", "[Z", true)
  | 121 => ("MumpsHouseModel", "waitMany", "[I", true)
  | 122 => ("MumpsHouseModel", "toldCount", "[I", true)
  | 123 => ("MumpsHouseModel", "toldN", "[I", true)
  | 124 => ("MumpsHouseModel", "toldB", "[B", true)
  | 125 => ("MumpsHouseModel", "segTop", "[I", true)
  | 126 => ("MumpsHouseModel", "levels", "[I", true)
  | 127 => ("MumpsHouseModel", "lKind", "[I", true)
  | 128 => ("MumpsHouseModel", "lRoutine", "[I", true)
  | 129 => ("MumpsHouseModel", "lLine", "[I", true)
  | 130 => ("MumpsHouseModel", "lDots", "[I", true)
  | 131 => ("MumpsHouseModel", "lStop", "[I", true)
  | 132 => ("MumpsHouseModel", "lRet", "[I", true)
  | 133 => ("MumpsHouseModel", "lSeg", "[I", true)
  | 134 => ("MumpsHouseModel", "lKeep", "[I", true)
  | 135 => ("MumpsHouseModel", "lHand", "[I", true)
  | 136 => ("MumpsHouseModel", "lNode", "[I", true)
  | 137 => ("MumpsHouseModel", "lFor", "[I", true)
  | 138 => ("MumpsHouseModel", "lText", "[I", true)
  | 139 => ("MumpsHouseModel", "lHidden", "[I", true)
  | 140 => ("MumpsHouseModel", "lTest", "[I", true)
  | 141 => ("MumpsHouseModel", "lSerial", "[I", true)
  | 142 => ("MumpsHouseModel", "lTrapped", "[Z", true)
  | 143 => ("MumpsHouseModel", "lInTrap", "[Z", true)
  | 144 => ("MumpsHouseModel", "lEtrapN", "[I", true)
  | 145 => ("MumpsHouseModel", "lEtrap", "[B", true)
  | 146 => ("MumpsHouseModel", "serials", "I", false)
  | 147 => ("MumpsHouseModel", "fors", "[I", true)
  | 148 => ("MumpsHouseModel", "fLevel", "[I", true)
  | 149 => ("MumpsHouseModel", "fName", "[J", true)
  | 150 => ("MumpsHouseModel", "fKind", "[I", true)
  | 151 => ("MumpsHouseModel", "fStepM", "[J", true)
  | 152 => ("MumpsHouseModel", "fStepE", "[I", true)
  | 153 => ("MumpsHouseModel", "fLimitM", "[J", true)
  | 154 => ("MumpsHouseModel", "fLimitE", "[I", true)
  | 155 => ("MumpsHouseModel", "fBody", "[I", true)
  | 156 => ("MumpsHouseModel", "fNext", "[I", true)
  | 157 => ("MumpsHouseModel", "fSerial", "[I", true)
  | 158 => ("MumpsHouseModel", "texts", "[I", true)
  | 159 => ("MumpsHouseModel", "aRet", "[I", true)
  | 160 => ("MumpsHouseModel", "aSeg", "[I", true)
  | 161 => ("MumpsHouseModel", "locks", "I", false)
  | 162 => ("MumpsHouseModel", "lockBy", "[I", true)
  | 163 => ("MumpsHouseModel", "lockKind", "[I", true)
  | 164 => ("MumpsHouseModel", "lockName", "[J", true)
  | 165 => ("MumpsHouseModel", "lockLength", "[I", true)
  | 166 => ("MumpsHouseModel", "lockKeys", "[B", true)
  | 167 => ("MumpsHouseModel", "lockTimes", "[I", true)
  | 168 => ("MumpsHouseModel", "turnX", "J", false)
  | 169 => ("MumpsHouseModel", "second", "I", false)
  | 170 => ("MumpsHouseModel", "turnsDone", "I", false)
  | 171 => ("MumpsHouseModel", "idleTurns", "I", false)
  | 172 => ("MumpsHouseModel", "restarts", "I", false)
  | 173 => ("MumpsHouseModel", "conflicts", "I", false)
  | 174 => ("MumpsHouseModel", "ended", "I", false)
  | 175 => ("MumpsHouseModel", "trapText", "[B", true)
  | 176 => ("MumpsHouseModel", "lTrap", "[B", true)
  | 177 => ("MumpsHouseModel", "lTrapN", "[I", true)
  | 178 => ("MumpsHouseModel", "valueText", "[B", true)
  | 179 => ("MumpsHouseModel", "entryRoutine", "I", false)
  | 180 => ("MumpsHouseModel", "entryLine", "I", false)
  | 181 => ("MumpsHouseModel", "passVar", "[I", true)
  | 182 => ("MumpsHouseModel", "setNode0", "I", false)
  | 183 => ("MumpsHouseModel", "setHand", "I", false)
  | 184 => ("MumpsHouseModel", "setValue", "I", false)
  | 185 => ("MumpsHouseModel", "draftValue", "[B", true)
  | 186 => ("MumpsHouseModel", "mergeRows", "[I", true)
  | 187 => ("MumpsHouseModel", "mergeKey", "[B", true)
  | 188 => ("MumpsHouseModel", "tRoutine", "[I", true)
  | 189 => ("MumpsHouseModel", "tLine", "[I", true)
  | 190 => ("MumpsHouseModel", "tStop", "[I", true)
  | 191 => ("MumpsHouseModel", "tInTrap", "[Z", true)
  | 192 => ("MumpsHouseModel", "setNodes", "I", false)
  | 193 => ("MumpsHouseModel", "setStrings", "I", false)
  | 194 => ("MumpsHouseModel", "tape", "[B", true)
  | 195 => ("MumpsHouseModel", "tapeN", "I", false)
  | 196 => ("MumpsHouseModel", "isDown", "Z", false)
  | 197 => ("MumpsHouseModel", "cutIn", "I", false)
  | 198 => ("MumpsHouseModel", "tear", "I", false)
  | 199 => ("MumpsHouseModel", "result", "[B", true)
  | 200 => ("MumpsHouseModel", "resultN", "I", false)
  | 201 => ("MumpsHouseModel", "lOwn", "[B", true)
  | 202 => ("MumpsHouseModel", "lOwnN", "[I", true)
  | 203 => ("MumpsHouseModel", "draftBlock", "[B", true)
  | 204 => ("MumpsHouseModel", "torn", "I", false)
  | 205 => ("MumpsHouseModel", "readAt", "I", false)
  | 206 => ("MumpsHouseModel", "readEnd", "I", false)
  | 207 => ("MumpsHouseModel", "readGood", "Z", false)
  | 208 => ("MumpsHouseModel", "readKey", "[B", true)
  | 209 => ("MumpsHouseModel", "readBytes", "[B", true)
  | 210 => ("MumpsHouseModel", "freshNames", "I", false)
  | _ => ("MumpsHouseModel", "freshName", "[J", true)
def tyX12 : Nat → FieldType := fun k => match k with
  | 0 => .array .int
  | 1 => .array .int
  | 2 => .array .int
  | 3 => .long
  | 4 => .int
  | 5 => .array .byte
  | 6 => .int
  | 7 => .int
  | 8 => .int
  | 9 => .array .int
  | 10 => .array .int
  | 11 => .array .long
  | 12 => .array .int
  | 13 => .array .byte
  | 14 => .array .int
  | 15 => .array .byte
  | 16 => .array .byte
  | 17 => .int
  | 18 => .int
  | 19 => .int
  | 20 => .int
  | 21 => .array .int
  | 22 => .int
  | 23 => .int
  | 24 => .array .int
  | 25 => .array .int
  | 26 => .int
  | 27 => .int
  | 28 => .int
  | 29 => .array .long
  | 30 => .array .int
  | 31 => .array .byte
  | 32 => .array .int
  | 33 => .array .int
  | 34 => .array .int
  | 35 => .array .long
  | 36 => .array .int
  | 37 => .array .int
  | 38 => .array .int
  | 39 => .array .long
  | 40 => .array .byte
  | 41 => .array .boolean
  | 42 => .array .byte
  | 43 => .int
  | 44 => .int
  | 45 => .int
  | 46 => .array .int
  | 47 => .array .int
  | 48 => .array .byte
  | 49 => .array .int
  | 50 => .array .int
  | 51 => .array .long
  | 52 => .array .int
  | 53 => .array .byte
  | 54 => .array .int
  | 55 => .array .long
  | 56 => .int
  | 57 => .array .int
  | 58 => .array .long
  | 59 => .array .int
  | 60 => .array .int
  | 61 => .array .long
  | 62 => .array .int
  | 63 => .array .long
  | 64 => .array .int
  | 65 => .array .byte
  | 66 => .array .int
  | 67 => .array .int
  | 68 => .array .boolean
  | 69 => .array .int
  | 70 => .array .int
  | 71 => .array .int
  | 72 => .array .int
  | 73 => .array .int
  | 74 => .array .int
  | 75 => .array .int
  | 76 => .array .long
  | 77 => .array .boolean
  | 78 => .array .int
  | 79 => .array .byte
  | 80 => .array .int
  | 81 => .array .long
  | 82 => .array .byte
  | 83 => .int
  | 84 => .array .byte
  | 85 => .int
  | 86 => .int
  | 87 => .array .byte
  | 88 => .int
  | 89 => .int
  | 90 => .int
  | 91 => .long
  | 92 => .array .byte
  | 93 => .array .byte
  | 94 => .array .byte
  | 95 => .int
  | 96 => .int
  | 97 => .int
  | 98 => .long
  | 99 => .boolean
  | 100 => .array .byte
  | 101 => .int
  | 102 => .array .boolean
  | 103 => .array .long
  | 104 => .int
  | 105 => .array .int
  | 106 => .array .int
  | 107 => .array .boolean
  | 108 => .array .int
  | 109 => .array .int
  | 110 => .array .int
  | 111 => .array .int
  | 112 => .array .int
  | 113 => .array .byte
  | 114 => .array .int
  | 115 => .array .byte
  | 116 => .array .int
  | 117 => .array .boolean
  | 118 => .array .int
  | 119 => .array .long
  | 120 => .array .boolean
  | 121 => .array .int
  | 122 => .array .int
  | 123 => .array .int
  | 124 => .array .byte
  | 125 => .array .int
  | 126 => .array .int
  | 127 => .array .int
  | 128 => .array .int
  | 129 => .array .int
  | 130 => .array .int
  | 131 => .array .int
  | 132 => .array .int
  | 133 => .array .int
  | 134 => .array .int
  | 135 => .array .int
  | 136 => .array .int
  | 137 => .array .int
  | 138 => .array .int
  | 139 => .array .int
  | 140 => .array .int
  | 141 => .array .int
  | 142 => .array .boolean
  | 143 => .array .boolean
  | 144 => .array .int
  | 145 => .array .byte
  | 146 => .int
  | 147 => .array .int
  | 148 => .array .int
  | 149 => .array .long
  | 150 => .array .int
  | 151 => .array .long
  | 152 => .array .int
  | 153 => .array .long
  | 154 => .array .int
  | 155 => .array .int
  | 156 => .array .int
  | 157 => .array .int
  | 158 => .array .int
  | 159 => .array .int
  | 160 => .array .int
  | 161 => .int
  | 162 => .array .int
  | 163 => .array .int
  | 164 => .array .long
  | 165 => .array .int
  | 166 => .array .byte
  | 167 => .array .int
  | 168 => .long
  | 169 => .int
  | 170 => .int
  | 171 => .int
  | 172 => .int
  | 173 => .int
  | 174 => .int
  | 175 => .array .byte
  | 176 => .array .byte
  | 177 => .array .int
  | 178 => .array .byte
  | 179 => .int
  | 180 => .int
  | 181 => .array .int
  | 182 => .int
  | 183 => .int
  | 184 => .int
  | 185 => .array .byte
  | 186 => .array .int
  | 187 => .array .byte
  | 188 => .array .int
  | 189 => .array .int
  | 190 => .array .int
  | 191 => .array .boolean
  | 192 => .int
  | 193 => .int
  | 194 => .array .byte
  | 195 => .int
  | 196 => .boolean
  | 197 => .int
  | 198 => .int
  | 199 => .array .byte
  | 200 => .int
  | 201 => .array .byte
  | 202 => .array .int
  | 203 => .array .byte
  | 204 => .int
  | 205 => .int
  | 206 => .int
  | 207 => .boolean
  | 208 => .array .byte
  | 209 => .array .byte
  | 210 => .int
  | _ => .array .long
abbrev wsX120 : List Cond := u_ws RX12 TX12 212
theorem nmX12 : ∀ a, a < 212 → ∀ b, b < 212 → a ≠ b → (TX12 a).2.1 ≠ (TX12 b).2.1 := by decide +kernel
theorem tyX12_ok : ∀ k, k < 212 → parseFieldDescriptor (TX12 k).2.2.1 = some (tyX12 k) := by decide +kernel
abbrev cX12_init : ByteArray := prog_14_method_1_code
def yX12_init : MethodName := ⟨RX12, "<init>", "()V"⟩
abbrev cX12_countRows : ByteArray := prog_14_method_32_code
def yX12_countRows : MethodName := ⟨RX12, "countRows", "(Z)I"⟩
abbrev cX12_isGood : ByteArray := prog_14_method_46_code
def yX12_isGood : MethodName := ⟨RX12, "isGood", "()Z"⟩
abbrev cX12_sign : ByteArray := prog_14_method_47_code
def yX12_sign : MethodName := ⟨RX12, "sign", "()I"⟩
abbrev cX12_emit : ByteArray := prog_14_method_50_code
def yX12_emit : MethodName := ⟨RX12, "emit", "(I)V"⟩
abbrev cX12_lock : ByteArray := prog_14_method_85_code
def yX12_lock : MethodName := ⟨RX12, "lock", "()V"⟩
abbrev cX12_commands : ByteArray := prog_14_method_96_code
def yX12_commands : MethodName := ⟨RX12, "commands", "(I)V"⟩
abbrev cX12_begin : ByteArray := prog_14_method_162_code
def yX12_begin : MethodName := ⟨RX12, "begin", "([BII)V"⟩
abbrev cX12_me : ByteArray := prog_14_method_179_code
def yX12_me : MethodName := ⟨RX12, "me", "()I"⟩
abbrev cX12_level : ByteArray := prog_14_method_180_code
def yX12_level : MethodName := ⟨RX12, "level", "()I"⟩
abbrev cX12_living : ByteArray := prog_14_method_181_code
def yX12_living : MethodName := ⟨RX12, "living", "()I"⟩
abbrev cX12_pushLevel : ByteArray := prog_14_method_182_code
def yX12_pushLevel : MethodName := ⟨RX12, "pushLevel", "(I)Z"⟩
abbrev cX12_readText : ByteArray := prog_14_method_190_code
def yX12_readText : MethodName := ⟨RX12, "readText", "([BII)Z"⟩
abbrev cX12_freeSlot : ByteArray := prog_14_method_206_code
def yX12_freeSlot : MethodName := ⟨RX12, "freeSlot", "()I"⟩
abbrev cX12_newProcess : ByteArray := prog_14_method_207_code
def yX12_newProcess : MethodName := ⟨RX12, "newProcess", "(I)V"⟩
abbrev cX12_feed : ByteArray := prog_14_method_266_code
def yX12_feed : MethodName := ⟨RX12, "feed", "(IIIII)I"⟩
abbrev cX12_end : ByteArray := prog_14_method_267_code
def yX12_end : MethodName := ⟨RX12, "end", "(I)I"⟩
abbrev cX12_save : ByteArray := prog_14_method_271_code
def yX12_save : MethodName := ⟨RX12, "save", "(I)I"⟩
abbrev cX12_process : ByteArray := prog_14_method_273_code
def yX12_process : MethodName := ⟨RX12, "process", "()I"⟩
abbrev cX12_isLiving : ByteArray := prog_14_method_274_code
def yX12_isLiving : MethodName := ⟨RX12, "isLiving", "(I)Z"⟩
abbrev cX12_tell : ByteArray := prog_14_method_275_code
def yX12_tell : MethodName := ⟨RX12, "tell", "(I)I"⟩
abbrev cX12_time : ByteArray := prog_14_method_276_code
def yX12_time : MethodName := ⟨RX12, "time", "(I)I"⟩
abbrev cX12_seed : ByteArray := prog_14_method_277_code
def yX12_seed : MethodName := ⟨RX12, "seed", "(J)I"⟩
abbrev cX12_turns : ByteArray := prog_14_method_278_code
def yX12_turns : MethodName := ⟨RX12, "turns", "(I)I"⟩
abbrev cX12_halt : ByteArray := prog_14_method_279_code
def yX12_halt : MethodName := ⟨RX12, "halt", "(I)I"⟩
abbrev cX12_state : ByteArray := prog_14_method_281_code
def yX12_state : MethodName := ⟨RX12, "state", "(II)I"⟩
abbrev cX12_written : ByteArray := prog_14_method_282_code
def yX12_written : MethodName := ⟨RX12, "written", "(II)I"⟩
abbrev cX12_take : ByteArray := prog_14_method_283_code
def yX12_take : MethodName := ⟨RX12, "take", "(I)I"⟩
abbrev cX12_code : ByteArray := prog_14_method_284_code
def yX12_code : MethodName := ⟨RX12, "code", "(I)I"⟩
abbrev cX12_level_ : ByteArray := prog_14_method_285_code
def yX12_level_ : MethodName := ⟨RX12, "level", "(III)I"⟩
abbrev cX12_own : ByteArray := prog_14_method_287_code
def yX12_own : MethodName := ⟨RX12, "own", "(I[BI)V"⟩
abbrev cX12_look : ByteArray := prog_14_method_288_code
def yX12_look : MethodName := ⟨RX12, "look", "(II)I"⟩
abbrev cX12_result : ByteArray := prog_14_method_289_code
def yX12_result : MethodName := ⟨RX12, "result", "(I)I"⟩
abbrev cX12_lock__ : ByteArray := prog_14_method_291_code
def yX12_lock__ : MethodName := ⟨RX12, "lock", "(II)I"⟩
abbrev cX12_count : ByteArray := prog_14_method_292_code
def yX12_count : MethodName := ⟨RX12, "count", "(I)I"⟩
abbrev cX12_sound : ByteArray := prog_14_method_293_code
def yX12_sound : MethodName := ⟨RX12, "sound", "()I"⟩
abbrev cX12_sync : ByteArray := prog_14_method_295_code
def yX12_sync : MethodName := ⟨RX12, "sync", "()I"⟩
abbrev cX12_cut : ByteArray := prog_14_method_296_code
def yX12_cut : MethodName := ⟨RX12, "cut", "(II)I"⟩
abbrev cX12_verify : ByteArray := prog_14_method_298_code
def yX12_verify : MethodName := ⟨RX12, "verify", "()I"⟩
abbrev cX12_octet : ByteArray := prog_14_method_299_code
def yX12_octet : MethodName := ⟨RX12, "octet", "(II)I"⟩
abbrev cX12_poke : ByteArray := prog_14_method_300_code
def yX12_poke : MethodName := ⟨RX12, "poke", "(III)I"⟩
abbrev cX12_start : ByteArray := prog_14_method_301_code
def yX12_start : MethodName := ⟨RX12, "start", "()I"⟩
def RL : String := "MumpsHouseLaw"
abbrev vwCl : List vw_C := [(RX0, TX0, 18), (RX1, TX1, 16), (RX2, TX2, 19), (RX3, TX3, 9), (RX4, TX4, 3), (RX5, TX5, 14), (RX6, TX6, 3), (RX7, TX7, 20), (RX8, TX8, 18), (RX9, TX9, 8), (RX10, TX10, 20), (RX11, TX11, 6), (RX12, TX12, 212)]
abbrev cX0_begin : ByteArray := prog_2_method_23_code
def yX0_begin : MethodName := ⟨RX0, "begin", "()V"⟩
abbrev cX0_behindRecord : ByteArray := prog_2_method_25_code
def yX0_behindRecord : MethodName := ⟨RX0, "behindRecord", "(ILMumpsHouse$Node;LMumpsHouse$Row;)I"⟩
abbrev cX0_compose : ByteArray := prog_2_method_21_code
def yX0_compose : MethodName := ⟨RX0, "compose", "(IIZ)V"⟩
abbrev cX0_gather : ByteArray := prog_2_method_24_code
def yX0_gather : MethodName := ⟨RX0, "gather", "(I)I"⟩
abbrev cX0_hasRoom : ByteArray := prog_2_method_5_code
def yX0_hasRoom : MethodName := ⟨RX0, "hasRoom", "(I)Z"⟩
abbrev cX0_held : ByteArray := prog_2_method_10_code
def yX0_held : MethodName := ⟨RX0, "held", "(I)LMumpsHouse$Node;"⟩
abbrev cX0_keep : ByteArray := prog_2_method_4_code
def yX0_keep : MethodName := ⟨RX0, "keep", "(J)V"⟩
abbrev cX0_locksOf : ByteArray := prog_2_method_16_code
def yX0_locksOf : MethodName := ⟨RX0, "locksOf", "(I)I"⟩
abbrev cX0_right : ByteArray := prog_2_method_22_code
def yX0_right : MethodName := ⟨RX0, "right", "(I)Z"⟩
abbrev cX0_routine : ByteArray := prog_2_method_2_code
def yX0_routine : MethodName := ⟨RX0, "routine", "(I)LMumpsHouse$Text;"⟩
abbrev cX0_routineOf : ByteArray := prog_2_method_3_code
def yX0_routineOf : MethodName := ⟨RX0, "routineOf", "(J)I"⟩
abbrev cX0_unitIsWhole : ByteArray := prog_2_method_9_code
def yX0_unitIsWhole : MethodName := ⟨RX0, "unitIsWhole", "()V"⟩
abbrev cX10_addTold : ByteArray := prog_12_method_16_code
def yX10_addTold : MethodName := ⟨RX10, "addTold", "(LMumpsHouse$Row;)Z"⟩
abbrev cX11_behindUnit : ByteArray := prog_1_method_26_code
def yX11_behindUnit : MethodName := ⟨RX11, "behindUnit", "(I)I"⟩
abbrev cX11_goesOnName : ByteArray := prog_1_method_34_code
def yX11_goesOnName : MethodName := ⟨RX11, "goesOnName", "(I)Z"⟩
abbrev cX11_next : ByteArray := prog_1_method_37_code
def yX11_next : MethodName := ⟨RX11, "next", "(J)J"⟩
abbrev cX11_packed : ByteArray := prog_1_method_35_code
def yX11_packed : MethodName := ⟨RX11, "packed", "([BII)J"⟩
abbrev cX11_readSpare : ByteArray := prog_1_method_6_code
def yX11_readSpare : MethodName := ⟨RX11, "readSpare", "()Z"⟩
abbrev cX11_redo : ByteArray := prog_1_method_28_code
def yX11_redo : MethodName := ⟨RX11, "redo", "(I)V"⟩
abbrev cX12_command : ByteArray := prog_14_method_92_code
def yX12_command : MethodName := ⟨RX12, "command", "()V"⟩
abbrev cX12_dataOf : ByteArray := prog_14_method_39_code
def yX12_dataOf : MethodName := ⟨RX12, "dataOf", "(IIJ[BII)I"⟩
abbrev cX12_doUnits : ByteArray := prog_14_method_303_code
def yX12_doUnits : MethodName := ⟨RX12, "doUnits", "(I)I"⟩
abbrev cX12_emit_ : ByteArray := prog_14_method_51_code
def yX12_emit_ : MethodName := ⟨RX12, "emit", "(II)V"⟩
abbrev cX12_error : ByteArray := prog_14_method_108_code
def yX12_error : MethodName := ⟨RX12, "error", "(I)V"⟩
abbrev cX12_expect : ByteArray := prog_14_method_49_code
def yX12_expect : MethodName := ⟨RX12, "expect", "(I)V"⟩
abbrev cX12_expression : ByteArray := prog_14_method_70_code
def yX12_expression : MethodName := ⟨RX12, "expression", "()V"⟩
abbrev cX12_fail : ByteArray := prog_14_method_45_code
def yX12_fail : MethodName := ⟨RX12, "fail", "(I)V"⟩
abbrev cX12_find : ByteArray := prog_14_method_35_code
def yX12_find : MethodName := ⟨RX12, "find", "(IIJ[BII)I"⟩
abbrev cX12_findRoutine : ByteArray := prog_14_method_97_code
def yX12_findRoutine : MethodName := ⟨RX12, "findRoutine", "(J)I"⟩
abbrev cX12_hasDiskRoom : ByteArray := prog_14_method_132_code
def yX12_hasDiskRoom : MethodName := ⟨RX12, "hasDiskRoom", "(I)Z"⟩
abbrev cX12_isLockBefore : ByteArray := prog_14_method_290_code
def yX12_isLockBefore : MethodName := ⟨RX12, "isLockBefore", "(II)Z"⟩
abbrev cX12_isNameOf : ByteArray := prog_14_method_268_code
def yX12_isNameOf : MethodName := ⟨RX12, "isNameOf", "([BII)Z"⟩
abbrev cX12_isRight : ByteArray := prog_14_method_297_code
def yX12_isRight : MethodName := ⟨RX12, "isRight", "(I)Z"⟩
abbrev cX12_isUsed : ByteArray := prog_14_method_270_code
def yX12_isUsed : MethodName := ⟨RX12, "isUsed", "(I)Z"⟩
abbrev cX12_keepRoutine : ByteArray := prog_14_method_272_code
def yX12_keepRoutine : MethodName := ⟨RX12, "keepRoutine", "(IJI)V"⟩
abbrev cX12_lastOf : ByteArray := prog_14_method_42_code
def yX12_lastOf : MethodName := ⟨RX12, "lastOf", "([BII)I"⟩
abbrev cX12_levelLine : ByteArray := prog_14_method_286_code
def yX12_levelLine : MethodName := ⟨RX12, "levelLine", "(I)I"⟩
abbrev cX12_localValues : ByteArray := prog_14_method_280_code
def yX12_localValues : MethodName := ⟨RX12, "localValues", "(I)I"⟩
abbrev cX12_longName : ByteArray := prog_14_method_269_code
def yX12_longName : MethodName := ⟨RX12, "longName", "([BII)J"⟩
abbrev cX12_nextName : ByteArray := prog_14_method_247_code
def yX12_nextName : MethodName := ⟨RX12, "nextName", "(IZJZ)J"⟩
abbrev cX12_nextNode : ByteArray := prog_14_method_44_code
def yX12_nextNode : MethodName := ⟨RX12, "nextNode", "(IIJ[BII)I"⟩
abbrev cX12_nextSubscript : ByteArray := prog_14_method_43_code
def yX12_nextSubscript : MethodName := ⟨RX12, "nextSubscript", "(IIJ[BIIZ)I"⟩
abbrev cX12_nodeText : ByteArray := prog_14_method_177_code
def yX12_nodeText : MethodName := ⟨RX12, "nodeText", "(ZJ[BIII)V"⟩
abbrev cX12_opens : ByteArray := prog_14_method_53_code
def yX12_opens : MethodName := ⟨RX12, "opens", "(I)V"⟩
abbrev cX12_over_ : ByteArray := prog_14_method_185_code
def yX12_over_ : MethodName := ⟨RX12, "over", "(Z)V"⟩
abbrev cX12_parseText : ByteArray := prog_14_method_174_code
def yX12_parseText : MethodName := ⟨RX12, "parseText", "(Z)Z"⟩
abbrev cX12_processTurn : ByteArray := prog_14_method_263_code
def yX12_processTurn : MethodName := ⟨RX12, "processTurn", "()Z"⟩
abbrev cX12_put : ByteArray := prog_14_method_21_code
def yX12_put : MethodName := ⟨RX12, "put", "(I)V"⟩
abbrev cX12_putName : ByteArray := prog_14_method_176_code
def yX12_putName : MethodName := ⟨RX12, "putName", "(J)V"⟩
abbrev cX12_readRoutine : ByteArray := prog_14_method_98_code
def yX12_readRoutine : MethodName := ⟨RX12, "readRoutine", "(II)I"⟩
abbrev cX12_ref : ByteArray := prog_14_method_60_code
def yX12_ref : MethodName := ⟨RX12, "ref", "()V"⟩
abbrev cX12_resultBytes : ByteArray := prog_14_method_265_code
def yX12_resultBytes : MethodName := ⟨RX12, "resultBytes", "([BII)V"⟩
abbrev cX12_resultText : ByteArray := prog_14_method_264_code
def yX12_resultText : MethodName := ⟨RX12, "resultText", "()V"⟩
abbrev cX12_sumOf : ByteArray := prog_14_method_294_code
def yX12_sumOf : MethodName := ⟨RX12, "sumOf", "([BI)I"⟩
abbrev cX12_takes : ByteArray := prog_14_method_48_code
def yX12_takes : MethodName := ⟨RX12, "takes", "(I)Z"⟩
abbrev cX12_unitByte : ByteArray := prog_14_method_133_code
def yX12_unitByte : MethodName := ⟨RX12, "unitByte", "(I)V"⟩
abbrev cX12_unitName : ByteArray := prog_14_method_135_code
def yX12_unitName : MethodName := ⟨RX12, "unitName", "(J)V"⟩
abbrev cX12_unitWaits : ByteArray := prog_14_method_137_code
def yX12_unitWaits : MethodName := ⟨RX12, "unitWaits", "()V"⟩
abbrev cX12_variableOf : ByteArray := prog_14_method_119_code
def yX12_variableOf : MethodName := ⟨RX12, "variableOf", "(IJ)I"⟩
abbrev cX2_act : ByteArray := prog_4_method_97_code
def yX2_act : MethodName := ⟨RX2, "act", "(II)V"⟩
abbrev cX2_answer : ByteArray := prog_4_method_121_code
def yX2_answer : MethodName := ⟨RX2, "answer", "(LMumpsHouse$Node;LMumpsHouse$Proc;ILMumpsHouse$Row;)I"⟩
abbrev cX2_begin : ByteArray := prog_4_method_2_code
def yX2_begin : MethodName := ⟨RX2, "begin", "()V"⟩
abbrev cX2_dismiss : ByteArray := prog_4_method_21_code
def yX2_dismiss : MethodName := ⟨RX2, "dismiss", "(LMumpsHouse$Proc;I)V"⟩
abbrev cX2_endLevel : ByteArray := prog_4_method_20_code
def yX2_endLevel : MethodName := ⟨RX2, "endLevel", "(Z)V"⟩
abbrev cX2_endLine : ByteArray := prog_4_method_19_code
def yX2_endLine : MethodName := ⟨RX2, "endLine", "()V"⟩
abbrev cX2_enter : ByteArray := prog_4_method_71_code
def yX2_enter : MethodName := ⟨RX2, "enter", "(II)V"⟩
abbrev cX2_expression : ByteArray := prog_4_method_33_code
def yX2_expression : MethodName := ⟨RX2, "expression", "(II)V"⟩
abbrev cX2_fetch : ByteArray := prog_4_method_13_code
def yX2_fetch : MethodName := ⟨RX2, "fetch", "()I"⟩
abbrev cX2_flow : ByteArray := prog_4_method_77_code
def yX2_flow : MethodName := ⟨RX2, "flow", "(II)V"⟩
abbrev cX2_inUse : ByteArray := prog_4_method_118_code
def yX2_inUse : MethodName := ⟨RX2, "inUse", "(LMumpsHouse$Text;)Z"⟩
abbrev cX2_readingEnded : ByteArray := prog_4_method_14_code
def yX2_readingEnded : MethodName := ⟨RX2, "readingEnded", "(Z)V"⟩
abbrev cX2_ready : ByteArray := prog_4_method_10_code
def yX2_ready : MethodName := ⟨RX2, "ready", "()Z"⟩
abbrev cX2_restart : ByteArray := prog_4_method_95_code
def yX2_restart : MethodName := ⟨RX2, "restart", "()V"⟩
abbrev cX2_seenValues : ByteArray := prog_4_method_120_code
def yX2_seenValues : MethodName := ⟨RX2, "seenValues", "(LMumpsHouse$Scope;)I"⟩
abbrev cX2_unwind : ByteArray := prog_4_method_16_code
def yX2_unwind : MethodName := ⟨RX2, "unwind", "()V"⟩
abbrev cX3_add : ByteArray := prog_5_method_5_code
def yX3_add : MethodName := ⟨RX3, "add", "([BII)V"⟩
abbrev cX3_canBe : ByteArray := prog_5_method_7_code
def yX3_canBe : MethodName := ⟨RX3, "canBe", "()Z"⟩
abbrev cX3_order : ByteArray := prog_5_method_15_code
def yX3_order : MethodName := ⟨RX3, "order", "(LMumpsHouse$Node;LMumpsHouse$Node;Z)I"⟩
abbrev cX3_readSubscript : ByteArray := prog_5_method_14_code
def yX3_readSubscript : MethodName := ⟨RX3, "readSubscript", "(LMumpsHouse$Row;ILMumpsHouse$Row;)I"⟩
abbrev cX3_text : ByteArray := prog_5_method_12_code
def yX3_text : MethodName := ⟨RX3, "text", "(LMumpsHouse$Row;I)V"⟩
abbrev cX4_canonic : ByteArray := prog_6_method_21_code
def yX4_canonic : MethodName := ⟨RX4, "canonic", "([BII)Z"⟩
abbrev cX6_addName : ByteArray := prog_8_method_10_code
def yX6_addName : MethodName := ⟨RX6, "addName", "(J)V"⟩
abbrev cX6_copy : ByteArray := prog_8_method_8_code
def yX6_copy : MethodName := ⟨RX6, "copy", "(LMumpsHouse$Row;)V"⟩
abbrev cX8_arguments : ByteArray := prog_10_method_34_code
def yX8_arguments : MethodName := ⟨RX8, "arguments", "(II)V"⟩
abbrev cX8_byteAt : ByteArray := prog_10_method_5_code
def yX8_byteAt : MethodName := ⟨RX8, "byteAt", "(I)I"⟩
abbrev cX8_emitBare : ByteArray := prog_10_method_33_code
def yX8_emitBare : MethodName := ⟨RX8, "emitBare", "(II)V"⟩
abbrev cX8_expect : ByteArray := prog_10_method_18_code
def yX8_expect : MethodName := ⟨RX8, "expect", "(I)V"⟩
abbrev cX8_expression : ByteArray := prog_10_method_47_code
def yX8_expression : MethodName := ⟨RX8, "expression", "(I)V"⟩
abbrev cX8_failAt : ByteArray := prog_10_method_15_code
def yX8_failAt : MethodName := ⟨RX8, "failAt", "(I)V"⟩
abbrev cX8_lengthOf : ByteArray := prog_10_method_7_code
def yX8_lengthOf : MethodName := ⟨RX8, "lengthOf", "(I)I"⟩
abbrev cX8_longest : ByteArray := prog_10_method_29_code
def yX8_longest : MethodName := ⟨RX8, "longest", "(Ljava/lang/String;)I"⟩
abbrev cX8_mayBeBare : ByteArray := prog_10_method_30_code
def yX8_mayBeBare : MethodName := ⟨RX8, "mayBeBare", "(I)Z"⟩
abbrev cX8_mayHaveArguments : ByteArray := prog_10_method_31_code
def yX8_mayHaveArguments : MethodName := ⟨RX8, "mayHaveArguments", "(I)Z"⟩
abbrev cX8_patch : ByteArray := prog_10_method_20_code
def yX8_patch : MethodName := ⟨RX8, "patch", "(III)V"⟩
abbrev cX8_pattern : ByteArray := prog_10_method_49_code
def yX8_pattern : MethodName := ⟨RX8, "pattern", "(IZ)V"⟩
abbrev cX8_peek : ByteArray := prog_10_method_16_code
def yX8_peek : MethodName := ⟨RX8, "peek", "()I"⟩
abbrev cX8_reference : ByteArray := prog_10_method_54_code
def yX8_reference : MethodName := ⟨RX8, "reference", "(I)V"⟩
abbrev cX8_skipBlanks : ByteArray := prog_10_method_22_code
def yX8_skipBlanks : MethodName := ⟨RX8, "skipBlanks", "()V"⟩
abbrev cX8_startOf : ByteArray := prog_10_method_6_code
def yX8_startOf : MethodName := ⟨RX8, "startOf", "(I)I"⟩
abbrev cX9_node : ByteArray := prog_11_method_4_code
def yX9_node : MethodName := ⟨RX9, "node", "(I)LMumpsHouse$Node;"⟩
abbrev cX9_standing : ByteArray := prog_11_method_7_code
def yX9_standing : MethodName := ⟨RX9, "standing", "(ILMumpsHouse$Node;)I"⟩
def zW_0 : List Cond := [.instanceMethod objectInit, .code objectInit ⟨#[0xb1]⟩ 1 none, .arrayClass .int, .arrayClass .byte, .arrayClass .long, .arrayClass .boolean, .code yX6_init cX6_init 2 none, .initialized RX6, .instanceMethod yX6_init, .methodLink RX6 3 objectInit, .instantiable RX6 3, .fieldLink RX6 9 "MumpsHouse$Row" "bytes" "[B", .code yX6_many cX6_many 4 (some (.array (.object "MumpsHouse$Row"))), .static yX6_many, .classLink RX6 10 RX6, .methodLink RX6 15 yX6_init, .code yX3_init cX3_init 1 none, .initialized RX3, .instanceMethod yX3_init, .methodLink RX3 3 objectInit, .fieldLink RX3 9 "MumpsHouse$Node" "key" "[B", .instantiable RX3 9, .code yX3_many cX3_many 3 (some (.array (.object "MumpsHouse$Node"))), .static yX3_many, .classLink RX3 10 RX3, .methodLink RX3 15 yX3_init, .code yX4_init cX4_init 2 none, .initialized RX4, .instanceMethod yX4_init, .methodLink RX4 3 objectInit]
def zW_1 : List Cond := [.instantiable RX4 3, .fieldLink RX4 9 "MumpsHouse$Num" "row" "[I", .code yX4_many cX4_many 3 (some (.array (.object "MumpsHouse$Num"))), .static yX4_many, .classLink RX4 10 RX4, .methodLink RX4 15 yX4_init, .code yX8_init cX8_init 3 none, .initialized RX8, .instanceMethod yX8_init, .methodLink RX8 3 objectInit, .fieldLink RX8 9 "MumpsHouse$Text" "targets" "[I", .fieldLink RX8 15 "MumpsHouse$Text" "bytes" "[B", .fieldLink RX8 19 "MumpsHouse$Text" "code" "[I", .fieldLink RX8 22 "MumpsHouse$Text" "starts" "[I", .fieldLink RX8 25 "MumpsHouse$Text" "codes" "[I", .fieldLink RX8 28 "MumpsHouse$Text" "levels" "[I", .fieldLink RX8 31 "MumpsHouse$Text" "labels" "[J", .fieldLink RX8 35 "MumpsHouse$Text" "formals" "[I", .code yX8_many cX8_many 5 (some (.array (.object "MumpsHouse$Text"))), .static yX8_many, .classLink RX8 10 RX8, .methodLink RX8 38 yX8_init, .code yX1_init cX1_init 1 none, .initialized RX1, .instanceMethod yX1_init, .methodLink RX1 3 objectInit, .classLink RX1 9 RX6, .fieldLink RX1 14 "MumpsHouse$Level" "trap" "LMumpsHouse$Row;", .classLink RX1 20 RX8, .fieldLink RX1 25 "MumpsHouse$Level" "own" "LMumpsHouse$Text;"]
def zW_2 : List Cond := [.fieldLink RX1 29 "MumpsHouse$Level" "trapText" "LMumpsHouse$Text;", .code yX1_many cX1_many 3 (some (.array (.object "MumpsHouse$Level"))), .static yX1_many, .classLink RX1 15 RX1, .methodLink RX1 32 yX1_init, .code yX5_init cX5_init 1 none, .initialized RX5, .instanceMethod yX5_init, .methodLink RX5 3 objectInit, .classLink RX5 9 RX6, .fieldLink RX5 14 "MumpsHouse$Proc" "code" "LMumpsHouse$Row;", .instantiable RX5 14, .fieldLink RX5 20 "MumpsHouse$Proc" "out" "LMumpsHouse$Row;", .code yX5_many cX5_many 3 (some (.array (.object "MumpsHouse$Proc"))), .static yX5_many, .classLink RX5 15 RX5, .methodLink RX5 23 yX5_init, .code yX7_init cX7_init 1 none, .initialized RX7, .instanceMethod yX7_init, .methodLink RX7 3 objectInit, .fieldLink RX7 9 "MumpsHouse$Scope" "names" "[J", .fieldLink RX7 15 "MumpsHouse$Scope" "cells" "[I", .fieldLink RX7 19 "MumpsHouse$Scope" "hiddenNames" "[J", .fieldLink RX7 22 "MumpsHouse$Scope" "hiddenCells" "[I", .fieldLink RX7 25 "MumpsHouse$Scope" "keptNames" "[J", .fieldLink RX7 28 "MumpsHouse$Scope" "keptCells" "[I", .fieldLink RX7 31 "MumpsHouse$Scope" "copies" "[J", .fieldLink RX7 34 "MumpsHouse$Scope" "marks" "[I", .classLink RX7 37 RX6]
def zW_3 : List Cond := [.fieldLink RX7 42 "MumpsHouse$Scope" "log" "LMumpsHouse$Row;", .code yX10_init cX10_init 2 none, .initialized RX10, .instanceMethod yX10_init, .methodLink RX10 3 objectInit, .fieldLink RX10 15 "MumpsHouse$Work" "strings" "[LMumpsHouse$Row;", .fieldLink RX10 26 "MumpsHouse$Work" "nodes" "[LMumpsHouse$Node;", .fieldLink RX10 35 "MumpsHouse$Work" "levels" "[LMumpsHouse$Level;", .fieldLink RX10 44 "MumpsHouse$Work" "ats" "[LMumpsHouse$Text;", .fieldLink RX10 48 "MumpsHouse$Work" "loops" "[I", .fieldLink RX10 52 "MumpsHouse$Work" "loopNames" "[J", .fieldLink RX10 61 "MumpsHouse$Work" "steps" "[LMumpsHouse$Num;", .fieldLink RX10 65 "MumpsHouse$Work" "limits" "[LMumpsHouse$Num;", .fieldLink RX10 68 "MumpsHouse$Work" "told" "[LMumpsHouse$Row;", .classLink RX10 22 RX3, .fieldLink RX10 72 "MumpsHouse$Work" "naked" "LMumpsHouse$Node;", .classLink RX10 76 RX7, .fieldLink RX10 79 "MumpsHouse$Work" "scope" "LMumpsHouse$Scope;", .fieldLink RX10 83 "MumpsHouse$Work" "owner" "I", .code yX10_many cX10_many 3 (some (.array (.object "MumpsHouse$Work"))), .static yX10_many, .classLink RX10 16 RX10, .methodLink RX10 87 yX10_init, .code yX9_init cX9_init 3 none, .initialized RX9, .instanceMethod yX9_init, .methodLink RX9 3 objectInit, .fieldLink RX9 15 "MumpsHouse$Tree" "nodes" "[LMumpsHouse$Node;", .fieldLink RX9 26 "MumpsHouse$Tree" "values" "[LMumpsHouse$Row;", .fieldLink RX9 30 "MumpsHouse$Tree" "order" "[I"]
def zW_4 : List Cond := [.fieldLink RX9 34 "MumpsHouse$Tree" "spare" "[I", .fieldLink RX9 37 "MumpsHouse$Tree" "byName" "Z", .methodLink RX9 41 yX9_clear, .code yX9_clear cX9_clear 2 none, .instanceMethod yX9_clear, .selects RX9 yX9_clear yX9_clear, .fieldLink RX9 44 "MumpsHouse$Tree" "count" "I", .code yX0_init cX0_init 1 none, .initialized RX0, .instanceMethod yX0_init, .methodLink RX0 3 objectInit, .classLink RX0 9 RX9, .fieldLink RX0 14 "MumpsHouse$House" "globals" "LMumpsHouse$Tree;", .fieldLink RX0 26 "MumpsHouse$House" "routines" "[LMumpsHouse$Text;", .classLink RX0 21 RX8, .fieldLink RX0 33 "MumpsHouse$House" "spare" "LMumpsHouse$Text;", .constant RX0 37 (102400), .fieldLink RX0 38 "MumpsHouse$House" "blocks" "[B", .fieldLink RX0 42 "MumpsHouse$House" "fresh" "[B", .classLink RX0 45 RX6, .constant RX0 47 (99200), .fieldLink RX0 51 "MumpsHouse$House" "waiting" "LMumpsHouse$Row;", .fieldLink RX0 55 "MumpsHouse$House" "cutAt" "I", .fieldLink RX0 64 "MumpsHouse$House" "locks" "[LMumpsHouse$Node;", .fieldLink RX0 68 "MumpsHouse$House" "counts" "[I", .code yX2_init cX2_init 2 none, .initialized RX2, .instanceMethod yX2_init, .methodLink RX2 3 objectInit, .classLink RX2 9 RX9]
def zW_5 : List Cond := [.fieldLink RX2 14 "MumpsHouse$Machine" "locals" "LMumpsHouse$Tree;", .fieldLink RX2 20 "MumpsHouse$Machine" "references" "[I", .fieldLink RX2 30 "MumpsHouse$Machine" "procs" "[LMumpsHouse$Proc;", .fieldLink RX2 39 "MumpsHouse$Machine" "works" "[LMumpsHouse$Work;", .fieldLink RX2 43 "MumpsHouse$Machine" "phase" "I", .classLink RX2 47 RX3, .fieldLink RX2 50 "MumpsHouse$Machine" "met" "LMumpsHouse$Node;", .fieldLink RX2 54 "MumpsHouse$Machine" "other" "LMumpsHouse$Node;", .classLink RX2 57 RX4, .fieldLink RX2 62 "MumpsHouse$Machine" "a" "LMumpsHouse$Num;", .fieldLink RX2 66 "MumpsHouse$Machine" "b" "LMumpsHouse$Num;", .classLink RX2 69 RX6, .fieldLink RX2 72 "MumpsHouse$Machine" "out" "LMumpsHouse$Row;", .fieldLink RX2 76 "MumpsHouse$Machine" "given" "LMumpsHouse$Row;", .fieldLink RX2 79 "MumpsHouse$Machine" "sets" "[J", .fieldLink RX2 83 "MumpsHouse$Machine" "ids" "[I", .fieldLink RX2 86 "MumpsHouse$Machine" "house" "LMumpsHouse$House;", .code yX11_init cX11_init 1 none, .initialized RX11, .instanceMethod yX11_init, .methodLink RX11 3 objectInit, .classLink RX11 9 RX6, .fieldLink RX11 14 "MumpsHouse" "tape" "LMumpsHouse$Row;", .fieldLink RX11 18 "MumpsHouse" "result" "LMumpsHouse$Row;", .classLink RX11 21 RX0, .fieldLink RX11 24 "MumpsHouse" "house" "LMumpsHouse$House;", .classLink RX11 28 RX2, .fieldLink RX11 33 "MumpsHouse" "machine" "LMumpsHouse$Machine;", .classLink RX11 37 RX3, .fieldLink RX11 40 "MumpsHouse" "node" "LMumpsHouse$Node;"]
def zW_6 : List Cond := [.fieldLink RX11 44 "MumpsHouse" "value" "LMumpsHouse$Row;", .code yX6_clear cX6_clear 1 none, .instanceMethod yX6_clear, .selects RX6 yX6_clear yX6_clear, .fieldLink RX6 18 "MumpsHouse$Row" "length" "I", .fieldLink RX6 22 "MumpsHouse$Row" "kind" "I", .code yX6_at cX6_at 2 (some .int), .instanceMethod yX6_at, .selects RX6 yX6_at yX6_at, .code yX6_add cX6_add 2 none, .instanceMethod yX6_add, .selects RX6 yX6_add yX6_add, .code yX6_addPart cX6_addPart 4 (some .boolean), .instanceMethod yX6_addPart, .selects RX6 yX6_addPart yX6_addPart, .methodLink RX6 25 arraycopyName, .code yX11_feed cX11_feed 6 (some .int), .instanceMethod yX11_feed, .selects RX11 yX11_feed yX11_feed, .methodLink RX11 51 yX11_feedNumber, .code yX11_feedNumber cX11_feedNumber 3 none, .instanceMethod yX11_feedNumber, .selects RX11 yX11_feedNumber yX11_feedNumber, .code yX11_end cX11_end 2 (some .int), .instanceMethod yX11_end, .selects RX11 yX11_end yX11_end, .code yX11_save cX11_save 8 (some .int), .instanceMethod yX11_save, .selects RX11 yX11_save yX11_save, .methodLink RX11 68 yX11_beginsName]
def zW_7 : List Cond := [.methodLink RX11 72 yX11_goesOnName, .methodLink RX11 85 yX11_packed, .methodLink RX11 89 yX11_readSpare, .code yX11_process cX11_process 3 (some .int), .instanceMethod yX11_process, .selects RX11 yX11_process yX11_process, .code yX11_tell cX11_tell 4 (some .int), .instanceMethod yX11_tell, .selects RX11 yX11_tell yX11_tell, .code yX11_time cX11_time 3 (some .int), .instanceMethod yX11_time, .selects RX11 yX11_time yX11_time, .constant RX11 179 (2000000000), .code yX11_seed cX11_seed 3 (some .int), .instanceMethod yX11_seed, .selects RX11 yX11_seed yX11_seed, .code yX11_turns cX11_turns 15 (some .int), .instanceMethod yX11_turns, .selects RX11 yX11_turns yX11_turns, .constantLong RX11 188 (4611686018427387904), .code yX11_halt cX11_halt 4 (some .int), .instanceMethod yX11_halt, .selects RX11 yX11_halt yX11_halt, .code yX11_state cX11_state 5 (some .int), .instanceMethod yX11_state, .selects RX11 yX11_state yX11_state, .code yX11_written cX11_written 4 (some .int), .instanceMethod yX11_written, .selects RX11 yX11_written yX11_written, .code yX11_take cX11_take 4 (some .int)]
def zW_8 : List Cond := [.instanceMethod yX11_take, .selects RX11 yX11_take yX11_take, .code yX11_code cX11_code 3 (some .int), .instanceMethod yX11_code, .selects RX11 yX11_code yX11_code, .code yX11_level cX11_level 6 (some .int), .instanceMethod yX11_level, .selects RX11 yX11_level yX11_level, .code yX11_look cX11_look 6 (some .int), .instanceMethod yX11_look, .selects RX11 yX11_look yX11_look, .code yX11_result cX11_result 2 (some .int), .instanceMethod yX11_result, .selects RX11 yX11_result yX11_result, .code yX11_lock cX11_lock 4 (some .int), .instanceMethod yX11_lock, .selects RX11 yX11_lock yX11_lock, .code yX11_count cX11_count 2 (some .int), .instanceMethod yX11_count, .selects RX11 yX11_count yX11_count, .code yX11_sound cX11_sound 1 (some .int), .instanceMethod yX11_sound, .selects RX11 yX11_sound yX11_sound, .code yX11_sync cX11_sync 1 (some .int), .instanceMethod yX11_sync, .selects RX11 yX11_sync yX11_sync, .code yX11_cut cX11_cut 3 (some .int), .instanceMethod yX11_cut, .selects RX11 yX11_cut yX11_cut, .code yX11_start cX11_start 8 (some .int)]
def zW_9 : List Cond := [.instanceMethod yX11_start, .selects RX11 yX11_start yX11_start, .methodLink RX11 381 yX11_behindUnit, .constant RX11 384 (99200), .methodLink RX11 389 Lib.Math.max.name, .methodLink RX11 395 yX11_redo, .code yX11_octet cX11_octet 3 (some .int), .instanceMethod yX11_octet, .selects RX11 yX11_octet yX11_octet, .code yX11_poke cX11_poke 6 (some .int), .instanceMethod yX11_poke, .selects RX11 yX11_poke yX11_poke, .code yX11_verify cX11_verify 2 (some .int), .instanceMethod yX11_verify, .selects RX11 yX11_verify yX11_verify, .code yX2_proc cX2_proc 2 (some (.object "MumpsHouse$Proc")), .instanceMethod yX2_proc, .selects RX2 yX2_proc yX2_proc, .fieldLink RX2 90 "MumpsHouse$Machine" "procCount" "I", .code yX2_living cX2_living 3 (some (.object "MumpsHouse$Proc")), .instanceMethod yX2_living, .selects RX2 yX2_living yX2_living, .methodLink RX2 105 yX2_proc, .code yX2_livingCount cX2_livingCount 3 (some .int), .instanceMethod yX2_livingCount, .selects RX2 yX2_livingCount yX2_livingCount, .methodLink RX2 108 yX2_living, .code yX2_choose cX2_choose 6 (some .int), .instanceMethod yX2_choose, .selects RX2 yX2_choose yX2_choose]
def zW_10 : List Cond := [.methodLink RX2 124 yX2_livingCount, .fieldLink RX2 100 "MumpsHouse$Machine" "proc" "LMumpsHouse$Proc;", .fieldLink RX2 104 "MumpsHouse$Machine" "work" "LMumpsHouse$Work;", .fieldLink RX2 121 "MumpsHouse$Machine" "error" "I", .fieldLink RX2 148 "MumpsHouse$Machine" "begun" "Z", .methodLink RX2 152 yX2_ready, .code yX2_create cX2_create 4 (some (.object "MumpsHouse$Proc")), .instanceMethod yX2_create, .selects RX2 yX2_create yX2_create, .methodLink RX2 111 yX2_isBusy, .code yX2_isBusy cX2_isBusy 4 (some .boolean), .instanceMethod yX2_isBusy, .selects RX2 yX2_isBusy yX2_isBusy, .code yX2_beginProcess cX2_beginProcess 4 (some (.object "MumpsHouse$Proc")), .instanceMethod yX2_beginProcess, .selects RX2 yX2_beginProcess yX2_beginProcess, .methodLink RX2 782 yX2_create, .code yX10_begin cX10_begin 1 none, .instanceMethod yX10_begin, .selects RX10 yX10_begin yX10_begin, .fieldLink RX10 90 "MumpsHouse$Work" "stringCount" "I", .fieldLink RX10 93 "MumpsHouse$Work" "nodeCount" "I", .fieldLink RX10 96 "MumpsHouse$Work" "levelCount" "I", .fieldLink RX10 99 "MumpsHouse$Work" "atCount" "I", .fieldLink RX10 102 "MumpsHouse$Work" "loopCount" "I", .fieldLink RX10 105 "MumpsHouse$Work" "toldCount" "I", .code yX7_begin cX7_begin 1 none, .instanceMethod yX7_begin, .selects RX7 yX7_begin yX7_begin, .fieldLink RX7 46 "MumpsHouse$Scope" "count" "I"]
def zW_11 : List Cond := [.fieldLink RX7 50 "MumpsHouse$Scope" "hiddenCount" "I", .fieldLink RX7 53 "MumpsHouse$Scope" "keptCount" "I", .fieldLink RX7 56 "MumpsHouse$Scope" "copyCount" "I", .fieldLink RX7 62 "MumpsHouse$Scope" "loops" "I", .fieldLink RX7 65 "MumpsHouse$Scope" "level" "I", .fieldLink RX7 68 "MumpsHouse$Scope" "gone" "I", .fieldLink RX7 71 "MumpsHouse$Scope" "restartable" "Z", .fieldLink RX7 75 "MumpsHouse$Scope" "text" "LMumpsHouse$Text;", .code yX3_begin cX3_begin 4 none, .instanceMethod yX3_begin, .selects RX3 yX3_begin yX3_begin, .fieldLink RX3 16 "MumpsHouse$Node" "kind" "I", .fieldLink RX3 20 "MumpsHouse$Node" "name" "J", .fieldLink RX3 24 "MumpsHouse$Node" "length" "I", .fieldLink RX3 27 "MumpsHouse$Node" "subscripts" "I", .fieldLink RX3 30 "MumpsHouse$Node" "owner" "I", .fieldLink RX3 33 "MumpsHouse$Node" "times" "I", .fieldLink RX3 36 "MumpsHouse$Node" "bad" "Z", .fieldLink RX3 40 "MumpsHouse$Node" "lastEmpty" "Z", .code yX5_begin cX5_begin 3 none, .instanceMethod yX5_begin, .selects RX5 yX5_begin yX5_begin, .fieldLink RX5 24 "MumpsHouse$Proc" "number" "I", .fieldLink RX5 28 "MumpsHouse$Proc" "work" "LMumpsHouse$Work;", .fieldLink RX5 32 "MumpsHouse$Proc" "status" "I", .fieldLink RX5 35 "MumpsHouse$Proc" "wait" "I", .fieldLink RX5 38 "MumpsHouse$Proc" "deadline" "J", .fieldLink RX5 42 "MumpsHouse$Proc" "test" "I", .fieldLink RX5 45 "MumpsHouse$Proc" "depth" "I", .fieldLink RX5 48 "MumpsHouse$Proc" "restarts" "I"]
def zW_12 : List Cond := [.fieldLink RX5 51 "MumpsHouse$Proc" "x" "I", .fieldLink RX5 54 "MumpsHouse$Proc" "y" "I", .fieldLink RX5 57 "MumpsHouse$Proc" "began" "I", .fieldLink RX5 60 "MumpsHouse$Proc" "stream" "J", .code yX10_pushLevel cX10_pushLevel 5 (some (.object "MumpsHouse$Level")), .instanceMethod yX10_pushLevel, .selects RX10 yX10_pushLevel yX10_pushLevel, .methodLink RX10 127 yX10_top, .fieldLink RX10 134 "MumpsHouse$Work" "text" "LMumpsHouse$Text;", .fieldLink RX10 165 "MumpsHouse$Work" "place" "I", .code yX10_top cX10_top 1 (some (.object "MumpsHouse$Level")), .instanceMethod yX10_top, .selects RX10 yX10_top yX10_top, .methodLink RX10 114 yX10_levelAt, .code yX10_levelAt cX10_levelAt 2 (some (.object "MumpsHouse$Level")), .instanceMethod yX10_levelAt, .selects RX10 yX10_levelAt yX10_levelAt, .code yX8_load cX8_load 4 (some .boolean), .instanceMethod yX8_load, .selects RX8 yX8_load yX8_load, .methodLink RX8 41 arraycopyName, .fieldLink RX8 47 "MumpsHouse$Text" "length" "I", .fieldLink RX8 51 "MumpsHouse$Text" "name" "J", .code yX8_readPiece cX8_readPiece 2 (some .boolean), .instanceMethod yX8_readPiece, .selects RX8 yX8_readPiece yX8_readPiece, .methodLink RX8 145 yX8_begin, .methodLink RX8 104 yX8_beginLine, .methodLink RX8 136 yX8_commands, .methodLink RX8 149 yX8_reference]
def zW_13 : List Cond := [.methodLink RX8 100 yX8_peek, .methodLink RX8 96 yX8_failAt, .methodLink RX8 152 yX8_pattern, .methodLink RX8 156 yX8_emit, .methodLink RX8 159 yX8_arguments, .fieldLink RX8 86 "MumpsHouse$Text" "at" "I", .fieldLink RX8 89 "MumpsHouse$Text" "fault" "I", .code yX8_begin cX8_begin 2 none, .instanceMethod yX8_begin, .selects RX8 yX8_begin yX8_begin, .fieldLink RX8 55 "MumpsHouse$Text" "codeLength" "I", .fieldLink RX8 58 "MumpsHouse$Text" "lines" "I", .fieldLink RX8 92 "MumpsHouse$Text" "lined" "Z", .code yX8_beginLine cX8_beginLine 2 none, .instanceMethod yX8_beginLine, .selects RX8 yX8_beginLine yX8_beginLine, .code yX8_commands cX8_commands 7 none, .instanceMethod yX8_commands, .selects RX8 yX8_commands yX8_commands, .methodLink RX8 126 yX8_lineEnds, .methodLink RX8 175 yX8_longest, .fieldLink RX8 162 "MumpsHouse$Text" "found" "I", .methodLink RX8 179 yX8_expression, .methodLink RX8 83 yX8_byteAt, .methodLink RX8 182 yX8_mayBeBare, .methodLink RX8 185 yX8_emitBare, .methodLink RX8 142 yX8_expect, .methodLink RX8 188 yX8_mayHaveArguments, .methodLink RX8 130 yX8_skipBlanks, .methodLink RX8 191 yX8_patch]
def zW_14 : List Cond := [.code yX8_lineEnds cX8_lineEnds 1 (some .boolean), .instanceMethod yX8_lineEnds, .selects RX8 yX8_lineEnds yX8_lineEnds, .code yX8_emit cX8_emit 3 none, .instanceMethod yX8_emit, .selects RX8 yX8_emit yX8_emit, .code yX0_lockAt cX0_lockAt 8 (some (.object "MumpsHouse$Node")), .instanceMethod yX0_lockAt, .selects RX0 yX0_lockAt yX0_lockAt, .fieldLink RX0 126 "MumpsHouse$House" "lockCount" "I", .methodLink RX0 129 yX0_held, .code yX0_write cX0_write 5 (some .int), .instanceMethod yX0_write, .selects RX0 yX0_write yX0_write, .fieldLink RX0 90 "MumpsHouse$House" "used" "I", .methodLink RX0 158 yX0_compose, .fieldLink RX0 162 "MumpsHouse$House" "tear" "I", .methodLink RX0 165 arraycopyName, .fieldLink RX0 171 "MumpsHouse$House" "torn" "I", .fieldLink RX0 174 "MumpsHouse$House" "down" "Z", .fieldLink RX0 123 "MumpsHouse$House" "units" "I", .code yX0_octetAt cX0_octetAt 4 (some .int), .instanceMethod yX0_octetAt, .selects RX0 yX0_octetAt yX0_octetAt, .code yX9_inOrder cX9_inOrder 3 (some .boolean), .instanceMethod yX9_inOrder, .selects RX9 yX9_inOrder yX9_inOrder, .methodLink RX9 51 yX9_node, .methodLink RX9 59 yX9_standing, .code yX3_read cX3_read 6 (some .boolean)]
def zW_15 : List Cond := [.instanceMethod yX3_read, .selects RX3 yX3_read yX3_read, .methodLink RX3 43 yX3_begin, .methodLink RX3 114 yX3_readSubscript, .methodLink RX3 118 yX3_add, .methodLink RX3 121 yX3_canBe, .code yX11_beginsName cX11_beginsName 1 (some .boolean), .static yX11_beginsName, .code yX12_init cX12_init 2 none, .initialized RX12, .instanceMethod yX12_init, .methodLink RX12 1 objectInit, .fieldLink RX12 7 "MumpsHouseModel" "wide" "[I", .fieldLink RX12 13 "MumpsHouseModel" "wideB" "[I", .fieldLink RX12 16 "MumpsHouseModel" "wideR" "[I", .fieldLink RX12 19 "MumpsHouseModel" "textB" "[B", .fieldLink RX12 23 "MumpsHouseModel" "rowKind" "[I", .fieldLink RX12 26 "MumpsHouseModel" "rowOf" "[I", .fieldLink RX12 29 "MumpsHouseModel" "rowName" "[J", .fieldLink RX12 33 "MumpsHouseModel" "rowKeyLength" "[I", .constant RX12 36 (143000), .fieldLink RX12 37 "MumpsHouseModel" "rowKeys" "[B", .fieldLink RX12 40 "MumpsHouseModel" "rowLength" "[I", .constant RX12 43 (325000), .fieldLink RX12 44 "MumpsHouseModel" "rowValues" "[B", .constant RX12 47 (840000), .fieldLink RX12 48 "MumpsHouseModel" "code" "[I", .fieldLink RX12 51 "MumpsHouseModel" "targetOps" "[I", .fieldLink RX12 54 "MumpsHouseModel" "targetArgs" "[I", .fieldLink RX12 57 "MumpsHouseModel" "routineName" "[J"]
def zW_16 : List Cond := [.fieldLink RX12 60 "MumpsHouseModel" "routineLength" "[I", .constant RX12 63 (52700), .fieldLink RX12 64 "MumpsHouseModel" "routineText" "[B", .fieldLink RX12 67 "MumpsHouseModel" "lineCount" "[I", .fieldLink RX12 70 "MumpsHouseModel" "lineAt" "[I", .fieldLink RX12 73 "MumpsHouseModel" "lineLevel" "[I", .fieldLink RX12 76 "MumpsHouseModel" "lineLabel" "[J", .fieldLink RX12 79 "MumpsHouseModel" "lineCode" "[I", .fieldLink RX12 82 "MumpsHouseModel" "lineStop" "[I", .fieldLink RX12 85 "MumpsHouseModel" "lineFormals" "[I", .constant RX12 88 (34340), .fieldLink RX12 89 "MumpsHouseModel" "formals" "[J", .fieldLink RX12 92 "MumpsHouseModel" "draft" "[B", .fieldLink RX12 95 "MumpsHouseModel" "places" "[Z", .fieldLink RX12 99 "MumpsHouseModel" "handTop" "[I", .fieldLink RX12 102 "MumpsHouseModel" "handN" "[I", .constant RX12 105 (90720), .fieldLink RX12 106 "MumpsHouseModel" "handB" "[B", .fieldLink RX12 109 "MumpsHouseModel" "nodeTop" "[I", .fieldLink RX12 112 "MumpsHouseModel" "nodeKind" "[I", .fieldLink RX12 115 "MumpsHouseModel" "nodeName" "[J", .fieldLink RX12 118 "MumpsHouseModel" "nodeLength" "[I", .fieldLink RX12 121 "MumpsHouseModel" "nodeKeys" "[B", .fieldLink RX12 124 "MumpsHouseModel" "handKind" "[I", .fieldLink RX12 127 "MumpsHouseModel" "handName" "[J", .fieldLink RX12 130 "MumpsHouseModel" "boundCount" "[I", .fieldLink RX12 133 "MumpsHouseModel" "boundName" "[J", .fieldLink RX12 136 "MumpsHouseModel" "boundVar" "[I", .fieldLink RX12 139 "MumpsHouseModel" "hiddenCount" "[I", .fieldLink RX12 142 "MumpsHouseModel" "hiddenName" "[J"]
def zW_17 : List Cond := [.fieldLink RX12 145 "MumpsHouseModel" "hiddenVar" "[I", .fieldLink RX12 148 "MumpsHouseModel" "nakedName" "[J", .fieldLink RX12 151 "MumpsHouseModel" "nakedLength" "[I", .fieldLink RX12 154 "MumpsHouseModel" "nakedKeys" "[B", .fieldLink RX12 157 "MumpsHouseModel" "tLevel" "[I", .fieldLink RX12 160 "MumpsHouseModel" "tRestarts" "[I", .fieldLink RX12 163 "MumpsHouseModel" "tMay" "[Z", .fieldLink RX12 166 "MumpsHouseModel" "tAt" "[I", .fieldLink RX12 169 "MumpsHouseModel" "tPc" "[I", .fieldLink RX12 172 "MumpsHouseModel" "tStack" "[I", .fieldLink RX12 175 "MumpsHouseModel" "tFors" "[I", .fieldLink RX12 178 "MumpsHouseModel" "tSerial" "[I", .fieldLink RX12 181 "MumpsHouseModel" "tForSerial" "[I", .fieldLink RX12 184 "MumpsHouseModel" "copyCount" "[I", .fieldLink RX12 187 "MumpsHouseModel" "copyName" "[J", .fieldLink RX12 190 "MumpsHouseModel" "copyStale" "[Z", .fieldLink RX12 193 "MumpsHouseModel" "recordCount" "[I", .constant RX12 196 (48000), .fieldLink RX12 197 "MumpsHouseModel" "recordBytes" "[B", .fieldLink RX12 200 "MumpsHouseModel" "keptCount" "[I", .fieldLink RX12 203 "MumpsHouseModel" "keptName" "[J", .constant RX12 206 (102656), .fieldLink RX12 207 "MumpsHouseModel" "disk" "[B", .constant RX12 210 (99600), .fieldLink RX12 211 "MumpsHouseModel" "waiting" "[B", .fieldLink RX12 214 "MumpsHouseModel" "unit" "[B", .fieldLink RX12 217 "MumpsHouseModel" "patternText" "[B", .fieldLink RX12 220 "MumpsHouseModel" "draftChars" "[B", .fieldLink RX12 223 "MumpsHouseModel" "draftNumber" "[B", .fieldLink RX12 226 "MumpsHouseModel" "parsedKey" "[B"]
def zW_18 : List Cond := [.fieldLink RX12 229 "MumpsHouseModel" "quoted" "[Z", .fieldLink RX12 232 "MumpsHouseModel" "stream" "[J", .fieldLink RX12 235 "MumpsHouseModel" "slotOf" "[I", .fieldLink RX12 238 "MumpsHouseModel" "numberAt" "[I", .fieldLink RX12 241 "MumpsHouseModel" "byError" "[Z", .fieldLink RX12 244 "MumpsHouseModel" "test" "[I", .fieldLink RX12 247 "MumpsHouseModel" "outX" "[I", .fieldLink RX12 250 "MumpsHouseModel" "outY" "[I", .fieldLink RX12 253 "MumpsHouseModel" "begun" "[I", .fieldLink RX12 256 "MumpsHouseModel" "outCount" "[I", .constant RX12 259 (50000), .fieldLink RX12 260 "MumpsHouseModel" "outBytes" "[B", .fieldLink RX12 263 "MumpsHouseModel" "ecodeN" "[I", .fieldLink RX12 266 "MumpsHouseModel" "ecode" "[B", .fieldLink RX12 269 "MumpsHouseModel" "pc" "[I", .fieldLink RX12 272 "MumpsHouseModel" "atRound" "[Z", .fieldLink RX12 275 "MumpsHouseModel" "waits" "[I", .fieldLink RX12 278 "MumpsHouseModel" "until" "[J", .fieldLink RX12 281 "MumpsHouseModel" "timed" "[Z", .fieldLink RX12 284 "MumpsHouseModel" "waitMany" "[I", .fieldLink RX12 287 "MumpsHouseModel" "toldCount" "[I", .fieldLink RX12 290 "MumpsHouseModel" "toldN" "[I", .fieldLink RX12 293 "MumpsHouseModel" "toldB" "[B", .fieldLink RX12 296 "MumpsHouseModel" "segTop" "[I", .fieldLink RX12 299 "MumpsHouseModel" "levels" "[I", .fieldLink RX12 302 "MumpsHouseModel" "lKind" "[I", .fieldLink RX12 305 "MumpsHouseModel" "lRoutine" "[I", .fieldLink RX12 308 "MumpsHouseModel" "lLine" "[I", .fieldLink RX12 311 "MumpsHouseModel" "lDots" "[I", .fieldLink RX12 314 "MumpsHouseModel" "lStop" "[I"]
def zW_19 : List Cond := [.fieldLink RX12 317 "MumpsHouseModel" "lRet" "[I", .fieldLink RX12 320 "MumpsHouseModel" "lSeg" "[I", .fieldLink RX12 323 "MumpsHouseModel" "lKeep" "[I", .fieldLink RX12 326 "MumpsHouseModel" "lHand" "[I", .fieldLink RX12 329 "MumpsHouseModel" "lNode" "[I", .fieldLink RX12 332 "MumpsHouseModel" "lFor" "[I", .fieldLink RX12 335 "MumpsHouseModel" "lText" "[I", .fieldLink RX12 338 "MumpsHouseModel" "lHidden" "[I", .fieldLink RX12 341 "MumpsHouseModel" "lTest" "[I", .fieldLink RX12 344 "MumpsHouseModel" "lSerial" "[I", .fieldLink RX12 347 "MumpsHouseModel" "lTrapped" "[Z", .fieldLink RX12 350 "MumpsHouseModel" "lInTrap" "[Z", .fieldLink RX12 353 "MumpsHouseModel" "lEtrapN" "[I", .constant RX12 356 (46872), .fieldLink RX12 357 "MumpsHouseModel" "lEtrap" "[B", .fieldLink RX12 360 "MumpsHouseModel" "fors" "[I", .fieldLink RX12 363 "MumpsHouseModel" "fLevel" "[I", .fieldLink RX12 366 "MumpsHouseModel" "fName" "[J", .fieldLink RX12 369 "MumpsHouseModel" "fKind" "[I", .fieldLink RX12 372 "MumpsHouseModel" "fStepM" "[J", .fieldLink RX12 375 "MumpsHouseModel" "fStepE" "[I", .fieldLink RX12 378 "MumpsHouseModel" "fLimitM" "[J", .fieldLink RX12 381 "MumpsHouseModel" "fLimitE" "[I", .fieldLink RX12 384 "MumpsHouseModel" "fBody" "[I", .fieldLink RX12 387 "MumpsHouseModel" "fNext" "[I", .fieldLink RX12 390 "MumpsHouseModel" "fSerial" "[I", .fieldLink RX12 393 "MumpsHouseModel" "texts" "[I", .fieldLink RX12 396 "MumpsHouseModel" "aRet" "[I", .fieldLink RX12 399 "MumpsHouseModel" "aSeg" "[I", .fieldLink RX12 402 "MumpsHouseModel" "lockBy" "[I"]
def zW_20 : List Cond := [.fieldLink RX12 405 "MumpsHouseModel" "lockKind" "[I", .fieldLink RX12 408 "MumpsHouseModel" "lockName" "[J", .fieldLink RX12 411 "MumpsHouseModel" "lockLength" "[I", .fieldLink RX12 414 "MumpsHouseModel" "lockKeys" "[B", .fieldLink RX12 417 "MumpsHouseModel" "lockTimes" "[I", .fieldLink RX12 420 "MumpsHouseModel" "trapText" "[B", .fieldLink RX12 423 "MumpsHouseModel" "lTrap" "[B", .fieldLink RX12 426 "MumpsHouseModel" "lTrapN" "[I", .fieldLink RX12 429 "MumpsHouseModel" "valueText" "[B", .fieldLink RX12 432 "MumpsHouseModel" "passVar" "[I", .fieldLink RX12 435 "MumpsHouseModel" "draftValue" "[B", .fieldLink RX12 438 "MumpsHouseModel" "mergeRows" "[I", .fieldLink RX12 441 "MumpsHouseModel" "mergeKey" "[B", .fieldLink RX12 444 "MumpsHouseModel" "tRoutine" "[I", .fieldLink RX12 447 "MumpsHouseModel" "tLine" "[I", .fieldLink RX12 450 "MumpsHouseModel" "tStop" "[I", .fieldLink RX12 453 "MumpsHouseModel" "tInTrap" "[Z", .fieldLink RX12 456 "MumpsHouseModel" "tape" "[B", .fieldLink RX12 459 "MumpsHouseModel" "cutIn" "I", .fieldLink RX12 463 "MumpsHouseModel" "result" "[B", .fieldLink RX12 466 "MumpsHouseModel" "lOwn" "[B", .fieldLink RX12 469 "MumpsHouseModel" "lOwnN" "[I", .fieldLink RX12 472 "MumpsHouseModel" "draftBlock" "[B", .fieldLink RX12 475 "MumpsHouseModel" "torn" "I", .fieldLink RX12 478 "MumpsHouseModel" "readKey" "[B", .fieldLink RX12 481 "MumpsHouseModel" "readBytes" "[B", .fieldLink RX12 484 "MumpsHouseModel" "freshName" "[J", .code yX12_feed cX12_feed 8 (some .int), .instanceMethod yX12_feed, .selects RX12 yX12_feed yX12_feed]
def zW_21 : List Cond := [.fieldLink RX12 1530 "MumpsHouseModel" "tapeN" "I", .code yX12_end cX12_end 2 (some .int), .instanceMethod yX12_end, .selects RX12 yX12_end yX12_end, .code yX12_save cX12_save 9 (some .int), .instanceMethod yX12_save, .selects RX12 yX12_save yX12_save, .fieldLink RX12 1533 "MumpsHouseModel" "isDown" "Z", .methodLink RX12 1536 yX12_isNameOf, .methodLink RX12 1539 yX12_longName, .methodLink RX12 1543 yX12_readRoutine, .fieldLink RX12 630 "MumpsHouseModel" "faultAt" "I", .methodLink RX12 1229 yX12_findRoutine, .methodLink RX12 1546 yX12_isUsed, .fieldLink RX12 954 "MumpsHouseModel" "unitLength" "I", .methodLink RX12 957 yX12_unitByte, .methodLink RX12 963 yX12_unitName, .fieldLink RX12 838 "MumpsHouseModel" "routines" "I", .methodLink RX12 1013 yX12_hasDiskRoom, .methodLink RX12 1016 yX12_unitWaits, .methodLink RX12 1549 yX12_keepRoutine, .code yX12_process cX12_process 6 (some .int), .instanceMethod yX12_process, .selects RX12 yX12_process yX12_process, .methodLink RX12 1254 yX12_freeSlot, .methodLink RX12 1083 yX12_begin, .constant RX12 1552 (224000), .fieldLink RX12 656 "MumpsHouseModel" "codeAt" "I", .methodLink RX12 847 yX12_commands, .methodLink RX12 642 yX12_isGood]
def zW_22 : List Cond := [.fieldLink RX12 1257 "MumpsHouseModel" "processes" "I", .methodLink RX12 1260 yX12_newProcess, .fieldLink RX12 881 "MumpsHouseModel" "cur" "I", .fieldLink RX12 878 "MumpsHouseModel" "err" "I", .methodLink RX12 1248 yX12_pushLevel, .methodLink RX12 1162 yX12_level, .methodLink RX12 1391 yX12_own, .methodLink RX12 1192 yX12_readText, .code yX12_tell cX12_tell 6 (some .int), .instanceMethod yX12_tell, .selects RX12 yX12_tell yX12_tell, .methodLink RX12 1553 yX12_isLiving, .code yX12_time cX12_time 3 (some .int), .instanceMethod yX12_time, .selects RX12 yX12_time yX12_time, .fieldLink RX12 1327 "MumpsHouseModel" "second" "I", .constant RX12 1556 (2000000000), .code yX12_seed cX12_seed 3 (some .int), .instanceMethod yX12_seed, .selects RX12 yX12_seed yX12_seed, .fieldLink RX12 1557 "MumpsHouseModel" "turnX" "J", .code yX12_turns cX12_turns 6 (some .int), .instanceMethod yX12_turns, .selects RX12 yX12_turns yX12_turns, .methodLink RX12 1560 yX12_living, .constantLong RX12 1158 (6364136223846793005), .constantLong RX12 1160 (1442695040888963407), .fieldLink RX12 1563 "MumpsHouseModel" "turnsDone" "I", .methodLink RX12 1566 yX12_processTurn, .fieldLink RX12 1569 "MumpsHouseModel" "idleTurns" "I"]
def zW_23 : List Cond := [.code yX12_halt cX12_halt 3 (some .int), .instanceMethod yX12_halt, .selects RX12 yX12_halt yX12_halt, .methodLink RX12 1198 yX12_over_, .code yX12_state cX12_state 6 (some .int), .instanceMethod yX12_state, .selects RX12 yX12_state yX12_state, .fieldLink RX12 1186 "MumpsHouseModel" "locks" "I", .methodLink RX12 1572 yX12_localValues, .code yX12_written cX12_written 4 (some .int), .instanceMethod yX12_written, .selects RX12 yX12_written yX12_written, .code yX12_take cX12_take 3 (some .int), .instanceMethod yX12_take, .selects RX12 yX12_take yX12_take, .code yX12_code cX12_code 2 (some .int), .instanceMethod yX12_code, .selects RX12 yX12_code yX12_code, .methodLink RX12 1575 yX12_resultBytes, .fieldLink RX12 1527 "MumpsHouseModel" "resultN" "I", .code yX12_level cX12_level 1 (some .int), .instanceMethod yX12_level, .selects RX12 yX12_level yX12_level, .code yX12_look cX12_look 14 (some .int), .instanceMethod yX12_look, .selects RX12 yX12_look yX12_look, .methodLink RX12 1142 yX12_parseText, .fieldLink RX12 1149 "MumpsHouseModel" "parsedName" "J", .methodLink RX12 927 yX12_variableOf, .fieldLink RX12 1152 "MumpsHouseModel" "parsedLength" "I"]
def zW_24 : List Cond := [.methodLink RX12 1023 yX12_dataOf, .methodLink RX12 610 yX12_find, .fieldLink RX12 554 "MumpsHouseModel" "textN" "I", .methodLink RX12 1387 yX12_nextNode, .methodLink RX12 1363 yX12_nodeText, .fieldLink RX12 1120 "MumpsHouseModel" "parsedMany" "I", .methodLink RX12 1379 yX12_nextName, .methodLink RX12 557 yX12_put, .methodLink RX12 1155 yX12_putName, .methodLink RX12 624 yX12_lastOf, .methodLink RX12 1383 yX12_nextSubscript, .methodLink RX12 1578 yX12_resultText, .code yX12_result cX12_result 2 (some .int), .instanceMethod yX12_result, .selects RX12 yX12_result yX12_result, .code yX12_lock cX12_lock 5 none, .instanceMethod yX12_lock, .selects RX12 yX12_lock yX12_lock, .methodLink RX12 646 yX12_sign, .fieldLink RX12 633 "MumpsHouseModel" "at" "I", .methodLink RX12 650 yX12_takes, .methodLink RX12 692 yX12_opens, .methodLink RX12 653 yX12_fail, .methodLink RX12 723 yX12_ref, .methodLink RX12 689 yX12_expect, .fieldLink RX12 662 "MumpsHouseModel" "opened" "I", .methodLink RX12 686 yX12_expression, .methodLink RX12 679 yX12_emit_, .methodLink RX12 659 yX12_emit, .code yX12_count cX12_count 2 (some .int)]
def zW_25 : List Cond := [.instanceMethod yX12_count, .selects RX12 yX12_count yX12_count, .methodLink RX12 614 yX12_countRows, .fieldLink RX12 1348 "MumpsHouseModel" "restarts" "I", .fieldLink RX12 1351 "MumpsHouseModel" "conflicts" "I", .fieldLink RX12 1360 "MumpsHouseModel" "ended" "I", .fieldLink RX12 951 "MumpsHouseModel" "used" "I", .fieldLink RX12 972 "MumpsHouseModel" "waitingUnits" "I", .fieldLink RX12 948 "MumpsHouseModel" "waitingBytes" "I", .code yX12_sound cX12_sound 1 (some .int), .instanceMethod yX12_sound, .selects RX12 yX12_sound yX12_sound, .code yX12_sync cX12_sync 9 (some .int), .instanceMethod yX12_sync, .selects RX12 yX12_sync yX12_sync, .methodLink RX12 1588 yX12_sumOf, .fieldLink RX12 1592 "MumpsHouseModel" "tear" "I", .code yX12_cut cX12_cut 3 (some .int), .instanceMethod yX12_cut, .selects RX12 yX12_cut yX12_cut, .code yX12_start cX12_start 7 (some .int), .instanceMethod yX12_start, .selects RX12 yX12_start yX12_start, .fieldLink RX12 599 "MumpsHouseModel" "rows" "I", .methodLink RX12 1595 yX12_isRight, .methodLink RX12 1598 yX12_doUnits, .code yX12_octet cX12_octet 3 (some .int), .instanceMethod yX12_octet, .selects RX12 yX12_octet yX12_octet, .code yX12_poke cX12_poke 4 (some .int)]
def zW_26 : List Cond := [.instanceMethod yX12_poke, .selects RX12 yX12_poke yX12_poke, .code yX12_verify cX12_verify 2 (some .int), .instanceMethod yX12_verify, .selects RX12 yX12_verify yX12_verify, .code yX12_isLiving cX12_isLiving 2 (some .boolean), .instanceMethod yX12_isLiving, .selects RX12 yX12_isLiving yX12_isLiving, .code yX12_living cX12_living 3 (some .int), .instanceMethod yX12_living, .selects RX12 yX12_living yX12_living, .code yX12_freeSlot cX12_freeSlot 2 (some .int), .instanceMethod yX12_freeSlot, .selects RX12 yX12_freeSlot yX12_freeSlot, .code yX12_begin cX12_begin 4 none, .instanceMethod yX12_begin, .selects RX12 yX12_begin yX12_begin, .fieldLink RX12 639 "MumpsHouseModel" "src" "[B", .fieldLink RX12 636 "MumpsHouseModel" "end" "I", .code yX12_commands cX12_commands 3 none, .instanceMethod yX12_commands, .selects RX12 yX12_commands yX12_commands, .methodLink RX12 835 yX12_command, .code yX12_isGood cX12_isGood 1 (some .boolean), .instanceMethod yX12_isGood, .selects RX12 yX12_isGood yX12_isGood, .code yX12_emit cX12_emit 2 none, .instanceMethod yX12_emit, .selects RX12 yX12_emit yX12_emit, .code yX12_newProcess cX12_newProcess 3 none]
def zW_27 : List Cond := [.instanceMethod yX12_newProcess, .selects RX12 yX12_newProcess yX12_newProcess, .constant RX12 1263 (238000), .constant RX12 738 (100000), .code yX12_pushLevel cX12_pushLevel 5 (some .boolean), .instanceMethod yX12_pushLevel, .selects RX12 yX12_pushLevel yX12_pushLevel, .methodLink RX12 884 yX12_error, .fieldLink RX12 1165 "MumpsHouseModel" "serials" "I", .methodLink RX12 1168 yX12_me, .code yX12_own cX12_own 5 none, .instanceMethod yX12_own, .selects RX12 yX12_own yX12_own, .code yX12_readText cX12_readText 5 (some .boolean), .instanceMethod yX12_readText, .selects RX12 yX12_readText yX12_readText, .code yX12_countRows cX12_countRows 4 (some .int), .instanceMethod yX12_countRows, .selects RX12 yX12_countRows yX12_countRows, .code yX12_level_ cX12_level_ 6 (some .int), .instanceMethod yX12_level_, .selects RX12 yX12_level_ yX12_level_, .methodLink RX12 1581 yX12_levelLine, .code yX12_me cX12_me 1 (some .int), .instanceMethod yX12_me, .selects RX12 yX12_me yX12_me, .code yX12_lock__ cX12_lock__ 7 (some .int), .instanceMethod yX12_lock__, .selects RX12 yX12_lock__ yX12_lock__, .methodLink RX12 1584 yX12_isLockBefore]
def zW_28 : List Cond := [.code yX12_sign cX12_sign 1 (some .int), .instanceMethod yX12_sign, .selects RX12 yX12_sign yX12_sign, .classLink RL 7 RX11, .methodLink RL 9 yX11_init, .classLink RL 10 RX12, .methodLink RL 12 yX12_init, .methodLink RL 13 yX11_feed, .methodLink RL 17 yX12_feed, .methodLink RL 18 yX11_end, .methodLink RL 22 yX12_end, .methodLink RL 23 yX11_save, .methodLink RL 26 yX12_save, .methodLink RL 27 yX11_process, .methodLink RL 31 yX12_process, .methodLink RL 32 yX11_tell, .methodLink RL 35 yX12_tell, .methodLink RL 36 yX11_time, .methodLink RL 39 yX12_time, .constantLong RL 40 (4294967295), .methodLink RL 42 yX11_seed, .methodLink RL 46 yX12_seed, .methodLink RL 47 yX11_turns, .methodLink RL 50 yX12_turns, .methodLink RL 51 yX11_halt, .methodLink RL 54 yX12_halt, .methodLink RL 55 yX11_state, .methodLink RL 59 yX12_state, .methodLink RL 60 yX11_written, .methodLink RL 63 yX12_written]
def zW_29 : List Cond := [.methodLink RL 64 yX11_take, .methodLink RL 67 yX12_take, .methodLink RL 68 yX11_code, .methodLink RL 71 yX12_code, .methodLink RL 72 yX11_level, .methodLink RL 76 yX12_level_, .methodLink RL 77 yX11_look, .methodLink RL 80 yX12_look, .methodLink RL 81 yX11_result, .methodLink RL 84 yX12_result, .methodLink RL 85 yX11_lock, .methodLink RL 88 yX12_lock__, .methodLink RL 89 yX11_count, .methodLink RL 92 yX12_count, .methodLink RL 93 yX11_sound, .methodLink RL 96 yX12_sound, .methodLink RL 97 yX11_sync, .methodLink RL 100 yX12_sync, .methodLink RL 101 yX11_cut, .methodLink RL 104 yX12_cut, .methodLink RL 105 yX11_start, .methodLink RL 108 yX12_start, .methodLink RL 109 yX11_octet, .methodLink RL 112 yX12_octet, .methodLink RL 113 yX11_poke, .methodLink RL 116 yX12_poke, .methodLink RL 117 yX11_verify, .methodLink RL 120 yX12_verify, .instantiable RX8 18, .instantiable RX9 8]
def zW_30 : List Cond := [.native arraycopyName, .static arraycopyName, .initialized "java/lang/System", .instantiable RX1 16, .instantiable RX7 20, .instantiable RX10 20, .instantiable RX0 18, .instantiable RX2 19, .instantiable RX11 6, .instantiable RX12 212]
def zW : List Cond := (zW_0 ++ (zW_1 ++ (zW_2 ++ (zW_3 ++ (zW_4 ++ (zW_5 ++ (zW_6 ++ (zW_7 ++ (zW_8 ++ (zW_9 ++ (zW_10 ++ (zW_11 ++ (zW_12 ++ (zW_13 ++ (zW_14 ++ (zW_15 ++ (zW_16 ++ (zW_17 ++ (zW_18 ++ (zW_19 ++ (zW_20 ++ (zW_21 ++ (zW_22 ++ (zW_23 ++ (zW_24 ++ (zW_25 ++ (zW_26 ++ (zW_27 ++ (zW_28 ++ (zW_29 ++ (zW_30 ++ (wsX00 ++ (wsX10 ++ (wsX20 ++ (wsX30 ++ (wsX40 ++ (wsX50 ++ (wsX60 ++ (wsX70 ++ (wsX80 ++ (wsX90 ++ (wsX100 ++ (wsX110 ++ wsX120)))))))))))))))))))))))))))))))))))))))))))
theorem zWs_0 : ∀ w, w ∈ zW_0 → w ∈ zW := fun _ h => List.mem_append_left _ h
theorem zWs_1 : ∀ w, w ∈ zW_1 → w ∈ zW := fun _ h => List.mem_append_right _ (List.mem_append_left _ h)
theorem zWs_2 : ∀ w, w ∈ zW_2 → w ∈ zW := fun _ h => List.mem_append_right _ (List.mem_append_right _ (List.mem_append_left _ h))
theorem zWs_3 : ∀ w, w ∈ zW_3 → w ∈ zW := fun _ h => List.mem_append_right _ (List.mem_append_right _ (List.mem_append_right _ (List.mem_append_left _ h)))
theorem zWs_4 : ∀ w, w ∈ zW_4 → w ∈ zW := fun _ h => List.mem_append_right _ (List.mem_append_right _ (List.mem_append_right _ (List.mem_append_right _ (List.mem_append_left _ h))))
theorem zWs_5 : ∀ w, w ∈ zW_5 → w ∈ zW := fun _ h => List.mem_append_right _ (List.mem_append_right _ (List.mem_append_right _ (List.mem_append_right _ (List.mem_append_right _ (List.mem_append_left _ h)))))
theorem zWs_6 : ∀ w, w ∈ zW_6 → w ∈ zW := fun _ h => List.mem_append_right _ (List.mem_append_right _ (List.mem_append_right _ (List.mem_append_right _ (List.mem_append_right _ (List.mem_append_right _ (List.mem_append_left _ h))))))
theorem zWs_7 : ∀ w, w ∈ zW_7 → w ∈ zW := fun _ h => List.mem_append_right _ (List.mem_append_right _ (List.mem_append_right _ (List.mem_append_right _ (List.mem_append_right _ (List.mem_append_right _ (List.mem_append_right _ (List.mem_append_left _ h)))))))
theorem zWs_8 : ∀ w, w ∈ zW_8 → w ∈ zW := fun _ h => List.mem_append_right _ (List.mem_append_right _ (List.mem_append_right _ (List.mem_append_right _ (List.mem_append_right _ (List.mem_append_right _ (List.mem_append_right _ (List.mem_append_right _ (List.mem_append_left _ h))))))))
theorem zWs_9 : ∀ w, w ∈ zW_9 → w ∈ zW := fun _ h => List.mem_append_right _ (List.mem_append_right _ (List.mem_append_right _ (List.mem_append_right _ (List.mem_append_right _ (List.mem_append_right _ (List.mem_append_right _ (List.mem_append_right _ (List.mem_append_right _ (List.mem_append_left _ h)))))))))
theorem zWs_10 : ∀ w, w ∈ zW_10 → w ∈ zW := fun _ h => List.mem_append_right _ (List.mem_append_right _ (List.mem_append_right _ (List.mem_append_right _ (List.mem_append_right _ (List.mem_append_right _ (List.mem_append_right _ (List.mem_append_right _ (List.mem_append_right _ (List.mem_append_right _ (List.mem_append_left _ h))))))))))
theorem zWs_11 : ∀ w, w ∈ zW_11 → w ∈ zW := fun _ h => List.mem_append_right _ (List.mem_append_right _ (List.mem_append_right _ (List.mem_append_right _ (List.mem_append_right _ (List.mem_append_right _ (List.mem_append_right _ (List.mem_append_right _ (List.mem_append_right _ (List.mem_append_right _ (List.mem_append_right _ (List.mem_append_left _ h)))))))))))
theorem zWs_12 : ∀ w, w ∈ zW_12 → w ∈ zW := fun _ h => List.mem_append_right _ (List.mem_append_right _ (List.mem_append_right _ (List.mem_append_right _ (List.mem_append_right _ (List.mem_append_right _ (List.mem_append_right _ (List.mem_append_right _ (List.mem_append_right _ (List.mem_append_right _ (List.mem_append_right _ (List.mem_append_right _ (List.mem_append_left _ h))))))))))))
theorem zWs_13 : ∀ w, w ∈ zW_13 → w ∈ zW := fun _ h => List.mem_append_right _ (List.mem_append_right _ (List.mem_append_right _ (List.mem_append_right _ (List.mem_append_right _ (List.mem_append_right _ (List.mem_append_right _ (List.mem_append_right _ (List.mem_append_right _ (List.mem_append_right _ (List.mem_append_right _ (List.mem_append_right _ (List.mem_append_right _ (List.mem_append_left _ h)))))))))))))
theorem zWs_14 : ∀ w, w ∈ zW_14 → w ∈ zW := fun _ h => List.mem_append_right _ (List.mem_append_right _ (List.mem_append_right _ (List.mem_append_right _ (List.mem_append_right _ (List.mem_append_right _ (List.mem_append_right _ (List.mem_append_right _ (List.mem_append_right _ (List.mem_append_right _ (List.mem_append_right _ (List.mem_append_right _ (List.mem_append_right _ (List.mem_append_right _ (List.mem_append_left _ h))))))))))))))
theorem zWs_15 : ∀ w, w ∈ zW_15 → w ∈ zW := fun _ h => List.mem_append_right _ (List.mem_append_right _ (List.mem_append_right _ (List.mem_append_right _ (List.mem_append_right _ (List.mem_append_right _ (List.mem_append_right _ (List.mem_append_right _ (List.mem_append_right _ (List.mem_append_right _ (List.mem_append_right _ (List.mem_append_right _ (List.mem_append_right _ (List.mem_append_right _ (List.mem_append_right _ (List.mem_append_left _ h)))))))))))))))
theorem zWs_16 : ∀ w, w ∈ zW_16 → w ∈ zW := fun _ h => List.mem_append_right _ (List.mem_append_right _ (List.mem_append_right _ (List.mem_append_right _ (List.mem_append_right _ (List.mem_append_right _ (List.mem_append_right _ (List.mem_append_right _ (List.mem_append_right _ (List.mem_append_right _ (List.mem_append_right _ (List.mem_append_right _ (List.mem_append_right _ (List.mem_append_right _ (List.mem_append_right _ (List.mem_append_right _ (List.mem_append_left _ h))))))))))))))))
theorem zWs_17 : ∀ w, w ∈ zW_17 → w ∈ zW := fun _ h => List.mem_append_right _ (List.mem_append_right _ (List.mem_append_right _ (List.mem_append_right _ (List.mem_append_right _ (List.mem_append_right _ (List.mem_append_right _ (List.mem_append_right _ (List.mem_append_right _ (List.mem_append_right _ (List.mem_append_right _ (List.mem_append_right _ (List.mem_append_right _ (List.mem_append_right _ (List.mem_append_right _ (List.mem_append_right _ (List.mem_append_right _ (List.mem_append_left _ h)))))))))))))))))
theorem zWs_18 : ∀ w, w ∈ zW_18 → w ∈ zW := fun _ h => List.mem_append_right _ (List.mem_append_right _ (List.mem_append_right _ (List.mem_append_right _ (List.mem_append_right _ (List.mem_append_right _ (List.mem_append_right _ (List.mem_append_right _ (List.mem_append_right _ (List.mem_append_right _ (List.mem_append_right _ (List.mem_append_right _ (List.mem_append_right _ (List.mem_append_right _ (List.mem_append_right _ (List.mem_append_right _ (List.mem_append_right _ (List.mem_append_right _ (List.mem_append_left _ h))))))))))))))))))
theorem zWs_19 : ∀ w, w ∈ zW_19 → w ∈ zW := fun _ h => List.mem_append_right _ (List.mem_append_right _ (List.mem_append_right _ (List.mem_append_right _ (List.mem_append_right _ (List.mem_append_right _ (List.mem_append_right _ (List.mem_append_right _ (List.mem_append_right _ (List.mem_append_right _ (List.mem_append_right _ (List.mem_append_right _ (List.mem_append_right _ (List.mem_append_right _ (List.mem_append_right _ (List.mem_append_right _ (List.mem_append_right _ (List.mem_append_right _ (List.mem_append_right _ (List.mem_append_left _ h)))))))))))))))))))
theorem zWs_20 : ∀ w, w ∈ zW_20 → w ∈ zW := fun _ h => List.mem_append_right _ (List.mem_append_right _ (List.mem_append_right _ (List.mem_append_right _ (List.mem_append_right _ (List.mem_append_right _ (List.mem_append_right _ (List.mem_append_right _ (List.mem_append_right _ (List.mem_append_right _ (List.mem_append_right _ (List.mem_append_right _ (List.mem_append_right _ (List.mem_append_right _ (List.mem_append_right _ (List.mem_append_right _ (List.mem_append_right _ (List.mem_append_right _ (List.mem_append_right _ (List.mem_append_right _ (List.mem_append_left _ h))))))))))))))))))))
theorem zWs_21 : ∀ w, w ∈ zW_21 → w ∈ zW := fun _ h => List.mem_append_right _ (List.mem_append_right _ (List.mem_append_right _ (List.mem_append_right _ (List.mem_append_right _ (List.mem_append_right _ (List.mem_append_right _ (List.mem_append_right _ (List.mem_append_right _ (List.mem_append_right _ (List.mem_append_right _ (List.mem_append_right _ (List.mem_append_right _ (List.mem_append_right _ (List.mem_append_right _ (List.mem_append_right _ (List.mem_append_right _ (List.mem_append_right _ (List.mem_append_right _ (List.mem_append_right _ (List.mem_append_right _ (List.mem_append_left _ h)))))))))))))))))))))
theorem zWs_22 : ∀ w, w ∈ zW_22 → w ∈ zW := fun _ h => List.mem_append_right _ (List.mem_append_right _ (List.mem_append_right _ (List.mem_append_right _ (List.mem_append_right _ (List.mem_append_right _ (List.mem_append_right _ (List.mem_append_right _ (List.mem_append_right _ (List.mem_append_right _ (List.mem_append_right _ (List.mem_append_right _ (List.mem_append_right _ (List.mem_append_right _ (List.mem_append_right _ (List.mem_append_right _ (List.mem_append_right _ (List.mem_append_right _ (List.mem_append_right _ (List.mem_append_right _ (List.mem_append_right _ (List.mem_append_right _ (List.mem_append_left _ h))))))))))))))))))))))
theorem zWs_23 : ∀ w, w ∈ zW_23 → w ∈ zW := fun _ h => List.mem_append_right _ (List.mem_append_right _ (List.mem_append_right _ (List.mem_append_right _ (List.mem_append_right _ (List.mem_append_right _ (List.mem_append_right _ (List.mem_append_right _ (List.mem_append_right _ (List.mem_append_right _ (List.mem_append_right _ (List.mem_append_right _ (List.mem_append_right _ (List.mem_append_right _ (List.mem_append_right _ (List.mem_append_right _ (List.mem_append_right _ (List.mem_append_right _ (List.mem_append_right _ (List.mem_append_right _ (List.mem_append_right _ (List.mem_append_right _ (List.mem_append_right _ (List.mem_append_left _ h)))))))))))))))))))))))
theorem zWs_24 : ∀ w, w ∈ zW_24 → w ∈ zW := fun _ h => List.mem_append_right _ (List.mem_append_right _ (List.mem_append_right _ (List.mem_append_right _ (List.mem_append_right _ (List.mem_append_right _ (List.mem_append_right _ (List.mem_append_right _ (List.mem_append_right _ (List.mem_append_right _ (List.mem_append_right _ (List.mem_append_right _ (List.mem_append_right _ (List.mem_append_right _ (List.mem_append_right _ (List.mem_append_right _ (List.mem_append_right _ (List.mem_append_right _ (List.mem_append_right _ (List.mem_append_right _ (List.mem_append_right _ (List.mem_append_right _ (List.mem_append_right _ (List.mem_append_right _ (List.mem_append_left _ h))))))))))))))))))))))))
theorem zWs_25 : ∀ w, w ∈ zW_25 → w ∈ zW := fun _ h => List.mem_append_right _ (List.mem_append_right _ (List.mem_append_right _ (List.mem_append_right _ (List.mem_append_right _ (List.mem_append_right _ (List.mem_append_right _ (List.mem_append_right _ (List.mem_append_right _ (List.mem_append_right _ (List.mem_append_right _ (List.mem_append_right _ (List.mem_append_right _ (List.mem_append_right _ (List.mem_append_right _ (List.mem_append_right _ (List.mem_append_right _ (List.mem_append_right _ (List.mem_append_right _ (List.mem_append_right _ (List.mem_append_right _ (List.mem_append_right _ (List.mem_append_right _ (List.mem_append_right _ (List.mem_append_right _ (List.mem_append_left _ h)))))))))))))))))))))))))
theorem zWs_26 : ∀ w, w ∈ zW_26 → w ∈ zW := fun _ h => List.mem_append_right _ (List.mem_append_right _ (List.mem_append_right _ (List.mem_append_right _ (List.mem_append_right _ (List.mem_append_right _ (List.mem_append_right _ (List.mem_append_right _ (List.mem_append_right _ (List.mem_append_right _ (List.mem_append_right _ (List.mem_append_right _ (List.mem_append_right _ (List.mem_append_right _ (List.mem_append_right _ (List.mem_append_right _ (List.mem_append_right _ (List.mem_append_right _ (List.mem_append_right _ (List.mem_append_right _ (List.mem_append_right _ (List.mem_append_right _ (List.mem_append_right _ (List.mem_append_right _ (List.mem_append_right _ (List.mem_append_right _ (List.mem_append_left _ h))))))))))))))))))))))))))
theorem zWs_27 : ∀ w, w ∈ zW_27 → w ∈ zW := fun _ h => List.mem_append_right _ (List.mem_append_right _ (List.mem_append_right _ (List.mem_append_right _ (List.mem_append_right _ (List.mem_append_right _ (List.mem_append_right _ (List.mem_append_right _ (List.mem_append_right _ (List.mem_append_right _ (List.mem_append_right _ (List.mem_append_right _ (List.mem_append_right _ (List.mem_append_right _ (List.mem_append_right _ (List.mem_append_right _ (List.mem_append_right _ (List.mem_append_right _ (List.mem_append_right _ (List.mem_append_right _ (List.mem_append_right _ (List.mem_append_right _ (List.mem_append_right _ (List.mem_append_right _ (List.mem_append_right _ (List.mem_append_right _ (List.mem_append_right _ (List.mem_append_left _ h)))))))))))))))))))))))))))
theorem zWs_28 : ∀ w, w ∈ zW_28 → w ∈ zW := fun _ h => List.mem_append_right _ (List.mem_append_right _ (List.mem_append_right _ (List.mem_append_right _ (List.mem_append_right _ (List.mem_append_right _ (List.mem_append_right _ (List.mem_append_right _ (List.mem_append_right _ (List.mem_append_right _ (List.mem_append_right _ (List.mem_append_right _ (List.mem_append_right _ (List.mem_append_right _ (List.mem_append_right _ (List.mem_append_right _ (List.mem_append_right _ (List.mem_append_right _ (List.mem_append_right _ (List.mem_append_right _ (List.mem_append_right _ (List.mem_append_right _ (List.mem_append_right _ (List.mem_append_right _ (List.mem_append_right _ (List.mem_append_right _ (List.mem_append_right _ (List.mem_append_right _ (List.mem_append_left _ h))))))))))))))))))))))))))))
theorem zWs_29 : ∀ w, w ∈ zW_29 → w ∈ zW := fun _ h => List.mem_append_right _ (List.mem_append_right _ (List.mem_append_right _ (List.mem_append_right _ (List.mem_append_right _ (List.mem_append_right _ (List.mem_append_right _ (List.mem_append_right _ (List.mem_append_right _ (List.mem_append_right _ (List.mem_append_right _ (List.mem_append_right _ (List.mem_append_right _ (List.mem_append_right _ (List.mem_append_right _ (List.mem_append_right _ (List.mem_append_right _ (List.mem_append_right _ (List.mem_append_right _ (List.mem_append_right _ (List.mem_append_right _ (List.mem_append_right _ (List.mem_append_right _ (List.mem_append_right _ (List.mem_append_right _ (List.mem_append_right _ (List.mem_append_right _ (List.mem_append_right _ (List.mem_append_right _ (List.mem_append_left _ h)))))))))))))))))))))))))))))
theorem zWs_30 : ∀ w, w ∈ zW_30 → w ∈ zW := fun _ h => List.mem_append_right _ (List.mem_append_right _ (List.mem_append_right _ (List.mem_append_right _ (List.mem_append_right _ (List.mem_append_right _ (List.mem_append_right _ (List.mem_append_right _ (List.mem_append_right _ (List.mem_append_right _ (List.mem_append_right _ (List.mem_append_right _ (List.mem_append_right _ (List.mem_append_right _ (List.mem_append_right _ (List.mem_append_right _ (List.mem_append_right _ (List.mem_append_right _ (List.mem_append_right _ (List.mem_append_right _ (List.mem_append_right _ (List.mem_append_right _ (List.mem_append_right _ (List.mem_append_right _ (List.mem_append_right _ (List.mem_append_right _ (List.mem_append_right _ (List.mem_append_right _ (List.mem_append_right _ (List.mem_append_right _ (List.mem_append_left _ h))))))))))))))))))))))))))))))
theorem zWc_0 : ∀ w, w ∈ wsX00 → w ∈ zW := fun _ h => List.mem_append_right _ (List.mem_append_right _ (List.mem_append_right _ (List.mem_append_right _ (List.mem_append_right _ (List.mem_append_right _ (List.mem_append_right _ (List.mem_append_right _ (List.mem_append_right _ (List.mem_append_right _ (List.mem_append_right _ (List.mem_append_right _ (List.mem_append_right _ (List.mem_append_right _ (List.mem_append_right _ (List.mem_append_right _ (List.mem_append_right _ (List.mem_append_right _ (List.mem_append_right _ (List.mem_append_right _ (List.mem_append_right _ (List.mem_append_right _ (List.mem_append_right _ (List.mem_append_right _ (List.mem_append_right _ (List.mem_append_right _ (List.mem_append_right _ (List.mem_append_right _ (List.mem_append_right _ (List.mem_append_right _ (List.mem_append_right _ (List.mem_append_left _ h)))))))))))))))))))))))))))))))
theorem zi_0 (x : Cond) : ZI (x :: zW) RX0 TX0 18 tyX0 := ⟨fun w h => List.mem_cons_of_mem _ (zWc_0 w h), tyX0_ok, nmX0⟩
theorem zWc_1 : ∀ w, w ∈ wsX10 → w ∈ zW := fun _ h => List.mem_append_right _ (List.mem_append_right _ (List.mem_append_right _ (List.mem_append_right _ (List.mem_append_right _ (List.mem_append_right _ (List.mem_append_right _ (List.mem_append_right _ (List.mem_append_right _ (List.mem_append_right _ (List.mem_append_right _ (List.mem_append_right _ (List.mem_append_right _ (List.mem_append_right _ (List.mem_append_right _ (List.mem_append_right _ (List.mem_append_right _ (List.mem_append_right _ (List.mem_append_right _ (List.mem_append_right _ (List.mem_append_right _ (List.mem_append_right _ (List.mem_append_right _ (List.mem_append_right _ (List.mem_append_right _ (List.mem_append_right _ (List.mem_append_right _ (List.mem_append_right _ (List.mem_append_right _ (List.mem_append_right _ (List.mem_append_right _ (List.mem_append_right _ (List.mem_append_left _ h))))))))))))))))))))))))))))))))
theorem zi_1 (x : Cond) : ZI (x :: zW) RX1 TX1 16 tyX1 := ⟨fun w h => List.mem_cons_of_mem _ (zWc_1 w h), tyX1_ok, nmX1⟩
theorem zWc_2 : ∀ w, w ∈ wsX20 → w ∈ zW := fun _ h => List.mem_append_right _ (List.mem_append_right _ (List.mem_append_right _ (List.mem_append_right _ (List.mem_append_right _ (List.mem_append_right _ (List.mem_append_right _ (List.mem_append_right _ (List.mem_append_right _ (List.mem_append_right _ (List.mem_append_right _ (List.mem_append_right _ (List.mem_append_right _ (List.mem_append_right _ (List.mem_append_right _ (List.mem_append_right _ (List.mem_append_right _ (List.mem_append_right _ (List.mem_append_right _ (List.mem_append_right _ (List.mem_append_right _ (List.mem_append_right _ (List.mem_append_right _ (List.mem_append_right _ (List.mem_append_right _ (List.mem_append_right _ (List.mem_append_right _ (List.mem_append_right _ (List.mem_append_right _ (List.mem_append_right _ (List.mem_append_right _ (List.mem_append_right _ (List.mem_append_right _ (List.mem_append_left _ h)))))))))))))))))))))))))))))))))
theorem zi_2 (x : Cond) : ZI (x :: zW) RX2 TX2 19 tyX2 := ⟨fun w h => List.mem_cons_of_mem _ (zWc_2 w h), tyX2_ok, nmX2⟩
theorem zWc_3 : ∀ w, w ∈ wsX30 → w ∈ zW := fun _ h => List.mem_append_right _ (List.mem_append_right _ (List.mem_append_right _ (List.mem_append_right _ (List.mem_append_right _ (List.mem_append_right _ (List.mem_append_right _ (List.mem_append_right _ (List.mem_append_right _ (List.mem_append_right _ (List.mem_append_right _ (List.mem_append_right _ (List.mem_append_right _ (List.mem_append_right _ (List.mem_append_right _ (List.mem_append_right _ (List.mem_append_right _ (List.mem_append_right _ (List.mem_append_right _ (List.mem_append_right _ (List.mem_append_right _ (List.mem_append_right _ (List.mem_append_right _ (List.mem_append_right _ (List.mem_append_right _ (List.mem_append_right _ (List.mem_append_right _ (List.mem_append_right _ (List.mem_append_right _ (List.mem_append_right _ (List.mem_append_right _ (List.mem_append_right _ (List.mem_append_right _ (List.mem_append_right _ (List.mem_append_left _ h))))))))))))))))))))))))))))))))))
theorem zi_3 (x : Cond) : ZI (x :: zW) RX3 TX3 9 tyX3 := ⟨fun w h => List.mem_cons_of_mem _ (zWc_3 w h), tyX3_ok, nmX3⟩
theorem zWc_4 : ∀ w, w ∈ wsX40 → w ∈ zW := fun _ h => List.mem_append_right _ (List.mem_append_right _ (List.mem_append_right _ (List.mem_append_right _ (List.mem_append_right _ (List.mem_append_right _ (List.mem_append_right _ (List.mem_append_right _ (List.mem_append_right _ (List.mem_append_right _ (List.mem_append_right _ (List.mem_append_right _ (List.mem_append_right _ (List.mem_append_right _ (List.mem_append_right _ (List.mem_append_right _ (List.mem_append_right _ (List.mem_append_right _ (List.mem_append_right _ (List.mem_append_right _ (List.mem_append_right _ (List.mem_append_right _ (List.mem_append_right _ (List.mem_append_right _ (List.mem_append_right _ (List.mem_append_right _ (List.mem_append_right _ (List.mem_append_right _ (List.mem_append_right _ (List.mem_append_right _ (List.mem_append_right _ (List.mem_append_right _ (List.mem_append_right _ (List.mem_append_right _ (List.mem_append_right _ (List.mem_append_left _ h)))))))))))))))))))))))))))))))))))
theorem zi_4 (x : Cond) : ZI (x :: zW) RX4 TX4 3 tyX4 := ⟨fun w h => List.mem_cons_of_mem _ (zWc_4 w h), tyX4_ok, nmX4⟩
theorem zWc_5 : ∀ w, w ∈ wsX50 → w ∈ zW := fun _ h => List.mem_append_right _ (List.mem_append_right _ (List.mem_append_right _ (List.mem_append_right _ (List.mem_append_right _ (List.mem_append_right _ (List.mem_append_right _ (List.mem_append_right _ (List.mem_append_right _ (List.mem_append_right _ (List.mem_append_right _ (List.mem_append_right _ (List.mem_append_right _ (List.mem_append_right _ (List.mem_append_right _ (List.mem_append_right _ (List.mem_append_right _ (List.mem_append_right _ (List.mem_append_right _ (List.mem_append_right _ (List.mem_append_right _ (List.mem_append_right _ (List.mem_append_right _ (List.mem_append_right _ (List.mem_append_right _ (List.mem_append_right _ (List.mem_append_right _ (List.mem_append_right _ (List.mem_append_right _ (List.mem_append_right _ (List.mem_append_right _ (List.mem_append_right _ (List.mem_append_right _ (List.mem_append_right _ (List.mem_append_right _ (List.mem_append_right _ (List.mem_append_left _ h))))))))))))))))))))))))))))))))))))
theorem zi_5 (x : Cond) : ZI (x :: zW) RX5 TX5 14 tyX5 := ⟨fun w h => List.mem_cons_of_mem _ (zWc_5 w h), tyX5_ok, nmX5⟩
theorem zWc_6 : ∀ w, w ∈ wsX60 → w ∈ zW := fun _ h => List.mem_append_right _ (List.mem_append_right _ (List.mem_append_right _ (List.mem_append_right _ (List.mem_append_right _ (List.mem_append_right _ (List.mem_append_right _ (List.mem_append_right _ (List.mem_append_right _ (List.mem_append_right _ (List.mem_append_right _ (List.mem_append_right _ (List.mem_append_right _ (List.mem_append_right _ (List.mem_append_right _ (List.mem_append_right _ (List.mem_append_right _ (List.mem_append_right _ (List.mem_append_right _ (List.mem_append_right _ (List.mem_append_right _ (List.mem_append_right _ (List.mem_append_right _ (List.mem_append_right _ (List.mem_append_right _ (List.mem_append_right _ (List.mem_append_right _ (List.mem_append_right _ (List.mem_append_right _ (List.mem_append_right _ (List.mem_append_right _ (List.mem_append_right _ (List.mem_append_right _ (List.mem_append_right _ (List.mem_append_right _ (List.mem_append_right _ (List.mem_append_right _ (List.mem_append_left _ h)))))))))))))))))))))))))))))))))))))
theorem zi_6 (x : Cond) : ZI (x :: zW) RX6 TX6 3 tyX6 := ⟨fun w h => List.mem_cons_of_mem _ (zWc_6 w h), tyX6_ok, nmX6⟩
theorem zWc_7 : ∀ w, w ∈ wsX70 → w ∈ zW := fun _ h => List.mem_append_right _ (List.mem_append_right _ (List.mem_append_right _ (List.mem_append_right _ (List.mem_append_right _ (List.mem_append_right _ (List.mem_append_right _ (List.mem_append_right _ (List.mem_append_right _ (List.mem_append_right _ (List.mem_append_right _ (List.mem_append_right _ (List.mem_append_right _ (List.mem_append_right _ (List.mem_append_right _ (List.mem_append_right _ (List.mem_append_right _ (List.mem_append_right _ (List.mem_append_right _ (List.mem_append_right _ (List.mem_append_right _ (List.mem_append_right _ (List.mem_append_right _ (List.mem_append_right _ (List.mem_append_right _ (List.mem_append_right _ (List.mem_append_right _ (List.mem_append_right _ (List.mem_append_right _ (List.mem_append_right _ (List.mem_append_right _ (List.mem_append_right _ (List.mem_append_right _ (List.mem_append_right _ (List.mem_append_right _ (List.mem_append_right _ (List.mem_append_right _ (List.mem_append_right _ (List.mem_append_left _ h))))))))))))))))))))))))))))))))))))))
theorem zi_7 (x : Cond) : ZI (x :: zW) RX7 TX7 20 tyX7 := ⟨fun w h => List.mem_cons_of_mem _ (zWc_7 w h), tyX7_ok, nmX7⟩
theorem zWc_8 : ∀ w, w ∈ wsX80 → w ∈ zW := fun _ h => List.mem_append_right _ (List.mem_append_right _ (List.mem_append_right _ (List.mem_append_right _ (List.mem_append_right _ (List.mem_append_right _ (List.mem_append_right _ (List.mem_append_right _ (List.mem_append_right _ (List.mem_append_right _ (List.mem_append_right _ (List.mem_append_right _ (List.mem_append_right _ (List.mem_append_right _ (List.mem_append_right _ (List.mem_append_right _ (List.mem_append_right _ (List.mem_append_right _ (List.mem_append_right _ (List.mem_append_right _ (List.mem_append_right _ (List.mem_append_right _ (List.mem_append_right _ (List.mem_append_right _ (List.mem_append_right _ (List.mem_append_right _ (List.mem_append_right _ (List.mem_append_right _ (List.mem_append_right _ (List.mem_append_right _ (List.mem_append_right _ (List.mem_append_right _ (List.mem_append_right _ (List.mem_append_right _ (List.mem_append_right _ (List.mem_append_right _ (List.mem_append_right _ (List.mem_append_right _ (List.mem_append_right _ (List.mem_append_left _ h)))))))))))))))))))))))))))))))))))))))
theorem zi_8 (x : Cond) : ZI (x :: zW) RX8 TX8 18 tyX8 := ⟨fun w h => List.mem_cons_of_mem _ (zWc_8 w h), tyX8_ok, nmX8⟩
theorem zWc_9 : ∀ w, w ∈ wsX90 → w ∈ zW := fun _ h => List.mem_append_right _ (List.mem_append_right _ (List.mem_append_right _ (List.mem_append_right _ (List.mem_append_right _ (List.mem_append_right _ (List.mem_append_right _ (List.mem_append_right _ (List.mem_append_right _ (List.mem_append_right _ (List.mem_append_right _ (List.mem_append_right _ (List.mem_append_right _ (List.mem_append_right _ (List.mem_append_right _ (List.mem_append_right _ (List.mem_append_right _ (List.mem_append_right _ (List.mem_append_right _ (List.mem_append_right _ (List.mem_append_right _ (List.mem_append_right _ (List.mem_append_right _ (List.mem_append_right _ (List.mem_append_right _ (List.mem_append_right _ (List.mem_append_right _ (List.mem_append_right _ (List.mem_append_right _ (List.mem_append_right _ (List.mem_append_right _ (List.mem_append_right _ (List.mem_append_right _ (List.mem_append_right _ (List.mem_append_right _ (List.mem_append_right _ (List.mem_append_right _ (List.mem_append_right _ (List.mem_append_right _ (List.mem_append_right _ (List.mem_append_left _ h))))))))))))))))))))))))))))))))))))))))
theorem zi_9 (x : Cond) : ZI (x :: zW) RX9 TX9 8 tyX9 := ⟨fun w h => List.mem_cons_of_mem _ (zWc_9 w h), tyX9_ok, nmX9⟩
theorem zWc_10 : ∀ w, w ∈ wsX100 → w ∈ zW := fun _ h => List.mem_append_right _ (List.mem_append_right _ (List.mem_append_right _ (List.mem_append_right _ (List.mem_append_right _ (List.mem_append_right _ (List.mem_append_right _ (List.mem_append_right _ (List.mem_append_right _ (List.mem_append_right _ (List.mem_append_right _ (List.mem_append_right _ (List.mem_append_right _ (List.mem_append_right _ (List.mem_append_right _ (List.mem_append_right _ (List.mem_append_right _ (List.mem_append_right _ (List.mem_append_right _ (List.mem_append_right _ (List.mem_append_right _ (List.mem_append_right _ (List.mem_append_right _ (List.mem_append_right _ (List.mem_append_right _ (List.mem_append_right _ (List.mem_append_right _ (List.mem_append_right _ (List.mem_append_right _ (List.mem_append_right _ (List.mem_append_right _ (List.mem_append_right _ (List.mem_append_right _ (List.mem_append_right _ (List.mem_append_right _ (List.mem_append_right _ (List.mem_append_right _ (List.mem_append_right _ (List.mem_append_right _ (List.mem_append_right _ (List.mem_append_right _ (List.mem_append_left _ h)))))))))))))))))))))))))))))))))))))))))
theorem zi_10 (x : Cond) : ZI (x :: zW) RX10 TX10 20 tyX10 := ⟨fun w h => List.mem_cons_of_mem _ (zWc_10 w h), tyX10_ok, nmX10⟩
theorem zWc_11 : ∀ w, w ∈ wsX110 → w ∈ zW := fun _ h => List.mem_append_right _ (List.mem_append_right _ (List.mem_append_right _ (List.mem_append_right _ (List.mem_append_right _ (List.mem_append_right _ (List.mem_append_right _ (List.mem_append_right _ (List.mem_append_right _ (List.mem_append_right _ (List.mem_append_right _ (List.mem_append_right _ (List.mem_append_right _ (List.mem_append_right _ (List.mem_append_right _ (List.mem_append_right _ (List.mem_append_right _ (List.mem_append_right _ (List.mem_append_right _ (List.mem_append_right _ (List.mem_append_right _ (List.mem_append_right _ (List.mem_append_right _ (List.mem_append_right _ (List.mem_append_right _ (List.mem_append_right _ (List.mem_append_right _ (List.mem_append_right _ (List.mem_append_right _ (List.mem_append_right _ (List.mem_append_right _ (List.mem_append_right _ (List.mem_append_right _ (List.mem_append_right _ (List.mem_append_right _ (List.mem_append_right _ (List.mem_append_right _ (List.mem_append_right _ (List.mem_append_right _ (List.mem_append_right _ (List.mem_append_right _ (List.mem_append_right _ (List.mem_append_left _ h))))))))))))))))))))))))))))))))))))))))))
theorem zi_11 (x : Cond) : ZI (x :: zW) RX11 TX11 6 tyX11 := ⟨fun w h => List.mem_cons_of_mem _ (zWc_11 w h), tyX11_ok, nmX11⟩
theorem zWc_12 : ∀ w, w ∈ wsX120 → w ∈ zW := fun _ h => List.mem_append_right _ (List.mem_append_right _ (List.mem_append_right _ (List.mem_append_right _ (List.mem_append_right _ (List.mem_append_right _ (List.mem_append_right _ (List.mem_append_right _ (List.mem_append_right _ (List.mem_append_right _ (List.mem_append_right _ (List.mem_append_right _ (List.mem_append_right _ (List.mem_append_right _ (List.mem_append_right _ (List.mem_append_right _ (List.mem_append_right _ (List.mem_append_right _ (List.mem_append_right _ (List.mem_append_right _ (List.mem_append_right _ (List.mem_append_right _ (List.mem_append_right _ (List.mem_append_right _ (List.mem_append_right _ (List.mem_append_right _ (List.mem_append_right _ (List.mem_append_right _ (List.mem_append_right _ (List.mem_append_right _ (List.mem_append_right _ (List.mem_append_right _ (List.mem_append_right _ (List.mem_append_right _ (List.mem_append_right _ (List.mem_append_right _ (List.mem_append_right _ (List.mem_append_right _ (List.mem_append_right _ (List.mem_append_right _ (List.mem_append_right _ (List.mem_append_right _ (List.mem_append_right _ (h)))))))))))))))))))))))))))))))))))))))))))
theorem zi_12 (x : Cond) : ZI (x :: zW) RX12 TX12 212 tyX12 := ⟨fun w h => List.mem_cons_of_mem _ (zWc_12 w h), tyX12_ok, nmX12⟩
theorem zm_0 (x : Cond) : (.instanceMethod objectInit : Cond) ∈ x :: zW := List.mem_cons_of_mem _ (zWs_0 _ (List.mem_of_getElem? (i := 0) rfl))
theorem zm_1 (x : Cond) : (.code objectInit ⟨#[0xb1]⟩ 1 none : Cond) ∈ x :: zW := List.mem_cons_of_mem _ (zWs_0 _ (List.mem_of_getElem? (i := 1) rfl))
theorem zm_2 (x : Cond) : (.arrayClass .int : Cond) ∈ x :: zW := List.mem_cons_of_mem _ (zWs_0 _ (List.mem_of_getElem? (i := 2) rfl))
theorem zm_3 (x : Cond) : (.arrayClass .byte : Cond) ∈ x :: zW := List.mem_cons_of_mem _ (zWs_0 _ (List.mem_of_getElem? (i := 3) rfl))
theorem zm_4 (x : Cond) : (.arrayClass .long : Cond) ∈ x :: zW := List.mem_cons_of_mem _ (zWs_0 _ (List.mem_of_getElem? (i := 4) rfl))
theorem zm_5 (x : Cond) : (.arrayClass .boolean : Cond) ∈ x :: zW := List.mem_cons_of_mem _ (zWs_0 _ (List.mem_of_getElem? (i := 5) rfl))
theorem zm_6 (x : Cond) : (.code yX6_init cX6_init 2 none : Cond) ∈ x :: zW := List.mem_cons_of_mem _ (zWs_0 _ (List.mem_of_getElem? (i := 6) rfl))
theorem zm_7 (x : Cond) : (.initialized RX6 : Cond) ∈ x :: zW := List.mem_cons_of_mem _ (zWs_0 _ (List.mem_of_getElem? (i := 7) rfl))
theorem zm_8 (x : Cond) : (.instanceMethod yX6_init : Cond) ∈ x :: zW := List.mem_cons_of_mem _ (zWs_0 _ (List.mem_of_getElem? (i := 8) rfl))
theorem zm_9 (x : Cond) : (.methodLink RX6 3 objectInit : Cond) ∈ x :: zW := List.mem_cons_of_mem _ (zWs_0 _ (List.mem_of_getElem? (i := 9) rfl))
theorem zm_10 (x : Cond) : (.instantiable RX6 3 : Cond) ∈ x :: zW := List.mem_cons_of_mem _ (zWs_0 _ (List.mem_of_getElem? (i := 10) rfl))
theorem zm_11 (x : Cond) : (.fieldLink RX6 9 "MumpsHouse$Row" "bytes" "[B" : Cond) ∈ x :: zW := List.mem_cons_of_mem _ (zWs_0 _ (List.mem_of_getElem? (i := 11) rfl))
theorem zm_12 (x : Cond) : (.code yX6_many cX6_many 4 (some (.array (.object "MumpsHouse$Row"))) : Cond) ∈ x :: zW := List.mem_cons_of_mem _ (zWs_0 _ (List.mem_of_getElem? (i := 12) rfl))
theorem zm_13 (x : Cond) : (.static yX6_many : Cond) ∈ x :: zW := List.mem_cons_of_mem _ (zWs_0 _ (List.mem_of_getElem? (i := 13) rfl))
theorem zm_14 (x : Cond) : (.classLink RX6 10 RX6 : Cond) ∈ x :: zW := List.mem_cons_of_mem _ (zWs_0 _ (List.mem_of_getElem? (i := 14) rfl))
theorem zm_15 (x : Cond) : (.methodLink RX6 15 yX6_init : Cond) ∈ x :: zW := List.mem_cons_of_mem _ (zWs_0 _ (List.mem_of_getElem? (i := 15) rfl))
theorem zm_16 (x : Cond) : (.code yX3_init cX3_init 1 none : Cond) ∈ x :: zW := List.mem_cons_of_mem _ (zWs_0 _ (List.mem_of_getElem? (i := 16) rfl))
theorem zm_17 (x : Cond) : (.initialized RX3 : Cond) ∈ x :: zW := List.mem_cons_of_mem _ (zWs_0 _ (List.mem_of_getElem? (i := 17) rfl))
theorem zm_18 (x : Cond) : (.instanceMethod yX3_init : Cond) ∈ x :: zW := List.mem_cons_of_mem _ (zWs_0 _ (List.mem_of_getElem? (i := 18) rfl))
theorem zm_19 (x : Cond) : (.methodLink RX3 3 objectInit : Cond) ∈ x :: zW := List.mem_cons_of_mem _ (zWs_0 _ (List.mem_of_getElem? (i := 19) rfl))
theorem zm_20 (x : Cond) : (.fieldLink RX3 9 "MumpsHouse$Node" "key" "[B" : Cond) ∈ x :: zW := List.mem_cons_of_mem _ (zWs_0 _ (List.mem_of_getElem? (i := 20) rfl))
theorem zm_21 (x : Cond) : (.instantiable RX3 9 : Cond) ∈ x :: zW := List.mem_cons_of_mem _ (zWs_0 _ (List.mem_of_getElem? (i := 21) rfl))
theorem zm_22 (x : Cond) : (.code yX3_many cX3_many 3 (some (.array (.object "MumpsHouse$Node"))) : Cond) ∈ x :: zW := List.mem_cons_of_mem _ (zWs_0 _ (List.mem_of_getElem? (i := 22) rfl))
theorem zm_23 (x : Cond) : (.static yX3_many : Cond) ∈ x :: zW := List.mem_cons_of_mem _ (zWs_0 _ (List.mem_of_getElem? (i := 23) rfl))
theorem zm_24 (x : Cond) : (.classLink RX3 10 RX3 : Cond) ∈ x :: zW := List.mem_cons_of_mem _ (zWs_0 _ (List.mem_of_getElem? (i := 24) rfl))
theorem zm_25 (x : Cond) : (.methodLink RX3 15 yX3_init : Cond) ∈ x :: zW := List.mem_cons_of_mem _ (zWs_0 _ (List.mem_of_getElem? (i := 25) rfl))
theorem zm_26 (x : Cond) : (.code yX4_init cX4_init 2 none : Cond) ∈ x :: zW := List.mem_cons_of_mem _ (zWs_0 _ (List.mem_of_getElem? (i := 26) rfl))
theorem zm_27 (x : Cond) : (.initialized RX4 : Cond) ∈ x :: zW := List.mem_cons_of_mem _ (zWs_0 _ (List.mem_of_getElem? (i := 27) rfl))
theorem zm_28 (x : Cond) : (.instanceMethod yX4_init : Cond) ∈ x :: zW := List.mem_cons_of_mem _ (zWs_0 _ (List.mem_of_getElem? (i := 28) rfl))
theorem zm_29 (x : Cond) : (.methodLink RX4 3 objectInit : Cond) ∈ x :: zW := List.mem_cons_of_mem _ (zWs_0 _ (List.mem_of_getElem? (i := 29) rfl))
theorem zm_30 (x : Cond) : (.instantiable RX4 3 : Cond) ∈ x :: zW := List.mem_cons_of_mem _ (zWs_1 _ (List.mem_of_getElem? (i := 0) rfl))
theorem zm_31 (x : Cond) : (.fieldLink RX4 9 "MumpsHouse$Num" "row" "[I" : Cond) ∈ x :: zW := List.mem_cons_of_mem _ (zWs_1 _ (List.mem_of_getElem? (i := 1) rfl))
theorem zm_32 (x : Cond) : (.code yX4_many cX4_many 3 (some (.array (.object "MumpsHouse$Num"))) : Cond) ∈ x :: zW := List.mem_cons_of_mem _ (zWs_1 _ (List.mem_of_getElem? (i := 2) rfl))
theorem zm_33 (x : Cond) : (.static yX4_many : Cond) ∈ x :: zW := List.mem_cons_of_mem _ (zWs_1 _ (List.mem_of_getElem? (i := 3) rfl))
theorem zm_34 (x : Cond) : (.classLink RX4 10 RX4 : Cond) ∈ x :: zW := List.mem_cons_of_mem _ (zWs_1 _ (List.mem_of_getElem? (i := 4) rfl))
theorem zm_35 (x : Cond) : (.methodLink RX4 15 yX4_init : Cond) ∈ x :: zW := List.mem_cons_of_mem _ (zWs_1 _ (List.mem_of_getElem? (i := 5) rfl))
theorem zm_36 (x : Cond) : (.code yX8_init cX8_init 3 none : Cond) ∈ x :: zW := List.mem_cons_of_mem _ (zWs_1 _ (List.mem_of_getElem? (i := 6) rfl))
theorem zm_37 (x : Cond) : (.initialized RX8 : Cond) ∈ x :: zW := List.mem_cons_of_mem _ (zWs_1 _ (List.mem_of_getElem? (i := 7) rfl))
theorem zm_38 (x : Cond) : (.instanceMethod yX8_init : Cond) ∈ x :: zW := List.mem_cons_of_mem _ (zWs_1 _ (List.mem_of_getElem? (i := 8) rfl))
theorem zm_39 (x : Cond) : (.methodLink RX8 3 objectInit : Cond) ∈ x :: zW := List.mem_cons_of_mem _ (zWs_1 _ (List.mem_of_getElem? (i := 9) rfl))
theorem zm_40 (x : Cond) : (.fieldLink RX8 9 "MumpsHouse$Text" "targets" "[I" : Cond) ∈ x :: zW := List.mem_cons_of_mem _ (zWs_1 _ (List.mem_of_getElem? (i := 10) rfl))
theorem zm_41 (x : Cond) : (.fieldLink RX8 15 "MumpsHouse$Text" "bytes" "[B" : Cond) ∈ x :: zW := List.mem_cons_of_mem _ (zWs_1 _ (List.mem_of_getElem? (i := 11) rfl))
theorem zm_42 (x : Cond) : (.fieldLink RX8 19 "MumpsHouse$Text" "code" "[I" : Cond) ∈ x :: zW := List.mem_cons_of_mem _ (zWs_1 _ (List.mem_of_getElem? (i := 12) rfl))
theorem zm_43 (x : Cond) : (.fieldLink RX8 22 "MumpsHouse$Text" "starts" "[I" : Cond) ∈ x :: zW := List.mem_cons_of_mem _ (zWs_1 _ (List.mem_of_getElem? (i := 13) rfl))
theorem zm_44 (x : Cond) : (.fieldLink RX8 25 "MumpsHouse$Text" "codes" "[I" : Cond) ∈ x :: zW := List.mem_cons_of_mem _ (zWs_1 _ (List.mem_of_getElem? (i := 14) rfl))
theorem zm_45 (x : Cond) : (.fieldLink RX8 28 "MumpsHouse$Text" "levels" "[I" : Cond) ∈ x :: zW := List.mem_cons_of_mem _ (zWs_1 _ (List.mem_of_getElem? (i := 15) rfl))
theorem zm_46 (x : Cond) : (.fieldLink RX8 31 "MumpsHouse$Text" "labels" "[J" : Cond) ∈ x :: zW := List.mem_cons_of_mem _ (zWs_1 _ (List.mem_of_getElem? (i := 16) rfl))
theorem zm_47 (x : Cond) : (.fieldLink RX8 35 "MumpsHouse$Text" "formals" "[I" : Cond) ∈ x :: zW := List.mem_cons_of_mem _ (zWs_1 _ (List.mem_of_getElem? (i := 17) rfl))
theorem zm_48 (x : Cond) : (.code yX8_many cX8_many 5 (some (.array (.object "MumpsHouse$Text"))) : Cond) ∈ x :: zW := List.mem_cons_of_mem _ (zWs_1 _ (List.mem_of_getElem? (i := 18) rfl))
theorem zm_49 (x : Cond) : (.static yX8_many : Cond) ∈ x :: zW := List.mem_cons_of_mem _ (zWs_1 _ (List.mem_of_getElem? (i := 19) rfl))
theorem zm_50 (x : Cond) : (.classLink RX8 10 RX8 : Cond) ∈ x :: zW := List.mem_cons_of_mem _ (zWs_1 _ (List.mem_of_getElem? (i := 20) rfl))
theorem zm_51 (x : Cond) : (.methodLink RX8 38 yX8_init : Cond) ∈ x :: zW := List.mem_cons_of_mem _ (zWs_1 _ (List.mem_of_getElem? (i := 21) rfl))
theorem zm_52 (x : Cond) : (.code yX1_init cX1_init 1 none : Cond) ∈ x :: zW := List.mem_cons_of_mem _ (zWs_1 _ (List.mem_of_getElem? (i := 22) rfl))
theorem zm_53 (x : Cond) : (.initialized RX1 : Cond) ∈ x :: zW := List.mem_cons_of_mem _ (zWs_1 _ (List.mem_of_getElem? (i := 23) rfl))
theorem zm_54 (x : Cond) : (.instanceMethod yX1_init : Cond) ∈ x :: zW := List.mem_cons_of_mem _ (zWs_1 _ (List.mem_of_getElem? (i := 24) rfl))
theorem zm_55 (x : Cond) : (.methodLink RX1 3 objectInit : Cond) ∈ x :: zW := List.mem_cons_of_mem _ (zWs_1 _ (List.mem_of_getElem? (i := 25) rfl))
theorem zm_56 (x : Cond) : (.classLink RX1 9 RX6 : Cond) ∈ x :: zW := List.mem_cons_of_mem _ (zWs_1 _ (List.mem_of_getElem? (i := 26) rfl))
theorem zm_57 (x : Cond) : (.fieldLink RX1 14 "MumpsHouse$Level" "trap" "LMumpsHouse$Row;" : Cond) ∈ x :: zW := List.mem_cons_of_mem _ (zWs_1 _ (List.mem_of_getElem? (i := 27) rfl))
theorem zm_58 (x : Cond) : (.classLink RX1 20 RX8 : Cond) ∈ x :: zW := List.mem_cons_of_mem _ (zWs_1 _ (List.mem_of_getElem? (i := 28) rfl))
theorem zm_59 (x : Cond) : (.fieldLink RX1 25 "MumpsHouse$Level" "own" "LMumpsHouse$Text;" : Cond) ∈ x :: zW := List.mem_cons_of_mem _ (zWs_1 _ (List.mem_of_getElem? (i := 29) rfl))
theorem zm_60 (x : Cond) : (.fieldLink RX1 29 "MumpsHouse$Level" "trapText" "LMumpsHouse$Text;" : Cond) ∈ x :: zW := List.mem_cons_of_mem _ (zWs_2 _ (List.mem_of_getElem? (i := 0) rfl))
theorem zm_61 (x : Cond) : (.code yX1_many cX1_many 3 (some (.array (.object "MumpsHouse$Level"))) : Cond) ∈ x :: zW := List.mem_cons_of_mem _ (zWs_2 _ (List.mem_of_getElem? (i := 1) rfl))
theorem zm_62 (x : Cond) : (.static yX1_many : Cond) ∈ x :: zW := List.mem_cons_of_mem _ (zWs_2 _ (List.mem_of_getElem? (i := 2) rfl))
theorem zm_63 (x : Cond) : (.classLink RX1 15 RX1 : Cond) ∈ x :: zW := List.mem_cons_of_mem _ (zWs_2 _ (List.mem_of_getElem? (i := 3) rfl))
theorem zm_64 (x : Cond) : (.methodLink RX1 32 yX1_init : Cond) ∈ x :: zW := List.mem_cons_of_mem _ (zWs_2 _ (List.mem_of_getElem? (i := 4) rfl))
theorem zm_65 (x : Cond) : (.code yX5_init cX5_init 1 none : Cond) ∈ x :: zW := List.mem_cons_of_mem _ (zWs_2 _ (List.mem_of_getElem? (i := 5) rfl))
theorem zm_66 (x : Cond) : (.initialized RX5 : Cond) ∈ x :: zW := List.mem_cons_of_mem _ (zWs_2 _ (List.mem_of_getElem? (i := 6) rfl))
theorem zm_67 (x : Cond) : (.instanceMethod yX5_init : Cond) ∈ x :: zW := List.mem_cons_of_mem _ (zWs_2 _ (List.mem_of_getElem? (i := 7) rfl))
theorem zm_68 (x : Cond) : (.methodLink RX5 3 objectInit : Cond) ∈ x :: zW := List.mem_cons_of_mem _ (zWs_2 _ (List.mem_of_getElem? (i := 8) rfl))
theorem zm_69 (x : Cond) : (.classLink RX5 9 RX6 : Cond) ∈ x :: zW := List.mem_cons_of_mem _ (zWs_2 _ (List.mem_of_getElem? (i := 9) rfl))
theorem zm_70 (x : Cond) : (.fieldLink RX5 14 "MumpsHouse$Proc" "code" "LMumpsHouse$Row;" : Cond) ∈ x :: zW := List.mem_cons_of_mem _ (zWs_2 _ (List.mem_of_getElem? (i := 10) rfl))
theorem zm_71 (x : Cond) : (.instantiable RX5 14 : Cond) ∈ x :: zW := List.mem_cons_of_mem _ (zWs_2 _ (List.mem_of_getElem? (i := 11) rfl))
theorem zm_72 (x : Cond) : (.fieldLink RX5 20 "MumpsHouse$Proc" "out" "LMumpsHouse$Row;" : Cond) ∈ x :: zW := List.mem_cons_of_mem _ (zWs_2 _ (List.mem_of_getElem? (i := 12) rfl))
theorem zm_73 (x : Cond) : (.code yX5_many cX5_many 3 (some (.array (.object "MumpsHouse$Proc"))) : Cond) ∈ x :: zW := List.mem_cons_of_mem _ (zWs_2 _ (List.mem_of_getElem? (i := 13) rfl))
theorem zm_74 (x : Cond) : (.static yX5_many : Cond) ∈ x :: zW := List.mem_cons_of_mem _ (zWs_2 _ (List.mem_of_getElem? (i := 14) rfl))
theorem zm_75 (x : Cond) : (.classLink RX5 15 RX5 : Cond) ∈ x :: zW := List.mem_cons_of_mem _ (zWs_2 _ (List.mem_of_getElem? (i := 15) rfl))
theorem zm_76 (x : Cond) : (.methodLink RX5 23 yX5_init : Cond) ∈ x :: zW := List.mem_cons_of_mem _ (zWs_2 _ (List.mem_of_getElem? (i := 16) rfl))
theorem zm_77 (x : Cond) : (.code yX7_init cX7_init 1 none : Cond) ∈ x :: zW := List.mem_cons_of_mem _ (zWs_2 _ (List.mem_of_getElem? (i := 17) rfl))
theorem zm_78 (x : Cond) : (.initialized RX7 : Cond) ∈ x :: zW := List.mem_cons_of_mem _ (zWs_2 _ (List.mem_of_getElem? (i := 18) rfl))
theorem zm_79 (x : Cond) : (.instanceMethod yX7_init : Cond) ∈ x :: zW := List.mem_cons_of_mem _ (zWs_2 _ (List.mem_of_getElem? (i := 19) rfl))
theorem zm_80 (x : Cond) : (.methodLink RX7 3 objectInit : Cond) ∈ x :: zW := List.mem_cons_of_mem _ (zWs_2 _ (List.mem_of_getElem? (i := 20) rfl))
theorem zm_81 (x : Cond) : (.fieldLink RX7 9 "MumpsHouse$Scope" "names" "[J" : Cond) ∈ x :: zW := List.mem_cons_of_mem _ (zWs_2 _ (List.mem_of_getElem? (i := 21) rfl))
theorem zm_82 (x : Cond) : (.fieldLink RX7 15 "MumpsHouse$Scope" "cells" "[I" : Cond) ∈ x :: zW := List.mem_cons_of_mem _ (zWs_2 _ (List.mem_of_getElem? (i := 22) rfl))
theorem zm_83 (x : Cond) : (.fieldLink RX7 19 "MumpsHouse$Scope" "hiddenNames" "[J" : Cond) ∈ x :: zW := List.mem_cons_of_mem _ (zWs_2 _ (List.mem_of_getElem? (i := 23) rfl))
theorem zm_84 (x : Cond) : (.fieldLink RX7 22 "MumpsHouse$Scope" "hiddenCells" "[I" : Cond) ∈ x :: zW := List.mem_cons_of_mem _ (zWs_2 _ (List.mem_of_getElem? (i := 24) rfl))
theorem zm_85 (x : Cond) : (.fieldLink RX7 25 "MumpsHouse$Scope" "keptNames" "[J" : Cond) ∈ x :: zW := List.mem_cons_of_mem _ (zWs_2 _ (List.mem_of_getElem? (i := 25) rfl))
theorem zm_86 (x : Cond) : (.fieldLink RX7 28 "MumpsHouse$Scope" "keptCells" "[I" : Cond) ∈ x :: zW := List.mem_cons_of_mem _ (zWs_2 _ (List.mem_of_getElem? (i := 26) rfl))
theorem zm_87 (x : Cond) : (.fieldLink RX7 31 "MumpsHouse$Scope" "copies" "[J" : Cond) ∈ x :: zW := List.mem_cons_of_mem _ (zWs_2 _ (List.mem_of_getElem? (i := 27) rfl))
theorem zm_88 (x : Cond) : (.fieldLink RX7 34 "MumpsHouse$Scope" "marks" "[I" : Cond) ∈ x :: zW := List.mem_cons_of_mem _ (zWs_2 _ (List.mem_of_getElem? (i := 28) rfl))
theorem zm_89 (x : Cond) : (.classLink RX7 37 RX6 : Cond) ∈ x :: zW := List.mem_cons_of_mem _ (zWs_2 _ (List.mem_of_getElem? (i := 29) rfl))
theorem zm_90 (x : Cond) : (.fieldLink RX7 42 "MumpsHouse$Scope" "log" "LMumpsHouse$Row;" : Cond) ∈ x :: zW := List.mem_cons_of_mem _ (zWs_3 _ (List.mem_of_getElem? (i := 0) rfl))
theorem zm_91 (x : Cond) : (.code yX10_init cX10_init 2 none : Cond) ∈ x :: zW := List.mem_cons_of_mem _ (zWs_3 _ (List.mem_of_getElem? (i := 1) rfl))
theorem zm_92 (x : Cond) : (.initialized RX10 : Cond) ∈ x :: zW := List.mem_cons_of_mem _ (zWs_3 _ (List.mem_of_getElem? (i := 2) rfl))
theorem zm_93 (x : Cond) : (.instanceMethod yX10_init : Cond) ∈ x :: zW := List.mem_cons_of_mem _ (zWs_3 _ (List.mem_of_getElem? (i := 3) rfl))
theorem zm_94 (x : Cond) : (.methodLink RX10 3 objectInit : Cond) ∈ x :: zW := List.mem_cons_of_mem _ (zWs_3 _ (List.mem_of_getElem? (i := 4) rfl))
theorem zm_95 (x : Cond) : (.fieldLink RX10 15 "MumpsHouse$Work" "strings" "[LMumpsHouse$Row;" : Cond) ∈ x :: zW := List.mem_cons_of_mem _ (zWs_3 _ (List.mem_of_getElem? (i := 5) rfl))
theorem zm_96 (x : Cond) : (.fieldLink RX10 26 "MumpsHouse$Work" "nodes" "[LMumpsHouse$Node;" : Cond) ∈ x :: zW := List.mem_cons_of_mem _ (zWs_3 _ (List.mem_of_getElem? (i := 6) rfl))
theorem zm_97 (x : Cond) : (.fieldLink RX10 35 "MumpsHouse$Work" "levels" "[LMumpsHouse$Level;" : Cond) ∈ x :: zW := List.mem_cons_of_mem _ (zWs_3 _ (List.mem_of_getElem? (i := 7) rfl))
theorem zm_98 (x : Cond) : (.fieldLink RX10 44 "MumpsHouse$Work" "ats" "[LMumpsHouse$Text;" : Cond) ∈ x :: zW := List.mem_cons_of_mem _ (zWs_3 _ (List.mem_of_getElem? (i := 8) rfl))
theorem zm_99 (x : Cond) : (.fieldLink RX10 48 "MumpsHouse$Work" "loops" "[I" : Cond) ∈ x :: zW := List.mem_cons_of_mem _ (zWs_3 _ (List.mem_of_getElem? (i := 9) rfl))
theorem zm_100 (x : Cond) : (.fieldLink RX10 52 "MumpsHouse$Work" "loopNames" "[J" : Cond) ∈ x :: zW := List.mem_cons_of_mem _ (zWs_3 _ (List.mem_of_getElem? (i := 10) rfl))
theorem zm_101 (x : Cond) : (.fieldLink RX10 61 "MumpsHouse$Work" "steps" "[LMumpsHouse$Num;" : Cond) ∈ x :: zW := List.mem_cons_of_mem _ (zWs_3 _ (List.mem_of_getElem? (i := 11) rfl))
theorem zm_102 (x : Cond) : (.fieldLink RX10 65 "MumpsHouse$Work" "limits" "[LMumpsHouse$Num;" : Cond) ∈ x :: zW := List.mem_cons_of_mem _ (zWs_3 _ (List.mem_of_getElem? (i := 12) rfl))
theorem zm_103 (x : Cond) : (.fieldLink RX10 68 "MumpsHouse$Work" "told" "[LMumpsHouse$Row;" : Cond) ∈ x :: zW := List.mem_cons_of_mem _ (zWs_3 _ (List.mem_of_getElem? (i := 13) rfl))
theorem zm_104 (x : Cond) : (.classLink RX10 22 RX3 : Cond) ∈ x :: zW := List.mem_cons_of_mem _ (zWs_3 _ (List.mem_of_getElem? (i := 14) rfl))
theorem zm_105 (x : Cond) : (.fieldLink RX10 72 "MumpsHouse$Work" "naked" "LMumpsHouse$Node;" : Cond) ∈ x :: zW := List.mem_cons_of_mem _ (zWs_3 _ (List.mem_of_getElem? (i := 15) rfl))
theorem zm_106 (x : Cond) : (.classLink RX10 76 RX7 : Cond) ∈ x :: zW := List.mem_cons_of_mem _ (zWs_3 _ (List.mem_of_getElem? (i := 16) rfl))
theorem zm_107 (x : Cond) : (.fieldLink RX10 79 "MumpsHouse$Work" "scope" "LMumpsHouse$Scope;" : Cond) ∈ x :: zW := List.mem_cons_of_mem _ (zWs_3 _ (List.mem_of_getElem? (i := 17) rfl))
theorem zm_108 (x : Cond) : (.fieldLink RX10 83 "MumpsHouse$Work" "owner" "I" : Cond) ∈ x :: zW := List.mem_cons_of_mem _ (zWs_3 _ (List.mem_of_getElem? (i := 18) rfl))
theorem zm_109 (x : Cond) : (.code yX10_many cX10_many 3 (some (.array (.object "MumpsHouse$Work"))) : Cond) ∈ x :: zW := List.mem_cons_of_mem _ (zWs_3 _ (List.mem_of_getElem? (i := 19) rfl))
theorem zm_110 (x : Cond) : (.static yX10_many : Cond) ∈ x :: zW := List.mem_cons_of_mem _ (zWs_3 _ (List.mem_of_getElem? (i := 20) rfl))
theorem zm_111 (x : Cond) : (.classLink RX10 16 RX10 : Cond) ∈ x :: zW := List.mem_cons_of_mem _ (zWs_3 _ (List.mem_of_getElem? (i := 21) rfl))
theorem zm_112 (x : Cond) : (.methodLink RX10 87 yX10_init : Cond) ∈ x :: zW := List.mem_cons_of_mem _ (zWs_3 _ (List.mem_of_getElem? (i := 22) rfl))
theorem zm_113 (x : Cond) : (.code yX9_init cX9_init 3 none : Cond) ∈ x :: zW := List.mem_cons_of_mem _ (zWs_3 _ (List.mem_of_getElem? (i := 23) rfl))
theorem zm_114 (x : Cond) : (.initialized RX9 : Cond) ∈ x :: zW := List.mem_cons_of_mem _ (zWs_3 _ (List.mem_of_getElem? (i := 24) rfl))
theorem zm_115 (x : Cond) : (.instanceMethod yX9_init : Cond) ∈ x :: zW := List.mem_cons_of_mem _ (zWs_3 _ (List.mem_of_getElem? (i := 25) rfl))
theorem zm_116 (x : Cond) : (.methodLink RX9 3 objectInit : Cond) ∈ x :: zW := List.mem_cons_of_mem _ (zWs_3 _ (List.mem_of_getElem? (i := 26) rfl))
theorem zm_117 (x : Cond) : (.fieldLink RX9 15 "MumpsHouse$Tree" "nodes" "[LMumpsHouse$Node;" : Cond) ∈ x :: zW := List.mem_cons_of_mem _ (zWs_3 _ (List.mem_of_getElem? (i := 27) rfl))
theorem zm_118 (x : Cond) : (.fieldLink RX9 26 "MumpsHouse$Tree" "values" "[LMumpsHouse$Row;" : Cond) ∈ x :: zW := List.mem_cons_of_mem _ (zWs_3 _ (List.mem_of_getElem? (i := 28) rfl))
theorem zm_119 (x : Cond) : (.fieldLink RX9 30 "MumpsHouse$Tree" "order" "[I" : Cond) ∈ x :: zW := List.mem_cons_of_mem _ (zWs_3 _ (List.mem_of_getElem? (i := 29) rfl))
theorem zm_120 (x : Cond) : (.fieldLink RX9 34 "MumpsHouse$Tree" "spare" "[I" : Cond) ∈ x :: zW := List.mem_cons_of_mem _ (zWs_4 _ (List.mem_of_getElem? (i := 0) rfl))
theorem zm_121 (x : Cond) : (.fieldLink RX9 37 "MumpsHouse$Tree" "byName" "Z" : Cond) ∈ x :: zW := List.mem_cons_of_mem _ (zWs_4 _ (List.mem_of_getElem? (i := 1) rfl))
theorem zm_122 (x : Cond) : (.methodLink RX9 41 yX9_clear : Cond) ∈ x :: zW := List.mem_cons_of_mem _ (zWs_4 _ (List.mem_of_getElem? (i := 2) rfl))
theorem zm_123 (x : Cond) : (.code yX9_clear cX9_clear 2 none : Cond) ∈ x :: zW := List.mem_cons_of_mem _ (zWs_4 _ (List.mem_of_getElem? (i := 3) rfl))
theorem zm_124 (x : Cond) : (.instanceMethod yX9_clear : Cond) ∈ x :: zW := List.mem_cons_of_mem _ (zWs_4 _ (List.mem_of_getElem? (i := 4) rfl))
theorem zm_125 (x : Cond) : (.selects RX9 yX9_clear yX9_clear : Cond) ∈ x :: zW := List.mem_cons_of_mem _ (zWs_4 _ (List.mem_of_getElem? (i := 5) rfl))
theorem zm_126 (x : Cond) : (.fieldLink RX9 44 "MumpsHouse$Tree" "count" "I" : Cond) ∈ x :: zW := List.mem_cons_of_mem _ (zWs_4 _ (List.mem_of_getElem? (i := 6) rfl))
theorem zm_127 (x : Cond) : (.code yX0_init cX0_init 1 none : Cond) ∈ x :: zW := List.mem_cons_of_mem _ (zWs_4 _ (List.mem_of_getElem? (i := 7) rfl))
theorem zm_128 (x : Cond) : (.initialized RX0 : Cond) ∈ x :: zW := List.mem_cons_of_mem _ (zWs_4 _ (List.mem_of_getElem? (i := 8) rfl))
theorem zm_129 (x : Cond) : (.instanceMethod yX0_init : Cond) ∈ x :: zW := List.mem_cons_of_mem _ (zWs_4 _ (List.mem_of_getElem? (i := 9) rfl))
theorem zm_130 (x : Cond) : (.methodLink RX0 3 objectInit : Cond) ∈ x :: zW := List.mem_cons_of_mem _ (zWs_4 _ (List.mem_of_getElem? (i := 10) rfl))
theorem zm_131 (x : Cond) : (.classLink RX0 9 RX9 : Cond) ∈ x :: zW := List.mem_cons_of_mem _ (zWs_4 _ (List.mem_of_getElem? (i := 11) rfl))
theorem zm_132 (x : Cond) : (.fieldLink RX0 14 "MumpsHouse$House" "globals" "LMumpsHouse$Tree;" : Cond) ∈ x :: zW := List.mem_cons_of_mem _ (zWs_4 _ (List.mem_of_getElem? (i := 12) rfl))
theorem zm_133 (x : Cond) : (.fieldLink RX0 26 "MumpsHouse$House" "routines" "[LMumpsHouse$Text;" : Cond) ∈ x :: zW := List.mem_cons_of_mem _ (zWs_4 _ (List.mem_of_getElem? (i := 13) rfl))
theorem zm_134 (x : Cond) : (.classLink RX0 21 RX8 : Cond) ∈ x :: zW := List.mem_cons_of_mem _ (zWs_4 _ (List.mem_of_getElem? (i := 14) rfl))
theorem zm_135 (x : Cond) : (.fieldLink RX0 33 "MumpsHouse$House" "spare" "LMumpsHouse$Text;" : Cond) ∈ x :: zW := List.mem_cons_of_mem _ (zWs_4 _ (List.mem_of_getElem? (i := 15) rfl))
theorem zm_136 (x : Cond) : (.constant RX0 37 (102400) : Cond) ∈ x :: zW := List.mem_cons_of_mem _ (zWs_4 _ (List.mem_of_getElem? (i := 16) rfl))
theorem zm_137 (x : Cond) : (.fieldLink RX0 38 "MumpsHouse$House" "blocks" "[B" : Cond) ∈ x :: zW := List.mem_cons_of_mem _ (zWs_4 _ (List.mem_of_getElem? (i := 17) rfl))
theorem zm_138 (x : Cond) : (.fieldLink RX0 42 "MumpsHouse$House" "fresh" "[B" : Cond) ∈ x :: zW := List.mem_cons_of_mem _ (zWs_4 _ (List.mem_of_getElem? (i := 18) rfl))
theorem zm_139 (x : Cond) : (.classLink RX0 45 RX6 : Cond) ∈ x :: zW := List.mem_cons_of_mem _ (zWs_4 _ (List.mem_of_getElem? (i := 19) rfl))
theorem zm_140 (x : Cond) : (.constant RX0 47 (99200) : Cond) ∈ x :: zW := List.mem_cons_of_mem _ (zWs_4 _ (List.mem_of_getElem? (i := 20) rfl))
theorem zm_141 (x : Cond) : (.fieldLink RX0 51 "MumpsHouse$House" "waiting" "LMumpsHouse$Row;" : Cond) ∈ x :: zW := List.mem_cons_of_mem _ (zWs_4 _ (List.mem_of_getElem? (i := 21) rfl))
theorem zm_142 (x : Cond) : (.fieldLink RX0 55 "MumpsHouse$House" "cutAt" "I" : Cond) ∈ x :: zW := List.mem_cons_of_mem _ (zWs_4 _ (List.mem_of_getElem? (i := 22) rfl))
theorem zm_143 (x : Cond) : (.fieldLink RX0 64 "MumpsHouse$House" "locks" "[LMumpsHouse$Node;" : Cond) ∈ x :: zW := List.mem_cons_of_mem _ (zWs_4 _ (List.mem_of_getElem? (i := 23) rfl))
theorem zm_144 (x : Cond) : (.fieldLink RX0 68 "MumpsHouse$House" "counts" "[I" : Cond) ∈ x :: zW := List.mem_cons_of_mem _ (zWs_4 _ (List.mem_of_getElem? (i := 24) rfl))
theorem zm_145 (x : Cond) : (.code yX2_init cX2_init 2 none : Cond) ∈ x :: zW := List.mem_cons_of_mem _ (zWs_4 _ (List.mem_of_getElem? (i := 25) rfl))
theorem zm_146 (x : Cond) : (.initialized RX2 : Cond) ∈ x :: zW := List.mem_cons_of_mem _ (zWs_4 _ (List.mem_of_getElem? (i := 26) rfl))
theorem zm_147 (x : Cond) : (.instanceMethod yX2_init : Cond) ∈ x :: zW := List.mem_cons_of_mem _ (zWs_4 _ (List.mem_of_getElem? (i := 27) rfl))
theorem zm_148 (x : Cond) : (.methodLink RX2 3 objectInit : Cond) ∈ x :: zW := List.mem_cons_of_mem _ (zWs_4 _ (List.mem_of_getElem? (i := 28) rfl))
theorem zm_149 (x : Cond) : (.classLink RX2 9 RX9 : Cond) ∈ x :: zW := List.mem_cons_of_mem _ (zWs_4 _ (List.mem_of_getElem? (i := 29) rfl))
theorem zm_150 (x : Cond) : (.fieldLink RX2 14 "MumpsHouse$Machine" "locals" "LMumpsHouse$Tree;" : Cond) ∈ x :: zW := List.mem_cons_of_mem _ (zWs_5 _ (List.mem_of_getElem? (i := 0) rfl))
theorem zm_151 (x : Cond) : (.fieldLink RX2 20 "MumpsHouse$Machine" "references" "[I" : Cond) ∈ x :: zW := List.mem_cons_of_mem _ (zWs_5 _ (List.mem_of_getElem? (i := 1) rfl))
theorem zm_152 (x : Cond) : (.fieldLink RX2 30 "MumpsHouse$Machine" "procs" "[LMumpsHouse$Proc;" : Cond) ∈ x :: zW := List.mem_cons_of_mem _ (zWs_5 _ (List.mem_of_getElem? (i := 2) rfl))
theorem zm_153 (x : Cond) : (.fieldLink RX2 39 "MumpsHouse$Machine" "works" "[LMumpsHouse$Work;" : Cond) ∈ x :: zW := List.mem_cons_of_mem _ (zWs_5 _ (List.mem_of_getElem? (i := 3) rfl))
theorem zm_154 (x : Cond) : (.fieldLink RX2 43 "MumpsHouse$Machine" "phase" "I" : Cond) ∈ x :: zW := List.mem_cons_of_mem _ (zWs_5 _ (List.mem_of_getElem? (i := 4) rfl))
theorem zm_155 (x : Cond) : (.classLink RX2 47 RX3 : Cond) ∈ x :: zW := List.mem_cons_of_mem _ (zWs_5 _ (List.mem_of_getElem? (i := 5) rfl))
theorem zm_156 (x : Cond) : (.fieldLink RX2 50 "MumpsHouse$Machine" "met" "LMumpsHouse$Node;" : Cond) ∈ x :: zW := List.mem_cons_of_mem _ (zWs_5 _ (List.mem_of_getElem? (i := 6) rfl))
theorem zm_157 (x : Cond) : (.fieldLink RX2 54 "MumpsHouse$Machine" "other" "LMumpsHouse$Node;" : Cond) ∈ x :: zW := List.mem_cons_of_mem _ (zWs_5 _ (List.mem_of_getElem? (i := 7) rfl))
theorem zm_158 (x : Cond) : (.classLink RX2 57 RX4 : Cond) ∈ x :: zW := List.mem_cons_of_mem _ (zWs_5 _ (List.mem_of_getElem? (i := 8) rfl))
theorem zm_159 (x : Cond) : (.fieldLink RX2 62 "MumpsHouse$Machine" "a" "LMumpsHouse$Num;" : Cond) ∈ x :: zW := List.mem_cons_of_mem _ (zWs_5 _ (List.mem_of_getElem? (i := 9) rfl))
theorem zm_160 (x : Cond) : (.fieldLink RX2 66 "MumpsHouse$Machine" "b" "LMumpsHouse$Num;" : Cond) ∈ x :: zW := List.mem_cons_of_mem _ (zWs_5 _ (List.mem_of_getElem? (i := 10) rfl))
theorem zm_161 (x : Cond) : (.classLink RX2 69 RX6 : Cond) ∈ x :: zW := List.mem_cons_of_mem _ (zWs_5 _ (List.mem_of_getElem? (i := 11) rfl))
theorem zm_162 (x : Cond) : (.fieldLink RX2 72 "MumpsHouse$Machine" "out" "LMumpsHouse$Row;" : Cond) ∈ x :: zW := List.mem_cons_of_mem _ (zWs_5 _ (List.mem_of_getElem? (i := 12) rfl))
theorem zm_163 (x : Cond) : (.fieldLink RX2 76 "MumpsHouse$Machine" "given" "LMumpsHouse$Row;" : Cond) ∈ x :: zW := List.mem_cons_of_mem _ (zWs_5 _ (List.mem_of_getElem? (i := 13) rfl))
theorem zm_164 (x : Cond) : (.fieldLink RX2 79 "MumpsHouse$Machine" "sets" "[J" : Cond) ∈ x :: zW := List.mem_cons_of_mem _ (zWs_5 _ (List.mem_of_getElem? (i := 14) rfl))
theorem zm_165 (x : Cond) : (.fieldLink RX2 83 "MumpsHouse$Machine" "ids" "[I" : Cond) ∈ x :: zW := List.mem_cons_of_mem _ (zWs_5 _ (List.mem_of_getElem? (i := 15) rfl))
theorem zm_166 (x : Cond) : (.fieldLink RX2 86 "MumpsHouse$Machine" "house" "LMumpsHouse$House;" : Cond) ∈ x :: zW := List.mem_cons_of_mem _ (zWs_5 _ (List.mem_of_getElem? (i := 16) rfl))
theorem zm_167 (x : Cond) : (.code yX11_init cX11_init 1 none : Cond) ∈ x :: zW := List.mem_cons_of_mem _ (zWs_5 _ (List.mem_of_getElem? (i := 17) rfl))
theorem zm_168 (x : Cond) : (.initialized RX11 : Cond) ∈ x :: zW := List.mem_cons_of_mem _ (zWs_5 _ (List.mem_of_getElem? (i := 18) rfl))
theorem zm_169 (x : Cond) : (.instanceMethod yX11_init : Cond) ∈ x :: zW := List.mem_cons_of_mem _ (zWs_5 _ (List.mem_of_getElem? (i := 19) rfl))
theorem zm_170 (x : Cond) : (.methodLink RX11 3 objectInit : Cond) ∈ x :: zW := List.mem_cons_of_mem _ (zWs_5 _ (List.mem_of_getElem? (i := 20) rfl))
theorem zm_171 (x : Cond) : (.classLink RX11 9 RX6 : Cond) ∈ x :: zW := List.mem_cons_of_mem _ (zWs_5 _ (List.mem_of_getElem? (i := 21) rfl))
theorem zm_172 (x : Cond) : (.fieldLink RX11 14 "MumpsHouse" "tape" "LMumpsHouse$Row;" : Cond) ∈ x :: zW := List.mem_cons_of_mem _ (zWs_5 _ (List.mem_of_getElem? (i := 22) rfl))
theorem zm_173 (x : Cond) : (.fieldLink RX11 18 "MumpsHouse" "result" "LMumpsHouse$Row;" : Cond) ∈ x :: zW := List.mem_cons_of_mem _ (zWs_5 _ (List.mem_of_getElem? (i := 23) rfl))
theorem zm_174 (x : Cond) : (.classLink RX11 21 RX0 : Cond) ∈ x :: zW := List.mem_cons_of_mem _ (zWs_5 _ (List.mem_of_getElem? (i := 24) rfl))
theorem zm_175 (x : Cond) : (.fieldLink RX11 24 "MumpsHouse" "house" "LMumpsHouse$House;" : Cond) ∈ x :: zW := List.mem_cons_of_mem _ (zWs_5 _ (List.mem_of_getElem? (i := 25) rfl))
theorem zm_176 (x : Cond) : (.classLink RX11 28 RX2 : Cond) ∈ x :: zW := List.mem_cons_of_mem _ (zWs_5 _ (List.mem_of_getElem? (i := 26) rfl))
theorem zm_177 (x : Cond) : (.fieldLink RX11 33 "MumpsHouse" "machine" "LMumpsHouse$Machine;" : Cond) ∈ x :: zW := List.mem_cons_of_mem _ (zWs_5 _ (List.mem_of_getElem? (i := 27) rfl))
theorem zm_178 (x : Cond) : (.classLink RX11 37 RX3 : Cond) ∈ x :: zW := List.mem_cons_of_mem _ (zWs_5 _ (List.mem_of_getElem? (i := 28) rfl))
theorem zm_179 (x : Cond) : (.fieldLink RX11 40 "MumpsHouse" "node" "LMumpsHouse$Node;" : Cond) ∈ x :: zW := List.mem_cons_of_mem _ (zWs_5 _ (List.mem_of_getElem? (i := 29) rfl))
theorem zm_180 (x : Cond) : (.fieldLink RX11 44 "MumpsHouse" "value" "LMumpsHouse$Row;" : Cond) ∈ x :: zW := List.mem_cons_of_mem _ (zWs_6 _ (List.mem_of_getElem? (i := 0) rfl))
theorem zm_181 (x : Cond) : (.code yX6_clear cX6_clear 1 none : Cond) ∈ x :: zW := List.mem_cons_of_mem _ (zWs_6 _ (List.mem_of_getElem? (i := 1) rfl))
theorem zm_182 (x : Cond) : (.instanceMethod yX6_clear : Cond) ∈ x :: zW := List.mem_cons_of_mem _ (zWs_6 _ (List.mem_of_getElem? (i := 2) rfl))
theorem zm_183 (x : Cond) : (.selects RX6 yX6_clear yX6_clear : Cond) ∈ x :: zW := List.mem_cons_of_mem _ (zWs_6 _ (List.mem_of_getElem? (i := 3) rfl))
theorem zm_184 (x : Cond) : (.fieldLink RX6 18 "MumpsHouse$Row" "length" "I" : Cond) ∈ x :: zW := List.mem_cons_of_mem _ (zWs_6 _ (List.mem_of_getElem? (i := 4) rfl))
theorem zm_185 (x : Cond) : (.fieldLink RX6 22 "MumpsHouse$Row" "kind" "I" : Cond) ∈ x :: zW := List.mem_cons_of_mem _ (zWs_6 _ (List.mem_of_getElem? (i := 5) rfl))
theorem zm_186 (x : Cond) : (.code yX6_at cX6_at 2 (some .int) : Cond) ∈ x :: zW := List.mem_cons_of_mem _ (zWs_6 _ (List.mem_of_getElem? (i := 6) rfl))
theorem zm_187 (x : Cond) : (.instanceMethod yX6_at : Cond) ∈ x :: zW := List.mem_cons_of_mem _ (zWs_6 _ (List.mem_of_getElem? (i := 7) rfl))
theorem zm_188 (x : Cond) : (.selects RX6 yX6_at yX6_at : Cond) ∈ x :: zW := List.mem_cons_of_mem _ (zWs_6 _ (List.mem_of_getElem? (i := 8) rfl))
theorem zm_189 (x : Cond) : (.code yX6_add cX6_add 2 none : Cond) ∈ x :: zW := List.mem_cons_of_mem _ (zWs_6 _ (List.mem_of_getElem? (i := 9) rfl))
theorem zm_190 (x : Cond) : (.instanceMethod yX6_add : Cond) ∈ x :: zW := List.mem_cons_of_mem _ (zWs_6 _ (List.mem_of_getElem? (i := 10) rfl))
theorem zm_191 (x : Cond) : (.selects RX6 yX6_add yX6_add : Cond) ∈ x :: zW := List.mem_cons_of_mem _ (zWs_6 _ (List.mem_of_getElem? (i := 11) rfl))
theorem zm_192 (x : Cond) : (.code yX6_addPart cX6_addPart 4 (some .boolean) : Cond) ∈ x :: zW := List.mem_cons_of_mem _ (zWs_6 _ (List.mem_of_getElem? (i := 12) rfl))
theorem zm_193 (x : Cond) : (.instanceMethod yX6_addPart : Cond) ∈ x :: zW := List.mem_cons_of_mem _ (zWs_6 _ (List.mem_of_getElem? (i := 13) rfl))
theorem zm_194 (x : Cond) : (.selects RX6 yX6_addPart yX6_addPart : Cond) ∈ x :: zW := List.mem_cons_of_mem _ (zWs_6 _ (List.mem_of_getElem? (i := 14) rfl))
theorem zm_195 (x : Cond) : (.methodLink RX6 25 arraycopyName : Cond) ∈ x :: zW := List.mem_cons_of_mem _ (zWs_6 _ (List.mem_of_getElem? (i := 15) rfl))
theorem zm_196 (x : Cond) : (.code yX11_feed cX11_feed 6 (some .int) : Cond) ∈ x :: zW := List.mem_cons_of_mem _ (zWs_6 _ (List.mem_of_getElem? (i := 16) rfl))
theorem zm_197 (x : Cond) : (.instanceMethod yX11_feed : Cond) ∈ x :: zW := List.mem_cons_of_mem _ (zWs_6 _ (List.mem_of_getElem? (i := 17) rfl))
theorem zm_198 (x : Cond) : (.selects RX11 yX11_feed yX11_feed : Cond) ∈ x :: zW := List.mem_cons_of_mem _ (zWs_6 _ (List.mem_of_getElem? (i := 18) rfl))
theorem zm_199 (x : Cond) : (.methodLink RX11 51 yX11_feedNumber : Cond) ∈ x :: zW := List.mem_cons_of_mem _ (zWs_6 _ (List.mem_of_getElem? (i := 19) rfl))
theorem zm_200 (x : Cond) : (.code yX11_feedNumber cX11_feedNumber 3 none : Cond) ∈ x :: zW := List.mem_cons_of_mem _ (zWs_6 _ (List.mem_of_getElem? (i := 20) rfl))
theorem zm_201 (x : Cond) : (.instanceMethod yX11_feedNumber : Cond) ∈ x :: zW := List.mem_cons_of_mem _ (zWs_6 _ (List.mem_of_getElem? (i := 21) rfl))
theorem zm_202 (x : Cond) : (.selects RX11 yX11_feedNumber yX11_feedNumber : Cond) ∈ x :: zW := List.mem_cons_of_mem _ (zWs_6 _ (List.mem_of_getElem? (i := 22) rfl))
theorem zm_203 (x : Cond) : (.code yX11_end cX11_end 2 (some .int) : Cond) ∈ x :: zW := List.mem_cons_of_mem _ (zWs_6 _ (List.mem_of_getElem? (i := 23) rfl))
theorem zm_204 (x : Cond) : (.instanceMethod yX11_end : Cond) ∈ x :: zW := List.mem_cons_of_mem _ (zWs_6 _ (List.mem_of_getElem? (i := 24) rfl))
theorem zm_205 (x : Cond) : (.selects RX11 yX11_end yX11_end : Cond) ∈ x :: zW := List.mem_cons_of_mem _ (zWs_6 _ (List.mem_of_getElem? (i := 25) rfl))
theorem zm_206 (x : Cond) : (.code yX11_save cX11_save 8 (some .int) : Cond) ∈ x :: zW := List.mem_cons_of_mem _ (zWs_6 _ (List.mem_of_getElem? (i := 26) rfl))
theorem zm_207 (x : Cond) : (.instanceMethod yX11_save : Cond) ∈ x :: zW := List.mem_cons_of_mem _ (zWs_6 _ (List.mem_of_getElem? (i := 27) rfl))
theorem zm_208 (x : Cond) : (.selects RX11 yX11_save yX11_save : Cond) ∈ x :: zW := List.mem_cons_of_mem _ (zWs_6 _ (List.mem_of_getElem? (i := 28) rfl))
theorem zm_209 (x : Cond) : (.methodLink RX11 68 yX11_beginsName : Cond) ∈ x :: zW := List.mem_cons_of_mem _ (zWs_6 _ (List.mem_of_getElem? (i := 29) rfl))
theorem zm_210 (x : Cond) : (.methodLink RX11 72 yX11_goesOnName : Cond) ∈ x :: zW := List.mem_cons_of_mem _ (zWs_7 _ (List.mem_of_getElem? (i := 0) rfl))
theorem zm_211 (x : Cond) : (.methodLink RX11 85 yX11_packed : Cond) ∈ x :: zW := List.mem_cons_of_mem _ (zWs_7 _ (List.mem_of_getElem? (i := 1) rfl))
theorem zm_212 (x : Cond) : (.methodLink RX11 89 yX11_readSpare : Cond) ∈ x :: zW := List.mem_cons_of_mem _ (zWs_7 _ (List.mem_of_getElem? (i := 2) rfl))
theorem zm_213 (x : Cond) : (.code yX11_process cX11_process 3 (some .int) : Cond) ∈ x :: zW := List.mem_cons_of_mem _ (zWs_7 _ (List.mem_of_getElem? (i := 3) rfl))
theorem zm_214 (x : Cond) : (.instanceMethod yX11_process : Cond) ∈ x :: zW := List.mem_cons_of_mem _ (zWs_7 _ (List.mem_of_getElem? (i := 4) rfl))
theorem zm_215 (x : Cond) : (.selects RX11 yX11_process yX11_process : Cond) ∈ x :: zW := List.mem_cons_of_mem _ (zWs_7 _ (List.mem_of_getElem? (i := 5) rfl))
theorem zm_216 (x : Cond) : (.code yX11_tell cX11_tell 4 (some .int) : Cond) ∈ x :: zW := List.mem_cons_of_mem _ (zWs_7 _ (List.mem_of_getElem? (i := 6) rfl))
theorem zm_217 (x : Cond) : (.instanceMethod yX11_tell : Cond) ∈ x :: zW := List.mem_cons_of_mem _ (zWs_7 _ (List.mem_of_getElem? (i := 7) rfl))
theorem zm_218 (x : Cond) : (.selects RX11 yX11_tell yX11_tell : Cond) ∈ x :: zW := List.mem_cons_of_mem _ (zWs_7 _ (List.mem_of_getElem? (i := 8) rfl))
theorem zm_219 (x : Cond) : (.code yX11_time cX11_time 3 (some .int) : Cond) ∈ x :: zW := List.mem_cons_of_mem _ (zWs_7 _ (List.mem_of_getElem? (i := 9) rfl))
theorem zm_220 (x : Cond) : (.instanceMethod yX11_time : Cond) ∈ x :: zW := List.mem_cons_of_mem _ (zWs_7 _ (List.mem_of_getElem? (i := 10) rfl))
theorem zm_221 (x : Cond) : (.selects RX11 yX11_time yX11_time : Cond) ∈ x :: zW := List.mem_cons_of_mem _ (zWs_7 _ (List.mem_of_getElem? (i := 11) rfl))
theorem zm_222 (x : Cond) : (.constant RX11 179 (2000000000) : Cond) ∈ x :: zW := List.mem_cons_of_mem _ (zWs_7 _ (List.mem_of_getElem? (i := 12) rfl))
theorem zm_223 (x : Cond) : (.code yX11_seed cX11_seed 3 (some .int) : Cond) ∈ x :: zW := List.mem_cons_of_mem _ (zWs_7 _ (List.mem_of_getElem? (i := 13) rfl))
theorem zm_224 (x : Cond) : (.instanceMethod yX11_seed : Cond) ∈ x :: zW := List.mem_cons_of_mem _ (zWs_7 _ (List.mem_of_getElem? (i := 14) rfl))
theorem zm_225 (x : Cond) : (.selects RX11 yX11_seed yX11_seed : Cond) ∈ x :: zW := List.mem_cons_of_mem _ (zWs_7 _ (List.mem_of_getElem? (i := 15) rfl))
theorem zm_226 (x : Cond) : (.code yX11_turns cX11_turns 15 (some .int) : Cond) ∈ x :: zW := List.mem_cons_of_mem _ (zWs_7 _ (List.mem_of_getElem? (i := 16) rfl))
theorem zm_227 (x : Cond) : (.instanceMethod yX11_turns : Cond) ∈ x :: zW := List.mem_cons_of_mem _ (zWs_7 _ (List.mem_of_getElem? (i := 17) rfl))
theorem zm_228 (x : Cond) : (.selects RX11 yX11_turns yX11_turns : Cond) ∈ x :: zW := List.mem_cons_of_mem _ (zWs_7 _ (List.mem_of_getElem? (i := 18) rfl))
theorem zm_229 (x : Cond) : (.constantLong RX11 188 (4611686018427387904) : Cond) ∈ x :: zW := List.mem_cons_of_mem _ (zWs_7 _ (List.mem_of_getElem? (i := 19) rfl))
theorem zm_230 (x : Cond) : (.code yX11_halt cX11_halt 4 (some .int) : Cond) ∈ x :: zW := List.mem_cons_of_mem _ (zWs_7 _ (List.mem_of_getElem? (i := 20) rfl))
theorem zm_231 (x : Cond) : (.instanceMethod yX11_halt : Cond) ∈ x :: zW := List.mem_cons_of_mem _ (zWs_7 _ (List.mem_of_getElem? (i := 21) rfl))
theorem zm_232 (x : Cond) : (.selects RX11 yX11_halt yX11_halt : Cond) ∈ x :: zW := List.mem_cons_of_mem _ (zWs_7 _ (List.mem_of_getElem? (i := 22) rfl))
theorem zm_233 (x : Cond) : (.code yX11_state cX11_state 5 (some .int) : Cond) ∈ x :: zW := List.mem_cons_of_mem _ (zWs_7 _ (List.mem_of_getElem? (i := 23) rfl))
theorem zm_234 (x : Cond) : (.instanceMethod yX11_state : Cond) ∈ x :: zW := List.mem_cons_of_mem _ (zWs_7 _ (List.mem_of_getElem? (i := 24) rfl))
theorem zm_235 (x : Cond) : (.selects RX11 yX11_state yX11_state : Cond) ∈ x :: zW := List.mem_cons_of_mem _ (zWs_7 _ (List.mem_of_getElem? (i := 25) rfl))
theorem zm_236 (x : Cond) : (.code yX11_written cX11_written 4 (some .int) : Cond) ∈ x :: zW := List.mem_cons_of_mem _ (zWs_7 _ (List.mem_of_getElem? (i := 26) rfl))
theorem zm_237 (x : Cond) : (.instanceMethod yX11_written : Cond) ∈ x :: zW := List.mem_cons_of_mem _ (zWs_7 _ (List.mem_of_getElem? (i := 27) rfl))
theorem zm_238 (x : Cond) : (.selects RX11 yX11_written yX11_written : Cond) ∈ x :: zW := List.mem_cons_of_mem _ (zWs_7 _ (List.mem_of_getElem? (i := 28) rfl))
theorem zm_239 (x : Cond) : (.code yX11_take cX11_take 4 (some .int) : Cond) ∈ x :: zW := List.mem_cons_of_mem _ (zWs_7 _ (List.mem_of_getElem? (i := 29) rfl))
theorem zm_240 (x : Cond) : (.instanceMethod yX11_take : Cond) ∈ x :: zW := List.mem_cons_of_mem _ (zWs_8 _ (List.mem_of_getElem? (i := 0) rfl))
theorem zm_241 (x : Cond) : (.selects RX11 yX11_take yX11_take : Cond) ∈ x :: zW := List.mem_cons_of_mem _ (zWs_8 _ (List.mem_of_getElem? (i := 1) rfl))
theorem zm_242 (x : Cond) : (.code yX11_code cX11_code 3 (some .int) : Cond) ∈ x :: zW := List.mem_cons_of_mem _ (zWs_8 _ (List.mem_of_getElem? (i := 2) rfl))
theorem zm_243 (x : Cond) : (.instanceMethod yX11_code : Cond) ∈ x :: zW := List.mem_cons_of_mem _ (zWs_8 _ (List.mem_of_getElem? (i := 3) rfl))
theorem zm_244 (x : Cond) : (.selects RX11 yX11_code yX11_code : Cond) ∈ x :: zW := List.mem_cons_of_mem _ (zWs_8 _ (List.mem_of_getElem? (i := 4) rfl))
theorem zm_245 (x : Cond) : (.code yX11_level cX11_level 6 (some .int) : Cond) ∈ x :: zW := List.mem_cons_of_mem _ (zWs_8 _ (List.mem_of_getElem? (i := 5) rfl))
theorem zm_246 (x : Cond) : (.instanceMethod yX11_level : Cond) ∈ x :: zW := List.mem_cons_of_mem _ (zWs_8 _ (List.mem_of_getElem? (i := 6) rfl))
theorem zm_247 (x : Cond) : (.selects RX11 yX11_level yX11_level : Cond) ∈ x :: zW := List.mem_cons_of_mem _ (zWs_8 _ (List.mem_of_getElem? (i := 7) rfl))
theorem zm_248 (x : Cond) : (.code yX11_look cX11_look 6 (some .int) : Cond) ∈ x :: zW := List.mem_cons_of_mem _ (zWs_8 _ (List.mem_of_getElem? (i := 8) rfl))
theorem zm_249 (x : Cond) : (.instanceMethod yX11_look : Cond) ∈ x :: zW := List.mem_cons_of_mem _ (zWs_8 _ (List.mem_of_getElem? (i := 9) rfl))
theorem zm_250 (x : Cond) : (.selects RX11 yX11_look yX11_look : Cond) ∈ x :: zW := List.mem_cons_of_mem _ (zWs_8 _ (List.mem_of_getElem? (i := 10) rfl))
theorem zm_251 (x : Cond) : (.code yX11_result cX11_result 2 (some .int) : Cond) ∈ x :: zW := List.mem_cons_of_mem _ (zWs_8 _ (List.mem_of_getElem? (i := 11) rfl))
theorem zm_252 (x : Cond) : (.instanceMethod yX11_result : Cond) ∈ x :: zW := List.mem_cons_of_mem _ (zWs_8 _ (List.mem_of_getElem? (i := 12) rfl))
theorem zm_253 (x : Cond) : (.selects RX11 yX11_result yX11_result : Cond) ∈ x :: zW := List.mem_cons_of_mem _ (zWs_8 _ (List.mem_of_getElem? (i := 13) rfl))
theorem zm_254 (x : Cond) : (.code yX11_lock cX11_lock 4 (some .int) : Cond) ∈ x :: zW := List.mem_cons_of_mem _ (zWs_8 _ (List.mem_of_getElem? (i := 14) rfl))
theorem zm_255 (x : Cond) : (.instanceMethod yX11_lock : Cond) ∈ x :: zW := List.mem_cons_of_mem _ (zWs_8 _ (List.mem_of_getElem? (i := 15) rfl))
theorem zm_256 (x : Cond) : (.selects RX11 yX11_lock yX11_lock : Cond) ∈ x :: zW := List.mem_cons_of_mem _ (zWs_8 _ (List.mem_of_getElem? (i := 16) rfl))
theorem zm_257 (x : Cond) : (.code yX11_count cX11_count 2 (some .int) : Cond) ∈ x :: zW := List.mem_cons_of_mem _ (zWs_8 _ (List.mem_of_getElem? (i := 17) rfl))
theorem zm_258 (x : Cond) : (.instanceMethod yX11_count : Cond) ∈ x :: zW := List.mem_cons_of_mem _ (zWs_8 _ (List.mem_of_getElem? (i := 18) rfl))
theorem zm_259 (x : Cond) : (.selects RX11 yX11_count yX11_count : Cond) ∈ x :: zW := List.mem_cons_of_mem _ (zWs_8 _ (List.mem_of_getElem? (i := 19) rfl))
theorem zm_260 (x : Cond) : (.code yX11_sound cX11_sound 1 (some .int) : Cond) ∈ x :: zW := List.mem_cons_of_mem _ (zWs_8 _ (List.mem_of_getElem? (i := 20) rfl))
theorem zm_261 (x : Cond) : (.instanceMethod yX11_sound : Cond) ∈ x :: zW := List.mem_cons_of_mem _ (zWs_8 _ (List.mem_of_getElem? (i := 21) rfl))
theorem zm_262 (x : Cond) : (.selects RX11 yX11_sound yX11_sound : Cond) ∈ x :: zW := List.mem_cons_of_mem _ (zWs_8 _ (List.mem_of_getElem? (i := 22) rfl))
theorem zm_263 (x : Cond) : (.code yX11_sync cX11_sync 1 (some .int) : Cond) ∈ x :: zW := List.mem_cons_of_mem _ (zWs_8 _ (List.mem_of_getElem? (i := 23) rfl))
theorem zm_264 (x : Cond) : (.instanceMethod yX11_sync : Cond) ∈ x :: zW := List.mem_cons_of_mem _ (zWs_8 _ (List.mem_of_getElem? (i := 24) rfl))
theorem zm_265 (x : Cond) : (.selects RX11 yX11_sync yX11_sync : Cond) ∈ x :: zW := List.mem_cons_of_mem _ (zWs_8 _ (List.mem_of_getElem? (i := 25) rfl))
theorem zm_266 (x : Cond) : (.code yX11_cut cX11_cut 3 (some .int) : Cond) ∈ x :: zW := List.mem_cons_of_mem _ (zWs_8 _ (List.mem_of_getElem? (i := 26) rfl))
theorem zm_267 (x : Cond) : (.instanceMethod yX11_cut : Cond) ∈ x :: zW := List.mem_cons_of_mem _ (zWs_8 _ (List.mem_of_getElem? (i := 27) rfl))
theorem zm_268 (x : Cond) : (.selects RX11 yX11_cut yX11_cut : Cond) ∈ x :: zW := List.mem_cons_of_mem _ (zWs_8 _ (List.mem_of_getElem? (i := 28) rfl))
theorem zm_269 (x : Cond) : (.code yX11_start cX11_start 8 (some .int) : Cond) ∈ x :: zW := List.mem_cons_of_mem _ (zWs_8 _ (List.mem_of_getElem? (i := 29) rfl))
theorem zm_270 (x : Cond) : (.instanceMethod yX11_start : Cond) ∈ x :: zW := List.mem_cons_of_mem _ (zWs_9 _ (List.mem_of_getElem? (i := 0) rfl))
theorem zm_271 (x : Cond) : (.selects RX11 yX11_start yX11_start : Cond) ∈ x :: zW := List.mem_cons_of_mem _ (zWs_9 _ (List.mem_of_getElem? (i := 1) rfl))
theorem zm_272 (x : Cond) : (.methodLink RX11 381 yX11_behindUnit : Cond) ∈ x :: zW := List.mem_cons_of_mem _ (zWs_9 _ (List.mem_of_getElem? (i := 2) rfl))
theorem zm_273 (x : Cond) : (.constant RX11 384 (99200) : Cond) ∈ x :: zW := List.mem_cons_of_mem _ (zWs_9 _ (List.mem_of_getElem? (i := 3) rfl))
theorem zm_274 (x : Cond) : (.methodLink RX11 389 Lib.Math.max.name : Cond) ∈ x :: zW := List.mem_cons_of_mem _ (zWs_9 _ (List.mem_of_getElem? (i := 4) rfl))
theorem zm_275 (x : Cond) : (.methodLink RX11 395 yX11_redo : Cond) ∈ x :: zW := List.mem_cons_of_mem _ (zWs_9 _ (List.mem_of_getElem? (i := 5) rfl))
theorem zm_276 (x : Cond) : (.code yX11_octet cX11_octet 3 (some .int) : Cond) ∈ x :: zW := List.mem_cons_of_mem _ (zWs_9 _ (List.mem_of_getElem? (i := 6) rfl))
theorem zm_277 (x : Cond) : (.instanceMethod yX11_octet : Cond) ∈ x :: zW := List.mem_cons_of_mem _ (zWs_9 _ (List.mem_of_getElem? (i := 7) rfl))
theorem zm_278 (x : Cond) : (.selects RX11 yX11_octet yX11_octet : Cond) ∈ x :: zW := List.mem_cons_of_mem _ (zWs_9 _ (List.mem_of_getElem? (i := 8) rfl))
theorem zm_279 (x : Cond) : (.code yX11_poke cX11_poke 6 (some .int) : Cond) ∈ x :: zW := List.mem_cons_of_mem _ (zWs_9 _ (List.mem_of_getElem? (i := 9) rfl))
theorem zm_280 (x : Cond) : (.instanceMethod yX11_poke : Cond) ∈ x :: zW := List.mem_cons_of_mem _ (zWs_9 _ (List.mem_of_getElem? (i := 10) rfl))
theorem zm_281 (x : Cond) : (.selects RX11 yX11_poke yX11_poke : Cond) ∈ x :: zW := List.mem_cons_of_mem _ (zWs_9 _ (List.mem_of_getElem? (i := 11) rfl))
theorem zm_282 (x : Cond) : (.code yX11_verify cX11_verify 2 (some .int) : Cond) ∈ x :: zW := List.mem_cons_of_mem _ (zWs_9 _ (List.mem_of_getElem? (i := 12) rfl))
theorem zm_283 (x : Cond) : (.instanceMethod yX11_verify : Cond) ∈ x :: zW := List.mem_cons_of_mem _ (zWs_9 _ (List.mem_of_getElem? (i := 13) rfl))
theorem zm_284 (x : Cond) : (.selects RX11 yX11_verify yX11_verify : Cond) ∈ x :: zW := List.mem_cons_of_mem _ (zWs_9 _ (List.mem_of_getElem? (i := 14) rfl))
theorem zm_285 (x : Cond) : (.code yX2_proc cX2_proc 2 (some (.object "MumpsHouse$Proc")) : Cond) ∈ x :: zW := List.mem_cons_of_mem _ (zWs_9 _ (List.mem_of_getElem? (i := 15) rfl))
theorem zm_286 (x : Cond) : (.instanceMethod yX2_proc : Cond) ∈ x :: zW := List.mem_cons_of_mem _ (zWs_9 _ (List.mem_of_getElem? (i := 16) rfl))
theorem zm_287 (x : Cond) : (.selects RX2 yX2_proc yX2_proc : Cond) ∈ x :: zW := List.mem_cons_of_mem _ (zWs_9 _ (List.mem_of_getElem? (i := 17) rfl))
theorem zm_288 (x : Cond) : (.fieldLink RX2 90 "MumpsHouse$Machine" "procCount" "I" : Cond) ∈ x :: zW := List.mem_cons_of_mem _ (zWs_9 _ (List.mem_of_getElem? (i := 18) rfl))
theorem zm_289 (x : Cond) : (.code yX2_living cX2_living 3 (some (.object "MumpsHouse$Proc")) : Cond) ∈ x :: zW := List.mem_cons_of_mem _ (zWs_9 _ (List.mem_of_getElem? (i := 19) rfl))
theorem zm_290 (x : Cond) : (.instanceMethod yX2_living : Cond) ∈ x :: zW := List.mem_cons_of_mem _ (zWs_9 _ (List.mem_of_getElem? (i := 20) rfl))
theorem zm_291 (x : Cond) : (.selects RX2 yX2_living yX2_living : Cond) ∈ x :: zW := List.mem_cons_of_mem _ (zWs_9 _ (List.mem_of_getElem? (i := 21) rfl))
theorem zm_292 (x : Cond) : (.methodLink RX2 105 yX2_proc : Cond) ∈ x :: zW := List.mem_cons_of_mem _ (zWs_9 _ (List.mem_of_getElem? (i := 22) rfl))
theorem zm_293 (x : Cond) : (.code yX2_livingCount cX2_livingCount 3 (some .int) : Cond) ∈ x :: zW := List.mem_cons_of_mem _ (zWs_9 _ (List.mem_of_getElem? (i := 23) rfl))
theorem zm_294 (x : Cond) : (.instanceMethod yX2_livingCount : Cond) ∈ x :: zW := List.mem_cons_of_mem _ (zWs_9 _ (List.mem_of_getElem? (i := 24) rfl))
theorem zm_295 (x : Cond) : (.selects RX2 yX2_livingCount yX2_livingCount : Cond) ∈ x :: zW := List.mem_cons_of_mem _ (zWs_9 _ (List.mem_of_getElem? (i := 25) rfl))
theorem zm_296 (x : Cond) : (.methodLink RX2 108 yX2_living : Cond) ∈ x :: zW := List.mem_cons_of_mem _ (zWs_9 _ (List.mem_of_getElem? (i := 26) rfl))
theorem zm_297 (x : Cond) : (.code yX2_choose cX2_choose 6 (some .int) : Cond) ∈ x :: zW := List.mem_cons_of_mem _ (zWs_9 _ (List.mem_of_getElem? (i := 27) rfl))
theorem zm_298 (x : Cond) : (.instanceMethod yX2_choose : Cond) ∈ x :: zW := List.mem_cons_of_mem _ (zWs_9 _ (List.mem_of_getElem? (i := 28) rfl))
theorem zm_299 (x : Cond) : (.selects RX2 yX2_choose yX2_choose : Cond) ∈ x :: zW := List.mem_cons_of_mem _ (zWs_9 _ (List.mem_of_getElem? (i := 29) rfl))
theorem zm_300 (x : Cond) : (.methodLink RX2 124 yX2_livingCount : Cond) ∈ x :: zW := List.mem_cons_of_mem _ (zWs_10 _ (List.mem_of_getElem? (i := 0) rfl))
theorem zm_301 (x : Cond) : (.fieldLink RX2 100 "MumpsHouse$Machine" "proc" "LMumpsHouse$Proc;" : Cond) ∈ x :: zW := List.mem_cons_of_mem _ (zWs_10 _ (List.mem_of_getElem? (i := 1) rfl))
theorem zm_302 (x : Cond) : (.fieldLink RX2 104 "MumpsHouse$Machine" "work" "LMumpsHouse$Work;" : Cond) ∈ x :: zW := List.mem_cons_of_mem _ (zWs_10 _ (List.mem_of_getElem? (i := 2) rfl))
theorem zm_303 (x : Cond) : (.fieldLink RX2 121 "MumpsHouse$Machine" "error" "I" : Cond) ∈ x :: zW := List.mem_cons_of_mem _ (zWs_10 _ (List.mem_of_getElem? (i := 3) rfl))
theorem zm_304 (x : Cond) : (.fieldLink RX2 148 "MumpsHouse$Machine" "begun" "Z" : Cond) ∈ x :: zW := List.mem_cons_of_mem _ (zWs_10 _ (List.mem_of_getElem? (i := 4) rfl))
theorem zm_305 (x : Cond) : (.methodLink RX2 152 yX2_ready : Cond) ∈ x :: zW := List.mem_cons_of_mem _ (zWs_10 _ (List.mem_of_getElem? (i := 5) rfl))
theorem zm_306 (x : Cond) : (.code yX2_create cX2_create 4 (some (.object "MumpsHouse$Proc")) : Cond) ∈ x :: zW := List.mem_cons_of_mem _ (zWs_10 _ (List.mem_of_getElem? (i := 6) rfl))
theorem zm_307 (x : Cond) : (.instanceMethod yX2_create : Cond) ∈ x :: zW := List.mem_cons_of_mem _ (zWs_10 _ (List.mem_of_getElem? (i := 7) rfl))
theorem zm_308 (x : Cond) : (.selects RX2 yX2_create yX2_create : Cond) ∈ x :: zW := List.mem_cons_of_mem _ (zWs_10 _ (List.mem_of_getElem? (i := 8) rfl))
theorem zm_309 (x : Cond) : (.methodLink RX2 111 yX2_isBusy : Cond) ∈ x :: zW := List.mem_cons_of_mem _ (zWs_10 _ (List.mem_of_getElem? (i := 9) rfl))
theorem zm_310 (x : Cond) : (.code yX2_isBusy cX2_isBusy 4 (some .boolean) : Cond) ∈ x :: zW := List.mem_cons_of_mem _ (zWs_10 _ (List.mem_of_getElem? (i := 10) rfl))
theorem zm_311 (x : Cond) : (.instanceMethod yX2_isBusy : Cond) ∈ x :: zW := List.mem_cons_of_mem _ (zWs_10 _ (List.mem_of_getElem? (i := 11) rfl))
theorem zm_312 (x : Cond) : (.selects RX2 yX2_isBusy yX2_isBusy : Cond) ∈ x :: zW := List.mem_cons_of_mem _ (zWs_10 _ (List.mem_of_getElem? (i := 12) rfl))
theorem zm_313 (x : Cond) : (.code yX2_beginProcess cX2_beginProcess 4 (some (.object "MumpsHouse$Proc")) : Cond) ∈ x :: zW := List.mem_cons_of_mem _ (zWs_10 _ (List.mem_of_getElem? (i := 13) rfl))
theorem zm_314 (x : Cond) : (.instanceMethod yX2_beginProcess : Cond) ∈ x :: zW := List.mem_cons_of_mem _ (zWs_10 _ (List.mem_of_getElem? (i := 14) rfl))
theorem zm_315 (x : Cond) : (.selects RX2 yX2_beginProcess yX2_beginProcess : Cond) ∈ x :: zW := List.mem_cons_of_mem _ (zWs_10 _ (List.mem_of_getElem? (i := 15) rfl))
theorem zm_316 (x : Cond) : (.methodLink RX2 782 yX2_create : Cond) ∈ x :: zW := List.mem_cons_of_mem _ (zWs_10 _ (List.mem_of_getElem? (i := 16) rfl))
theorem zm_317 (x : Cond) : (.code yX10_begin cX10_begin 1 none : Cond) ∈ x :: zW := List.mem_cons_of_mem _ (zWs_10 _ (List.mem_of_getElem? (i := 17) rfl))
theorem zm_318 (x : Cond) : (.instanceMethod yX10_begin : Cond) ∈ x :: zW := List.mem_cons_of_mem _ (zWs_10 _ (List.mem_of_getElem? (i := 18) rfl))
theorem zm_319 (x : Cond) : (.selects RX10 yX10_begin yX10_begin : Cond) ∈ x :: zW := List.mem_cons_of_mem _ (zWs_10 _ (List.mem_of_getElem? (i := 19) rfl))
theorem zm_320 (x : Cond) : (.fieldLink RX10 90 "MumpsHouse$Work" "stringCount" "I" : Cond) ∈ x :: zW := List.mem_cons_of_mem _ (zWs_10 _ (List.mem_of_getElem? (i := 20) rfl))
theorem zm_321 (x : Cond) : (.fieldLink RX10 93 "MumpsHouse$Work" "nodeCount" "I" : Cond) ∈ x :: zW := List.mem_cons_of_mem _ (zWs_10 _ (List.mem_of_getElem? (i := 21) rfl))
theorem zm_322 (x : Cond) : (.fieldLink RX10 96 "MumpsHouse$Work" "levelCount" "I" : Cond) ∈ x :: zW := List.mem_cons_of_mem _ (zWs_10 _ (List.mem_of_getElem? (i := 22) rfl))
theorem zm_323 (x : Cond) : (.fieldLink RX10 99 "MumpsHouse$Work" "atCount" "I" : Cond) ∈ x :: zW := List.mem_cons_of_mem _ (zWs_10 _ (List.mem_of_getElem? (i := 23) rfl))
theorem zm_324 (x : Cond) : (.fieldLink RX10 102 "MumpsHouse$Work" "loopCount" "I" : Cond) ∈ x :: zW := List.mem_cons_of_mem _ (zWs_10 _ (List.mem_of_getElem? (i := 24) rfl))
theorem zm_325 (x : Cond) : (.fieldLink RX10 105 "MumpsHouse$Work" "toldCount" "I" : Cond) ∈ x :: zW := List.mem_cons_of_mem _ (zWs_10 _ (List.mem_of_getElem? (i := 25) rfl))
theorem zm_326 (x : Cond) : (.code yX7_begin cX7_begin 1 none : Cond) ∈ x :: zW := List.mem_cons_of_mem _ (zWs_10 _ (List.mem_of_getElem? (i := 26) rfl))
theorem zm_327 (x : Cond) : (.instanceMethod yX7_begin : Cond) ∈ x :: zW := List.mem_cons_of_mem _ (zWs_10 _ (List.mem_of_getElem? (i := 27) rfl))
theorem zm_328 (x : Cond) : (.selects RX7 yX7_begin yX7_begin : Cond) ∈ x :: zW := List.mem_cons_of_mem _ (zWs_10 _ (List.mem_of_getElem? (i := 28) rfl))
theorem zm_329 (x : Cond) : (.fieldLink RX7 46 "MumpsHouse$Scope" "count" "I" : Cond) ∈ x :: zW := List.mem_cons_of_mem _ (zWs_10 _ (List.mem_of_getElem? (i := 29) rfl))
theorem zm_330 (x : Cond) : (.fieldLink RX7 50 "MumpsHouse$Scope" "hiddenCount" "I" : Cond) ∈ x :: zW := List.mem_cons_of_mem _ (zWs_11 _ (List.mem_of_getElem? (i := 0) rfl))
theorem zm_331 (x : Cond) : (.fieldLink RX7 53 "MumpsHouse$Scope" "keptCount" "I" : Cond) ∈ x :: zW := List.mem_cons_of_mem _ (zWs_11 _ (List.mem_of_getElem? (i := 1) rfl))
theorem zm_332 (x : Cond) : (.fieldLink RX7 56 "MumpsHouse$Scope" "copyCount" "I" : Cond) ∈ x :: zW := List.mem_cons_of_mem _ (zWs_11 _ (List.mem_of_getElem? (i := 2) rfl))
theorem zm_333 (x : Cond) : (.fieldLink RX7 62 "MumpsHouse$Scope" "loops" "I" : Cond) ∈ x :: zW := List.mem_cons_of_mem _ (zWs_11 _ (List.mem_of_getElem? (i := 3) rfl))
theorem zm_334 (x : Cond) : (.fieldLink RX7 65 "MumpsHouse$Scope" "level" "I" : Cond) ∈ x :: zW := List.mem_cons_of_mem _ (zWs_11 _ (List.mem_of_getElem? (i := 4) rfl))
theorem zm_335 (x : Cond) : (.fieldLink RX7 68 "MumpsHouse$Scope" "gone" "I" : Cond) ∈ x :: zW := List.mem_cons_of_mem _ (zWs_11 _ (List.mem_of_getElem? (i := 5) rfl))
theorem zm_336 (x : Cond) : (.fieldLink RX7 71 "MumpsHouse$Scope" "restartable" "Z" : Cond) ∈ x :: zW := List.mem_cons_of_mem _ (zWs_11 _ (List.mem_of_getElem? (i := 6) rfl))
theorem zm_337 (x : Cond) : (.fieldLink RX7 75 "MumpsHouse$Scope" "text" "LMumpsHouse$Text;" : Cond) ∈ x :: zW := List.mem_cons_of_mem _ (zWs_11 _ (List.mem_of_getElem? (i := 7) rfl))
theorem zm_338 (x : Cond) : (.code yX3_begin cX3_begin 4 none : Cond) ∈ x :: zW := List.mem_cons_of_mem _ (zWs_11 _ (List.mem_of_getElem? (i := 8) rfl))
theorem zm_339 (x : Cond) : (.instanceMethod yX3_begin : Cond) ∈ x :: zW := List.mem_cons_of_mem _ (zWs_11 _ (List.mem_of_getElem? (i := 9) rfl))
theorem zm_340 (x : Cond) : (.selects RX3 yX3_begin yX3_begin : Cond) ∈ x :: zW := List.mem_cons_of_mem _ (zWs_11 _ (List.mem_of_getElem? (i := 10) rfl))
theorem zm_341 (x : Cond) : (.fieldLink RX3 16 "MumpsHouse$Node" "kind" "I" : Cond) ∈ x :: zW := List.mem_cons_of_mem _ (zWs_11 _ (List.mem_of_getElem? (i := 11) rfl))
theorem zm_342 (x : Cond) : (.fieldLink RX3 20 "MumpsHouse$Node" "name" "J" : Cond) ∈ x :: zW := List.mem_cons_of_mem _ (zWs_11 _ (List.mem_of_getElem? (i := 12) rfl))
theorem zm_343 (x : Cond) : (.fieldLink RX3 24 "MumpsHouse$Node" "length" "I" : Cond) ∈ x :: zW := List.mem_cons_of_mem _ (zWs_11 _ (List.mem_of_getElem? (i := 13) rfl))
theorem zm_344 (x : Cond) : (.fieldLink RX3 27 "MumpsHouse$Node" "subscripts" "I" : Cond) ∈ x :: zW := List.mem_cons_of_mem _ (zWs_11 _ (List.mem_of_getElem? (i := 14) rfl))
theorem zm_345 (x : Cond) : (.fieldLink RX3 30 "MumpsHouse$Node" "owner" "I" : Cond) ∈ x :: zW := List.mem_cons_of_mem _ (zWs_11 _ (List.mem_of_getElem? (i := 15) rfl))
theorem zm_346 (x : Cond) : (.fieldLink RX3 33 "MumpsHouse$Node" "times" "I" : Cond) ∈ x :: zW := List.mem_cons_of_mem _ (zWs_11 _ (List.mem_of_getElem? (i := 16) rfl))
theorem zm_347 (x : Cond) : (.fieldLink RX3 36 "MumpsHouse$Node" "bad" "Z" : Cond) ∈ x :: zW := List.mem_cons_of_mem _ (zWs_11 _ (List.mem_of_getElem? (i := 17) rfl))
theorem zm_348 (x : Cond) : (.fieldLink RX3 40 "MumpsHouse$Node" "lastEmpty" "Z" : Cond) ∈ x :: zW := List.mem_cons_of_mem _ (zWs_11 _ (List.mem_of_getElem? (i := 18) rfl))
theorem zm_349 (x : Cond) : (.code yX5_begin cX5_begin 3 none : Cond) ∈ x :: zW := List.mem_cons_of_mem _ (zWs_11 _ (List.mem_of_getElem? (i := 19) rfl))
theorem zm_350 (x : Cond) : (.instanceMethod yX5_begin : Cond) ∈ x :: zW := List.mem_cons_of_mem _ (zWs_11 _ (List.mem_of_getElem? (i := 20) rfl))
theorem zm_351 (x : Cond) : (.selects RX5 yX5_begin yX5_begin : Cond) ∈ x :: zW := List.mem_cons_of_mem _ (zWs_11 _ (List.mem_of_getElem? (i := 21) rfl))
theorem zm_352 (x : Cond) : (.fieldLink RX5 24 "MumpsHouse$Proc" "number" "I" : Cond) ∈ x :: zW := List.mem_cons_of_mem _ (zWs_11 _ (List.mem_of_getElem? (i := 22) rfl))
theorem zm_353 (x : Cond) : (.fieldLink RX5 28 "MumpsHouse$Proc" "work" "LMumpsHouse$Work;" : Cond) ∈ x :: zW := List.mem_cons_of_mem _ (zWs_11 _ (List.mem_of_getElem? (i := 23) rfl))
theorem zm_354 (x : Cond) : (.fieldLink RX5 32 "MumpsHouse$Proc" "status" "I" : Cond) ∈ x :: zW := List.mem_cons_of_mem _ (zWs_11 _ (List.mem_of_getElem? (i := 24) rfl))
theorem zm_355 (x : Cond) : (.fieldLink RX5 35 "MumpsHouse$Proc" "wait" "I" : Cond) ∈ x :: zW := List.mem_cons_of_mem _ (zWs_11 _ (List.mem_of_getElem? (i := 25) rfl))
theorem zm_356 (x : Cond) : (.fieldLink RX5 38 "MumpsHouse$Proc" "deadline" "J" : Cond) ∈ x :: zW := List.mem_cons_of_mem _ (zWs_11 _ (List.mem_of_getElem? (i := 26) rfl))
theorem zm_357 (x : Cond) : (.fieldLink RX5 42 "MumpsHouse$Proc" "test" "I" : Cond) ∈ x :: zW := List.mem_cons_of_mem _ (zWs_11 _ (List.mem_of_getElem? (i := 27) rfl))
theorem zm_358 (x : Cond) : (.fieldLink RX5 45 "MumpsHouse$Proc" "depth" "I" : Cond) ∈ x :: zW := List.mem_cons_of_mem _ (zWs_11 _ (List.mem_of_getElem? (i := 28) rfl))
theorem zm_359 (x : Cond) : (.fieldLink RX5 48 "MumpsHouse$Proc" "restarts" "I" : Cond) ∈ x :: zW := List.mem_cons_of_mem _ (zWs_11 _ (List.mem_of_getElem? (i := 29) rfl))
theorem zm_360 (x : Cond) : (.fieldLink RX5 51 "MumpsHouse$Proc" "x" "I" : Cond) ∈ x :: zW := List.mem_cons_of_mem _ (zWs_12 _ (List.mem_of_getElem? (i := 0) rfl))
theorem zm_361 (x : Cond) : (.fieldLink RX5 54 "MumpsHouse$Proc" "y" "I" : Cond) ∈ x :: zW := List.mem_cons_of_mem _ (zWs_12 _ (List.mem_of_getElem? (i := 1) rfl))
theorem zm_362 (x : Cond) : (.fieldLink RX5 57 "MumpsHouse$Proc" "began" "I" : Cond) ∈ x :: zW := List.mem_cons_of_mem _ (zWs_12 _ (List.mem_of_getElem? (i := 2) rfl))
theorem zm_363 (x : Cond) : (.fieldLink RX5 60 "MumpsHouse$Proc" "stream" "J" : Cond) ∈ x :: zW := List.mem_cons_of_mem _ (zWs_12 _ (List.mem_of_getElem? (i := 3) rfl))
theorem zm_364 (x : Cond) : (.code yX10_pushLevel cX10_pushLevel 5 (some (.object "MumpsHouse$Level")) : Cond) ∈ x :: zW := List.mem_cons_of_mem _ (zWs_12 _ (List.mem_of_getElem? (i := 4) rfl))
theorem zm_365 (x : Cond) : (.instanceMethod yX10_pushLevel : Cond) ∈ x :: zW := List.mem_cons_of_mem _ (zWs_12 _ (List.mem_of_getElem? (i := 5) rfl))
theorem zm_366 (x : Cond) : (.selects RX10 yX10_pushLevel yX10_pushLevel : Cond) ∈ x :: zW := List.mem_cons_of_mem _ (zWs_12 _ (List.mem_of_getElem? (i := 6) rfl))
theorem zm_367 (x : Cond) : (.methodLink RX10 127 yX10_top : Cond) ∈ x :: zW := List.mem_cons_of_mem _ (zWs_12 _ (List.mem_of_getElem? (i := 7) rfl))
theorem zm_368 (x : Cond) : (.fieldLink RX10 134 "MumpsHouse$Work" "text" "LMumpsHouse$Text;" : Cond) ∈ x :: zW := List.mem_cons_of_mem _ (zWs_12 _ (List.mem_of_getElem? (i := 8) rfl))
theorem zm_369 (x : Cond) : (.fieldLink RX10 165 "MumpsHouse$Work" "place" "I" : Cond) ∈ x :: zW := List.mem_cons_of_mem _ (zWs_12 _ (List.mem_of_getElem? (i := 9) rfl))
theorem zm_370 (x : Cond) : (.code yX10_top cX10_top 1 (some (.object "MumpsHouse$Level")) : Cond) ∈ x :: zW := List.mem_cons_of_mem _ (zWs_12 _ (List.mem_of_getElem? (i := 10) rfl))
theorem zm_371 (x : Cond) : (.instanceMethod yX10_top : Cond) ∈ x :: zW := List.mem_cons_of_mem _ (zWs_12 _ (List.mem_of_getElem? (i := 11) rfl))
theorem zm_372 (x : Cond) : (.selects RX10 yX10_top yX10_top : Cond) ∈ x :: zW := List.mem_cons_of_mem _ (zWs_12 _ (List.mem_of_getElem? (i := 12) rfl))
theorem zm_373 (x : Cond) : (.methodLink RX10 114 yX10_levelAt : Cond) ∈ x :: zW := List.mem_cons_of_mem _ (zWs_12 _ (List.mem_of_getElem? (i := 13) rfl))
theorem zm_374 (x : Cond) : (.code yX10_levelAt cX10_levelAt 2 (some (.object "MumpsHouse$Level")) : Cond) ∈ x :: zW := List.mem_cons_of_mem _ (zWs_12 _ (List.mem_of_getElem? (i := 14) rfl))
theorem zm_375 (x : Cond) : (.instanceMethod yX10_levelAt : Cond) ∈ x :: zW := List.mem_cons_of_mem _ (zWs_12 _ (List.mem_of_getElem? (i := 15) rfl))
theorem zm_376 (x : Cond) : (.selects RX10 yX10_levelAt yX10_levelAt : Cond) ∈ x :: zW := List.mem_cons_of_mem _ (zWs_12 _ (List.mem_of_getElem? (i := 16) rfl))
theorem zm_377 (x : Cond) : (.code yX8_load cX8_load 4 (some .boolean) : Cond) ∈ x :: zW := List.mem_cons_of_mem _ (zWs_12 _ (List.mem_of_getElem? (i := 17) rfl))
theorem zm_378 (x : Cond) : (.instanceMethod yX8_load : Cond) ∈ x :: zW := List.mem_cons_of_mem _ (zWs_12 _ (List.mem_of_getElem? (i := 18) rfl))
theorem zm_379 (x : Cond) : (.selects RX8 yX8_load yX8_load : Cond) ∈ x :: zW := List.mem_cons_of_mem _ (zWs_12 _ (List.mem_of_getElem? (i := 19) rfl))
theorem zm_380 (x : Cond) : (.methodLink RX8 41 arraycopyName : Cond) ∈ x :: zW := List.mem_cons_of_mem _ (zWs_12 _ (List.mem_of_getElem? (i := 20) rfl))
theorem zm_381 (x : Cond) : (.fieldLink RX8 47 "MumpsHouse$Text" "length" "I" : Cond) ∈ x :: zW := List.mem_cons_of_mem _ (zWs_12 _ (List.mem_of_getElem? (i := 21) rfl))
theorem zm_382 (x : Cond) : (.fieldLink RX8 51 "MumpsHouse$Text" "name" "J" : Cond) ∈ x :: zW := List.mem_cons_of_mem _ (zWs_12 _ (List.mem_of_getElem? (i := 22) rfl))
theorem zm_383 (x : Cond) : (.code yX8_readPiece cX8_readPiece 2 (some .boolean) : Cond) ∈ x :: zW := List.mem_cons_of_mem _ (zWs_12 _ (List.mem_of_getElem? (i := 23) rfl))
theorem zm_384 (x : Cond) : (.instanceMethod yX8_readPiece : Cond) ∈ x :: zW := List.mem_cons_of_mem _ (zWs_12 _ (List.mem_of_getElem? (i := 24) rfl))
theorem zm_385 (x : Cond) : (.selects RX8 yX8_readPiece yX8_readPiece : Cond) ∈ x :: zW := List.mem_cons_of_mem _ (zWs_12 _ (List.mem_of_getElem? (i := 25) rfl))
theorem zm_386 (x : Cond) : (.methodLink RX8 145 yX8_begin : Cond) ∈ x :: zW := List.mem_cons_of_mem _ (zWs_12 _ (List.mem_of_getElem? (i := 26) rfl))
theorem zm_387 (x : Cond) : (.methodLink RX8 104 yX8_beginLine : Cond) ∈ x :: zW := List.mem_cons_of_mem _ (zWs_12 _ (List.mem_of_getElem? (i := 27) rfl))
theorem zm_388 (x : Cond) : (.methodLink RX8 136 yX8_commands : Cond) ∈ x :: zW := List.mem_cons_of_mem _ (zWs_12 _ (List.mem_of_getElem? (i := 28) rfl))
theorem zm_389 (x : Cond) : (.methodLink RX8 149 yX8_reference : Cond) ∈ x :: zW := List.mem_cons_of_mem _ (zWs_12 _ (List.mem_of_getElem? (i := 29) rfl))
theorem zm_390 (x : Cond) : (.methodLink RX8 100 yX8_peek : Cond) ∈ x :: zW := List.mem_cons_of_mem _ (zWs_13 _ (List.mem_of_getElem? (i := 0) rfl))
theorem zm_391 (x : Cond) : (.methodLink RX8 96 yX8_failAt : Cond) ∈ x :: zW := List.mem_cons_of_mem _ (zWs_13 _ (List.mem_of_getElem? (i := 1) rfl))
theorem zm_392 (x : Cond) : (.methodLink RX8 152 yX8_pattern : Cond) ∈ x :: zW := List.mem_cons_of_mem _ (zWs_13 _ (List.mem_of_getElem? (i := 2) rfl))
theorem zm_393 (x : Cond) : (.methodLink RX8 156 yX8_emit : Cond) ∈ x :: zW := List.mem_cons_of_mem _ (zWs_13 _ (List.mem_of_getElem? (i := 3) rfl))
theorem zm_394 (x : Cond) : (.methodLink RX8 159 yX8_arguments : Cond) ∈ x :: zW := List.mem_cons_of_mem _ (zWs_13 _ (List.mem_of_getElem? (i := 4) rfl))
theorem zm_395 (x : Cond) : (.fieldLink RX8 86 "MumpsHouse$Text" "at" "I" : Cond) ∈ x :: zW := List.mem_cons_of_mem _ (zWs_13 _ (List.mem_of_getElem? (i := 5) rfl))
theorem zm_396 (x : Cond) : (.fieldLink RX8 89 "MumpsHouse$Text" "fault" "I" : Cond) ∈ x :: zW := List.mem_cons_of_mem _ (zWs_13 _ (List.mem_of_getElem? (i := 6) rfl))
theorem zm_397 (x : Cond) : (.code yX8_begin cX8_begin 2 none : Cond) ∈ x :: zW := List.mem_cons_of_mem _ (zWs_13 _ (List.mem_of_getElem? (i := 7) rfl))
theorem zm_398 (x : Cond) : (.instanceMethod yX8_begin : Cond) ∈ x :: zW := List.mem_cons_of_mem _ (zWs_13 _ (List.mem_of_getElem? (i := 8) rfl))
theorem zm_399 (x : Cond) : (.selects RX8 yX8_begin yX8_begin : Cond) ∈ x :: zW := List.mem_cons_of_mem _ (zWs_13 _ (List.mem_of_getElem? (i := 9) rfl))
theorem zm_400 (x : Cond) : (.fieldLink RX8 55 "MumpsHouse$Text" "codeLength" "I" : Cond) ∈ x :: zW := List.mem_cons_of_mem _ (zWs_13 _ (List.mem_of_getElem? (i := 10) rfl))
theorem zm_401 (x : Cond) : (.fieldLink RX8 58 "MumpsHouse$Text" "lines" "I" : Cond) ∈ x :: zW := List.mem_cons_of_mem _ (zWs_13 _ (List.mem_of_getElem? (i := 11) rfl))
theorem zm_402 (x : Cond) : (.fieldLink RX8 92 "MumpsHouse$Text" "lined" "Z" : Cond) ∈ x :: zW := List.mem_cons_of_mem _ (zWs_13 _ (List.mem_of_getElem? (i := 12) rfl))
theorem zm_403 (x : Cond) : (.code yX8_beginLine cX8_beginLine 2 none : Cond) ∈ x :: zW := List.mem_cons_of_mem _ (zWs_13 _ (List.mem_of_getElem? (i := 13) rfl))
theorem zm_404 (x : Cond) : (.instanceMethod yX8_beginLine : Cond) ∈ x :: zW := List.mem_cons_of_mem _ (zWs_13 _ (List.mem_of_getElem? (i := 14) rfl))
theorem zm_405 (x : Cond) : (.selects RX8 yX8_beginLine yX8_beginLine : Cond) ∈ x :: zW := List.mem_cons_of_mem _ (zWs_13 _ (List.mem_of_getElem? (i := 15) rfl))
theorem zm_406 (x : Cond) : (.code yX8_commands cX8_commands 7 none : Cond) ∈ x :: zW := List.mem_cons_of_mem _ (zWs_13 _ (List.mem_of_getElem? (i := 16) rfl))
theorem zm_407 (x : Cond) : (.instanceMethod yX8_commands : Cond) ∈ x :: zW := List.mem_cons_of_mem _ (zWs_13 _ (List.mem_of_getElem? (i := 17) rfl))
theorem zm_408 (x : Cond) : (.selects RX8 yX8_commands yX8_commands : Cond) ∈ x :: zW := List.mem_cons_of_mem _ (zWs_13 _ (List.mem_of_getElem? (i := 18) rfl))
theorem zm_409 (x : Cond) : (.methodLink RX8 126 yX8_lineEnds : Cond) ∈ x :: zW := List.mem_cons_of_mem _ (zWs_13 _ (List.mem_of_getElem? (i := 19) rfl))
theorem zm_410 (x : Cond) : (.methodLink RX8 175 yX8_longest : Cond) ∈ x :: zW := List.mem_cons_of_mem _ (zWs_13 _ (List.mem_of_getElem? (i := 20) rfl))
theorem zm_411 (x : Cond) : (.fieldLink RX8 162 "MumpsHouse$Text" "found" "I" : Cond) ∈ x :: zW := List.mem_cons_of_mem _ (zWs_13 _ (List.mem_of_getElem? (i := 21) rfl))
theorem zm_412 (x : Cond) : (.methodLink RX8 179 yX8_expression : Cond) ∈ x :: zW := List.mem_cons_of_mem _ (zWs_13 _ (List.mem_of_getElem? (i := 22) rfl))
theorem zm_413 (x : Cond) : (.methodLink RX8 83 yX8_byteAt : Cond) ∈ x :: zW := List.mem_cons_of_mem _ (zWs_13 _ (List.mem_of_getElem? (i := 23) rfl))
theorem zm_414 (x : Cond) : (.methodLink RX8 182 yX8_mayBeBare : Cond) ∈ x :: zW := List.mem_cons_of_mem _ (zWs_13 _ (List.mem_of_getElem? (i := 24) rfl))
theorem zm_415 (x : Cond) : (.methodLink RX8 185 yX8_emitBare : Cond) ∈ x :: zW := List.mem_cons_of_mem _ (zWs_13 _ (List.mem_of_getElem? (i := 25) rfl))
theorem zm_416 (x : Cond) : (.methodLink RX8 142 yX8_expect : Cond) ∈ x :: zW := List.mem_cons_of_mem _ (zWs_13 _ (List.mem_of_getElem? (i := 26) rfl))
theorem zm_417 (x : Cond) : (.methodLink RX8 188 yX8_mayHaveArguments : Cond) ∈ x :: zW := List.mem_cons_of_mem _ (zWs_13 _ (List.mem_of_getElem? (i := 27) rfl))
theorem zm_418 (x : Cond) : (.methodLink RX8 130 yX8_skipBlanks : Cond) ∈ x :: zW := List.mem_cons_of_mem _ (zWs_13 _ (List.mem_of_getElem? (i := 28) rfl))
theorem zm_419 (x : Cond) : (.methodLink RX8 191 yX8_patch : Cond) ∈ x :: zW := List.mem_cons_of_mem _ (zWs_13 _ (List.mem_of_getElem? (i := 29) rfl))
theorem zm_420 (x : Cond) : (.code yX8_lineEnds cX8_lineEnds 1 (some .boolean) : Cond) ∈ x :: zW := List.mem_cons_of_mem _ (zWs_14 _ (List.mem_of_getElem? (i := 0) rfl))
theorem zm_421 (x : Cond) : (.instanceMethod yX8_lineEnds : Cond) ∈ x :: zW := List.mem_cons_of_mem _ (zWs_14 _ (List.mem_of_getElem? (i := 1) rfl))
theorem zm_422 (x : Cond) : (.selects RX8 yX8_lineEnds yX8_lineEnds : Cond) ∈ x :: zW := List.mem_cons_of_mem _ (zWs_14 _ (List.mem_of_getElem? (i := 2) rfl))
theorem zm_423 (x : Cond) : (.code yX8_emit cX8_emit 3 none : Cond) ∈ x :: zW := List.mem_cons_of_mem _ (zWs_14 _ (List.mem_of_getElem? (i := 3) rfl))
theorem zm_424 (x : Cond) : (.instanceMethod yX8_emit : Cond) ∈ x :: zW := List.mem_cons_of_mem _ (zWs_14 _ (List.mem_of_getElem? (i := 4) rfl))
theorem zm_425 (x : Cond) : (.selects RX8 yX8_emit yX8_emit : Cond) ∈ x :: zW := List.mem_cons_of_mem _ (zWs_14 _ (List.mem_of_getElem? (i := 5) rfl))
theorem zm_426 (x : Cond) : (.code yX0_lockAt cX0_lockAt 8 (some (.object "MumpsHouse$Node")) : Cond) ∈ x :: zW := List.mem_cons_of_mem _ (zWs_14 _ (List.mem_of_getElem? (i := 6) rfl))
theorem zm_427 (x : Cond) : (.instanceMethod yX0_lockAt : Cond) ∈ x :: zW := List.mem_cons_of_mem _ (zWs_14 _ (List.mem_of_getElem? (i := 7) rfl))
theorem zm_428 (x : Cond) : (.selects RX0 yX0_lockAt yX0_lockAt : Cond) ∈ x :: zW := List.mem_cons_of_mem _ (zWs_14 _ (List.mem_of_getElem? (i := 8) rfl))
theorem zm_429 (x : Cond) : (.fieldLink RX0 126 "MumpsHouse$House" "lockCount" "I" : Cond) ∈ x :: zW := List.mem_cons_of_mem _ (zWs_14 _ (List.mem_of_getElem? (i := 9) rfl))
theorem zm_430 (x : Cond) : (.methodLink RX0 129 yX0_held : Cond) ∈ x :: zW := List.mem_cons_of_mem _ (zWs_14 _ (List.mem_of_getElem? (i := 10) rfl))
theorem zm_431 (x : Cond) : (.code yX0_write cX0_write 5 (some .int) : Cond) ∈ x :: zW := List.mem_cons_of_mem _ (zWs_14 _ (List.mem_of_getElem? (i := 11) rfl))
theorem zm_432 (x : Cond) : (.instanceMethod yX0_write : Cond) ∈ x :: zW := List.mem_cons_of_mem _ (zWs_14 _ (List.mem_of_getElem? (i := 12) rfl))
theorem zm_433 (x : Cond) : (.selects RX0 yX0_write yX0_write : Cond) ∈ x :: zW := List.mem_cons_of_mem _ (zWs_14 _ (List.mem_of_getElem? (i := 13) rfl))
theorem zm_434 (x : Cond) : (.fieldLink RX0 90 "MumpsHouse$House" "used" "I" : Cond) ∈ x :: zW := List.mem_cons_of_mem _ (zWs_14 _ (List.mem_of_getElem? (i := 14) rfl))
theorem zm_435 (x : Cond) : (.methodLink RX0 158 yX0_compose : Cond) ∈ x :: zW := List.mem_cons_of_mem _ (zWs_14 _ (List.mem_of_getElem? (i := 15) rfl))
theorem zm_436 (x : Cond) : (.fieldLink RX0 162 "MumpsHouse$House" "tear" "I" : Cond) ∈ x :: zW := List.mem_cons_of_mem _ (zWs_14 _ (List.mem_of_getElem? (i := 16) rfl))
theorem zm_437 (x : Cond) : (.methodLink RX0 165 arraycopyName : Cond) ∈ x :: zW := List.mem_cons_of_mem _ (zWs_14 _ (List.mem_of_getElem? (i := 17) rfl))
theorem zm_438 (x : Cond) : (.fieldLink RX0 171 "MumpsHouse$House" "torn" "I" : Cond) ∈ x :: zW := List.mem_cons_of_mem _ (zWs_14 _ (List.mem_of_getElem? (i := 18) rfl))
theorem zm_439 (x : Cond) : (.fieldLink RX0 174 "MumpsHouse$House" "down" "Z" : Cond) ∈ x :: zW := List.mem_cons_of_mem _ (zWs_14 _ (List.mem_of_getElem? (i := 19) rfl))
theorem zm_440 (x : Cond) : (.fieldLink RX0 123 "MumpsHouse$House" "units" "I" : Cond) ∈ x :: zW := List.mem_cons_of_mem _ (zWs_14 _ (List.mem_of_getElem? (i := 20) rfl))
theorem zm_441 (x : Cond) : (.code yX0_octetAt cX0_octetAt 4 (some .int) : Cond) ∈ x :: zW := List.mem_cons_of_mem _ (zWs_14 _ (List.mem_of_getElem? (i := 21) rfl))
theorem zm_442 (x : Cond) : (.instanceMethod yX0_octetAt : Cond) ∈ x :: zW := List.mem_cons_of_mem _ (zWs_14 _ (List.mem_of_getElem? (i := 22) rfl))
theorem zm_443 (x : Cond) : (.selects RX0 yX0_octetAt yX0_octetAt : Cond) ∈ x :: zW := List.mem_cons_of_mem _ (zWs_14 _ (List.mem_of_getElem? (i := 23) rfl))
theorem zm_444 (x : Cond) : (.code yX9_inOrder cX9_inOrder 3 (some .boolean) : Cond) ∈ x :: zW := List.mem_cons_of_mem _ (zWs_14 _ (List.mem_of_getElem? (i := 24) rfl))
theorem zm_445 (x : Cond) : (.instanceMethod yX9_inOrder : Cond) ∈ x :: zW := List.mem_cons_of_mem _ (zWs_14 _ (List.mem_of_getElem? (i := 25) rfl))
theorem zm_446 (x : Cond) : (.selects RX9 yX9_inOrder yX9_inOrder : Cond) ∈ x :: zW := List.mem_cons_of_mem _ (zWs_14 _ (List.mem_of_getElem? (i := 26) rfl))
theorem zm_447 (x : Cond) : (.methodLink RX9 51 yX9_node : Cond) ∈ x :: zW := List.mem_cons_of_mem _ (zWs_14 _ (List.mem_of_getElem? (i := 27) rfl))
theorem zm_448 (x : Cond) : (.methodLink RX9 59 yX9_standing : Cond) ∈ x :: zW := List.mem_cons_of_mem _ (zWs_14 _ (List.mem_of_getElem? (i := 28) rfl))
theorem zm_449 (x : Cond) : (.code yX3_read cX3_read 6 (some .boolean) : Cond) ∈ x :: zW := List.mem_cons_of_mem _ (zWs_14 _ (List.mem_of_getElem? (i := 29) rfl))
theorem zm_450 (x : Cond) : (.instanceMethod yX3_read : Cond) ∈ x :: zW := List.mem_cons_of_mem _ (zWs_15 _ (List.mem_of_getElem? (i := 0) rfl))
theorem zm_451 (x : Cond) : (.selects RX3 yX3_read yX3_read : Cond) ∈ x :: zW := List.mem_cons_of_mem _ (zWs_15 _ (List.mem_of_getElem? (i := 1) rfl))
theorem zm_452 (x : Cond) : (.methodLink RX3 43 yX3_begin : Cond) ∈ x :: zW := List.mem_cons_of_mem _ (zWs_15 _ (List.mem_of_getElem? (i := 2) rfl))
theorem zm_453 (x : Cond) : (.methodLink RX3 114 yX3_readSubscript : Cond) ∈ x :: zW := List.mem_cons_of_mem _ (zWs_15 _ (List.mem_of_getElem? (i := 3) rfl))
theorem zm_454 (x : Cond) : (.methodLink RX3 118 yX3_add : Cond) ∈ x :: zW := List.mem_cons_of_mem _ (zWs_15 _ (List.mem_of_getElem? (i := 4) rfl))
theorem zm_455 (x : Cond) : (.methodLink RX3 121 yX3_canBe : Cond) ∈ x :: zW := List.mem_cons_of_mem _ (zWs_15 _ (List.mem_of_getElem? (i := 5) rfl))
theorem zm_456 (x : Cond) : (.code yX11_beginsName cX11_beginsName 1 (some .boolean) : Cond) ∈ x :: zW := List.mem_cons_of_mem _ (zWs_15 _ (List.mem_of_getElem? (i := 6) rfl))
theorem zm_457 (x : Cond) : (.static yX11_beginsName : Cond) ∈ x :: zW := List.mem_cons_of_mem _ (zWs_15 _ (List.mem_of_getElem? (i := 7) rfl))
theorem zm_458 (x : Cond) : (.code yX12_init cX12_init 2 none : Cond) ∈ x :: zW := List.mem_cons_of_mem _ (zWs_15 _ (List.mem_of_getElem? (i := 8) rfl))
theorem zm_459 (x : Cond) : (.initialized RX12 : Cond) ∈ x :: zW := List.mem_cons_of_mem _ (zWs_15 _ (List.mem_of_getElem? (i := 9) rfl))
theorem zm_460 (x : Cond) : (.instanceMethod yX12_init : Cond) ∈ x :: zW := List.mem_cons_of_mem _ (zWs_15 _ (List.mem_of_getElem? (i := 10) rfl))
theorem zm_461 (x : Cond) : (.methodLink RX12 1 objectInit : Cond) ∈ x :: zW := List.mem_cons_of_mem _ (zWs_15 _ (List.mem_of_getElem? (i := 11) rfl))
theorem zm_462 (x : Cond) : (.fieldLink RX12 7 "MumpsHouseModel" "wide" "[I" : Cond) ∈ x :: zW := List.mem_cons_of_mem _ (zWs_15 _ (List.mem_of_getElem? (i := 12) rfl))
theorem zm_463 (x : Cond) : (.fieldLink RX12 13 "MumpsHouseModel" "wideB" "[I" : Cond) ∈ x :: zW := List.mem_cons_of_mem _ (zWs_15 _ (List.mem_of_getElem? (i := 13) rfl))
theorem zm_464 (x : Cond) : (.fieldLink RX12 16 "MumpsHouseModel" "wideR" "[I" : Cond) ∈ x :: zW := List.mem_cons_of_mem _ (zWs_15 _ (List.mem_of_getElem? (i := 14) rfl))
theorem zm_465 (x : Cond) : (.fieldLink RX12 19 "MumpsHouseModel" "textB" "[B" : Cond) ∈ x :: zW := List.mem_cons_of_mem _ (zWs_15 _ (List.mem_of_getElem? (i := 15) rfl))
theorem zm_466 (x : Cond) : (.fieldLink RX12 23 "MumpsHouseModel" "rowKind" "[I" : Cond) ∈ x :: zW := List.mem_cons_of_mem _ (zWs_15 _ (List.mem_of_getElem? (i := 16) rfl))
theorem zm_467 (x : Cond) : (.fieldLink RX12 26 "MumpsHouseModel" "rowOf" "[I" : Cond) ∈ x :: zW := List.mem_cons_of_mem _ (zWs_15 _ (List.mem_of_getElem? (i := 17) rfl))
theorem zm_468 (x : Cond) : (.fieldLink RX12 29 "MumpsHouseModel" "rowName" "[J" : Cond) ∈ x :: zW := List.mem_cons_of_mem _ (zWs_15 _ (List.mem_of_getElem? (i := 18) rfl))
theorem zm_469 (x : Cond) : (.fieldLink RX12 33 "MumpsHouseModel" "rowKeyLength" "[I" : Cond) ∈ x :: zW := List.mem_cons_of_mem _ (zWs_15 _ (List.mem_of_getElem? (i := 19) rfl))
theorem zm_470 (x : Cond) : (.constant RX12 36 (143000) : Cond) ∈ x :: zW := List.mem_cons_of_mem _ (zWs_15 _ (List.mem_of_getElem? (i := 20) rfl))
theorem zm_471 (x : Cond) : (.fieldLink RX12 37 "MumpsHouseModel" "rowKeys" "[B" : Cond) ∈ x :: zW := List.mem_cons_of_mem _ (zWs_15 _ (List.mem_of_getElem? (i := 21) rfl))
theorem zm_472 (x : Cond) : (.fieldLink RX12 40 "MumpsHouseModel" "rowLength" "[I" : Cond) ∈ x :: zW := List.mem_cons_of_mem _ (zWs_15 _ (List.mem_of_getElem? (i := 22) rfl))
theorem zm_473 (x : Cond) : (.constant RX12 43 (325000) : Cond) ∈ x :: zW := List.mem_cons_of_mem _ (zWs_15 _ (List.mem_of_getElem? (i := 23) rfl))
theorem zm_474 (x : Cond) : (.fieldLink RX12 44 "MumpsHouseModel" "rowValues" "[B" : Cond) ∈ x :: zW := List.mem_cons_of_mem _ (zWs_15 _ (List.mem_of_getElem? (i := 24) rfl))
theorem zm_475 (x : Cond) : (.constant RX12 47 (840000) : Cond) ∈ x :: zW := List.mem_cons_of_mem _ (zWs_15 _ (List.mem_of_getElem? (i := 25) rfl))
theorem zm_476 (x : Cond) : (.fieldLink RX12 48 "MumpsHouseModel" "code" "[I" : Cond) ∈ x :: zW := List.mem_cons_of_mem _ (zWs_15 _ (List.mem_of_getElem? (i := 26) rfl))
theorem zm_477 (x : Cond) : (.fieldLink RX12 51 "MumpsHouseModel" "targetOps" "[I" : Cond) ∈ x :: zW := List.mem_cons_of_mem _ (zWs_15 _ (List.mem_of_getElem? (i := 27) rfl))
theorem zm_478 (x : Cond) : (.fieldLink RX12 54 "MumpsHouseModel" "targetArgs" "[I" : Cond) ∈ x :: zW := List.mem_cons_of_mem _ (zWs_15 _ (List.mem_of_getElem? (i := 28) rfl))
theorem zm_479 (x : Cond) : (.fieldLink RX12 57 "MumpsHouseModel" "routineName" "[J" : Cond) ∈ x :: zW := List.mem_cons_of_mem _ (zWs_15 _ (List.mem_of_getElem? (i := 29) rfl))
theorem zm_480 (x : Cond) : (.fieldLink RX12 60 "MumpsHouseModel" "routineLength" "[I" : Cond) ∈ x :: zW := List.mem_cons_of_mem _ (zWs_16 _ (List.mem_of_getElem? (i := 0) rfl))
theorem zm_481 (x : Cond) : (.constant RX12 63 (52700) : Cond) ∈ x :: zW := List.mem_cons_of_mem _ (zWs_16 _ (List.mem_of_getElem? (i := 1) rfl))
theorem zm_482 (x : Cond) : (.fieldLink RX12 64 "MumpsHouseModel" "routineText" "[B" : Cond) ∈ x :: zW := List.mem_cons_of_mem _ (zWs_16 _ (List.mem_of_getElem? (i := 2) rfl))
theorem zm_483 (x : Cond) : (.fieldLink RX12 67 "MumpsHouseModel" "lineCount" "[I" : Cond) ∈ x :: zW := List.mem_cons_of_mem _ (zWs_16 _ (List.mem_of_getElem? (i := 3) rfl))
theorem zm_484 (x : Cond) : (.fieldLink RX12 70 "MumpsHouseModel" "lineAt" "[I" : Cond) ∈ x :: zW := List.mem_cons_of_mem _ (zWs_16 _ (List.mem_of_getElem? (i := 4) rfl))
theorem zm_485 (x : Cond) : (.fieldLink RX12 73 "MumpsHouseModel" "lineLevel" "[I" : Cond) ∈ x :: zW := List.mem_cons_of_mem _ (zWs_16 _ (List.mem_of_getElem? (i := 5) rfl))
theorem zm_486 (x : Cond) : (.fieldLink RX12 76 "MumpsHouseModel" "lineLabel" "[J" : Cond) ∈ x :: zW := List.mem_cons_of_mem _ (zWs_16 _ (List.mem_of_getElem? (i := 6) rfl))
theorem zm_487 (x : Cond) : (.fieldLink RX12 79 "MumpsHouseModel" "lineCode" "[I" : Cond) ∈ x :: zW := List.mem_cons_of_mem _ (zWs_16 _ (List.mem_of_getElem? (i := 7) rfl))
theorem zm_488 (x : Cond) : (.fieldLink RX12 82 "MumpsHouseModel" "lineStop" "[I" : Cond) ∈ x :: zW := List.mem_cons_of_mem _ (zWs_16 _ (List.mem_of_getElem? (i := 8) rfl))
theorem zm_489 (x : Cond) : (.fieldLink RX12 85 "MumpsHouseModel" "lineFormals" "[I" : Cond) ∈ x :: zW := List.mem_cons_of_mem _ (zWs_16 _ (List.mem_of_getElem? (i := 9) rfl))
theorem zm_490 (x : Cond) : (.constant RX12 88 (34340) : Cond) ∈ x :: zW := List.mem_cons_of_mem _ (zWs_16 _ (List.mem_of_getElem? (i := 10) rfl))
theorem zm_491 (x : Cond) : (.fieldLink RX12 89 "MumpsHouseModel" "formals" "[J" : Cond) ∈ x :: zW := List.mem_cons_of_mem _ (zWs_16 _ (List.mem_of_getElem? (i := 11) rfl))
theorem zm_492 (x : Cond) : (.fieldLink RX12 92 "MumpsHouseModel" "draft" "[B" : Cond) ∈ x :: zW := List.mem_cons_of_mem _ (zWs_16 _ (List.mem_of_getElem? (i := 12) rfl))
theorem zm_493 (x : Cond) : (.fieldLink RX12 95 "MumpsHouseModel" "places" "[Z" : Cond) ∈ x :: zW := List.mem_cons_of_mem _ (zWs_16 _ (List.mem_of_getElem? (i := 13) rfl))
theorem zm_494 (x : Cond) : (.fieldLink RX12 99 "MumpsHouseModel" "handTop" "[I" : Cond) ∈ x :: zW := List.mem_cons_of_mem _ (zWs_16 _ (List.mem_of_getElem? (i := 14) rfl))
theorem zm_495 (x : Cond) : (.fieldLink RX12 102 "MumpsHouseModel" "handN" "[I" : Cond) ∈ x :: zW := List.mem_cons_of_mem _ (zWs_16 _ (List.mem_of_getElem? (i := 15) rfl))
theorem zm_496 (x : Cond) : (.constant RX12 105 (90720) : Cond) ∈ x :: zW := List.mem_cons_of_mem _ (zWs_16 _ (List.mem_of_getElem? (i := 16) rfl))
theorem zm_497 (x : Cond) : (.fieldLink RX12 106 "MumpsHouseModel" "handB" "[B" : Cond) ∈ x :: zW := List.mem_cons_of_mem _ (zWs_16 _ (List.mem_of_getElem? (i := 17) rfl))
theorem zm_498 (x : Cond) : (.fieldLink RX12 109 "MumpsHouseModel" "nodeTop" "[I" : Cond) ∈ x :: zW := List.mem_cons_of_mem _ (zWs_16 _ (List.mem_of_getElem? (i := 18) rfl))
theorem zm_499 (x : Cond) : (.fieldLink RX12 112 "MumpsHouseModel" "nodeKind" "[I" : Cond) ∈ x :: zW := List.mem_cons_of_mem _ (zWs_16 _ (List.mem_of_getElem? (i := 19) rfl))
theorem zm_500 (x : Cond) : (.fieldLink RX12 115 "MumpsHouseModel" "nodeName" "[J" : Cond) ∈ x :: zW := List.mem_cons_of_mem _ (zWs_16 _ (List.mem_of_getElem? (i := 20) rfl))
theorem zm_501 (x : Cond) : (.fieldLink RX12 118 "MumpsHouseModel" "nodeLength" "[I" : Cond) ∈ x :: zW := List.mem_cons_of_mem _ (zWs_16 _ (List.mem_of_getElem? (i := 21) rfl))
theorem zm_502 (x : Cond) : (.fieldLink RX12 121 "MumpsHouseModel" "nodeKeys" "[B" : Cond) ∈ x :: zW := List.mem_cons_of_mem _ (zWs_16 _ (List.mem_of_getElem? (i := 22) rfl))
theorem zm_503 (x : Cond) : (.fieldLink RX12 124 "MumpsHouseModel" "handKind" "[I" : Cond) ∈ x :: zW := List.mem_cons_of_mem _ (zWs_16 _ (List.mem_of_getElem? (i := 23) rfl))
theorem zm_504 (x : Cond) : (.fieldLink RX12 127 "MumpsHouseModel" "handName" "[J" : Cond) ∈ x :: zW := List.mem_cons_of_mem _ (zWs_16 _ (List.mem_of_getElem? (i := 24) rfl))
theorem zm_505 (x : Cond) : (.fieldLink RX12 130 "MumpsHouseModel" "boundCount" "[I" : Cond) ∈ x :: zW := List.mem_cons_of_mem _ (zWs_16 _ (List.mem_of_getElem? (i := 25) rfl))
theorem zm_506 (x : Cond) : (.fieldLink RX12 133 "MumpsHouseModel" "boundName" "[J" : Cond) ∈ x :: zW := List.mem_cons_of_mem _ (zWs_16 _ (List.mem_of_getElem? (i := 26) rfl))
theorem zm_507 (x : Cond) : (.fieldLink RX12 136 "MumpsHouseModel" "boundVar" "[I" : Cond) ∈ x :: zW := List.mem_cons_of_mem _ (zWs_16 _ (List.mem_of_getElem? (i := 27) rfl))
theorem zm_508 (x : Cond) : (.fieldLink RX12 139 "MumpsHouseModel" "hiddenCount" "[I" : Cond) ∈ x :: zW := List.mem_cons_of_mem _ (zWs_16 _ (List.mem_of_getElem? (i := 28) rfl))
theorem zm_509 (x : Cond) : (.fieldLink RX12 142 "MumpsHouseModel" "hiddenName" "[J" : Cond) ∈ x :: zW := List.mem_cons_of_mem _ (zWs_16 _ (List.mem_of_getElem? (i := 29) rfl))
theorem zm_510 (x : Cond) : (.fieldLink RX12 145 "MumpsHouseModel" "hiddenVar" "[I" : Cond) ∈ x :: zW := List.mem_cons_of_mem _ (zWs_17 _ (List.mem_of_getElem? (i := 0) rfl))
theorem zm_511 (x : Cond) : (.fieldLink RX12 148 "MumpsHouseModel" "nakedName" "[J" : Cond) ∈ x :: zW := List.mem_cons_of_mem _ (zWs_17 _ (List.mem_of_getElem? (i := 1) rfl))
theorem zm_512 (x : Cond) : (.fieldLink RX12 151 "MumpsHouseModel" "nakedLength" "[I" : Cond) ∈ x :: zW := List.mem_cons_of_mem _ (zWs_17 _ (List.mem_of_getElem? (i := 2) rfl))
theorem zm_513 (x : Cond) : (.fieldLink RX12 154 "MumpsHouseModel" "nakedKeys" "[B" : Cond) ∈ x :: zW := List.mem_cons_of_mem _ (zWs_17 _ (List.mem_of_getElem? (i := 3) rfl))
theorem zm_514 (x : Cond) : (.fieldLink RX12 157 "MumpsHouseModel" "tLevel" "[I" : Cond) ∈ x :: zW := List.mem_cons_of_mem _ (zWs_17 _ (List.mem_of_getElem? (i := 4) rfl))
theorem zm_515 (x : Cond) : (.fieldLink RX12 160 "MumpsHouseModel" "tRestarts" "[I" : Cond) ∈ x :: zW := List.mem_cons_of_mem _ (zWs_17 _ (List.mem_of_getElem? (i := 5) rfl))
theorem zm_516 (x : Cond) : (.fieldLink RX12 163 "MumpsHouseModel" "tMay" "[Z" : Cond) ∈ x :: zW := List.mem_cons_of_mem _ (zWs_17 _ (List.mem_of_getElem? (i := 6) rfl))
theorem zm_517 (x : Cond) : (.fieldLink RX12 166 "MumpsHouseModel" "tAt" "[I" : Cond) ∈ x :: zW := List.mem_cons_of_mem _ (zWs_17 _ (List.mem_of_getElem? (i := 7) rfl))
theorem zm_518 (x : Cond) : (.fieldLink RX12 169 "MumpsHouseModel" "tPc" "[I" : Cond) ∈ x :: zW := List.mem_cons_of_mem _ (zWs_17 _ (List.mem_of_getElem? (i := 8) rfl))
theorem zm_519 (x : Cond) : (.fieldLink RX12 172 "MumpsHouseModel" "tStack" "[I" : Cond) ∈ x :: zW := List.mem_cons_of_mem _ (zWs_17 _ (List.mem_of_getElem? (i := 9) rfl))
theorem zm_520 (x : Cond) : (.fieldLink RX12 175 "MumpsHouseModel" "tFors" "[I" : Cond) ∈ x :: zW := List.mem_cons_of_mem _ (zWs_17 _ (List.mem_of_getElem? (i := 10) rfl))
theorem zm_521 (x : Cond) : (.fieldLink RX12 178 "MumpsHouseModel" "tSerial" "[I" : Cond) ∈ x :: zW := List.mem_cons_of_mem _ (zWs_17 _ (List.mem_of_getElem? (i := 11) rfl))
theorem zm_522 (x : Cond) : (.fieldLink RX12 181 "MumpsHouseModel" "tForSerial" "[I" : Cond) ∈ x :: zW := List.mem_cons_of_mem _ (zWs_17 _ (List.mem_of_getElem? (i := 12) rfl))
theorem zm_523 (x : Cond) : (.fieldLink RX12 184 "MumpsHouseModel" "copyCount" "[I" : Cond) ∈ x :: zW := List.mem_cons_of_mem _ (zWs_17 _ (List.mem_of_getElem? (i := 13) rfl))
theorem zm_524 (x : Cond) : (.fieldLink RX12 187 "MumpsHouseModel" "copyName" "[J" : Cond) ∈ x :: zW := List.mem_cons_of_mem _ (zWs_17 _ (List.mem_of_getElem? (i := 14) rfl))
theorem zm_525 (x : Cond) : (.fieldLink RX12 190 "MumpsHouseModel" "copyStale" "[Z" : Cond) ∈ x :: zW := List.mem_cons_of_mem _ (zWs_17 _ (List.mem_of_getElem? (i := 15) rfl))
theorem zm_526 (x : Cond) : (.fieldLink RX12 193 "MumpsHouseModel" "recordCount" "[I" : Cond) ∈ x :: zW := List.mem_cons_of_mem _ (zWs_17 _ (List.mem_of_getElem? (i := 16) rfl))
theorem zm_527 (x : Cond) : (.constant RX12 196 (48000) : Cond) ∈ x :: zW := List.mem_cons_of_mem _ (zWs_17 _ (List.mem_of_getElem? (i := 17) rfl))
theorem zm_528 (x : Cond) : (.fieldLink RX12 197 "MumpsHouseModel" "recordBytes" "[B" : Cond) ∈ x :: zW := List.mem_cons_of_mem _ (zWs_17 _ (List.mem_of_getElem? (i := 18) rfl))
theorem zm_529 (x : Cond) : (.fieldLink RX12 200 "MumpsHouseModel" "keptCount" "[I" : Cond) ∈ x :: zW := List.mem_cons_of_mem _ (zWs_17 _ (List.mem_of_getElem? (i := 19) rfl))
theorem zm_530 (x : Cond) : (.fieldLink RX12 203 "MumpsHouseModel" "keptName" "[J" : Cond) ∈ x :: zW := List.mem_cons_of_mem _ (zWs_17 _ (List.mem_of_getElem? (i := 20) rfl))
theorem zm_531 (x : Cond) : (.constant RX12 206 (102656) : Cond) ∈ x :: zW := List.mem_cons_of_mem _ (zWs_17 _ (List.mem_of_getElem? (i := 21) rfl))
theorem zm_532 (x : Cond) : (.fieldLink RX12 207 "MumpsHouseModel" "disk" "[B" : Cond) ∈ x :: zW := List.mem_cons_of_mem _ (zWs_17 _ (List.mem_of_getElem? (i := 22) rfl))
theorem zm_533 (x : Cond) : (.constant RX12 210 (99600) : Cond) ∈ x :: zW := List.mem_cons_of_mem _ (zWs_17 _ (List.mem_of_getElem? (i := 23) rfl))
theorem zm_534 (x : Cond) : (.fieldLink RX12 211 "MumpsHouseModel" "waiting" "[B" : Cond) ∈ x :: zW := List.mem_cons_of_mem _ (zWs_17 _ (List.mem_of_getElem? (i := 24) rfl))
theorem zm_535 (x : Cond) : (.fieldLink RX12 214 "MumpsHouseModel" "unit" "[B" : Cond) ∈ x :: zW := List.mem_cons_of_mem _ (zWs_17 _ (List.mem_of_getElem? (i := 25) rfl))
theorem zm_536 (x : Cond) : (.fieldLink RX12 217 "MumpsHouseModel" "patternText" "[B" : Cond) ∈ x :: zW := List.mem_cons_of_mem _ (zWs_17 _ (List.mem_of_getElem? (i := 26) rfl))
theorem zm_537 (x : Cond) : (.fieldLink RX12 220 "MumpsHouseModel" "draftChars" "[B" : Cond) ∈ x :: zW := List.mem_cons_of_mem _ (zWs_17 _ (List.mem_of_getElem? (i := 27) rfl))
theorem zm_538 (x : Cond) : (.fieldLink RX12 223 "MumpsHouseModel" "draftNumber" "[B" : Cond) ∈ x :: zW := List.mem_cons_of_mem _ (zWs_17 _ (List.mem_of_getElem? (i := 28) rfl))
theorem zm_539 (x : Cond) : (.fieldLink RX12 226 "MumpsHouseModel" "parsedKey" "[B" : Cond) ∈ x :: zW := List.mem_cons_of_mem _ (zWs_17 _ (List.mem_of_getElem? (i := 29) rfl))
theorem zm_540 (x : Cond) : (.fieldLink RX12 229 "MumpsHouseModel" "quoted" "[Z" : Cond) ∈ x :: zW := List.mem_cons_of_mem _ (zWs_18 _ (List.mem_of_getElem? (i := 0) rfl))
theorem zm_541 (x : Cond) : (.fieldLink RX12 232 "MumpsHouseModel" "stream" "[J" : Cond) ∈ x :: zW := List.mem_cons_of_mem _ (zWs_18 _ (List.mem_of_getElem? (i := 1) rfl))
theorem zm_542 (x : Cond) : (.fieldLink RX12 235 "MumpsHouseModel" "slotOf" "[I" : Cond) ∈ x :: zW := List.mem_cons_of_mem _ (zWs_18 _ (List.mem_of_getElem? (i := 2) rfl))
theorem zm_543 (x : Cond) : (.fieldLink RX12 238 "MumpsHouseModel" "numberAt" "[I" : Cond) ∈ x :: zW := List.mem_cons_of_mem _ (zWs_18 _ (List.mem_of_getElem? (i := 3) rfl))
theorem zm_544 (x : Cond) : (.fieldLink RX12 241 "MumpsHouseModel" "byError" "[Z" : Cond) ∈ x :: zW := List.mem_cons_of_mem _ (zWs_18 _ (List.mem_of_getElem? (i := 4) rfl))
theorem zm_545 (x : Cond) : (.fieldLink RX12 244 "MumpsHouseModel" "test" "[I" : Cond) ∈ x :: zW := List.mem_cons_of_mem _ (zWs_18 _ (List.mem_of_getElem? (i := 5) rfl))
theorem zm_546 (x : Cond) : (.fieldLink RX12 247 "MumpsHouseModel" "outX" "[I" : Cond) ∈ x :: zW := List.mem_cons_of_mem _ (zWs_18 _ (List.mem_of_getElem? (i := 6) rfl))
theorem zm_547 (x : Cond) : (.fieldLink RX12 250 "MumpsHouseModel" "outY" "[I" : Cond) ∈ x :: zW := List.mem_cons_of_mem _ (zWs_18 _ (List.mem_of_getElem? (i := 7) rfl))
theorem zm_548 (x : Cond) : (.fieldLink RX12 253 "MumpsHouseModel" "begun" "[I" : Cond) ∈ x :: zW := List.mem_cons_of_mem _ (zWs_18 _ (List.mem_of_getElem? (i := 8) rfl))
theorem zm_549 (x : Cond) : (.fieldLink RX12 256 "MumpsHouseModel" "outCount" "[I" : Cond) ∈ x :: zW := List.mem_cons_of_mem _ (zWs_18 _ (List.mem_of_getElem? (i := 9) rfl))
theorem zm_550 (x : Cond) : (.constant RX12 259 (50000) : Cond) ∈ x :: zW := List.mem_cons_of_mem _ (zWs_18 _ (List.mem_of_getElem? (i := 10) rfl))
theorem zm_551 (x : Cond) : (.fieldLink RX12 260 "MumpsHouseModel" "outBytes" "[B" : Cond) ∈ x :: zW := List.mem_cons_of_mem _ (zWs_18 _ (List.mem_of_getElem? (i := 11) rfl))
theorem zm_552 (x : Cond) : (.fieldLink RX12 263 "MumpsHouseModel" "ecodeN" "[I" : Cond) ∈ x :: zW := List.mem_cons_of_mem _ (zWs_18 _ (List.mem_of_getElem? (i := 12) rfl))
theorem zm_553 (x : Cond) : (.fieldLink RX12 266 "MumpsHouseModel" "ecode" "[B" : Cond) ∈ x :: zW := List.mem_cons_of_mem _ (zWs_18 _ (List.mem_of_getElem? (i := 13) rfl))
theorem zm_554 (x : Cond) : (.fieldLink RX12 269 "MumpsHouseModel" "pc" "[I" : Cond) ∈ x :: zW := List.mem_cons_of_mem _ (zWs_18 _ (List.mem_of_getElem? (i := 14) rfl))
theorem zm_555 (x : Cond) : (.fieldLink RX12 272 "MumpsHouseModel" "atRound" "[Z" : Cond) ∈ x :: zW := List.mem_cons_of_mem _ (zWs_18 _ (List.mem_of_getElem? (i := 15) rfl))
theorem zm_556 (x : Cond) : (.fieldLink RX12 275 "MumpsHouseModel" "waits" "[I" : Cond) ∈ x :: zW := List.mem_cons_of_mem _ (zWs_18 _ (List.mem_of_getElem? (i := 16) rfl))
theorem zm_557 (x : Cond) : (.fieldLink RX12 278 "MumpsHouseModel" "until" "[J" : Cond) ∈ x :: zW := List.mem_cons_of_mem _ (zWs_18 _ (List.mem_of_getElem? (i := 17) rfl))
theorem zm_558 (x : Cond) : (.fieldLink RX12 281 "MumpsHouseModel" "timed" "[Z" : Cond) ∈ x :: zW := List.mem_cons_of_mem _ (zWs_18 _ (List.mem_of_getElem? (i := 18) rfl))
theorem zm_559 (x : Cond) : (.fieldLink RX12 284 "MumpsHouseModel" "waitMany" "[I" : Cond) ∈ x :: zW := List.mem_cons_of_mem _ (zWs_18 _ (List.mem_of_getElem? (i := 19) rfl))
theorem zm_560 (x : Cond) : (.fieldLink RX12 287 "MumpsHouseModel" "toldCount" "[I" : Cond) ∈ x :: zW := List.mem_cons_of_mem _ (zWs_18 _ (List.mem_of_getElem? (i := 20) rfl))
theorem zm_561 (x : Cond) : (.fieldLink RX12 290 "MumpsHouseModel" "toldN" "[I" : Cond) ∈ x :: zW := List.mem_cons_of_mem _ (zWs_18 _ (List.mem_of_getElem? (i := 21) rfl))
theorem zm_562 (x : Cond) : (.fieldLink RX12 293 "MumpsHouseModel" "toldB" "[B" : Cond) ∈ x :: zW := List.mem_cons_of_mem _ (zWs_18 _ (List.mem_of_getElem? (i := 22) rfl))
theorem zm_563 (x : Cond) : (.fieldLink RX12 296 "MumpsHouseModel" "segTop" "[I" : Cond) ∈ x :: zW := List.mem_cons_of_mem _ (zWs_18 _ (List.mem_of_getElem? (i := 23) rfl))
theorem zm_564 (x : Cond) : (.fieldLink RX12 299 "MumpsHouseModel" "levels" "[I" : Cond) ∈ x :: zW := List.mem_cons_of_mem _ (zWs_18 _ (List.mem_of_getElem? (i := 24) rfl))
theorem zm_565 (x : Cond) : (.fieldLink RX12 302 "MumpsHouseModel" "lKind" "[I" : Cond) ∈ x :: zW := List.mem_cons_of_mem _ (zWs_18 _ (List.mem_of_getElem? (i := 25) rfl))
theorem zm_566 (x : Cond) : (.fieldLink RX12 305 "MumpsHouseModel" "lRoutine" "[I" : Cond) ∈ x :: zW := List.mem_cons_of_mem _ (zWs_18 _ (List.mem_of_getElem? (i := 26) rfl))
theorem zm_567 (x : Cond) : (.fieldLink RX12 308 "MumpsHouseModel" "lLine" "[I" : Cond) ∈ x :: zW := List.mem_cons_of_mem _ (zWs_18 _ (List.mem_of_getElem? (i := 27) rfl))
theorem zm_568 (x : Cond) : (.fieldLink RX12 311 "MumpsHouseModel" "lDots" "[I" : Cond) ∈ x :: zW := List.mem_cons_of_mem _ (zWs_18 _ (List.mem_of_getElem? (i := 28) rfl))
theorem zm_569 (x : Cond) : (.fieldLink RX12 314 "MumpsHouseModel" "lStop" "[I" : Cond) ∈ x :: zW := List.mem_cons_of_mem _ (zWs_18 _ (List.mem_of_getElem? (i := 29) rfl))
theorem zm_570 (x : Cond) : (.fieldLink RX12 317 "MumpsHouseModel" "lRet" "[I" : Cond) ∈ x :: zW := List.mem_cons_of_mem _ (zWs_19 _ (List.mem_of_getElem? (i := 0) rfl))
theorem zm_571 (x : Cond) : (.fieldLink RX12 320 "MumpsHouseModel" "lSeg" "[I" : Cond) ∈ x :: zW := List.mem_cons_of_mem _ (zWs_19 _ (List.mem_of_getElem? (i := 1) rfl))
theorem zm_572 (x : Cond) : (.fieldLink RX12 323 "MumpsHouseModel" "lKeep" "[I" : Cond) ∈ x :: zW := List.mem_cons_of_mem _ (zWs_19 _ (List.mem_of_getElem? (i := 2) rfl))
theorem zm_573 (x : Cond) : (.fieldLink RX12 326 "MumpsHouseModel" "lHand" "[I" : Cond) ∈ x :: zW := List.mem_cons_of_mem _ (zWs_19 _ (List.mem_of_getElem? (i := 3) rfl))
theorem zm_574 (x : Cond) : (.fieldLink RX12 329 "MumpsHouseModel" "lNode" "[I" : Cond) ∈ x :: zW := List.mem_cons_of_mem _ (zWs_19 _ (List.mem_of_getElem? (i := 4) rfl))
theorem zm_575 (x : Cond) : (.fieldLink RX12 332 "MumpsHouseModel" "lFor" "[I" : Cond) ∈ x :: zW := List.mem_cons_of_mem _ (zWs_19 _ (List.mem_of_getElem? (i := 5) rfl))
theorem zm_576 (x : Cond) : (.fieldLink RX12 335 "MumpsHouseModel" "lText" "[I" : Cond) ∈ x :: zW := List.mem_cons_of_mem _ (zWs_19 _ (List.mem_of_getElem? (i := 6) rfl))
theorem zm_577 (x : Cond) : (.fieldLink RX12 338 "MumpsHouseModel" "lHidden" "[I" : Cond) ∈ x :: zW := List.mem_cons_of_mem _ (zWs_19 _ (List.mem_of_getElem? (i := 7) rfl))
theorem zm_578 (x : Cond) : (.fieldLink RX12 341 "MumpsHouseModel" "lTest" "[I" : Cond) ∈ x :: zW := List.mem_cons_of_mem _ (zWs_19 _ (List.mem_of_getElem? (i := 8) rfl))
theorem zm_579 (x : Cond) : (.fieldLink RX12 344 "MumpsHouseModel" "lSerial" "[I" : Cond) ∈ x :: zW := List.mem_cons_of_mem _ (zWs_19 _ (List.mem_of_getElem? (i := 9) rfl))
theorem zm_580 (x : Cond) : (.fieldLink RX12 347 "MumpsHouseModel" "lTrapped" "[Z" : Cond) ∈ x :: zW := List.mem_cons_of_mem _ (zWs_19 _ (List.mem_of_getElem? (i := 10) rfl))
theorem zm_581 (x : Cond) : (.fieldLink RX12 350 "MumpsHouseModel" "lInTrap" "[Z" : Cond) ∈ x :: zW := List.mem_cons_of_mem _ (zWs_19 _ (List.mem_of_getElem? (i := 11) rfl))
theorem zm_582 (x : Cond) : (.fieldLink RX12 353 "MumpsHouseModel" "lEtrapN" "[I" : Cond) ∈ x :: zW := List.mem_cons_of_mem _ (zWs_19 _ (List.mem_of_getElem? (i := 12) rfl))
theorem zm_583 (x : Cond) : (.constant RX12 356 (46872) : Cond) ∈ x :: zW := List.mem_cons_of_mem _ (zWs_19 _ (List.mem_of_getElem? (i := 13) rfl))
theorem zm_584 (x : Cond) : (.fieldLink RX12 357 "MumpsHouseModel" "lEtrap" "[B" : Cond) ∈ x :: zW := List.mem_cons_of_mem _ (zWs_19 _ (List.mem_of_getElem? (i := 14) rfl))
theorem zm_585 (x : Cond) : (.fieldLink RX12 360 "MumpsHouseModel" "fors" "[I" : Cond) ∈ x :: zW := List.mem_cons_of_mem _ (zWs_19 _ (List.mem_of_getElem? (i := 15) rfl))
theorem zm_586 (x : Cond) : (.fieldLink RX12 363 "MumpsHouseModel" "fLevel" "[I" : Cond) ∈ x :: zW := List.mem_cons_of_mem _ (zWs_19 _ (List.mem_of_getElem? (i := 16) rfl))
theorem zm_587 (x : Cond) : (.fieldLink RX12 366 "MumpsHouseModel" "fName" "[J" : Cond) ∈ x :: zW := List.mem_cons_of_mem _ (zWs_19 _ (List.mem_of_getElem? (i := 17) rfl))
theorem zm_588 (x : Cond) : (.fieldLink RX12 369 "MumpsHouseModel" "fKind" "[I" : Cond) ∈ x :: zW := List.mem_cons_of_mem _ (zWs_19 _ (List.mem_of_getElem? (i := 18) rfl))
theorem zm_589 (x : Cond) : (.fieldLink RX12 372 "MumpsHouseModel" "fStepM" "[J" : Cond) ∈ x :: zW := List.mem_cons_of_mem _ (zWs_19 _ (List.mem_of_getElem? (i := 19) rfl))
theorem zm_590 (x : Cond) : (.fieldLink RX12 375 "MumpsHouseModel" "fStepE" "[I" : Cond) ∈ x :: zW := List.mem_cons_of_mem _ (zWs_19 _ (List.mem_of_getElem? (i := 20) rfl))
theorem zm_591 (x : Cond) : (.fieldLink RX12 378 "MumpsHouseModel" "fLimitM" "[J" : Cond) ∈ x :: zW := List.mem_cons_of_mem _ (zWs_19 _ (List.mem_of_getElem? (i := 21) rfl))
theorem zm_592 (x : Cond) : (.fieldLink RX12 381 "MumpsHouseModel" "fLimitE" "[I" : Cond) ∈ x :: zW := List.mem_cons_of_mem _ (zWs_19 _ (List.mem_of_getElem? (i := 22) rfl))
theorem zm_593 (x : Cond) : (.fieldLink RX12 384 "MumpsHouseModel" "fBody" "[I" : Cond) ∈ x :: zW := List.mem_cons_of_mem _ (zWs_19 _ (List.mem_of_getElem? (i := 23) rfl))
theorem zm_594 (x : Cond) : (.fieldLink RX12 387 "MumpsHouseModel" "fNext" "[I" : Cond) ∈ x :: zW := List.mem_cons_of_mem _ (zWs_19 _ (List.mem_of_getElem? (i := 24) rfl))
theorem zm_595 (x : Cond) : (.fieldLink RX12 390 "MumpsHouseModel" "fSerial" "[I" : Cond) ∈ x :: zW := List.mem_cons_of_mem _ (zWs_19 _ (List.mem_of_getElem? (i := 25) rfl))
theorem zm_596 (x : Cond) : (.fieldLink RX12 393 "MumpsHouseModel" "texts" "[I" : Cond) ∈ x :: zW := List.mem_cons_of_mem _ (zWs_19 _ (List.mem_of_getElem? (i := 26) rfl))
theorem zm_597 (x : Cond) : (.fieldLink RX12 396 "MumpsHouseModel" "aRet" "[I" : Cond) ∈ x :: zW := List.mem_cons_of_mem _ (zWs_19 _ (List.mem_of_getElem? (i := 27) rfl))
theorem zm_598 (x : Cond) : (.fieldLink RX12 399 "MumpsHouseModel" "aSeg" "[I" : Cond) ∈ x :: zW := List.mem_cons_of_mem _ (zWs_19 _ (List.mem_of_getElem? (i := 28) rfl))
theorem zm_599 (x : Cond) : (.fieldLink RX12 402 "MumpsHouseModel" "lockBy" "[I" : Cond) ∈ x :: zW := List.mem_cons_of_mem _ (zWs_19 _ (List.mem_of_getElem? (i := 29) rfl))
theorem zm_600 (x : Cond) : (.fieldLink RX12 405 "MumpsHouseModel" "lockKind" "[I" : Cond) ∈ x :: zW := List.mem_cons_of_mem _ (zWs_20 _ (List.mem_of_getElem? (i := 0) rfl))
theorem zm_601 (x : Cond) : (.fieldLink RX12 408 "MumpsHouseModel" "lockName" "[J" : Cond) ∈ x :: zW := List.mem_cons_of_mem _ (zWs_20 _ (List.mem_of_getElem? (i := 1) rfl))
theorem zm_602 (x : Cond) : (.fieldLink RX12 411 "MumpsHouseModel" "lockLength" "[I" : Cond) ∈ x :: zW := List.mem_cons_of_mem _ (zWs_20 _ (List.mem_of_getElem? (i := 2) rfl))
theorem zm_603 (x : Cond) : (.fieldLink RX12 414 "MumpsHouseModel" "lockKeys" "[B" : Cond) ∈ x :: zW := List.mem_cons_of_mem _ (zWs_20 _ (List.mem_of_getElem? (i := 3) rfl))
theorem zm_604 (x : Cond) : (.fieldLink RX12 417 "MumpsHouseModel" "lockTimes" "[I" : Cond) ∈ x :: zW := List.mem_cons_of_mem _ (zWs_20 _ (List.mem_of_getElem? (i := 4) rfl))
theorem zm_605 (x : Cond) : (.fieldLink RX12 420 "MumpsHouseModel" "trapText" "[B" : Cond) ∈ x :: zW := List.mem_cons_of_mem _ (zWs_20 _ (List.mem_of_getElem? (i := 5) rfl))
theorem zm_606 (x : Cond) : (.fieldLink RX12 423 "MumpsHouseModel" "lTrap" "[B" : Cond) ∈ x :: zW := List.mem_cons_of_mem _ (zWs_20 _ (List.mem_of_getElem? (i := 6) rfl))
theorem zm_607 (x : Cond) : (.fieldLink RX12 426 "MumpsHouseModel" "lTrapN" "[I" : Cond) ∈ x :: zW := List.mem_cons_of_mem _ (zWs_20 _ (List.mem_of_getElem? (i := 7) rfl))
theorem zm_608 (x : Cond) : (.fieldLink RX12 429 "MumpsHouseModel" "valueText" "[B" : Cond) ∈ x :: zW := List.mem_cons_of_mem _ (zWs_20 _ (List.mem_of_getElem? (i := 8) rfl))
theorem zm_609 (x : Cond) : (.fieldLink RX12 432 "MumpsHouseModel" "passVar" "[I" : Cond) ∈ x :: zW := List.mem_cons_of_mem _ (zWs_20 _ (List.mem_of_getElem? (i := 9) rfl))
theorem zm_610 (x : Cond) : (.fieldLink RX12 435 "MumpsHouseModel" "draftValue" "[B" : Cond) ∈ x :: zW := List.mem_cons_of_mem _ (zWs_20 _ (List.mem_of_getElem? (i := 10) rfl))
theorem zm_611 (x : Cond) : (.fieldLink RX12 438 "MumpsHouseModel" "mergeRows" "[I" : Cond) ∈ x :: zW := List.mem_cons_of_mem _ (zWs_20 _ (List.mem_of_getElem? (i := 11) rfl))
theorem zm_612 (x : Cond) : (.fieldLink RX12 441 "MumpsHouseModel" "mergeKey" "[B" : Cond) ∈ x :: zW := List.mem_cons_of_mem _ (zWs_20 _ (List.mem_of_getElem? (i := 12) rfl))
theorem zm_613 (x : Cond) : (.fieldLink RX12 444 "MumpsHouseModel" "tRoutine" "[I" : Cond) ∈ x :: zW := List.mem_cons_of_mem _ (zWs_20 _ (List.mem_of_getElem? (i := 13) rfl))
theorem zm_614 (x : Cond) : (.fieldLink RX12 447 "MumpsHouseModel" "tLine" "[I" : Cond) ∈ x :: zW := List.mem_cons_of_mem _ (zWs_20 _ (List.mem_of_getElem? (i := 14) rfl))
theorem zm_615 (x : Cond) : (.fieldLink RX12 450 "MumpsHouseModel" "tStop" "[I" : Cond) ∈ x :: zW := List.mem_cons_of_mem _ (zWs_20 _ (List.mem_of_getElem? (i := 15) rfl))
theorem zm_616 (x : Cond) : (.fieldLink RX12 453 "MumpsHouseModel" "tInTrap" "[Z" : Cond) ∈ x :: zW := List.mem_cons_of_mem _ (zWs_20 _ (List.mem_of_getElem? (i := 16) rfl))
theorem zm_617 (x : Cond) : (.fieldLink RX12 456 "MumpsHouseModel" "tape" "[B" : Cond) ∈ x :: zW := List.mem_cons_of_mem _ (zWs_20 _ (List.mem_of_getElem? (i := 17) rfl))
theorem zm_618 (x : Cond) : (.fieldLink RX12 459 "MumpsHouseModel" "cutIn" "I" : Cond) ∈ x :: zW := List.mem_cons_of_mem _ (zWs_20 _ (List.mem_of_getElem? (i := 18) rfl))
theorem zm_619 (x : Cond) : (.fieldLink RX12 463 "MumpsHouseModel" "result" "[B" : Cond) ∈ x :: zW := List.mem_cons_of_mem _ (zWs_20 _ (List.mem_of_getElem? (i := 19) rfl))
theorem zm_620 (x : Cond) : (.fieldLink RX12 466 "MumpsHouseModel" "lOwn" "[B" : Cond) ∈ x :: zW := List.mem_cons_of_mem _ (zWs_20 _ (List.mem_of_getElem? (i := 20) rfl))
theorem zm_621 (x : Cond) : (.fieldLink RX12 469 "MumpsHouseModel" "lOwnN" "[I" : Cond) ∈ x :: zW := List.mem_cons_of_mem _ (zWs_20 _ (List.mem_of_getElem? (i := 21) rfl))
theorem zm_622 (x : Cond) : (.fieldLink RX12 472 "MumpsHouseModel" "draftBlock" "[B" : Cond) ∈ x :: zW := List.mem_cons_of_mem _ (zWs_20 _ (List.mem_of_getElem? (i := 22) rfl))
theorem zm_623 (x : Cond) : (.fieldLink RX12 475 "MumpsHouseModel" "torn" "I" : Cond) ∈ x :: zW := List.mem_cons_of_mem _ (zWs_20 _ (List.mem_of_getElem? (i := 23) rfl))
theorem zm_624 (x : Cond) : (.fieldLink RX12 478 "MumpsHouseModel" "readKey" "[B" : Cond) ∈ x :: zW := List.mem_cons_of_mem _ (zWs_20 _ (List.mem_of_getElem? (i := 24) rfl))
theorem zm_625 (x : Cond) : (.fieldLink RX12 481 "MumpsHouseModel" "readBytes" "[B" : Cond) ∈ x :: zW := List.mem_cons_of_mem _ (zWs_20 _ (List.mem_of_getElem? (i := 25) rfl))
theorem zm_626 (x : Cond) : (.fieldLink RX12 484 "MumpsHouseModel" "freshName" "[J" : Cond) ∈ x :: zW := List.mem_cons_of_mem _ (zWs_20 _ (List.mem_of_getElem? (i := 26) rfl))
theorem zm_627 (x : Cond) : (.code yX12_feed cX12_feed 8 (some .int) : Cond) ∈ x :: zW := List.mem_cons_of_mem _ (zWs_20 _ (List.mem_of_getElem? (i := 27) rfl))
theorem zm_628 (x : Cond) : (.instanceMethod yX12_feed : Cond) ∈ x :: zW := List.mem_cons_of_mem _ (zWs_20 _ (List.mem_of_getElem? (i := 28) rfl))
theorem zm_629 (x : Cond) : (.selects RX12 yX12_feed yX12_feed : Cond) ∈ x :: zW := List.mem_cons_of_mem _ (zWs_20 _ (List.mem_of_getElem? (i := 29) rfl))
theorem zm_630 (x : Cond) : (.fieldLink RX12 1530 "MumpsHouseModel" "tapeN" "I" : Cond) ∈ x :: zW := List.mem_cons_of_mem _ (zWs_21 _ (List.mem_of_getElem? (i := 0) rfl))
theorem zm_631 (x : Cond) : (.code yX12_end cX12_end 2 (some .int) : Cond) ∈ x :: zW := List.mem_cons_of_mem _ (zWs_21 _ (List.mem_of_getElem? (i := 1) rfl))
theorem zm_632 (x : Cond) : (.instanceMethod yX12_end : Cond) ∈ x :: zW := List.mem_cons_of_mem _ (zWs_21 _ (List.mem_of_getElem? (i := 2) rfl))
theorem zm_633 (x : Cond) : (.selects RX12 yX12_end yX12_end : Cond) ∈ x :: zW := List.mem_cons_of_mem _ (zWs_21 _ (List.mem_of_getElem? (i := 3) rfl))
theorem zm_634 (x : Cond) : (.code yX12_save cX12_save 9 (some .int) : Cond) ∈ x :: zW := List.mem_cons_of_mem _ (zWs_21 _ (List.mem_of_getElem? (i := 4) rfl))
theorem zm_635 (x : Cond) : (.instanceMethod yX12_save : Cond) ∈ x :: zW := List.mem_cons_of_mem _ (zWs_21 _ (List.mem_of_getElem? (i := 5) rfl))
theorem zm_636 (x : Cond) : (.selects RX12 yX12_save yX12_save : Cond) ∈ x :: zW := List.mem_cons_of_mem _ (zWs_21 _ (List.mem_of_getElem? (i := 6) rfl))
theorem zm_637 (x : Cond) : (.fieldLink RX12 1533 "MumpsHouseModel" "isDown" "Z" : Cond) ∈ x :: zW := List.mem_cons_of_mem _ (zWs_21 _ (List.mem_of_getElem? (i := 7) rfl))
theorem zm_638 (x : Cond) : (.methodLink RX12 1536 yX12_isNameOf : Cond) ∈ x :: zW := List.mem_cons_of_mem _ (zWs_21 _ (List.mem_of_getElem? (i := 8) rfl))
theorem zm_639 (x : Cond) : (.methodLink RX12 1539 yX12_longName : Cond) ∈ x :: zW := List.mem_cons_of_mem _ (zWs_21 _ (List.mem_of_getElem? (i := 9) rfl))
theorem zm_640 (x : Cond) : (.methodLink RX12 1543 yX12_readRoutine : Cond) ∈ x :: zW := List.mem_cons_of_mem _ (zWs_21 _ (List.mem_of_getElem? (i := 10) rfl))
theorem zm_641 (x : Cond) : (.fieldLink RX12 630 "MumpsHouseModel" "faultAt" "I" : Cond) ∈ x :: zW := List.mem_cons_of_mem _ (zWs_21 _ (List.mem_of_getElem? (i := 11) rfl))
theorem zm_642 (x : Cond) : (.methodLink RX12 1229 yX12_findRoutine : Cond) ∈ x :: zW := List.mem_cons_of_mem _ (zWs_21 _ (List.mem_of_getElem? (i := 12) rfl))
theorem zm_643 (x : Cond) : (.methodLink RX12 1546 yX12_isUsed : Cond) ∈ x :: zW := List.mem_cons_of_mem _ (zWs_21 _ (List.mem_of_getElem? (i := 13) rfl))
theorem zm_644 (x : Cond) : (.fieldLink RX12 954 "MumpsHouseModel" "unitLength" "I" : Cond) ∈ x :: zW := List.mem_cons_of_mem _ (zWs_21 _ (List.mem_of_getElem? (i := 14) rfl))
theorem zm_645 (x : Cond) : (.methodLink RX12 957 yX12_unitByte : Cond) ∈ x :: zW := List.mem_cons_of_mem _ (zWs_21 _ (List.mem_of_getElem? (i := 15) rfl))
theorem zm_646 (x : Cond) : (.methodLink RX12 963 yX12_unitName : Cond) ∈ x :: zW := List.mem_cons_of_mem _ (zWs_21 _ (List.mem_of_getElem? (i := 16) rfl))
theorem zm_647 (x : Cond) : (.fieldLink RX12 838 "MumpsHouseModel" "routines" "I" : Cond) ∈ x :: zW := List.mem_cons_of_mem _ (zWs_21 _ (List.mem_of_getElem? (i := 17) rfl))
theorem zm_648 (x : Cond) : (.methodLink RX12 1013 yX12_hasDiskRoom : Cond) ∈ x :: zW := List.mem_cons_of_mem _ (zWs_21 _ (List.mem_of_getElem? (i := 18) rfl))
theorem zm_649 (x : Cond) : (.methodLink RX12 1016 yX12_unitWaits : Cond) ∈ x :: zW := List.mem_cons_of_mem _ (zWs_21 _ (List.mem_of_getElem? (i := 19) rfl))
theorem zm_650 (x : Cond) : (.methodLink RX12 1549 yX12_keepRoutine : Cond) ∈ x :: zW := List.mem_cons_of_mem _ (zWs_21 _ (List.mem_of_getElem? (i := 20) rfl))
theorem zm_651 (x : Cond) : (.code yX12_process cX12_process 6 (some .int) : Cond) ∈ x :: zW := List.mem_cons_of_mem _ (zWs_21 _ (List.mem_of_getElem? (i := 21) rfl))
theorem zm_652 (x : Cond) : (.instanceMethod yX12_process : Cond) ∈ x :: zW := List.mem_cons_of_mem _ (zWs_21 _ (List.mem_of_getElem? (i := 22) rfl))
theorem zm_653 (x : Cond) : (.selects RX12 yX12_process yX12_process : Cond) ∈ x :: zW := List.mem_cons_of_mem _ (zWs_21 _ (List.mem_of_getElem? (i := 23) rfl))
theorem zm_654 (x : Cond) : (.methodLink RX12 1254 yX12_freeSlot : Cond) ∈ x :: zW := List.mem_cons_of_mem _ (zWs_21 _ (List.mem_of_getElem? (i := 24) rfl))
theorem zm_655 (x : Cond) : (.methodLink RX12 1083 yX12_begin : Cond) ∈ x :: zW := List.mem_cons_of_mem _ (zWs_21 _ (List.mem_of_getElem? (i := 25) rfl))
theorem zm_656 (x : Cond) : (.constant RX12 1552 (224000) : Cond) ∈ x :: zW := List.mem_cons_of_mem _ (zWs_21 _ (List.mem_of_getElem? (i := 26) rfl))
theorem zm_657 (x : Cond) : (.fieldLink RX12 656 "MumpsHouseModel" "codeAt" "I" : Cond) ∈ x :: zW := List.mem_cons_of_mem _ (zWs_21 _ (List.mem_of_getElem? (i := 27) rfl))
theorem zm_658 (x : Cond) : (.methodLink RX12 847 yX12_commands : Cond) ∈ x :: zW := List.mem_cons_of_mem _ (zWs_21 _ (List.mem_of_getElem? (i := 28) rfl))
theorem zm_659 (x : Cond) : (.methodLink RX12 642 yX12_isGood : Cond) ∈ x :: zW := List.mem_cons_of_mem _ (zWs_21 _ (List.mem_of_getElem? (i := 29) rfl))
theorem zm_660 (x : Cond) : (.fieldLink RX12 1257 "MumpsHouseModel" "processes" "I" : Cond) ∈ x :: zW := List.mem_cons_of_mem _ (zWs_22 _ (List.mem_of_getElem? (i := 0) rfl))
theorem zm_661 (x : Cond) : (.methodLink RX12 1260 yX12_newProcess : Cond) ∈ x :: zW := List.mem_cons_of_mem _ (zWs_22 _ (List.mem_of_getElem? (i := 1) rfl))
theorem zm_662 (x : Cond) : (.fieldLink RX12 881 "MumpsHouseModel" "cur" "I" : Cond) ∈ x :: zW := List.mem_cons_of_mem _ (zWs_22 _ (List.mem_of_getElem? (i := 2) rfl))
theorem zm_663 (x : Cond) : (.fieldLink RX12 878 "MumpsHouseModel" "err" "I" : Cond) ∈ x :: zW := List.mem_cons_of_mem _ (zWs_22 _ (List.mem_of_getElem? (i := 3) rfl))
theorem zm_664 (x : Cond) : (.methodLink RX12 1248 yX12_pushLevel : Cond) ∈ x :: zW := List.mem_cons_of_mem _ (zWs_22 _ (List.mem_of_getElem? (i := 4) rfl))
theorem zm_665 (x : Cond) : (.methodLink RX12 1162 yX12_level : Cond) ∈ x :: zW := List.mem_cons_of_mem _ (zWs_22 _ (List.mem_of_getElem? (i := 5) rfl))
theorem zm_666 (x : Cond) : (.methodLink RX12 1391 yX12_own : Cond) ∈ x :: zW := List.mem_cons_of_mem _ (zWs_22 _ (List.mem_of_getElem? (i := 6) rfl))
theorem zm_667 (x : Cond) : (.methodLink RX12 1192 yX12_readText : Cond) ∈ x :: zW := List.mem_cons_of_mem _ (zWs_22 _ (List.mem_of_getElem? (i := 7) rfl))
theorem zm_668 (x : Cond) : (.code yX12_tell cX12_tell 6 (some .int) : Cond) ∈ x :: zW := List.mem_cons_of_mem _ (zWs_22 _ (List.mem_of_getElem? (i := 8) rfl))
theorem zm_669 (x : Cond) : (.instanceMethod yX12_tell : Cond) ∈ x :: zW := List.mem_cons_of_mem _ (zWs_22 _ (List.mem_of_getElem? (i := 9) rfl))
theorem zm_670 (x : Cond) : (.selects RX12 yX12_tell yX12_tell : Cond) ∈ x :: zW := List.mem_cons_of_mem _ (zWs_22 _ (List.mem_of_getElem? (i := 10) rfl))
theorem zm_671 (x : Cond) : (.methodLink RX12 1553 yX12_isLiving : Cond) ∈ x :: zW := List.mem_cons_of_mem _ (zWs_22 _ (List.mem_of_getElem? (i := 11) rfl))
theorem zm_672 (x : Cond) : (.code yX12_time cX12_time 3 (some .int) : Cond) ∈ x :: zW := List.mem_cons_of_mem _ (zWs_22 _ (List.mem_of_getElem? (i := 12) rfl))
theorem zm_673 (x : Cond) : (.instanceMethod yX12_time : Cond) ∈ x :: zW := List.mem_cons_of_mem _ (zWs_22 _ (List.mem_of_getElem? (i := 13) rfl))
theorem zm_674 (x : Cond) : (.selects RX12 yX12_time yX12_time : Cond) ∈ x :: zW := List.mem_cons_of_mem _ (zWs_22 _ (List.mem_of_getElem? (i := 14) rfl))
theorem zm_675 (x : Cond) : (.fieldLink RX12 1327 "MumpsHouseModel" "second" "I" : Cond) ∈ x :: zW := List.mem_cons_of_mem _ (zWs_22 _ (List.mem_of_getElem? (i := 15) rfl))
theorem zm_676 (x : Cond) : (.constant RX12 1556 (2000000000) : Cond) ∈ x :: zW := List.mem_cons_of_mem _ (zWs_22 _ (List.mem_of_getElem? (i := 16) rfl))
theorem zm_677 (x : Cond) : (.code yX12_seed cX12_seed 3 (some .int) : Cond) ∈ x :: zW := List.mem_cons_of_mem _ (zWs_22 _ (List.mem_of_getElem? (i := 17) rfl))
theorem zm_678 (x : Cond) : (.instanceMethod yX12_seed : Cond) ∈ x :: zW := List.mem_cons_of_mem _ (zWs_22 _ (List.mem_of_getElem? (i := 18) rfl))
theorem zm_679 (x : Cond) : (.selects RX12 yX12_seed yX12_seed : Cond) ∈ x :: zW := List.mem_cons_of_mem _ (zWs_22 _ (List.mem_of_getElem? (i := 19) rfl))
theorem zm_680 (x : Cond) : (.fieldLink RX12 1557 "MumpsHouseModel" "turnX" "J" : Cond) ∈ x :: zW := List.mem_cons_of_mem _ (zWs_22 _ (List.mem_of_getElem? (i := 20) rfl))
theorem zm_681 (x : Cond) : (.code yX12_turns cX12_turns 6 (some .int) : Cond) ∈ x :: zW := List.mem_cons_of_mem _ (zWs_22 _ (List.mem_of_getElem? (i := 21) rfl))
theorem zm_682 (x : Cond) : (.instanceMethod yX12_turns : Cond) ∈ x :: zW := List.mem_cons_of_mem _ (zWs_22 _ (List.mem_of_getElem? (i := 22) rfl))
theorem zm_683 (x : Cond) : (.selects RX12 yX12_turns yX12_turns : Cond) ∈ x :: zW := List.mem_cons_of_mem _ (zWs_22 _ (List.mem_of_getElem? (i := 23) rfl))
theorem zm_684 (x : Cond) : (.methodLink RX12 1560 yX12_living : Cond) ∈ x :: zW := List.mem_cons_of_mem _ (zWs_22 _ (List.mem_of_getElem? (i := 24) rfl))
theorem zm_685 (x : Cond) : (.constantLong RX12 1158 (6364136223846793005) : Cond) ∈ x :: zW := List.mem_cons_of_mem _ (zWs_22 _ (List.mem_of_getElem? (i := 25) rfl))
theorem zm_686 (x : Cond) : (.constantLong RX12 1160 (1442695040888963407) : Cond) ∈ x :: zW := List.mem_cons_of_mem _ (zWs_22 _ (List.mem_of_getElem? (i := 26) rfl))
theorem zm_687 (x : Cond) : (.fieldLink RX12 1563 "MumpsHouseModel" "turnsDone" "I" : Cond) ∈ x :: zW := List.mem_cons_of_mem _ (zWs_22 _ (List.mem_of_getElem? (i := 27) rfl))
theorem zm_688 (x : Cond) : (.methodLink RX12 1566 yX12_processTurn : Cond) ∈ x :: zW := List.mem_cons_of_mem _ (zWs_22 _ (List.mem_of_getElem? (i := 28) rfl))
theorem zm_689 (x : Cond) : (.fieldLink RX12 1569 "MumpsHouseModel" "idleTurns" "I" : Cond) ∈ x :: zW := List.mem_cons_of_mem _ (zWs_22 _ (List.mem_of_getElem? (i := 29) rfl))
theorem zm_690 (x : Cond) : (.code yX12_halt cX12_halt 3 (some .int) : Cond) ∈ x :: zW := List.mem_cons_of_mem _ (zWs_23 _ (List.mem_of_getElem? (i := 0) rfl))
theorem zm_691 (x : Cond) : (.instanceMethod yX12_halt : Cond) ∈ x :: zW := List.mem_cons_of_mem _ (zWs_23 _ (List.mem_of_getElem? (i := 1) rfl))
theorem zm_692 (x : Cond) : (.selects RX12 yX12_halt yX12_halt : Cond) ∈ x :: zW := List.mem_cons_of_mem _ (zWs_23 _ (List.mem_of_getElem? (i := 2) rfl))
theorem zm_693 (x : Cond) : (.methodLink RX12 1198 yX12_over_ : Cond) ∈ x :: zW := List.mem_cons_of_mem _ (zWs_23 _ (List.mem_of_getElem? (i := 3) rfl))
theorem zm_694 (x : Cond) : (.code yX12_state cX12_state 6 (some .int) : Cond) ∈ x :: zW := List.mem_cons_of_mem _ (zWs_23 _ (List.mem_of_getElem? (i := 4) rfl))
theorem zm_695 (x : Cond) : (.instanceMethod yX12_state : Cond) ∈ x :: zW := List.mem_cons_of_mem _ (zWs_23 _ (List.mem_of_getElem? (i := 5) rfl))
theorem zm_696 (x : Cond) : (.selects RX12 yX12_state yX12_state : Cond) ∈ x :: zW := List.mem_cons_of_mem _ (zWs_23 _ (List.mem_of_getElem? (i := 6) rfl))
theorem zm_697 (x : Cond) : (.fieldLink RX12 1186 "MumpsHouseModel" "locks" "I" : Cond) ∈ x :: zW := List.mem_cons_of_mem _ (zWs_23 _ (List.mem_of_getElem? (i := 7) rfl))
theorem zm_698 (x : Cond) : (.methodLink RX12 1572 yX12_localValues : Cond) ∈ x :: zW := List.mem_cons_of_mem _ (zWs_23 _ (List.mem_of_getElem? (i := 8) rfl))
theorem zm_699 (x : Cond) : (.code yX12_written cX12_written 4 (some .int) : Cond) ∈ x :: zW := List.mem_cons_of_mem _ (zWs_23 _ (List.mem_of_getElem? (i := 9) rfl))
theorem zm_700 (x : Cond) : (.instanceMethod yX12_written : Cond) ∈ x :: zW := List.mem_cons_of_mem _ (zWs_23 _ (List.mem_of_getElem? (i := 10) rfl))
theorem zm_701 (x : Cond) : (.selects RX12 yX12_written yX12_written : Cond) ∈ x :: zW := List.mem_cons_of_mem _ (zWs_23 _ (List.mem_of_getElem? (i := 11) rfl))
theorem zm_702 (x : Cond) : (.code yX12_take cX12_take 3 (some .int) : Cond) ∈ x :: zW := List.mem_cons_of_mem _ (zWs_23 _ (List.mem_of_getElem? (i := 12) rfl))
theorem zm_703 (x : Cond) : (.instanceMethod yX12_take : Cond) ∈ x :: zW := List.mem_cons_of_mem _ (zWs_23 _ (List.mem_of_getElem? (i := 13) rfl))
theorem zm_704 (x : Cond) : (.selects RX12 yX12_take yX12_take : Cond) ∈ x :: zW := List.mem_cons_of_mem _ (zWs_23 _ (List.mem_of_getElem? (i := 14) rfl))
theorem zm_705 (x : Cond) : (.code yX12_code cX12_code 2 (some .int) : Cond) ∈ x :: zW := List.mem_cons_of_mem _ (zWs_23 _ (List.mem_of_getElem? (i := 15) rfl))
theorem zm_706 (x : Cond) : (.instanceMethod yX12_code : Cond) ∈ x :: zW := List.mem_cons_of_mem _ (zWs_23 _ (List.mem_of_getElem? (i := 16) rfl))
theorem zm_707 (x : Cond) : (.selects RX12 yX12_code yX12_code : Cond) ∈ x :: zW := List.mem_cons_of_mem _ (zWs_23 _ (List.mem_of_getElem? (i := 17) rfl))
theorem zm_708 (x : Cond) : (.methodLink RX12 1575 yX12_resultBytes : Cond) ∈ x :: zW := List.mem_cons_of_mem _ (zWs_23 _ (List.mem_of_getElem? (i := 18) rfl))
theorem zm_709 (x : Cond) : (.fieldLink RX12 1527 "MumpsHouseModel" "resultN" "I" : Cond) ∈ x :: zW := List.mem_cons_of_mem _ (zWs_23 _ (List.mem_of_getElem? (i := 19) rfl))
theorem zm_710 (x : Cond) : (.code yX12_level cX12_level 1 (some .int) : Cond) ∈ x :: zW := List.mem_cons_of_mem _ (zWs_23 _ (List.mem_of_getElem? (i := 20) rfl))
theorem zm_711 (x : Cond) : (.instanceMethod yX12_level : Cond) ∈ x :: zW := List.mem_cons_of_mem _ (zWs_23 _ (List.mem_of_getElem? (i := 21) rfl))
theorem zm_712 (x : Cond) : (.selects RX12 yX12_level yX12_level : Cond) ∈ x :: zW := List.mem_cons_of_mem _ (zWs_23 _ (List.mem_of_getElem? (i := 22) rfl))
theorem zm_713 (x : Cond) : (.code yX12_look cX12_look 14 (some .int) : Cond) ∈ x :: zW := List.mem_cons_of_mem _ (zWs_23 _ (List.mem_of_getElem? (i := 23) rfl))
theorem zm_714 (x : Cond) : (.instanceMethod yX12_look : Cond) ∈ x :: zW := List.mem_cons_of_mem _ (zWs_23 _ (List.mem_of_getElem? (i := 24) rfl))
theorem zm_715 (x : Cond) : (.selects RX12 yX12_look yX12_look : Cond) ∈ x :: zW := List.mem_cons_of_mem _ (zWs_23 _ (List.mem_of_getElem? (i := 25) rfl))
theorem zm_716 (x : Cond) : (.methodLink RX12 1142 yX12_parseText : Cond) ∈ x :: zW := List.mem_cons_of_mem _ (zWs_23 _ (List.mem_of_getElem? (i := 26) rfl))
theorem zm_717 (x : Cond) : (.fieldLink RX12 1149 "MumpsHouseModel" "parsedName" "J" : Cond) ∈ x :: zW := List.mem_cons_of_mem _ (zWs_23 _ (List.mem_of_getElem? (i := 27) rfl))
theorem zm_718 (x : Cond) : (.methodLink RX12 927 yX12_variableOf : Cond) ∈ x :: zW := List.mem_cons_of_mem _ (zWs_23 _ (List.mem_of_getElem? (i := 28) rfl))
theorem zm_719 (x : Cond) : (.fieldLink RX12 1152 "MumpsHouseModel" "parsedLength" "I" : Cond) ∈ x :: zW := List.mem_cons_of_mem _ (zWs_23 _ (List.mem_of_getElem? (i := 29) rfl))
theorem zm_720 (x : Cond) : (.methodLink RX12 1023 yX12_dataOf : Cond) ∈ x :: zW := List.mem_cons_of_mem _ (zWs_24 _ (List.mem_of_getElem? (i := 0) rfl))
theorem zm_721 (x : Cond) : (.methodLink RX12 610 yX12_find : Cond) ∈ x :: zW := List.mem_cons_of_mem _ (zWs_24 _ (List.mem_of_getElem? (i := 1) rfl))
theorem zm_722 (x : Cond) : (.fieldLink RX12 554 "MumpsHouseModel" "textN" "I" : Cond) ∈ x :: zW := List.mem_cons_of_mem _ (zWs_24 _ (List.mem_of_getElem? (i := 2) rfl))
theorem zm_723 (x : Cond) : (.methodLink RX12 1387 yX12_nextNode : Cond) ∈ x :: zW := List.mem_cons_of_mem _ (zWs_24 _ (List.mem_of_getElem? (i := 3) rfl))
theorem zm_724 (x : Cond) : (.methodLink RX12 1363 yX12_nodeText : Cond) ∈ x :: zW := List.mem_cons_of_mem _ (zWs_24 _ (List.mem_of_getElem? (i := 4) rfl))
theorem zm_725 (x : Cond) : (.fieldLink RX12 1120 "MumpsHouseModel" "parsedMany" "I" : Cond) ∈ x :: zW := List.mem_cons_of_mem _ (zWs_24 _ (List.mem_of_getElem? (i := 5) rfl))
theorem zm_726 (x : Cond) : (.methodLink RX12 1379 yX12_nextName : Cond) ∈ x :: zW := List.mem_cons_of_mem _ (zWs_24 _ (List.mem_of_getElem? (i := 6) rfl))
theorem zm_727 (x : Cond) : (.methodLink RX12 557 yX12_put : Cond) ∈ x :: zW := List.mem_cons_of_mem _ (zWs_24 _ (List.mem_of_getElem? (i := 7) rfl))
theorem zm_728 (x : Cond) : (.methodLink RX12 1155 yX12_putName : Cond) ∈ x :: zW := List.mem_cons_of_mem _ (zWs_24 _ (List.mem_of_getElem? (i := 8) rfl))
theorem zm_729 (x : Cond) : (.methodLink RX12 624 yX12_lastOf : Cond) ∈ x :: zW := List.mem_cons_of_mem _ (zWs_24 _ (List.mem_of_getElem? (i := 9) rfl))
theorem zm_730 (x : Cond) : (.methodLink RX12 1383 yX12_nextSubscript : Cond) ∈ x :: zW := List.mem_cons_of_mem _ (zWs_24 _ (List.mem_of_getElem? (i := 10) rfl))
theorem zm_731 (x : Cond) : (.methodLink RX12 1578 yX12_resultText : Cond) ∈ x :: zW := List.mem_cons_of_mem _ (zWs_24 _ (List.mem_of_getElem? (i := 11) rfl))
theorem zm_732 (x : Cond) : (.code yX12_result cX12_result 2 (some .int) : Cond) ∈ x :: zW := List.mem_cons_of_mem _ (zWs_24 _ (List.mem_of_getElem? (i := 12) rfl))
theorem zm_733 (x : Cond) : (.instanceMethod yX12_result : Cond) ∈ x :: zW := List.mem_cons_of_mem _ (zWs_24 _ (List.mem_of_getElem? (i := 13) rfl))
theorem zm_734 (x : Cond) : (.selects RX12 yX12_result yX12_result : Cond) ∈ x :: zW := List.mem_cons_of_mem _ (zWs_24 _ (List.mem_of_getElem? (i := 14) rfl))
theorem zm_735 (x : Cond) : (.code yX12_lock cX12_lock 5 none : Cond) ∈ x :: zW := List.mem_cons_of_mem _ (zWs_24 _ (List.mem_of_getElem? (i := 15) rfl))
theorem zm_736 (x : Cond) : (.instanceMethod yX12_lock : Cond) ∈ x :: zW := List.mem_cons_of_mem _ (zWs_24 _ (List.mem_of_getElem? (i := 16) rfl))
theorem zm_737 (x : Cond) : (.selects RX12 yX12_lock yX12_lock : Cond) ∈ x :: zW := List.mem_cons_of_mem _ (zWs_24 _ (List.mem_of_getElem? (i := 17) rfl))
theorem zm_738 (x : Cond) : (.methodLink RX12 646 yX12_sign : Cond) ∈ x :: zW := List.mem_cons_of_mem _ (zWs_24 _ (List.mem_of_getElem? (i := 18) rfl))
theorem zm_739 (x : Cond) : (.fieldLink RX12 633 "MumpsHouseModel" "at" "I" : Cond) ∈ x :: zW := List.mem_cons_of_mem _ (zWs_24 _ (List.mem_of_getElem? (i := 19) rfl))
theorem zm_740 (x : Cond) : (.methodLink RX12 650 yX12_takes : Cond) ∈ x :: zW := List.mem_cons_of_mem _ (zWs_24 _ (List.mem_of_getElem? (i := 20) rfl))
theorem zm_741 (x : Cond) : (.methodLink RX12 692 yX12_opens : Cond) ∈ x :: zW := List.mem_cons_of_mem _ (zWs_24 _ (List.mem_of_getElem? (i := 21) rfl))
theorem zm_742 (x : Cond) : (.methodLink RX12 653 yX12_fail : Cond) ∈ x :: zW := List.mem_cons_of_mem _ (zWs_24 _ (List.mem_of_getElem? (i := 22) rfl))
theorem zm_743 (x : Cond) : (.methodLink RX12 723 yX12_ref : Cond) ∈ x :: zW := List.mem_cons_of_mem _ (zWs_24 _ (List.mem_of_getElem? (i := 23) rfl))
theorem zm_744 (x : Cond) : (.methodLink RX12 689 yX12_expect : Cond) ∈ x :: zW := List.mem_cons_of_mem _ (zWs_24 _ (List.mem_of_getElem? (i := 24) rfl))
theorem zm_745 (x : Cond) : (.fieldLink RX12 662 "MumpsHouseModel" "opened" "I" : Cond) ∈ x :: zW := List.mem_cons_of_mem _ (zWs_24 _ (List.mem_of_getElem? (i := 25) rfl))
theorem zm_746 (x : Cond) : (.methodLink RX12 686 yX12_expression : Cond) ∈ x :: zW := List.mem_cons_of_mem _ (zWs_24 _ (List.mem_of_getElem? (i := 26) rfl))
theorem zm_747 (x : Cond) : (.methodLink RX12 679 yX12_emit_ : Cond) ∈ x :: zW := List.mem_cons_of_mem _ (zWs_24 _ (List.mem_of_getElem? (i := 27) rfl))
theorem zm_748 (x : Cond) : (.methodLink RX12 659 yX12_emit : Cond) ∈ x :: zW := List.mem_cons_of_mem _ (zWs_24 _ (List.mem_of_getElem? (i := 28) rfl))
theorem zm_749 (x : Cond) : (.code yX12_count cX12_count 2 (some .int) : Cond) ∈ x :: zW := List.mem_cons_of_mem _ (zWs_24 _ (List.mem_of_getElem? (i := 29) rfl))
theorem zm_750 (x : Cond) : (.instanceMethod yX12_count : Cond) ∈ x :: zW := List.mem_cons_of_mem _ (zWs_25 _ (List.mem_of_getElem? (i := 0) rfl))
theorem zm_751 (x : Cond) : (.selects RX12 yX12_count yX12_count : Cond) ∈ x :: zW := List.mem_cons_of_mem _ (zWs_25 _ (List.mem_of_getElem? (i := 1) rfl))
theorem zm_752 (x : Cond) : (.methodLink RX12 614 yX12_countRows : Cond) ∈ x :: zW := List.mem_cons_of_mem _ (zWs_25 _ (List.mem_of_getElem? (i := 2) rfl))
theorem zm_753 (x : Cond) : (.fieldLink RX12 1348 "MumpsHouseModel" "restarts" "I" : Cond) ∈ x :: zW := List.mem_cons_of_mem _ (zWs_25 _ (List.mem_of_getElem? (i := 3) rfl))
theorem zm_754 (x : Cond) : (.fieldLink RX12 1351 "MumpsHouseModel" "conflicts" "I" : Cond) ∈ x :: zW := List.mem_cons_of_mem _ (zWs_25 _ (List.mem_of_getElem? (i := 4) rfl))
theorem zm_755 (x : Cond) : (.fieldLink RX12 1360 "MumpsHouseModel" "ended" "I" : Cond) ∈ x :: zW := List.mem_cons_of_mem _ (zWs_25 _ (List.mem_of_getElem? (i := 5) rfl))
theorem zm_756 (x : Cond) : (.fieldLink RX12 951 "MumpsHouseModel" "used" "I" : Cond) ∈ x :: zW := List.mem_cons_of_mem _ (zWs_25 _ (List.mem_of_getElem? (i := 6) rfl))
theorem zm_757 (x : Cond) : (.fieldLink RX12 972 "MumpsHouseModel" "waitingUnits" "I" : Cond) ∈ x :: zW := List.mem_cons_of_mem _ (zWs_25 _ (List.mem_of_getElem? (i := 7) rfl))
theorem zm_758 (x : Cond) : (.fieldLink RX12 948 "MumpsHouseModel" "waitingBytes" "I" : Cond) ∈ x :: zW := List.mem_cons_of_mem _ (zWs_25 _ (List.mem_of_getElem? (i := 8) rfl))
theorem zm_759 (x : Cond) : (.code yX12_sound cX12_sound 1 (some .int) : Cond) ∈ x :: zW := List.mem_cons_of_mem _ (zWs_25 _ (List.mem_of_getElem? (i := 9) rfl))
theorem zm_760 (x : Cond) : (.instanceMethod yX12_sound : Cond) ∈ x :: zW := List.mem_cons_of_mem _ (zWs_25 _ (List.mem_of_getElem? (i := 10) rfl))
theorem zm_761 (x : Cond) : (.selects RX12 yX12_sound yX12_sound : Cond) ∈ x :: zW := List.mem_cons_of_mem _ (zWs_25 _ (List.mem_of_getElem? (i := 11) rfl))
theorem zm_762 (x : Cond) : (.code yX12_sync cX12_sync 9 (some .int) : Cond) ∈ x :: zW := List.mem_cons_of_mem _ (zWs_25 _ (List.mem_of_getElem? (i := 12) rfl))
theorem zm_763 (x : Cond) : (.instanceMethod yX12_sync : Cond) ∈ x :: zW := List.mem_cons_of_mem _ (zWs_25 _ (List.mem_of_getElem? (i := 13) rfl))
theorem zm_764 (x : Cond) : (.selects RX12 yX12_sync yX12_sync : Cond) ∈ x :: zW := List.mem_cons_of_mem _ (zWs_25 _ (List.mem_of_getElem? (i := 14) rfl))
theorem zm_765 (x : Cond) : (.methodLink RX12 1588 yX12_sumOf : Cond) ∈ x :: zW := List.mem_cons_of_mem _ (zWs_25 _ (List.mem_of_getElem? (i := 15) rfl))
theorem zm_766 (x : Cond) : (.fieldLink RX12 1592 "MumpsHouseModel" "tear" "I" : Cond) ∈ x :: zW := List.mem_cons_of_mem _ (zWs_25 _ (List.mem_of_getElem? (i := 16) rfl))
theorem zm_767 (x : Cond) : (.code yX12_cut cX12_cut 3 (some .int) : Cond) ∈ x :: zW := List.mem_cons_of_mem _ (zWs_25 _ (List.mem_of_getElem? (i := 17) rfl))
theorem zm_768 (x : Cond) : (.instanceMethod yX12_cut : Cond) ∈ x :: zW := List.mem_cons_of_mem _ (zWs_25 _ (List.mem_of_getElem? (i := 18) rfl))
theorem zm_769 (x : Cond) : (.selects RX12 yX12_cut yX12_cut : Cond) ∈ x :: zW := List.mem_cons_of_mem _ (zWs_25 _ (List.mem_of_getElem? (i := 19) rfl))
theorem zm_770 (x : Cond) : (.code yX12_start cX12_start 7 (some .int) : Cond) ∈ x :: zW := List.mem_cons_of_mem _ (zWs_25 _ (List.mem_of_getElem? (i := 20) rfl))
theorem zm_771 (x : Cond) : (.instanceMethod yX12_start : Cond) ∈ x :: zW := List.mem_cons_of_mem _ (zWs_25 _ (List.mem_of_getElem? (i := 21) rfl))
theorem zm_772 (x : Cond) : (.selects RX12 yX12_start yX12_start : Cond) ∈ x :: zW := List.mem_cons_of_mem _ (zWs_25 _ (List.mem_of_getElem? (i := 22) rfl))
theorem zm_773 (x : Cond) : (.fieldLink RX12 599 "MumpsHouseModel" "rows" "I" : Cond) ∈ x :: zW := List.mem_cons_of_mem _ (zWs_25 _ (List.mem_of_getElem? (i := 23) rfl))
theorem zm_774 (x : Cond) : (.methodLink RX12 1595 yX12_isRight : Cond) ∈ x :: zW := List.mem_cons_of_mem _ (zWs_25 _ (List.mem_of_getElem? (i := 24) rfl))
theorem zm_775 (x : Cond) : (.methodLink RX12 1598 yX12_doUnits : Cond) ∈ x :: zW := List.mem_cons_of_mem _ (zWs_25 _ (List.mem_of_getElem? (i := 25) rfl))
theorem zm_776 (x : Cond) : (.code yX12_octet cX12_octet 3 (some .int) : Cond) ∈ x :: zW := List.mem_cons_of_mem _ (zWs_25 _ (List.mem_of_getElem? (i := 26) rfl))
theorem zm_777 (x : Cond) : (.instanceMethod yX12_octet : Cond) ∈ x :: zW := List.mem_cons_of_mem _ (zWs_25 _ (List.mem_of_getElem? (i := 27) rfl))
theorem zm_778 (x : Cond) : (.selects RX12 yX12_octet yX12_octet : Cond) ∈ x :: zW := List.mem_cons_of_mem _ (zWs_25 _ (List.mem_of_getElem? (i := 28) rfl))
theorem zm_779 (x : Cond) : (.code yX12_poke cX12_poke 4 (some .int) : Cond) ∈ x :: zW := List.mem_cons_of_mem _ (zWs_25 _ (List.mem_of_getElem? (i := 29) rfl))
theorem zm_780 (x : Cond) : (.instanceMethod yX12_poke : Cond) ∈ x :: zW := List.mem_cons_of_mem _ (zWs_26 _ (List.mem_of_getElem? (i := 0) rfl))
theorem zm_781 (x : Cond) : (.selects RX12 yX12_poke yX12_poke : Cond) ∈ x :: zW := List.mem_cons_of_mem _ (zWs_26 _ (List.mem_of_getElem? (i := 1) rfl))
theorem zm_782 (x : Cond) : (.code yX12_verify cX12_verify 2 (some .int) : Cond) ∈ x :: zW := List.mem_cons_of_mem _ (zWs_26 _ (List.mem_of_getElem? (i := 2) rfl))
theorem zm_783 (x : Cond) : (.instanceMethod yX12_verify : Cond) ∈ x :: zW := List.mem_cons_of_mem _ (zWs_26 _ (List.mem_of_getElem? (i := 3) rfl))
theorem zm_784 (x : Cond) : (.selects RX12 yX12_verify yX12_verify : Cond) ∈ x :: zW := List.mem_cons_of_mem _ (zWs_26 _ (List.mem_of_getElem? (i := 4) rfl))
theorem zm_785 (x : Cond) : (.code yX12_isLiving cX12_isLiving 2 (some .boolean) : Cond) ∈ x :: zW := List.mem_cons_of_mem _ (zWs_26 _ (List.mem_of_getElem? (i := 5) rfl))
theorem zm_786 (x : Cond) : (.instanceMethod yX12_isLiving : Cond) ∈ x :: zW := List.mem_cons_of_mem _ (zWs_26 _ (List.mem_of_getElem? (i := 6) rfl))
theorem zm_787 (x : Cond) : (.selects RX12 yX12_isLiving yX12_isLiving : Cond) ∈ x :: zW := List.mem_cons_of_mem _ (zWs_26 _ (List.mem_of_getElem? (i := 7) rfl))
theorem zm_788 (x : Cond) : (.code yX12_living cX12_living 3 (some .int) : Cond) ∈ x :: zW := List.mem_cons_of_mem _ (zWs_26 _ (List.mem_of_getElem? (i := 8) rfl))
theorem zm_789 (x : Cond) : (.instanceMethod yX12_living : Cond) ∈ x :: zW := List.mem_cons_of_mem _ (zWs_26 _ (List.mem_of_getElem? (i := 9) rfl))
theorem zm_790 (x : Cond) : (.selects RX12 yX12_living yX12_living : Cond) ∈ x :: zW := List.mem_cons_of_mem _ (zWs_26 _ (List.mem_of_getElem? (i := 10) rfl))
theorem zm_791 (x : Cond) : (.code yX12_freeSlot cX12_freeSlot 2 (some .int) : Cond) ∈ x :: zW := List.mem_cons_of_mem _ (zWs_26 _ (List.mem_of_getElem? (i := 11) rfl))
theorem zm_792 (x : Cond) : (.instanceMethod yX12_freeSlot : Cond) ∈ x :: zW := List.mem_cons_of_mem _ (zWs_26 _ (List.mem_of_getElem? (i := 12) rfl))
theorem zm_793 (x : Cond) : (.selects RX12 yX12_freeSlot yX12_freeSlot : Cond) ∈ x :: zW := List.mem_cons_of_mem _ (zWs_26 _ (List.mem_of_getElem? (i := 13) rfl))
theorem zm_794 (x : Cond) : (.code yX12_begin cX12_begin 4 none : Cond) ∈ x :: zW := List.mem_cons_of_mem _ (zWs_26 _ (List.mem_of_getElem? (i := 14) rfl))
theorem zm_795 (x : Cond) : (.instanceMethod yX12_begin : Cond) ∈ x :: zW := List.mem_cons_of_mem _ (zWs_26 _ (List.mem_of_getElem? (i := 15) rfl))
theorem zm_796 (x : Cond) : (.selects RX12 yX12_begin yX12_begin : Cond) ∈ x :: zW := List.mem_cons_of_mem _ (zWs_26 _ (List.mem_of_getElem? (i := 16) rfl))
theorem zm_797 (x : Cond) : (.fieldLink RX12 639 "MumpsHouseModel" "src" "[B" : Cond) ∈ x :: zW := List.mem_cons_of_mem _ (zWs_26 _ (List.mem_of_getElem? (i := 17) rfl))
theorem zm_798 (x : Cond) : (.fieldLink RX12 636 "MumpsHouseModel" "end" "I" : Cond) ∈ x :: zW := List.mem_cons_of_mem _ (zWs_26 _ (List.mem_of_getElem? (i := 18) rfl))
theorem zm_799 (x : Cond) : (.code yX12_commands cX12_commands 3 none : Cond) ∈ x :: zW := List.mem_cons_of_mem _ (zWs_26 _ (List.mem_of_getElem? (i := 19) rfl))
theorem zm_800 (x : Cond) : (.instanceMethod yX12_commands : Cond) ∈ x :: zW := List.mem_cons_of_mem _ (zWs_26 _ (List.mem_of_getElem? (i := 20) rfl))
theorem zm_801 (x : Cond) : (.selects RX12 yX12_commands yX12_commands : Cond) ∈ x :: zW := List.mem_cons_of_mem _ (zWs_26 _ (List.mem_of_getElem? (i := 21) rfl))
theorem zm_802 (x : Cond) : (.methodLink RX12 835 yX12_command : Cond) ∈ x :: zW := List.mem_cons_of_mem _ (zWs_26 _ (List.mem_of_getElem? (i := 22) rfl))
theorem zm_803 (x : Cond) : (.code yX12_isGood cX12_isGood 1 (some .boolean) : Cond) ∈ x :: zW := List.mem_cons_of_mem _ (zWs_26 _ (List.mem_of_getElem? (i := 23) rfl))
theorem zm_804 (x : Cond) : (.instanceMethod yX12_isGood : Cond) ∈ x :: zW := List.mem_cons_of_mem _ (zWs_26 _ (List.mem_of_getElem? (i := 24) rfl))
theorem zm_805 (x : Cond) : (.selects RX12 yX12_isGood yX12_isGood : Cond) ∈ x :: zW := List.mem_cons_of_mem _ (zWs_26 _ (List.mem_of_getElem? (i := 25) rfl))
theorem zm_806 (x : Cond) : (.code yX12_emit cX12_emit 2 none : Cond) ∈ x :: zW := List.mem_cons_of_mem _ (zWs_26 _ (List.mem_of_getElem? (i := 26) rfl))
theorem zm_807 (x : Cond) : (.instanceMethod yX12_emit : Cond) ∈ x :: zW := List.mem_cons_of_mem _ (zWs_26 _ (List.mem_of_getElem? (i := 27) rfl))
theorem zm_808 (x : Cond) : (.selects RX12 yX12_emit yX12_emit : Cond) ∈ x :: zW := List.mem_cons_of_mem _ (zWs_26 _ (List.mem_of_getElem? (i := 28) rfl))
theorem zm_809 (x : Cond) : (.code yX12_newProcess cX12_newProcess 3 none : Cond) ∈ x :: zW := List.mem_cons_of_mem _ (zWs_26 _ (List.mem_of_getElem? (i := 29) rfl))
theorem zm_810 (x : Cond) : (.instanceMethod yX12_newProcess : Cond) ∈ x :: zW := List.mem_cons_of_mem _ (zWs_27 _ (List.mem_of_getElem? (i := 0) rfl))
theorem zm_811 (x : Cond) : (.selects RX12 yX12_newProcess yX12_newProcess : Cond) ∈ x :: zW := List.mem_cons_of_mem _ (zWs_27 _ (List.mem_of_getElem? (i := 1) rfl))
theorem zm_812 (x : Cond) : (.constant RX12 1263 (238000) : Cond) ∈ x :: zW := List.mem_cons_of_mem _ (zWs_27 _ (List.mem_of_getElem? (i := 2) rfl))
theorem zm_813 (x : Cond) : (.constant RX12 738 (100000) : Cond) ∈ x :: zW := List.mem_cons_of_mem _ (zWs_27 _ (List.mem_of_getElem? (i := 3) rfl))
theorem zm_814 (x : Cond) : (.code yX12_pushLevel cX12_pushLevel 5 (some .boolean) : Cond) ∈ x :: zW := List.mem_cons_of_mem _ (zWs_27 _ (List.mem_of_getElem? (i := 4) rfl))
theorem zm_815 (x : Cond) : (.instanceMethod yX12_pushLevel : Cond) ∈ x :: zW := List.mem_cons_of_mem _ (zWs_27 _ (List.mem_of_getElem? (i := 5) rfl))
theorem zm_816 (x : Cond) : (.selects RX12 yX12_pushLevel yX12_pushLevel : Cond) ∈ x :: zW := List.mem_cons_of_mem _ (zWs_27 _ (List.mem_of_getElem? (i := 6) rfl))
theorem zm_817 (x : Cond) : (.methodLink RX12 884 yX12_error : Cond) ∈ x :: zW := List.mem_cons_of_mem _ (zWs_27 _ (List.mem_of_getElem? (i := 7) rfl))
theorem zm_818 (x : Cond) : (.fieldLink RX12 1165 "MumpsHouseModel" "serials" "I" : Cond) ∈ x :: zW := List.mem_cons_of_mem _ (zWs_27 _ (List.mem_of_getElem? (i := 8) rfl))
theorem zm_819 (x : Cond) : (.methodLink RX12 1168 yX12_me : Cond) ∈ x :: zW := List.mem_cons_of_mem _ (zWs_27 _ (List.mem_of_getElem? (i := 9) rfl))
theorem zm_820 (x : Cond) : (.code yX12_own cX12_own 5 none : Cond) ∈ x :: zW := List.mem_cons_of_mem _ (zWs_27 _ (List.mem_of_getElem? (i := 10) rfl))
theorem zm_821 (x : Cond) : (.instanceMethod yX12_own : Cond) ∈ x :: zW := List.mem_cons_of_mem _ (zWs_27 _ (List.mem_of_getElem? (i := 11) rfl))
theorem zm_822 (x : Cond) : (.selects RX12 yX12_own yX12_own : Cond) ∈ x :: zW := List.mem_cons_of_mem _ (zWs_27 _ (List.mem_of_getElem? (i := 12) rfl))
theorem zm_823 (x : Cond) : (.code yX12_readText cX12_readText 5 (some .boolean) : Cond) ∈ x :: zW := List.mem_cons_of_mem _ (zWs_27 _ (List.mem_of_getElem? (i := 13) rfl))
theorem zm_824 (x : Cond) : (.instanceMethod yX12_readText : Cond) ∈ x :: zW := List.mem_cons_of_mem _ (zWs_27 _ (List.mem_of_getElem? (i := 14) rfl))
theorem zm_825 (x : Cond) : (.selects RX12 yX12_readText yX12_readText : Cond) ∈ x :: zW := List.mem_cons_of_mem _ (zWs_27 _ (List.mem_of_getElem? (i := 15) rfl))
theorem zm_826 (x : Cond) : (.code yX12_countRows cX12_countRows 4 (some .int) : Cond) ∈ x :: zW := List.mem_cons_of_mem _ (zWs_27 _ (List.mem_of_getElem? (i := 16) rfl))
theorem zm_827 (x : Cond) : (.instanceMethod yX12_countRows : Cond) ∈ x :: zW := List.mem_cons_of_mem _ (zWs_27 _ (List.mem_of_getElem? (i := 17) rfl))
theorem zm_828 (x : Cond) : (.selects RX12 yX12_countRows yX12_countRows : Cond) ∈ x :: zW := List.mem_cons_of_mem _ (zWs_27 _ (List.mem_of_getElem? (i := 18) rfl))
theorem zm_829 (x : Cond) : (.code yX12_level_ cX12_level_ 6 (some .int) : Cond) ∈ x :: zW := List.mem_cons_of_mem _ (zWs_27 _ (List.mem_of_getElem? (i := 19) rfl))
theorem zm_830 (x : Cond) : (.instanceMethod yX12_level_ : Cond) ∈ x :: zW := List.mem_cons_of_mem _ (zWs_27 _ (List.mem_of_getElem? (i := 20) rfl))
theorem zm_831 (x : Cond) : (.selects RX12 yX12_level_ yX12_level_ : Cond) ∈ x :: zW := List.mem_cons_of_mem _ (zWs_27 _ (List.mem_of_getElem? (i := 21) rfl))
theorem zm_832 (x : Cond) : (.methodLink RX12 1581 yX12_levelLine : Cond) ∈ x :: zW := List.mem_cons_of_mem _ (zWs_27 _ (List.mem_of_getElem? (i := 22) rfl))
theorem zm_833 (x : Cond) : (.code yX12_me cX12_me 1 (some .int) : Cond) ∈ x :: zW := List.mem_cons_of_mem _ (zWs_27 _ (List.mem_of_getElem? (i := 23) rfl))
theorem zm_834 (x : Cond) : (.instanceMethod yX12_me : Cond) ∈ x :: zW := List.mem_cons_of_mem _ (zWs_27 _ (List.mem_of_getElem? (i := 24) rfl))
theorem zm_835 (x : Cond) : (.selects RX12 yX12_me yX12_me : Cond) ∈ x :: zW := List.mem_cons_of_mem _ (zWs_27 _ (List.mem_of_getElem? (i := 25) rfl))
theorem zm_836 (x : Cond) : (.code yX12_lock__ cX12_lock__ 7 (some .int) : Cond) ∈ x :: zW := List.mem_cons_of_mem _ (zWs_27 _ (List.mem_of_getElem? (i := 26) rfl))
theorem zm_837 (x : Cond) : (.instanceMethod yX12_lock__ : Cond) ∈ x :: zW := List.mem_cons_of_mem _ (zWs_27 _ (List.mem_of_getElem? (i := 27) rfl))
theorem zm_838 (x : Cond) : (.selects RX12 yX12_lock__ yX12_lock__ : Cond) ∈ x :: zW := List.mem_cons_of_mem _ (zWs_27 _ (List.mem_of_getElem? (i := 28) rfl))
theorem zm_839 (x : Cond) : (.methodLink RX12 1584 yX12_isLockBefore : Cond) ∈ x :: zW := List.mem_cons_of_mem _ (zWs_27 _ (List.mem_of_getElem? (i := 29) rfl))
theorem zm_840 (x : Cond) : (.code yX12_sign cX12_sign 1 (some .int) : Cond) ∈ x :: zW := List.mem_cons_of_mem _ (zWs_28 _ (List.mem_of_getElem? (i := 0) rfl))
theorem zm_841 (x : Cond) : (.instanceMethod yX12_sign : Cond) ∈ x :: zW := List.mem_cons_of_mem _ (zWs_28 _ (List.mem_of_getElem? (i := 1) rfl))
theorem zm_842 (x : Cond) : (.selects RX12 yX12_sign yX12_sign : Cond) ∈ x :: zW := List.mem_cons_of_mem _ (zWs_28 _ (List.mem_of_getElem? (i := 2) rfl))
theorem zm_843 (x : Cond) : (.classLink RL 7 RX11 : Cond) ∈ x :: zW := List.mem_cons_of_mem _ (zWs_28 _ (List.mem_of_getElem? (i := 3) rfl))
theorem zm_844 (x : Cond) : (.methodLink RL 9 yX11_init : Cond) ∈ x :: zW := List.mem_cons_of_mem _ (zWs_28 _ (List.mem_of_getElem? (i := 4) rfl))
theorem zm_845 (x : Cond) : (.classLink RL 10 RX12 : Cond) ∈ x :: zW := List.mem_cons_of_mem _ (zWs_28 _ (List.mem_of_getElem? (i := 5) rfl))
theorem zm_846 (x : Cond) : (.methodLink RL 12 yX12_init : Cond) ∈ x :: zW := List.mem_cons_of_mem _ (zWs_28 _ (List.mem_of_getElem? (i := 6) rfl))
theorem zm_847 (x : Cond) : (.methodLink RL 13 yX11_feed : Cond) ∈ x :: zW := List.mem_cons_of_mem _ (zWs_28 _ (List.mem_of_getElem? (i := 7) rfl))
theorem zm_848 (x : Cond) : (.methodLink RL 17 yX12_feed : Cond) ∈ x :: zW := List.mem_cons_of_mem _ (zWs_28 _ (List.mem_of_getElem? (i := 8) rfl))
theorem zm_849 (x : Cond) : (.methodLink RL 18 yX11_end : Cond) ∈ x :: zW := List.mem_cons_of_mem _ (zWs_28 _ (List.mem_of_getElem? (i := 9) rfl))
theorem zm_850 (x : Cond) : (.methodLink RL 22 yX12_end : Cond) ∈ x :: zW := List.mem_cons_of_mem _ (zWs_28 _ (List.mem_of_getElem? (i := 10) rfl))
theorem zm_851 (x : Cond) : (.methodLink RL 23 yX11_save : Cond) ∈ x :: zW := List.mem_cons_of_mem _ (zWs_28 _ (List.mem_of_getElem? (i := 11) rfl))
theorem zm_852 (x : Cond) : (.methodLink RL 26 yX12_save : Cond) ∈ x :: zW := List.mem_cons_of_mem _ (zWs_28 _ (List.mem_of_getElem? (i := 12) rfl))
theorem zm_853 (x : Cond) : (.methodLink RL 27 yX11_process : Cond) ∈ x :: zW := List.mem_cons_of_mem _ (zWs_28 _ (List.mem_of_getElem? (i := 13) rfl))
theorem zm_854 (x : Cond) : (.methodLink RL 31 yX12_process : Cond) ∈ x :: zW := List.mem_cons_of_mem _ (zWs_28 _ (List.mem_of_getElem? (i := 14) rfl))
theorem zm_855 (x : Cond) : (.methodLink RL 32 yX11_tell : Cond) ∈ x :: zW := List.mem_cons_of_mem _ (zWs_28 _ (List.mem_of_getElem? (i := 15) rfl))
theorem zm_856 (x : Cond) : (.methodLink RL 35 yX12_tell : Cond) ∈ x :: zW := List.mem_cons_of_mem _ (zWs_28 _ (List.mem_of_getElem? (i := 16) rfl))
theorem zm_857 (x : Cond) : (.methodLink RL 36 yX11_time : Cond) ∈ x :: zW := List.mem_cons_of_mem _ (zWs_28 _ (List.mem_of_getElem? (i := 17) rfl))
theorem zm_858 (x : Cond) : (.methodLink RL 39 yX12_time : Cond) ∈ x :: zW := List.mem_cons_of_mem _ (zWs_28 _ (List.mem_of_getElem? (i := 18) rfl))
theorem zm_859 (x : Cond) : (.constantLong RL 40 (4294967295) : Cond) ∈ x :: zW := List.mem_cons_of_mem _ (zWs_28 _ (List.mem_of_getElem? (i := 19) rfl))
theorem zm_860 (x : Cond) : (.methodLink RL 42 yX11_seed : Cond) ∈ x :: zW := List.mem_cons_of_mem _ (zWs_28 _ (List.mem_of_getElem? (i := 20) rfl))
theorem zm_861 (x : Cond) : (.methodLink RL 46 yX12_seed : Cond) ∈ x :: zW := List.mem_cons_of_mem _ (zWs_28 _ (List.mem_of_getElem? (i := 21) rfl))
theorem zm_862 (x : Cond) : (.methodLink RL 47 yX11_turns : Cond) ∈ x :: zW := List.mem_cons_of_mem _ (zWs_28 _ (List.mem_of_getElem? (i := 22) rfl))
theorem zm_863 (x : Cond) : (.methodLink RL 50 yX12_turns : Cond) ∈ x :: zW := List.mem_cons_of_mem _ (zWs_28 _ (List.mem_of_getElem? (i := 23) rfl))
theorem zm_864 (x : Cond) : (.methodLink RL 51 yX11_halt : Cond) ∈ x :: zW := List.mem_cons_of_mem _ (zWs_28 _ (List.mem_of_getElem? (i := 24) rfl))
theorem zm_865 (x : Cond) : (.methodLink RL 54 yX12_halt : Cond) ∈ x :: zW := List.mem_cons_of_mem _ (zWs_28 _ (List.mem_of_getElem? (i := 25) rfl))
theorem zm_866 (x : Cond) : (.methodLink RL 55 yX11_state : Cond) ∈ x :: zW := List.mem_cons_of_mem _ (zWs_28 _ (List.mem_of_getElem? (i := 26) rfl))
theorem zm_867 (x : Cond) : (.methodLink RL 59 yX12_state : Cond) ∈ x :: zW := List.mem_cons_of_mem _ (zWs_28 _ (List.mem_of_getElem? (i := 27) rfl))
theorem zm_868 (x : Cond) : (.methodLink RL 60 yX11_written : Cond) ∈ x :: zW := List.mem_cons_of_mem _ (zWs_28 _ (List.mem_of_getElem? (i := 28) rfl))
theorem zm_869 (x : Cond) : (.methodLink RL 63 yX12_written : Cond) ∈ x :: zW := List.mem_cons_of_mem _ (zWs_28 _ (List.mem_of_getElem? (i := 29) rfl))
theorem zm_870 (x : Cond) : (.methodLink RL 64 yX11_take : Cond) ∈ x :: zW := List.mem_cons_of_mem _ (zWs_29 _ (List.mem_of_getElem? (i := 0) rfl))
theorem zm_871 (x : Cond) : (.methodLink RL 67 yX12_take : Cond) ∈ x :: zW := List.mem_cons_of_mem _ (zWs_29 _ (List.mem_of_getElem? (i := 1) rfl))
theorem zm_872 (x : Cond) : (.methodLink RL 68 yX11_code : Cond) ∈ x :: zW := List.mem_cons_of_mem _ (zWs_29 _ (List.mem_of_getElem? (i := 2) rfl))
theorem zm_873 (x : Cond) : (.methodLink RL 71 yX12_code : Cond) ∈ x :: zW := List.mem_cons_of_mem _ (zWs_29 _ (List.mem_of_getElem? (i := 3) rfl))
theorem zm_874 (x : Cond) : (.methodLink RL 72 yX11_level : Cond) ∈ x :: zW := List.mem_cons_of_mem _ (zWs_29 _ (List.mem_of_getElem? (i := 4) rfl))
theorem zm_875 (x : Cond) : (.methodLink RL 76 yX12_level_ : Cond) ∈ x :: zW := List.mem_cons_of_mem _ (zWs_29 _ (List.mem_of_getElem? (i := 5) rfl))
theorem zm_876 (x : Cond) : (.methodLink RL 77 yX11_look : Cond) ∈ x :: zW := List.mem_cons_of_mem _ (zWs_29 _ (List.mem_of_getElem? (i := 6) rfl))
theorem zm_877 (x : Cond) : (.methodLink RL 80 yX12_look : Cond) ∈ x :: zW := List.mem_cons_of_mem _ (zWs_29 _ (List.mem_of_getElem? (i := 7) rfl))
theorem zm_878 (x : Cond) : (.methodLink RL 81 yX11_result : Cond) ∈ x :: zW := List.mem_cons_of_mem _ (zWs_29 _ (List.mem_of_getElem? (i := 8) rfl))
theorem zm_879 (x : Cond) : (.methodLink RL 84 yX12_result : Cond) ∈ x :: zW := List.mem_cons_of_mem _ (zWs_29 _ (List.mem_of_getElem? (i := 9) rfl))
theorem zm_880 (x : Cond) : (.methodLink RL 85 yX11_lock : Cond) ∈ x :: zW := List.mem_cons_of_mem _ (zWs_29 _ (List.mem_of_getElem? (i := 10) rfl))
theorem zm_881 (x : Cond) : (.methodLink RL 88 yX12_lock__ : Cond) ∈ x :: zW := List.mem_cons_of_mem _ (zWs_29 _ (List.mem_of_getElem? (i := 11) rfl))
theorem zm_882 (x : Cond) : (.methodLink RL 89 yX11_count : Cond) ∈ x :: zW := List.mem_cons_of_mem _ (zWs_29 _ (List.mem_of_getElem? (i := 12) rfl))
theorem zm_883 (x : Cond) : (.methodLink RL 92 yX12_count : Cond) ∈ x :: zW := List.mem_cons_of_mem _ (zWs_29 _ (List.mem_of_getElem? (i := 13) rfl))
theorem zm_884 (x : Cond) : (.methodLink RL 93 yX11_sound : Cond) ∈ x :: zW := List.mem_cons_of_mem _ (zWs_29 _ (List.mem_of_getElem? (i := 14) rfl))
theorem zm_885 (x : Cond) : (.methodLink RL 96 yX12_sound : Cond) ∈ x :: zW := List.mem_cons_of_mem _ (zWs_29 _ (List.mem_of_getElem? (i := 15) rfl))
theorem zm_886 (x : Cond) : (.methodLink RL 97 yX11_sync : Cond) ∈ x :: zW := List.mem_cons_of_mem _ (zWs_29 _ (List.mem_of_getElem? (i := 16) rfl))
theorem zm_887 (x : Cond) : (.methodLink RL 100 yX12_sync : Cond) ∈ x :: zW := List.mem_cons_of_mem _ (zWs_29 _ (List.mem_of_getElem? (i := 17) rfl))
theorem zm_888 (x : Cond) : (.methodLink RL 101 yX11_cut : Cond) ∈ x :: zW := List.mem_cons_of_mem _ (zWs_29 _ (List.mem_of_getElem? (i := 18) rfl))
theorem zm_889 (x : Cond) : (.methodLink RL 104 yX12_cut : Cond) ∈ x :: zW := List.mem_cons_of_mem _ (zWs_29 _ (List.mem_of_getElem? (i := 19) rfl))
theorem zm_890 (x : Cond) : (.methodLink RL 105 yX11_start : Cond) ∈ x :: zW := List.mem_cons_of_mem _ (zWs_29 _ (List.mem_of_getElem? (i := 20) rfl))
theorem zm_891 (x : Cond) : (.methodLink RL 108 yX12_start : Cond) ∈ x :: zW := List.mem_cons_of_mem _ (zWs_29 _ (List.mem_of_getElem? (i := 21) rfl))
theorem zm_892 (x : Cond) : (.methodLink RL 109 yX11_octet : Cond) ∈ x :: zW := List.mem_cons_of_mem _ (zWs_29 _ (List.mem_of_getElem? (i := 22) rfl))
theorem zm_893 (x : Cond) : (.methodLink RL 112 yX12_octet : Cond) ∈ x :: zW := List.mem_cons_of_mem _ (zWs_29 _ (List.mem_of_getElem? (i := 23) rfl))
theorem zm_894 (x : Cond) : (.methodLink RL 113 yX11_poke : Cond) ∈ x :: zW := List.mem_cons_of_mem _ (zWs_29 _ (List.mem_of_getElem? (i := 24) rfl))
theorem zm_895 (x : Cond) : (.methodLink RL 116 yX12_poke : Cond) ∈ x :: zW := List.mem_cons_of_mem _ (zWs_29 _ (List.mem_of_getElem? (i := 25) rfl))
theorem zm_896 (x : Cond) : (.methodLink RL 117 yX11_verify : Cond) ∈ x :: zW := List.mem_cons_of_mem _ (zWs_29 _ (List.mem_of_getElem? (i := 26) rfl))
theorem zm_897 (x : Cond) : (.methodLink RL 120 yX12_verify : Cond) ∈ x :: zW := List.mem_cons_of_mem _ (zWs_29 _ (List.mem_of_getElem? (i := 27) rfl))
theorem zm_898 (x : Cond) : (.instantiable RX8 18 : Cond) ∈ x :: zW := List.mem_cons_of_mem _ (zWs_29 _ (List.mem_of_getElem? (i := 28) rfl))
theorem zm_899 (x : Cond) : (.instantiable RX9 8 : Cond) ∈ x :: zW := List.mem_cons_of_mem _ (zWs_29 _ (List.mem_of_getElem? (i := 29) rfl))
theorem zm_900 (x : Cond) : (.native arraycopyName : Cond) ∈ x :: zW := List.mem_cons_of_mem _ (zWs_30 _ (List.mem_of_getElem? (i := 0) rfl))
theorem zm_901 (x : Cond) : (.static arraycopyName : Cond) ∈ x :: zW := List.mem_cons_of_mem _ (zWs_30 _ (List.mem_of_getElem? (i := 1) rfl))
theorem zm_902 (x : Cond) : (.initialized "java/lang/System" : Cond) ∈ x :: zW := List.mem_cons_of_mem _ (zWs_30 _ (List.mem_of_getElem? (i := 2) rfl))
theorem zm_903 (x : Cond) : (.instantiable RX1 16 : Cond) ∈ x :: zW := List.mem_cons_of_mem _ (zWs_30 _ (List.mem_of_getElem? (i := 3) rfl))
theorem zm_904 (x : Cond) : (.instantiable RX7 20 : Cond) ∈ x :: zW := List.mem_cons_of_mem _ (zWs_30 _ (List.mem_of_getElem? (i := 4) rfl))
theorem zm_905 (x : Cond) : (.instantiable RX10 20 : Cond) ∈ x :: zW := List.mem_cons_of_mem _ (zWs_30 _ (List.mem_of_getElem? (i := 5) rfl))
theorem zm_906 (x : Cond) : (.instantiable RX0 18 : Cond) ∈ x :: zW := List.mem_cons_of_mem _ (zWs_30 _ (List.mem_of_getElem? (i := 6) rfl))
theorem zm_907 (x : Cond) : (.instantiable RX2 19 : Cond) ∈ x :: zW := List.mem_cons_of_mem _ (zWs_30 _ (List.mem_of_getElem? (i := 7) rfl))
theorem zm_908 (x : Cond) : (.instantiable RX11 6 : Cond) ∈ x :: zW := List.mem_cons_of_mem _ (zWs_30 _ (List.mem_of_getElem? (i := 8) rfl))
theorem zm_909 (x : Cond) : (.instantiable RX12 212 : Cond) ∈ x :: zW := List.mem_cons_of_mem _ (zWs_30 _ (List.mem_of_getElem? (i := 9) rfl))
def zN : List Cond := [.methodLinkNest RX1 11 yX6_init RX11, .methodLinkNest RX1 22 yX8_init RX11, .methodLinkNest RX5 11 yX6_init RX11, .methodLinkNest RX7 39 yX6_init RX11, .methodLinkNest RX10 9 yX6_many RX11, .methodLinkNest RX10 21 yX3_many RX11, .methodLinkNest RX10 30 yX1_many RX11, .methodLinkNest RX10 39 yX8_many RX11, .methodLinkNest RX10 56 yX4_many RX11, .methodLinkNest RX10 71 yX3_init RX11, .methodLinkNest RX10 78 yX7_init RX11, .methodLinkNest RX9 9 yX3_many RX11, .methodLinkNest RX9 21 yX6_many RX11, .methodLinkNest RX0 11 yX9_init RX11, .methodLinkNest RX0 20 yX8_many RX11, .methodLinkNest RX0 30 yX8_init RX11, .methodLinkNest RX0 48 yX6_init RX11, .methodLinkNest RX0 59 yX3_many RX11, .methodLinkNest RX2 11 yX9_init RX11, .methodLinkNest RX2 24 yX5_many RX11, .methodLinkNest RX2 34 yX10_many RX11, .methodLinkNest RX2 49 yX3_init RX11, .methodLinkNest RX2 59 yX4_init RX11, .methodLinkNest RX2 71 yX6_init RX11, .methodLinkNest RX11 11 yX6_init RX11, .methodLinkNest RX11 23 yX0_init RX11, .methodLinkNest RX11 30 yX2_init RX11, .methodLinkNest RX11 39 yX3_init RX11, .fieldLinkNest RX11 47 RX6 "length" "I" RX11, .methodLinkNest RX11 54 yX6_add RX11, .fieldLinkNest RX11 57 RX0 "down" "Z" RX11, .methodLinkNest RX11 61 yX6_clear RX11, .fieldLinkNest RX11 64 RX6 "bytes" "[B" RX11, .fieldLinkNest RX11 75 RX0 "spare" "LMumpsHouse$Text;" RX11, .methodLinkNest RX11 79 yX8_load RX11, .fieldLinkNest RX11 93 RX8 "fault" "I" RX11, .methodLinkNest RX11 96 yX0_routineOf RX11, .methodLinkNest RX11 100 yX0_routine RX11, .methodLinkNest RX11 104 yX2_inUse RX11, .fieldLinkNest RX11 108 RX0 "routineCount" "I" RX11, .methodLinkNest RX11 111 yX0_hasRoom RX11, .fieldLinkNest RX11 114 RX0 "waiting" "LMumpsHouse$Row;" RX11, .methodLinkNest RX11 117 yX6_addPart RX11, .methodLinkNest RX11 120 yX0_unitIsWhole RX11, .methodLinkNest RX11 123 yX0_keep RX11, .fieldLinkNest RX11 127 RX8 "lines" "I" RX11, .methodLinkNest RX11 144 yX8_readPiece RX11, .methodLinkNest RX11 147 yX2_beginProcess RX11, .fieldLinkNest RX11 151 RX5 "work" "LMumpsHouse$Work;" RX11, .fieldLinkNest RX11 157 RX10 "text" "LMumpsHouse$Text;" RX11, .fieldLinkNest RX11 162 RX5 "number" "I" RX11, .methodLinkNest RX11 165 yX2_living RX11, .methodLinkNest RX11 169 yX10_addTold RX11, .fieldLinkNest RX11 173 RX10 "toldCount" "I" RX11, .fieldLinkNest RX11 176 RX0 "second" "I" RX11, .fieldLinkNest RX11 180 RX0 "x" "J" RX11, .methodLinkNest RX11 184 yX2_choose RX11, .fieldLinkNest RX11 190 RX2 "phase" "I" RX11, .fieldLinkNest RX11 193 RX2 "error" "I" RX11, .methodLinkNest RX11 196 yX2_fetch RX11, .methodLinkNest RX11 199 yX2_unwind RX11, .fieldLinkNest RX11 202 RX2 "work" "LMumpsHouse$Work;" RX11, .methodLinkNest RX11 203 yX2_readingEnded RX11, .methodLinkNest RX11 206 yX2_endLine RX11, .methodLinkNest RX11 209 yX2_endLevel RX11, .methodLinkNest RX11 212 yX2_restart RX11, .methodLinkNest RX11 215 yX2_expression RX11, .methodLinkNest RX11 219 yX2_enter RX11, .methodLinkNest RX11 222 yX2_flow RX11, .methodLinkNest RX11 225 yX2_act RX11, .methodLinkNest RX11 228 yX2_proc RX11, .fieldLinkNest RX11 231 RX10 "levelCount" "I" RX11, .methodLinkNest RX11 234 yX2_dismiss RX11, .fieldLinkNest RX11 238 RX5 "status" "I" RX11, .fieldLinkNest RX11 241 RX5 "wait" "I" RX11, .fieldLinkNest RX11 244 RX5 "test" "I" RX11, .fieldLinkNest RX11 247 RX5 "depth" "I" RX11, .fieldLinkNest RX11 250 RX5 "restarts" "I" RX11, .fieldLinkNest RX11 253 RX5 "x" "I" RX11, .fieldLinkNest RX11 255 RX5 "y" "I" RX11, .fieldLinkNest RX11 258 RX5 "out" "LMumpsHouse$Row;" RX11, .fieldLinkNest RX11 261 RX5 "began" "I" RX11, .methodLinkNest RX11 264 yX0_locksOf RX11, .fieldLinkNest RX11 268 RX10 "scope" "LMumpsHouse$Scope;" RX11, .methodLinkNest RX11 272 yX2_seenValues RX11, .methodLinkNest RX11 276 yX6_at RX11, .fieldLinkNest RX11 278 RX5 "code" "LMumpsHouse$Row;" RX11, .methodLinkNest RX11 281 yX6_copy RX11, .methodLinkNest RX11 285 yX10_levelAt RX11, .fieldLinkNest RX11 289 RX1 "text" "LMumpsHouse$Text;" RX11, .fieldLinkNest RX11 292 RX1 "line" "I" RX11, .fieldLinkNest RX11 295 RX8 "bytes" "[B" RX11, .methodLinkNest RX11 296 yX8_startOf RX11, .methodLinkNest RX11 299 yX8_lengthOf RX11, .fieldLinkNest RX11 302 RX8 "name" "J" RX11, .methodLinkNest RX11 305 yX6_addName RX11, .methodLinkNest RX11 308 yX3_read RX11, .fieldLinkNest RX11 312 RX3 "lastEmpty" "Z" RX11, .methodLinkNest RX11 315 yX2_answer RX11, .methodLinkNest RX11 319 yX0_lockAt RX11, .fieldLinkNest RX11 323 RX3 "owner" "I" RX11, .fieldLinkNest RX11 326 RX3 "times" "I" RX11, .methodLinkNest RX11 329 yX3_text RX11, .fieldLinkNest RX11 332 RX0 "globals" "LMumpsHouse$Tree;" RX11, .fieldLinkNest RX11 336 RX9 "count" "I" RX11, .fieldLinkNest RX11 341 RX2 "locals" "LMumpsHouse$Tree;" RX11, .fieldLinkNest RX11 344 RX2 "procCount" "I" RX11, .methodLinkNest RX11 347 yX2_livingCount RX11, .fieldLinkNest RX11 350 RX0 "lockCount" "I" RX11, .fieldLinkNest RX11 353 RX0 "counts" "[I" RX11, .fieldLinkNest RX11 357 RX0 "used" "I" RX11, .fieldLinkNest RX11 360 RX0 "units" "I" RX11, .methodLinkNest RX11 363 yX9_inOrder RX11, .methodLinkNest RX11 366 yX0_write RX11, .fieldLinkNest RX11 369 RX0 "cutAt" "I" RX11, .fieldLinkNest RX11 372 RX0 "tear" "I" RX11, .methodLinkNest RX11 375 yX0_begin RX11, .methodLinkNest RX11 377 yX2_begin RX11, .methodLinkNest RX11 378 yX0_gather RX11, .methodLinkNest RX11 385 yX0_behindRecord RX11, .methodLinkNest RX11 414 yX0_octetAt RX11, .fieldLinkNest RX11 417 RX0 "blocks" "[B" RX11, .methodLinkNest RX11 420 yX0_right RX11, .fieldLinkNest RX2 96 RX5 "work" "LMumpsHouse$Work;" RX11, .fieldLinkNest RX2 128 RX0 "x" "J" RX11, .methodLinkNest RX2 134 yX11_next RX11, .fieldLinkNest RX2 138 RX10 "text" "LMumpsHouse$Text;" RX11, .fieldLinkNest RX2 142 RX0 "counts" "[I" RX11, .fieldLinkNest RX2 145 RX5 "wait" "I" RX11, .methodLinkNest RX2 115 yX10_begin RX11, .methodLinkNest RX2 118 yX5_begin RX11, .methodLinkNest RX2 789 yX10_pushLevel RX11, .fieldLinkNest RX2 847 RX1 "own" "LMumpsHouse$Text;" RX11, .fieldLinkNest RX2 239 RX6 "bytes" "[B" RX11, .fieldLinkNest RX2 197 RX6 "length" "I" RX11, .methodLinkNest RX2 243 yX8_load RX11, .fieldLinkNest RX2 261 RX1 "text" "LMumpsHouse$Text;" RX11, .fieldLinkNest RX2 262 RX1 "line" "I" RX11, .fieldLinkNest RX2 165 RX10 "place" "I" RX11, .methodLinkNest RX10 108 yX3_begin RX11, .methodLinkNest RX10 112 yX7_begin RX11, .methodLinkNest RX7 59 yX6_clear RX11, .methodLinkNest RX5 63 yX6_clear RX11, .fieldLinkNest RX10 131 RX1 "kind" "I" RX11, .fieldLinkNest RX10 138 RX1 "text" "LMumpsHouse$Text;" RX11, .fieldLinkNest RX10 139 RX1 "line" "I" RX11, .fieldLinkNest RX10 142 RX1 "block" "I" RX11, .fieldLinkNest RX10 145 RX1 "test" "I" RX11, .fieldLinkNest RX10 148 RX1 "strings" "I" RX11, .fieldLinkNest RX10 150 RX1 "nodes" "I" RX11, .fieldLinkNest RX10 152 RX1 "ats" "I" RX11, .fieldLinkNest RX10 154 RX1 "loops" "I" RX11, .fieldLinkNest RX10 156 RX7 "hiddenCount" "I" RX11, .fieldLinkNest RX10 159 RX1 "hidden" "I" RX11, .fieldLinkNest RX10 162 RX1 "back" "LMumpsHouse$Text;" RX11, .fieldLinkNest RX10 168 RX1 "backPlace" "I" RX11, .fieldLinkNest RX10 171 RX1 "trapped" "Z" RX11, .fieldLinkNest RX10 175 RX1 "trap" "LMumpsHouse$Row;" RX11, .methodLinkNest RX10 118 yX6_clear RX11, .methodLinkNest RX10 179 yX6_copy RX11, .fieldLinkNest RX0 133 RX3 "owner" "I" RX11, .fieldLinkNest RX0 136 RX3 "kind" "I" RX11, .methodLinkNest RX0 139 yX3_order RX11, .fieldLinkNest RX0 87 RX6 "length" "I" RX11, .methodLinkNest RX0 178 yX6_clear RX11, .methodLinkNest RX3 93 yX6_at RX11, .methodLinkNest RX3 96 yX11_beginsName RX11, .fieldLinkNest RX3 100 RX6 "length" "I" RX11, .methodLinkNest RX3 101 yX11_goesOnName RX11, .fieldLinkNest RX3 104 RX6 "bytes" "[B" RX11, .methodLinkNest RX3 107 yX11_packed RX11, .methodLinkNest RX3 111 yX6_clear RX11, .methodLinkNest RX3 51 yX4_canonic RX11]
theorem zN_ok : zN.all z_isNest = true := by decide +kernel
theorem zn_0 : (.methodLinkNest RX1 11 yX6_init RX11 : Cond) ∈ zN := List.mem_of_getElem? (i := 0) rfl
theorem zn_1 : (.methodLinkNest RX1 22 yX8_init RX11 : Cond) ∈ zN := List.mem_of_getElem? (i := 1) rfl
theorem zn_2 : (.methodLinkNest RX5 11 yX6_init RX11 : Cond) ∈ zN := List.mem_of_getElem? (i := 2) rfl
theorem zn_3 : (.methodLinkNest RX7 39 yX6_init RX11 : Cond) ∈ zN := List.mem_of_getElem? (i := 3) rfl
theorem zn_4 : (.methodLinkNest RX10 9 yX6_many RX11 : Cond) ∈ zN := List.mem_of_getElem? (i := 4) rfl
theorem zn_5 : (.methodLinkNest RX10 21 yX3_many RX11 : Cond) ∈ zN := List.mem_of_getElem? (i := 5) rfl
theorem zn_6 : (.methodLinkNest RX10 30 yX1_many RX11 : Cond) ∈ zN := List.mem_of_getElem? (i := 6) rfl
theorem zn_7 : (.methodLinkNest RX10 39 yX8_many RX11 : Cond) ∈ zN := List.mem_of_getElem? (i := 7) rfl
theorem zn_8 : (.methodLinkNest RX10 56 yX4_many RX11 : Cond) ∈ zN := List.mem_of_getElem? (i := 8) rfl
theorem zn_9 : (.methodLinkNest RX10 71 yX3_init RX11 : Cond) ∈ zN := List.mem_of_getElem? (i := 9) rfl
theorem zn_10 : (.methodLinkNest RX10 78 yX7_init RX11 : Cond) ∈ zN := List.mem_of_getElem? (i := 10) rfl
theorem zn_11 : (.methodLinkNest RX9 9 yX3_many RX11 : Cond) ∈ zN := List.mem_of_getElem? (i := 11) rfl
theorem zn_12 : (.methodLinkNest RX9 21 yX6_many RX11 : Cond) ∈ zN := List.mem_of_getElem? (i := 12) rfl
theorem zn_13 : (.methodLinkNest RX0 11 yX9_init RX11 : Cond) ∈ zN := List.mem_of_getElem? (i := 13) rfl
theorem zn_14 : (.methodLinkNest RX0 20 yX8_many RX11 : Cond) ∈ zN := List.mem_of_getElem? (i := 14) rfl
theorem zn_15 : (.methodLinkNest RX0 30 yX8_init RX11 : Cond) ∈ zN := List.mem_of_getElem? (i := 15) rfl
theorem zn_16 : (.methodLinkNest RX0 48 yX6_init RX11 : Cond) ∈ zN := List.mem_of_getElem? (i := 16) rfl
theorem zn_17 : (.methodLinkNest RX0 59 yX3_many RX11 : Cond) ∈ zN := List.mem_of_getElem? (i := 17) rfl
theorem zn_18 : (.methodLinkNest RX2 11 yX9_init RX11 : Cond) ∈ zN := List.mem_of_getElem? (i := 18) rfl
theorem zn_19 : (.methodLinkNest RX2 24 yX5_many RX11 : Cond) ∈ zN := List.mem_of_getElem? (i := 19) rfl
theorem zn_20 : (.methodLinkNest RX2 34 yX10_many RX11 : Cond) ∈ zN := List.mem_of_getElem? (i := 20) rfl
theorem zn_21 : (.methodLinkNest RX2 49 yX3_init RX11 : Cond) ∈ zN := List.mem_of_getElem? (i := 21) rfl
theorem zn_22 : (.methodLinkNest RX2 59 yX4_init RX11 : Cond) ∈ zN := List.mem_of_getElem? (i := 22) rfl
theorem zn_23 : (.methodLinkNest RX2 71 yX6_init RX11 : Cond) ∈ zN := List.mem_of_getElem? (i := 23) rfl
theorem zn_24 : (.methodLinkNest RX11 11 yX6_init RX11 : Cond) ∈ zN := List.mem_of_getElem? (i := 24) rfl
theorem zn_25 : (.methodLinkNest RX11 23 yX0_init RX11 : Cond) ∈ zN := List.mem_of_getElem? (i := 25) rfl
theorem zn_26 : (.methodLinkNest RX11 30 yX2_init RX11 : Cond) ∈ zN := List.mem_of_getElem? (i := 26) rfl
theorem zn_27 : (.methodLinkNest RX11 39 yX3_init RX11 : Cond) ∈ zN := List.mem_of_getElem? (i := 27) rfl
theorem zn_28 : (.fieldLinkNest RX11 47 RX6 "length" "I" RX11 : Cond) ∈ zN := List.mem_of_getElem? (i := 28) rfl
theorem zn_29 : (.methodLinkNest RX11 54 yX6_add RX11 : Cond) ∈ zN := List.mem_of_getElem? (i := 29) rfl
theorem zn_30 : (.fieldLinkNest RX11 57 RX0 "down" "Z" RX11 : Cond) ∈ zN := List.mem_of_getElem? (i := 30) rfl
theorem zn_31 : (.methodLinkNest RX11 61 yX6_clear RX11 : Cond) ∈ zN := List.mem_of_getElem? (i := 31) rfl
theorem zn_32 : (.fieldLinkNest RX11 64 RX6 "bytes" "[B" RX11 : Cond) ∈ zN := List.mem_of_getElem? (i := 32) rfl
theorem zn_33 : (.fieldLinkNest RX11 75 RX0 "spare" "LMumpsHouse$Text;" RX11 : Cond) ∈ zN := List.mem_of_getElem? (i := 33) rfl
theorem zn_34 : (.methodLinkNest RX11 79 yX8_load RX11 : Cond) ∈ zN := List.mem_of_getElem? (i := 34) rfl
theorem zn_35 : (.fieldLinkNest RX11 93 RX8 "fault" "I" RX11 : Cond) ∈ zN := List.mem_of_getElem? (i := 35) rfl
theorem zn_36 : (.methodLinkNest RX11 96 yX0_routineOf RX11 : Cond) ∈ zN := List.mem_of_getElem? (i := 36) rfl
theorem zn_37 : (.methodLinkNest RX11 100 yX0_routine RX11 : Cond) ∈ zN := List.mem_of_getElem? (i := 37) rfl
theorem zn_38 : (.methodLinkNest RX11 104 yX2_inUse RX11 : Cond) ∈ zN := List.mem_of_getElem? (i := 38) rfl
theorem zn_39 : (.fieldLinkNest RX11 108 RX0 "routineCount" "I" RX11 : Cond) ∈ zN := List.mem_of_getElem? (i := 39) rfl
theorem zn_40 : (.methodLinkNest RX11 111 yX0_hasRoom RX11 : Cond) ∈ zN := List.mem_of_getElem? (i := 40) rfl
theorem zn_41 : (.fieldLinkNest RX11 114 RX0 "waiting" "LMumpsHouse$Row;" RX11 : Cond) ∈ zN := List.mem_of_getElem? (i := 41) rfl
theorem zn_42 : (.methodLinkNest RX11 117 yX6_addPart RX11 : Cond) ∈ zN := List.mem_of_getElem? (i := 42) rfl
theorem zn_43 : (.methodLinkNest RX11 120 yX0_unitIsWhole RX11 : Cond) ∈ zN := List.mem_of_getElem? (i := 43) rfl
theorem zn_44 : (.methodLinkNest RX11 123 yX0_keep RX11 : Cond) ∈ zN := List.mem_of_getElem? (i := 44) rfl
theorem zn_45 : (.fieldLinkNest RX11 127 RX8 "lines" "I" RX11 : Cond) ∈ zN := List.mem_of_getElem? (i := 45) rfl
theorem zn_46 : (.methodLinkNest RX11 144 yX8_readPiece RX11 : Cond) ∈ zN := List.mem_of_getElem? (i := 46) rfl
theorem zn_47 : (.methodLinkNest RX11 147 yX2_beginProcess RX11 : Cond) ∈ zN := List.mem_of_getElem? (i := 47) rfl
theorem zn_48 : (.fieldLinkNest RX11 151 RX5 "work" "LMumpsHouse$Work;" RX11 : Cond) ∈ zN := List.mem_of_getElem? (i := 48) rfl
theorem zn_49 : (.fieldLinkNest RX11 157 RX10 "text" "LMumpsHouse$Text;" RX11 : Cond) ∈ zN := List.mem_of_getElem? (i := 49) rfl
theorem zn_50 : (.fieldLinkNest RX11 162 RX5 "number" "I" RX11 : Cond) ∈ zN := List.mem_of_getElem? (i := 50) rfl
theorem zn_51 : (.methodLinkNest RX11 165 yX2_living RX11 : Cond) ∈ zN := List.mem_of_getElem? (i := 51) rfl
theorem zn_52 : (.methodLinkNest RX11 169 yX10_addTold RX11 : Cond) ∈ zN := List.mem_of_getElem? (i := 52) rfl
theorem zn_53 : (.fieldLinkNest RX11 173 RX10 "toldCount" "I" RX11 : Cond) ∈ zN := List.mem_of_getElem? (i := 53) rfl
theorem zn_54 : (.fieldLinkNest RX11 176 RX0 "second" "I" RX11 : Cond) ∈ zN := List.mem_of_getElem? (i := 54) rfl
theorem zn_55 : (.fieldLinkNest RX11 180 RX0 "x" "J" RX11 : Cond) ∈ zN := List.mem_of_getElem? (i := 55) rfl
theorem zn_56 : (.methodLinkNest RX11 184 yX2_choose RX11 : Cond) ∈ zN := List.mem_of_getElem? (i := 56) rfl
theorem zn_57 : (.fieldLinkNest RX11 190 RX2 "phase" "I" RX11 : Cond) ∈ zN := List.mem_of_getElem? (i := 57) rfl
theorem zn_58 : (.fieldLinkNest RX11 193 RX2 "error" "I" RX11 : Cond) ∈ zN := List.mem_of_getElem? (i := 58) rfl
theorem zn_59 : (.methodLinkNest RX11 196 yX2_fetch RX11 : Cond) ∈ zN := List.mem_of_getElem? (i := 59) rfl
theorem zn_60 : (.methodLinkNest RX11 199 yX2_unwind RX11 : Cond) ∈ zN := List.mem_of_getElem? (i := 60) rfl
theorem zn_61 : (.fieldLinkNest RX11 202 RX2 "work" "LMumpsHouse$Work;" RX11 : Cond) ∈ zN := List.mem_of_getElem? (i := 61) rfl
theorem zn_62 : (.methodLinkNest RX11 203 yX2_readingEnded RX11 : Cond) ∈ zN := List.mem_of_getElem? (i := 62) rfl
theorem zn_63 : (.methodLinkNest RX11 206 yX2_endLine RX11 : Cond) ∈ zN := List.mem_of_getElem? (i := 63) rfl
theorem zn_64 : (.methodLinkNest RX11 209 yX2_endLevel RX11 : Cond) ∈ zN := List.mem_of_getElem? (i := 64) rfl
theorem zn_65 : (.methodLinkNest RX11 212 yX2_restart RX11 : Cond) ∈ zN := List.mem_of_getElem? (i := 65) rfl
theorem zn_66 : (.methodLinkNest RX11 215 yX2_expression RX11 : Cond) ∈ zN := List.mem_of_getElem? (i := 66) rfl
theorem zn_67 : (.methodLinkNest RX11 219 yX2_enter RX11 : Cond) ∈ zN := List.mem_of_getElem? (i := 67) rfl
theorem zn_68 : (.methodLinkNest RX11 222 yX2_flow RX11 : Cond) ∈ zN := List.mem_of_getElem? (i := 68) rfl
theorem zn_69 : (.methodLinkNest RX11 225 yX2_act RX11 : Cond) ∈ zN := List.mem_of_getElem? (i := 69) rfl
theorem zn_70 : (.methodLinkNest RX11 228 yX2_proc RX11 : Cond) ∈ zN := List.mem_of_getElem? (i := 70) rfl
theorem zn_71 : (.fieldLinkNest RX11 231 RX10 "levelCount" "I" RX11 : Cond) ∈ zN := List.mem_of_getElem? (i := 71) rfl
theorem zn_72 : (.methodLinkNest RX11 234 yX2_dismiss RX11 : Cond) ∈ zN := List.mem_of_getElem? (i := 72) rfl
theorem zn_73 : (.fieldLinkNest RX11 238 RX5 "status" "I" RX11 : Cond) ∈ zN := List.mem_of_getElem? (i := 73) rfl
theorem zn_74 : (.fieldLinkNest RX11 241 RX5 "wait" "I" RX11 : Cond) ∈ zN := List.mem_of_getElem? (i := 74) rfl
theorem zn_75 : (.fieldLinkNest RX11 244 RX5 "test" "I" RX11 : Cond) ∈ zN := List.mem_of_getElem? (i := 75) rfl
theorem zn_76 : (.fieldLinkNest RX11 247 RX5 "depth" "I" RX11 : Cond) ∈ zN := List.mem_of_getElem? (i := 76) rfl
theorem zn_77 : (.fieldLinkNest RX11 250 RX5 "restarts" "I" RX11 : Cond) ∈ zN := List.mem_of_getElem? (i := 77) rfl
theorem zn_78 : (.fieldLinkNest RX11 253 RX5 "x" "I" RX11 : Cond) ∈ zN := List.mem_of_getElem? (i := 78) rfl
theorem zn_79 : (.fieldLinkNest RX11 255 RX5 "y" "I" RX11 : Cond) ∈ zN := List.mem_of_getElem? (i := 79) rfl
theorem zn_80 : (.fieldLinkNest RX11 258 RX5 "out" "LMumpsHouse$Row;" RX11 : Cond) ∈ zN := List.mem_of_getElem? (i := 80) rfl
theorem zn_81 : (.fieldLinkNest RX11 261 RX5 "began" "I" RX11 : Cond) ∈ zN := List.mem_of_getElem? (i := 81) rfl
theorem zn_82 : (.methodLinkNest RX11 264 yX0_locksOf RX11 : Cond) ∈ zN := List.mem_of_getElem? (i := 82) rfl
theorem zn_83 : (.fieldLinkNest RX11 268 RX10 "scope" "LMumpsHouse$Scope;" RX11 : Cond) ∈ zN := List.mem_of_getElem? (i := 83) rfl
theorem zn_84 : (.methodLinkNest RX11 272 yX2_seenValues RX11 : Cond) ∈ zN := List.mem_of_getElem? (i := 84) rfl
theorem zn_85 : (.methodLinkNest RX11 276 yX6_at RX11 : Cond) ∈ zN := List.mem_of_getElem? (i := 85) rfl
theorem zn_86 : (.fieldLinkNest RX11 278 RX5 "code" "LMumpsHouse$Row;" RX11 : Cond) ∈ zN := List.mem_of_getElem? (i := 86) rfl
theorem zn_87 : (.methodLinkNest RX11 281 yX6_copy RX11 : Cond) ∈ zN := List.mem_of_getElem? (i := 87) rfl
theorem zn_88 : (.methodLinkNest RX11 285 yX10_levelAt RX11 : Cond) ∈ zN := List.mem_of_getElem? (i := 88) rfl
theorem zn_89 : (.fieldLinkNest RX11 289 RX1 "text" "LMumpsHouse$Text;" RX11 : Cond) ∈ zN := List.mem_of_getElem? (i := 89) rfl
theorem zn_90 : (.fieldLinkNest RX11 292 RX1 "line" "I" RX11 : Cond) ∈ zN := List.mem_of_getElem? (i := 90) rfl
theorem zn_91 : (.fieldLinkNest RX11 295 RX8 "bytes" "[B" RX11 : Cond) ∈ zN := List.mem_of_getElem? (i := 91) rfl
theorem zn_92 : (.methodLinkNest RX11 296 yX8_startOf RX11 : Cond) ∈ zN := List.mem_of_getElem? (i := 92) rfl
theorem zn_93 : (.methodLinkNest RX11 299 yX8_lengthOf RX11 : Cond) ∈ zN := List.mem_of_getElem? (i := 93) rfl
theorem zn_94 : (.fieldLinkNest RX11 302 RX8 "name" "J" RX11 : Cond) ∈ zN := List.mem_of_getElem? (i := 94) rfl
theorem zn_95 : (.methodLinkNest RX11 305 yX6_addName RX11 : Cond) ∈ zN := List.mem_of_getElem? (i := 95) rfl
theorem zn_96 : (.methodLinkNest RX11 308 yX3_read RX11 : Cond) ∈ zN := List.mem_of_getElem? (i := 96) rfl
theorem zn_97 : (.fieldLinkNest RX11 312 RX3 "lastEmpty" "Z" RX11 : Cond) ∈ zN := List.mem_of_getElem? (i := 97) rfl
theorem zn_98 : (.methodLinkNest RX11 315 yX2_answer RX11 : Cond) ∈ zN := List.mem_of_getElem? (i := 98) rfl
theorem zn_99 : (.methodLinkNest RX11 319 yX0_lockAt RX11 : Cond) ∈ zN := List.mem_of_getElem? (i := 99) rfl
theorem zn_100 : (.fieldLinkNest RX11 323 RX3 "owner" "I" RX11 : Cond) ∈ zN := List.mem_of_getElem? (i := 100) rfl
theorem zn_101 : (.fieldLinkNest RX11 326 RX3 "times" "I" RX11 : Cond) ∈ zN := List.mem_of_getElem? (i := 101) rfl
theorem zn_102 : (.methodLinkNest RX11 329 yX3_text RX11 : Cond) ∈ zN := List.mem_of_getElem? (i := 102) rfl
theorem zn_103 : (.fieldLinkNest RX11 332 RX0 "globals" "LMumpsHouse$Tree;" RX11 : Cond) ∈ zN := List.mem_of_getElem? (i := 103) rfl
theorem zn_104 : (.fieldLinkNest RX11 336 RX9 "count" "I" RX11 : Cond) ∈ zN := List.mem_of_getElem? (i := 104) rfl
theorem zn_105 : (.fieldLinkNest RX11 341 RX2 "locals" "LMumpsHouse$Tree;" RX11 : Cond) ∈ zN := List.mem_of_getElem? (i := 105) rfl
theorem zn_106 : (.fieldLinkNest RX11 344 RX2 "procCount" "I" RX11 : Cond) ∈ zN := List.mem_of_getElem? (i := 106) rfl
theorem zn_107 : (.methodLinkNest RX11 347 yX2_livingCount RX11 : Cond) ∈ zN := List.mem_of_getElem? (i := 107) rfl
theorem zn_108 : (.fieldLinkNest RX11 350 RX0 "lockCount" "I" RX11 : Cond) ∈ zN := List.mem_of_getElem? (i := 108) rfl
theorem zn_109 : (.fieldLinkNest RX11 353 RX0 "counts" "[I" RX11 : Cond) ∈ zN := List.mem_of_getElem? (i := 109) rfl
theorem zn_110 : (.fieldLinkNest RX11 357 RX0 "used" "I" RX11 : Cond) ∈ zN := List.mem_of_getElem? (i := 110) rfl
theorem zn_111 : (.fieldLinkNest RX11 360 RX0 "units" "I" RX11 : Cond) ∈ zN := List.mem_of_getElem? (i := 111) rfl
theorem zn_112 : (.methodLinkNest RX11 363 yX9_inOrder RX11 : Cond) ∈ zN := List.mem_of_getElem? (i := 112) rfl
theorem zn_113 : (.methodLinkNest RX11 366 yX0_write RX11 : Cond) ∈ zN := List.mem_of_getElem? (i := 113) rfl
theorem zn_114 : (.fieldLinkNest RX11 369 RX0 "cutAt" "I" RX11 : Cond) ∈ zN := List.mem_of_getElem? (i := 114) rfl
theorem zn_115 : (.fieldLinkNest RX11 372 RX0 "tear" "I" RX11 : Cond) ∈ zN := List.mem_of_getElem? (i := 115) rfl
theorem zn_116 : (.methodLinkNest RX11 375 yX0_begin RX11 : Cond) ∈ zN := List.mem_of_getElem? (i := 116) rfl
theorem zn_117 : (.methodLinkNest RX11 377 yX2_begin RX11 : Cond) ∈ zN := List.mem_of_getElem? (i := 117) rfl
theorem zn_118 : (.methodLinkNest RX11 378 yX0_gather RX11 : Cond) ∈ zN := List.mem_of_getElem? (i := 118) rfl
theorem zn_119 : (.methodLinkNest RX11 385 yX0_behindRecord RX11 : Cond) ∈ zN := List.mem_of_getElem? (i := 119) rfl
theorem zn_120 : (.methodLinkNest RX11 414 yX0_octetAt RX11 : Cond) ∈ zN := List.mem_of_getElem? (i := 120) rfl
theorem zn_121 : (.fieldLinkNest RX11 417 RX0 "blocks" "[B" RX11 : Cond) ∈ zN := List.mem_of_getElem? (i := 121) rfl
theorem zn_122 : (.methodLinkNest RX11 420 yX0_right RX11 : Cond) ∈ zN := List.mem_of_getElem? (i := 122) rfl
theorem zn_123 : (.fieldLinkNest RX2 96 RX5 "work" "LMumpsHouse$Work;" RX11 : Cond) ∈ zN := List.mem_of_getElem? (i := 123) rfl
theorem zn_124 : (.fieldLinkNest RX2 128 RX0 "x" "J" RX11 : Cond) ∈ zN := List.mem_of_getElem? (i := 124) rfl
theorem zn_125 : (.methodLinkNest RX2 134 yX11_next RX11 : Cond) ∈ zN := List.mem_of_getElem? (i := 125) rfl
theorem zn_126 : (.fieldLinkNest RX2 138 RX10 "text" "LMumpsHouse$Text;" RX11 : Cond) ∈ zN := List.mem_of_getElem? (i := 126) rfl
theorem zn_127 : (.fieldLinkNest RX2 142 RX0 "counts" "[I" RX11 : Cond) ∈ zN := List.mem_of_getElem? (i := 127) rfl
theorem zn_128 : (.fieldLinkNest RX2 145 RX5 "wait" "I" RX11 : Cond) ∈ zN := List.mem_of_getElem? (i := 128) rfl
theorem zn_129 : (.methodLinkNest RX2 115 yX10_begin RX11 : Cond) ∈ zN := List.mem_of_getElem? (i := 129) rfl
theorem zn_130 : (.methodLinkNest RX2 118 yX5_begin RX11 : Cond) ∈ zN := List.mem_of_getElem? (i := 130) rfl
theorem zn_131 : (.methodLinkNest RX2 789 yX10_pushLevel RX11 : Cond) ∈ zN := List.mem_of_getElem? (i := 131) rfl
theorem zn_132 : (.fieldLinkNest RX2 847 RX1 "own" "LMumpsHouse$Text;" RX11 : Cond) ∈ zN := List.mem_of_getElem? (i := 132) rfl
theorem zn_133 : (.fieldLinkNest RX2 239 RX6 "bytes" "[B" RX11 : Cond) ∈ zN := List.mem_of_getElem? (i := 133) rfl
theorem zn_134 : (.fieldLinkNest RX2 197 RX6 "length" "I" RX11 : Cond) ∈ zN := List.mem_of_getElem? (i := 134) rfl
theorem zn_135 : (.methodLinkNest RX2 243 yX8_load RX11 : Cond) ∈ zN := List.mem_of_getElem? (i := 135) rfl
theorem zn_136 : (.fieldLinkNest RX2 261 RX1 "text" "LMumpsHouse$Text;" RX11 : Cond) ∈ zN := List.mem_of_getElem? (i := 136) rfl
theorem zn_137 : (.fieldLinkNest RX2 262 RX1 "line" "I" RX11 : Cond) ∈ zN := List.mem_of_getElem? (i := 137) rfl
theorem zn_138 : (.fieldLinkNest RX2 165 RX10 "place" "I" RX11 : Cond) ∈ zN := List.mem_of_getElem? (i := 138) rfl
theorem zn_139 : (.methodLinkNest RX10 108 yX3_begin RX11 : Cond) ∈ zN := List.mem_of_getElem? (i := 139) rfl
theorem zn_140 : (.methodLinkNest RX10 112 yX7_begin RX11 : Cond) ∈ zN := List.mem_of_getElem? (i := 140) rfl
theorem zn_141 : (.methodLinkNest RX7 59 yX6_clear RX11 : Cond) ∈ zN := List.mem_of_getElem? (i := 141) rfl
theorem zn_142 : (.methodLinkNest RX5 63 yX6_clear RX11 : Cond) ∈ zN := List.mem_of_getElem? (i := 142) rfl
theorem zn_143 : (.fieldLinkNest RX10 131 RX1 "kind" "I" RX11 : Cond) ∈ zN := List.mem_of_getElem? (i := 143) rfl
theorem zn_144 : (.fieldLinkNest RX10 138 RX1 "text" "LMumpsHouse$Text;" RX11 : Cond) ∈ zN := List.mem_of_getElem? (i := 144) rfl
theorem zn_145 : (.fieldLinkNest RX10 139 RX1 "line" "I" RX11 : Cond) ∈ zN := List.mem_of_getElem? (i := 145) rfl
theorem zn_146 : (.fieldLinkNest RX10 142 RX1 "block" "I" RX11 : Cond) ∈ zN := List.mem_of_getElem? (i := 146) rfl
theorem zn_147 : (.fieldLinkNest RX10 145 RX1 "test" "I" RX11 : Cond) ∈ zN := List.mem_of_getElem? (i := 147) rfl
theorem zn_148 : (.fieldLinkNest RX10 148 RX1 "strings" "I" RX11 : Cond) ∈ zN := List.mem_of_getElem? (i := 148) rfl
theorem zn_149 : (.fieldLinkNest RX10 150 RX1 "nodes" "I" RX11 : Cond) ∈ zN := List.mem_of_getElem? (i := 149) rfl
theorem zn_150 : (.fieldLinkNest RX10 152 RX1 "ats" "I" RX11 : Cond) ∈ zN := List.mem_of_getElem? (i := 150) rfl
theorem zn_151 : (.fieldLinkNest RX10 154 RX1 "loops" "I" RX11 : Cond) ∈ zN := List.mem_of_getElem? (i := 151) rfl
theorem zn_152 : (.fieldLinkNest RX10 156 RX7 "hiddenCount" "I" RX11 : Cond) ∈ zN := List.mem_of_getElem? (i := 152) rfl
theorem zn_153 : (.fieldLinkNest RX10 159 RX1 "hidden" "I" RX11 : Cond) ∈ zN := List.mem_of_getElem? (i := 153) rfl
theorem zn_154 : (.fieldLinkNest RX10 162 RX1 "back" "LMumpsHouse$Text;" RX11 : Cond) ∈ zN := List.mem_of_getElem? (i := 154) rfl
theorem zn_155 : (.fieldLinkNest RX10 168 RX1 "backPlace" "I" RX11 : Cond) ∈ zN := List.mem_of_getElem? (i := 155) rfl
theorem zn_156 : (.fieldLinkNest RX10 171 RX1 "trapped" "Z" RX11 : Cond) ∈ zN := List.mem_of_getElem? (i := 156) rfl
theorem zn_157 : (.fieldLinkNest RX10 175 RX1 "trap" "LMumpsHouse$Row;" RX11 : Cond) ∈ zN := List.mem_of_getElem? (i := 157) rfl
theorem zn_158 : (.methodLinkNest RX10 118 yX6_clear RX11 : Cond) ∈ zN := List.mem_of_getElem? (i := 158) rfl
theorem zn_159 : (.methodLinkNest RX10 179 yX6_copy RX11 : Cond) ∈ zN := List.mem_of_getElem? (i := 159) rfl
theorem zn_160 : (.fieldLinkNest RX0 133 RX3 "owner" "I" RX11 : Cond) ∈ zN := List.mem_of_getElem? (i := 160) rfl
theorem zn_161 : (.fieldLinkNest RX0 136 RX3 "kind" "I" RX11 : Cond) ∈ zN := List.mem_of_getElem? (i := 161) rfl
theorem zn_162 : (.methodLinkNest RX0 139 yX3_order RX11 : Cond) ∈ zN := List.mem_of_getElem? (i := 162) rfl
theorem zn_163 : (.fieldLinkNest RX0 87 RX6 "length" "I" RX11 : Cond) ∈ zN := List.mem_of_getElem? (i := 163) rfl
theorem zn_164 : (.methodLinkNest RX0 178 yX6_clear RX11 : Cond) ∈ zN := List.mem_of_getElem? (i := 164) rfl
theorem zn_165 : (.methodLinkNest RX3 93 yX6_at RX11 : Cond) ∈ zN := List.mem_of_getElem? (i := 165) rfl
theorem zn_166 : (.methodLinkNest RX3 96 yX11_beginsName RX11 : Cond) ∈ zN := List.mem_of_getElem? (i := 166) rfl
theorem zn_167 : (.fieldLinkNest RX3 100 RX6 "length" "I" RX11 : Cond) ∈ zN := List.mem_of_getElem? (i := 167) rfl
theorem zn_168 : (.methodLinkNest RX3 101 yX11_goesOnName RX11 : Cond) ∈ zN := List.mem_of_getElem? (i := 168) rfl
theorem zn_169 : (.fieldLinkNest RX3 104 RX6 "bytes" "[B" RX11 : Cond) ∈ zN := List.mem_of_getElem? (i := 169) rfl
theorem zn_170 : (.methodLinkNest RX3 107 yX11_packed RX11 : Cond) ∈ zN := List.mem_of_getElem? (i := 170) rfl
theorem zn_171 : (.methodLinkNest RX3 111 yX6_clear RX11 : Cond) ∈ zN := List.mem_of_getElem? (i := 171) rfl
theorem zn_172 : (.methodLinkNest RX3 51 yX4_canonic RX11 : Cond) ∈ zN := List.mem_of_getElem? (i := 172) rfl
theorem zW_good : zW.all goodWord = true := by decide +kernel
/-- a callee's words are among the caller's -/
theorem zgood {x y : Cond} (h : y ∈ x :: zW) (hy : goodWord y = true) : GoodIn (x :: zW) (y :: zW) := fun w hw => by
  rcases List.mem_cons.mp hw with rfl | hw
  · exact ⟨h, good_of_word hy⟩
  · exact ⟨List.mem_cons_of_mem _ hw, good_of_word (List.all_eq_true.mp zW_good w hw)⟩
/-- the arrays' classes, by their places -/
abbrev zT (x : Nat → ClassId) : List (ClassId × FieldType) := [(x 0, .int), (x 1, .byte), (x 2, .long), (x 3, .boolean), (x 4, .object RX3), (x 5, .object RX6), (x 6, .object RX8), (x 7, .object RX1), (x 8, .object RX4), (x 9, .object RX5), (x 10, .object RX10)]
abbrev zO : List String := [RX3, RX6, RX8, RX1, RX4, RX5, RX10]
abbrev zK (x : Nat → ClassId) (D : va_G) (U : State) : Prop := ZK vwCl (zT x) zN zO D U
