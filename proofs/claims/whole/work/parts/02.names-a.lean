def RX0 : String := "ModedMill$Breadth"
def TX0 : u_T := fun k => match k with
  | 0 => ("ModedMill$Breadth", "program", "LModedMill$Program;", true)
  | 1 => ("ModedMill$Breadth", "store", "LModedMill$Terms;", true)
  | 2 => ("ModedMill$Breadth", "nodes", "LModedMill$Table;", true)
  | 3 => ("ModedMill$Breadth", "groundCount", "I", false)
  | 4 => ("ModedMill$Breadth", "variables", "LModedMill$Table;", true)
  | 5 => ("ModedMill$Breadth", "cells", "LModedMill$Table;", true)
  | 6 => ("ModedMill$Breadth", "lists", "LModedMill$Table;", true)
  | 7 => ("ModedMill$Breadth", "row", "LModedMill$Table;", true)
  | 8 => ("ModedMill$Breadth", "front", "I", false)
  | 9 => ("ModedMill$Breadth", "bindings", "LModedMill$Table;", true)
  | 10 => ("ModedMill$Breadth", "levels", "LModedMill$Table;", true)
  | 11 => ("ModedMill$Breadth", "work", "LModedMill$Table;", true)
  | 12 => ("ModedMill$Breadth", "taken", "I", false)
  | 13 => ("ModedMill$Breadth", "restored", "I", false)
  | _ => ("ModedMill$Breadth", "round", "I", false)
def tyX0 : Nat → FieldType := fun k => match k with
  | 0 => .object "ModedMill$Program"
  | 1 => .object "ModedMill$Terms"
  | 2 => .object "ModedMill$Table"
  | 3 => .int
  | 4 => .object "ModedMill$Table"
  | 5 => .object "ModedMill$Table"
  | 6 => .object "ModedMill$Table"
  | 7 => .object "ModedMill$Table"
  | 8 => .int
  | 9 => .object "ModedMill$Table"
  | 10 => .object "ModedMill$Table"
  | 11 => .object "ModedMill$Table"
  | 12 => .int
  | 13 => .int
  | _ => .int
abbrev wsX00 : List Cond := u_ws RX0 TX0 15
theorem nmX0 : ∀ a, a < 15 → ∀ b, b < 15 → a ≠ b → (TX0 a).2.1 ≠ (TX0 b).2.1 := by decide +kernel
theorem tyX0_ok : ∀ k, k < 15 → parseFieldDescriptor (TX0 k).2.2.1 = some (tyX0 k) := by decide +kernel
abbrev cX0_init : ByteArray := prog_2_method_1_code
def yX0_init : MethodName := ⟨RX0, "<init>", "(LModedMill$Program;LModedMill$Terms;)V"⟩
def RX1 : String := "ModedMill$Clause"
def TX1 : u_T := fun k => match k with
  | 0 => ("ModedMill$Clause", "number", "I", true)
  | 1 => ("ModedMill$Clause", "predicate", "LModedMill$Predicate;", true)
  | 2 => ("ModedMill$Clause", "types", "LModedMill$Table;", true)
  | 3 => ("ModedMill$Clause", "goals", "Ljava/util/ArrayList;", true)
  | 4 => ("ModedMill$Clause", "lengths", "[I", true)
  | 5 => ("ModedMill$Clause", "numbers", "[I", true)
  | 6 => ("ModedMill$Clause", "ordered", "[LModedMill$Goal;", true)
  | 7 => ("ModedMill$Clause", "chosen", "[LModedMill$Mode;", true)
  | _ => ("ModedMill$Clause", "known", "[I", true)
def RX2 : String := "ModedMill$Frame"
def TX2 : u_T := fun k => match k with
  | 0 => ("ModedMill$Frame", "number", "I", true)
  | 1 => ("ModedMill$Frame", "values", "[I", true)
  | 2 => ("ModedMill$Frame", "mode", "LModedMill$Mode;", false)
  | 3 => ("ModedMill$Frame", "caller", "LModedMill$Frame;", false)
  | 4 => ("ModedMill$Frame", "backTo", "I", false)
  | 5 => ("ModedMill$Frame", "depth", "I", false)
  | 6 => ("ModedMill$Frame", "clause", "LModedMill$Clause;", false)
  | 7 => ("ModedMill$Frame", "isDenied", "Z", false)
  | 8 => ("ModedMill$Frame", "outerDenied", "LModedMill$Frame;", false)
  | _ => ("ModedMill$Frame", "choicesBefore", "I", false)
def RX3 : String := "ModedMill$Goal"
def TX3 : u_T := fun k => match k with
  | 0 => ("ModedMill$Goal", "kind", "I", true)
  | 1 => ("ModedMill$Goal", "subject", "I", true)
  | 2 => ("ModedMill$Goal", "count", "I", true)
  | _ => ("ModedMill$Goal", "variables", "[I", true)
def RX4 : String := "ModedMill$Machine"
def TX4 : u_T := fun k => match k with
  | 0 => ("ModedMill$Machine", "store", "LModedMill$Terms;", true)
  | 1 => ("ModedMill$Machine", "frames", "Ljava/util/ArrayList;", true)
  | 2 => ("ModedMill$Machine", "choices", "LModedMill$Table;", true)
  | 3 => ("ModedMill$Machine", "trail", "LModedMill$Table;", true)
  | 4 => ("ModedMill$Machine", "report", "LModedMill$Report;", false)
  | 5 => ("ModedMill$Machine", "used", "I", false)
  | 6 => ("ModedMill$Machine", "current", "LModedMill$Frame;", false)
  | 7 => ("ModedMill$Machine", "place", "I", false)
  | 8 => ("ModedMill$Machine", "denied", "LModedMill$Frame;", false)
  | 9 => ("ModedMill$Machine", "isFailing", "Z", false)
  | 10 => ("ModedMill$Machine", "isOver", "Z", false)
  | _ => ("ModedMill$Machine", "isFull", "Z", false)
def tyX4 : Nat → FieldType := fun k => match k with
  | 0 => .object "ModedMill$Terms"
  | 1 => .object "java/util/ArrayList"
  | 2 => .object "ModedMill$Table"
  | 3 => .object "ModedMill$Table"
  | 4 => .object "ModedMill$Report"
  | 5 => .int
  | 6 => .object "ModedMill$Frame"
  | 7 => .int
  | 8 => .object "ModedMill$Frame"
  | 9 => .boolean
  | 10 => .boolean
  | _ => .boolean
abbrev wsX40 : List Cond := u_ws RX4 TX4 12
theorem nmX4 : ∀ a, a < 12 → ∀ b, b < 12 → a ≠ b → (TX4 a).2.1 ≠ (TX4 b).2.1 := by decide +kernel
theorem tyX4_ok : ∀ k, k < 12 → parseFieldDescriptor (TX4 k).2.2.1 = some (tyX4 k) := by decide +kernel
abbrev cX4_init : ByteArray := prog_6_method_1_code
def yX4_init : MethodName := ⟨RX4, "<init>", "(LModedMill$Terms;LModedMill$Report;)V"⟩
def RX5 : String := "ModedMill$Mode"
def TX5 : u_T := fun k => match k with
  | 0 => ("ModedMill$Mode", "predicate", "LModedMill$Predicate;", true)
  | 1 => ("ModedMill$Mode", "number", "I", true)
  | 2 => ("ModedMill$Mode", "inputs", "I", true)
  | 3 => ("ModedMill$Mode", "promise", "C", true)
  | 4 => ("ModedMill$Mode", "lost", "Z", false)
  | 5 => ("ModedMill$Mode", "good", "Z", false)
  | 6 => ("ModedMill$Mode", "canFail", "Z", false)
  | 7 => ("ModedMill$Mode", "canRepeat", "Z", false)
  | _ => ("ModedMill$Mode", "switchPlace", "I", false)
def RX6 : String := "ModedMill$Predicate"
def TX6 : u_T := fun k => match k with
  | 0 => ("ModedMill$Predicate", "number", "I", true)
  | 1 => ("ModedMill$Predicate", "types", "LModedMill$Table;", true)
  | 2 => ("ModedMill$Predicate", "modes", "Ljava/util/ArrayList;", true)
  | 3 => ("ModedMill$Predicate", "clauses", "Ljava/util/ArrayList;", true)
  | _ => ("ModedMill$Predicate", "question", "LModedMill$Goal;", true)
def RX7 : String := "ModedMill$Program"
def TX7 : u_T := fun k => match k with
  | 0 => ("ModedMill$Program", "predicates", "Ljava/util/ArrayList;", true)
  | 1 => ("ModedMill$Program", "modes", "Ljava/util/ArrayList;", true)
  | _ => ("ModedMill$Program", "clauses", "Ljava/util/ArrayList;", true)
def tyX7 : Nat → FieldType := fun k => match k with
  | 0 => .object "java/util/ArrayList"
  | 1 => .object "java/util/ArrayList"
  | _ => .object "java/util/ArrayList"
abbrev wsX70 : List Cond := u_ws RX7 TX7 3
theorem nmX7 : ∀ a, a < 3 → ∀ b, b < 3 → a ≠ b → (TX7 a).2.1 ≠ (TX7 b).2.1 := by decide +kernel
theorem tyX7_ok : ∀ k, k < 3 → parseFieldDescriptor (TX7 k).2.2.1 = some (tyX7 k) := by decide +kernel
abbrev cX7_init : ByteArray := prog_9_method_1_code
def yX7_init : MethodName := ⟨RX7, "<init>", "()V"⟩
def RX8 : String := "ModedMill$Report"
def TX8 : u_T := fun k => match k with
  | 0 => ("ModedMill$Report", "mode", "LModedMill$Mode;", false)
  | 1 => ("ModedMill$Report", "inputs", "LModedMill$Table;", true)
  | 2 => ("ModedMill$Report", "answers", "LModedMill$Table;", true)
  | 3 => ("ModedMill$Report", "notes", "LModedMill$Table;", true)
  | 4 => ("ModedMill$Report", "stepCount", "I", false)
  | 5 => ("ModedMill$Report", "choiceCount", "I", false)
  | 6 => ("ModedMill$Report", "deepestCall", "I", false)
  | 7 => ("ModedMill$Report", "end", "C", false)
  | 8 => ("ModedMill$Report", "isBreadthKnown", "Z", false)
  | _ => ("ModedMill$Report", "breadthCount", "I", false)
def tyX8 : Nat → FieldType := fun k => match k with
  | 0 => .object "ModedMill$Mode"
  | 1 => .object "ModedMill$Table"
  | 2 => .object "ModedMill$Table"
  | 3 => .object "ModedMill$Table"
  | 4 => .int
  | 5 => .int
  | 6 => .int
  | 7 => .char
  | 8 => .boolean
  | _ => .int
abbrev wsX80 : List Cond := u_ws RX8 TX8 10
theorem nmX8 : ∀ a, a < 10 → ∀ b, b < 10 → a ≠ b → (TX8 a).2.1 ≠ (TX8 b).2.1 := by decide +kernel
theorem tyX8_ok : ∀ k, k < 10 → parseFieldDescriptor (TX8 k).2.2.1 = some (tyX8 k) := by decide +kernel
abbrev cX8_init : ByteArray := prog_10_method_1_code
def yX8_init : MethodName := ⟨RX8, "<init>", "()V"⟩
def RX9 : String := "ModedMill$Table"
def TX9 : u_T := fun k => match k with
  | 0 => ("ModedMill$Table", "columns", "I", true)
  | 1 => ("ModedMill$Table", "cells", "[I", false)
  | _ => ("ModedMill$Table", "lines", "I", false)
def tyX9 : Nat → FieldType := fun k => match k with
  | 0 => .int
  | 1 => .array .int
  | _ => .int
abbrev wsX90 : List Cond := u_ws RX9 TX9 3
theorem nmX9 : ∀ a, a < 3 → ∀ b, b < 3 → a ≠ b → (TX9 a).2.1 ≠ (TX9 b).2.1 := by decide +kernel
theorem tyX9_ok : ∀ k, k < 3 → parseFieldDescriptor (TX9 k).2.2.1 = some (tyX9 k) := by decide +kernel
abbrev cX9_init : ByteArray := prog_11_method_1_code
def yX9_init : MethodName := ⟨RX9, "<init>", "(II)V"⟩
abbrev cX9_count : ByteArray := prog_11_method_2_code
def yX9_count : MethodName := ⟨RX9, "count", "()I"⟩
abbrev cX9_get : ByteArray := prog_11_method_3_code
def yX9_get : MethodName := ⟨RX9, "get", "(II)I"⟩
abbrev cX9_set : ByteArray := prog_11_method_4_code
def yX9_set : MethodName := ⟨RX9, "set", "(III)V"⟩
abbrev cX9_add : ByteArray := prog_11_method_5_code
def yX9_add : MethodName := ⟨RX9, "add", "(III)I"⟩
abbrev cX9_cut : ByteArray := prog_11_method_6_code
def yX9_cut : MethodName := ⟨RX9, "cut", "(I)V"⟩
def RX10 : String := "ModedMill$Terms"
def TX10 : u_T := fun k => match k with
  | 0 => ("ModedMill$Terms", "types", "I", false)
  | 1 => ("ModedMill$Terms", "constructors", "LModedMill$Table;", true)
  | 2 => ("ModedMill$Terms", "numbered", "LModedMill$Table;", true)
  | 3 => ("ModedMill$Terms", "chains", "LModedMill$Table;", true)
  | _ => ("ModedMill$Terms", "sizes", "[J", true)
def tyX10 : Nat → FieldType := fun k => match k with
  | 0 => .int
  | 1 => .object "ModedMill$Table"
  | 2 => .object "ModedMill$Table"
  | 3 => .object "ModedMill$Table"
  | _ => .array .long
abbrev wsX100 : List Cond := u_ws RX10 TX10 5
theorem nmX10 : ∀ a, a < 5 → ∀ b, b < 5 → a ≠ b → (TX10 a).2.1 ≠ (TX10 b).2.1 := by decide +kernel
theorem tyX10_ok : ∀ k, k < 5 → parseFieldDescriptor (TX10 k).2.2.1 = some (tyX10 k) := by decide +kernel
abbrev cX10_init : ByteArray := prog_12_method_1_code
def yX10_init : MethodName := ⟨RX10, "<init>", "()V"⟩
def RX11 : String := "ModedMill"
def TX11 : u_T := fun k => match k with
  | 0 => ("ModedMill", "store", "LModedMill$Terms;", true)
  | 1 => ("ModedMill", "program", "LModedMill$Program;", true)
  | 2 => ("ModedMill", "machine", "LModedMill$Machine;", true)
  | 3 => ("ModedMill", "breadth", "LModedMill$Breadth;", true)
  | 4 => ("ModedMill", "last", "LModedMill$Report;", false)
  | 5 => ("ModedMill", "spare", "LModedMill$Report;", false)
  | 6 => ("ModedMill", "isCompiled", "Z", false)
  | 7 => ("ModedMill", "asked", "I", false)
  | _ => ("ModedMill", "stepSum", "J", false)
def tyX11 : Nat → FieldType := fun k => match k with
  | 0 => .object "ModedMill$Terms"
  | 1 => .object "ModedMill$Program"
  | 2 => .object "ModedMill$Machine"
  | 3 => .object "ModedMill$Breadth"
  | 4 => .object "ModedMill$Report"
  | 5 => .object "ModedMill$Report"
  | 6 => .boolean
  | 7 => .int
  | _ => .long
abbrev wsX110 : List Cond := u_ws RX11 TX11 9
theorem nmX11 : ∀ a, a < 9 → ∀ b, b < 9 → a ≠ b → (TX11 a).2.1 ≠ (TX11 b).2.1 := by decide +kernel
theorem tyX11_ok : ∀ k, k < 9 → parseFieldDescriptor (TX11 k).2.2.1 = some (tyX11 k) := by decide +kernel
abbrev cX11_init : ByteArray := prog_1_method_1_code
def yX11_init : MethodName := ⟨RX11, "<init>", "()V"⟩
def RX12 : String := "ModedMillModel$Binding"
def TX12 : u_T := fun k => match k with
  | 0 => ("ModedMillModel$Binding", "unknown", "LModedMillModel$Node;", true)
  | 1 => ("ModedMillModel$Binding", "value", "LModedMillModel$Node;", true)
  | _ => ("ModedMillModel$Binding", "next", "LModedMillModel$Binding;", true)
def RX13 : String := "ModedMillModel$Choice"
def TX13 : u_T := fun k => match k with
  | 0 => ("ModedMillModel$Choice", "predicate", "I", true)
  | 1 => ("ModedMillModel$Choice", "mode", "I", true)
  | 2 => ("ModedMillModel$Choice", "arguments", "[I", true)
  | 3 => ("ModedMillModel$Choice", "caller", "LModedMillModel$Frame;", true)
  | 4 => ("ModedMillModel$Choice", "callerPlace", "I", true)
  | 5 => ("ModedMillModel$Choice", "depth", "I", true)
  | 6 => ("ModedMillModel$Choice", "bound", "I", true)
  | 7 => ("ModedMillModel$Choice", "below", "LModedMillModel$Choice;", true)
  | _ => ("ModedMillModel$Choice", "next", "I", false)
def RX14 : String := "ModedMillModel$Frame"
def TX14 : u_T := fun k => match k with
  | 0 => ("ModedMillModel$Frame", "clause", "I", true)
  | 1 => ("ModedMillModel$Frame", "mode", "I", true)
  | 2 => ("ModedMillModel$Frame", "caller", "LModedMillModel$Frame;", true)
  | 3 => ("ModedMillModel$Frame", "callerPlace", "I", true)
  | 4 => ("ModedMillModel$Frame", "depth", "I", true)
  | _ => ("ModedMillModel$Frame", "values", "[I", true)
def RX15 : String := "ModedMillModel$Item"
def TX15 : u_T := fun k => match k with
  | 0 => ("ModedMillModel$Item", "kind", "C", true)
  | 1 => ("ModedMillModel$Item", "what", "I", true)
  | 2 => ("ModedMillModel$Item", "x", "LModedMillModel$Node;", true)
  | 3 => ("ModedMillModel$Item", "y", "LModedMillModel$Node;", true)
  | 4 => ("ModedMillModel$Item", "z", "LModedMillModel$Node;", true)
  | _ => ("ModedMillModel$Item", "next", "LModedMillModel$Item;", true)
def RX16 : String := "ModedMillModel$Listed"
def TX16 : u_T := fun k => match k with
  | 0 => ("ModedMillModel$Listed", "items", "LModedMillModel$Item;", true)
  | 1 => ("ModedMillModel$Listed", "bindings", "LModedMillModel$Binding;", true)
  | _ => ("ModedMillModel$Listed", "next", "LModedMillModel$Listed;", false)
def RX17 : String := "ModedMillModel$Node"
def TX17 : u_T := fun k => match k with
  | 0 => ("ModedMillModel$Node", "constructor", "I", true)
  | 1 => ("ModedMillModel$Node", "first", "LModedMillModel$Node;", true)
  | 2 => ("ModedMillModel$Node", "second", "LModedMillModel$Node;", true)
  | _ => ("ModedMillModel$Node", "mark", "I", false)
def RX18 : String := "ModedMillModel"
def TX18 : u_T := fun k => match k with
  | 0 => ("ModedMillModel", "code", "I", false)
  | 1 => ("ModedMillModel", "isCompiled", "Z", false)
  | 2 => ("ModedMillModel", "types", "I", false)
  | 3 => ("ModedMillModel", "constructors", "I", false)
  | 4 => ("ModedMillModel", "typeOf", "[I", true)
  | 5 => ("ModedMillModel", "partType", "[I", true)
  | 6 => ("ModedMillModel", "terms", "I", false)
  | 7 => ("ModedMillModel", "termConstructor", "[I", true)
  | 8 => ("ModedMillModel", "termPart", "[I", true)
  | 9 => ("ModedMillModel", "termSize", "[J", true)
  | 10 => ("ModedMillModel", "predicates", "I", false)
  | 11 => ("ModedMillModel", "arity", "[I", true)
  | 12 => ("ModedMillModel", "argumentType", "[I", true)
  | 13 => ("ModedMillModel", "modes", "[I", true)
  | 14 => ("ModedMillModel", "inputs", "[I", true)
  | 15 => ("ModedMillModel", "promises", "[C", true)
  | 16 => ("ModedMillModel", "clauses", "I", false)
  | 17 => ("ModedMillModel", "clauseOf", "[I", true)
  | 18 => ("ModedMillModel", "goals", "[I", true)
  | 19 => ("ModedMillModel", "variableType", "[I", true)
  | 20 => ("ModedMillModel", "goalKind", "[C", true)
  | 21 => ("ModedMillModel", "goalWhat", "[I", true)
  | 22 => ("ModedMillModel", "goalVariable", "[I", true)
  | 23 => ("ModedMillModel", "ordered", "[I", true)
  | 24 => ("ModedMillModel", "orderGoal", "[I", true)
  | 25 => ("ModedMillModel", "orderMode", "[I", true)
  | 26 => ("ModedMillModel", "orderKnown", "[I", true)
  | 27 => ("ModedMillModel", "isFaulty", "[Z", true)
  | 28 => ("ModedMillModel", "good", "[Z", true)
  | 29 => ("ModedMillModel", "canFail", "[Z", true)
  | 30 => ("ModedMillModel", "canMore", "[Z", true)
  | 31 => ("ModedMillModel", "switches", "[I", true)
  | 32 => ("ModedMillModel", "tried", "[I", true)
  | 33 => ("ModedMillModel", "questions", "I", false)
  | 34 => ("ModedMillModel", "allSteps", "J", false)
  | 35 => ("ModedMillModel", "isAsked", "Z", false)
  | 36 => ("ModedMillModel", "ending", "C", false)
  | 37 => ("ModedMillModel", "askedPredicate", "I", false)
  | 38 => ("ModedMillModel", "askedMode", "I", false)
  | 39 => ("ModedMillModel", "asked", "[I", true)
  | 40 => ("ModedMillModel", "answers", "I", false)
  | 41 => ("ModedMillModel", "answer", "[I", true)
  | 42 => ("ModedMillModel", "steps", "I", false)
  | 43 => ("ModedMillModel", "choicePoints", "I", false)
  | 44 => ("ModedMillModel", "deepest", "I", false)
  | 45 => ("ModedMillModel", "records", "I", false)
  | 46 => ("ModedMillModel", "recordKind", "[C", true)
  | 47 => ("ModedMillModel", "recordWhere", "[I", true)
  | 48 => ("ModedMillModel", "isOver", "Z", false)
  | 49 => ("ModedMillModel", "isFull", "Z", false)
  | 50 => ("ModedMillModel", "runAnswers", "I", false)
  | 51 => ("ModedMillModel", "runAnswer", "[I", true)
  | 52 => ("ModedMillModel", "runSteps", "I", false)
  | 53 => ("ModedMillModel", "runChoices", "I", false)
  | 54 => ("ModedMillModel", "runDeepest", "I", false)
  | 55 => ("ModedMillModel", "runRecords", "I", false)
  | 56 => ("ModedMillModel", "runKind", "[C", true)
  | 57 => ("ModedMillModel", "runWhere", "[I", true)
  | 58 => ("ModedMillModel", "bound", "I", false)
  | 59 => ("ModedMillModel", "boundFrame", "[LModedMillModel$Frame;", true)
  | 60 => ("ModedMillModel", "boundVariable", "[I", true)
  | 61 => ("ModedMillModel", "top", "LModedMillModel$Choice;", false)
  | 62 => ("ModedMillModel", "now", "LModedMillModel$Frame;", false)
  | 63 => ("ModedMillModel", "place", "I", false)
  | 64 => ("ModedMillModel", "taken", "I", false)
  | 65 => ("ModedMillModel", "stamp", "I", false)
  | 66 => ("ModedMillModel", "bindings", "LModedMillModel$Binding;", false)
  | 67 => ("ModedMillModel", "pairs", "I", false)
  | 68 => ("ModedMillModel", "pairOne", "[LModedMillModel$Node;", false)
  | _ => ("ModedMillModel", "pairOther", "[LModedMillModel$Node;", false)
def RJx00060 : String := "java/lang/ArrayIndexOutOfBoundsException"
def TJx00060 : u_T := fun k => match k with
  | 0 => ("java/lang/Throwable", "cause", "Ljava/lang/Throwable;", false)
  | 1 => ("java/lang/Throwable", "stackTrace", "[Ljava/lang/StackTraceElement;", false)
  | 2 => ("java/lang/Throwable", "suppressedExceptions", "Ljava/util/List;", false)
  | 3 => ("java/lang/Throwable", "detailMessage", "Ljava/lang/String;", false)
  | 4 => ("java/lang/Throwable", "backtrace", "Ljava/lang/Object;", false)
  | _ => ("java/lang/Throwable", "depth", "I", false)
abbrev wsJx000600 : List Cond := u_ws RJx00060 TJx00060 6
def RJ0 : String := "java/lang/String"
def TJ0 : u_T := fun k => match k with
  | 0 => ("java/lang/String", "value", "[B", true)
  | 1 => ("java/lang/String", "coder", "B", true)
  | 2 => ("java/lang/String", "hash", "I", false)
  | _ => ("java/lang/String", "hashIsZero", "Z", false)
def RJ4 : String := "java/lang/StringBuilder"
def TJ4 : u_T := fun k => match k with
  | 0 => ("java/lang/AbstractStringBuilder", "value", "[B", false)
  | 1 => ("java/lang/AbstractStringBuilder", "coder", "B", false)
  | 2 => ("java/lang/AbstractStringBuilder", "maybeLatin1", "Z", false)
  | _ => ("java/lang/AbstractStringBuilder", "count", "I", false)
abbrev wsJ40 : List Cond := u_ws RJ4 TJ4 4
def RJxa1e45 : String := "java/util/AbstractCollection"
def TJxa1e45 : u_T := fun k => match k with
  | _ => ("", "", "", false)
def tyJxa1e45 : Nat → FieldType := fun k => match k with
  | _ => .int
theorem nmJxa1e45 : ∀ a, a < 0 → ∀ b, b < 0 → a ≠ b → (TJxa1e45 a).2.1 ≠ (TJxa1e45 b).2.1 := by decide +kernel
theorem tyJxa1e45_ok : ∀ k, k < 0 → parseFieldDescriptor (TJxa1e45 k).2.2.1 = some (tyJxa1e45 k) := by decide +kernel
abbrev cJxa1e45_init_da8c8 : ByteArray := prog_47_method_1_code
def yJxa1e45_init_da8c8 : MethodName := ⟨RJxa1e45, "<init>", "()V"⟩
def RJxc12de : String := "java/util/AbstractList"
def TJxc12de : u_T := fun k => match k with
  | _ => ("", "", "", false)
def tyJxc12de : Nat → FieldType := fun k => match k with
  | _ => .int
theorem nmJxc12de : ∀ a, a < 0 → ∀ b, b < 0 → a ≠ b → (TJxc12de a).2.1 ≠ (TJxc12de b).2.1 := by decide +kernel
theorem tyJxc12de_ok : ∀ k, k < 0 → parseFieldDescriptor (TJxc12de k).2.2.1 = some (tyJxc12de k) := by decide +kernel
abbrev cJxc12de_init_da8c8 : ByteArray := prog_48_method_1_code
def yJxc12de_init_da8c8 : MethodName := ⟨RJxc12de, "<init>", "()V"⟩
def RJx4a65c : String := "java/util/ArrayList"
def TJx4a65c : u_T := fun k => match k with
  | 0 => ("java/util/AbstractList", "modCount", "I", false)
  | 1 => ("java/util/ArrayList", "elementData", "[Ljava/lang/Object;", false)
  | _ => ("java/util/ArrayList", "size", "I", false)
def tyJx4a65c : Nat → FieldType := fun k => match k with
  | 0 => .int
  | 1 => .array (.object "java/lang/Object")
  | _ => .int
abbrev wsJx4a65c0 : List Cond := u_ws RJx4a65c TJx4a65c 3
theorem nmJx4a65c : ∀ a, a < 3 → ∀ b, b < 3 → a ≠ b → (TJx4a65c a).2.1 ≠ (TJx4a65c b).2.1 := by decide +kernel
theorem tyJx4a65c_ok : ∀ k, k < 3 → parseFieldDescriptor (TJx4a65c k).2.2.1 = some (tyJx4a65c k) := by decide +kernel
abbrev cJx4a65c_init_da8c8 : ByteArray := prog_49_method_2_code
def yJx4a65c_init_da8c8 : MethodName := ⟨RJx4a65c, "<init>", "()V"⟩
def RJ7 : String := "java/util/Arrays"
def TJ7 : u_T := fun k => match k with
  | _ => ("", "", "", false)
def tyJ7 : Nat → FieldType := fun k => match k with
  | _ => .int
theorem nmJ7 : ∀ a, a < 0 → ∀ b, b < 0 → a ≠ b → (TJ7 a).2.1 ≠ (TJ7 b).2.1 := by decide +kernel
theorem tyJ7_ok : ∀ k, k < 0 → parseFieldDescriptor (TJ7 k).2.2.1 = some (tyJ7 k) := by decide +kernel
abbrev cJ7_rangeCheck_23922 : ByteArray := prog_50_method_30_code
def yJ7_rangeCheck_23922 : MethodName := ⟨RJ7, "rangeCheck", "(III)V"⟩
abbrev cJ7_fill_fda19 : ByteArray := prog_50_method_104_code
def yJ7_fill_fda19 : MethodName := ⟨RJ7, "fill", "([IIII)V"⟩
abbrev cJ7_copyOf_59c91 : ByteArray := prog_50_method_123_code
def yJ7_copyOf_59c91 : MethodName := ⟨RJ7, "copyOf", "([II)[I"⟩
def wsX9_init : List Cond := .code yX9_init cX9_init 3 none :: ([.methodLink RX9 3 objectInit, .instanceMethod objectInit, .code objectInit ⟨#[0xb1]⟩ 1 none, .fieldLink RX9 9 "ModedMill$Table" "columns" "I", .constant RX9 15 (1000000), .arrayClass .int, .fieldLink RX9 16 "ModedMill$Table" "cells" "[I", .fieldLink RX9 20 "ModedMill$Table" "lines" "I"] ++ wsX90)
def wsX0_init_r1 : List Cond := [Cond.methodLink RX0 3 objectInit, Cond.instanceMethod objectInit, Cond.code objectInit ⟨#[0xb1]⟩ 1 none, Cond.fieldLink RX0 9 "ModedMill$Breadth" "program" "LModedMill$Program;", Cond.fieldLink RX0 15 "ModedMill$Breadth" "store" "LModedMill$Terms;", Cond.classLink RX0 19 RX9, Cond.instantiable RX9 3, Cond.initialized RX9, Cond.fieldLink RX0 24 "ModedMill$Breadth" "nodes" "LModedMill$Table;", Cond.fieldLink RX0 28 "ModedMill$Breadth" "variables" "LModedMill$Table;", Cond.fieldLink RX0 31 "ModedMill$Breadth" "cells" "LModedMill$Table;", Cond.fieldLink RX0 34 "ModedMill$Breadth" "lists" "LModedMill$Table;", Cond.fieldLink RX0 37 "ModedMill$Breadth" "row" "LModedMill$Table;", Cond.fieldLink RX0 40 "ModedMill$Breadth" "bindings" "LModedMill$Table;", Cond.fieldLink RX0 43 "ModedMill$Breadth" "levels" "LModedMill$Table;", Cond.fieldLink RX0 46 "ModedMill$Breadth" "work" "LModedMill$Table;", Cond.methodLink RX0 21 yX9_init, Cond.instanceMethod yX9_init, Cond.code yX9_init cX9_init 3 none, Cond.methodLink RX9 3 objectInit, Cond.fieldLink RX9 9 "ModedMill$Table" "columns" "I", Cond.constant RX9 15 (1000000), Cond.arrayClass .int, Cond.fieldLink RX9 16 "ModedMill$Table" "cells" "[I"]
def wsX0_init_r2 : List Cond := [Cond.fieldLink RX9 20 "ModedMill$Table" "lines" "I"]
def wsX0_init : List Cond := .code yX0_init cX0_init 3 none :: ((wsX0_init_r1 ++ wsX0_init_r2) ++ wsX00 ++ wsX90)
def wsX9_cut : List Cond := .code yX9_cut cX9_cut 2 none :: ([.fieldLink RX9 20 "ModedMill$Table" "lines" "I"] ++ wsX90)
def wsX9_count : List Cond := .code yX9_count cX9_count 1 (some .int) :: ([.fieldLink RX9 20 "ModedMill$Table" "lines" "I"] ++ wsX90)
def wsX9_get : List Cond := .code yX9_get cX9_get 5 (some .int) :: ([.fieldLink RX9 9 "ModedMill$Table" "columns" "I", .fieldLink RX9 20 "ModedMill$Table" "lines" "I", .fieldLink RX9 16 "ModedMill$Table" "cells" "[I"] ++ wsX90 ++ (vx_atM "java/lang/ArrayIndexOutOfBoundsException" ["java/lang/IndexOutOfBoundsException", "java/lang/RuntimeException", "java/lang/Exception"]).filter goodWord)
def wsJ7_rangeCheck_23922 : List Cond := .code yJ7_rangeCheck_23922 cJ7_rangeCheck_23922 3 none :: ([.classLink RJ7 45 RJ4, .instantiable RJ4 4, .initialized RJ4, .classLink RJ7 68 RJx00060, .instantiable RJx00060 6, .initialized RJx00060] ++ wsJ40 ++ wsJx000600)
def wsJ7_fill_fda19 : List Cond := .code yJ7_fill_fda19 cJ7_fill_fda19 5 none :: ([.methodLink RJ7 13 yJ7_rangeCheck_23922, .static yJ7_rangeCheck_23922, .initialized RJ7, .code yJ7_rangeCheck_23922 cJ7_rangeCheck_23922 3 none, .classLink RJ7 45 RJ4, .instantiable RJ4 4, .initialized RJ4, .classLink RJ7 68 RJx00060, .instantiable RJx00060 6, .initialized RJx00060] ++ wsJ40 ++ wsJx000600)
def wsX9_set : List Cond := .code yX9_set cX9_set 6 none :: ([.fieldLink RX9 9 "ModedMill$Table" "columns" "I", .fieldLink RX9 20 "ModedMill$Table" "lines" "I", .fieldLink RX9 16 "ModedMill$Table" "cells" "[I"] ++ wsX90 ++ (vx_atM "java/lang/ArrayIndexOutOfBoundsException" ["java/lang/IndexOutOfBoundsException", "java/lang/RuntimeException", "java/lang/Exception"]).filter goodWord)
def wsX9_add_r1 : List Cond := [Cond.fieldLink RX9 20 "ModedMill$Table" "lines" "I", Cond.fieldLink RX9 9 "ModedMill$Table" "columns" "I", Cond.fieldLink RX9 16 "ModedMill$Table" "cells" "[I", Cond.constant RX9 15 (1000000), Cond.methodLink RX9 23 yJ7_copyOf_59c91, Cond.static yJ7_copyOf_59c91, Cond.initialized RJ7, Cond.code yJ7_copyOf_59c91 cJ7_copyOf_59c91 3 (some (.array .int)), Cond.methodLink RJ7 316 ⟨"[I", "clone", "()Ljava/lang/Object;"⟩, Cond.sameMethod "[I" "java/lang/Object" "clone" "()Ljava/lang/Object;", Cond.native ⟨"java/lang/Object", "clone", "()Ljava/lang/Object;"⟩, Cond.instanceMethod ⟨"java/lang/Object", "clone", "()Ljava/lang/Object;"⟩, Cond.selects "[I" ⟨"[I", "clone", "()Ljava/lang/Object;"⟩ ⟨"java/lang/Object", "clone", "()Ljava/lang/Object;"⟩, Cond.classLink RJ7 317 "[I", Cond.arrayClass .int, Cond.methodLink RJ7 304 Lib.Math.min.name, Cond.static Lib.Math.min.name, Cond.initialized "java/lang/Math", Cond.code Lib.Math.min.name Lib.Math.min.code 2 (some .int), Cond.methodLink RJ7 150 arraycopyName, Cond.native arraycopyName, Cond.static arraycopyName, Cond.initialized "java/lang/System", Cond.methodLink RX9 29 yJ7_fill_fda19]
def wsX9_add_r2 : List Cond := [Cond.static yJ7_fill_fda19, Cond.code yJ7_fill_fda19 cJ7_fill_fda19 5 none, Cond.methodLink RJ7 13 yJ7_rangeCheck_23922, Cond.static yJ7_rangeCheck_23922, Cond.code yJ7_rangeCheck_23922 cJ7_rangeCheck_23922 3 none, Cond.classLink RJ7 45 RJ4, Cond.instantiable RJ4 4, Cond.initialized RJ4, Cond.classLink RJ7 68 RJx00060, Cond.instantiable RJx00060 6, Cond.initialized RJx00060, Cond.methodLink RX9 33 yX9_set, Cond.instanceMethod yX9_set, Cond.selects RX9 yX9_set yX9_set, Cond.initialized RX9, Cond.code yX9_set cX9_set 6 none]
def wsX9_add : List Cond := .code yX9_add cX9_add 6 (some .int) :: ((wsX9_add_r1 ++ wsX9_add_r2) ++ wsX90 ++ wsJ40 ++ wsJx000600 ++ (vx_atM "java/lang/ArrayIndexOutOfBoundsException" ["java/lang/IndexOutOfBoundsException", "java/lang/RuntimeException", "java/lang/Exception"]).filter goodWord)
def wsJxa1e45_init_da8c8 : List Cond := .code yJxa1e45_init_da8c8 cJxa1e45_init_da8c8 1 none :: ([.methodLink RJxa1e45 1 objectInit, .instanceMethod objectInit, .code objectInit ⟨#[0xb1]⟩ 1 none])
def wsJxc12de_init_da8c8 : List Cond := .code yJxc12de_init_da8c8 cJxc12de_init_da8c8 1 none :: ([.fieldLink RJxc12de 7 "java/util/AbstractList" "modCount" "I", .methodLink RJxc12de 1 yJxa1e45_init_da8c8, .instanceMethod yJxa1e45_init_da8c8, .initialized RJxa1e45, .code yJxa1e45_init_da8c8 cJxa1e45_init_da8c8 1 none, .methodLink RJxa1e45 1 objectInit, .instanceMethod objectInit, .code objectInit ⟨#[0xb1]⟩ 1 none] ++ wsJx4a65c0)
def wsJx4a65c_init_da8c8 : List Cond := .code yJx4a65c_init_da8c8 cJx4a65c_init_da8c8 1 none :: ([.fieldLink RJx4a65c 39 "java/util/ArrayList" "DEFAULTCAPACITY_EMPTY_ELEMENTDATA" "[Ljava/lang/Object;", .fieldLink RJx4a65c 9 "java/util/ArrayList" "elementData" "[Ljava/lang/Object;", .methodLink RJx4a65c 1 yJxc12de_init_da8c8, .instanceMethod yJxc12de_init_da8c8, .initialized RJxc12de, .code yJxc12de_init_da8c8 cJxc12de_init_da8c8 1 none, .fieldLink RJxc12de 7 "java/util/AbstractList" "modCount" "I", .methodLink RJxc12de 1 yJxa1e45_init_da8c8, .instanceMethod yJxa1e45_init_da8c8, .initialized RJxa1e45, .code yJxa1e45_init_da8c8 cJxa1e45_init_da8c8 1 none, .methodLink RJxa1e45 1 objectInit, .instanceMethod objectInit, .code objectInit ⟨#[0xb1]⟩ 1 none] ++ wsJx4a65c0)
def wsX4_init_r1 : List Cond := [Cond.methodLink RX4 3 objectInit, Cond.instanceMethod objectInit, Cond.code objectInit ⟨#[0xb1]⟩ 1 none, Cond.fieldLink RX4 9 "ModedMill$Machine" "store" "LModedMill$Terms;", Cond.fieldLink RX4 15 "ModedMill$Machine" "report" "LModedMill$Report;", Cond.classLink RX4 19 RJx4a65c, Cond.instantiable RJx4a65c 3, Cond.initialized RJx4a65c, Cond.fieldLink RX4 22 "ModedMill$Machine" "frames" "Ljava/util/ArrayList;", Cond.classLink RX4 26 RX9, Cond.instantiable RX9 3, Cond.initialized RX9, Cond.fieldLink RX4 31 "ModedMill$Machine" "choices" "LModedMill$Table;", Cond.fieldLink RX4 35 "ModedMill$Machine" "trail" "LModedMill$Table;", Cond.methodLink RX4 21 yJx4a65c_init_da8c8, Cond.instanceMethod yJx4a65c_init_da8c8, Cond.code yJx4a65c_init_da8c8 cJx4a65c_init_da8c8 1 none, Cond.fieldLink RJx4a65c 39 "java/util/ArrayList" "DEFAULTCAPACITY_EMPTY_ELEMENTDATA" "[Ljava/lang/Object;", Cond.fieldLink RJx4a65c 9 "java/util/ArrayList" "elementData" "[Ljava/lang/Object;", Cond.methodLink RJx4a65c 1 yJxc12de_init_da8c8, Cond.instanceMethod yJxc12de_init_da8c8, Cond.initialized RJxc12de, Cond.code yJxc12de_init_da8c8 cJxc12de_init_da8c8 1 none, Cond.fieldLink RJxc12de 7 "java/util/AbstractList" "modCount" "I"]
def wsX4_init_r2 : List Cond := [Cond.methodLink RJxc12de 1 yJxa1e45_init_da8c8, Cond.instanceMethod yJxa1e45_init_da8c8, Cond.initialized RJxa1e45, Cond.code yJxa1e45_init_da8c8 cJxa1e45_init_da8c8 1 none, Cond.methodLink RJxa1e45 1 objectInit, Cond.methodLink RX4 28 yX9_init, Cond.instanceMethod yX9_init, Cond.code yX9_init cX9_init 3 none, Cond.methodLink RX9 3 objectInit, Cond.fieldLink RX9 9 "ModedMill$Table" "columns" "I", Cond.constant RX9 15 (1000000), Cond.arrayClass .int, Cond.fieldLink RX9 16 "ModedMill$Table" "cells" "[I", Cond.fieldLink RX9 20 "ModedMill$Table" "lines" "I"]
def wsX4_init : List Cond := .code yX4_init cX4_init 3 none :: ((wsX4_init_r1 ++ wsX4_init_r2) ++ wsX40 ++ wsJx4a65c0 ++ wsX90)
def wsX7_init : List Cond := .code yX7_init cX7_init 1 none :: ([.methodLink RX7 3 objectInit, .instanceMethod objectInit, .code objectInit ⟨#[0xb1]⟩ 1 none, .classLink RX7 9 RJx4a65c, .instantiable RJx4a65c 3, .initialized RJx4a65c, .fieldLink RX7 12 "ModedMill$Program" "predicates" "Ljava/util/ArrayList;", .fieldLink RX7 18 "ModedMill$Program" "modes" "Ljava/util/ArrayList;", .fieldLink RX7 21 "ModedMill$Program" "clauses" "Ljava/util/ArrayList;", .methodLink RX7 11 yJx4a65c_init_da8c8, .instanceMethod yJx4a65c_init_da8c8, .code yJx4a65c_init_da8c8 cJx4a65c_init_da8c8 1 none, .fieldLink RJx4a65c 39 "java/util/ArrayList" "DEFAULTCAPACITY_EMPTY_ELEMENTDATA" "[Ljava/lang/Object;", .fieldLink RJx4a65c 9 "java/util/ArrayList" "elementData" "[Ljava/lang/Object;", .methodLink RJx4a65c 1 yJxc12de_init_da8c8, .instanceMethod yJxc12de_init_da8c8, .initialized RJxc12de, .code yJxc12de_init_da8c8 cJxc12de_init_da8c8 1 none, .fieldLink RJxc12de 7 "java/util/AbstractList" "modCount" "I", .methodLink RJxc12de 1 yJxa1e45_init_da8c8, .instanceMethod yJxa1e45_init_da8c8, .initialized RJxa1e45, .code yJxa1e45_init_da8c8 cJxa1e45_init_da8c8 1 none, .methodLink RJxa1e45 1 objectInit] ++ wsJx4a65c0 ++ wsX70)
def wsX8_init : List Cond := .code yX8_init cX8_init 1 none :: ([.methodLink RX8 3 objectInit, .instanceMethod objectInit, .code objectInit ⟨#[0xb1]⟩ 1 none, .fieldLink RX8 9 "ModedMill$Report" "mode" "LModedMill$Mode;", .classLink RX8 15 RX9, .instantiable RX9 3, .initialized RX9, .fieldLink RX8 20 "ModedMill$Report" "inputs" "LModedMill$Table;", .fieldLink RX8 24 "ModedMill$Report" "answers" "LModedMill$Table;", .fieldLink RX8 27 "ModedMill$Report" "notes" "LModedMill$Table;", .fieldLink RX8 30 "ModedMill$Report" "end" "C", .methodLink RX8 17 yX9_init, .instanceMethod yX9_init, .code yX9_init cX9_init 3 none, .methodLink RX9 3 objectInit, .fieldLink RX9 9 "ModedMill$Table" "columns" "I", .constant RX9 15 (1000000), .arrayClass .int, .fieldLink RX9 16 "ModedMill$Table" "cells" "[I", .fieldLink RX9 20 "ModedMill$Table" "lines" "I"] ++ wsX80 ++ wsX90)
def wsX10_init_r1 : List Cond := [Cond.methodLink RX10 3 objectInit, Cond.instanceMethod objectInit, Cond.code objectInit ⟨#[0xb1]⟩ 1 none, Cond.fieldLink RX10 9 "ModedMill$Terms" "types" "I", Cond.classLink RX10 15 RX9, Cond.instantiable RX9 3, Cond.initialized RX9, Cond.fieldLink RX10 20 "ModedMill$Terms" "constructors" "LModedMill$Table;", Cond.fieldLink RX10 24 "ModedMill$Terms" "numbered" "LModedMill$Table;", Cond.fieldLink RX10 27 "ModedMill$Terms" "chains" "LModedMill$Table;", Cond.arrayClass .long, Cond.fieldLink RX10 34 "ModedMill$Terms" "sizes" "[J", Cond.methodLink RX10 17 yX9_init, Cond.instanceMethod yX9_init, Cond.code yX9_init cX9_init 3 none, Cond.methodLink RX9 3 objectInit, Cond.fieldLink RX9 9 "ModedMill$Table" "columns" "I", Cond.constant RX9 15 (1000000), Cond.arrayClass .int, Cond.fieldLink RX9 16 "ModedMill$Table" "cells" "[I", Cond.fieldLink RX9 20 "ModedMill$Table" "lines" "I", Cond.methodLink RX10 30 yX9_add, Cond.instanceMethod yX9_add, Cond.selects RX9 yX9_add yX9_add]
def wsX10_init_r2 : List Cond := [Cond.code yX9_add cX9_add 6 (some .int), Cond.methodLink RX9 23 yJ7_copyOf_59c91, Cond.static yJ7_copyOf_59c91, Cond.initialized RJ7, Cond.code yJ7_copyOf_59c91 cJ7_copyOf_59c91 3 (some (.array .int)), Cond.methodLink RJ7 316 ⟨"[I", "clone", "()Ljava/lang/Object;"⟩, Cond.sameMethod "[I" "java/lang/Object" "clone" "()Ljava/lang/Object;", Cond.native ⟨"java/lang/Object", "clone", "()Ljava/lang/Object;"⟩, Cond.instanceMethod ⟨"java/lang/Object", "clone", "()Ljava/lang/Object;"⟩, Cond.selects "[I" ⟨"[I", "clone", "()Ljava/lang/Object;"⟩ ⟨"java/lang/Object", "clone", "()Ljava/lang/Object;"⟩, Cond.classLink RJ7 317 "[I", Cond.methodLink RJ7 304 Lib.Math.min.name, Cond.static Lib.Math.min.name, Cond.initialized "java/lang/Math", Cond.code Lib.Math.min.name Lib.Math.min.code 2 (some .int), Cond.methodLink RJ7 150 arraycopyName, Cond.native arraycopyName, Cond.static arraycopyName, Cond.initialized "java/lang/System", Cond.methodLink RX9 29 yJ7_fill_fda19, Cond.static yJ7_fill_fda19, Cond.code yJ7_fill_fda19 cJ7_fill_fda19 5 none, Cond.methodLink RJ7 13 yJ7_rangeCheck_23922, Cond.static yJ7_rangeCheck_23922]
def wsX10_init_r3 : List Cond := [Cond.code yJ7_rangeCheck_23922 cJ7_rangeCheck_23922 3 none, Cond.classLink RJ7 45 RJ4, Cond.instantiable RJ4 4, Cond.initialized RJ4, Cond.classLink RJ7 68 RJx00060, Cond.instantiable RJx00060 6, Cond.initialized RJx00060, Cond.methodLink RX9 33 yX9_set, Cond.instanceMethod yX9_set, Cond.selects RX9 yX9_set yX9_set, Cond.code yX9_set cX9_set 6 none]
def wsX10_init : List Cond := .code yX10_init cX10_init 2 none :: ((wsX10_init_r1 ++ (wsX10_init_r2 ++ wsX10_init_r3)) ++ wsX100 ++ wsX90 ++ wsJ40 ++ wsJx000600 ++ (vx_atM "java/lang/ArrayIndexOutOfBoundsException" ["java/lang/IndexOutOfBoundsException", "java/lang/RuntimeException", "java/lang/Exception"]).filter goodWord)
def wsX11_init_r1 : List Cond := [Cond.methodLink RX11 1 objectInit, Cond.instanceMethod objectInit, Cond.code objectInit ⟨#[0xb1]⟩ 1 none, Cond.classLink RX11 7 RX10, Cond.instantiable RX10 5, Cond.initialized RX10, Cond.fieldLink RX11 10 "ModedMill" "store" "LModedMill$Terms;", Cond.classLink RX11 16 RX7, Cond.instantiable RX7 3, Cond.initialized RX7, Cond.fieldLink RX11 19 "ModedMill" "program" "LModedMill$Program;", Cond.classLink RX11 23 RX8, Cond.instantiable RX8 10, Cond.initialized RX8, Cond.fieldLink RX11 26 "ModedMill" "last" "LModedMill$Report;", Cond.fieldLink RX11 30 "ModedMill" "spare" "LModedMill$Report;", Cond.classLink RX11 33 RX4, Cond.instantiable RX4 12, Cond.initialized RX4, Cond.fieldLink RX11 38 "ModedMill" "machine" "LModedMill$Machine;", Cond.classLink RX11 42 RX0, Cond.instantiable RX0 15, Cond.initialized RX0, Cond.fieldLink RX11 47 "ModedMill" "breadth" "LModedMill$Breadth;"]
def wsX11_init_r2 : List Cond := [Cond.fieldLink RX11 51 "ModedMill" "isCompiled" "Z", Cond.fieldLink RX11 55 "ModedMill" "asked" "I", Cond.fieldLink RX11 59 "ModedMill" "stepSum" "J", Cond.methodLink RX11 9 yX10_init, Cond.instanceMethod yX10_init, Cond.code yX10_init cX10_init 2 none, Cond.methodLink RX10 3 objectInit, Cond.fieldLink RX10 9 "ModedMill$Terms" "types" "I", Cond.classLink RX10 15 RX9, Cond.instantiable RX9 3, Cond.initialized RX9, Cond.fieldLink RX10 20 "ModedMill$Terms" "constructors" "LModedMill$Table;", Cond.fieldLink RX10 24 "ModedMill$Terms" "numbered" "LModedMill$Table;", Cond.fieldLink RX10 27 "ModedMill$Terms" "chains" "LModedMill$Table;", Cond.arrayClass .long, Cond.fieldLink RX10 34 "ModedMill$Terms" "sizes" "[J", Cond.methodLink RX10 17 yX9_init, Cond.instanceMethod yX9_init, Cond.code yX9_init cX9_init 3 none, Cond.methodLink RX9 3 objectInit, Cond.fieldLink RX9 9 "ModedMill$Table" "columns" "I", Cond.constant RX9 15 (1000000), Cond.arrayClass .int, Cond.fieldLink RX9 16 "ModedMill$Table" "cells" "[I"]
def wsX11_init_r3 : List Cond := [Cond.fieldLink RX9 20 "ModedMill$Table" "lines" "I", Cond.methodLink RX10 30 yX9_add, Cond.instanceMethod yX9_add, Cond.selects RX9 yX9_add yX9_add, Cond.code yX9_add cX9_add 6 (some .int), Cond.methodLink RX9 23 yJ7_copyOf_59c91, Cond.static yJ7_copyOf_59c91, Cond.initialized RJ7, Cond.code yJ7_copyOf_59c91 cJ7_copyOf_59c91 3 (some (.array .int)), Cond.methodLink RJ7 316 ⟨"[I", "clone", "()Ljava/lang/Object;"⟩, Cond.sameMethod "[I" "java/lang/Object" "clone" "()Ljava/lang/Object;", Cond.native ⟨"java/lang/Object", "clone", "()Ljava/lang/Object;"⟩, Cond.instanceMethod ⟨"java/lang/Object", "clone", "()Ljava/lang/Object;"⟩, Cond.selects "[I" ⟨"[I", "clone", "()Ljava/lang/Object;"⟩ ⟨"java/lang/Object", "clone", "()Ljava/lang/Object;"⟩, Cond.classLink RJ7 317 "[I", Cond.methodLink RJ7 304 Lib.Math.min.name, Cond.static Lib.Math.min.name, Cond.initialized "java/lang/Math", Cond.code Lib.Math.min.name Lib.Math.min.code 2 (some .int), Cond.methodLink RJ7 150 arraycopyName, Cond.native arraycopyName, Cond.static arraycopyName, Cond.initialized "java/lang/System", Cond.methodLink RX9 29 yJ7_fill_fda19]
def wsX11_init_r4 : List Cond := [Cond.static yJ7_fill_fda19, Cond.code yJ7_fill_fda19 cJ7_fill_fda19 5 none, Cond.methodLink RJ7 13 yJ7_rangeCheck_23922, Cond.static yJ7_rangeCheck_23922, Cond.code yJ7_rangeCheck_23922 cJ7_rangeCheck_23922 3 none, Cond.classLink RJ7 45 RJ4, Cond.instantiable RJ4 4, Cond.initialized RJ4, Cond.classLink RJ7 68 RJx00060, Cond.instantiable RJx00060 6, Cond.initialized RJx00060, Cond.methodLink RX9 33 yX9_set, Cond.instanceMethod yX9_set, Cond.selects RX9 yX9_set yX9_set, Cond.code yX9_set cX9_set 6 none, Cond.methodLink RX11 18 yX7_init, Cond.instanceMethod yX7_init, Cond.code yX7_init cX7_init 1 none, Cond.methodLink RX7 3 objectInit, Cond.classLink RX7 9 RJx4a65c, Cond.instantiable RJx4a65c 3, Cond.initialized RJx4a65c, Cond.fieldLink RX7 12 "ModedMill$Program" "predicates" "Ljava/util/ArrayList;", Cond.fieldLink RX7 18 "ModedMill$Program" "modes" "Ljava/util/ArrayList;"]
def wsX11_init_r5 : List Cond := [Cond.fieldLink RX7 21 "ModedMill$Program" "clauses" "Ljava/util/ArrayList;", Cond.methodLink RX7 11 yJx4a65c_init_da8c8, Cond.instanceMethod yJx4a65c_init_da8c8, Cond.code yJx4a65c_init_da8c8 cJx4a65c_init_da8c8 1 none, Cond.fieldLink RJx4a65c 39 "java/util/ArrayList" "DEFAULTCAPACITY_EMPTY_ELEMENTDATA" "[Ljava/lang/Object;", Cond.fieldLink RJx4a65c 9 "java/util/ArrayList" "elementData" "[Ljava/lang/Object;", Cond.methodLink RJx4a65c 1 yJxc12de_init_da8c8, Cond.instanceMethod yJxc12de_init_da8c8, Cond.initialized RJxc12de, Cond.code yJxc12de_init_da8c8 cJxc12de_init_da8c8 1 none, Cond.fieldLink RJxc12de 7 "java/util/AbstractList" "modCount" "I", Cond.methodLink RJxc12de 1 yJxa1e45_init_da8c8, Cond.instanceMethod yJxa1e45_init_da8c8, Cond.initialized RJxa1e45, Cond.code yJxa1e45_init_da8c8 cJxa1e45_init_da8c8 1 none, Cond.methodLink RJxa1e45 1 objectInit, Cond.methodLink RX11 25 yX8_init, Cond.instanceMethod yX8_init, Cond.code yX8_init cX8_init 1 none, Cond.methodLink RX8 3 objectInit, Cond.fieldLink RX8 9 "ModedMill$Report" "mode" "LModedMill$Mode;", Cond.classLink RX8 15 RX9, Cond.fieldLink RX8 20 "ModedMill$Report" "inputs" "LModedMill$Table;", Cond.fieldLink RX8 24 "ModedMill$Report" "answers" "LModedMill$Table;"]
def wsX11_init_r6 : List Cond := [Cond.fieldLink RX8 27 "ModedMill$Report" "notes" "LModedMill$Table;", Cond.fieldLink RX8 30 "ModedMill$Report" "end" "C", Cond.methodLink RX8 17 yX9_init, Cond.methodLink RX11 35 yX4_init, Cond.instanceMethod yX4_init, Cond.code yX4_init cX4_init 3 none, Cond.methodLink RX4 3 objectInit, Cond.fieldLink RX4 9 "ModedMill$Machine" "store" "LModedMill$Terms;", Cond.fieldLink RX4 15 "ModedMill$Machine" "report" "LModedMill$Report;", Cond.classLink RX4 19 RJx4a65c, Cond.fieldLink RX4 22 "ModedMill$Machine" "frames" "Ljava/util/ArrayList;", Cond.classLink RX4 26 RX9, Cond.fieldLink RX4 31 "ModedMill$Machine" "choices" "LModedMill$Table;", Cond.fieldLink RX4 35 "ModedMill$Machine" "trail" "LModedMill$Table;", Cond.methodLink RX4 21 yJx4a65c_init_da8c8, Cond.methodLink RX4 28 yX9_init, Cond.methodLink RX11 44 yX0_init, Cond.instanceMethod yX0_init, Cond.code yX0_init cX0_init 3 none, Cond.methodLink RX0 3 objectInit, Cond.fieldLink RX0 9 "ModedMill$Breadth" "program" "LModedMill$Program;", Cond.fieldLink RX0 15 "ModedMill$Breadth" "store" "LModedMill$Terms;", Cond.classLink RX0 19 RX9, Cond.fieldLink RX0 24 "ModedMill$Breadth" "nodes" "LModedMill$Table;"]
def wsX11_init_r7 : List Cond := [Cond.fieldLink RX0 28 "ModedMill$Breadth" "variables" "LModedMill$Table;", Cond.fieldLink RX0 31 "ModedMill$Breadth" "cells" "LModedMill$Table;", Cond.fieldLink RX0 34 "ModedMill$Breadth" "lists" "LModedMill$Table;", Cond.fieldLink RX0 37 "ModedMill$Breadth" "row" "LModedMill$Table;", Cond.fieldLink RX0 40 "ModedMill$Breadth" "bindings" "LModedMill$Table;", Cond.fieldLink RX0 43 "ModedMill$Breadth" "levels" "LModedMill$Table;", Cond.fieldLink RX0 46 "ModedMill$Breadth" "work" "LModedMill$Table;", Cond.methodLink RX0 21 yX9_init]
def wsX11_init : List Cond := .code yX11_init cX11_init 1 none :: ((wsX11_init_r1 ++ (wsX11_init_r2 ++ (wsX11_init_r3 ++ (wsX11_init_r4 ++ (wsX11_init_r5 ++ (wsX11_init_r6 ++ wsX11_init_r7)))))) ++ wsX100 ++ wsX110 ++ wsX70 ++ wsX80 ++ wsX40 ++ wsX00 ++ wsX90 ++ wsJ40 ++ wsJx000600 ++ wsJx4a65c0 ++ (vx_atM "java/lang/ArrayIndexOutOfBoundsException" ["java/lang/IndexOutOfBoundsException", "java/lang/RuntimeException", "java/lang/Exception"]).filter goodWord)
set_option maxRecDepth 20000 in
theorem ggX0_init_X9_init : GoodIn wsX0_init wsX9_init := goodIn_r _ [19, 20, 2, 3, 21, 22, 23, 24, 25, 41, 42, 43] (by decide +kernel) (by decide +kernel)
set_option maxRecDepth 20000 in
theorem gX0_init_X9_init : GoodIn wsX0_init (wsX9_init) := ggX0_init_X9_init
theorem dX0_init_0 : decode cX0_init 0 = .ok (.aload_n 0, 1) := by decide +kernel
theorem dX0_init_1 : decode cX0_init 1 = .ok (.invokespecial 3, 3) := by decide +kernel
theorem dX0_init_4 : decode cX0_init 4 = .ok (.aload_n 0, 1) := by decide +kernel
theorem dX0_init_5 : decode cX0_init 5 = .ok (.aload_n 1, 1) := by decide +kernel
theorem dX0_init_6 : decode cX0_init 6 = .ok (.putfield 9, 3) := by decide +kernel
theorem dX0_init_9 : decode cX0_init 9 = .ok (.aload_n 0, 1) := by decide +kernel
theorem dX0_init_10 : decode cX0_init 10 = .ok (.aload_n 2, 1) := by decide +kernel
theorem dX0_init_11 : decode cX0_init 11 = .ok (.putfield 15, 3) := by decide +kernel
theorem dX0_init_14 : decode cX0_init 14 = .ok (.aload_n 0, 1) := by decide +kernel
theorem dX0_init_15 : decode cX0_init 15 = .ok (.new 19, 3) := by decide +kernel
theorem dX0_init_18 : decode cX0_init 18 = .ok (.dup, 1) := by decide +kernel
theorem dX0_init_19 : decode cX0_init 19 = .ok (.iconst 5, 1) := by decide +kernel
theorem dX0_init_20 : decode cX0_init 20 = .ok (.bipush 64, 2) := by decide +kernel
theorem dX0_init_22 : decode cX0_init 22 = .ok (.invokespecial 21, 3) := by decide +kernel
theorem dX0_init_25 : decode cX0_init 25 = .ok (.putfield 24, 3) := by decide +kernel
theorem dX0_init_28 : decode cX0_init 28 = .ok (.aload_n 0, 1) := by decide +kernel
theorem dX0_init_29 : decode cX0_init 29 = .ok (.new 19, 3) := by decide +kernel
theorem dX0_init_32 : decode cX0_init 32 = .ok (.dup, 1) := by decide +kernel
theorem dX0_init_33 : decode cX0_init 33 = .ok (.iconst 1, 1) := by decide +kernel
theorem dX0_init_34 : decode cX0_init 34 = .ok (.bipush 64, 2) := by decide +kernel
theorem dX0_init_36 : decode cX0_init 36 = .ok (.invokespecial 21, 3) := by decide +kernel
theorem dX0_init_39 : decode cX0_init 39 = .ok (.putfield 28, 3) := by decide +kernel
theorem dX0_init_42 : decode cX0_init 42 = .ok (.aload_n 0, 1) := by decide +kernel
theorem dX0_init_43 : decode cX0_init 43 = .ok (.new 19, 3) := by decide +kernel
theorem dX0_init_46 : decode cX0_init 46 = .ok (.dup, 1) := by decide +kernel
theorem dX0_init_47 : decode cX0_init 47 = .ok (.iconst 3, 1) := by decide +kernel
theorem dX0_init_48 : decode cX0_init 48 = .ok (.bipush 64, 2) := by decide +kernel
theorem dX0_init_50 : decode cX0_init 50 = .ok (.invokespecial 21, 3) := by decide +kernel
theorem dX0_init_53 : decode cX0_init 53 = .ok (.putfield 31, 3) := by decide +kernel
theorem dX0_init_56 : decode cX0_init 56 = .ok (.aload_n 0, 1) := by decide +kernel
theorem dX0_init_57 : decode cX0_init 57 = .ok (.new 19, 3) := by decide +kernel
theorem dX0_init_60 : decode cX0_init 60 = .ok (.dup, 1) := by decide +kernel
theorem dX0_init_61 : decode cX0_init 61 = .ok (.iconst 4, 1) := by decide +kernel
theorem dX0_init_62 : decode cX0_init 62 = .ok (.bipush 64, 2) := by decide +kernel
theorem dX0_init_64 : decode cX0_init 64 = .ok (.invokespecial 21, 3) := by decide +kernel
theorem dX0_init_67 : decode cX0_init 67 = .ok (.putfield 34, 3) := by decide +kernel
theorem dX0_init_70 : decode cX0_init 70 = .ok (.aload_n 0, 1) := by decide +kernel
theorem dX0_init_71 : decode cX0_init 71 = .ok (.new 19, 3) := by decide +kernel
theorem dX0_init_74 : decode cX0_init 74 = .ok (.dup, 1) := by decide +kernel
theorem dX0_init_75 : decode cX0_init 75 = .ok (.bipush 6, 2) := by decide +kernel
theorem dX0_init_77 : decode cX0_init 77 = .ok (.bipush 64, 2) := by decide +kernel
theorem dX0_init_79 : decode cX0_init 79 = .ok (.invokespecial 21, 3) := by decide +kernel
theorem dX0_init_82 : decode cX0_init 82 = .ok (.putfield 37, 3) := by decide +kernel
theorem dX0_init_85 : decode cX0_init 85 = .ok (.aload_n 0, 1) := by decide +kernel
theorem dX0_init_86 : decode cX0_init 86 = .ok (.new 19, 3) := by decide +kernel
theorem dX0_init_89 : decode cX0_init 89 = .ok (.dup, 1) := by decide +kernel
theorem dX0_init_90 : decode cX0_init 90 = .ok (.iconst 2, 1) := by decide +kernel
theorem dX0_init_91 : decode cX0_init 91 = .ok (.bipush 64, 2) := by decide +kernel
theorem dX0_init_93 : decode cX0_init 93 = .ok (.invokespecial 21, 3) := by decide +kernel
theorem dX0_init_96 : decode cX0_init 96 = .ok (.putfield 40, 3) := by decide +kernel
theorem dX0_init_99 : decode cX0_init 99 = .ok (.aload_n 0, 1) := by decide +kernel
theorem dX0_init_100 : decode cX0_init 100 = .ok (.new 19, 3) := by decide +kernel
theorem dX0_init_103 : decode cX0_init 103 = .ok (.dup, 1) := by decide +kernel
theorem dX0_init_104 : decode cX0_init 104 = .ok (.iconst 4, 1) := by decide +kernel
theorem dX0_init_105 : decode cX0_init 105 = .ok (.bipush 8, 2) := by decide +kernel
theorem dX0_init_107 : decode cX0_init 107 = .ok (.invokespecial 21, 3) := by decide +kernel
theorem dX0_init_110 : decode cX0_init 110 = .ok (.putfield 43, 3) := by decide +kernel
theorem dX0_init_113 : decode cX0_init 113 = .ok (.aload_n 0, 1) := by decide +kernel
theorem dX0_init_114 : decode cX0_init 114 = .ok (.new 19, 3) := by decide +kernel
theorem dX0_init_117 : decode cX0_init 117 = .ok (.dup, 1) := by decide +kernel
theorem dX0_init_118 : decode cX0_init 118 = .ok (.iconst 3, 1) := by decide +kernel
theorem dX0_init_119 : decode cX0_init 119 = .ok (.bipush 64, 2) := by decide +kernel
theorem dX0_init_121 : decode cX0_init 121 = .ok (.invokespecial 21, 3) := by decide +kernel
theorem dX0_init_124 : decode cX0_init 124 = .ok (.putfield 46, 3) := by decide +kernel
theorem dX0_init_127 : decode cX0_init 127 = .ok (.return_, 1) := by decide +kernel
set_option maxRecDepth 20000 in
theorem ggX4_init_Jx4a65c_init_da8c8 : GoodIn wsX4_init wsJx4a65c_init_da8c8 := goodIn_r _ [17, 18, 19, 20, 21, 22, 23, 24, 25, 26, 27, 28, 29, 2, 3, 51, 52, 53] (by decide +kernel) (by decide +kernel)
set_option maxRecDepth 20000 in
theorem gX4_init_Jx4a65c_init_da8c8 : GoodIn wsX4_init (wsJx4a65c_init_da8c8) := ggX4_init_Jx4a65c_init_da8c8
set_option maxRecDepth 20000 in
theorem ggX4_init_X9_init : GoodIn wsX4_init wsX9_init := goodIn_r _ [32, 33, 2, 3, 34, 35, 36, 37, 38, 54, 55, 56] (by decide +kernel) (by decide +kernel)
set_option maxRecDepth 20000 in
theorem gX4_init_X9_init : GoodIn wsX4_init (wsX9_init) := ggX4_init_X9_init
theorem dX4_init_0 : decode cX4_init 0 = .ok (.aload_n 0, 1) := by decide +kernel
theorem dX4_init_1 : decode cX4_init 1 = .ok (.invokespecial 3, 3) := by decide +kernel
theorem dX4_init_4 : decode cX4_init 4 = .ok (.aload_n 0, 1) := by decide +kernel
theorem dX4_init_5 : decode cX4_init 5 = .ok (.aload_n 1, 1) := by decide +kernel
theorem dX4_init_6 : decode cX4_init 6 = .ok (.putfield 9, 3) := by decide +kernel
theorem dX4_init_9 : decode cX4_init 9 = .ok (.aload_n 0, 1) := by decide +kernel
theorem dX4_init_10 : decode cX4_init 10 = .ok (.aload_n 2, 1) := by decide +kernel
theorem dX4_init_11 : decode cX4_init 11 = .ok (.putfield 15, 3) := by decide +kernel
theorem dX4_init_14 : decode cX4_init 14 = .ok (.aload_n 0, 1) := by decide +kernel
theorem dX4_init_15 : decode cX4_init 15 = .ok (.new 19, 3) := by decide +kernel
theorem dX4_init_18 : decode cX4_init 18 = .ok (.dup, 1) := by decide +kernel
theorem dX4_init_19 : decode cX4_init 19 = .ok (.invokespecial 21, 3) := by decide +kernel
theorem dX4_init_22 : decode cX4_init 22 = .ok (.putfield 22, 3) := by decide +kernel
theorem dX4_init_25 : decode cX4_init 25 = .ok (.aload_n 0, 1) := by decide +kernel
theorem dX4_init_26 : decode cX4_init 26 = .ok (.new 26, 3) := by decide +kernel
theorem dX4_init_29 : decode cX4_init 29 = .ok (.dup, 1) := by decide +kernel
theorem dX4_init_30 : decode cX4_init 30 = .ok (.iconst 3, 1) := by decide +kernel
theorem dX4_init_31 : decode cX4_init 31 = .ok (.bipush 30, 2) := by decide +kernel
theorem dX4_init_33 : decode cX4_init 33 = .ok (.invokespecial 28, 3) := by decide +kernel
theorem dX4_init_36 : decode cX4_init 36 = .ok (.putfield 31, 3) := by decide +kernel
theorem dX4_init_39 : decode cX4_init 39 = .ok (.aload_n 0, 1) := by decide +kernel
theorem dX4_init_40 : decode cX4_init 40 = .ok (.new 26, 3) := by decide +kernel
theorem dX4_init_43 : decode cX4_init 43 = .ok (.dup, 1) := by decide +kernel
theorem dX4_init_44 : decode cX4_init 44 = .ok (.iconst 2, 1) := by decide +kernel
theorem dX4_init_45 : decode cX4_init 45 = .ok (.bipush 30, 2) := by decide +kernel
theorem dX4_init_47 : decode cX4_init 47 = .ok (.invokespecial 28, 3) := by decide +kernel
theorem dX4_init_50 : decode cX4_init 50 = .ok (.putfield 35, 3) := by decide +kernel
theorem dX4_init_53 : decode cX4_init 53 = .ok (.return_, 1) := by decide +kernel
set_option maxRecDepth 20000 in
theorem ggX7_init_Jx4a65c_init_da8c8 : GoodIn wsX7_init wsJx4a65c_init_da8c8 := goodIn_r _ [12, 13, 14, 15, 16, 17, 18, 19, 20, 21, 22, 23, 24, 2, 3, 25, 26, 27] (by decide +kernel) (by decide +kernel)
set_option maxRecDepth 20000 in
theorem gX7_init_Jx4a65c_init_da8c8 : GoodIn wsX7_init (wsJx4a65c_init_da8c8) := ggX7_init_Jx4a65c_init_da8c8
theorem dX7_init_0 : decode cX7_init 0 = .ok (.aload_n 0, 1) := by decide +kernel
theorem dX7_init_1 : decode cX7_init 1 = .ok (.invokespecial 3, 3) := by decide +kernel
theorem dX7_init_4 : decode cX7_init 4 = .ok (.aload_n 0, 1) := by decide +kernel
theorem dX7_init_5 : decode cX7_init 5 = .ok (.new 9, 3) := by decide +kernel
theorem dX7_init_8 : decode cX7_init 8 = .ok (.dup, 1) := by decide +kernel
theorem dX7_init_9 : decode cX7_init 9 = .ok (.invokespecial 11, 3) := by decide +kernel
theorem dX7_init_12 : decode cX7_init 12 = .ok (.putfield 12, 3) := by decide +kernel
theorem dX7_init_15 : decode cX7_init 15 = .ok (.aload_n 0, 1) := by decide +kernel
theorem dX7_init_16 : decode cX7_init 16 = .ok (.new 9, 3) := by decide +kernel
theorem dX7_init_19 : decode cX7_init 19 = .ok (.dup, 1) := by decide +kernel
theorem dX7_init_20 : decode cX7_init 20 = .ok (.invokespecial 11, 3) := by decide +kernel
theorem dX7_init_23 : decode cX7_init 23 = .ok (.putfield 18, 3) := by decide +kernel
theorem dX7_init_26 : decode cX7_init 26 = .ok (.aload_n 0, 1) := by decide +kernel
theorem dX7_init_27 : decode cX7_init 27 = .ok (.new 9, 3) := by decide +kernel
theorem dX7_init_30 : decode cX7_init 30 = .ok (.dup, 1) := by decide +kernel
theorem dX7_init_31 : decode cX7_init 31 = .ok (.invokespecial 11, 3) := by decide +kernel
theorem dX7_init_34 : decode cX7_init 34 = .ok (.putfield 21, 3) := by decide +kernel
theorem dX7_init_37 : decode cX7_init 37 = .ok (.return_, 1) := by decide +kernel
set_option maxRecDepth 20000 in
theorem ggX8_init_X9_init : GoodIn wsX8_init wsX9_init := goodIn_r _ [14, 15, 2, 3, 16, 17, 18, 19, 20, 31, 32, 33] (by decide +kernel) (by decide +kernel)
set_option maxRecDepth 20000 in
theorem gX8_init_X9_init : GoodIn wsX8_init (wsX9_init) := ggX8_init_X9_init
theorem dX8_init_0 : decode cX8_init 0 = .ok (.aload_n 0, 1) := by decide +kernel
theorem dX8_init_1 : decode cX8_init 1 = .ok (.invokespecial 3, 3) := by decide +kernel
theorem dX8_init_4 : decode cX8_init 4 = .ok (.aload_n 0, 1) := by decide +kernel
theorem dX8_init_5 : decode cX8_init 5 = .ok (.aconst_null, 1) := by decide +kernel
theorem dX8_init_6 : decode cX8_init 6 = .ok (.putfield 9, 3) := by decide +kernel
theorem dX8_init_9 : decode cX8_init 9 = .ok (.aload_n 0, 1) := by decide +kernel
theorem dX8_init_10 : decode cX8_init 10 = .ok (.new 15, 3) := by decide +kernel
theorem dX8_init_13 : decode cX8_init 13 = .ok (.dup, 1) := by decide +kernel
theorem dX8_init_14 : decode cX8_init 14 = .ok (.iconst 1, 1) := by decide +kernel
theorem dX8_init_15 : decode cX8_init 15 = .ok (.iconst 3, 1) := by decide +kernel
theorem dX8_init_16 : decode cX8_init 16 = .ok (.invokespecial 17, 3) := by decide +kernel
theorem dX8_init_19 : decode cX8_init 19 = .ok (.putfield 20, 3) := by decide +kernel
theorem dX8_init_22 : decode cX8_init 22 = .ok (.aload_n 0, 1) := by decide +kernel
theorem dX8_init_23 : decode cX8_init 23 = .ok (.new 15, 3) := by decide +kernel
theorem dX8_init_26 : decode cX8_init 26 = .ok (.dup, 1) := by decide +kernel
theorem dX8_init_27 : decode cX8_init 27 = .ok (.iconst 3, 1) := by decide +kernel
theorem dX8_init_28 : decode cX8_init 28 = .ok (.bipush 50, 2) := by decide +kernel
theorem dX8_init_30 : decode cX8_init 30 = .ok (.invokespecial 17, 3) := by decide +kernel
theorem dX8_init_33 : decode cX8_init 33 = .ok (.putfield 24, 3) := by decide +kernel
theorem dX8_init_36 : decode cX8_init 36 = .ok (.aload_n 0, 1) := by decide +kernel
theorem dX8_init_37 : decode cX8_init 37 = .ok (.new 15, 3) := by decide +kernel
theorem dX8_init_40 : decode cX8_init 40 = .ok (.dup, 1) := by decide +kernel
theorem dX8_init_41 : decode cX8_init 41 = .ok (.iconst 2, 1) := by decide +kernel
theorem dX8_init_42 : decode cX8_init 42 = .ok (.bipush 80, 2) := by decide +kernel
theorem dX8_init_44 : decode cX8_init 44 = .ok (.invokespecial 17, 3) := by decide +kernel
theorem dX8_init_47 : decode cX8_init 47 = .ok (.putfield 27, 3) := by decide +kernel
theorem dX8_init_50 : decode cX8_init 50 = .ok (.aload_n 0, 1) := by decide +kernel
theorem dX8_init_51 : decode cX8_init 51 = .ok (.bipush 101, 2) := by decide +kernel
theorem dX8_init_53 : decode cX8_init 53 = .ok (.putfield 30, 3) := by decide +kernel
theorem dX8_init_56 : decode cX8_init 56 = .ok (.return_, 1) := by decide +kernel
theorem dX9_init_0 : decode cX9_init 0 = .ok (.aload_n 0, 1) := by decide +kernel
theorem dX9_init_1 : decode cX9_init 1 = .ok (.invokespecial 3, 3) := by decide +kernel
theorem dX9_init_4 : decode cX9_init 4 = .ok (.aload_n 0, 1) := by decide +kernel
theorem dX9_init_5 : decode cX9_init 5 = .ok (.iload_n 1, 1) := by decide +kernel
theorem dX9_init_6 : decode cX9_init 6 = .ok (.ifCond .le 7, 3) := by decide +kernel
theorem dX9_init_9 : decode cX9_init 9 = .ok (.iload_n 1, 1) := by decide +kernel
theorem dX9_init_10 : decode cX9_init 10 = .ok (.goto 4, 3) := by decide +kernel
theorem dX9_init_13 : decode cX9_init 13 = .ok (.iconst 1, 1) := by decide +kernel
theorem dX9_init_14 : decode cX9_init 14 = .ok (.putfield 9, 3) := by decide +kernel
theorem dX9_init_17 : decode cX9_init 17 = .ok (.aload_n 0, 1) := by decide +kernel
theorem dX9_init_18 : decode cX9_init 18 = .ok (.iload_n 2, 1) := by decide +kernel
theorem dX9_init_19 : decode cX9_init 19 = .ok (.ifCond .le 18, 3) := by decide +kernel
theorem dX9_init_22 : decode cX9_init 22 = .ok (.iload_n 2, 1) := by decide +kernel
theorem dX9_init_23 : decode cX9_init 23 = .ok (.ldc 15, 2) := by decide +kernel
theorem dX9_init_25 : decode cX9_init 25 = .ok (.if_icmp .ge 12, 3) := by decide +kernel
theorem dX9_init_28 : decode cX9_init 28 = .ok (.aload_n 0, 1) := by decide +kernel
theorem dX9_init_29 : decode cX9_init 29 = .ok (.getfield 9, 3) := by decide +kernel
theorem dX9_init_32 : decode cX9_init 32 = .ok (.iload_n 2, 1) := by decide +kernel
theorem dX9_init_33 : decode cX9_init 33 = .ok (.imul, 1) := by decide +kernel
theorem dX9_init_34 : decode cX9_init 34 = .ok (.goto 7, 3) := by decide +kernel
theorem dX9_init_37 : decode cX9_init 37 = .ok (.aload_n 0, 1) := by decide +kernel
theorem dX9_init_38 : decode cX9_init 38 = .ok (.getfield 9, 3) := by decide +kernel
theorem dX9_init_41 : decode cX9_init 41 = .ok (.newarray .int, 2) := by decide +kernel
theorem dX9_init_43 : decode cX9_init 43 = .ok (.putfield 16, 3) := by decide +kernel
theorem dX9_init_46 : decode cX9_init 46 = .ok (.aload_n 0, 1) := by decide +kernel
theorem dX9_init_47 : decode cX9_init 47 = .ok (.iconst 0, 1) := by decide +kernel
theorem dX9_init_48 : decode cX9_init 48 = .ok (.putfield 20, 3) := by decide +kernel
theorem dX9_init_51 : decode cX9_init 51 = .ok (.return_, 1) := by decide +kernel
theorem dX9_count_0 : decode cX9_count 0 = .ok (.aload_n 0, 1) := by decide +kernel
theorem dX9_count_1 : decode cX9_count 1 = .ok (.getfield 20, 3) := by decide +kernel
theorem dX9_count_4 : decode cX9_count 4 = .ok (.ireturn, 1) := by decide +kernel
theorem dX9_get_0 : decode cX9_get 0 = .ok (.iload_n 1, 1) := by decide +kernel
theorem dX9_get_1 : decode cX9_get 1 = .ok (.aload_n 0, 1) := by decide +kernel
theorem dX9_get_2 : decode cX9_get 2 = .ok (.getfield 9, 3) := by decide +kernel
theorem dX9_get_5 : decode cX9_get 5 = .ok (.imul, 1) := by decide +kernel
theorem dX9_get_6 : decode cX9_get 6 = .ok (.iload_n 2, 1) := by decide +kernel
theorem dX9_get_7 : decode cX9_get 7 = .ok (.iadd, 1) := by decide +kernel
theorem dX9_get_8 : decode cX9_get 8 = .ok (.istore_n 3, 1) := by decide +kernel
theorem dX9_get_9 : decode cX9_get 9 = .ok (.iload_n 1, 1) := by decide +kernel
theorem dX9_get_10 : decode cX9_get 10 = .ok (.ifCond .lt 27, 3) := by decide +kernel
theorem dX9_get_13 : decode cX9_get 13 = .ok (.iload_n 1, 1) := by decide +kernel
theorem dX9_get_14 : decode cX9_get 14 = .ok (.aload_n 0, 1) := by decide +kernel
theorem dX9_get_15 : decode cX9_get 15 = .ok (.getfield 20, 3) := by decide +kernel
theorem dX9_get_18 : decode cX9_get 18 = .ok (.if_icmp .ge 19, 3) := by decide +kernel
theorem dX9_get_21 : decode cX9_get 21 = .ok (.iload_n 2, 1) := by decide +kernel
theorem dX9_get_22 : decode cX9_get 22 = .ok (.ifCond .lt 15, 3) := by decide +kernel
theorem dX9_get_25 : decode cX9_get 25 = .ok (.iload_n 2, 1) := by decide +kernel
theorem dX9_get_26 : decode cX9_get 26 = .ok (.aload_n 0, 1) := by decide +kernel
theorem dX9_get_27 : decode cX9_get 27 = .ok (.getfield 9, 3) := by decide +kernel
theorem dX9_get_30 : decode cX9_get 30 = .ok (.if_icmp .ge 7, 3) := by decide +kernel
theorem dX9_get_33 : decode cX9_get 33 = .ok (.iconst 1, 1) := by decide +kernel
theorem dX9_get_34 : decode cX9_get 34 = .ok (.goto 4, 3) := by decide +kernel
theorem dX9_get_37 : decode cX9_get 37 = .ok (.iconst 0, 1) := by decide +kernel
theorem dX9_get_38 : decode cX9_get 38 = .ok (.istore 4, 2) := by decide +kernel
theorem dX9_get_40 : decode cX9_get 40 = .ok (.iload 4, 2) := by decide +kernel
theorem dX9_get_42 : decode cX9_get 42 = .ok (.ifCond .eq 25, 3) := by decide +kernel
theorem dX9_get_45 : decode cX9_get 45 = .ok (.iload_n 3, 1) := by decide +kernel
theorem dX9_get_46 : decode cX9_get 46 = .ok (.ifCond .lt 21, 3) := by decide +kernel
theorem dX9_get_49 : decode cX9_get 49 = .ok (.iload_n 3, 1) := by decide +kernel
theorem dX9_get_50 : decode cX9_get 50 = .ok (.aload_n 0, 1) := by decide +kernel
theorem dX9_get_51 : decode cX9_get 51 = .ok (.getfield 16, 3) := by decide +kernel
theorem dX9_get_54 : decode cX9_get 54 = .ok (.arraylength, 1) := by decide +kernel
theorem dX9_get_55 : decode cX9_get 55 = .ok (.if_icmp .ge 12, 3) := by decide +kernel
theorem dX9_get_58 : decode cX9_get 58 = .ok (.aload_n 0, 1) := by decide +kernel
theorem dX9_get_59 : decode cX9_get 59 = .ok (.getfield 16, 3) := by decide +kernel
theorem dX9_get_62 : decode cX9_get 62 = .ok (.iload_n 3, 1) := by decide +kernel
theorem dX9_get_63 : decode cX9_get 63 = .ok (.iaload, 1) := by decide +kernel
theorem dX9_get_64 : decode cX9_get 64 = .ok (.goto 4, 3) := by decide +kernel
theorem dX9_get_67 : decode cX9_get 67 = .ok (.iconst (-1), 1) := by decide +kernel
theorem dX9_get_68 : decode cX9_get 68 = .ok (.ireturn, 1) := by decide +kernel
theorem dX9_set_0 : decode cX9_set 0 = .ok (.iload_n 1, 1) := by decide +kernel
theorem dX9_set_1 : decode cX9_set 1 = .ok (.aload_n 0, 1) := by decide +kernel
theorem dX9_set_2 : decode cX9_set 2 = .ok (.getfield 9, 3) := by decide +kernel
theorem dX9_set_5 : decode cX9_set 5 = .ok (.imul, 1) := by decide +kernel
theorem dX9_set_6 : decode cX9_set 6 = .ok (.iload_n 2, 1) := by decide +kernel
theorem dX9_set_7 : decode cX9_set 7 = .ok (.iadd, 1) := by decide +kernel
theorem dX9_set_8 : decode cX9_set 8 = .ok (.istore 4, 2) := by decide +kernel
theorem dX9_set_10 : decode cX9_set 10 = .ok (.iload_n 1, 1) := by decide +kernel
theorem dX9_set_11 : decode cX9_set 11 = .ok (.ifCond .lt 27, 3) := by decide +kernel
theorem dX9_set_14 : decode cX9_set 14 = .ok (.iload_n 1, 1) := by decide +kernel
theorem dX9_set_15 : decode cX9_set 15 = .ok (.aload_n 0, 1) := by decide +kernel
theorem dX9_set_16 : decode cX9_set 16 = .ok (.getfield 20, 3) := by decide +kernel
theorem dX9_set_19 : decode cX9_set 19 = .ok (.if_icmp .ge 19, 3) := by decide +kernel
theorem dX9_set_22 : decode cX9_set 22 = .ok (.iload_n 2, 1) := by decide +kernel
theorem dX9_set_23 : decode cX9_set 23 = .ok (.ifCond .lt 15, 3) := by decide +kernel
theorem dX9_set_26 : decode cX9_set 26 = .ok (.iload_n 2, 1) := by decide +kernel
theorem dX9_set_27 : decode cX9_set 27 = .ok (.aload_n 0, 1) := by decide +kernel
theorem dX9_set_28 : decode cX9_set 28 = .ok (.getfield 9, 3) := by decide +kernel
theorem dX9_set_31 : decode cX9_set 31 = .ok (.if_icmp .ge 7, 3) := by decide +kernel
theorem dX9_set_34 : decode cX9_set 34 = .ok (.iconst 1, 1) := by decide +kernel
theorem dX9_set_35 : decode cX9_set 35 = .ok (.goto 4, 3) := by decide +kernel
theorem dX9_set_38 : decode cX9_set 38 = .ok (.iconst 0, 1) := by decide +kernel
theorem dX9_set_39 : decode cX9_set 39 = .ok (.istore 5, 2) := by decide +kernel
theorem dX9_set_41 : decode cX9_set 41 = .ok (.iload 5, 2) := by decide +kernel
theorem dX9_set_43 : decode cX9_set 43 = .ok (.ifCond .eq 26, 3) := by decide +kernel
theorem dX9_set_46 : decode cX9_set 46 = .ok (.iload 4, 2) := by decide +kernel
theorem dX9_set_48 : decode cX9_set 48 = .ok (.ifCond .lt 21, 3) := by decide +kernel
theorem dX9_set_51 : decode cX9_set 51 = .ok (.iload 4, 2) := by decide +kernel
theorem dX9_set_53 : decode cX9_set 53 = .ok (.aload_n 0, 1) := by decide +kernel
theorem dX9_set_54 : decode cX9_set 54 = .ok (.getfield 16, 3) := by decide +kernel
theorem dX9_set_57 : decode cX9_set 57 = .ok (.arraylength, 1) := by decide +kernel
theorem dX9_set_58 : decode cX9_set 58 = .ok (.if_icmp .ge 11, 3) := by decide +kernel
theorem dX9_set_61 : decode cX9_set 61 = .ok (.aload_n 0, 1) := by decide +kernel
theorem dX9_set_62 : decode cX9_set 62 = .ok (.getfield 16, 3) := by decide +kernel
theorem dX9_set_65 : decode cX9_set 65 = .ok (.iload 4, 2) := by decide +kernel
theorem dX9_set_67 : decode cX9_set 67 = .ok (.iload_n 3, 1) := by decide +kernel
theorem dX9_set_68 : decode cX9_set 68 = .ok (.iastore, 1) := by decide +kernel
theorem dX9_set_69 : decode cX9_set 69 = .ok (.return_, 1) := by decide +kernel
set_option maxRecDepth 20000 in
theorem ggX9_add_J7_fill_fda19 : GoodIn wsX9_add wsJ7_fill_fda19 := goodIn_r _ [26, 27, 28, 7, 29, 30, 31, 32, 33, 34, 35, 44, 45, 46, 47, 48, 49, 50, 51, 52, 53] (by decide +kernel) (by decide +kernel)
set_option maxRecDepth 20000 in
theorem gX9_add_J7_fill_fda19 : GoodIn wsX9_add (va_wsS RX9 29 yJ7_fill_fda19 wsJ7_fill_fda19) := goodIn_app (goodIn_of _ (by decide +kernel)) ggX9_add_J7_fill_fda19
set_option maxRecDepth 20000 in
theorem ggX9_add_X9_set : GoodIn wsX9_add wsX9_set := goodIn_ca (goodIn_r _ [40, 2, 1, 3, 41, 42, 43] (by decide +kernel) (by decide +kernel)) (goodIn_sub (fun _ h => List.mem_cons_of_mem _ (List.mem_append_right _ h)) (by decide +kernel))
set_option maxRecDepth 20000 in
theorem gX9_add_X9_set : GoodIn wsX9_add (wsV RX9 33 RX9 yX9_set wsX9_set) := goodIn_app (goodIn_of _ (by decide +kernel)) ggX9_add_X9_set
theorem dX9_add_0 : decode cX9_add 0 = .ok (.aload_n 0, 1) := by decide +kernel
theorem dX9_add_1 : decode cX9_add 1 = .ok (.getfield 20, 3) := by decide +kernel
theorem dX9_add_4 : decode cX9_add 4 = .ok (.aload_n 0, 1) := by decide +kernel
theorem dX9_add_5 : decode cX9_add 5 = .ok (.getfield 9, 3) := by decide +kernel
theorem dX9_add_8 : decode cX9_add 8 = .ok (.imul, 1) := by decide +kernel
theorem dX9_add_9 : decode cX9_add 9 = .ok (.istore 4, 2) := by decide +kernel
theorem dX9_add_11 : decode cX9_add 11 = .ok (.iload 4, 2) := by decide +kernel
theorem dX9_add_13 : decode cX9_add 13 = .ok (.aload_n 0, 1) := by decide +kernel
theorem dX9_add_14 : decode cX9_add 14 = .ok (.getfield 9, 3) := by decide +kernel
theorem dX9_add_17 : decode cX9_add 17 = .ok (.iadd, 1) := by decide +kernel
theorem dX9_add_18 : decode cX9_add 18 = .ok (.istore 5, 2) := by decide +kernel
theorem dX9_add_20 : decode cX9_add 20 = .ok (.iload 5, 2) := by decide +kernel
theorem dX9_add_22 : decode cX9_add 22 = .ok (.aload_n 0, 1) := by decide +kernel
theorem dX9_add_23 : decode cX9_add 23 = .ok (.getfield 16, 3) := by decide +kernel
theorem dX9_add_26 : decode cX9_add 26 = .ok (.arraylength, 1) := by decide +kernel
theorem dX9_add_27 : decode cX9_add 27 = .ok (.if_icmp .le 25, 3) := by decide +kernel
theorem dX9_add_30 : decode cX9_add 30 = .ok (.iload 5, 2) := by decide +kernel
theorem dX9_add_32 : decode cX9_add 32 = .ok (.ldc 15, 2) := by decide +kernel
theorem dX9_add_34 : decode cX9_add 34 = .ok (.if_icmp .ge 18, 3) := by decide +kernel
theorem dX9_add_37 : decode cX9_add 37 = .ok (.aload_n 0, 1) := by decide +kernel
theorem dX9_add_38 : decode cX9_add 38 = .ok (.aload_n 0, 1) := by decide +kernel
theorem dX9_add_39 : decode cX9_add 39 = .ok (.getfield 16, 3) := by decide +kernel
theorem dX9_add_42 : decode cX9_add 42 = .ok (.iconst 2, 1) := by decide +kernel
theorem dX9_add_43 : decode cX9_add 43 = .ok (.iload 5, 2) := by decide +kernel
theorem dX9_add_45 : decode cX9_add 45 = .ok (.imul, 1) := by decide +kernel
theorem dX9_add_46 : decode cX9_add 46 = .ok (.invokestatic 23, 3) := by decide +kernel
theorem dX9_add_49 : decode cX9_add 49 = .ok (.putfield 16, 3) := by decide +kernel
theorem dX9_add_52 : decode cX9_add 52 = .ok (.iload 4, 2) := by decide +kernel
theorem dX9_add_54 : decode cX9_add 54 = .ok (.ifCond .lt 13, 3) := by decide +kernel
theorem dX9_add_57 : decode cX9_add 57 = .ok (.iload 5, 2) := by decide +kernel
theorem dX9_add_59 : decode cX9_add 59 = .ok (.aload_n 0, 1) := by decide +kernel
theorem dX9_add_60 : decode cX9_add 60 = .ok (.getfield 16, 3) := by decide +kernel
theorem dX9_add_63 : decode cX9_add 63 = .ok (.arraylength, 1) := by decide +kernel
theorem dX9_add_64 : decode cX9_add 64 = .ok (.if_icmp .le 5, 3) := by decide +kernel
theorem dX9_add_67 : decode cX9_add 67 = .ok (.iconst (-1), 1) := by decide +kernel
theorem dX9_add_68 : decode cX9_add 68 = .ok (.ireturn, 1) := by decide +kernel
theorem dX9_add_69 : decode cX9_add 69 = .ok (.aload_n 0, 1) := by decide +kernel
theorem dX9_add_70 : decode cX9_add 70 = .ok (.getfield 16, 3) := by decide +kernel
theorem dX9_add_73 : decode cX9_add 73 = .ok (.iload 4, 2) := by decide +kernel
theorem dX9_add_75 : decode cX9_add 75 = .ok (.iload 5, 2) := by decide +kernel
theorem dX9_add_77 : decode cX9_add 77 = .ok (.iconst (-1), 1) := by decide +kernel
theorem dX9_add_78 : decode cX9_add 78 = .ok (.invokestatic 29, 3) := by decide +kernel
theorem dX9_add_81 : decode cX9_add 81 = .ok (.aload_n 0, 1) := by decide +kernel
theorem dX9_add_82 : decode cX9_add 82 = .ok (.dup, 1) := by decide +kernel
theorem dX9_add_83 : decode cX9_add 83 = .ok (.getfield 20, 3) := by decide +kernel
theorem dX9_add_86 : decode cX9_add 86 = .ok (.iconst 1, 1) := by decide +kernel
theorem dX9_add_87 : decode cX9_add 87 = .ok (.iadd, 1) := by decide +kernel
theorem dX9_add_88 : decode cX9_add 88 = .ok (.putfield 20, 3) := by decide +kernel
theorem dX9_add_91 : decode cX9_add 91 = .ok (.aload_n 0, 1) := by decide +kernel
theorem dX9_add_92 : decode cX9_add 92 = .ok (.aload_n 0, 1) := by decide +kernel
theorem dX9_add_93 : decode cX9_add 93 = .ok (.getfield 20, 3) := by decide +kernel
theorem dX9_add_96 : decode cX9_add 96 = .ok (.iconst 1, 1) := by decide +kernel
theorem dX9_add_97 : decode cX9_add 97 = .ok (.isub, 1) := by decide +kernel
theorem dX9_add_98 : decode cX9_add 98 = .ok (.iconst 0, 1) := by decide +kernel
theorem dX9_add_99 : decode cX9_add 99 = .ok (.iload_n 1, 1) := by decide +kernel
theorem dX9_add_100 : decode cX9_add 100 = .ok (.invokevirtual 33, 3) := by decide +kernel
theorem dX9_add_103 : decode cX9_add 103 = .ok (.aload_n 0, 1) := by decide +kernel
theorem dX9_add_104 : decode cX9_add 104 = .ok (.aload_n 0, 1) := by decide +kernel
theorem dX9_add_105 : decode cX9_add 105 = .ok (.getfield 20, 3) := by decide +kernel
theorem dX9_add_108 : decode cX9_add 108 = .ok (.iconst 1, 1) := by decide +kernel
theorem dX9_add_109 : decode cX9_add 109 = .ok (.isub, 1) := by decide +kernel
theorem dX9_add_110 : decode cX9_add 110 = .ok (.iconst 1, 1) := by decide +kernel
theorem dX9_add_111 : decode cX9_add 111 = .ok (.iload_n 2, 1) := by decide +kernel
theorem dX9_add_112 : decode cX9_add 112 = .ok (.invokevirtual 33, 3) := by decide +kernel
theorem dX9_add_115 : decode cX9_add 115 = .ok (.aload_n 0, 1) := by decide +kernel
theorem dX9_add_116 : decode cX9_add 116 = .ok (.aload_n 0, 1) := by decide +kernel
theorem dX9_add_117 : decode cX9_add 117 = .ok (.getfield 20, 3) := by decide +kernel
theorem dX9_add_120 : decode cX9_add 120 = .ok (.iconst 1, 1) := by decide +kernel
theorem dX9_add_121 : decode cX9_add 121 = .ok (.isub, 1) := by decide +kernel
theorem dX9_add_122 : decode cX9_add 122 = .ok (.iconst 2, 1) := by decide +kernel
theorem dX9_add_123 : decode cX9_add 123 = .ok (.iload_n 3, 1) := by decide +kernel
theorem dX9_add_124 : decode cX9_add 124 = .ok (.invokevirtual 33, 3) := by decide +kernel
theorem dX9_add_127 : decode cX9_add 127 = .ok (.aload_n 0, 1) := by decide +kernel
theorem dX9_add_128 : decode cX9_add 128 = .ok (.getfield 20, 3) := by decide +kernel
theorem dX9_add_131 : decode cX9_add 131 = .ok (.iconst 1, 1) := by decide +kernel
theorem dX9_add_132 : decode cX9_add 132 = .ok (.isub, 1) := by decide +kernel
theorem dX9_add_133 : decode cX9_add 133 = .ok (.ireturn, 1) := by decide +kernel
theorem dX9_cut_0 : decode cX9_cut 0 = .ok (.iload_n 1, 1) := by decide +kernel
theorem dX9_cut_1 : decode cX9_cut 1 = .ok (.ifCond .lt 16, 3) := by decide +kernel
theorem dX9_cut_4 : decode cX9_cut 4 = .ok (.iload_n 1, 1) := by decide +kernel
theorem dX9_cut_5 : decode cX9_cut 5 = .ok (.aload_n 0, 1) := by decide +kernel
theorem dX9_cut_6 : decode cX9_cut 6 = .ok (.getfield 20, 3) := by decide +kernel
theorem dX9_cut_9 : decode cX9_cut 9 = .ok (.if_icmp .ge 8, 3) := by decide +kernel
theorem dX9_cut_12 : decode cX9_cut 12 = .ok (.aload_n 0, 1) := by decide +kernel
theorem dX9_cut_13 : decode cX9_cut 13 = .ok (.iload_n 1, 1) := by decide +kernel
theorem dX9_cut_14 : decode cX9_cut 14 = .ok (.putfield 20, 3) := by decide +kernel
theorem dX9_cut_17 : decode cX9_cut 17 = .ok (.return_, 1) := by decide +kernel
set_option maxRecDepth 20000 in
theorem ggX10_init_X9_init : GoodIn wsX10_init wsX9_init := goodIn_r _ [15, 16, 2, 3, 17, 18, 19, 20, 21, 65, 66, 67] (by decide +kernel) (by decide +kernel)
set_option maxRecDepth 20000 in
theorem gX10_init_X9_init : GoodIn wsX10_init (wsX9_init) := ggX10_init_X9_init
set_option maxRecDepth 20000 in
theorem ggX10_init_X9_add : GoodIn wsX10_init wsX9_add := goodIn_ca (goodIn_r _ [25, 21, 17, 20, 18, 26, 27, 28, 29, 30, 31, 32, 33, 34, 35, 19, 36, 37, 38, 39, 40, 41, 42, 43, 44, 45, 46, 47, 48, 49, 50, 51, 52, 53, 54, 55, 56, 57, 58, 7, 59, 65, 66, 67, 68, 69, 70, 71, 72, 73, 74, 75, 76, 77] (by decide +kernel) (by decide +kernel)) (goodIn_sub (fun _ h => List.mem_cons_of_mem _ (List.mem_append_right _ h)) (by decide +kernel))
set_option maxRecDepth 20000 in
theorem gX10_init_X9_add : GoodIn wsX10_init (wsV RX10 30 RX9 yX9_add wsX9_add) := goodIn_app (goodIn_of _ (by decide +kernel)) ggX10_init_X9_add
theorem dX10_init_0 : decode cX10_init 0 = .ok (.aload_n 0, 1) := by decide +kernel
theorem dX10_init_1 : decode cX10_init 1 = .ok (.invokespecial 3, 3) := by decide +kernel
theorem dX10_init_4 : decode cX10_init 4 = .ok (.aload_n 0, 1) := by decide +kernel
theorem dX10_init_5 : decode cX10_init 5 = .ok (.iconst 0, 1) := by decide +kernel
theorem dX10_init_6 : decode cX10_init 6 = .ok (.putfield 9, 3) := by decide +kernel
theorem dX10_init_9 : decode cX10_init 9 = .ok (.aload_n 0, 1) := by decide +kernel
theorem dX10_init_10 : decode cX10_init 10 = .ok (.new 15, 3) := by decide +kernel
theorem dX10_init_13 : decode cX10_init 13 = .ok (.dup, 1) := by decide +kernel
theorem dX10_init_14 : decode cX10_init 14 = .ok (.iconst 3, 1) := by decide +kernel
theorem dX10_init_15 : decode cX10_init 15 = .ok (.bipush 10, 2) := by decide +kernel
theorem dX10_init_17 : decode cX10_init 17 = .ok (.invokespecial 17, 3) := by decide +kernel
theorem dX10_init_20 : decode cX10_init 20 = .ok (.putfield 20, 3) := by decide +kernel
theorem dX10_init_23 : decode cX10_init 23 = .ok (.aload_n 0, 1) := by decide +kernel
theorem dX10_init_24 : decode cX10_init 24 = .ok (.new 15, 3) := by decide +kernel
theorem dX10_init_27 : decode cX10_init 27 = .ok (.dup, 1) := by decide +kernel
theorem dX10_init_28 : decode cX10_init 28 = .ok (.iconst 4, 1) := by decide +kernel
theorem dX10_init_29 : decode cX10_init 29 = .ok (.sipush 200, 3) := by decide +kernel
theorem dX10_init_32 : decode cX10_init 32 = .ok (.invokespecial 17, 3) := by decide +kernel
theorem dX10_init_35 : decode cX10_init 35 = .ok (.putfield 24, 3) := by decide +kernel
theorem dX10_init_38 : decode cX10_init 38 = .ok (.aload_n 0, 1) := by decide +kernel
theorem dX10_init_39 : decode cX10_init 39 = .ok (.new 15, 3) := by decide +kernel
theorem dX10_init_42 : decode cX10_init 42 = .ok (.dup, 1) := by decide +kernel
theorem dX10_init_43 : decode cX10_init 43 = .ok (.iconst 1, 1) := by decide +kernel
theorem dX10_init_44 : decode cX10_init 44 = .ok (.bipush 64, 2) := by decide +kernel
theorem dX10_init_46 : decode cX10_init 46 = .ok (.invokespecial 17, 3) := by decide +kernel
theorem dX10_init_49 : decode cX10_init 49 = .ok (.putfield 27, 3) := by decide +kernel
theorem dX10_init_52 : decode cX10_init 52 = .ok (.iconst 0, 1) := by decide +kernel
theorem dX10_init_53 : decode cX10_init 53 = .ok (.istore_n 1, 1) := by decide +kernel
theorem dX10_init_54 : decode cX10_init 54 = .ok (.iload_n 1, 1) := by decide +kernel
theorem dX10_init_55 : decode cX10_init 55 = .ok (.bipush 64, 2) := by decide +kernel
theorem dX10_init_57 : decode cX10_init 57 = .ok (.if_icmp .ge 20, 3) := by decide +kernel
theorem dX10_init_60 : decode cX10_init 60 = .ok (.aload_n 0, 1) := by decide +kernel
theorem dX10_init_61 : decode cX10_init 61 = .ok (.getfield 27, 3) := by decide +kernel
theorem dX10_init_64 : decode cX10_init 64 = .ok (.iconst (-1), 1) := by decide +kernel
theorem dX10_init_65 : decode cX10_init 65 = .ok (.iconst (-1), 1) := by decide +kernel
theorem dX10_init_66 : decode cX10_init 66 = .ok (.iconst (-1), 1) := by decide +kernel
theorem dX10_init_67 : decode cX10_init 67 = .ok (.invokevirtual 30, 3) := by decide +kernel
theorem dX10_init_70 : decode cX10_init 70 = .ok (.pop, 1) := by decide +kernel
theorem dX10_init_71 : decode cX10_init 71 = .ok (.iinc 1 1, 3) := by decide +kernel
theorem dX10_init_74 : decode cX10_init 74 = .ok (.goto (-20), 3) := by decide +kernel
theorem dX10_init_77 : decode cX10_init 77 = .ok (.aload_n 0, 1) := by decide +kernel
theorem dX10_init_78 : decode cX10_init 78 = .ok (.sipush 200, 3) := by decide +kernel
theorem dX10_init_81 : decode cX10_init 81 = .ok (.newarray .long, 2) := by decide +kernel
theorem dX10_init_83 : decode cX10_init 83 = .ok (.putfield 34, 3) := by decide +kernel
theorem dX10_init_86 : decode cX10_init 86 = .ok (.return_, 1) := by decide +kernel
set_option maxRecDepth 20000 in
theorem ggX11_init_X10_init : GoodIn wsX11_init wsX10_init := goodIn_ca (goodIn_r _ [30, 31, 2, 3, 32, 33, 34, 35, 36, 37, 38, 39, 40, 41, 42, 43, 44, 45, 46, 47, 48, 49, 50, 51, 52, 53, 54, 55, 56, 57, 58, 59, 60, 61, 62, 63, 64, 65, 66, 67, 68, 69, 70, 71, 72, 73, 74, 75, 76, 77, 78, 79, 80, 81, 82, 83, 84, 85, 86, 87, 153, 154, 155, 156, 157, 207, 208, 209, 210, 211, 212, 213, 214, 215, 216, 217, 218, 219] (by decide +kernel) (by decide +kernel)) (goodIn_sub (fun _ h => List.mem_cons_of_mem _ (List.mem_append_right _ h)) (by decide +kernel))
set_option maxRecDepth 20000 in
theorem gX11_init_X10_init : GoodIn wsX11_init (wsX10_init) := ggX11_init_X10_init
set_option maxRecDepth 20000 in
theorem ggX11_init_X7_init : GoodIn wsX11_init wsX7_init := goodIn_r _ [90, 91, 2, 3, 92, 93, 94, 95, 96, 97, 98, 99, 100, 101, 102, 103, 104, 105, 106, 107, 108, 109, 110, 111, 112, 220, 221, 222, 167, 168, 169] (by decide +kernel) (by decide +kernel)
set_option maxRecDepth 20000 in
theorem gX11_init_X7_init : GoodIn wsX11_init (wsX7_init) := ggX11_init_X7_init
set_option maxRecDepth 20000 in
theorem ggX11_init_X8_init : GoodIn wsX11_init wsX8_init := goodIn_r _ [115, 116, 2, 3, 117, 118, 34, 35, 119, 120, 121, 122, 123, 42, 43, 44, 45, 46, 47, 48, 49, 170, 171, 172, 173, 174, 175, 176, 177, 178, 179, 207, 208, 209] (by decide +kernel) (by decide +kernel)
set_option maxRecDepth 20000 in
theorem gX11_init_X8_init : GoodIn wsX11_init (wsX8_init) := ggX11_init_X8_init
set_option maxRecDepth 20000 in
theorem ggX11_init_X4_init : GoodIn wsX11_init wsX4_init := goodIn_r _ [126, 127, 2, 3, 128, 129, 130, 93, 94, 131, 132, 34, 35, 133, 134, 135, 99, 100, 101, 102, 103, 104, 105, 106, 107, 108, 109, 110, 111, 112, 136, 42, 43, 44, 45, 46, 47, 48, 49, 180, 181, 182, 183, 184, 185, 186, 187, 188, 189, 190, 191, 220, 221, 222, 207, 208, 209] (by decide +kernel) (by decide +kernel)
set_option maxRecDepth 20000 in
theorem gX11_init_X4_init : GoodIn wsX11_init (wsX4_init) := ggX11_init_X4_init
set_option maxRecDepth 20000 in
theorem ggX11_init_X0_init : GoodIn wsX11_init wsX0_init := goodIn_r _ [139, 140, 2, 3, 141, 142, 143, 34, 35, 144, 145, 146, 147, 148, 149, 150, 151, 152, 42, 43, 44, 45, 46, 47, 48, 49, 192, 193, 194, 195, 196, 197, 198, 199, 200, 201, 202, 203, 204, 205, 206, 207, 208, 209] (by decide +kernel) (by decide +kernel)
set_option maxRecDepth 20000 in
theorem gX11_init_X0_init : GoodIn wsX11_init (wsX0_init) := ggX11_init_X0_init
theorem dX11_init_0 : decode cX11_init 0 = .ok (.aload_n 0, 1) := by decide +kernel
theorem dX11_init_1 : decode cX11_init 1 = .ok (.invokespecial 1, 3) := by decide +kernel
theorem dX11_init_4 : decode cX11_init 4 = .ok (.aload_n 0, 1) := by decide +kernel
theorem dX11_init_5 : decode cX11_init 5 = .ok (.new 7, 3) := by decide +kernel
theorem dX11_init_8 : decode cX11_init 8 = .ok (.dup, 1) := by decide +kernel
theorem dX11_init_9 : decode cX11_init 9 = .ok (.invokespecial 9, 3) := by decide +kernel
theorem dX11_init_12 : decode cX11_init 12 = .ok (.putfield 10, 3) := by decide +kernel
theorem dX11_init_15 : decode cX11_init 15 = .ok (.aload_n 0, 1) := by decide +kernel
theorem dX11_init_16 : decode cX11_init 16 = .ok (.new 16, 3) := by decide +kernel
theorem dX11_init_19 : decode cX11_init 19 = .ok (.dup, 1) := by decide +kernel
theorem dX11_init_20 : decode cX11_init 20 = .ok (.invokespecial 18, 3) := by decide +kernel
theorem dX11_init_23 : decode cX11_init 23 = .ok (.putfield 19, 3) := by decide +kernel
theorem dX11_init_26 : decode cX11_init 26 = .ok (.aload_n 0, 1) := by decide +kernel
theorem dX11_init_27 : decode cX11_init 27 = .ok (.new 23, 3) := by decide +kernel
theorem dX11_init_30 : decode cX11_init 30 = .ok (.dup, 1) := by decide +kernel
theorem dX11_init_31 : decode cX11_init 31 = .ok (.invokespecial 25, 3) := by decide +kernel
theorem dX11_init_34 : decode cX11_init 34 = .ok (.putfield 26, 3) := by decide +kernel
theorem dX11_init_37 : decode cX11_init 37 = .ok (.aload_n 0, 1) := by decide +kernel
theorem dX11_init_38 : decode cX11_init 38 = .ok (.new 23, 3) := by decide +kernel
theorem dX11_init_41 : decode cX11_init 41 = .ok (.dup, 1) := by decide +kernel
theorem dX11_init_42 : decode cX11_init 42 = .ok (.invokespecial 25, 3) := by decide +kernel
theorem dX11_init_45 : decode cX11_init 45 = .ok (.putfield 30, 3) := by decide +kernel
theorem dX11_init_48 : decode cX11_init 48 = .ok (.aload_n 0, 1) := by decide +kernel
theorem dX11_init_49 : decode cX11_init 49 = .ok (.new 33, 3) := by decide +kernel
theorem dX11_init_52 : decode cX11_init 52 = .ok (.dup, 1) := by decide +kernel
theorem dX11_init_53 : decode cX11_init 53 = .ok (.aload_n 0, 1) := by decide +kernel
theorem dX11_init_54 : decode cX11_init 54 = .ok (.getfield 10, 3) := by decide +kernel
theorem dX11_init_57 : decode cX11_init 57 = .ok (.aload_n 0, 1) := by decide +kernel
theorem dX11_init_58 : decode cX11_init 58 = .ok (.getfield 30, 3) := by decide +kernel
theorem dX11_init_61 : decode cX11_init 61 = .ok (.invokespecial 35, 3) := by decide +kernel
theorem dX11_init_64 : decode cX11_init 64 = .ok (.putfield 38, 3) := by decide +kernel
theorem dX11_init_67 : decode cX11_init 67 = .ok (.aload_n 0, 1) := by decide +kernel
theorem dX11_init_68 : decode cX11_init 68 = .ok (.new 42, 3) := by decide +kernel
theorem dX11_init_71 : decode cX11_init 71 = .ok (.dup, 1) := by decide +kernel
theorem dX11_init_72 : decode cX11_init 72 = .ok (.aload_n 0, 1) := by decide +kernel
theorem dX11_init_73 : decode cX11_init 73 = .ok (.getfield 19, 3) := by decide +kernel
theorem dX11_init_76 : decode cX11_init 76 = .ok (.aload_n 0, 1) := by decide +kernel
theorem dX11_init_77 : decode cX11_init 77 = .ok (.getfield 10, 3) := by decide +kernel
theorem dX11_init_80 : decode cX11_init 80 = .ok (.invokespecial 44, 3) := by decide +kernel
theorem dX11_init_83 : decode cX11_init 83 = .ok (.putfield 47, 3) := by decide +kernel
theorem dX11_init_86 : decode cX11_init 86 = .ok (.aload_n 0, 1) := by decide +kernel
theorem dX11_init_87 : decode cX11_init 87 = .ok (.iconst 0, 1) := by decide +kernel
theorem dX11_init_88 : decode cX11_init 88 = .ok (.putfield 51, 3) := by decide +kernel
theorem dX11_init_91 : decode cX11_init 91 = .ok (.aload_n 0, 1) := by decide +kernel
theorem dX11_init_92 : decode cX11_init 92 = .ok (.iconst 0, 1) := by decide +kernel
theorem dX11_init_93 : decode cX11_init 93 = .ok (.putfield 55, 3) := by decide +kernel
theorem dX11_init_96 : decode cX11_init 96 = .ok (.aload_n 0, 1) := by decide +kernel
theorem dX11_init_97 : decode cX11_init 97 = .ok (.lconst 0, 1) := by decide +kernel
theorem dX11_init_98 : decode cX11_init 98 = .ok (.putfield 59, 3) := by decide +kernel
theorem dX11_init_101 : decode cX11_init 101 = .ok (.return_, 1) := by decide +kernel
theorem dJxa1e45_init_da8c8_0 : decode cJxa1e45_init_da8c8 0 = .ok (.aload_n 0, 1) := by decide +kernel
theorem dJxa1e45_init_da8c8_1 : decode cJxa1e45_init_da8c8 1 = .ok (.invokespecial 1, 3) := by decide +kernel
theorem dJxa1e45_init_da8c8_4 : decode cJxa1e45_init_da8c8 4 = .ok (.return_, 1) := by decide +kernel
set_option maxRecDepth 20000 in
theorem ggJxc12de_init_da8c8_Jxa1e45_init_da8c8 : GoodIn wsJxc12de_init_da8c8 wsJxa1e45_init_da8c8 := goodIn_r _ [5, 6, 7, 8] (by decide +kernel) (by decide +kernel)
set_option maxRecDepth 20000 in
theorem gJxc12de_init_da8c8_Jxa1e45_init_da8c8 : GoodIn wsJxc12de_init_da8c8 (wsJxa1e45_init_da8c8) := ggJxc12de_init_da8c8_Jxa1e45_init_da8c8
theorem dJxc12de_init_da8c8_0 : decode cJxc12de_init_da8c8 0 = .ok (.aload_n 0, 1) := by decide +kernel
theorem dJxc12de_init_da8c8_1 : decode cJxc12de_init_da8c8 1 = .ok (.invokespecial 1, 3) := by decide +kernel
theorem dJxc12de_init_da8c8_4 : decode cJxc12de_init_da8c8 4 = .ok (.aload_n 0, 1) := by decide +kernel
theorem dJxc12de_init_da8c8_5 : decode cJxc12de_init_da8c8 5 = .ok (.iconst 0, 1) := by decide +kernel
theorem dJxc12de_init_da8c8_6 : decode cJxc12de_init_da8c8 6 = .ok (.putfield 7, 3) := by decide +kernel
theorem dJxc12de_init_da8c8_9 : decode cJxc12de_init_da8c8 9 = .ok (.return_, 1) := by decide +kernel
set_option maxRecDepth 20000 in
theorem ggJx4a65c_init_da8c8_Jxc12de_init_da8c8 : GoodIn wsJx4a65c_init_da8c8 wsJxc12de_init_da8c8 := goodIn_r _ [6, 7, 8, 9, 10, 11, 12, 13, 14, 15, 16, 17] (by decide +kernel) (by decide +kernel)
set_option maxRecDepth 20000 in
theorem gJx4a65c_init_da8c8_Jxc12de_init_da8c8 : GoodIn wsJx4a65c_init_da8c8 (wsJxc12de_init_da8c8) := ggJx4a65c_init_da8c8_Jxc12de_init_da8c8
theorem dJx4a65c_init_da8c8_0 : decode cJx4a65c_init_da8c8 0 = .ok (.aload_n 0, 1) := by decide +kernel
theorem dJx4a65c_init_da8c8_1 : decode cJx4a65c_init_da8c8 1 = .ok (.invokespecial 1, 3) := by decide +kernel
theorem dJx4a65c_init_da8c8_4 : decode cJx4a65c_init_da8c8 4 = .ok (.aload_n 0, 1) := by decide +kernel
theorem dJx4a65c_init_da8c8_5 : decode cJx4a65c_init_da8c8 5 = .ok (.getstatic 39, 3) := by decide +kernel
theorem dJx4a65c_init_da8c8_8 : decode cJx4a65c_init_da8c8 8 = .ok (.putfield 9, 3) := by decide +kernel
theorem dJx4a65c_init_da8c8_11 : decode cJx4a65c_init_da8c8 11 = .ok (.return_, 1) := by decide +kernel
theorem dJ7_rangeCheck_23922_0 : decode cJ7_rangeCheck_23922 0 = .ok (.iload_n 1, 1) := by decide +kernel
theorem dJ7_rangeCheck_23922_1 : decode cJ7_rangeCheck_23922 1 = .ok (.iload_n 2, 1) := by decide +kernel
theorem dJ7_rangeCheck_23922_2 : decode cJ7_rangeCheck_23922 2 = .ok (.if_icmp .le 44, 3) := by decide +kernel
theorem dJ7_rangeCheck_23922_5 : decode cJ7_rangeCheck_23922 5 = .ok (.new 43, 3) := by decide +kernel
theorem dJ7_rangeCheck_23922_8 : decode cJ7_rangeCheck_23922 8 = .ok (.dup, 1) := by decide +kernel
theorem dJ7_rangeCheck_23922_9 : decode cJ7_rangeCheck_23922 9 = .ok (.new 45, 3) := by decide +kernel
theorem dJ7_rangeCheck_23922_12 : decode cJ7_rangeCheck_23922 12 = .ok (.dup, 1) := by decide +kernel
theorem dJ7_rangeCheck_23922_13 : decode cJ7_rangeCheck_23922 13 = .ok (.invokespecial 47, 3) := by decide +kernel
theorem dJ7_rangeCheck_23922_16 : decode cJ7_rangeCheck_23922 16 = .ok (.ldc 48, 2) := by decide +kernel
theorem dJ7_rangeCheck_23922_18 : decode cJ7_rangeCheck_23922 18 = .ok (.invokevirtual 50, 3) := by decide +kernel
theorem dJ7_rangeCheck_23922_21 : decode cJ7_rangeCheck_23922 21 = .ok (.iload_n 1, 1) := by decide +kernel
theorem dJ7_rangeCheck_23922_22 : decode cJ7_rangeCheck_23922 22 = .ok (.invokevirtual 54, 3) := by decide +kernel
theorem dJ7_rangeCheck_23922_25 : decode cJ7_rangeCheck_23922 25 = .ok (.ldc 57, 2) := by decide +kernel
theorem dJ7_rangeCheck_23922_27 : decode cJ7_rangeCheck_23922 27 = .ok (.invokevirtual 50, 3) := by decide +kernel
theorem dJ7_rangeCheck_23922_30 : decode cJ7_rangeCheck_23922 30 = .ok (.iload_n 2, 1) := by decide +kernel
theorem dJ7_rangeCheck_23922_31 : decode cJ7_rangeCheck_23922 31 = .ok (.invokevirtual 54, 3) := by decide +kernel
theorem dJ7_rangeCheck_23922_34 : decode cJ7_rangeCheck_23922 34 = .ok (.ldc 59, 2) := by decide +kernel
theorem dJ7_rangeCheck_23922_36 : decode cJ7_rangeCheck_23922 36 = .ok (.invokevirtual 50, 3) := by decide +kernel
theorem dJ7_rangeCheck_23922_39 : decode cJ7_rangeCheck_23922 39 = .ok (.invokevirtual 61, 3) := by decide +kernel
theorem dJ7_rangeCheck_23922_42 : decode cJ7_rangeCheck_23922 42 = .ok (.invokespecial 65, 3) := by decide +kernel
theorem dJ7_rangeCheck_23922_45 : decode cJ7_rangeCheck_23922 45 = .ok (.athrow, 1) := by decide +kernel
theorem dJ7_rangeCheck_23922_46 : decode cJ7_rangeCheck_23922 46 = .ok (.iload_n 1, 1) := by decide +kernel
theorem dJ7_rangeCheck_23922_47 : decode cJ7_rangeCheck_23922 47 = .ok (.ifCond .ge 12, 3) := by decide +kernel
theorem dJ7_rangeCheck_23922_50 : decode cJ7_rangeCheck_23922 50 = .ok (.new 68, 3) := by decide +kernel
theorem dJ7_rangeCheck_23922_53 : decode cJ7_rangeCheck_23922 53 = .ok (.dup, 1) := by decide +kernel
theorem dJ7_rangeCheck_23922_54 : decode cJ7_rangeCheck_23922 54 = .ok (.iload_n 1, 1) := by decide +kernel
theorem dJ7_rangeCheck_23922_55 : decode cJ7_rangeCheck_23922 55 = .ok (.invokespecial 70, 3) := by decide +kernel
theorem dJ7_rangeCheck_23922_58 : decode cJ7_rangeCheck_23922 58 = .ok (.athrow, 1) := by decide +kernel
theorem dJ7_rangeCheck_23922_59 : decode cJ7_rangeCheck_23922 59 = .ok (.iload_n 2, 1) := by decide +kernel
theorem dJ7_rangeCheck_23922_60 : decode cJ7_rangeCheck_23922 60 = .ok (.iload_n 0, 1) := by decide +kernel
theorem dJ7_rangeCheck_23922_61 : decode cJ7_rangeCheck_23922 61 = .ok (.if_icmp .le 12, 3) := by decide +kernel
theorem dJ7_rangeCheck_23922_64 : decode cJ7_rangeCheck_23922 64 = .ok (.new 68, 3) := by decide +kernel
theorem dJ7_rangeCheck_23922_67 : decode cJ7_rangeCheck_23922 67 = .ok (.dup, 1) := by decide +kernel
theorem dJ7_rangeCheck_23922_68 : decode cJ7_rangeCheck_23922 68 = .ok (.iload_n 2, 1) := by decide +kernel
theorem dJ7_rangeCheck_23922_69 : decode cJ7_rangeCheck_23922 69 = .ok (.invokespecial 70, 3) := by decide +kernel
theorem dJ7_rangeCheck_23922_72 : decode cJ7_rangeCheck_23922 72 = .ok (.athrow, 1) := by decide +kernel
theorem dJ7_rangeCheck_23922_73 : decode cJ7_rangeCheck_23922 73 = .ok (.return_, 1) := by decide +kernel
set_option maxRecDepth 20000 in
theorem ggJ7_fill_fda19_J7_rangeCheck_23922 : GoodIn wsJ7_fill_fda19 wsJ7_rangeCheck_23922 := goodIn_r _ [4, 5, 6, 7, 8, 9, 10, 11, 12, 13, 14, 15, 16, 17, 18, 19, 20] (by decide +kernel) (by decide +kernel)
set_option maxRecDepth 20000 in
theorem gJ7_fill_fda19_J7_rangeCheck_23922 : GoodIn wsJ7_fill_fda19 (va_wsS RJ7 13 yJ7_rangeCheck_23922 wsJ7_rangeCheck_23922) := goodIn_app (goodIn_of _ (by decide +kernel)) ggJ7_fill_fda19_J7_rangeCheck_23922
theorem dJ7_fill_fda19_0 : decode cJ7_fill_fda19 0 = .ok (.aload_n 0, 1) := by decide +kernel
theorem dJ7_fill_fda19_1 : decode cJ7_fill_fda19 1 = .ok (.arraylength, 1) := by decide +kernel
theorem dJ7_fill_fda19_2 : decode cJ7_fill_fda19 2 = .ok (.iload_n 1, 1) := by decide +kernel
theorem dJ7_fill_fda19_3 : decode cJ7_fill_fda19 3 = .ok (.iload_n 2, 1) := by decide +kernel
theorem dJ7_fill_fda19_4 : decode cJ7_fill_fda19 4 = .ok (.invokestatic 13, 3) := by decide +kernel
theorem dJ7_fill_fda19_7 : decode cJ7_fill_fda19 7 = .ok (.iload_n 1, 1) := by decide +kernel
theorem dJ7_fill_fda19_8 : decode cJ7_fill_fda19 8 = .ok (.istore 4, 2) := by decide +kernel
theorem dJ7_fill_fda19_10 : decode cJ7_fill_fda19 10 = .ok (.iload 4, 2) := by decide +kernel
theorem dJ7_fill_fda19_12 : decode cJ7_fill_fda19 12 = .ok (.iload_n 2, 1) := by decide +kernel
theorem dJ7_fill_fda19_13 : decode cJ7_fill_fda19 13 = .ok (.if_icmp .ge 14, 3) := by decide +kernel
theorem dJ7_fill_fda19_16 : decode cJ7_fill_fda19 16 = .ok (.aload_n 0, 1) := by decide +kernel
theorem dJ7_fill_fda19_17 : decode cJ7_fill_fda19 17 = .ok (.iload 4, 2) := by decide +kernel
theorem dJ7_fill_fda19_19 : decode cJ7_fill_fda19 19 = .ok (.iload_n 3, 1) := by decide +kernel
theorem dJ7_fill_fda19_20 : decode cJ7_fill_fda19 20 = .ok (.iastore, 1) := by decide +kernel
theorem dJ7_fill_fda19_21 : decode cJ7_fill_fda19 21 = .ok (.iinc 4 1, 3) := by decide +kernel
theorem dJ7_fill_fda19_24 : decode cJ7_fill_fda19 24 = .ok (.goto (-14), 3) := by decide +kernel
theorem dJ7_fill_fda19_27 : decode cJ7_fill_fda19 27 = .ok (.return_, 1) := by decide +kernel
abbrev vwCl : List vw_C := [(RJ0, TJ0, 4), (RJ4, TJ4, 4), (RJx00060, TJx00060, 6), (RJx4a65c, TJx4a65c, 3), (RX0, TX0, 15), (RX1, TX1, 9), (RX2, TX2, 10), (RX3, TX3, 4), (RX4, TX4, 12), (RX5, TX5, 9), (RX6, TX6, 5), (RX7, TX7, 3), (RX8, TX8, 10), (RX9, TX9, 3), (RX10, TX10, 5), (RX11, TX11, 9), (RX12, TX12, 3), (RX13, TX13, 9), (RX14, TX14, 6), (RX15, TX15, 6), (RX16, TX16, 3), (RX17, TX17, 4), (RX18, TX18, 70)]
