/-! classes and their fields (RX, TX, tyX, nmX as the printed names have them) -/
def RX0 : String := "SmithyBench$Body"
def TX0 : u_T := fun k => match k with
  | 0 => ("SmithyBench$Body", "kind", "[I", true)
  | 1 => ("SmithyBench$Body", "value", "[I", true)
  | 2 => ("SmithyBench$Body", "parts", "[I", true)
  | 3 => ("SmithyBench$Body", "end", "[I", true)
  | 4 => ("SmithyBench$Body", "type", "[I", true)
  | 5 => ("SmithyBench$Body", "bound", "[I", true)
  | 6 => ("SmithyBench$Body", "room", "I", true)
  | _ => ("SmithyBench$Body", "size", "I", false)
def tyX0 : Nat → FieldType := fun k => match k with
  | 0 => .array .int
  | 1 => .array .int
  | 2 => .array .int
  | 3 => .array .int
  | 4 => .array .int
  | 5 => .array .int
  | 6 => .int
  | _ => .int
theorem nmX0 : ∀ a, a < 8 → ∀ b, b < 8 → a ≠ b → (TX0 a).2.1 ≠ (TX0 b).2.1 := by decide +kernel
theorem tyX0_ok : ∀ k, k < 8 → parseFieldDescriptor (TX0 k).2.2.1 = some (tyX0 k) := by decide +kernel
def RX1 : String := "SmithyBench$Checker"
def TX1 : u_T := fun k => match k with
  | _ => ("SmithyBench$Checker", "open", "[I", true)
def tyX1 : Nat → FieldType := fun k => match k with
  | _ => .array .int
theorem nmX1 : ∀ a, a < 1 → ∀ b, b < 1 → a ≠ b → (TX1 a).2.1 ≠ (TX1 b).2.1 := by decide +kernel
theorem tyX1_ok : ∀ k, k < 1 → parseFieldDescriptor (TX1 k).2.2.1 = some (tyX1 k) := by decide +kernel
def RX2 : String := "SmithyBench$Extractor"
def TX2 : u_T := fun k => match k with
  | 0 => ("SmithyBench$Extractor", "sheet", "LSmithyBench$Body;", true)
  | 1 => ("SmithyBench$Extractor", "ours", "LSmithyBench$Locals;", true)
  | _ => ("SmithyBench$Extractor", "theirs", "LSmithyBench$Locals;", true)
def tyX2 : Nat → FieldType := fun k => match k with
  | 0 => .object "SmithyBench$Body"
  | 1 => .object "SmithyBench$Locals"
  | _ => .object "SmithyBench$Locals"
theorem nmX2 : ∀ a, a < 3 → ∀ b, b < 3 → a ≠ b → (TX2 a).2.1 ≠ (TX2 b).2.1 := by decide +kernel
theorem tyX2_ok : ∀ k, k < 3 → parseFieldDescriptor (TX2 k).2.2.1 = some (tyX2 k) := by decide +kernel
def RX3 : String := "SmithyBench$Inliner"
def TX3 : u_T := fun k => match k with
  | 0 => ("SmithyBench$Inliner", "sheet", "LSmithyBench$Body;", true)
  | _ => ("SmithyBench$Inliner", "checker", "LSmithyBench$Checker;", true)
def tyX3 : Nat → FieldType := fun k => match k with
  | 0 => .object "SmithyBench$Body"
  | _ => .object "SmithyBench$Checker"
theorem nmX3 : ∀ a, a < 2 → ∀ b, b < 2 → a ≠ b → (TX3 a).2.1 ≠ (TX3 b).2.1 := by decide +kernel
theorem tyX3_ok : ∀ k, k < 2 → parseFieldDescriptor (TX3 k).2.2.1 = some (tyX3 k) := by decide +kernel
def RX4 : String := "SmithyBench$Locals"
def TX4 : u_T := fun k => match k with
  | 0 => ("SmithyBench$Locals", "bound", "[I", true)
  | 1 => ("SmithyBench$Locals", "name", "[I", true)
  | 2 => ("SmithyBench$Locals", "type", "[I", true)
  | _ => ("SmithyBench$Locals", "count", "I", false)
def tyX4 : Nat → FieldType := fun k => match k with
  | 0 => .array .int
  | 1 => .array .int
  | 2 => .array .int
  | _ => .int
theorem nmX4 : ∀ a, a < 4 → ∀ b, b < 4 → a ≠ b → (TX4 a).2.1 ≠ (TX4 b).2.1 := by decide +kernel
theorem tyX4_ok : ∀ k, k < 4 → parseFieldDescriptor (TX4 k).2.2.1 = some (tyX4 k) := by decide +kernel
def RX5 : String := "SmithyBench$Machine"
def TX5 : u_T := fun k => match k with
  | 0 => ("SmithyBench$Machine", "place", "[I", true)
  | 1 => ("SmithyBench$Machine", "stage", "[I", true)
  | 2 => ("SmithyBench$Machine", "frame", "[I", true)
  | 3 => ("SmithyBench$Machine", "height", "[I", true)
  | 4 => ("SmithyBench$Machine", "operand", "[I", true)
  | 5 => ("SmithyBench$Machine", "frameMethod", "[I", true)
  | 6 => ("SmithyBench$Machine", "frameObject", "[I", true)
  | 7 => ("SmithyBench$Machine", "local", "[I", true)
  | 8 => ("SmithyBench$Machine", "heapClass", "[I", true)
  | 9 => ("SmithyBench$Machine", "heapField", "[I", true)
  | 10 => ("SmithyBench$Machine", "program", "LSmithyBench$Program;", false)
  | 11 => ("SmithyBench$Machine", "open", "I", false)
  | 12 => ("SmithyBench$Machine", "operands", "I", false)
  | 13 => ("SmithyBench$Machine", "frames", "I", false)
  | 14 => ("SmithyBench$Machine", "objects", "I", false)
  | 15 => ("SmithyBench$Machine", "taken", "I", false)
  | 16 => ("SmithyBench$Machine", "how", "I", false)
  | _ => ("SmithyBench$Machine", "answer", "I", false)
def tyX5 : Nat → FieldType := fun k => match k with
  | 0 => .array .int
  | 1 => .array .int
  | 2 => .array .int
  | 3 => .array .int
  | 4 => .array .int
  | 5 => .array .int
  | 6 => .array .int
  | 7 => .array .int
  | 8 => .array .int
  | 9 => .array .int
  | 10 => .object "SmithyBench$Program"
  | 11 => .int
  | 12 => .int
  | 13 => .int
  | 14 => .int
  | 15 => .int
  | 16 => .int
  | _ => .int
theorem nmX5 : ∀ a, a < 18 → ∀ b, b < 18 → a ≠ b → (TX5 a).2.1 ≠ (TX5 b).2.1 := by decide +kernel
theorem tyX5_ok : ∀ k, k < 18 → parseFieldDescriptor (TX5 k).2.2.1 = some (tyX5 k) := by decide +kernel
def RX6 : String := "SmithyBench$Mover"
def TX6 : u_T := fun k => match k with
  | _ => ("SmithyBench$Mover", "checker", "LSmithyBench$Checker;", true)
def tyX6 : Nat → FieldType := fun k => match k with
  | _ => .object "SmithyBench$Checker"
theorem nmX6 : ∀ a, a < 1 → ∀ b, b < 1 → a ≠ b → (TX6 a).2.1 ≠ (TX6 b).2.1 := by decide +kernel
theorem tyX6_ok : ∀ k, k < 1 → parseFieldDescriptor (TX6 k).2.2.1 = some (tyX6 k) := by decide +kernel
def RX7 : String := "SmithyBench$Program"
def TX7 : u_T := fun k => match k with
  | 0 => ("SmithyBench$Program", "parent", "[I", true)
  | 1 => ("SmithyBench$Program", "above", "[I", true)
  | 2 => ("SmithyBench$Program", "fieldType", "[I", true)
  | 3 => ("SmithyBench$Program", "owner", "[I", true)
  | 4 => ("SmithyBench$Program", "name", "[I", true)
  | 5 => ("SmithyBench$Program", "arity", "[I", true)
  | 6 => ("SmithyBench$Program", "paramName", "[I", true)
  | 7 => ("SmithyBench$Program", "paramType", "[I", true)
  | 8 => ("SmithyBench$Program", "returns", "[I", true)
  | 9 => ("SmithyBench$Program", "bodies", "[LSmithyBench$Body;", true)
  | 10 => ("SmithyBench$Program", "classes", "I", false)
  | 11 => ("SmithyBench$Program", "methods", "I", false)
  | 12 => ("SmithyBench$Program", "there", "I", false)
  | 13 => ("SmithyBench$Program", "wrongMethod", "I", false)
  | _ => ("SmithyBench$Program", "isChecked", "Z", false)
def tyX7 : Nat → FieldType := fun k => match k with
  | 0 => .array .int
  | 1 => .array .int
  | 2 => .array .int
  | 3 => .array .int
  | 4 => .array .int
  | 5 => .array .int
  | 6 => .array .int
  | 7 => .array .int
  | 8 => .array .int
  | 9 => .array (.object "SmithyBench$Body")
  | 10 => .int
  | 11 => .int
  | 12 => .int
  | 13 => .int
  | _ => .boolean
theorem nmX7 : ∀ a, a < 15 → ∀ b, b < 15 → a ≠ b → (TX7 a).2.1 ≠ (TX7 b).2.1 := by decide +kernel
theorem tyX7_ok : ∀ k, k < 15 → parseFieldDescriptor (TX7 k).2.2.1 = some (tyX7 k) := by decide +kernel
def RX8 : String := "SmithyBench$Renamer"
def TX8 : u_T := fun k => match k with
  | _ => ("SmithyBench$Renamer", "sheet", "LSmithyBench$Body;", true)
def tyX8 : Nat → FieldType := fun k => match k with
  | _ => .object "SmithyBench$Body"
theorem nmX8 : ∀ a, a < 1 → ∀ b, b < 1 → a ≠ b → (TX8 a).2.1 ≠ (TX8 b).2.1 := by decide +kernel
theorem tyX8_ok : ∀ k, k < 1 → parseFieldDescriptor (TX8 k).2.2.1 = some (tyX8 k) := by decide +kernel
def RX9 : String := "SmithyBench$Signatures"
def TX9 : u_T := fun k => match k with
  | _ => ("SmithyBench$Signatures", "sheet", "LSmithyBench$Body;", true)
def tyX9 : Nat → FieldType := fun k => match k with
  | _ => .object "SmithyBench$Body"
theorem nmX9 : ∀ a, a < 1 → ∀ b, b < 1 → a ≠ b → (TX9 a).2.1 ≠ (TX9 b).2.1 := by decide +kernel
theorem tyX9_ok : ∀ k, k < 1 → parseFieldDescriptor (TX9 k).2.2.1 = some (tyX9 k) := by decide +kernel
def RX10 : String := "SmithyBench$Told"
def TX10 : u_T := fun k => match k with
  | 0 => ("SmithyBench$Told", "kind", "[I", true)
  | 1 => ("SmithyBench$Told", "value", "[I", true)
  | 2 => ("SmithyBench$Told", "parts", "[I", true)
  | 3 => ("SmithyBench$Told", "part", "[I", true)
  | 4 => ("SmithyBench$Told", "weight", "[I", true)
  | 5 => ("SmithyBench$Told", "waiting", "[I", true)
  | _ => ("SmithyBench$Told", "count", "I", false)
def tyX10 : Nat → FieldType := fun k => match k with
  | 0 => .array .int
  | 1 => .array .int
  | 2 => .array .int
  | 3 => .array .int
  | 4 => .array .int
  | 5 => .array .int
  | _ => .int
theorem nmX10 : ∀ a, a < 7 → ∀ b, b < 7 → a ≠ b → (TX10 a).2.1 ≠ (TX10 b).2.1 := by decide +kernel
theorem tyX10_ok : ∀ k, k < 7 → parseFieldDescriptor (TX10 k).2.2.1 = some (tyX10 k) := by decide +kernel
def RX11 : String := "SmithyBench"
def TX11 : u_T := fun k => match k with
  | 0 => ("SmithyBench", "told", "LSmithyBench$Told;", true)
  | 1 => ("SmithyBench", "checker", "LSmithyBench$Checker;", true)
  | 2 => ("SmithyBench", "machine", "LSmithyBench$Machine;", true)
  | 3 => ("SmithyBench", "renamer", "LSmithyBench$Renamer;", true)
  | 4 => ("SmithyBench", "inliner", "LSmithyBench$Inliner;", true)
  | 5 => ("SmithyBench", "extractor", "LSmithyBench$Extractor;", true)
  | 6 => ("SmithyBench", "signatures", "LSmithyBench$Signatures;", true)
  | 7 => ("SmithyBench", "mover", "LSmithyBench$Mover;", true)
  | 8 => ("SmithyBench", "begun", "LSmithyBench$Program;", true)
  | 9 => ("SmithyBench", "past", "[LSmithyBench$Program;", true)
  | 10 => ("SmithyBench", "now", "LSmithyBench$Program;", false)
  | 11 => ("SmithyBench", "next", "LSmithyBench$Program;", false)
  | 12 => ("SmithyBench", "hasBegun", "Z", false)
  | _ => ("SmithyBench", "undoable", "I", false)
def tyX11 : Nat → FieldType := fun k => match k with
  | 0 => .object "SmithyBench$Told"
  | 1 => .object "SmithyBench$Checker"
  | 2 => .object "SmithyBench$Machine"
  | 3 => .object "SmithyBench$Renamer"
  | 4 => .object "SmithyBench$Inliner"
  | 5 => .object "SmithyBench$Extractor"
  | 6 => .object "SmithyBench$Signatures"
  | 7 => .object "SmithyBench$Mover"
  | 8 => .object "SmithyBench$Program"
  | 9 => .array (.object "SmithyBench$Program")
  | 10 => .object "SmithyBench$Program"
  | 11 => .object "SmithyBench$Program"
  | 12 => .boolean
  | _ => .int
theorem nmX11 : ∀ a, a < 14 → ∀ b, b < 14 → a ≠ b → (TX11 a).2.1 ≠ (TX11 b).2.1 := by decide +kernel
theorem tyX11_ok : ∀ k, k < 14 → parseFieldDescriptor (TX11 k).2.2.1 = some (tyX11 k) := by decide +kernel
def RX12 : String := "SmithyBenchModel"
def TX12 : u_T := fun k => match k with
  | 0 => ("SmithyBenchModel", "refusal", "I", false)
  | 1 => ("SmithyBenchModel", "w", "[I", true)
  | 2 => ("SmithyBenchModel", "past", "I", false)
  | 3 => ("SmithyBenchModel", "hasBegun", "Z", false)
  | 4 => ("SmithyBenchModel", "nodes", "I", false)
  | 5 => ("SmithyBenchModel", "nodeKind", "[I", true)
  | 6 => ("SmithyBenchModel", "nodeValue", "[I", true)
  | 7 => ("SmithyBenchModel", "nodeArgs", "[I", true)
  | 8 => ("SmithyBenchModel", "nodePart", "[I", true)
  | 9 => ("SmithyBenchModel", "nodeSize", "[I", true)
  | 10 => ("SmithyBenchModel", "siz", "[I", true)
  | 11 => ("SmithyBenchModel", "up", "[I", true)
  | 12 => ("SmithyBenchModel", "typ", "[I", true)
  | 13 => ("SmithyBenchModel", "bnd", "[I", true)
  | 14 => ("SmithyBenchModel", "pile", "[I", true)
  | 15 => ("SmithyBenchModel", "frames", "I", false)
  | 16 => ("SmithyBenchModel", "frMethod", "[I", true)
  | 17 => ("SmithyBenchModel", "frObject", "[I", true)
  | 18 => ("SmithyBenchModel", "locKind", "[I", true)
  | 19 => ("SmithyBenchModel", "locValue", "[I", true)
  | 20 => ("SmithyBenchModel", "top", "I", false)
  | 21 => ("SmithyBenchModel", "aFrame", "[I", true)
  | 22 => ("SmithyBenchModel", "aNode", "[I", true)
  | 23 => ("SmithyBenchModel", "aStage", "[I", true)
  | 24 => ("SmithyBenchModel", "aNext", "[I", true)
  | 25 => ("SmithyBenchModel", "aBase", "[I", true)
  | 26 => ("SmithyBenchModel", "values", "I", false)
  | 27 => ("SmithyBenchModel", "vKind", "[I", true)
  | 28 => ("SmithyBenchModel", "vValue", "[I", true)
  | 29 => ("SmithyBenchModel", "objects", "I", false)
  | 30 => ("SmithyBenchModel", "oClass", "[I", true)
  | 31 => ("SmithyBenchModel", "oKind", "[I", true)
  | 32 => ("SmithyBenchModel", "oValue", "[I", true)
  | 33 => ("SmithyBenchModel", "steps", "I", false)
  | 34 => ("SmithyBenchModel", "ended", "I", false)
  | 35 => ("SmithyBenchModel", "lastValue", "I", false)
  | 36 => ("SmithyBenchModel", "inFamily", "[Z", true)
  | 37 => ("SmithyBenchModel", "reached", "[Z", true)
  | 38 => ("SmithyBenchModel", "many", "I", false)
  | 39 => ("SmithyBenchModel", "outKind", "[I", true)
  | 40 => ("SmithyBenchModel", "outValue", "[I", true)
  | 41 => ("SmithyBenchModel", "outArgs", "[I", true)
  | 42 => ("SmithyBenchModel", "locals", "I", false)
  | 43 => ("SmithyBenchModel", "local", "[I", true)
  | 44 => ("SmithyBenchModel", "likeLocals", "I", false)
  | 45 => ("SmithyBenchModel", "likeLocal", "[I", true)
  | _ => ("SmithyBenchModel", "ends", "[I", true)
def tyX12 : Nat → FieldType := fun k => match k with
  | 0 => .int
  | 1 => .array .int
  | 2 => .int
  | 3 => .boolean
  | 4 => .int
  | 5 => .array .int
  | 6 => .array .int
  | 7 => .array .int
  | 8 => .array .int
  | 9 => .array .int
  | 10 => .array .int
  | 11 => .array .int
  | 12 => .array .int
  | 13 => .array .int
  | 14 => .array .int
  | 15 => .int
  | 16 => .array .int
  | 17 => .array .int
  | 18 => .array .int
  | 19 => .array .int
  | 20 => .int
  | 21 => .array .int
  | 22 => .array .int
  | 23 => .array .int
  | 24 => .array .int
  | 25 => .array .int
  | 26 => .int
  | 27 => .array .int
  | 28 => .array .int
  | 29 => .int
  | 30 => .array .int
  | 31 => .array .int
  | 32 => .array .int
  | 33 => .int
  | 34 => .int
  | 35 => .int
  | 36 => .array .boolean
  | 37 => .array .boolean
  | 38 => .int
  | 39 => .array .int
  | 40 => .array .int
  | 41 => .array .int
  | 42 => .int
  | 43 => .array .int
  | 44 => .int
  | 45 => .array .int
  | _ => .array .int
theorem nmX12 : ∀ a, a < 47 → ∀ b, b < 47 → a ≠ b → (TX12 a).2.1 ≠ (TX12 b).2.1 := by decide +kernel
theorem tyX12_ok : ∀ k, k < 47 → parseFieldDescriptor (TX12 k).2.2.1 = some (tyX12 k) := by decide +kernel
abbrev q_cl : List vw_C := [(RX0, TX0, 8), (RX1, TX1, 1), (RX2, TX2, 3), (RX3, TX3, 2), (RX4, TX4, 4), (RX5, TX5, 18), (RX6, TX6, 1), (RX7, TX7, 15), (RX8, TX8, 1), (RX9, TX9, 1), (RX10, TX10, 7), (RX11, TX11, 14), (RX12, TX12, 47)]
def q_R : Nat → String := fun c => match c with
  | 0 => RX0
  | 1 => RX1
  | 2 => RX2
  | 3 => RX3
  | 4 => RX4
  | 5 => RX5
  | 6 => RX6
  | 7 => RX7
  | 8 => RX8
  | 9 => RX9
  | 10 => RX10
  | 11 => RX11
  | 12 => RX12
  | 13 => "SmithyBenchLaw"
  | _ => "java/lang/Integer"
def q_T : Nat → u_T := fun c => match c with
  | 0 => TX0
  | 1 => TX1
  | 2 => TX2
  | 3 => TX3
  | 4 => TX4
  | 5 => TX5
  | 6 => TX6
  | 7 => TX7
  | 8 => TX8
  | 9 => TX9
  | 10 => TX10
  | 11 => TX11
  | _ => TX12
def q_ty : Nat → Nat → FieldType := fun c => match c with
  | 0 => tyX0
  | 1 => tyX1
  | 2 => tyX2
  | 3 => tyX3
  | 4 => tyX4
  | 5 => tyX5
  | 6 => tyX6
  | 7 => tyX7
  | 8 => tyX8
  | 9 => tyX9
  | 10 => tyX10
  | 11 => tyX11
  | _ => tyX12
def q_NF : Nat → Nat := fun c => match c with
  | 0 => 8
  | 1 => 1
  | 2 => 3
  | 3 => 2
  | 4 => 4
  | 5 => 18
  | 6 => 1
  | 7 => 15
  | 8 => 1
  | 9 => 1
  | 10 => 7
  | 11 => 14
  | _ => 47
/-- what a field of a class holds: 0 an int, 1 a boolean, 2 a reference -/
def q_ft : List (List Nat) := [[2, 2, 2, 2, 2, 2, 0, 0], [2], [2, 2, 2], [2, 2], [2, 2, 2, 0], [2, 2, 2, 2, 2, 2, 2, 2, 2, 2, 2, 0, 0, 0, 0, 0, 0, 0], [2], [2, 2, 2, 2, 2, 2, 2, 2, 2, 2, 0, 0, 0, 0, 1], [2], [2], [2, 2, 2, 2, 2, 2, 0], [2, 2, 2, 2, 2, 2, 2, 2, 2, 2, 2, 2, 1, 0], [0, 2, 0, 1, 0, 2, 2, 2, 2, 2, 2, 2, 2, 2, 2, 0, 2, 2, 2, 2, 0, 2, 2, 2, 2, 2, 0, 2, 2, 0, 2, 2, 2, 0, 0, 0, 2, 2, 0, 2, 2, 2, 0, 2, 0, 2, 2]]
def q_ff : List (List Bool) := [[true, true, true, true, true, true, true, false], [true], [true, true, true], [true, true], [true, true, true, false], [true, true, true, true, true, true, true, true, true, true, false, false, false, false, false, false, false, false], [true], [true, true, true, true, true, true, true, true, true, true, false, false, false, false, false], [true], [true], [true, true, true, true, true, true, false], [true, true, true, true, true, true, true, true, true, true, false, false, false, false], [false, true, false, false, false, true, true, true, true, true, true, true, true, true, true, false, true, true, true, true, false, true, true, true, true, true, false, true, true, false, true, true, true, false, false, false, true, true, false, true, true, true, false, true, false, true, true]]
/-- an instruction: where, what, how long, and two numbers of ours (field and class; callee and how; ..) -/
abbrev q_I : Type := Nat × Instr × Nat × Nat × Nat
