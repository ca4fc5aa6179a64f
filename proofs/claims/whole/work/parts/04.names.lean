/-! NAMES: classes, fields, blocks -/
def R_Steps : String := "PartFormulas$Steps"
def T_Steps : u_T := fun k => match k with
  | 0 => ("PartFormulas$Steps", "kind", "[I", true)
  | 1 => ("PartFormulas$Steps", "first", "[I", true)
  | 2 => ("PartFormulas$Steps", "second", "[I", true)
  | 3 => ("PartFormulas$Steps", "count", "I", false)
  | 4 => ("PartFormulas$Steps", "start", "[I", true)
  | 5 => ("PartFormulas$Steps", "signBehind", "[C", true)
  | _ => ("PartFormulas$Steps", "expressions", "I", false)
def ty_Steps : Nat → FieldType := fun k => match k with
  | 0 => .array .int
  | 1 => .array .int
  | 2 => .array .int
  | 3 => .int
  | 4 => .array .int
  | 5 => .array .char
  | _ => .int
theorem nm_Steps : ∀ a, a < 7 → ∀ b, b < 7 → a ≠ b → (T_Steps a).2.1 ≠ (T_Steps b).2.1 := by decide +kernel
theorem tyok_Steps : ∀ k, k < 7 → parseFieldDescriptor (T_Steps k).2.2.1 = some (ty_Steps k) := by decide +kernel
theorem in_Steps : ∀ w ∈ u_ws R_Steps T_Steps 7, w ∈ wsAll := by decide +kernel
def R_Cells : String := "PartFormulas$Cells"
def T_Cells : u_T := fun k => match k with
  | 0 => ("PartFormulas$Cells", "state", "[I", true)
  | 1 => ("PartFormulas$Cells", "above", "[J", true)
  | 2 => ("PartFormulas$Cells", "below", "[J", true)
  | _ => ("PartFormulas$Cells", "chosen", "[I", true)
def ty_Cells : Nat → FieldType := fun k => match k with
  | 0 => .array .int
  | 1 => .array .long
  | 2 => .array .long
  | _ => .array .int
theorem nm_Cells : ∀ a, a < 4 → ∀ b, b < 4 → a ≠ b → (T_Cells a).2.1 ≠ (T_Cells b).2.1 := by decide +kernel
theorem tyok_Cells : ∀ k, k < 4 → parseFieldDescriptor (T_Cells k).2.2.1 = some (ty_Cells k) := by decide +kernel
theorem in_Cells : ∀ w ∈ u_ws R_Cells T_Cells 4, w ∈ wsAll := by decide +kernel
def R_Text : String := "PartFormulas$Text"
def T_Text : u_T := fun k => match k with
  | 0 => ("PartFormulas$Text", "printed", "[C", true)
  | 1 => ("PartFormulas$Text", "printedLength", "I", false)
  | 2 => ("PartFormulas$Text", "steps", "LPartFormulas$Steps;", true)
  | 3 => ("PartFormulas$Text", "statements", "I", false)
  | 4 => ("PartFormulas$Text", "cellOf", "[I", true)
  | 5 => ("PartFormulas$Text", "firstExpression", "[I", true)
  | 6 => ("PartFormulas$Text", "conditions", "[I", true)
  | 7 => ("PartFormulas$Text", "definedBy", "[I", true)
  | 8 => ("PartFormulas$Text", "needed", "[J", true)
  | 9 => ("PartFormulas$Text", "letters", "[I", true)
  | 10 => ("PartFormulas$Text", "order", "[I", true)
  | _ => ("PartFormulas$Text", "orderLength", "I", false)
def ty_Text : Nat → FieldType := fun k => match k with
  | 0 => .array .char
  | 1 => .int
  | 2 => .object "PartFormulas$Steps"
  | 3 => .int
  | 4 => .array .int
  | 5 => .array .int
  | 6 => .array .int
  | 7 => .array .int
  | 8 => .array .long
  | 9 => .array .int
  | 10 => .array .int
  | _ => .int
theorem nm_Text : ∀ a, a < 12 → ∀ b, b < 12 → a ≠ b → (T_Text a).2.1 ≠ (T_Text b).2.1 := by decide +kernel
theorem tyok_Text : ∀ k, k < 12 → parseFieldDescriptor (T_Text k).2.2.1 = some (ty_Text k) := by decide +kernel
theorem in_Text : ∀ w ∈ u_ws R_Text T_Text 12, w ∈ wsAll := by decide +kernel
def R_Reader : String := "PartFormulas$Reader"
def T_Reader : u_T := fun k => match k with
  | 0 => ("PartFormulas$Reader", "typed", "[C", true)
  | 1 => ("PartFormulas$Reader", "dropped", "[Z", true)
  | 2 => ("PartFormulas$Reader", "length", "I", false)
  | 3 => ("PartFormulas$Reader", "at", "I", false)
  | 4 => ("PartFormulas$Reader", "text", "LPartFormulas$Text;", false)
  | 5 => ("PartFormulas$Reader", "waiting", "[I", true)
  | 6 => ("PartFormulas$Reader", "waitingCount", "I", false)
  | 7 => ("PartFormulas$Reader", "openedAt", "[I", true)
  | 8 => ("PartFormulas$Reader", "shapeByOperators", "[I", true)
  | 9 => ("PartFormulas$Reader", "shapeOfFactor", "[I", true)
  | 10 => ("PartFormulas$Reader", "groups", "I", false)
  | _ => ("PartFormulas$Reader", "nested", "I", false)
def ty_Reader : Nat → FieldType := fun k => match k with
  | 0 => .array .char
  | 1 => .array .boolean
  | 2 => .int
  | 3 => .int
  | 4 => .object "PartFormulas$Text"
  | 5 => .array .int
  | 6 => .int
  | 7 => .array .int
  | 8 => .array .int
  | 9 => .array .int
  | 10 => .int
  | _ => .int
theorem nm_Reader : ∀ a, a < 12 → ∀ b, b < 12 → a ≠ b → (T_Reader a).2.1 ≠ (T_Reader b).2.1 := by decide +kernel
theorem tyok_Reader : ∀ k, k < 12 → parseFieldDescriptor (T_Reader k).2.2.1 = some (ty_Reader k) := by decide +kernel
theorem in_Reader : ∀ w ∈ u_ws R_Reader T_Reader 12, w ∈ wsAll := by decide +kernel
def R_Reckoner : String := "PartFormulas$Reckoner"
def T_Reckoner : u_T := fun k => match k with
  | 0 => ("PartFormulas$Reckoner", "optionAbove", "[J", true)
  | 1 => ("PartFormulas$Reckoner", "optionBelow", "[J", true)
  | 2 => ("PartFormulas$Reckoner", "above", "[J", true)
  | 3 => ("PartFormulas$Reckoner", "below", "[J", true)
  | 4 => ("PartFormulas$Reckoner", "height", "I", false)
  | _ => ("PartFormulas$Reckoner", "reason", "I", false)
def ty_Reckoner : Nat → FieldType := fun k => match k with
  | 0 => .array .long
  | 1 => .array .long
  | 2 => .array .long
  | 3 => .array .long
  | 4 => .int
  | _ => .int
theorem nm_Reckoner : ∀ a, a < 6 → ∀ b, b < 6 → a ≠ b → (T_Reckoner a).2.1 ≠ (T_Reckoner b).2.1 := by decide +kernel
theorem tyok_Reckoner : ∀ k, k < 6 → parseFieldDescriptor (T_Reckoner k).2.2.1 = some (ty_Reckoner k) := by decide +kernel
theorem in_Reckoner : ∀ w ∈ u_ws R_Reckoner T_Reckoner 6, w ∈ wsAll := by decide +kernel
def R_PF : String := "PartFormulas"
def T_PF : u_T := fun k => match k with
  | 0 => ("PartFormulas", "reader", "LPartFormulas$Reader;", true)
  | 1 => ("PartFormulas", "text", "LPartFormulas$Text;", false)
  | 2 => ("PartFormulas", "wasRead", "Z", false)
  | 3 => ("PartFormulas", "workedOut", "Z", false)
  | 4 => ("PartFormulas", "reckoner", "LPartFormulas$Reckoner;", true)
  | 5 => ("PartFormulas", "cells", "LPartFormulas$Cells;", true)
  | 6 => ("PartFormulas", "trial", "LPartFormulas$Cells;", true)
  | 7 => ("PartFormulas", "versions", "[LPartFormulas$Cells;", true)
  | 8 => ("PartFormulas", "versionCount", "I", false)
  | _ => ("PartFormulas", "reckonedCells", "J", false)
def ty_PF : Nat → FieldType := fun k => match k with
  | 0 => .object "PartFormulas$Reader"
  | 1 => .object "PartFormulas$Text"
  | 2 => .boolean
  | 3 => .boolean
  | 4 => .object "PartFormulas$Reckoner"
  | 5 => .object "PartFormulas$Cells"
  | 6 => .object "PartFormulas$Cells"
  | 7 => .array (.object "PartFormulas$Cells")
  | 8 => .int
  | _ => .long
theorem nm_PF : ∀ a, a < 10 → ∀ b, b < 10 → a ≠ b → (T_PF a).2.1 ≠ (T_PF b).2.1 := by decide +kernel
theorem tyok_PF : ∀ k, k < 10 → parseFieldDescriptor (T_PF k).2.2.1 = some (ty_PF k) := by decide +kernel
theorem in_PF : ∀ w ∈ u_ws R_PF T_PF 10, w ∈ wsAll := by decide +kernel
def R_Mod : String := "PartFormulasModel"
def T_Mod : u_T := fun k => match k with
  | 0 => ("PartFormulasModel", "code", "I", false)
  | 1 => ("PartFormulasModel", "typed", "[I", true)
  | 2 => ("PartFormulasModel", "typedSize", "I", false)
  | 3 => ("PartFormulasModel", "at", "I", false)
  | 4 => ("PartFormulasModel", "failed", "I", false)
  | 5 => ("PartFormulasModel", "signs", "[I", true)
  | 6 => ("PartFormulasModel", "arguments", "[I", true)
  | 7 => ("PartFormulasModel", "sizes", "[I", true)
  | 8 => ("PartFormulasModel", "statements", "[I", true)
  | 9 => ("PartFormulasModel", "begins", "[I", true)
  | 10 => ("PartFormulasModel", "defines", "[I", true)
  | 11 => ("PartFormulasModel", "isRead", "Z", false)
  | 12 => ("PartFormulasModel", "worked", "Z", false)
  | 13 => ("PartFormulasModel", "waiting", "[I", true)
  | 14 => ("PartFormulasModel", "waits", "I", false)
  | 15 => ("PartFormulasModel", "optionAbove", "[J", true)
  | 16 => ("PartFormulasModel", "optionBelow", "[J", true)
  | 17 => ("PartFormulasModel", "lines", "[I", true)
  | 18 => ("PartFormulasModel", "needed", "[Z", true)
  | 19 => ("PartFormulasModel", "states", "[I", true)
  | 20 => ("PartFormulasModel", "above", "[J", true)
  | 21 => ("PartFormulasModel", "below", "[J", true)
  | 22 => ("PartFormulasModel", "chosen", "[I", true)
  | 23 => ("PartFormulasModel", "reckoned", "J", false)
  | 24 => ("PartFormulasModel", "versions", "I", false)
  | 25 => ("PartFormulasModel", "versionStates", "[I", true)
  | 26 => ("PartFormulasModel", "versionAbove", "[J", true)
  | 27 => ("PartFormulasModel", "versionBelow", "[J", true)
  | 28 => ("PartFormulasModel", "rowAbove", "[J", true)
  | 29 => ("PartFormulasModel", "rowBelow", "[J", true)
  | 30 => ("PartFormulasModel", "top", "I", false)
  | 31 => ("PartFormulasModel", "reason", "I", false)
  | 32 => ("PartFormulasModel", "text", "[I", true)
  | 33 => ("PartFormulasModel", "printed", "I", false)
  | 34 => ("PartFormulasModel", "starts", "[I", true)
  | _ => ("PartFormulasModel", "strengths", "[I", true)
def ty_Mod : Nat → FieldType := fun k => match k with
  | 0 => .int
  | 1 => .array .int
  | 2 => .int
  | 3 => .int
  | 4 => .int
  | 5 => .array .int
  | 6 => .array .int
  | 7 => .array .int
  | 8 => .array .int
  | 9 => .array .int
  | 10 => .array .int
  | 11 => .boolean
  | 12 => .boolean
  | 13 => .array .int
  | 14 => .int
  | 15 => .array .long
  | 16 => .array .long
  | 17 => .array .int
  | 18 => .array .boolean
  | 19 => .array .int
  | 20 => .array .long
  | 21 => .array .long
  | 22 => .array .int
  | 23 => .long
  | 24 => .int
  | 25 => .array .int
  | 26 => .array .long
  | 27 => .array .long
  | 28 => .array .long
  | 29 => .array .long
  | 30 => .int
  | 31 => .int
  | 32 => .array .int
  | 33 => .int
  | 34 => .array .int
  | _ => .array .int
theorem nm_Mod : ∀ a, a < 36 → ∀ b, b < 36 → a ≠ b → (T_Mod a).2.1 ≠ (T_Mod b).2.1 := by decide +kernel
theorem tyok_Mod : ∀ k, k < 36 → parseFieldDescriptor (T_Mod k).2.2.1 = some (ty_Mod k) := by decide +kernel
theorem in_Mod : ∀ w ∈ u_ws R_Mod T_Mod 36, w ∈ wsAll := by decide +kernel
def R_JLong : String := "java/lang/Long"
def R_JMath : String := "java/lang/Math"
def R_Law : String := "PartFormulasLaw"
abbrev vwCl : List vw_C := [(R_Steps, T_Steps, 7), (R_Cells, T_Cells, 4), (R_Text, T_Text, 12), (R_Reader, T_Reader, 12), (R_Reckoner, T_Reckoner, 6), (R_PF, T_PF, 10), (R_Mod, T_Mod, 36)]
abbrev tyA (ct : Nat → ClassId) : List (ClassId × FieldType) := [(ct 0, .int), (ct 1, .long), (ct 2, .char), (ct 3, .boolean), (ct 4, .object "PartFormulas$Cells")]
def wSteps (ct : Nat → ClassId) (a : Nat → Nat) (o : Ob) : va_W := [(a 0, .inr (0, [.ref (a 1), .ref (a 2), .ref (a 3), .int (g32 o 3 0), .ref (a 4), .ref (a 5), .int (g32 o 6 0)])), (a 1, .inl (ct 0, 400, .inl (g32 o 0))), (a 2, .inl (ct 0, 400, .inl (g32 o 1))), (a 3, .inl (ct 0, 400, .inl (g32 o 2))), (a 4, .inl (ct 0, 401, .inl (g32 o 4))), (a 5, .inl (ct 2, 401, .inl (g32 o 5)))]
def adSteps (a : Nat → Nat) : List Nat := [a 0, a 1, a 2, a 3, a 4, a 5]
def wCells (ct : Nat → ClassId) (a : Nat → Nat) (o : Ob) : va_W := [(a 0, .inr (1, [.ref (a 1), .ref (a 2), .ref (a 3), .ref (a 4)])), (a 1, .inl (ct 0, 60, .inl (g32 o 0))), (a 2, .inl (ct 1, 60, .inr (.inl (g64 o 1)))), (a 3, .inl (ct 1, 60, .inr (.inl (g64 o 2)))), (a 4, .inl (ct 0, 60, .inl (g32 o 3)))]
def adCells (a : Nat → Nat) : List Nat := [a 0, a 1, a 2, a 3, a 4]
def wText (ct : Nat → ClassId) (a : Nat → Nat) (r2 : Nat) (o : Ob) : va_W := [(a 0, .inr (2, [.ref (a 1), .int (g32 o 1 0), .ref r2, .int (g32 o 3 0), .ref (a 2), .ref (a 3), .ref (a 4), .ref (a 5), .ref (a 6), .ref (a 7), .ref (a 8), .int (g32 o 11 0)])), (a 1, .inl (ct 2, 400, .inl (g32 o 0))), (a 2, .inl (ct 0, 24, .inl (g32 o 4))), (a 3, .inl (ct 0, 24, .inl (g32 o 5))), (a 4, .inl (ct 0, 24, .inl (g32 o 6))), (a 5, .inl (ct 0, 60, .inl (g32 o 7))), (a 6, .inl (ct 1, 60, .inr (.inl (g64 o 8)))), (a 7, .inl (ct 0, 60, .inl (g32 o 9))), (a 8, .inl (ct 0, 24, .inl (g32 o 10)))]
def adText (a : Nat → Nat) : List Nat := [a 0, a 1, a 2, a 3, a 4, a 5, a 6, a 7, a 8]
def wReader (ct : Nat → ClassId) (a : Nat → Nat) (r4 : Nat) (o : Ob) : va_W := [(a 0, .inr (3, [.ref (a 1), .ref (a 2), .int (g32 o 2 0), .int (g32 o 3 0), .ref r4, .ref (a 3), .int (g32 o 6 0), .ref (a 4), .ref (a 5), .ref (a 6), .int (g32 o 10 0), .int (g32 o 11 0)])), (a 1, .inl (ct 2, 400, .inl (g32 o 0))), (a 2, .inl (ct 3, 400, .inl (g32 o 1))), (a 3, .inl (ct 0, 400, .inl (g32 o 5))), (a 4, .inl (ct 0, 9, .inl (g32 o 7))), (a 5, .inl (ct 0, 9, .inl (g32 o 8))), (a 6, .inl (ct 0, 9, .inl (g32 o 9)))]
def adReader (a : Nat → Nat) : List Nat := [a 0, a 1, a 2, a 3, a 4, a 5, a 6]
def wReckoner (ct : Nat → ClassId) (a : Nat → Nat) (o : Ob) : va_W := [(a 0, .inr (4, [.ref (a 1), .ref (a 2), .ref (a 3), .ref (a 4), .int (g32 o 4 0), .int (g32 o 5 0)])), (a 1, .inl (ct 1, 8, .inr (.inl (g64 o 0)))), (a 2, .inl (ct 1, 8, .inr (.inl (g64 o 1)))), (a 3, .inl (ct 1, 19, .inr (.inl (g64 o 2)))), (a 4, .inl (ct 1, 19, .inr (.inl (g64 o 3))))]
def adReckoner (a : Nat → Nat) : List Nat := [a 0, a 1, a 2, a 3, a 4]
def wPF (ct : Nat → ClassId) (a : Nat → Nat) (r0 r1 r4 r5 r6 : Nat) (v : Nat → Nat) (o : Ob) : va_W := [(a 0, .inr (5, [.ref r0, .ref r1, .int (g32 o 2 0), .int (g32 o 3 0), .ref r4, .ref r5, .ref r6, .ref (a 1), .int (g32 o 8 0), .long (g64 o 9 0)])), (a 1, .inl (ct 4, 4, .inr (.inr (.inr (.inr (fun i => some (v i)))))))]
def adPF (a : Nat → Nat) : List Nat := [a 0, a 1]
def wMod (ct : Nat → ClassId) (a : Nat → Nat) (o : Ob) : va_W := [(a 0, .inr (6, [.int (g32 o 0 0), .ref (a 1), .int (g32 o 2 0), .int (g32 o 3 0), .int (g32 o 4 0), .ref (a 2), .ref (a 3), .ref (a 4), .ref (a 5), .ref (a 6), .ref (a 7), .int (g32 o 11 0), .int (g32 o 12 0), .ref (a 8), .int (g32 o 14 0), .ref (a 9), .ref (a 10), .ref (a 11), .ref (a 12), .ref (a 13), .ref (a 14), .ref (a 15), .ref (a 16), .long (g64 o 23 0), .int (g32 o 24 0), .ref (a 17), .ref (a 18), .ref (a 19), .ref (a 20), .ref (a 21), .int (g32 o 30 0), .int (g32 o 31 0), .ref (a 22), .int (g32 o 33 0), .ref (a 23), .ref (a 24)])), (a 1, .inl (ct 0, 400, .inl (g32 o 1))), (a 2, .inl (ct 0, 1000, .inl (g32 o 5))), (a 3, .inl (ct 0, 1000, .inl (g32 o 6))), (a 4, .inl (ct 0, 2, .inl (g32 o 7))), (a 5, .inl (ct 0, 2, .inl (g32 o 8))), (a 6, .inl (ct 0, 50, .inl (g32 o 9))), (a 7, .inl (ct 0, 50, .inl (g32 o 10))), (a 8, .inl (ct 0, 420, .inl (g32 o 13))), (a 9, .inl (ct 1, 8, .inr (.inl (g64 o 15)))), (a 10, .inl (ct 1, 8, .inr (.inl (g64 o 16)))), (a 11, .inl (ct 0, 60, .inl (g32 o 17))), (a 12, .inl (ct 3, 3600, .inl (g32 o 18))), (a 13, .inl (ct 0, 60, .inl (g32 o 19))), (a 14, .inl (ct 1, 60, .inr (.inl (g64 o 20)))), (a 15, .inl (ct 1, 60, .inr (.inl (g64 o 21)))), (a 16, .inl (ct 0, 60, .inl (g32 o 22))), (a 17, .inl (ct 0, 240, .inl (g32 o 25))), (a 18, .inl (ct 1, 240, .inr (.inl (g64 o 26)))), (a 19, .inl (ct 1, 240, .inr (.inl (g64 o 27)))), (a 20, .inl (ct 1, 420, .inr (.inl (g64 o 28)))), (a 21, .inl (ct 1, 420, .inr (.inl (g64 o 29)))), (a 22, .inl (ct 0, 900, .inl (g32 o 32))), (a 23, .inl (ct 0, 420, .inl (g32 o 34))), (a 24, .inl (ct 0, 420, .inl (g32 o 35)))]
def adMod (a : Nat → Nat) : List Nat := [a 0, a 1, a 2, a 3, a 4, a 5, a 6, a 7, a 8, a 9, a 10, a 11, a 12, a 13, a 14, a 15, a 16, a 17, a 18, a 19, a 20, a 21, a 22, a 23, a 24]
