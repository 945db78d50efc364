def R_CD : String := "CellDecide"
def F_CD : u_T := fun k => match k with
  | 0 => ("CellDecide", "tape", "[B", true)
  | 1 => ("CellDecide", "tapeLength", "I", false)
  | 2 => ("CellDecide", "fault", "I", false)
  | 3 => ("CellDecide", "statement", "LCellDecide$Statement;", true)
  | 4 => ("CellDecide", "reader", "LCellDecide$Reader;", true)
  | 5 => ("CellDecide", "polys", "LCellDecide$Polys;", true)
  | 6 => ("CellDecide", "splitter", "LCellDecide$Splitter;", true)
  | 7 => ("CellDecide", "curves", "LCellDecide$Curves;", true)
  | 8 => ("CellDecide", "spot", "LCellDecide$Spot;", true)
  | 9 => ("CellDecide", "line", "LCellDecide$Line;", true)
  | 10 => ("CellDecide", "breaks", "LCellDecide$Roots;", true)
  | 11 => ("CellDecide", "heights", "LCellDecide$Roots;", true)
  | 12 => ("CellDecide", "ends", "LCellDecide$Roots;", true)
  | 13 => ("CellDecide", "places", "LCellDecide$Roots;", true)
  | 14 => ("CellDecide", "rows", "[I", false)
  | 15 => ("CellDecide", "intervals", "I", false)
  | 16 => ("CellDecide", "points", "I", false)
  | _ => ("CellDecide", "text", "Ljava/lang/StringBuilder;", true)
def t_CD : Nat → FieldType := fun k => match k with
  | 0 => .array .byte
  | 1 => .int
  | 2 => .int
  | 3 => .object "CellDecide$Statement"
  | 4 => .object "CellDecide$Reader"
  | 5 => .object "CellDecide$Polys"
  | 6 => .object "CellDecide$Splitter"
  | 7 => .object "CellDecide$Curves"
  | 8 => .object "CellDecide$Spot"
  | 9 => .object "CellDecide$Line"
  | 10 => .object "CellDecide$Roots"
  | 11 => .object "CellDecide$Roots"
  | 12 => .object "CellDecide$Roots"
  | 13 => .object "CellDecide$Roots"
  | 14 => .array .int
  | 15 => .int
  | 16 => .int
  | _ => .object "java/lang/StringBuilder"
theorem n_CD : ∀ a, a < 18 → ∀ b, b < 18 → a ≠ b → (F_CD a).2.1 ≠ (F_CD b).2.1 := by decide +kernel
theorem t_CD_ok : ∀ k, k < 18 → parseFieldDescriptor (F_CD k).2.2.1 = some (t_CD k) := by decide +kernel
set_option maxRecDepth 100000 in
theorem i_CD : ∀ w ∈ u_ws R_CD F_CD 18, w ∈ zg_tbl := zt_sub [(3, 169), (3, 171), (3, 173), (3, 175), (3, 177), (3, 179), (3, 181), (3, 183), (3, 185), (3, 187), (3, 189), (3, 191), (3, 193), (3, 195), (3, 197), (3, 199), (3, 201), (3, 203)] rfl
theorem zn_CD : ∀ j, j < 18 → defaultValue (t_CD j) = vp_V [.null, .int 0, .int 0, .null, .null, .null, .null, .null, .null, .null, .null, .null, .null, .null, .null, .int 0, .int 0, .null] j := by decide +kernel
def R_C_Statement : String := "CellDecide$Statement"
def F_C_Statement : u_T := fun k => match k with
  | 0 => ("CellDecide$Statement", "there", "Z", false)
  | 1 => ("CellDecide$Statement", "free", "I", false)
  | 2 => ("CellDecide$Statement", "answer", "I", false)
  | 3 => ("CellDecide$Statement", "length", "I", false)
  | 4 => ("CellDecide$Statement", "code", "[I", true)
  | 5 => ("CellDecide$Statement", "stack", "[Z", true)
  | 6 => ("CellDecide$Statement", "comparisons", "I", false)
  | 7 => ("CellDecide$Statement", "poly", "[[I", true)
  | 8 => ("CellDecide$Statement", "relation", "[I", true)
  | 9 => ("CellDecide$Statement", "holder", "[I", true)
  | 10 => ("CellDecide$Statement", "sign", "[I", true)
  | 11 => ("CellDecide$Statement", "quantifiers", "I", false)
  | 12 => ("CellDecide$Statement", "some", "[Z", true)
  | 13 => ("CellDecide$Statement", "variable", "[I", true)
  | 14 => ("CellDecide$Statement", "variablePlace", "[I", true)
  | 15 => ("CellDecide$Statement", "parent", "[I", true)
  | 16 => ("CellDecide$Statement", "from", "[I", true)
  | 17 => ("CellDecide$Statement", "till", "[I", true)
  | _ => ("CellDecide$Statement", "value", "[Z", true)
def t_C_Statement : Nat → FieldType := fun k => match k with
  | 0 => .boolean
  | 1 => .int
  | 2 => .int
  | 3 => .int
  | 4 => .array .int
  | 5 => .array .boolean
  | 6 => .int
  | 7 => .array (.array .int)
  | 8 => .array .int
  | 9 => .array .int
  | 10 => .array .int
  | 11 => .int
  | 12 => .array .boolean
  | 13 => .array .int
  | 14 => .array .int
  | 15 => .array .int
  | 16 => .array .int
  | 17 => .array .int
  | _ => .array .boolean
theorem n_C_Statement : ∀ a, a < 19 → ∀ b, b < 19 → a ≠ b → (F_C_Statement a).2.1 ≠ (F_C_Statement b).2.1 := by decide +kernel
theorem t_C_Statement_ok : ∀ k, k < 19 → parseFieldDescriptor (F_C_Statement k).2.2.1 = some (t_C_Statement k) := by decide +kernel
set_option maxRecDepth 100000 in
theorem i_C_Statement : ∀ w ∈ u_ws R_C_Statement F_C_Statement 19, w ∈ zg_tbl := zt_sub [(1, 96), (1, 98), (1, 100), (1, 102), (1, 104), (1, 106), (1, 108), (1, 110), (1, 112), (1, 114), (1, 116), (1, 118), (1, 120), (1, 122), (1, 124), (1, 126), (1, 128), (1, 130), (1, 132)] rfl
theorem zn_C_Statement : ∀ j, j < 19 → defaultValue (t_C_Statement j) = vp_V [.int 0, .int 0, .int 0, .int 0, .null, .null, .int 0, .null, .null, .null, .null, .int 0, .null, .null, .null, .null, .null, .null, .null] j := by decide +kernel
def R_C_Reader : String := "CellDecide$Reader"
def F_C_Reader : u_T := fun k => match k with
  | 0 => ("CellDecide$Reader", "tape", "[B", true)
  | 1 => ("CellDecide$Reader", "length", "I", false)
  | 2 => ("CellDecide$Reader", "next", "I", false)
  | 3 => ("CellDecide$Reader", "token", "I", false)
  | 4 => ("CellDecide$Reader", "place", "I", false)
  | 5 => ("CellDecide$Reader", "number", "I", false)
  | 6 => ("CellDecide$Reader", "tokens", "I", false)
  | 7 => ("CellDecide$Reader", "kind", "I", false)
  | 8 => ("CellDecide$Reader", "faultPlace", "I", false)
  | 9 => ("CellDecide$Reader", "open", "I", false)
  | 10 => ("CellDecide$Reader", "great", "Z", false)
  | 11 => ("CellDecide$Reader", "greatPlace", "I", false)
  | 12 => ("CellDecide$Reader", "holder", "I", false)
  | 13 => ("CellDecide$Reader", "free", "I", false)
  | 14 => ("CellDecide$Reader", "bound", "[Z", true)
  | 15 => ("CellDecide$Reader", "slot", "[[I", true)
  | 16 => ("CellDecide$Reader", "product", "[J", true)
  | 17 => ("CellDecide$Reader", "statement", "LCellDecide$Statement;", true)
  | _ => ("CellDecide$Reader", "curve", "[[I", true)
def t_C_Reader : Nat → FieldType := fun k => match k with
  | 0 => .array .byte
  | 1 => .int
  | 2 => .int
  | 3 => .int
  | 4 => .int
  | 5 => .int
  | 6 => .int
  | 7 => .int
  | 8 => .int
  | 9 => .int
  | 10 => .boolean
  | 11 => .int
  | 12 => .int
  | 13 => .int
  | 14 => .array .boolean
  | 15 => .array (.array .int)
  | 16 => .array .long
  | 17 => .object "CellDecide$Statement"
  | _ => .array (.array .int)
theorem n_C_Reader : ∀ a, a < 19 → ∀ b, b < 19 → a ≠ b → (F_C_Reader a).2.1 ≠ (F_C_Reader b).2.1 := by decide +kernel
theorem t_C_Reader_ok : ∀ k, k < 19 → parseFieldDescriptor (F_C_Reader k).2.2.1 = some (t_C_Reader k) := by decide +kernel
set_option maxRecDepth 100000 in
theorem i_C_Reader : ∀ w ∈ u_ws R_C_Reader F_C_Reader 19, w ∈ zg_tbl := zt_sub [(1, 167), (1, 169), (1, 171), (1, 173), (1, 175), (1, 177), (1, 179), (1, 181), (1, 183), (1, 185), (1, 187), (1, 189), (1, 191), (1, 193), (1, 195), (1, 197), (1, 199), (1, 201), (1, 203)] rfl
theorem zn_C_Reader : ∀ j, j < 19 → defaultValue (t_C_Reader j) = vp_V [.null, .int 0, .int 0, .int 0, .int 0, .int 0, .int 0, .int 0, .int 0, .int 0, .int 0, .int 0, .int 0, .int 0, .null, .null, .null, .null, .null] j := by decide +kernel
def R_C_Polys : String := "CellDecide$Polys"
def F_C_Polys : u_T := fun k => match k with
  | _ => ("CellDecide$Polys", "numbers", "LCellDecide$Numbers;", true)
def t_C_Polys : Nat → FieldType := fun k => match k with
  | _ => .object "CellDecide$Numbers"
theorem n_C_Polys : ∀ a, a < 1 → ∀ b, b < 1 → a ≠ b → (F_C_Polys a).2.1 ≠ (F_C_Polys b).2.1 := by decide +kernel
theorem t_C_Polys_ok : ∀ k, k < 1 → parseFieldDescriptor (F_C_Polys k).2.2.1 = some (t_C_Polys k) := by decide +kernel
set_option maxRecDepth 100000 in
theorem i_C_Polys : ∀ w ∈ u_ws R_C_Polys F_C_Polys 1, w ∈ zg_tbl := zt_sub [(2, 47)] rfl
theorem zn_C_Polys : ∀ j, j < 1 → defaultValue (t_C_Polys j) = vp_V [.null] j := by decide +kernel
def R_C_Numbers : String := "CellDecide$Numbers"
def F_C_Numbers : u_T := fun k => match k with
  | 0 => ("CellDecide$Numbers", "w", "[I", false)
  | 1 => ("CellDecide$Numbers", "top", "I", false)
  | 2 => ("CellDecide$Numbers", "rest", "I", false)
  | _ => ("CellDecide$Numbers", "reversed", "Ljava/lang/StringBuilder;", true)
def t_C_Numbers : Nat → FieldType := fun k => match k with
  | 0 => .array .int
  | 1 => .int
  | 2 => .int
  | _ => .object "java/lang/StringBuilder"
theorem n_C_Numbers : ∀ a, a < 4 → ∀ b, b < 4 → a ≠ b → (F_C_Numbers a).2.1 ≠ (F_C_Numbers b).2.1 := by decide +kernel
theorem t_C_Numbers_ok : ∀ k, k < 4 → parseFieldDescriptor (F_C_Numbers k).2.2.1 = some (t_C_Numbers k) := by decide +kernel
set_option maxRecDepth 100000 in
theorem i_C_Numbers : ∀ w ∈ u_ws R_C_Numbers F_C_Numbers 4, w ∈ zg_tbl := zt_sub [(2, 27), (2, 29), (2, 31), (2, 33)] rfl
theorem zn_C_Numbers : ∀ j, j < 4 → defaultValue (t_C_Numbers j) = vp_V [.null, .int 0, .int 0, .null] j := by decide +kernel
def R_StringBuilder : String := "java/lang/StringBuilder"
def F_StringBuilder : u_T := fun k => match k with
  | 0 => ("java/lang/AbstractStringBuilder", "value", "[B", false)
  | 1 => ("java/lang/AbstractStringBuilder", "coder", "B", false)
  | 2 => ("java/lang/AbstractStringBuilder", "maybeLatin1", "Z", false)
  | _ => ("java/lang/AbstractStringBuilder", "count", "I", false)
def t_StringBuilder : Nat → FieldType := fun k => match k with
  | 0 => .array .byte
  | 1 => .byte
  | 2 => .boolean
  | _ => .int
theorem n_StringBuilder : ∀ a, a < 4 → ∀ b, b < 4 → a ≠ b → (F_StringBuilder a).2.1 ≠ (F_StringBuilder b).2.1 := by decide +kernel
theorem t_StringBuilder_ok : ∀ k, k < 4 → parseFieldDescriptor (F_StringBuilder k).2.2.1 = some (t_StringBuilder k) := by decide +kernel
set_option maxRecDepth 100000 in
theorem i_StringBuilder : ∀ w ∈ u_ws R_StringBuilder F_StringBuilder 4, w ∈ zg_tbl := zt_sub [(1, 238), (2, 0), (2, 2), (2, 4)] rfl
theorem zn_StringBuilder : ∀ j, j < 4 → defaultValue (t_StringBuilder j) = vp_V [.null, .int 0, .int 0, .int 0] j := by decide +kernel
def R_C_Splitter : String := "CellDecide$Splitter"
def F_C_Splitter : u_T := fun k => match k with
  | 0 => ("CellDecide$Splitter", "polys", "LCellDecide$Polys;", true)
  | 1 => ("CellDecide$Splitter", "prime", "I", false)
  | 2 => ("CellDecide$Splitter", "inverse", "[I", true)
  | 3 => ("CellDecide$Splitter", "degree", "I", false)
  | 4 => ("CellDecide$Splitter", "whole", "[I", true)
  | 5 => ("CellDecide$Splitter", "parts", "I", false)
  | 6 => ("CellDecide$Splitter", "part", "[[I", true)
  | 7 => ("CellDecide$Splitter", "size", "[I", true)
  | 8 => ("CellDecide$Splitter", "matrix", "[[I", true)
  | 9 => ("CellDecide$Splitter", "column", "[I", true)
  | 10 => ("CellDecide$Splitter", "fixed", "[I", true)
  | 11 => ("CellDecide$Splitter", "one", "[I", true)
  | 12 => ("CellDecide$Splitter", "two", "[I", true)
  | 13 => ("CellDecide$Splitter", "three", "[I", true)
  | 14 => ("CellDecide$Splitter", "four", "[I", true)
  | 15 => ("CellDecide$Splitter", "helper", "[[I", true)
  | 16 => ("CellDecide$Splitter", "lifted", "[I", true)
  | 17 => ("CellDecide$Splitter", "modulus", "I", false)
  | 18 => ("CellDecide$Splitter", "factors", "I", false)
  | _ => ("CellDecide$Splitter", "factor", "[I", true)
def t_C_Splitter : Nat → FieldType := fun k => match k with
  | 0 => .object "CellDecide$Polys"
  | 1 => .int
  | 2 => .array .int
  | 3 => .int
  | 4 => .array .int
  | 5 => .int
  | 6 => .array (.array .int)
  | 7 => .array .int
  | 8 => .array (.array .int)
  | 9 => .array .int
  | 10 => .array .int
  | 11 => .array .int
  | 12 => .array .int
  | 13 => .array .int
  | 14 => .array .int
  | 15 => .array (.array .int)
  | 16 => .array .int
  | 17 => .int
  | 18 => .int
  | _ => .array .int
theorem n_C_Splitter : ∀ a, a < 20 → ∀ b, b < 20 → a ≠ b → (F_C_Splitter a).2.1 ≠ (F_C_Splitter b).2.1 := by decide +kernel
theorem t_C_Splitter_ok : ∀ k, k < 20 → parseFieldDescriptor (F_C_Splitter k).2.2.1 = some (t_C_Splitter k) := by decide +kernel
set_option maxRecDepth 100000 in
theorem i_C_Splitter : ∀ w ∈ u_ws R_C_Splitter F_C_Splitter 20, w ∈ zg_tbl := zt_sub [(2, 79), (2, 81), (2, 83), (2, 85), (2, 87), (2, 89), (2, 91), (2, 93), (2, 95), (2, 97), (2, 99), (2, 101), (2, 103), (2, 105), (2, 107), (2, 109), (2, 111), (2, 113), (2, 115), (2, 117)] rfl
theorem zn_C_Splitter : ∀ j, j < 20 → defaultValue (t_C_Splitter j) = vp_V [.null, .int 0, .null, .int 0, .null, .int 0, .null, .null, .null, .null, .null, .null, .null, .null, .null, .null, .null, .int 0, .int 0, .null] j := by decide +kernel
def R_C_Curves : String := "CellDecide$Curves"
def F_C_Curves : u_T := fun k => match k with
  | 0 => ("CellDecide$Curves", "polys", "LCellDecide$Polys;", true)
  | 1 => ("CellDecide$Curves", "numbers", "LCellDecide$Numbers;", true)
  | 2 => ("CellDecide$Curves", "coefficient", "[I", true)
  | 3 => ("CellDecide$Curves", "degree", "[I", true)
  | 4 => ("CellDecide$Curves", "meeting", "[I", true)
  | 5 => ("CellDecide$Curves", "turn", "[I", true)
  | 6 => ("CellDecide$Curves", "middle", "[I", true)
  | _ => ("CellDecide$Curves", "matrix", "[I", true)
def t_C_Curves : Nat → FieldType := fun k => match k with
  | 0 => .object "CellDecide$Polys"
  | 1 => .object "CellDecide$Numbers"
  | 2 => .array .int
  | 3 => .array .int
  | 4 => .array .int
  | 5 => .array .int
  | 6 => .array .int
  | _ => .array .int
theorem n_C_Curves : ∀ a, a < 8 → ∀ b, b < 8 → a ≠ b → (F_C_Curves a).2.1 ≠ (F_C_Curves b).2.1 := by decide +kernel
theorem t_C_Curves_ok : ∀ k, k < 8 → parseFieldDescriptor (F_C_Curves k).2.2.1 = some (t_C_Curves k) := by decide +kernel
set_option maxRecDepth 100000 in
theorem i_C_Curves : ∀ w ∈ u_ws R_C_Curves F_C_Curves 8, w ∈ zg_tbl := zt_sub [(2, 137), (2, 139), (2, 141), (2, 143), (2, 145), (2, 147), (2, 149), (2, 151)] rfl
theorem zn_C_Curves : ∀ j, j < 8 → defaultValue (t_C_Curves j) = vp_V [.null, .null, .null, .null, .null, .null, .null, .null] j := by decide +kernel
def R_C_Spot : String := "CellDecide$Spot"
def F_C_Spot : u_T := fun k => match k with
  | 0 => ("CellDecide$Spot", "polys", "LCellDecide$Polys;", true)
  | 1 => ("CellDecide$Spot", "numbers", "LCellDecide$Numbers;", true)
  | 2 => ("CellDecide$Spot", "root", "LCellDecide$Root;", false)
  | 3 => ("CellDecide$Spot", "degree", "I", false)
  | 4 => ("CellDecide$Spot", "least", "I", false)
  | 5 => ("CellDecide$Spot", "up", "I", false)
  | 6 => ("CellDecide$Spot", "low", "I", false)
  | 7 => ("CellDecide$Spot", "middle", "I", false)
  | 8 => ("CellDecide$Spot", "spread", "I", false)
  | 9 => ("CellDecide$Spot", "value", "D", false)
  | _ => ("CellDecide$Spot", "error", "D", false)
def t_C_Spot : Nat → FieldType := fun k => match k with
  | 0 => .object "CellDecide$Polys"
  | 1 => .object "CellDecide$Numbers"
  | 2 => .object "CellDecide$Root"
  | 3 => .int
  | 4 => .int
  | 5 => .int
  | 6 => .int
  | 7 => .int
  | 8 => .int
  | 9 => .double
  | _ => .double
theorem n_C_Spot : ∀ a, a < 11 → ∀ b, b < 11 → a ≠ b → (F_C_Spot a).2.1 ≠ (F_C_Spot b).2.1 := by decide +kernel
theorem t_C_Spot_ok : ∀ k, k < 11 → parseFieldDescriptor (F_C_Spot k).2.2.1 = some (t_C_Spot k) := by decide +kernel
set_option maxRecDepth 100000 in
theorem i_C_Spot : ∀ w ∈ u_ws R_C_Spot F_C_Spot 11, w ∈ zg_tbl := zt_sub [(2, 173), (2, 175), (2, 177), (2, 179), (2, 181), (2, 183), (2, 185), (2, 187), (2, 189), (2, 191), (2, 193)] rfl
theorem zn_C_Spot : ∀ j, j < 11 → defaultValue (t_C_Spot j) = vp_V [.null, .null, .null, .int 0, .int 0, .int 0, .int 0, .int 0, .int 0, .double 0, .double 0] j := by decide +kernel
def R_C_Line : String := "CellDecide$Line"
def F_C_Line : u_T := fun k => match k with
  | 0 => ("CellDecide$Line", "curves", "LCellDecide$Curves;", true)
  | 1 => ("CellDecide$Line", "spot", "LCellDecide$Spot;", true)
  | 2 => ("CellDecide$Line", "statement", "LCellDecide$Statement;", true)
  | 3 => ("CellDecide$Line", "polys", "LCellDecide$Polys;", true)
  | 4 => ("CellDecide$Line", "numbers", "LCellDecide$Numbers;", true)
  | 5 => ("CellDecide$Line", "count", "I", false)
  | 6 => ("CellDecide$Line", "curve", "[I", true)
  | 7 => ("CellDecide$Line", "degree", "[I", true)
  | 8 => ("CellDecide$Line", "lead", "[I", true)
  | 9 => ("CellDecide$Line", "single", "[Z", true)
  | 10 => ("CellDecide$Line", "quick", "[Z", true)
  | 11 => ("CellDecide$Line", "value", "[D", true)
  | 12 => ("CellDecide$Line", "error", "[D", true)
  | 13 => ("CellDecide$Line", "roots", "I", false)
  | 14 => ("CellDecide$Line", "root", "[LCellDecide$Root;", true)
  | 15 => ("CellDecide$Line", "order", "[I", true)
  | 16 => ("CellDecide$Line", "close", "[Z", true)
  | 17 => ("CellDecide$Line", "shared", "[I", true)
  | _ => ("CellDecide$Line", "pairs", "[I", true)
def t_C_Line : Nat → FieldType := fun k => match k with
  | 0 => .object "CellDecide$Curves"
  | 1 => .object "CellDecide$Spot"
  | 2 => .object "CellDecide$Statement"
  | 3 => .object "CellDecide$Polys"
  | 4 => .object "CellDecide$Numbers"
  | 5 => .int
  | 6 => .array .int
  | 7 => .array .int
  | 8 => .array .int
  | 9 => .array .boolean
  | 10 => .array .boolean
  | 11 => .array .double
  | 12 => .array .double
  | 13 => .int
  | 14 => .array (.object "CellDecide$Root")
  | 15 => .array .int
  | 16 => .array .boolean
  | 17 => .array .int
  | _ => .array .int
theorem n_C_Line : ∀ a, a < 19 → ∀ b, b < 19 → a ≠ b → (F_C_Line a).2.1 ≠ (F_C_Line b).2.1 := by decide +kernel
theorem t_C_Line_ok : ∀ k, k < 19 → parseFieldDescriptor (F_C_Line k).2.2.1 = some (t_C_Line k) := by decide +kernel
set_option maxRecDepth 100000 in
theorem i_C_Line : ∀ w ∈ u_ws R_C_Line F_C_Line 19, w ∈ zg_tbl := zt_sub [(3, 42), (3, 44), (3, 46), (3, 48), (3, 50), (3, 52), (3, 54), (3, 56), (3, 58), (3, 60), (3, 62), (3, 64), (3, 66), (3, 68), (3, 70), (3, 72), (3, 74), (3, 76), (3, 78)] rfl
theorem zn_C_Line : ∀ j, j < 19 → defaultValue (t_C_Line j) = vp_V [.null, .null, .null, .null, .null, .int 0, .null, .null, .null, .null, .null, .null, .null, .int 0, .null, .null, .null, .null, .null] j := by decide +kernel
def R_C_Root : String := "CellDecide$Root"
def F_C_Root : u_T := fun k => match k with
  | 0 => ("CellDecide$Root", "poly", "I", false)
  | 1 => ("CellDecide$Root", "degree", "I", false)
  | 2 => ("CellDecide$Root", "place", "I", false)
  | 3 => ("CellDecide$Root", "k", "I", false)
  | 4 => ("CellDecide$Root", "size", "I", false)
  | 5 => ("CellDecide$Root", "limb", "[I", false)
  | 6 => ("CellDecide$Root", "left", "I", false)
  | 7 => ("CellDecide$Root", "curve", "I", false)
  | 8 => ("CellDecide$Root", "rank", "I", false)
  | 9 => ("CellDecide$Root", "times", "I", false)
  | 10 => ("CellDecide$Root", "phase", "I", false)
  | 11 => ("CellDecide$Root", "reach", "I", false)
  | _ => ("CellDecide$Root", "inDoubt", "Z", false)
def t_C_Root : Nat → FieldType := fun k => match k with
  | 0 => .int
  | 1 => .int
  | 2 => .int
  | 3 => .int
  | 4 => .int
  | 5 => .array .int
  | 6 => .int
  | 7 => .int
  | 8 => .int
  | 9 => .int
  | 10 => .int
  | 11 => .int
  | _ => .boolean
theorem n_C_Root : ∀ a, a < 13 → ∀ b, b < 13 → a ≠ b → (F_C_Root a).2.1 ≠ (F_C_Root b).2.1 := by decide +kernel
theorem t_C_Root_ok : ∀ k, k < 13 → parseFieldDescriptor (F_C_Root k).2.2.1 = some (t_C_Root k) := by decide +kernel
set_option maxRecDepth 100000 in
theorem i_C_Root : ∀ w ∈ u_ws R_C_Root F_C_Root 13, w ∈ zg_tbl := zt_sub [(2, 233), (2, 235), (2, 237), (2, 239), (3, 1), (3, 3), (3, 5), (3, 7), (3, 9), (3, 11), (3, 13), (3, 15), (3, 17)] rfl
theorem zn_C_Root : ∀ j, j < 13 → defaultValue (t_C_Root j) = vp_V [.int 0, .int 0, .int 0, .int 0, .int 0, .null, .int 0, .int 0, .int 0, .int 0, .int 0, .int 0, .int 0] j := by decide +kernel
def R_C_Roots : String := "CellDecide$Roots"
def F_C_Roots : u_T := fun k => match k with
  | 0 => ("CellDecide$Roots", "polys", "LCellDecide$Polys;", true)
  | 1 => ("CellDecide$Roots", "numbers", "LCellDecide$Numbers;", true)
  | 2 => ("CellDecide$Roots", "splitter", "LCellDecide$Splitter;", true)
  | 3 => ("CellDecide$Roots", "shelf", "LCellDecide$Polys;", true)
  | 4 => ("CellDecide$Roots", "list", "Ljava/util/ArrayList;", true)
  | 5 => ("CellDecide$Roots", "count", "I", false)
  | 6 => ("CellDecide$Roots", "known", "[I", false)
  | 7 => ("CellDecide$Roots", "knownCount", "I", false)
  | _ => ("CellDecide$Roots", "betweenK", "I", false)
def t_C_Roots : Nat → FieldType := fun k => match k with
  | 0 => .object "CellDecide$Polys"
  | 1 => .object "CellDecide$Numbers"
  | 2 => .object "CellDecide$Splitter"
  | 3 => .object "CellDecide$Polys"
  | 4 => .object "java/util/ArrayList"
  | 5 => .int
  | 6 => .array .int
  | 7 => .int
  | _ => .int
theorem n_C_Roots : ∀ a, a < 9 → ∀ b, b < 9 → a ≠ b → (F_C_Roots a).2.1 ≠ (F_C_Roots b).2.1 := by decide +kernel
theorem t_C_Roots_ok : ∀ k, k < 9 → parseFieldDescriptor (F_C_Roots k).2.2.1 = some (t_C_Roots k) := by decide +kernel
set_option maxRecDepth 100000 in
theorem i_C_Roots : ∀ w ∈ u_ws R_C_Roots F_C_Roots 9, w ∈ zg_tbl := zt_sub [(3, 130), (3, 132), (3, 134), (3, 136), (3, 138), (3, 140), (3, 142), (3, 144), (3, 146)] rfl
theorem zn_C_Roots : ∀ j, j < 9 → defaultValue (t_C_Roots j) = vp_V [.null, .null, .null, .null, .null, .int 0, .null, .int 0, .int 0] j := by decide +kernel
def R_ArrayList : String := "java/util/ArrayList"
def F_ArrayList : u_T := fun k => match k with
  | 0 => ("java/util/ArrayList", "elementData", "[Ljava/lang/Object;", false)
  | 1 => ("java/util/ArrayList", "size", "I", false)
  | _ => ("java/util/AbstractList", "modCount", "I", false)
def t_ArrayList : Nat → FieldType := fun k => match k with
  | 0 => .array (.object "java/lang/Object")
  | 1 => .int
  | _ => .int
theorem n_ArrayList : ∀ a, a < 3 → ∀ b, b < 3 → a ≠ b → (F_ArrayList a).2.1 ≠ (F_ArrayList b).2.1 := by decide +kernel
theorem t_ArrayList_ok : ∀ k, k < 3 → parseFieldDescriptor (F_ArrayList k).2.2.1 = some (t_ArrayList k) := by decide +kernel
set_option maxRecDepth 100000 in
theorem i_ArrayList : ∀ w ∈ u_ws R_ArrayList F_ArrayList 3, w ∈ zg_tbl := zt_sub [(3, 110), (3, 112), (3, 114)] rfl
theorem zn_ArrayList : ∀ j, j < 3 → defaultValue (t_ArrayList j) = vp_V [.null, .int 0, .int 0] j := by decide +kernel
def R_Mod : String := "CellDecideModel"
def F_Mod : u_T := fun k => match k with
  | 0 => ("CellDecideModel", "thrown", "I", false)
  | 1 => ("CellDecideModel", "heap", "[I", true)
  | 2 => ("CellDecideModel", "top", "I", false)
  | 3 => ("CellDecideModel", "quotient", "I", false)
  | 4 => ("CellDecideModel", "left", "I", false)
  | 5 => ("CellDecideModel", "kept", "[I", true)
  | 6 => ("CellDecideModel", "row", "[I", true)
  | 7 => ("CellDecideModel", "chain", "[I", true)
  | 8 => ("CellDecideModel", "chainSize", "I", false)
  | 9 => ("CellDecideModel", "exponent", "I", false)
  | 10 => ("CellDecideModel", "prime", "I", false)
  | 11 => ("CellDecideModel", "small", "[I", true)
  | 12 => ("CellDecideModel", "smalls", "I", false)
  | 13 => ("CellDecideModel", "toPart", "[I", true)
  | 14 => ("CellDecideModel", "toParts", "I", false)
  | 15 => ("CellDecideModel", "turns", "[I", true)
  | 16 => ("CellDecideModel", "upper", "I", false)
  | 17 => ("CellDecideModel", "lower", "I", false)
  | 18 => ("CellDecideModel", "parts1", "[I", true)
  | 19 => ("CellDecideModel", "partCount", "I", false)
  | 20 => ("CellDecideModel", "wantsAll", "Z", false)
  | 21 => ("CellDecideModel", "store", "[I", true)
  | 22 => ("CellDecideModel", "storeDegree", "[I", true)
  | 23 => ("CellDecideModel", "rank", "[I", true)
  | 24 => ("CellDecideModel", "both", "[I", true)
  | 25 => ("CellDecideModel", "parts2", "[I", true)
  | 26 => ("CellDecideModel", "table", "[I", true)
  | 27 => ("CellDecideModel", "modulus", "I", false)
  | 28 => ("CellDecideModel", "lead", "I", false)
  | 29 => ("CellDecideModel", "place", "I", false)
  | 30 => ("CellDecideModel", "nears", "[I", true)
  | 31 => ("CellDecideModel", "hasNear", "[Z", true)
  | 32 => ("CellDecideModel", "low", "I", false)
  | 33 => ("CellDecideModel", "high", "I", false)
  | 34 => ("CellDecideModel", "curve", "[I", true)
  | 35 => ("CellDecideModel", "once", "[I", true)
  | 36 => ("CellDecideModel", "steps", "[I", true)
  | 37 => ("CellDecideModel", "stepCount", "[I", true)
  | 38 => ("CellDecideModel", "rootsOf", "[I", true)
  | 39 => ("CellDecideModel", "nodeKind", "[I", true)
  | 40 => ("CellDecideModel", "nodeA", "[I", true)
  | 41 => ("CellDecideModel", "nodeB", "[I", true)
  | 42 => ("CellDecideModel", "nodeFirst", "[I", true)
  | 43 => ("CellDecideModel", "nodeWithin", "[I", true)
  | 44 => ("CellDecideModel", "nodeIs", "[Z", true)
  | 45 => ("CellDecideModel", "nodes", "I", false)
  | 46 => ("CellDecideModel", "root", "I", false)
  | 47 => ("CellDecideModel", "comparesBy", "[I", true)
  | 48 => ("CellDecideModel", "coefficient", "[J", true)
  | 49 => ("CellDecideModel", "comparisons", "I", false)
  | 50 => ("CellDecideModel", "isStatement", "Z", false)
  | 51 => ("CellDecideModel", "freeOnes", "I", false)
  | 52 => ("CellDecideModel", "bases", "[I", true)
  | 53 => ("CellDecideModel", "baseCount", "I", false)
  | 54 => ("CellDecideModel", "roots", "[I", true)
  | 55 => ("CellDecideModel", "rootCount", "I", false)
  | 56 => ("CellDecideModel", "toPut", "[I", true)
  | 57 => ("CellDecideModel", "toPuts", "I", false)
  | 58 => ("CellDecideModel", "lineVariable", "I", false)
  | 59 => ("CellDecideModel", "curveOf", "[I", true)
  | 60 => ("CellDecideModel", "curveSign", "[I", true)
  | 61 => ("CellDecideModel", "crossCurve", "[I", true)
  | 62 => ("CellDecideModel", "crossRoot", "[I", true)
  | 63 => ("CellDecideModel", "crossBits", "[I", true)
  | 64 => ("CellDecideModel", "crosses", "I", false)
  | 65 => ("CellDecideModel", "cells", "[Z", true)
  | 66 => ("CellDecideModel", "tape", "[B", true)
  | 67 => ("CellDecideModel", "taped", "I", false)
  | 68 => ("CellDecideModel", "text", "[B", true)
  | 69 => ("CellDecideModel", "textSize", "I", false)
  | 70 => ("CellDecideModel", "tokenAt", "I", false)
  | 71 => ("CellDecideModel", "tokenSize", "I", false)
  | 72 => ("CellDecideModel", "token", "I", false)
  | 73 => ("CellDecideModel", "tokenValue", "I", false)
  | 74 => ("CellDecideModel", "taken", "I", false)
  | 75 => ("CellDecideModel", "faulty", "Z", false)
  | 76 => ("CellDecideModel", "faultKind", "I", false)
  | 77 => ("CellDecideModel", "faultPlace", "I", false)
  | 78 => ("CellDecideModel", "toldFault", "I", false)
  | 79 => ("CellDecideModel", "open", "I", false)
  | 80 => ("CellDecideModel", "sums", "[J", true)
  | 81 => ("CellDecideModel", "products", "[J", true)
  | 82 => ("CellDecideModel", "hasProduct", "[Z", true)
  | 83 => ("CellDecideModel", "signs", "[I", true)
  | 84 => ("CellDecideModel", "hand", "[J", true)
  | 85 => ("CellDecideModel", "help", "[J", true)
  | 86 => ("CellDecideModel", "great", "Z", false)
  | 87 => ("CellDecideModel", "isBound", "[Z", true)
  | 88 => ("CellDecideModel", "isFree", "[Z", true)
  | 89 => ("CellDecideModel", "power", "[J", true)
  | 90 => ("CellDecideModel", "openJoin", "[I", true)
  | 91 => ("CellDecideModel", "openLeft", "[I", true)
  | 92 => ("CellDecideModel", "openOr", "[I", true)
  | 93 => ("CellDecideModel", "openAnd", "[I", true)
  | 94 => ("CellDecideModel", "openNots", "[I", true)
  | 95 => ("CellDecideModel", "openAhead", "[I", true)
  | 96 => ("CellDecideModel", "depth", "I", false)
  | 97 => ("CellDecideModel", "aheadKind", "[I", true)
  | 98 => ("CellDecideModel", "aheadVariable", "[I", true)
  | 99 => ("CellDecideModel", "aheads", "I", false)
  | 100 => ("CellDecideModel", "boundAt", "[I", true)
  | 101 => ("CellDecideModel", "greatAt", "I", false)
  | 102 => ("CellDecideModel", "ends", "Z", false)
  | 103 => ("CellDecideModel", "ended", "I", false)
  | 104 => ("CellDecideModel", "help2", "[J", true)
  | 105 => ("CellDecideModel", "isFound", "[Z", true)
  | 106 => ("CellDecideModel", "intervals", "I", false)
  | 107 => ("CellDecideModel", "endHow", "[I", true)
  | 108 => ("CellDecideModel", "endSlot", "[I", true)
  | 109 => ("CellDecideModel", "endSlots", "I", false)
  | 110 => ("CellDecideModel", "points", "I", false)
  | 111 => ("CellDecideModel", "meetCoefficient", "[J", true)
  | 112 => ("CellDecideModel", "candidates", "I", false)
  | 113 => ("CellDecideModel", "written", "[B", true)
  | 114 => ("CellDecideModel", "writtenSize", "I", false)
  | 115 => ("CellDecideModel", "figures", "[B", true)
  | _ => ("CellDecideModel", "figureCount", "I", false)
def t_Mod : Nat → FieldType := fun k => match k with
  | 0 => .int
  | 1 => .array .int
  | 2 => .int
  | 3 => .int
  | 4 => .int
  | 5 => .array .int
  | 6 => .array .int
  | 7 => .array .int
  | 8 => .int
  | 9 => .int
  | 10 => .int
  | 11 => .array .int
  | 12 => .int
  | 13 => .array .int
  | 14 => .int
  | 15 => .array .int
  | 16 => .int
  | 17 => .int
  | 18 => .array .int
  | 19 => .int
  | 20 => .boolean
  | 21 => .array .int
  | 22 => .array .int
  | 23 => .array .int
  | 24 => .array .int
  | 25 => .array .int
  | 26 => .array .int
  | 27 => .int
  | 28 => .int
  | 29 => .int
  | 30 => .array .int
  | 31 => .array .boolean
  | 32 => .int
  | 33 => .int
  | 34 => .array .int
  | 35 => .array .int
  | 36 => .array .int
  | 37 => .array .int
  | 38 => .array .int
  | 39 => .array .int
  | 40 => .array .int
  | 41 => .array .int
  | 42 => .array .int
  | 43 => .array .int
  | 44 => .array .boolean
  | 45 => .int
  | 46 => .int
  | 47 => .array .int
  | 48 => .array .long
  | 49 => .int
  | 50 => .boolean
  | 51 => .int
  | 52 => .array .int
  | 53 => .int
  | 54 => .array .int
  | 55 => .int
  | 56 => .array .int
  | 57 => .int
  | 58 => .int
  | 59 => .array .int
  | 60 => .array .int
  | 61 => .array .int
  | 62 => .array .int
  | 63 => .array .int
  | 64 => .int
  | 65 => .array .boolean
  | 66 => .array .byte
  | 67 => .int
  | 68 => .array .byte
  | 69 => .int
  | 70 => .int
  | 71 => .int
  | 72 => .int
  | 73 => .int
  | 74 => .int
  | 75 => .boolean
  | 76 => .int
  | 77 => .int
  | 78 => .int
  | 79 => .int
  | 80 => .array .long
  | 81 => .array .long
  | 82 => .array .boolean
  | 83 => .array .int
  | 84 => .array .long
  | 85 => .array .long
  | 86 => .boolean
  | 87 => .array .boolean
  | 88 => .array .boolean
  | 89 => .array .long
  | 90 => .array .int
  | 91 => .array .int
  | 92 => .array .int
  | 93 => .array .int
  | 94 => .array .int
  | 95 => .array .int
  | 96 => .int
  | 97 => .array .int
  | 98 => .array .int
  | 99 => .int
  | 100 => .array .int
  | 101 => .int
  | 102 => .boolean
  | 103 => .int
  | 104 => .array .long
  | 105 => .array .boolean
  | 106 => .int
  | 107 => .array .int
  | 108 => .array .int
  | 109 => .int
  | 110 => .int
  | 111 => .array .long
  | 112 => .int
  | 113 => .array .byte
  | 114 => .int
  | 115 => .array .byte
  | _ => .int
theorem n_Mod : ∀ a, a < 117 → ∀ b, b < 117 → a ≠ b → (F_Mod a).2.1 ≠ (F_Mod b).2.1 := by decide +kernel
theorem t_Mod_ok : ∀ k, k < 117 → parseFieldDescriptor (F_Mod k).2.2.1 = some (t_Mod k) := by decide +kernel
set_option maxRecDepth 100000 in
theorem i_Mod : ∀ w ∈ u_ws R_Mod F_Mod 117, w ∈ zg_tbl := zt_sub [(9, 235), (9, 237), (9, 239), (10, 1), (10, 3), (10, 5), (10, 7), (10, 9), (10, 11), (10, 13), (10, 15), (10, 17), (10, 19), (10, 21), (10, 23), (10, 25), (10, 27), (10, 29), (10, 31), (10, 33), (10, 35), (10, 37), (10, 39), (10, 41), (10, 43), (10, 45), (10, 47), (10, 49), (10, 51), (10, 53), (10, 55), (10, 57), (10, 59), (10, 61), (10, 63), (10, 65), (10, 67), (10, 69), (10, 71), (10, 73), (10, 75), (10, 77), (10, 79), (10, 81), (10, 83), (10, 85), (10, 87), (10, 89), (10, 91), (10, 93), (10, 95), (10, 97), (10, 99), (10, 101), (10, 103), (10, 105), (10, 107), (10, 109), (10, 111), (10, 113), (10, 115), (10, 117), (10, 119), (10, 121), (10, 123), (10, 125), (10, 127), (10, 129), (10, 131), (10, 133), (10, 135), (10, 137), (10, 139), (10, 141), (10, 143), (10, 145), (10, 147), (10, 149), (10, 151), (10, 153), (10, 155), (10, 157), (10, 159), (10, 161), (10, 163), (10, 165), (10, 167), (10, 169), (10, 171), (10, 173), (10, 175), (10, 177), (10, 179), (10, 181), (10, 183), (10, 185), (10, 187), (10, 189), (10, 191), (10, 193), (10, 195), (10, 197), (10, 199), (10, 201), (10, 203), (10, 205), (10, 207), (10, 209), (10, 211), (10, 213), (10, 215), (10, 217), (10, 219), (10, 221), (10, 223), (10, 225), (10, 227)] rfl
theorem zn_Mod : ∀ j, j < 117 → defaultValue (t_Mod j) = vp_V [.int 0, .null, .int 0, .int 0, .int 0, .null, .null, .null, .int 0, .int 0, .int 0, .null, .int 0, .null, .int 0, .null, .int 0, .int 0, .null, .int 0, .int 0, .null, .null, .null, .null, .null, .null, .int 0, .int 0, .int 0, .null, .null, .int 0, .int 0, .null, .null, .null, .null, .null, .null, .null, .null, .null, .null, .null, .int 0, .int 0, .null, .null, .int 0, .int 0, .int 0, .null, .int 0, .null, .int 0, .null, .int 0, .int 0, .null, .null, .null, .null, .null, .int 0, .null, .null, .int 0, .null, .int 0, .int 0, .int 0, .int 0, .int 0, .int 0, .int 0, .int 0, .int 0, .int 0, .int 0, .null, .null, .null, .null, .null, .null, .int 0, .null, .null, .null, .null, .null, .null, .null, .null, .null, .int 0, .null, .null, .int 0, .null, .int 0, .int 0, .int 0, .null, .null, .int 0, .null, .null, .int 0, .int 0, .null, .int 0, .null, .int 0, .null, .int 0] j := by decide +kernel
abbrev classes : List vw_C := [(R_CD, F_CD, 18), (R_C_Statement, F_C_Statement, 19), (R_C_Reader, F_C_Reader, 19), (R_C_Polys, F_C_Polys, 1), (R_C_Numbers, F_C_Numbers, 4), (R_StringBuilder, F_StringBuilder, 4), (R_C_Splitter, F_C_Splitter, 20), (R_C_Curves, F_C_Curves, 8), (R_C_Spot, F_C_Spot, 11), (R_C_Line, F_C_Line, 19), (R_C_Root, F_C_Root, 13), (R_C_Roots, F_C_Roots, 9), (R_ArrayList, F_ArrayList, 3), (R_Mod, F_Mod, 117)]
