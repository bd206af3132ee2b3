section
/-! ===== BEGIN words of one list among another's, by their places ===== -/
theorem goodIn_r {big : List Cond} (ws : List Cond) (ps : List Nat) (hp : ws = ps.filterMap (fun i => big[i]?)) (h : ws.all goodWord = true) : GoodIn big ws := by
  intro w hw
  have h1 := List.all_eq_true.mp h w hw
  rw [hp] at hw
  obtain ⟨i, -, hi⟩ := List.mem_filterMap.mp hw
  have hm : w ∈ big := by first | exact List.mem_of_getElem? hi | exact List.getElem?_mem hi
  exact ⟨hm, good_of_word h1⟩
theorem goodIn_app {big a b : List Cond} (ha : GoodIn big a) (hb : GoodIn big b) : GoodIn big (a ++ b) := fun w h => (List.mem_append.mp h).elim (ha w) (hb w)
theorem goodIn_ca {big a b : List Cond} {c : Cond} (ha : GoodIn big (c :: a)) (hb : GoodIn big b) : GoodIn big (c :: (a ++ b)) := fun w h => (List.mem_cons.mp h).elim (fun e => ha w (List.mem_cons.mpr (Or.inl e))) (fun h => (List.mem_append.mp h).elim (fun h => ha w (List.mem_cons.mpr (Or.inr h))) (hb w))
theorem goodIn_sub {big ws : List Cond} (hm : ∀ w ∈ ws, w ∈ big) (h : ws.all goodWord = true) : GoodIn big ws := fun w hw => ⟨hm w hw, good_of_word (List.all_eq_true.mp h w hw)⟩
/-! ===== END ===== -/

/-! ===== BEGIN printed: names, fields, word lists, decode rows ===== -/
def RX0 : String := "PushedTables$History"
def TX0 : u_T := fun k => match k with
  | 0 => ("PushedTables$History", "size", "I", false)
  | _ => ("PushedTables$History", "states", "[LPushedTables$State;", true)
def tyX0 : Nat → FieldType := fun k => match k with
  | 0 => .int
  | _ => .array (.object "PushedTables$State")
abbrev wsX00 : List Cond := u_ws RX0 TX0 2
theorem nmX0 : ∀ a, a < 2 → ∀ b, b < 2 → a ≠ b → (TX0 a).2.1 ≠ (TX0 b).2.1 := by decide +kernel
theorem tyX0_ok : ∀ k, k < 2 → parseFieldDescriptor (TX0 k).2.2.1 = some (tyX0 k) := by decide +kernel
abbrev cX0_init : ByteArray := prog_2_method_1_code
def yX0_init : MethodName := ⟨RX0, "<init>", "()V"⟩
abbrev cX0_remember : ByteArray := prog_2_method_2_code
def yX0_remember : MethodName := ⟨RX0, "remember", "(LPushedTables$State;)V"⟩
abbrev cX0_dropOldest : ByteArray := prog_2_method_3_code
def yX0_dropOldest : MethodName := ⟨RX0, "dropOldest", "()V"⟩
abbrev cX0_takeLatest : ByteArray := prog_2_method_4_code
def yX0_takeLatest : MethodName := ⟨RX0, "takeLatest", "()LPushedTables$State;"⟩
def RX1 : String := "PushedTables$State"
def TX1 : u_T := fun k => match k with
  | 0 => ("PushedTables$State", "rowCount", "I", false)
  | 1 => ("PushedTables$State", "defaults", "[I", true)
  | 2 => ("PushedTables$State", "values", "[I", true)
  | 3 => ("PushedTables$State", "forms", "[I", true)
  | _ => ("PushedTables$State", "shifts", "[I", true)
def tyX1 : Nat → FieldType := fun k => match k with
  | 0 => .int
  | 1 => .array .int
  | 2 => .array .int
  | 3 => .array .int
  | _ => .array .int
abbrev wsX10 : List Cond := u_ws RX1 TX1 5
theorem nmX1 : ∀ a, a < 5 → ∀ b, b < 5 → a ≠ b → (TX1 a).2.1 ≠ (TX1 b).2.1 := by decide +kernel
theorem tyX1_ok : ∀ k, k < 5 → parseFieldDescriptor (TX1 k).2.2.1 = some (tyX1 k) := by decide +kernel
abbrev cX1_init : ByteArray := prog_3_method_1_code
def yX1_init : MethodName := ⟨RX1, "<init>", "()V"⟩
abbrev cX1_copyFrom : ByteArray := prog_3_method_2_code
def yX1_copyFrom : MethodName := ⟨RX1, "copyFrom", "(LPushedTables$State;)V"⟩
abbrev cX1_forgetForms : ByteArray := prog_3_method_3_code
def yX1_forgetForms : MethodName := ⟨RX1, "forgetForms", "()V"⟩
abbrev cX1_addRow : ByteArray := prog_3_method_4_code
def yX1_addRow : MethodName := ⟨RX1, "addRow", "(I)I"⟩
abbrev cX1_valueAt : ByteArray := prog_3_method_5_code
def yX1_valueAt : MethodName := ⟨RX1, "valueAt", "(II)I"⟩
abbrev cX1_changeValue : ByteArray := prog_3_method_6_code
def yX1_changeValue : MethodName := ⟨RX1, "changeValue", "(III)V"⟩
abbrev cX1_changeDefault : ByteArray := prog_3_method_7_code
def yX1_changeDefault : MethodName := ⟨RX1, "changeDefault", "(II)V"⟩
abbrev cX1_isEntry : ByteArray := prog_3_method_8_code
def yX1_isEntry : MethodName := ⟨RX1, "isEntry", "(II)Z"⟩
abbrev cX1_columnsOf : ByteArray := prog_3_method_9_code
def yX1_columnsOf : MethodName := ⟨RX1, "columnsOf", "(I)I"⟩
abbrev cX1_weightOf : ByteArray := prog_3_method_10_code
def yX1_weightOf : MethodName := ⟨RX1, "weightOf", "(I)I"⟩
abbrev cX1_weightSum : ByteArray := prog_3_method_11_code
def yX1_weightSum : MethodName := ⟨RX1, "weightSum", "()I"⟩
abbrev cX1_commonestValue : ByteArray := prog_3_method_12_code
def yX1_commonestValue : MethodName := ⟨RX1, "commonestValue", "(I)I"⟩
abbrev cX1_slimmerBy : ByteArray := prog_3_method_13_code
def yX1_slimmerBy : MethodName := ⟨RX1, "slimmerBy", "(I)I"⟩
abbrev cX1_cellsWith : ByteArray := prog_3_method_14_code
def yX1_cellsWith : MethodName := ⟨RX1, "cellsWith", "(II)I"⟩
abbrev cX1_mostLike : ByteArray := prog_3_method_15_code
def yX1_mostLike : MethodName := ⟨RX1, "mostLike", "(I)I"⟩
abbrev cX1_equalCells : ByteArray := prog_3_method_16_code
def yX1_equalCells : MethodName := ⟨RX1, "equalCells", "(II)I"⟩
abbrev cX1_shiftOf : ByteArray := prog_3_method_17_code
def yX1_shiftOf : MethodName := ⟨RX1, "shiftOf", "(I)I"⟩
abbrev cX1_formCount : ByteArray := prog_3_method_18_code
def yX1_formCount : MethodName := ⟨RX1, "formCount", "()I"⟩
abbrev cX1_sharersOf : ByteArray := prog_3_method_19_code
def yX1_sharersOf : MethodName := ⟨RX1, "sharersOf", "(I)I"⟩
abbrev cX1_freeForm : ByteArray := prog_3_method_20_code
def yX1_freeForm : MethodName := ⟨RX1, "freeForm", "()I"⟩
def RX2 : String := "PushedTables$Store"
def TX2 : u_T := fun k => match k with
  | 0 => ("PushedTables$Store", "values", "[I", true)
  | _ => ("PushedTables$Store", "marks", "[I", true)
def tyX2 : Nat → FieldType := fun k => match k with
  | 0 => .array .int
  | _ => .array .int
abbrev wsX20 : List Cond := u_ws RX2 TX2 2
theorem nmX2 : ∀ a, a < 2 → ∀ b, b < 2 → a ≠ b → (TX2 a).2.1 ≠ (TX2 b).2.1 := by decide +kernel
theorem tyX2_ok : ∀ k, k < 2 → parseFieldDescriptor (TX2 k).2.2.1 = some (tyX2 k) := by decide +kernel
abbrev cX2_init : ByteArray := prog_4_method_1_code
def yX2_init : MethodName := ⟨RX2, "<init>", "()V"⟩
abbrev cX2_emptyAll : ByteArray := prog_4_method_2_code
def yX2_emptyAll : MethodName := ⟨RX2, "emptyAll", "()V"⟩
abbrev cX2_fillCell : ByteArray := prog_4_method_3_code
def yX2_fillCell : MethodName := ⟨RX2, "fillCell", "(III)V"⟩
abbrev cX2_isEmptyAt : ByteArray := prog_4_method_4_code
def yX2_isEmptyAt : MethodName := ⟨RX2, "isEmptyAt", "(I)Z"⟩
abbrev cX2_takeOut : ByteArray := prog_4_method_5_code
def yX2_takeOut : MethodName := ⟨RX2, "takeOut", "(II)V"⟩
abbrev cX2_filledOf : ByteArray := prog_4_method_6_code
def yX2_filledOf : MethodName := ⟨RX2, "filledOf", "(II)I"⟩
abbrev cX2_firstFit : ByteArray := prog_4_method_7_code
def yX2_firstFit : MethodName := ⟨RX2, "firstFit", "(I)I"⟩
abbrev cX2_fitsAt : ByteArray := prog_4_method_8_code
def yX2_fitsAt : MethodName := ⟨RX2, "fitsAt", "(II)Z"⟩
abbrev cX2_endOfCells : ByteArray := prog_4_method_9_code
def yX2_endOfCells : MethodName := ⟨RX2, "endOfCells", "()I"⟩
abbrev cX2_filledCells : ByteArray := prog_4_method_10_code
def yX2_filledCells : MethodName := ⟨RX2, "filledCells", "()I"⟩
def RX3 : String := "PushedTables$Table"
def TX3 : u_T := fun k => match k with
  | 0 => ("PushedTables$Table", "state", "LPushedTables$State;", true)
  | _ => ("PushedTables$Table", "store", "LPushedTables$Store;", true)
def tyX3 : Nat → FieldType := fun k => match k with
  | 0 => .object "PushedTables$State"
  | _ => .object "PushedTables$Store"
abbrev wsX30 : List Cond := u_ws RX3 TX3 2
theorem nmX3 : ∀ a, a < 2 → ∀ b, b < 2 → a ≠ b → (TX3 a).2.1 ≠ (TX3 b).2.1 := by decide +kernel
theorem tyX3_ok : ∀ k, k < 2 → parseFieldDescriptor (TX3 k).2.2.1 = some (tyX3 k) := by decide +kernel
abbrev cX3_init : ByteArray := prog_5_method_1_code
def yX3_init : MethodName := ⟨RX3, "<init>", "()V"⟩
abbrev cX3_restore : ByteArray := prog_5_method_2_code
def yX3_restore : MethodName := ⟨RX3, "restore", "(LPushedTables$State;)V"⟩
abbrev cX3_fillCellsOf : ByteArray := prog_5_method_3_code
def yX3_fillCellsOf : MethodName := ⟨RX3, "fillCellsOf", "(I)V"⟩
abbrev cX3_settle : ByteArray := prog_5_method_4_code
def yX3_settle : MethodName := ⟨RX3, "settle", "(I)V"⟩
abbrev cX3_leaveForm : ByteArray := prog_5_method_5_code
def yX3_leaveForm : MethodName := ⟨RX3, "leaveForm", "(I)V"⟩
abbrev cX3_formWithEntriesOf : ByteArray := prog_5_method_6_code
def yX3_formWithEntriesOf : MethodName := ⟨RX3, "formWithEntriesOf", "(I)I"⟩
abbrev cX3_hasEntriesOf : ByteArray := prog_5_method_7_code
def yX3_hasEntriesOf : MethodName := ⟨RX3, "hasEntriesOf", "(II)Z"⟩
abbrev cX3_pushNewForm : ByteArray := prog_5_method_8_code
def yX3_pushNewForm : MethodName := ⟨RX3, "pushNewForm", "(II)V"⟩
abbrev cX3_pushAnewByWeights : ByteArray := prog_5_method_9_code
def yX3_pushAnewByWeights : MethodName := ⟨RX3, "pushAnewByWeights", "()V"⟩
abbrev cX3_pushAnewByNumbers : ByteArray := prog_5_method_10_code
def yX3_pushAnewByNumbers : MethodName := ⟨RX3, "pushAnewByNumbers", "()V"⟩
abbrev cX3_takeOutAll : ByteArray := prog_5_method_11_code
def yX3_takeOutAll : MethodName := ⟨RX3, "takeOutAll", "()V"⟩
abbrev cX3_lookUp : ByteArray := prog_5_method_12_code
def yX3_lookUp : MethodName := ⟨RX3, "lookUp", "(II)I"⟩
abbrev cX3_refusals : ByteArray := prog_5_method_13_code
def yX3_refusals : MethodName := ⟨RX3, "refusals", "()I"⟩
abbrev cX3_refusalsOf : ByteArray := prog_5_method_14_code
def yX3_refusalsOf : MethodName := ⟨RX3, "refusalsOf", "(I)I"⟩
def RX4 : String := "PushedTables$Text"
def TX4 : u_T := fun k => match k with
  | 0 => ("PushedTables$Text", "length", "I", false)
  | 1 => ("PushedTables$Text", "signs", "[C", true)
  | 2 => ("PushedTables$Text", "place", "I", false)
  | 3 => ("PushedTables$Text", "number", "I", false)
  | 4 => ("PushedTables$Text", "numberPlace", "I", false)
  | 5 => ("PushedTables$Text", "rowsRead", "I", false)
  | 6 => ("PushedTables$Text", "defaults", "[I", true)
  | _ => ("PushedTables$Text", "values", "[I", true)
def tyX4 : Nat → FieldType := fun k => match k with
  | 0 => .int
  | 1 => .array .char
  | 2 => .int
  | 3 => .int
  | 4 => .int
  | 5 => .int
  | 6 => .array .int
  | _ => .array .int
abbrev wsX40 : List Cond := u_ws RX4 TX4 8
theorem nmX4 : ∀ a, a < 8 → ∀ b, b < 8 → a ≠ b → (TX4 a).2.1 ≠ (TX4 b).2.1 := by decide +kernel
theorem tyX4_ok : ∀ k, k < 8 → parseFieldDescriptor (TX4 k).2.2.1 = some (tyX4 k) := by decide +kernel
abbrev cX4_init : ByteArray := prog_6_method_1_code
def yX4_init : MethodName := ⟨RX4, "<init>", "()V"⟩
abbrev cX4_appendSign : ByteArray := prog_6_method_2_code
def yX4_appendSign : MethodName := ⟨RX4, "appendSign", "(C)V"⟩
abbrev cX4_valueRead : ByteArray := prog_6_method_3_code
def yX4_valueRead : MethodName := ⟨RX4, "valueRead", "(II)I"⟩
abbrev cX4_readTable : ByteArray := prog_6_method_4_code
def yX4_readTable : MethodName := ⟨RX4, "readTable", "(I)Z"⟩
abbrev cX4_readRow : ByteArray := prog_6_method_5_code
def yX4_readRow : MethodName := ⟨RX4, "readRow", "(I)Z"⟩
abbrev cX4_readEntries : ByteArray := prog_6_method_6_code
def yX4_readEntries : MethodName := ⟨RX4, "readEntries", "(I)Z"⟩
abbrev cX4_allowNumber : ByteArray := prog_6_method_7_code
def yX4_allowNumber : MethodName := ⟨RX4, "allowNumber", "(Z)Z"⟩
abbrev cX4_readNumber : ByteArray := prog_6_method_8_code
def yX4_readNumber : MethodName := ⟨RX4, "readNumber", "()Z"⟩
abbrev cX4_takeDigit : ByteArray := prog_6_method_9_code
def yX4_takeDigit : MethodName := ⟨RX4, "takeDigit", "()I"⟩
abbrev cX4_takeSign : ByteArray := prog_6_method_10_code
def yX4_takeSign : MethodName := ⟨RX4, "takeSign", "(C)Z"⟩
abbrev cX4_skipSpaces : ByteArray := prog_6_method_11_code
def yX4_skipSpaces : MethodName := ⟨RX4, "skipSpaces", "()V"⟩
abbrev cX4_isDigitHere : ByteArray := prog_6_method_12_code
def yX4_isDigitHere : MethodName := ⟨RX4, "isDigitHere", "()Z"⟩
abbrev cX4_signHere : ByteArray := prog_6_method_13_code
def yX4_signHere : MethodName := ⟨RX4, "signHere", "()C"⟩
def RX5 : String := "PushedTables"
def TX5 : u_T := fun k => match k with
  | 0 => ("PushedTables", "table", "LPushedTables$Table;", true)
  | 1 => ("PushedTables", "forecast", "LPushedTables$Table;", true)
  | 2 => ("PushedTables", "history", "LPushedTables$History;", true)
  | _ => ("PushedTables", "text", "LPushedTables$Text;", true)
def tyX5 : Nat → FieldType := fun k => match k with
  | 0 => .object "PushedTables$Table"
  | 1 => .object "PushedTables$Table"
  | 2 => .object "PushedTables$History"
  | _ => .object "PushedTables$Text"
abbrev wsX50 : List Cond := u_ws RX5 TX5 4
theorem nmX5 : ∀ a, a < 4 → ∀ b, b < 4 → a ≠ b → (TX5 a).2.1 ≠ (TX5 b).2.1 := by decide +kernel
theorem tyX5_ok : ∀ k, k < 4 → parseFieldDescriptor (TX5 k).2.2.1 = some (tyX5 k) := by decide +kernel
abbrev cX5_init : ByteArray := prog_1_method_1_code
def yX5_init : MethodName := ⟨RX5, "<init>", "()V"⟩
abbrev cX5_add : ByteArray := prog_1_method_2_code
def yX5_add : MethodName := ⟨RX5, "add", "(I)I"⟩
abbrev cX5_set : ByteArray := prog_1_method_3_code
def yX5_set : MethodName := ⟨RX5, "set", "(III)I"⟩
abbrev cX5_setDefault : ByteArray := prog_1_method_4_code
def yX5_setDefault : MethodName := ⟨RX5, "setDefault", "(II)I"⟩
abbrev cX5_removeLast : ByteArray := prog_1_method_5_code
def yX5_removeLast : MethodName := ⟨RX5, "removeLast", "()I"⟩
abbrev cX5_slim : ByteArray := prog_1_method_6_code
def yX5_slim : MethodName := ⟨RX5, "slim", "(I)I"⟩
abbrev cX5_push : ByteArray := prog_1_method_7_code
def yX5_push : MethodName := ⟨RX5, "push", "()I"⟩
abbrev cX5_undo : ByteArray := prog_1_method_8_code
def yX5_undo : MethodName := ⟨RX5, "undo", "()I"⟩
abbrev cX5_append : ByteArray := prog_1_method_9_code
def yX5_append : MethodName := ⟨RX5, "append", "(I)I"⟩
abbrev cX5_clearText : ByteArray := prog_1_method_10_code
def yX5_clearText : MethodName := ⟨RX5, "clearText", "()I"⟩
abbrev cX5_read : ByteArray := prog_1_method_11_code
def yX5_read : MethodName := ⟨RX5, "read", "()I"⟩
abbrev cX5_get : ByteArray := prog_1_method_12_code
def yX5_get : MethodName := ⟨RX5, "get", "(II)I"⟩
abbrev cX5_count : ByteArray := prog_1_method_13_code
def yX5_count : MethodName := ⟨RX5, "count", "(I)I"⟩
abbrev cX5_row : ByteArray := prog_1_method_14_code
def yX5_row : MethodName := ⟨RX5, "row", "(II)I"⟩
abbrev cX5_form : ByteArray := prog_1_method_15_code
def yX5_form : MethodName := ⟨RX5, "form", "(II)I"⟩
abbrev cX5_cell : ByteArray := prog_1_method_16_code
def yX5_cell : MethodName := ⟨RX5, "cell", "(II)I"⟩
abbrev cX5_fit : ByteArray := prog_1_method_17_code
def yX5_fit : MethodName := ⟨RX5, "fit", "(I)I"⟩
abbrev cX5_endBy : ByteArray := prog_1_method_18_code
def yX5_endBy : MethodName := ⟨RX5, "endBy", "(I)I"⟩
abbrev cX5_slimmer : ByteArray := prog_1_method_19_code
def yX5_slimmer : MethodName := ⟨RX5, "slimmer", "()I"⟩
abbrev cX5_like : ByteArray := prog_1_method_20_code
def yX5_like : MethodName := ⟨RX5, "like", "(I)I"⟩
abbrev cX5_addRowOfText : ByteArray := prog_1_method_21_code
def yX5_addRowOfText : MethodName := ⟨RX5, "addRowOfText", "(I)V"⟩
abbrev cX5_isRow : ByteArray := prog_1_method_22_code
def yX5_isRow : MethodName := ⟨RX5, "isRow", "(I)Z"⟩
abbrev cX5_isColumn : ByteArray := prog_1_method_23_code
def yX5_isColumn : MethodName := ⟨RX5, "isColumn", "(I)Z"⟩
abbrev cX5_isValue : ByteArray := prog_1_method_24_code
def yX5_isValue : MethodName := ⟨RX5, "isValue", "(I)Z"⟩
def RX6 : String := "PushedTablesModel"
def TX6 : u_T := fun k => match k with
  | 0 => ("PushedTablesModel", "now", "[I", true)
  | 1 => ("PushedTablesModel", "before", "[I", true)
  | 2 => ("PushedTablesModel", "states", "[I", true)
  | 3 => ("PushedTablesModel", "marks", "[I", true)
  | 4 => ("PushedTablesModel", "values", "[I", true)
  | 5 => ("PushedTablesModel", "text", "[I", true)
  | 6 => ("PushedTablesModel", "stateMany", "I", false)
  | 7 => ("PushedTablesModel", "stateAt", "I", false)
  | 8 => ("PushedTablesModel", "letters", "I", false)
  | 9 => ("PushedTablesModel", "readAt", "I", false)
  | _ => ("PushedTablesModel", "failure", "I", false)
def tyX6 : Nat → FieldType := fun k => match k with
  | 0 => .array .int
  | 1 => .array .int
  | 2 => .array .int
  | 3 => .array .int
  | 4 => .array .int
  | 5 => .array .int
  | 6 => .int
  | 7 => .int
  | 8 => .int
  | 9 => .int
  | _ => .int
abbrev wsX60 : List Cond := u_ws RX6 TX6 11
theorem nmX6 : ∀ a, a < 11 → ∀ b, b < 11 → a ≠ b → (TX6 a).2.1 ≠ (TX6 b).2.1 := by decide +kernel
theorem tyX6_ok : ∀ k, k < 11 → parseFieldDescriptor (TX6 k).2.2.1 = some (tyX6 k) := by decide +kernel
abbrev cX6_init : ByteArray := prog_8_method_1_code
def yX6_init : MethodName := ⟨RX6, "<init>", "()V"⟩
abbrev cX6_in : ByteArray := prog_8_method_2_code
def yX6_in : MethodName := ⟨RX6, "in", "(III)Z"⟩
abbrev cX6_bits : ByteArray := prog_8_method_3_code
def yX6_bits : MethodName := ⟨RX6, "bits", "(I)I"⟩
abbrev cX6_has : ByteArray := prog_8_method_4_code
def yX6_has : MethodName := ⟨RX6, "has", "(II)Z"⟩
abbrev cX6_isRow : ByteArray := prog_8_method_5_code
def yX6_isRow : MethodName := ⟨RX6, "isRow", "(I)Z"⟩
abbrev cX6_copy : ByteArray := prog_8_method_6_code
def yX6_copy : MethodName := ⟨RX6, "copy", "()V"⟩
abbrev cX6_back : ByteArray := prog_8_method_7_code
def yX6_back : MethodName := ⟨RX6, "back", "()V"⟩
abbrev cX6_record : ByteArray := prog_8_method_8_code
def yX6_record : MethodName := ⟨RX6, "record", "()V"⟩
abbrev cX6_remember : ByteArray := prog_8_method_9_code
def yX6_remember : MethodName := ⟨RX6, "remember", "()V"⟩
abbrev cX6_undo : ByteArray := prog_8_method_10_code
def yX6_undo : MethodName := ⟨RX6, "undo", "()I"⟩
abbrev cX6_entries : ByteArray := prog_8_method_11_code
def yX6_entries : MethodName := ⟨RX6, "entries", "(I)I"⟩
abbrev cX6_valueOf : ByteArray := prog_8_method_12_code
def yX6_valueOf : MethodName := ⟨RX6, "valueOf", "(II)I"⟩
abbrev cX6_areAlike : ByteArray := prog_8_method_13_code
def yX6_areAlike : MethodName := ⟨RX6, "areAlike", "(II)Z"⟩
abbrev cX6_sharers : ByteArray := prog_8_method_14_code
def yX6_sharers : MethodName := ⟨RX6, "sharers", "(I)I"⟩
abbrev cX6_layStore : ByteArray := prog_8_method_15_code
def yX6_layStore : MethodName := ⟨RX6, "layStore", "()V"⟩
abbrev cX6_fits : ByteArray := prog_8_method_16_code
def yX6_fits : MethodName := ⟨RX6, "fits", "(I)I"⟩
abbrev cX6_forms : ByteArray := prog_8_method_17_code
def yX6_forms : MethodName := ⟨RX6, "forms", "(I)V"⟩
abbrev cX6_leaves : ByteArray := prog_8_method_18_code
def yX6_leaves : MethodName := ⟨RX6, "leaves", "(I)V"⟩
abbrev cX6_adds : ByteArray := prog_8_method_19_code
def yX6_adds : MethodName := ⟨RX6, "adds", "(I)V"⟩
abbrev cX6_add : ByteArray := prog_8_method_20_code
def yX6_add : MethodName := ⟨RX6, "add", "(I)I"⟩
abbrev cX6_set : ByteArray := prog_8_method_21_code
def yX6_set : MethodName := ⟨RX6, "set", "(III)I"⟩
abbrev cX6_leavesFor : ByteArray := prog_8_method_22_code
def yX6_leavesFor : MethodName := ⟨RX6, "leavesFor", "(IZ)V"⟩
abbrev cX6_formsFor : ByteArray := prog_8_method_23_code
def yX6_formsFor : MethodName := ⟨RX6, "formsFor", "(IZ)V"⟩
abbrev cX6_entriesBy : ByteArray := prog_8_method_24_code
def yX6_entriesBy : MethodName := ⟨RX6, "entriesBy", "(IIZ)I"⟩
abbrev cX6_setDefault : ByteArray := prog_8_method_25_code
def yX6_setDefault : MethodName := ⟨RX6, "setDefault", "(II)I"⟩
abbrev cX6_removeLast : ByteArray := prog_8_method_26_code
def yX6_removeLast : MethodName := ⟨RX6, "removeLast", "()I"⟩
abbrev cX6_most : ByteArray := prog_8_method_27_code
def yX6_most : MethodName := ⟨RX6, "most", "(I)I"⟩
abbrev cX6_slim : ByteArray := prog_8_method_28_code
def yX6_slim : MethodName := ⟨RX6, "slim", "(I)I"⟩
abbrev cX6_pushes : ByteArray := prog_8_method_29_code
def yX6_pushes : MethodName := ⟨RX6, "pushes", "(Z)V"⟩
abbrev cX6_end : ByteArray := prog_8_method_30_code
def yX6_end : MethodName := ⟨RX6, "end", "()I"⟩
abbrev cX6_push : ByteArray := prog_8_method_31_code
def yX6_push : MethodName := ⟨RX6, "push", "()I"⟩
abbrev cX6_append : ByteArray := prog_8_method_32_code
def yX6_append : MethodName := ⟨RX6, "append", "(I)I"⟩
abbrev cX6_clearText : ByteArray := prog_8_method_33_code
def yX6_clearText : MethodName := ⟨RX6, "clearText", "()I"⟩
abbrev cX6_here : ByteArray := prog_8_method_34_code
def yX6_here : MethodName := ⟨RX6, "here", "()I"⟩
abbrev cX6_isDigit : ByteArray := prog_8_method_35_code
def yX6_isDigit : MethodName := ⟨RX6, "isDigit", "(I)Z"⟩
abbrev cX6_fails : ByteArray := prog_8_method_36_code
def yX6_fails : MethodName := ⟨RX6, "fails", "(I)I"⟩
abbrev cX6_number : ByteArray := prog_8_method_37_code
def yX6_number : MethodName := ⟨RX6, "number", "()I"⟩
abbrev cX6_sign : ByteArray := prog_8_method_38_code
def yX6_sign : MethodName := ⟨RX6, "sign", "(I)Z"⟩
abbrev cX6_entry : ByteArray := prog_8_method_39_code
def yX6_entry : MethodName := ⟨RX6, "entry", "(II)I"⟩
abbrev cX6_rowRead : ByteArray := prog_8_method_40_code
def yX6_rowRead : MethodName := ⟨RX6, "rowRead", "()Z"⟩
abbrev cX6_read : ByteArray := prog_8_method_41_code
def yX6_read : MethodName := ⟨RX6, "read", "()I"⟩
abbrev cX6_get : ByteArray := prog_8_method_42_code
def yX6_get : MethodName := ⟨RX6, "get", "(II)I"⟩
abbrev cX6_formMany : ByteArray := prog_8_method_43_code
def yX6_formMany : MethodName := ⟨RX6, "formMany", "()I"⟩
abbrev cX6_full : ByteArray := prog_8_method_44_code
def yX6_full : MethodName := ⟨RX6, "full", "()I"⟩
abbrev cX6_strangers : ByteArray := prog_8_method_45_code
def yX6_strangers : MethodName := ⟨RX6, "strangers", "()I"⟩
abbrev cX6_count : ByteArray := prog_8_method_46_code
def yX6_count : MethodName := ⟨RX6, "count", "(I)I"⟩
abbrev cX6_row : ByteArray := prog_8_method_47_code
def yX6_row : MethodName := ⟨RX6, "row", "(II)I"⟩
abbrev cX6_form : ByteArray := prog_8_method_48_code
def yX6_form : MethodName := ⟨RX6, "form", "(II)I"⟩
abbrev cX6_cell : ByteArray := prog_8_method_49_code
def yX6_cell : MethodName := ⟨RX6, "cell", "(II)I"⟩
abbrev cX6_fit : ByteArray := prog_8_method_50_code
def yX6_fit : MethodName := ⟨RX6, "fit", "(I)I"⟩
abbrev cX6_endBy : ByteArray := prog_8_method_51_code
def yX6_endBy : MethodName := ⟨RX6, "endBy", "(I)I"⟩
abbrev cX6_slimmer : ByteArray := prog_8_method_52_code
def yX6_slimmer : MethodName := ⟨RX6, "slimmer", "()I"⟩
abbrev cX6_like : ByteArray := prog_8_method_53_code
def yX6_like : MethodName := ⟨RX6, "like", "(I)I"⟩
def RJ6 : String := "java/lang/Integer"
def TJ6 : u_T := fun k => match k with
  | _ => ("", "", "", false)
def tyJ6 : Nat → FieldType := fun k => match k with
  | _ => .int
abbrev wsJ60 : List Cond := u_ws RJ6 TJ6 0
theorem nmJ6 : ∀ a, a < 0 → ∀ b, b < 0 → a ≠ b → (TJ6 a).2.1 ≠ (TJ6 b).2.1 := by decide +kernel
theorem tyJ6_ok : ∀ k, k < 0 → parseFieldDescriptor (TJ6 k).2.2.1 = some (tyJ6 k) := by decide +kernel
abbrev cJ6_bitCount_0f7a4 : ByteArray := prog_9_method_49_code
def yJ6_bitCount_0f7a4 : MethodName := ⟨RJ6, "bitCount", "(I)I"⟩
def RJ10 : String := "java/lang/System"
def TJ10 : u_T := fun k => match k with
  | _ => ("", "", "", false)
def tyJ10 : Nat → FieldType := fun k => match k with
  | _ => .int
abbrev wsJ100 : List Cond := u_ws RJ10 TJ10 0
theorem nmJ10 : ∀ a, a < 0 → ∀ b, b < 0 → a ≠ b → (TJ10 a).2.1 ≠ (TJ10 b).2.1 := by decide +kernel
theorem tyJ10_ok : ∀ k, k < 0 → parseFieldDescriptor (TJ10 k).2.2.1 = some (tyJ10 k) := by decide +kernel
def RJ7 : String := "java/util/Arrays"
def TJ7 : u_T := fun k => match k with
  | _ => ("", "", "", false)
def tyJ7 : Nat → FieldType := fun k => match k with
  | _ => .int
abbrev wsJ70 : List Cond := u_ws RJ7 TJ7 0
theorem nmJ7 : ∀ a, a < 0 → ∀ b, b < 0 → a ≠ b → (TJ7 a).2.1 ≠ (TJ7 b).2.1 := by decide +kernel
theorem tyJ7_ok : ∀ k, k < 0 → parseFieldDescriptor (TJ7 k).2.2.1 = some (tyJ7 k) := by decide +kernel
abbrev cJ7_rangeCheck_23922 : ByteArray := prog_11_method_30_code
def yJ7_rangeCheck_23922 : MethodName := ⟨RJ7, "rangeCheck", "(III)V"⟩
abbrev cJ7_fill_53178 : ByteArray := prog_11_method_103_code
def yJ7_fill_53178 : MethodName := ⟨RJ7, "fill", "([II)V"⟩
abbrev cJ7_fill_fda19 : ByteArray := prog_11_method_104_code
def yJ7_fill_fda19 : MethodName := ⟨RJ7, "fill", "([IIII)V"⟩
def RL : String := "PushedTablesLaw"
abbrev cL_law : ByteArray := code
def yL_law : MethodName := ⟨RL, "law", "([I)Z"⟩
def wsJ7_fill_53178 : List Cond := .code yJ7_fill_53178 cJ7_fill_53178 4 none :: ([])
def wsX1_forgetForms : List Cond := .code yX1_forgetForms cX1_forgetForms 1 none :: ([.fieldLink RX1 22 "PushedTables$State" "forms" "[I", .fieldLink RX1 25 "PushedTables$State" "shifts" "[I", .methodLink RX1 37 yJ7_fill_53178, .static yJ7_fill_53178, .initialized RJ7, .code yJ7_fill_53178 cJ7_fill_53178 4 none] ++ wsX10)
def wsX1_init : List Cond := .code yX1_init cX1_init 1 none :: ([.methodLink RX1 3 objectInit, .instanceMethod objectInit, .code objectInit ⟨#[0xb1]⟩ 1 none, .fieldLink RX1 9 "PushedTables$State" "rowCount" "I", .arrayClass .int, .fieldLink RX1 15 "PushedTables$State" "defaults" "[I", .fieldLink RX1 19 "PushedTables$State" "values" "[I", .fieldLink RX1 22 "PushedTables$State" "forms" "[I", .fieldLink RX1 25 "PushedTables$State" "shifts" "[I", .methodLink RX1 28 yX1_forgetForms, .instanceMethod yX1_forgetForms, .selects RX1 yX1_forgetForms yX1_forgetForms, .initialized RX1, .code yX1_forgetForms cX1_forgetForms 1 none, .methodLink RX1 37 yJ7_fill_53178, .static yJ7_fill_53178, .initialized RJ7, .code yJ7_fill_53178 cJ7_fill_53178 4 none] ++ wsX10)
def wsX0_init_r1 : List Cond := [Cond.methodLink RX0 3 objectInit, Cond.instanceMethod objectInit, Cond.code objectInit ⟨#[0xb1]⟩ 1 none, Cond.fieldLink RX0 9 "PushedTables$History" "size" "I", Cond.classLink RX0 15 RX1, Cond.fieldLink RX0 17 "PushedTables$History" "states" "[LPushedTables$State;", Cond.instantiable RX1 5, Cond.initialized RX1, Cond.methodLink RX0 21 yX1_init, Cond.instanceMethod yX1_init, Cond.code yX1_init cX1_init 1 none, Cond.methodLink RX1 3 objectInit, Cond.fieldLink RX1 9 "PushedTables$State" "rowCount" "I", Cond.arrayClass .int, Cond.fieldLink RX1 15 "PushedTables$State" "defaults" "[I", Cond.fieldLink RX1 19 "PushedTables$State" "values" "[I", Cond.fieldLink RX1 22 "PushedTables$State" "forms" "[I", Cond.fieldLink RX1 25 "PushedTables$State" "shifts" "[I", Cond.methodLink RX1 28 yX1_forgetForms, Cond.instanceMethod yX1_forgetForms, Cond.selects RX1 yX1_forgetForms yX1_forgetForms, Cond.code yX1_forgetForms cX1_forgetForms 1 none, Cond.methodLink RX1 37 yJ7_fill_53178, Cond.static yJ7_fill_53178]
def wsX0_init_r2 : List Cond := [Cond.initialized RJ7, Cond.code yJ7_fill_53178 cJ7_fill_53178 4 none]
def wsX0_init : List Cond := .code yX0_init cX0_init 2 none :: ((wsX0_init_r1 ++ wsX0_init_r2) ++ wsX00 ++ wsX10)
def wsX0_dropOldest : List Cond := .code yX0_dropOldest cX0_dropOldest 3 none :: ([.fieldLink RX0 17 "PushedTables$History" "states" "[LPushedTables$State;", .fieldLink RX0 9 "PushedTables$History" "size" "I"] ++ wsX00)
def wsX1_copyFrom : List Cond := .code yX1_copyFrom cX1_copyFrom 2 none :: ([.fieldLink RX1 9 "PushedTables$State" "rowCount" "I", .fieldLink RX1 15 "PushedTables$State" "defaults" "[I", .methodLink RX1 31 arraycopyName, .native arraycopyName, .static arraycopyName, .initialized "java/lang/System", .fieldLink RX1 19 "PushedTables$State" "values" "[I", .fieldLink RX1 22 "PushedTables$State" "forms" "[I", .fieldLink RX1 25 "PushedTables$State" "shifts" "[I"] ++ wsX10)
def wsX0_remember : List Cond := .code yX0_remember cX0_remember 2 none :: ([.fieldLink RX0 9 "PushedTables$History" "size" "I", .fieldLink RX0 17 "PushedTables$History" "states" "[LPushedTables$State;", .methodLink RX0 22 yX0_dropOldest, .instanceMethod yX0_dropOldest, .selects RX0 yX0_dropOldest yX0_dropOldest, .initialized RX0, .code yX0_dropOldest cX0_dropOldest 3 none, .methodLink RX0 25 yX1_copyFrom, .instanceMethod yX1_copyFrom, .selects RX1 yX1_copyFrom yX1_copyFrom, .initialized RX1, .code yX1_copyFrom cX1_copyFrom 2 none, .fieldLink RX1 9 "PushedTables$State" "rowCount" "I", .fieldLink RX1 15 "PushedTables$State" "defaults" "[I", .methodLink RX1 31 arraycopyName, .native arraycopyName, .static arraycopyName, .initialized "java/lang/System", .fieldLink RX1 19 "PushedTables$State" "values" "[I", .fieldLink RX1 22 "PushedTables$State" "forms" "[I", .fieldLink RX1 25 "PushedTables$State" "shifts" "[I"] ++ wsX00 ++ wsX10)
def wsX0_takeLatest : List Cond := .code yX0_takeLatest cX0_takeLatest 1 (some (.object "PushedTables$State")) :: ([.fieldLink RX0 9 "PushedTables$History" "size" "I", .fieldLink RX0 17 "PushedTables$History" "states" "[LPushedTables$State;"] ++ wsX00)
def wsJ7_rangeCheck_23922 : List Cond := .code yJ7_rangeCheck_23922 cJ7_rangeCheck_23922 3 none :: ([])
def wsJ7_fill_fda19 : List Cond := .code yJ7_fill_fda19 cJ7_fill_fda19 5 none :: ([.methodLink RJ7 13 yJ7_rangeCheck_23922, .static yJ7_rangeCheck_23922, .initialized RJ7, .code yJ7_rangeCheck_23922 cJ7_rangeCheck_23922 3 none])
def wsX1_addRow : List Cond := .code yX1_addRow cX1_addRow 3 (some .int) :: ([.fieldLink RX1 9 "PushedTables$State" "rowCount" "I", .fieldLink RX1 15 "PushedTables$State" "defaults" "[I", .fieldLink RX1 19 "PushedTables$State" "values" "[I", .fieldLink RX1 22 "PushedTables$State" "forms" "[I", .methodLink RX1 43 yJ7_fill_fda19, .static yJ7_fill_fda19, .initialized RJ7, .code yJ7_fill_fda19 cJ7_fill_fda19 5 none, .methodLink RJ7 13 yJ7_rangeCheck_23922, .static yJ7_rangeCheck_23922, .code yJ7_rangeCheck_23922 cJ7_rangeCheck_23922 3 none] ++ wsX10)
def wsX1_valueAt : List Cond := .code yX1_valueAt cX1_valueAt 3 (some .int) :: ([.fieldLink RX1 19 "PushedTables$State" "values" "[I"] ++ wsX10)
def wsX1_changeValue : List Cond := .code yX1_changeValue cX1_changeValue 4 none :: ([.fieldLink RX1 19 "PushedTables$State" "values" "[I"] ++ wsX10)
def wsX1_isEntry : List Cond := .code yX1_isEntry cX1_isEntry 3 (some .boolean) :: ([.fieldLink RX1 15 "PushedTables$State" "defaults" "[I", .methodLink RX1 54 yX1_valueAt, .instanceMethod yX1_valueAt, .selects RX1 yX1_valueAt yX1_valueAt, .initialized RX1, .code yX1_valueAt cX1_valueAt 3 (some .int), .fieldLink RX1 19 "PushedTables$State" "values" "[I"] ++ wsX10)
def wsX1_changeDefault : List Cond := .code yX1_changeDefault cX1_changeDefault 4 none :: ([.fieldLink RX1 15 "PushedTables$State" "defaults" "[I", .methodLink RX1 46 yX1_isEntry, .instanceMethod yX1_isEntry, .selects RX1 yX1_isEntry yX1_isEntry, .initialized RX1, .code yX1_isEntry cX1_isEntry 3 (some .boolean), .methodLink RX1 54 yX1_valueAt, .instanceMethod yX1_valueAt, .selects RX1 yX1_valueAt yX1_valueAt, .code yX1_valueAt cX1_valueAt 3 (some .int), .fieldLink RX1 19 "PushedTables$State" "values" "[I", .methodLink RX1 50 yX1_changeValue, .instanceMethod yX1_changeValue, .selects RX1 yX1_changeValue yX1_changeValue, .code yX1_changeValue cX1_changeValue 4 none] ++ wsX10)
def wsX1_columnsOf : List Cond := .code yX1_columnsOf cX1_columnsOf 4 (some .int) :: ([.methodLink RX1 46 yX1_isEntry, .instanceMethod yX1_isEntry, .selects RX1 yX1_isEntry yX1_isEntry, .initialized RX1, .code yX1_isEntry cX1_isEntry 3 (some .boolean), .fieldLink RX1 15 "PushedTables$State" "defaults" "[I", .methodLink RX1 54 yX1_valueAt, .instanceMethod yX1_valueAt, .selects RX1 yX1_valueAt yX1_valueAt, .code yX1_valueAt cX1_valueAt 3 (some .int), .fieldLink RX1 19 "PushedTables$State" "values" "[I"] ++ wsX10)
def wsJ6_bitCount_0f7a4 : List Cond := .code yJ6_bitCount_0f7a4 cJ6_bitCount_0f7a4 1 (some .int) :: ([.constant RJ6 265 (1431655765), .constant RJ6 266 (858993459), .constant RJ6 267 (252645135)])
def wsX1_weightOf : List Cond := .code yX1_weightOf cX1_weightOf 2 (some .int) :: ([.methodLink RX1 58 yX1_columnsOf, .instanceMethod yX1_columnsOf, .selects RX1 yX1_columnsOf yX1_columnsOf, .initialized RX1, .code yX1_columnsOf cX1_columnsOf 4 (some .int), .methodLink RX1 46 yX1_isEntry, .instanceMethod yX1_isEntry, .selects RX1 yX1_isEntry yX1_isEntry, .code yX1_isEntry cX1_isEntry 3 (some .boolean), .fieldLink RX1 15 "PushedTables$State" "defaults" "[I", .methodLink RX1 54 yX1_valueAt, .instanceMethod yX1_valueAt, .selects RX1 yX1_valueAt yX1_valueAt, .code yX1_valueAt cX1_valueAt 3 (some .int), .fieldLink RX1 19 "PushedTables$State" "values" "[I", .methodLink RX1 62 yJ6_bitCount_0f7a4, .static yJ6_bitCount_0f7a4, .initialized RJ6, .code yJ6_bitCount_0f7a4 cJ6_bitCount_0f7a4 1 (some .int), .constant RJ6 265 (1431655765), .constant RJ6 266 (858993459), .constant RJ6 267 (252645135)] ++ wsX10)
def wsX1_weightSum_r1 : List Cond := [Cond.fieldLink RX1 9 "PushedTables$State" "rowCount" "I", Cond.methodLink RX1 67 yX1_weightOf, Cond.instanceMethod yX1_weightOf, Cond.selects RX1 yX1_weightOf yX1_weightOf, Cond.initialized RX1, Cond.code yX1_weightOf cX1_weightOf 2 (some .int), Cond.methodLink RX1 58 yX1_columnsOf, Cond.instanceMethod yX1_columnsOf, Cond.selects RX1 yX1_columnsOf yX1_columnsOf, Cond.code yX1_columnsOf cX1_columnsOf 4 (some .int), Cond.methodLink RX1 46 yX1_isEntry, Cond.instanceMethod yX1_isEntry, Cond.selects RX1 yX1_isEntry yX1_isEntry, Cond.code yX1_isEntry cX1_isEntry 3 (some .boolean), Cond.fieldLink RX1 15 "PushedTables$State" "defaults" "[I", Cond.methodLink RX1 54 yX1_valueAt, Cond.instanceMethod yX1_valueAt, Cond.selects RX1 yX1_valueAt yX1_valueAt, Cond.code yX1_valueAt cX1_valueAt 3 (some .int), Cond.fieldLink RX1 19 "PushedTables$State" "values" "[I", Cond.methodLink RX1 62 yJ6_bitCount_0f7a4, Cond.static yJ6_bitCount_0f7a4, Cond.initialized RJ6, Cond.code yJ6_bitCount_0f7a4 cJ6_bitCount_0f7a4 1 (some .int)]
def wsX1_weightSum_r2 : List Cond := [Cond.constant RJ6 265 (1431655765), Cond.constant RJ6 266 (858993459), Cond.constant RJ6 267 (252645135)]
def wsX1_weightSum : List Cond := .code yX1_weightSum cX1_weightSum 3 (some .int) :: ((wsX1_weightSum_r1 ++ wsX1_weightSum_r2) ++ wsX10)
def wsX1_cellsWith : List Cond := .code yX1_cellsWith cX1_cellsWith 5 (some .int) :: ([.methodLink RX1 54 yX1_valueAt, .instanceMethod yX1_valueAt, .selects RX1 yX1_valueAt yX1_valueAt, .initialized RX1, .code yX1_valueAt cX1_valueAt 3 (some .int), .fieldLink RX1 19 "PushedTables$State" "values" "[I"] ++ wsX10)
def wsX1_commonestValue : List Cond := .code yX1_commonestValue cX1_commonestValue 7 (some .int) :: ([.methodLink RX1 54 yX1_valueAt, .instanceMethod yX1_valueAt, .selects RX1 yX1_valueAt yX1_valueAt, .initialized RX1, .code yX1_valueAt cX1_valueAt 3 (some .int), .fieldLink RX1 19 "PushedTables$State" "values" "[I", .methodLink RX1 70 yX1_cellsWith, .instanceMethod yX1_cellsWith, .selects RX1 yX1_cellsWith yX1_cellsWith, .code yX1_cellsWith cX1_cellsWith 5 (some .int)] ++ wsX10)
def wsX1_slimmerBy_r1 : List Cond := [Cond.methodLink RX1 73 yX1_commonestValue, Cond.instanceMethod yX1_commonestValue, Cond.selects RX1 yX1_commonestValue yX1_commonestValue, Cond.initialized RX1, Cond.code yX1_commonestValue cX1_commonestValue 7 (some .int), Cond.methodLink RX1 54 yX1_valueAt, Cond.instanceMethod yX1_valueAt, Cond.selects RX1 yX1_valueAt yX1_valueAt, Cond.code yX1_valueAt cX1_valueAt 3 (some .int), Cond.fieldLink RX1 19 "PushedTables$State" "values" "[I", Cond.methodLink RX1 70 yX1_cellsWith, Cond.instanceMethod yX1_cellsWith, Cond.selects RX1 yX1_cellsWith yX1_cellsWith, Cond.code yX1_cellsWith cX1_cellsWith 5 (some .int), Cond.methodLink RX1 67 yX1_weightOf, Cond.instanceMethod yX1_weightOf, Cond.selects RX1 yX1_weightOf yX1_weightOf, Cond.code yX1_weightOf cX1_weightOf 2 (some .int), Cond.methodLink RX1 58 yX1_columnsOf, Cond.instanceMethod yX1_columnsOf, Cond.selects RX1 yX1_columnsOf yX1_columnsOf, Cond.code yX1_columnsOf cX1_columnsOf 4 (some .int), Cond.methodLink RX1 46 yX1_isEntry, Cond.instanceMethod yX1_isEntry]
def wsX1_slimmerBy_r2 : List Cond := [Cond.selects RX1 yX1_isEntry yX1_isEntry, Cond.code yX1_isEntry cX1_isEntry 3 (some .boolean), Cond.fieldLink RX1 15 "PushedTables$State" "defaults" "[I", Cond.methodLink RX1 62 yJ6_bitCount_0f7a4, Cond.static yJ6_bitCount_0f7a4, Cond.initialized RJ6, Cond.code yJ6_bitCount_0f7a4 cJ6_bitCount_0f7a4 1 (some .int), Cond.constant RJ6 265 (1431655765), Cond.constant RJ6 266 (858993459), Cond.constant RJ6 267 (252645135)]
def wsX1_slimmerBy : List Cond := .code yX1_slimmerBy cX1_slimmerBy 3 (some .int) :: ((wsX1_slimmerBy_r1 ++ wsX1_slimmerBy_r2) ++ wsX10)
def wsX1_equalCells : List Cond := .code yX1_equalCells cX1_equalCells 5 (some .int) :: ([.methodLink RX1 54 yX1_valueAt, .instanceMethod yX1_valueAt, .selects RX1 yX1_valueAt yX1_valueAt, .initialized RX1, .code yX1_valueAt cX1_valueAt 3 (some .int), .fieldLink RX1 19 "PushedTables$State" "values" "[I"] ++ wsX10)
def wsX1_mostLike : List Cond := .code yX1_mostLike cX1_mostLike 6 (some .int) :: ([.fieldLink RX1 9 "PushedTables$State" "rowCount" "I", .methodLink RX1 76 yX1_equalCells, .instanceMethod yX1_equalCells, .selects RX1 yX1_equalCells yX1_equalCells, .initialized RX1, .code yX1_equalCells cX1_equalCells 5 (some .int), .methodLink RX1 54 yX1_valueAt, .instanceMethod yX1_valueAt, .selects RX1 yX1_valueAt yX1_valueAt, .code yX1_valueAt cX1_valueAt 3 (some .int), .fieldLink RX1 19 "PushedTables$State" "values" "[I"] ++ wsX10)
def wsX1_shiftOf : List Cond := .code yX1_shiftOf cX1_shiftOf 2 (some .int) :: ([.fieldLink RX1 25 "PushedTables$State" "shifts" "[I"] ++ wsX10)
def wsX1_formCount : List Cond := .code yX1_formCount cX1_formCount 3 (some .int) :: ([.fieldLink RX1 25 "PushedTables$State" "shifts" "[I"] ++ wsX10)
def wsX1_sharersOf : List Cond := .code yX1_sharersOf cX1_sharersOf 4 (some .int) :: ([.fieldLink RX1 9 "PushedTables$State" "rowCount" "I", .fieldLink RX1 22 "PushedTables$State" "forms" "[I"] ++ wsX10)
def wsX1_freeForm : List Cond := .code yX1_freeForm cX1_freeForm 2 (some .int) :: ([.fieldLink RX1 25 "PushedTables$State" "shifts" "[I"] ++ wsX10)
def wsX2_emptyAll : List Cond := .code yX2_emptyAll cX2_emptyAll 1 none :: ([.fieldLink RX2 9 "PushedTables$Store" "values" "[I", .fieldLink RX2 15 "PushedTables$Store" "marks" "[I", .methodLink RX2 21 yJ7_fill_53178, .static yJ7_fill_53178, .initialized RJ7, .code yJ7_fill_53178 cJ7_fill_53178 4 none] ++ wsX20)
def wsX2_init : List Cond := .code yX2_init cX2_init 1 none :: ([.methodLink RX2 3 objectInit, .instanceMethod objectInit, .code objectInit ⟨#[0xb1]⟩ 1 none, .arrayClass .int, .fieldLink RX2 9 "PushedTables$Store" "values" "[I", .fieldLink RX2 15 "PushedTables$Store" "marks" "[I", .methodLink RX2 18 yX2_emptyAll, .instanceMethod yX2_emptyAll, .selects RX2 yX2_emptyAll yX2_emptyAll, .initialized RX2, .code yX2_emptyAll cX2_emptyAll 1 none, .methodLink RX2 21 yJ7_fill_53178, .static yJ7_fill_53178, .initialized RJ7, .code yJ7_fill_53178 cJ7_fill_53178 4 none] ++ wsX20)
def wsX2_fillCell : List Cond := .code yX2_fillCell cX2_fillCell 4 none :: ([.fieldLink RX2 9 "PushedTables$Store" "values" "[I", .fieldLink RX2 15 "PushedTables$Store" "marks" "[I"] ++ wsX20)
def wsX2_isEmptyAt : List Cond := .code yX2_isEmptyAt cX2_isEmptyAt 2 (some .boolean) :: ([.fieldLink RX2 15 "PushedTables$Store" "marks" "[I"] ++ wsX20)
def wsX2_takeOut : List Cond := .code yX2_takeOut cX2_takeOut 4 none :: ([.fieldLink RX2 15 "PushedTables$Store" "marks" "[I", .methodLink RX2 27 yX2_fillCell, .instanceMethod yX2_fillCell, .selects RX2 yX2_fillCell yX2_fillCell, .initialized RX2, .code yX2_fillCell cX2_fillCell 4 none, .fieldLink RX2 9 "PushedTables$Store" "values" "[I"] ++ wsX20)
def wsX2_filledOf : List Cond := .code yX2_filledOf cX2_filledOf 5 (some .int) :: ([.fieldLink RX2 15 "PushedTables$Store" "marks" "[I"] ++ wsX20)
def wsX2_fitsAt : List Cond := .code yX2_fitsAt cX2_fitsAt 4 (some .boolean) :: ([.methodLink RX2 35 yX2_isEmptyAt, .instanceMethod yX2_isEmptyAt, .selects RX2 yX2_isEmptyAt yX2_isEmptyAt, .initialized RX2, .code yX2_isEmptyAt cX2_isEmptyAt 2 (some .boolean), .fieldLink RX2 15 "PushedTables$Store" "marks" "[I"] ++ wsX20)
def wsX2_firstFit : List Cond := .code yX2_firstFit cX2_firstFit 3 (some .int) :: ([.methodLink RX2 31 yX2_fitsAt, .instanceMethod yX2_fitsAt, .selects RX2 yX2_fitsAt yX2_fitsAt, .initialized RX2, .code yX2_fitsAt cX2_fitsAt 4 (some .boolean), .methodLink RX2 35 yX2_isEmptyAt, .instanceMethod yX2_isEmptyAt, .selects RX2 yX2_isEmptyAt yX2_isEmptyAt, .code yX2_isEmptyAt cX2_isEmptyAt 2 (some .boolean), .fieldLink RX2 15 "PushedTables$Store" "marks" "[I"] ++ wsX20)
def wsX2_endOfCells : List Cond := .code yX2_endOfCells cX2_endOfCells 2 (some .int) :: ([.methodLink RX2 35 yX2_isEmptyAt, .instanceMethod yX2_isEmptyAt, .selects RX2 yX2_isEmptyAt yX2_isEmptyAt, .initialized RX2, .code yX2_isEmptyAt cX2_isEmptyAt 2 (some .boolean), .fieldLink RX2 15 "PushedTables$Store" "marks" "[I"] ++ wsX20)
def wsX2_filledCells : List Cond := .code yX2_filledCells cX2_filledCells 3 (some .int) :: ([.methodLink RX2 35 yX2_isEmptyAt, .instanceMethod yX2_isEmptyAt, .selects RX2 yX2_isEmptyAt yX2_isEmptyAt, .initialized RX2, .code yX2_isEmptyAt cX2_isEmptyAt 2 (some .boolean), .fieldLink RX2 15 "PushedTables$Store" "marks" "[I"] ++ wsX20)
def wsX3_init_r1 : List Cond := [Cond.methodLink RX3 3 objectInit, Cond.instanceMethod objectInit, Cond.code objectInit ⟨#[0xb1]⟩ 1 none, Cond.classLink RX3 9 RX1, Cond.instantiable RX1 5, Cond.initialized RX1, Cond.fieldLink RX3 12 "PushedTables$Table" "state" "LPushedTables$State;", Cond.classLink RX3 18 RX2, Cond.instantiable RX2 2, Cond.initialized RX2, Cond.fieldLink RX3 21 "PushedTables$Table" "store" "LPushedTables$Store;", Cond.methodLink RX3 11 yX1_init, Cond.instanceMethod yX1_init, Cond.code yX1_init cX1_init 1 none, Cond.methodLink RX1 3 objectInit, Cond.fieldLink RX1 9 "PushedTables$State" "rowCount" "I", Cond.arrayClass .int, Cond.fieldLink RX1 15 "PushedTables$State" "defaults" "[I", Cond.fieldLink RX1 19 "PushedTables$State" "values" "[I", Cond.fieldLink RX1 22 "PushedTables$State" "forms" "[I", Cond.fieldLink RX1 25 "PushedTables$State" "shifts" "[I", Cond.methodLink RX1 28 yX1_forgetForms, Cond.instanceMethod yX1_forgetForms, Cond.selects RX1 yX1_forgetForms yX1_forgetForms]
def wsX3_init_r2 : List Cond := [Cond.code yX1_forgetForms cX1_forgetForms 1 none, Cond.methodLink RX1 37 yJ7_fill_53178, Cond.static yJ7_fill_53178, Cond.initialized RJ7, Cond.code yJ7_fill_53178 cJ7_fill_53178 4 none, Cond.methodLink RX3 20 yX2_init, Cond.instanceMethod yX2_init, Cond.code yX2_init cX2_init 1 none, Cond.methodLink RX2 3 objectInit, Cond.fieldLink RX2 9 "PushedTables$Store" "values" "[I", Cond.fieldLink RX2 15 "PushedTables$Store" "marks" "[I", Cond.methodLink RX2 18 yX2_emptyAll, Cond.instanceMethod yX2_emptyAll, Cond.selects RX2 yX2_emptyAll yX2_emptyAll, Cond.code yX2_emptyAll cX2_emptyAll 1 none, Cond.methodLink RX2 21 yJ7_fill_53178]
def wsX3_init : List Cond := .code yX3_init cX3_init 1 none :: ((wsX3_init_r1 ++ wsX3_init_r2) ++ wsX10 ++ wsX30 ++ wsX20)
def wsX3_fillCellsOf_r1 : List Cond := [Cond.fieldLink RX3 12 "PushedTables$Table" "state" "LPushedTables$State;", Cond.fieldLink RX3 40 "PushedTables$State" "forms" "[I", Cond.fieldLink RX3 21 "PushedTables$Table" "store" "LPushedTables$Store;", Cond.methodLink RX3 44 yX1_shiftOf, Cond.instanceMethod yX1_shiftOf, Cond.selects RX1 yX1_shiftOf yX1_shiftOf, Cond.initialized RX1, Cond.code yX1_shiftOf cX1_shiftOf 2 (some .int), Cond.fieldLink RX1 25 "PushedTables$State" "shifts" "[I", Cond.methodLink RX3 48 yX1_isEntry, Cond.instanceMethod yX1_isEntry, Cond.selects RX1 yX1_isEntry yX1_isEntry, Cond.code yX1_isEntry cX1_isEntry 3 (some .boolean), Cond.fieldLink RX1 15 "PushedTables$State" "defaults" "[I", Cond.methodLink RX1 54 yX1_valueAt, Cond.instanceMethod yX1_valueAt, Cond.selects RX1 yX1_valueAt yX1_valueAt, Cond.code yX1_valueAt cX1_valueAt 3 (some .int), Cond.fieldLink RX1 19 "PushedTables$State" "values" "[I", Cond.methodLink RX3 52 yX1_valueAt, Cond.methodLink RX3 56 yX2_fillCell, Cond.instanceMethod yX2_fillCell, Cond.selects RX2 yX2_fillCell yX2_fillCell, Cond.initialized RX2]
def wsX3_fillCellsOf_r2 : List Cond := [Cond.code yX2_fillCell cX2_fillCell 4 none, Cond.fieldLink RX2 9 "PushedTables$Store" "values" "[I", Cond.fieldLink RX2 15 "PushedTables$Store" "marks" "[I"]
def wsX3_fillCellsOf : List Cond := .code yX3_fillCellsOf cX3_fillCellsOf 5 none :: ((wsX3_fillCellsOf_r1 ++ wsX3_fillCellsOf_r2) ++ wsX30 ++ wsX10 ++ wsX20)
def wsX3_restore_r1 : List Cond := [Cond.fieldLink RX3 12 "PushedTables$Table" "state" "LPushedTables$State;", Cond.fieldLink RX3 21 "PushedTables$Table" "store" "LPushedTables$Store;", Cond.fieldLink RX3 32 "PushedTables$State" "rowCount" "I", Cond.methodLink RX3 25 yX1_copyFrom, Cond.instanceMethod yX1_copyFrom, Cond.selects RX1 yX1_copyFrom yX1_copyFrom, Cond.initialized RX1, Cond.code yX1_copyFrom cX1_copyFrom 2 none, Cond.fieldLink RX1 9 "PushedTables$State" "rowCount" "I", Cond.fieldLink RX1 15 "PushedTables$State" "defaults" "[I", Cond.methodLink RX1 31 arraycopyName, Cond.native arraycopyName, Cond.static arraycopyName, Cond.initialized "java/lang/System", Cond.fieldLink RX1 19 "PushedTables$State" "values" "[I", Cond.fieldLink RX1 22 "PushedTables$State" "forms" "[I", Cond.fieldLink RX1 25 "PushedTables$State" "shifts" "[I", Cond.methodLink RX3 29 yX2_emptyAll, Cond.instanceMethod yX2_emptyAll, Cond.selects RX2 yX2_emptyAll yX2_emptyAll, Cond.initialized RX2, Cond.code yX2_emptyAll cX2_emptyAll 1 none, Cond.fieldLink RX2 9 "PushedTables$Store" "values" "[I", Cond.fieldLink RX2 15 "PushedTables$Store" "marks" "[I"]
def wsX3_restore_r2 : List Cond := [Cond.methodLink RX2 21 yJ7_fill_53178, Cond.static yJ7_fill_53178, Cond.initialized RJ7, Cond.code yJ7_fill_53178 cJ7_fill_53178 4 none, Cond.methodLink RX3 36 yX3_fillCellsOf, Cond.instanceMethod yX3_fillCellsOf, Cond.selects RX3 yX3_fillCellsOf yX3_fillCellsOf, Cond.initialized RX3, Cond.code yX3_fillCellsOf cX3_fillCellsOf 5 none, Cond.fieldLink RX3 40 "PushedTables$State" "forms" "[I", Cond.methodLink RX3 44 yX1_shiftOf, Cond.instanceMethod yX1_shiftOf, Cond.selects RX1 yX1_shiftOf yX1_shiftOf, Cond.code yX1_shiftOf cX1_shiftOf 2 (some .int), Cond.methodLink RX3 48 yX1_isEntry, Cond.instanceMethod yX1_isEntry, Cond.selects RX1 yX1_isEntry yX1_isEntry, Cond.code yX1_isEntry cX1_isEntry 3 (some .boolean), Cond.methodLink RX1 54 yX1_valueAt, Cond.instanceMethod yX1_valueAt, Cond.selects RX1 yX1_valueAt yX1_valueAt, Cond.code yX1_valueAt cX1_valueAt 3 (some .int), Cond.methodLink RX3 52 yX1_valueAt, Cond.methodLink RX3 56 yX2_fillCell]
def wsX3_restore_r3 : List Cond := [Cond.instanceMethod yX2_fillCell, Cond.selects RX2 yX2_fillCell yX2_fillCell, Cond.code yX2_fillCell cX2_fillCell 4 none]
def wsX3_restore : List Cond := .code yX3_restore cX3_restore 3 none :: ((wsX3_restore_r1 ++ (wsX3_restore_r2 ++ wsX3_restore_r3)) ++ wsX30 ++ wsX10 ++ wsX20)
def wsX3_hasEntriesOf : List Cond := .code yX3_hasEntriesOf cX3_hasEntriesOf 6 (some .boolean) :: ([.fieldLink RX3 12 "PushedTables$Table" "state" "LPushedTables$State;", .fieldLink RX3 21 "PushedTables$Table" "store" "LPushedTables$Store;", .fieldLink RX3 85 "PushedTables$Store" "marks" "[I", .fieldLink RX3 88 "PushedTables$Store" "values" "[I", .methodLink RX3 44 yX1_shiftOf, .instanceMethod yX1_shiftOf, .selects RX1 yX1_shiftOf yX1_shiftOf, .initialized RX1, .code yX1_shiftOf cX1_shiftOf 2 (some .int), .fieldLink RX1 25 "PushedTables$State" "shifts" "[I", .methodLink RX3 48 yX1_isEntry, .instanceMethod yX1_isEntry, .selects RX1 yX1_isEntry yX1_isEntry, .code yX1_isEntry cX1_isEntry 3 (some .boolean), .fieldLink RX1 15 "PushedTables$State" "defaults" "[I", .methodLink RX1 54 yX1_valueAt, .instanceMethod yX1_valueAt, .selects RX1 yX1_valueAt yX1_valueAt, .code yX1_valueAt cX1_valueAt 3 (some .int), .fieldLink RX1 19 "PushedTables$State" "values" "[I", .methodLink RX3 52 yX1_valueAt] ++ wsX30 ++ wsX20 ++ wsX10)
def wsX3_leaveForm_r1 : List Cond := [Cond.fieldLink RX3 12 "PushedTables$Table" "state" "LPushedTables$State;", Cond.fieldLink RX3 40 "PushedTables$State" "forms" "[I", Cond.fieldLink RX3 21 "PushedTables$Table" "store" "LPushedTables$Store;", Cond.fieldLink RX3 82 "PushedTables$State" "shifts" "[I", Cond.methodLink RX3 44 yX1_shiftOf, Cond.instanceMethod yX1_shiftOf, Cond.selects RX1 yX1_shiftOf yX1_shiftOf, Cond.initialized RX1, Cond.code yX1_shiftOf cX1_shiftOf 2 (some .int), Cond.fieldLink RX1 25 "PushedTables$State" "shifts" "[I", Cond.methodLink RX3 76 yX1_sharersOf, Cond.instanceMethod yX1_sharersOf, Cond.selects RX1 yX1_sharersOf yX1_sharersOf, Cond.code yX1_sharersOf cX1_sharersOf 4 (some .int), Cond.fieldLink RX1 9 "PushedTables$State" "rowCount" "I", Cond.fieldLink RX1 22 "PushedTables$State" "forms" "[I", Cond.methodLink RX3 79 yX2_takeOut, Cond.instanceMethod yX2_takeOut, Cond.selects RX2 yX2_takeOut yX2_takeOut, Cond.initialized RX2, Cond.code yX2_takeOut cX2_takeOut 4 none, Cond.fieldLink RX2 15 "PushedTables$Store" "marks" "[I", Cond.methodLink RX2 27 yX2_fillCell, Cond.instanceMethod yX2_fillCell]
def wsX3_leaveForm_r2 : List Cond := [Cond.selects RX2 yX2_fillCell yX2_fillCell, Cond.code yX2_fillCell cX2_fillCell 4 none, Cond.fieldLink RX2 9 "PushedTables$Store" "values" "[I"]
def wsX3_leaveForm : List Cond := .code yX3_leaveForm cX3_leaveForm 4 none :: ((wsX3_leaveForm_r1 ++ wsX3_leaveForm_r2) ++ wsX30 ++ wsX10 ++ wsX20)
def wsX3_formWithEntriesOf_r1 : List Cond := [Cond.methodLink RX3 60 yX3_hasEntriesOf, Cond.instanceMethod yX3_hasEntriesOf, Cond.selects RX3 yX3_hasEntriesOf yX3_hasEntriesOf, Cond.initialized RX3, Cond.code yX3_hasEntriesOf cX3_hasEntriesOf 6 (some .boolean), Cond.fieldLink RX3 12 "PushedTables$Table" "state" "LPushedTables$State;", Cond.fieldLink RX3 21 "PushedTables$Table" "store" "LPushedTables$Store;", Cond.fieldLink RX3 85 "PushedTables$Store" "marks" "[I", Cond.fieldLink RX3 88 "PushedTables$Store" "values" "[I", Cond.methodLink RX3 44 yX1_shiftOf, Cond.instanceMethod yX1_shiftOf, Cond.selects RX1 yX1_shiftOf yX1_shiftOf, Cond.initialized RX1, Cond.code yX1_shiftOf cX1_shiftOf 2 (some .int), Cond.fieldLink RX1 25 "PushedTables$State" "shifts" "[I", Cond.methodLink RX3 48 yX1_isEntry, Cond.instanceMethod yX1_isEntry, Cond.selects RX1 yX1_isEntry yX1_isEntry, Cond.code yX1_isEntry cX1_isEntry 3 (some .boolean), Cond.fieldLink RX1 15 "PushedTables$State" "defaults" "[I", Cond.methodLink RX1 54 yX1_valueAt, Cond.instanceMethod yX1_valueAt, Cond.selects RX1 yX1_valueAt yX1_valueAt, Cond.code yX1_valueAt cX1_valueAt 3 (some .int)]
def wsX3_formWithEntriesOf_r2 : List Cond := [Cond.fieldLink RX1 19 "PushedTables$State" "values" "[I", Cond.methodLink RX3 52 yX1_valueAt]
def wsX3_formWithEntriesOf : List Cond := .code yX3_formWithEntriesOf cX3_formWithEntriesOf 3 (some .int) :: ((wsX3_formWithEntriesOf_r1 ++ wsX3_formWithEntriesOf_r2) ++ wsX30 ++ wsX20 ++ wsX10)
def wsX3_pushNewForm_r1 : List Cond := [Cond.fieldLink RX3 12 "PushedTables$Table" "state" "LPushedTables$State;", Cond.fieldLink RX3 21 "PushedTables$Table" "store" "LPushedTables$Store;", Cond.fieldLink RX3 40 "PushedTables$State" "forms" "[I", Cond.fieldLink RX3 82 "PushedTables$State" "shifts" "[I", Cond.methodLink RX3 91 yX1_freeForm, Cond.instanceMethod yX1_freeForm, Cond.selects RX1 yX1_freeForm yX1_freeForm, Cond.initialized RX1, Cond.code yX1_freeForm cX1_freeForm 2 (some .int), Cond.fieldLink RX1 25 "PushedTables$State" "shifts" "[I", Cond.methodLink RX3 95 yX2_firstFit, Cond.instanceMethod yX2_firstFit, Cond.selects RX2 yX2_firstFit yX2_firstFit, Cond.initialized RX2, Cond.code yX2_firstFit cX2_firstFit 3 (some .int), Cond.methodLink RX2 31 yX2_fitsAt, Cond.instanceMethod yX2_fitsAt, Cond.selects RX2 yX2_fitsAt yX2_fitsAt, Cond.code yX2_fitsAt cX2_fitsAt 4 (some .boolean), Cond.methodLink RX2 35 yX2_isEmptyAt, Cond.instanceMethod yX2_isEmptyAt, Cond.selects RX2 yX2_isEmptyAt yX2_isEmptyAt, Cond.code yX2_isEmptyAt cX2_isEmptyAt 2 (some .boolean), Cond.fieldLink RX2 15 "PushedTables$Store" "marks" "[I"]
def wsX3_pushNewForm_r2 : List Cond := [Cond.methodLink RX3 36 yX3_fillCellsOf, Cond.instanceMethod yX3_fillCellsOf, Cond.selects RX3 yX3_fillCellsOf yX3_fillCellsOf, Cond.initialized RX3, Cond.code yX3_fillCellsOf cX3_fillCellsOf 5 none, Cond.methodLink RX3 44 yX1_shiftOf, Cond.instanceMethod yX1_shiftOf, Cond.selects RX1 yX1_shiftOf yX1_shiftOf, Cond.code yX1_shiftOf cX1_shiftOf 2 (some .int), Cond.methodLink RX3 48 yX1_isEntry, Cond.instanceMethod yX1_isEntry, Cond.selects RX1 yX1_isEntry yX1_isEntry, Cond.code yX1_isEntry cX1_isEntry 3 (some .boolean), Cond.fieldLink RX1 15 "PushedTables$State" "defaults" "[I", Cond.methodLink RX1 54 yX1_valueAt, Cond.instanceMethod yX1_valueAt, Cond.selects RX1 yX1_valueAt yX1_valueAt, Cond.code yX1_valueAt cX1_valueAt 3 (some .int), Cond.fieldLink RX1 19 "PushedTables$State" "values" "[I", Cond.methodLink RX3 52 yX1_valueAt, Cond.methodLink RX3 56 yX2_fillCell, Cond.instanceMethod yX2_fillCell, Cond.selects RX2 yX2_fillCell yX2_fillCell, Cond.code yX2_fillCell cX2_fillCell 4 none]
def wsX3_pushNewForm_r3 : List Cond := [Cond.fieldLink RX2 9 "PushedTables$Store" "values" "[I"]
def wsX3_pushNewForm : List Cond := .code yX3_pushNewForm cX3_pushNewForm 5 none :: ((wsX3_pushNewForm_r1 ++ (wsX3_pushNewForm_r2 ++ wsX3_pushNewForm_r3)) ++ wsX30 ++ wsX10 ++ wsX20)
def wsX3_settle_r1 : List Cond := [Cond.fieldLink RX3 12 "PushedTables$Table" "state" "LPushedTables$State;", Cond.fieldLink RX3 40 "PushedTables$State" "forms" "[I", Cond.methodLink RX3 60 yX3_hasEntriesOf, Cond.instanceMethod yX3_hasEntriesOf, Cond.selects RX3 yX3_hasEntriesOf yX3_hasEntriesOf, Cond.initialized RX3, Cond.code yX3_hasEntriesOf cX3_hasEntriesOf 6 (some .boolean), Cond.fieldLink RX3 21 "PushedTables$Table" "store" "LPushedTables$Store;", Cond.fieldLink RX3 85 "PushedTables$Store" "marks" "[I", Cond.fieldLink RX3 88 "PushedTables$Store" "values" "[I", Cond.methodLink RX3 44 yX1_shiftOf, Cond.instanceMethod yX1_shiftOf, Cond.selects RX1 yX1_shiftOf yX1_shiftOf, Cond.initialized RX1, Cond.code yX1_shiftOf cX1_shiftOf 2 (some .int), Cond.fieldLink RX1 25 "PushedTables$State" "shifts" "[I", Cond.methodLink RX3 48 yX1_isEntry, Cond.instanceMethod yX1_isEntry, Cond.selects RX1 yX1_isEntry yX1_isEntry, Cond.code yX1_isEntry cX1_isEntry 3 (some .boolean), Cond.fieldLink RX1 15 "PushedTables$State" "defaults" "[I", Cond.methodLink RX1 54 yX1_valueAt, Cond.instanceMethod yX1_valueAt, Cond.selects RX1 yX1_valueAt yX1_valueAt]
def wsX3_settle_r2 : List Cond := [Cond.code yX1_valueAt cX1_valueAt 3 (some .int), Cond.fieldLink RX1 19 "PushedTables$State" "values" "[I", Cond.methodLink RX3 52 yX1_valueAt, Cond.methodLink RX3 63 yX3_leaveForm, Cond.instanceMethod yX3_leaveForm, Cond.selects RX3 yX3_leaveForm yX3_leaveForm, Cond.code yX3_leaveForm cX3_leaveForm 4 none, Cond.fieldLink RX3 82 "PushedTables$State" "shifts" "[I", Cond.methodLink RX3 76 yX1_sharersOf, Cond.instanceMethod yX1_sharersOf, Cond.selects RX1 yX1_sharersOf yX1_sharersOf, Cond.code yX1_sharersOf cX1_sharersOf 4 (some .int), Cond.fieldLink RX1 9 "PushedTables$State" "rowCount" "I", Cond.fieldLink RX1 22 "PushedTables$State" "forms" "[I", Cond.methodLink RX3 79 yX2_takeOut, Cond.instanceMethod yX2_takeOut, Cond.selects RX2 yX2_takeOut yX2_takeOut, Cond.initialized RX2, Cond.code yX2_takeOut cX2_takeOut 4 none, Cond.fieldLink RX2 15 "PushedTables$Store" "marks" "[I", Cond.methodLink RX2 27 yX2_fillCell, Cond.instanceMethod yX2_fillCell, Cond.selects RX2 yX2_fillCell yX2_fillCell, Cond.code yX2_fillCell cX2_fillCell 4 none]
def wsX3_settle_r3 : List Cond := [Cond.fieldLink RX2 9 "PushedTables$Store" "values" "[I", Cond.methodLink RX3 66 yX1_columnsOf, Cond.instanceMethod yX1_columnsOf, Cond.selects RX1 yX1_columnsOf yX1_columnsOf, Cond.code yX1_columnsOf cX1_columnsOf 4 (some .int), Cond.methodLink RX1 46 yX1_isEntry, Cond.methodLink RX3 69 yX3_formWithEntriesOf, Cond.instanceMethod yX3_formWithEntriesOf, Cond.selects RX3 yX3_formWithEntriesOf yX3_formWithEntriesOf, Cond.code yX3_formWithEntriesOf cX3_formWithEntriesOf 3 (some .int), Cond.methodLink RX3 72 yX3_pushNewForm, Cond.instanceMethod yX3_pushNewForm, Cond.selects RX3 yX3_pushNewForm yX3_pushNewForm, Cond.code yX3_pushNewForm cX3_pushNewForm 5 none, Cond.methodLink RX3 91 yX1_freeForm, Cond.instanceMethod yX1_freeForm, Cond.selects RX1 yX1_freeForm yX1_freeForm, Cond.code yX1_freeForm cX1_freeForm 2 (some .int), Cond.methodLink RX3 95 yX2_firstFit, Cond.instanceMethod yX2_firstFit, Cond.selects RX2 yX2_firstFit yX2_firstFit, Cond.code yX2_firstFit cX2_firstFit 3 (some .int), Cond.methodLink RX2 31 yX2_fitsAt, Cond.instanceMethod yX2_fitsAt]
def wsX3_settle_r4 : List Cond := [Cond.selects RX2 yX2_fitsAt yX2_fitsAt, Cond.code yX2_fitsAt cX2_fitsAt 4 (some .boolean), Cond.methodLink RX2 35 yX2_isEmptyAt, Cond.instanceMethod yX2_isEmptyAt, Cond.selects RX2 yX2_isEmptyAt yX2_isEmptyAt, Cond.code yX2_isEmptyAt cX2_isEmptyAt 2 (some .boolean), Cond.methodLink RX3 36 yX3_fillCellsOf, Cond.instanceMethod yX3_fillCellsOf, Cond.selects RX3 yX3_fillCellsOf yX3_fillCellsOf, Cond.code yX3_fillCellsOf cX3_fillCellsOf 5 none, Cond.methodLink RX3 56 yX2_fillCell]
def wsX3_settle : List Cond := .code yX3_settle cX3_settle 3 none :: ((wsX3_settle_r1 ++ (wsX3_settle_r2 ++ (wsX3_settle_r3 ++ wsX3_settle_r4))) ++ wsX30 ++ wsX10 ++ wsX20)
def wsX3_takeOutAll : List Cond := .code yX3_takeOutAll cX3_takeOutAll 1 none :: ([.fieldLink RX3 12 "PushedTables$Table" "state" "LPushedTables$State;", .fieldLink RX3 21 "PushedTables$Table" "store" "LPushedTables$Store;", .instanceMethod yX1_forgetForms, .initialized RX1, .selects RX1 yX1_forgetForms yX1_forgetForms, .code yX1_forgetForms cX1_forgetForms 1 none, .fieldLink RX1 22 "PushedTables$State" "forms" "[I", .fieldLink RX1 25 "PushedTables$State" "shifts" "[I", .methodLink RX1 37 yJ7_fill_53178, .static yJ7_fill_53178, .initialized RJ7, .code yJ7_fill_53178 cJ7_fill_53178 4 none, .methodLink RX3 29 yX2_emptyAll, .instanceMethod yX2_emptyAll, .selects RX2 yX2_emptyAll yX2_emptyAll, .initialized RX2, .code yX2_emptyAll cX2_emptyAll 1 none, .fieldLink RX2 9 "PushedTables$Store" "values" "[I", .fieldLink RX2 15 "PushedTables$Store" "marks" "[I", .methodLink RX2 21 yJ7_fill_53178] ++ wsX30 ++ wsX10 ++ wsX20)
def wsX3_pushAnewByWeights_r1 : List Cond := [Cond.fieldLink RX3 12 "PushedTables$Table" "state" "LPushedTables$State;", Cond.fieldLink RX3 32 "PushedTables$State" "rowCount" "I", Cond.methodLink RX3 98 yX3_takeOutAll, Cond.instanceMethod yX3_takeOutAll, Cond.selects RX3 yX3_takeOutAll yX3_takeOutAll, Cond.initialized RX3, Cond.code yX3_takeOutAll cX3_takeOutAll 1 none, Cond.fieldLink RX3 21 "PushedTables$Table" "store" "LPushedTables$Store;", Cond.instanceMethod yX1_forgetForms, Cond.initialized RX1, Cond.selects RX1 yX1_forgetForms yX1_forgetForms, Cond.code yX1_forgetForms cX1_forgetForms 1 none, Cond.fieldLink RX1 22 "PushedTables$State" "forms" "[I", Cond.fieldLink RX1 25 "PushedTables$State" "shifts" "[I", Cond.methodLink RX1 37 yJ7_fill_53178, Cond.static yJ7_fill_53178, Cond.initialized RJ7, Cond.code yJ7_fill_53178 cJ7_fill_53178 4 none, Cond.methodLink RX3 29 yX2_emptyAll, Cond.instanceMethod yX2_emptyAll, Cond.selects RX2 yX2_emptyAll yX2_emptyAll, Cond.initialized RX2, Cond.code yX2_emptyAll cX2_emptyAll 1 none, Cond.fieldLink RX2 9 "PushedTables$Store" "values" "[I"]
def wsX3_pushAnewByWeights_r2 : List Cond := [Cond.fieldLink RX2 15 "PushedTables$Store" "marks" "[I", Cond.methodLink RX2 21 yJ7_fill_53178, Cond.methodLink RX3 101 yX1_weightOf, Cond.instanceMethod yX1_weightOf, Cond.selects RX1 yX1_weightOf yX1_weightOf, Cond.code yX1_weightOf cX1_weightOf 2 (some .int), Cond.methodLink RX1 58 yX1_columnsOf, Cond.instanceMethod yX1_columnsOf, Cond.selects RX1 yX1_columnsOf yX1_columnsOf, Cond.code yX1_columnsOf cX1_columnsOf 4 (some .int), Cond.methodLink RX1 46 yX1_isEntry, Cond.instanceMethod yX1_isEntry, Cond.selects RX1 yX1_isEntry yX1_isEntry, Cond.code yX1_isEntry cX1_isEntry 3 (some .boolean), Cond.fieldLink RX1 15 "PushedTables$State" "defaults" "[I", Cond.methodLink RX1 54 yX1_valueAt, Cond.instanceMethod yX1_valueAt, Cond.selects RX1 yX1_valueAt yX1_valueAt, Cond.code yX1_valueAt cX1_valueAt 3 (some .int), Cond.fieldLink RX1 19 "PushedTables$State" "values" "[I", Cond.methodLink RX1 62 yJ6_bitCount_0f7a4, Cond.static yJ6_bitCount_0f7a4, Cond.initialized RJ6, Cond.code yJ6_bitCount_0f7a4 cJ6_bitCount_0f7a4 1 (some .int)]
def wsX3_pushAnewByWeights_r3 : List Cond := [Cond.constant RJ6 265 (1431655765), Cond.constant RJ6 266 (858993459), Cond.constant RJ6 267 (252645135), Cond.methodLink RX3 104 yX3_settle, Cond.instanceMethod yX3_settle, Cond.selects RX3 yX3_settle yX3_settle, Cond.code yX3_settle cX3_settle 3 none, Cond.fieldLink RX3 40 "PushedTables$State" "forms" "[I", Cond.methodLink RX3 60 yX3_hasEntriesOf, Cond.instanceMethod yX3_hasEntriesOf, Cond.selects RX3 yX3_hasEntriesOf yX3_hasEntriesOf, Cond.code yX3_hasEntriesOf cX3_hasEntriesOf 6 (some .boolean), Cond.fieldLink RX3 85 "PushedTables$Store" "marks" "[I", Cond.fieldLink RX3 88 "PushedTables$Store" "values" "[I", Cond.methodLink RX3 44 yX1_shiftOf, Cond.instanceMethod yX1_shiftOf, Cond.selects RX1 yX1_shiftOf yX1_shiftOf, Cond.code yX1_shiftOf cX1_shiftOf 2 (some .int), Cond.methodLink RX3 48 yX1_isEntry, Cond.methodLink RX3 52 yX1_valueAt, Cond.methodLink RX3 63 yX3_leaveForm, Cond.instanceMethod yX3_leaveForm, Cond.selects RX3 yX3_leaveForm yX3_leaveForm, Cond.code yX3_leaveForm cX3_leaveForm 4 none]
def wsX3_pushAnewByWeights_r4 : List Cond := [Cond.fieldLink RX3 82 "PushedTables$State" "shifts" "[I", Cond.methodLink RX3 76 yX1_sharersOf, Cond.instanceMethod yX1_sharersOf, Cond.selects RX1 yX1_sharersOf yX1_sharersOf, Cond.code yX1_sharersOf cX1_sharersOf 4 (some .int), Cond.fieldLink RX1 9 "PushedTables$State" "rowCount" "I", Cond.methodLink RX3 79 yX2_takeOut, Cond.instanceMethod yX2_takeOut, Cond.selects RX2 yX2_takeOut yX2_takeOut, Cond.code yX2_takeOut cX2_takeOut 4 none, Cond.methodLink RX2 27 yX2_fillCell, Cond.instanceMethod yX2_fillCell, Cond.selects RX2 yX2_fillCell yX2_fillCell, Cond.code yX2_fillCell cX2_fillCell 4 none, Cond.methodLink RX3 66 yX1_columnsOf, Cond.methodLink RX3 69 yX3_formWithEntriesOf, Cond.instanceMethod yX3_formWithEntriesOf, Cond.selects RX3 yX3_formWithEntriesOf yX3_formWithEntriesOf, Cond.code yX3_formWithEntriesOf cX3_formWithEntriesOf 3 (some .int), Cond.methodLink RX3 72 yX3_pushNewForm, Cond.instanceMethod yX3_pushNewForm, Cond.selects RX3 yX3_pushNewForm yX3_pushNewForm, Cond.code yX3_pushNewForm cX3_pushNewForm 5 none, Cond.methodLink RX3 91 yX1_freeForm]
def wsX3_pushAnewByWeights_r5 : List Cond := [Cond.instanceMethod yX1_freeForm, Cond.selects RX1 yX1_freeForm yX1_freeForm, Cond.code yX1_freeForm cX1_freeForm 2 (some .int), Cond.methodLink RX3 95 yX2_firstFit, Cond.instanceMethod yX2_firstFit, Cond.selects RX2 yX2_firstFit yX2_firstFit, Cond.code yX2_firstFit cX2_firstFit 3 (some .int), Cond.methodLink RX2 31 yX2_fitsAt, Cond.instanceMethod yX2_fitsAt, Cond.selects RX2 yX2_fitsAt yX2_fitsAt, Cond.code yX2_fitsAt cX2_fitsAt 4 (some .boolean), Cond.methodLink RX2 35 yX2_isEmptyAt, Cond.instanceMethod yX2_isEmptyAt, Cond.selects RX2 yX2_isEmptyAt yX2_isEmptyAt, Cond.code yX2_isEmptyAt cX2_isEmptyAt 2 (some .boolean), Cond.methodLink RX3 36 yX3_fillCellsOf, Cond.instanceMethod yX3_fillCellsOf, Cond.selects RX3 yX3_fillCellsOf yX3_fillCellsOf, Cond.code yX3_fillCellsOf cX3_fillCellsOf 5 none, Cond.methodLink RX3 56 yX2_fillCell]
def wsX3_pushAnewByWeights : List Cond := .code yX3_pushAnewByWeights cX3_pushAnewByWeights 3 none :: ((wsX3_pushAnewByWeights_r1 ++ (wsX3_pushAnewByWeights_r2 ++ (wsX3_pushAnewByWeights_r3 ++ (wsX3_pushAnewByWeights_r4 ++ wsX3_pushAnewByWeights_r5)))) ++ wsX30 ++ wsX10 ++ wsX20)
def wsX3_pushAnewByNumbers_r1 : List Cond := [Cond.fieldLink RX3 12 "PushedTables$Table" "state" "LPushedTables$State;", Cond.fieldLink RX3 32 "PushedTables$State" "rowCount" "I", Cond.methodLink RX3 98 yX3_takeOutAll, Cond.instanceMethod yX3_takeOutAll, Cond.selects RX3 yX3_takeOutAll yX3_takeOutAll, Cond.initialized RX3, Cond.code yX3_takeOutAll cX3_takeOutAll 1 none, Cond.fieldLink RX3 21 "PushedTables$Table" "store" "LPushedTables$Store;", Cond.instanceMethod yX1_forgetForms, Cond.initialized RX1, Cond.selects RX1 yX1_forgetForms yX1_forgetForms, Cond.code yX1_forgetForms cX1_forgetForms 1 none, Cond.fieldLink RX1 22 "PushedTables$State" "forms" "[I", Cond.fieldLink RX1 25 "PushedTables$State" "shifts" "[I", Cond.methodLink RX1 37 yJ7_fill_53178, Cond.static yJ7_fill_53178, Cond.initialized RJ7, Cond.code yJ7_fill_53178 cJ7_fill_53178 4 none, Cond.methodLink RX3 29 yX2_emptyAll, Cond.instanceMethod yX2_emptyAll, Cond.selects RX2 yX2_emptyAll yX2_emptyAll, Cond.initialized RX2, Cond.code yX2_emptyAll cX2_emptyAll 1 none, Cond.fieldLink RX2 9 "PushedTables$Store" "values" "[I"]
def wsX3_pushAnewByNumbers_r2 : List Cond := [Cond.fieldLink RX2 15 "PushedTables$Store" "marks" "[I", Cond.methodLink RX2 21 yJ7_fill_53178, Cond.methodLink RX3 104 yX3_settle, Cond.instanceMethod yX3_settle, Cond.selects RX3 yX3_settle yX3_settle, Cond.code yX3_settle cX3_settle 3 none, Cond.fieldLink RX3 40 "PushedTables$State" "forms" "[I", Cond.methodLink RX3 60 yX3_hasEntriesOf, Cond.instanceMethod yX3_hasEntriesOf, Cond.selects RX3 yX3_hasEntriesOf yX3_hasEntriesOf, Cond.code yX3_hasEntriesOf cX3_hasEntriesOf 6 (some .boolean), Cond.fieldLink RX3 85 "PushedTables$Store" "marks" "[I", Cond.fieldLink RX3 88 "PushedTables$Store" "values" "[I", Cond.methodLink RX3 44 yX1_shiftOf, Cond.instanceMethod yX1_shiftOf, Cond.selects RX1 yX1_shiftOf yX1_shiftOf, Cond.code yX1_shiftOf cX1_shiftOf 2 (some .int), Cond.methodLink RX3 48 yX1_isEntry, Cond.instanceMethod yX1_isEntry, Cond.selects RX1 yX1_isEntry yX1_isEntry, Cond.code yX1_isEntry cX1_isEntry 3 (some .boolean), Cond.fieldLink RX1 15 "PushedTables$State" "defaults" "[I", Cond.methodLink RX1 54 yX1_valueAt, Cond.instanceMethod yX1_valueAt]
def wsX3_pushAnewByNumbers_r3 : List Cond := [Cond.selects RX1 yX1_valueAt yX1_valueAt, Cond.code yX1_valueAt cX1_valueAt 3 (some .int), Cond.fieldLink RX1 19 "PushedTables$State" "values" "[I", Cond.methodLink RX3 52 yX1_valueAt, Cond.methodLink RX3 63 yX3_leaveForm, Cond.instanceMethod yX3_leaveForm, Cond.selects RX3 yX3_leaveForm yX3_leaveForm, Cond.code yX3_leaveForm cX3_leaveForm 4 none, Cond.fieldLink RX3 82 "PushedTables$State" "shifts" "[I", Cond.methodLink RX3 76 yX1_sharersOf, Cond.instanceMethod yX1_sharersOf, Cond.selects RX1 yX1_sharersOf yX1_sharersOf, Cond.code yX1_sharersOf cX1_sharersOf 4 (some .int), Cond.fieldLink RX1 9 "PushedTables$State" "rowCount" "I", Cond.methodLink RX3 79 yX2_takeOut, Cond.instanceMethod yX2_takeOut, Cond.selects RX2 yX2_takeOut yX2_takeOut, Cond.code yX2_takeOut cX2_takeOut 4 none, Cond.methodLink RX2 27 yX2_fillCell, Cond.instanceMethod yX2_fillCell, Cond.selects RX2 yX2_fillCell yX2_fillCell, Cond.code yX2_fillCell cX2_fillCell 4 none, Cond.methodLink RX3 66 yX1_columnsOf, Cond.instanceMethod yX1_columnsOf]
def wsX3_pushAnewByNumbers_r4 : List Cond := [Cond.selects RX1 yX1_columnsOf yX1_columnsOf, Cond.code yX1_columnsOf cX1_columnsOf 4 (some .int), Cond.methodLink RX1 46 yX1_isEntry, Cond.methodLink RX3 69 yX3_formWithEntriesOf, Cond.instanceMethod yX3_formWithEntriesOf, Cond.selects RX3 yX3_formWithEntriesOf yX3_formWithEntriesOf, Cond.code yX3_formWithEntriesOf cX3_formWithEntriesOf 3 (some .int), Cond.methodLink RX3 72 yX3_pushNewForm, Cond.instanceMethod yX3_pushNewForm, Cond.selects RX3 yX3_pushNewForm yX3_pushNewForm, Cond.code yX3_pushNewForm cX3_pushNewForm 5 none, Cond.methodLink RX3 91 yX1_freeForm, Cond.instanceMethod yX1_freeForm, Cond.selects RX1 yX1_freeForm yX1_freeForm, Cond.code yX1_freeForm cX1_freeForm 2 (some .int), Cond.methodLink RX3 95 yX2_firstFit, Cond.instanceMethod yX2_firstFit, Cond.selects RX2 yX2_firstFit yX2_firstFit, Cond.code yX2_firstFit cX2_firstFit 3 (some .int), Cond.methodLink RX2 31 yX2_fitsAt, Cond.instanceMethod yX2_fitsAt, Cond.selects RX2 yX2_fitsAt yX2_fitsAt, Cond.code yX2_fitsAt cX2_fitsAt 4 (some .boolean), Cond.methodLink RX2 35 yX2_isEmptyAt]
def wsX3_pushAnewByNumbers_r5 : List Cond := [Cond.instanceMethod yX2_isEmptyAt, Cond.selects RX2 yX2_isEmptyAt yX2_isEmptyAt, Cond.code yX2_isEmptyAt cX2_isEmptyAt 2 (some .boolean), Cond.methodLink RX3 36 yX3_fillCellsOf, Cond.instanceMethod yX3_fillCellsOf, Cond.selects RX3 yX3_fillCellsOf yX3_fillCellsOf, Cond.code yX3_fillCellsOf cX3_fillCellsOf 5 none, Cond.methodLink RX3 56 yX2_fillCell]
def wsX3_pushAnewByNumbers : List Cond := .code yX3_pushAnewByNumbers cX3_pushAnewByNumbers 2 none :: ((wsX3_pushAnewByNumbers_r1 ++ (wsX3_pushAnewByNumbers_r2 ++ (wsX3_pushAnewByNumbers_r3 ++ (wsX3_pushAnewByNumbers_r4 ++ wsX3_pushAnewByNumbers_r5)))) ++ wsX30 ++ wsX10 ++ wsX20)
def wsX3_lookUp : List Cond := .code yX3_lookUp cX3_lookUp 5 (some .int) :: ([.fieldLink RX3 12 "PushedTables$Table" "state" "LPushedTables$State;", .fieldLink RX3 40 "PushedTables$State" "forms" "[I", .fieldLink RX3 21 "PushedTables$Table" "store" "LPushedTables$Store;", .fieldLink RX3 85 "PushedTables$Store" "marks" "[I", .fieldLink RX3 88 "PushedTables$Store" "values" "[I", .fieldLink RX3 110 "PushedTables$State" "defaults" "[I", .methodLink RX3 44 yX1_shiftOf, .instanceMethod yX1_shiftOf, .selects RX1 yX1_shiftOf yX1_shiftOf, .initialized RX1, .code yX1_shiftOf cX1_shiftOf 2 (some .int), .fieldLink RX1 25 "PushedTables$State" "shifts" "[I"] ++ wsX30 ++ wsX10 ++ wsX20)
def wsX3_refusalsOf : List Cond := .code yX3_refusalsOf cX3_refusalsOf 6 (some .int) :: ([.fieldLink RX3 12 "PushedTables$Table" "state" "LPushedTables$State;", .fieldLink RX3 40 "PushedTables$State" "forms" "[I", .fieldLink RX3 21 "PushedTables$Table" "store" "LPushedTables$Store;", .fieldLink RX3 85 "PushedTables$Store" "marks" "[I", .methodLink RX3 44 yX1_shiftOf, .instanceMethod yX1_shiftOf, .selects RX1 yX1_shiftOf yX1_shiftOf, .initialized RX1, .code yX1_shiftOf cX1_shiftOf 2 (some .int), .fieldLink RX1 25 "PushedTables$State" "shifts" "[I", .methodLink RX3 116 yX2_isEmptyAt, .instanceMethod yX2_isEmptyAt, .selects RX2 yX2_isEmptyAt yX2_isEmptyAt, .initialized RX2, .code yX2_isEmptyAt cX2_isEmptyAt 2 (some .boolean), .fieldLink RX2 15 "PushedTables$Store" "marks" "[I"] ++ wsX30 ++ wsX10 ++ wsX20)
def wsX3_refusals : List Cond := .code yX3_refusals cX3_refusals 3 (some .int) :: ([.fieldLink RX3 12 "PushedTables$Table" "state" "LPushedTables$State;", .fieldLink RX3 32 "PushedTables$State" "rowCount" "I", .methodLink RX3 113 yX3_refusalsOf, .instanceMethod yX3_refusalsOf, .selects RX3 yX3_refusalsOf yX3_refusalsOf, .initialized RX3, .code yX3_refusalsOf cX3_refusalsOf 6 (some .int), .fieldLink RX3 40 "PushedTables$State" "forms" "[I", .fieldLink RX3 21 "PushedTables$Table" "store" "LPushedTables$Store;", .fieldLink RX3 85 "PushedTables$Store" "marks" "[I", .methodLink RX3 44 yX1_shiftOf, .instanceMethod yX1_shiftOf, .selects RX1 yX1_shiftOf yX1_shiftOf, .initialized RX1, .code yX1_shiftOf cX1_shiftOf 2 (some .int), .fieldLink RX1 25 "PushedTables$State" "shifts" "[I", .methodLink RX3 116 yX2_isEmptyAt, .instanceMethod yX2_isEmptyAt, .selects RX2 yX2_isEmptyAt yX2_isEmptyAt, .initialized RX2, .code yX2_isEmptyAt cX2_isEmptyAt 2 (some .boolean), .fieldLink RX2 15 "PushedTables$Store" "marks" "[I"] ++ wsX30 ++ wsX10 ++ wsX20)
def wsX4_init : List Cond := .code yX4_init cX4_init 1 none :: ([.methodLink RX4 3 objectInit, .instanceMethod objectInit, .code objectInit ⟨#[0xb1]⟩ 1 none, .fieldLink RX4 9 "PushedTables$Text" "length" "I", .arrayClass .char, .fieldLink RX4 15 "PushedTables$Text" "signs" "[C", .fieldLink RX4 19 "PushedTables$Text" "place" "I", .fieldLink RX4 22 "PushedTables$Text" "number" "I", .fieldLink RX4 25 "PushedTables$Text" "numberPlace" "I", .fieldLink RX4 28 "PushedTables$Text" "rowsRead" "I", .arrayClass .int, .fieldLink RX4 31 "PushedTables$Text" "defaults" "[I", .fieldLink RX4 35 "PushedTables$Text" "values" "[I"] ++ wsX40)
def wsX4_appendSign : List Cond := .code yX4_appendSign cX4_appendSign 2 none :: ([.fieldLink RX4 9 "PushedTables$Text" "length" "I", .fieldLink RX4 15 "PushedTables$Text" "signs" "[C"] ++ wsX40)
def wsX4_valueRead : List Cond := .code yX4_valueRead cX4_valueRead 3 (some .int) :: ([.fieldLink RX4 35 "PushedTables$Text" "values" "[I"] ++ wsX40)
def wsX4_signHere : List Cond := .code yX4_signHere cX4_signHere 1 (some .char) :: ([.fieldLink RX4 19 "PushedTables$Text" "place" "I", .fieldLink RX4 9 "PushedTables$Text" "length" "I", .fieldLink RX4 15 "PushedTables$Text" "signs" "[C"] ++ wsX40)
def wsX4_skipSpaces : List Cond := .code yX4_skipSpaces cX4_skipSpaces 1 none :: ([.fieldLink RX4 19 "PushedTables$Text" "place" "I", .fieldLink RX4 9 "PushedTables$Text" "length" "I", .methodLink RX4 76 yX4_signHere, .instanceMethod yX4_signHere, .selects RX4 yX4_signHere yX4_signHere, .initialized RX4, .code yX4_signHere cX4_signHere 1 (some .char), .fieldLink RX4 15 "PushedTables$Text" "signs" "[C"] ++ wsX40)
def wsX4_isDigitHere : List Cond := .code yX4_isDigitHere cX4_isDigitHere 1 (some .boolean) :: ([.methodLink RX4 76 yX4_signHere, .instanceMethod yX4_signHere, .selects RX4 yX4_signHere yX4_signHere, .initialized RX4, .code yX4_signHere cX4_signHere 1 (some .char), .fieldLink RX4 19 "PushedTables$Text" "place" "I", .fieldLink RX4 9 "PushedTables$Text" "length" "I", .fieldLink RX4 15 "PushedTables$Text" "signs" "[C"] ++ wsX40)
def wsX4_takeDigit : List Cond := .code yX4_takeDigit cX4_takeDigit 2 (some .int) :: ([.fieldLink RX4 19 "PushedTables$Text" "place" "I", .methodLink RX4 76 yX4_signHere, .instanceMethod yX4_signHere, .selects RX4 yX4_signHere yX4_signHere, .initialized RX4, .code yX4_signHere cX4_signHere 1 (some .char), .fieldLink RX4 9 "PushedTables$Text" "length" "I", .fieldLink RX4 15 "PushedTables$Text" "signs" "[C"] ++ wsX40)
def wsX4_readNumber : List Cond := .code yX4_readNumber cX4_readNumber 1 (some .boolean) :: ([.fieldLink RX4 19 "PushedTables$Text" "place" "I", .fieldLink RX4 25 "PushedTables$Text" "numberPlace" "I", .fieldLink RX4 22 "PushedTables$Text" "number" "I", .methodLink RX4 38 yX4_skipSpaces, .instanceMethod yX4_skipSpaces, .selects RX4 yX4_skipSpaces yX4_skipSpaces, .initialized RX4, .code yX4_skipSpaces cX4_skipSpaces 1 none, .fieldLink RX4 9 "PushedTables$Text" "length" "I", .methodLink RX4 76 yX4_signHere, .instanceMethod yX4_signHere, .selects RX4 yX4_signHere yX4_signHere, .code yX4_signHere cX4_signHere 1 (some .char), .fieldLink RX4 15 "PushedTables$Text" "signs" "[C", .methodLink RX4 45 yX4_isDigitHere, .instanceMethod yX4_isDigitHere, .selects RX4 yX4_isDigitHere yX4_isDigitHere, .code yX4_isDigitHere cX4_isDigitHere 1 (some .boolean), .methodLink RX4 72 yX4_takeDigit, .instanceMethod yX4_takeDigit, .selects RX4 yX4_takeDigit yX4_takeDigit, .code yX4_takeDigit cX4_takeDigit 2 (some .int)] ++ wsX40)
def wsX4_takeSign : List Cond := .code yX4_takeSign cX4_takeSign 2 (some .boolean) :: ([.fieldLink RX4 19 "PushedTables$Text" "place" "I", .methodLink RX4 38 yX4_skipSpaces, .instanceMethod yX4_skipSpaces, .selects RX4 yX4_skipSpaces yX4_skipSpaces, .initialized RX4, .code yX4_skipSpaces cX4_skipSpaces 1 none, .fieldLink RX4 9 "PushedTables$Text" "length" "I", .methodLink RX4 76 yX4_signHere, .instanceMethod yX4_signHere, .selects RX4 yX4_signHere yX4_signHere, .code yX4_signHere cX4_signHere 1 (some .char), .fieldLink RX4 15 "PushedTables$Text" "signs" "[C"] ++ wsX40)
def wsX5_isColumn : List Cond := .code yX5_isColumn cX5_isColumn 1 (some .boolean) :: ([])
def wsX4_allowNumber : List Cond := .code yX4_allowNumber cX4_allowNumber 2 (some .boolean) :: ([.fieldLink RX4 25 "PushedTables$Text" "numberPlace" "I", .fieldLink RX4 19 "PushedTables$Text" "place" "I"] ++ wsX40)
def wsX4_readEntries_r1 : List Cond := [Cond.fieldLink RX4 22 "PushedTables$Text" "number" "I", Cond.fieldLink RX4 31 "PushedTables$Text" "defaults" "[I", Cond.fieldLink RX4 35 "PushedTables$Text" "values" "[I", Cond.methodLink RX4 58 yX4_takeSign, Cond.instanceMethod yX4_takeSign, Cond.selects RX4 yX4_takeSign yX4_takeSign, Cond.initialized RX4, Cond.code yX4_takeSign cX4_takeSign 2 (some .boolean), Cond.fieldLink RX4 19 "PushedTables$Text" "place" "I", Cond.methodLink RX4 38 yX4_skipSpaces, Cond.instanceMethod yX4_skipSpaces, Cond.selects RX4 yX4_skipSpaces yX4_skipSpaces, Cond.code yX4_skipSpaces cX4_skipSpaces 1 none, Cond.fieldLink RX4 9 "PushedTables$Text" "length" "I", Cond.methodLink RX4 76 yX4_signHere, Cond.instanceMethod yX4_signHere, Cond.selects RX4 yX4_signHere yX4_signHere, Cond.code yX4_signHere cX4_signHere 1 (some .char), Cond.fieldLink RX4 15 "PushedTables$Text" "signs" "[C", Cond.methodLink RX4 49 yX4_readNumber, Cond.instanceMethod yX4_readNumber, Cond.selects RX4 yX4_readNumber yX4_readNumber, Cond.code yX4_readNumber cX4_readNumber 1 (some .boolean), Cond.fieldLink RX4 25 "PushedTables$Text" "numberPlace" "I"]
def wsX4_readEntries_r2 : List Cond := [Cond.methodLink RX4 45 yX4_isDigitHere, Cond.instanceMethod yX4_isDigitHere, Cond.selects RX4 yX4_isDigitHere yX4_isDigitHere, Cond.code yX4_isDigitHere cX4_isDigitHere 1 (some .boolean), Cond.methodLink RX4 72 yX4_takeDigit, Cond.instanceMethod yX4_takeDigit, Cond.selects RX4 yX4_takeDigit yX4_takeDigit, Cond.code yX4_takeDigit cX4_takeDigit 2 (some .int), Cond.static yX5_isColumn, Cond.initialized RX5, Cond.code yX5_isColumn cX5_isColumn 1 (some .boolean), Cond.methodLink RX4 68 yX4_allowNumber, Cond.instanceMethod yX4_allowNumber, Cond.selects RX4 yX4_allowNumber yX4_allowNumber, Cond.code yX4_allowNumber cX4_allowNumber 2 (some .boolean)]
def wsX4_readEntries : List Cond := .code yX4_readEntries cX4_readEntries 5 (some .boolean) :: ((wsX4_readEntries_r1 ++ wsX4_readEntries_r2) ++ wsX40)
def wsX4_readRow_r1 : List Cond := [Cond.fieldLink RX4 31 "PushedTables$Text" "defaults" "[I", Cond.fieldLink RX4 22 "PushedTables$Text" "number" "I", Cond.fieldLink RX4 35 "PushedTables$Text" "values" "[I", Cond.methodLink RX4 45 yX4_isDigitHere, Cond.instanceMethod yX4_isDigitHere, Cond.selects RX4 yX4_isDigitHere yX4_isDigitHere, Cond.initialized RX4, Cond.code yX4_isDigitHere cX4_isDigitHere 1 (some .boolean), Cond.methodLink RX4 76 yX4_signHere, Cond.instanceMethod yX4_signHere, Cond.selects RX4 yX4_signHere yX4_signHere, Cond.code yX4_signHere cX4_signHere 1 (some .char), Cond.fieldLink RX4 19 "PushedTables$Text" "place" "I", Cond.fieldLink RX4 9 "PushedTables$Text" "length" "I", Cond.fieldLink RX4 15 "PushedTables$Text" "signs" "[C", Cond.methodLink RX4 49 yX4_readNumber, Cond.instanceMethod yX4_readNumber, Cond.selects RX4 yX4_readNumber yX4_readNumber, Cond.code yX4_readNumber cX4_readNumber 1 (some .boolean), Cond.fieldLink RX4 25 "PushedTables$Text" "numberPlace" "I", Cond.methodLink RX4 38 yX4_skipSpaces, Cond.instanceMethod yX4_skipSpaces, Cond.selects RX4 yX4_skipSpaces yX4_skipSpaces, Cond.code yX4_skipSpaces cX4_skipSpaces 1 none]
def wsX4_readRow_r2 : List Cond := [Cond.methodLink RX4 72 yX4_takeDigit, Cond.instanceMethod yX4_takeDigit, Cond.selects RX4 yX4_takeDigit yX4_takeDigit, Cond.code yX4_takeDigit cX4_takeDigit 2 (some .int), Cond.methodLink RX4 52 yJ7_fill_fda19, Cond.static yJ7_fill_fda19, Cond.initialized RJ7, Cond.code yJ7_fill_fda19 cJ7_fill_fda19 5 none, Cond.methodLink RJ7 13 yJ7_rangeCheck_23922, Cond.static yJ7_rangeCheck_23922, Cond.code yJ7_rangeCheck_23922 cJ7_rangeCheck_23922 3 none, Cond.methodLink RX4 58 yX4_takeSign, Cond.instanceMethod yX4_takeSign, Cond.selects RX4 yX4_takeSign yX4_takeSign, Cond.code yX4_takeSign cX4_takeSign 2 (some .boolean), Cond.methodLink RX4 62 yX4_readEntries, Cond.instanceMethod yX4_readEntries, Cond.selects RX4 yX4_readEntries yX4_readEntries, Cond.code yX4_readEntries cX4_readEntries 5 (some .boolean), Cond.static yX5_isColumn, Cond.initialized RX5, Cond.code yX5_isColumn cX5_isColumn 1 (some .boolean), Cond.methodLink RX4 68 yX4_allowNumber, Cond.instanceMethod yX4_allowNumber]
def wsX4_readRow_r3 : List Cond := [Cond.selects RX4 yX4_allowNumber yX4_allowNumber, Cond.code yX4_allowNumber cX4_allowNumber 2 (some .boolean)]
def wsX4_readRow : List Cond := .code yX4_readRow cX4_readRow 2 (some .boolean) :: ((wsX4_readRow_r1 ++ (wsX4_readRow_r2 ++ wsX4_readRow_r3)) ++ wsX40)
def wsX4_readTable_r1 : List Cond := [Cond.fieldLink RX4 19 "PushedTables$Text" "place" "I", Cond.fieldLink RX4 9 "PushedTables$Text" "length" "I", Cond.fieldLink RX4 28 "PushedTables$Text" "rowsRead" "I", Cond.methodLink RX4 38 yX4_skipSpaces, Cond.instanceMethod yX4_skipSpaces, Cond.selects RX4 yX4_skipSpaces yX4_skipSpaces, Cond.initialized RX4, Cond.code yX4_skipSpaces cX4_skipSpaces 1 none, Cond.methodLink RX4 76 yX4_signHere, Cond.instanceMethod yX4_signHere, Cond.selects RX4 yX4_signHere yX4_signHere, Cond.code yX4_signHere cX4_signHere 1 (some .char), Cond.fieldLink RX4 15 "PushedTables$Text" "signs" "[C", Cond.methodLink RX4 41 yX4_readRow, Cond.instanceMethod yX4_readRow, Cond.selects RX4 yX4_readRow yX4_readRow, Cond.code yX4_readRow cX4_readRow 2 (some .boolean), Cond.fieldLink RX4 31 "PushedTables$Text" "defaults" "[I", Cond.fieldLink RX4 22 "PushedTables$Text" "number" "I", Cond.fieldLink RX4 35 "PushedTables$Text" "values" "[I", Cond.methodLink RX4 45 yX4_isDigitHere, Cond.instanceMethod yX4_isDigitHere, Cond.selects RX4 yX4_isDigitHere yX4_isDigitHere, Cond.code yX4_isDigitHere cX4_isDigitHere 1 (some .boolean)]
def wsX4_readTable_r2 : List Cond := [Cond.methodLink RX4 49 yX4_readNumber, Cond.instanceMethod yX4_readNumber, Cond.selects RX4 yX4_readNumber yX4_readNumber, Cond.code yX4_readNumber cX4_readNumber 1 (some .boolean), Cond.fieldLink RX4 25 "PushedTables$Text" "numberPlace" "I", Cond.methodLink RX4 72 yX4_takeDigit, Cond.instanceMethod yX4_takeDigit, Cond.selects RX4 yX4_takeDigit yX4_takeDigit, Cond.code yX4_takeDigit cX4_takeDigit 2 (some .int), Cond.methodLink RX4 52 yJ7_fill_fda19, Cond.static yJ7_fill_fda19, Cond.initialized RJ7, Cond.code yJ7_fill_fda19 cJ7_fill_fda19 5 none, Cond.methodLink RJ7 13 yJ7_rangeCheck_23922, Cond.static yJ7_rangeCheck_23922, Cond.code yJ7_rangeCheck_23922 cJ7_rangeCheck_23922 3 none, Cond.methodLink RX4 58 yX4_takeSign, Cond.instanceMethod yX4_takeSign, Cond.selects RX4 yX4_takeSign yX4_takeSign, Cond.code yX4_takeSign cX4_takeSign 2 (some .boolean), Cond.methodLink RX4 62 yX4_readEntries, Cond.instanceMethod yX4_readEntries, Cond.selects RX4 yX4_readEntries yX4_readEntries, Cond.code yX4_readEntries cX4_readEntries 5 (some .boolean)]
def wsX4_readTable_r3 : List Cond := [Cond.static yX5_isColumn, Cond.initialized RX5, Cond.code yX5_isColumn cX5_isColumn 1 (some .boolean), Cond.methodLink RX4 68 yX4_allowNumber, Cond.instanceMethod yX4_allowNumber, Cond.selects RX4 yX4_allowNumber yX4_allowNumber, Cond.code yX4_allowNumber cX4_allowNumber 2 (some .boolean)]
def wsX4_readTable : List Cond := .code yX4_readTable cX4_readTable 3 (some .boolean) :: ((wsX4_readTable_r1 ++ (wsX4_readTable_r2 ++ wsX4_readTable_r3)) ++ wsX40)
def wsX5_init_r1 : List Cond := [Cond.methodLink RX5 3 objectInit, Cond.instanceMethod objectInit, Cond.code objectInit ⟨#[0xb1]⟩ 1 none, Cond.classLink RX5 9 RX3, Cond.instantiable RX3 2, Cond.initialized RX3, Cond.fieldLink RX5 12 "PushedTables" "table" "LPushedTables$Table;", Cond.fieldLink RX5 16 "PushedTables" "forecast" "LPushedTables$Table;", Cond.classLink RX5 19 RX0, Cond.instantiable RX0 2, Cond.initialized RX0, Cond.fieldLink RX5 22 "PushedTables" "history" "LPushedTables$History;", Cond.classLink RX5 26 RX4, Cond.instantiable RX4 8, Cond.initialized RX4, Cond.fieldLink RX5 29 "PushedTables" "text" "LPushedTables$Text;", Cond.instanceMethod yX3_init, Cond.code yX3_init cX3_init 1 none, Cond.methodLink RX3 3 objectInit, Cond.classLink RX3 9 RX1, Cond.instantiable RX1 5, Cond.initialized RX1, Cond.fieldLink RX3 12 "PushedTables$Table" "state" "LPushedTables$State;", Cond.classLink RX3 18 RX2]
def wsX5_init_r2 : List Cond := [Cond.instantiable RX2 2, Cond.initialized RX2, Cond.fieldLink RX3 21 "PushedTables$Table" "store" "LPushedTables$Store;", Cond.methodLink RX3 11 yX1_init, Cond.instanceMethod yX1_init, Cond.code yX1_init cX1_init 1 none, Cond.methodLink RX1 3 objectInit, Cond.fieldLink RX1 9 "PushedTables$State" "rowCount" "I", Cond.arrayClass .int, Cond.fieldLink RX1 15 "PushedTables$State" "defaults" "[I", Cond.fieldLink RX1 19 "PushedTables$State" "values" "[I", Cond.fieldLink RX1 22 "PushedTables$State" "forms" "[I", Cond.fieldLink RX1 25 "PushedTables$State" "shifts" "[I", Cond.methodLink RX1 28 yX1_forgetForms, Cond.instanceMethod yX1_forgetForms, Cond.selects RX1 yX1_forgetForms yX1_forgetForms, Cond.code yX1_forgetForms cX1_forgetForms 1 none, Cond.methodLink RX1 37 yJ7_fill_53178, Cond.static yJ7_fill_53178, Cond.initialized RJ7, Cond.code yJ7_fill_53178 cJ7_fill_53178 4 none, Cond.methodLink RX3 20 yX2_init, Cond.instanceMethod yX2_init, Cond.code yX2_init cX2_init 1 none]
def wsX5_init_r3 : List Cond := [Cond.methodLink RX2 3 objectInit, Cond.fieldLink RX2 9 "PushedTables$Store" "values" "[I", Cond.fieldLink RX2 15 "PushedTables$Store" "marks" "[I", Cond.methodLink RX2 18 yX2_emptyAll, Cond.instanceMethod yX2_emptyAll, Cond.selects RX2 yX2_emptyAll yX2_emptyAll, Cond.code yX2_emptyAll cX2_emptyAll 1 none, Cond.methodLink RX2 21 yJ7_fill_53178, Cond.methodLink RX5 21 yX0_init, Cond.instanceMethod yX0_init, Cond.code yX0_init cX0_init 2 none, Cond.methodLink RX0 3 objectInit, Cond.fieldLink RX0 9 "PushedTables$History" "size" "I", Cond.classLink RX0 15 RX1, Cond.fieldLink RX0 17 "PushedTables$History" "states" "[LPushedTables$State;", Cond.methodLink RX0 21 yX1_init, Cond.instanceMethod yX4_init, Cond.code yX4_init cX4_init 1 none, Cond.methodLink RX4 3 objectInit, Cond.fieldLink RX4 9 "PushedTables$Text" "length" "I", Cond.arrayClass .char, Cond.fieldLink RX4 15 "PushedTables$Text" "signs" "[C", Cond.fieldLink RX4 19 "PushedTables$Text" "place" "I", Cond.fieldLink RX4 22 "PushedTables$Text" "number" "I"]
def wsX5_init_r4 : List Cond := [Cond.fieldLink RX4 25 "PushedTables$Text" "numberPlace" "I", Cond.fieldLink RX4 28 "PushedTables$Text" "rowsRead" "I", Cond.fieldLink RX4 31 "PushedTables$Text" "defaults" "[I", Cond.fieldLink RX4 35 "PushedTables$Text" "values" "[I"]
def wsX5_init : List Cond := .code yX5_init cX5_init 1 none :: ((wsX5_init_r1 ++ (wsX5_init_r2 ++ (wsX5_init_r3 ++ wsX5_init_r4))) ++ wsX30 ++ wsX50 ++ wsX00 ++ wsX40 ++ wsX10 ++ wsX20)
def wsX5_isValue : List Cond := .code yX5_isValue cX5_isValue 1 (some .boolean) :: ([])
def wsX5_add_r1 : List Cond := [Cond.fieldLink RX5 12 "PushedTables" "table" "LPushedTables$Table;", Cond.fieldLink RX5 37 "PushedTables$Table" "state" "LPushedTables$State;", Cond.fieldLink RX5 41 "PushedTables$State" "rowCount" "I", Cond.fieldLink RX5 22 "PushedTables" "history" "LPushedTables$History;", Cond.methodLink RX5 33 yX5_isValue, Cond.static yX5_isValue, Cond.initialized RX5, Cond.code yX5_isValue cX5_isValue 1 (some .boolean), Cond.methodLink RX5 47 yX0_remember, Cond.instanceMethod yX0_remember, Cond.selects RX0 yX0_remember yX0_remember, Cond.initialized RX0, Cond.code yX0_remember cX0_remember 2 none, Cond.fieldLink RX0 9 "PushedTables$History" "size" "I", Cond.fieldLink RX0 17 "PushedTables$History" "states" "[LPushedTables$State;", Cond.methodLink RX0 22 yX0_dropOldest, Cond.instanceMethod yX0_dropOldest, Cond.selects RX0 yX0_dropOldest yX0_dropOldest, Cond.code yX0_dropOldest cX0_dropOldest 3 none, Cond.methodLink RX0 25 yX1_copyFrom, Cond.instanceMethod yX1_copyFrom, Cond.selects RX1 yX1_copyFrom yX1_copyFrom, Cond.initialized RX1, Cond.code yX1_copyFrom cX1_copyFrom 2 none]
def wsX5_add_r2 : List Cond := [Cond.fieldLink RX1 9 "PushedTables$State" "rowCount" "I", Cond.fieldLink RX1 15 "PushedTables$State" "defaults" "[I", Cond.methodLink RX1 31 arraycopyName, Cond.native arraycopyName, Cond.static arraycopyName, Cond.initialized "java/lang/System", Cond.fieldLink RX1 19 "PushedTables$State" "values" "[I", Cond.fieldLink RX1 22 "PushedTables$State" "forms" "[I", Cond.fieldLink RX1 25 "PushedTables$State" "shifts" "[I", Cond.methodLink RX5 51 yX1_addRow, Cond.instanceMethod yX1_addRow, Cond.selects RX1 yX1_addRow yX1_addRow, Cond.code yX1_addRow cX1_addRow 3 (some .int), Cond.methodLink RX1 43 yJ7_fill_fda19, Cond.static yJ7_fill_fda19, Cond.initialized RJ7, Cond.code yJ7_fill_fda19 cJ7_fill_fda19 5 none, Cond.methodLink RJ7 13 yJ7_rangeCheck_23922, Cond.static yJ7_rangeCheck_23922, Cond.code yJ7_rangeCheck_23922 cJ7_rangeCheck_23922 3 none]
def wsX5_add : List Cond := .code yX5_add cX5_add 2 (some .int) :: ((wsX5_add_r1 ++ wsX5_add_r2) ++ wsX50 ++ wsX30 ++ wsX10 ++ wsX00)
def wsX5_isRow : List Cond := .code yX5_isRow cX5_isRow 2 (some .boolean) :: ([.fieldLink RX5 12 "PushedTables" "table" "LPushedTables$Table;", .fieldLink RX5 37 "PushedTables$Table" "state" "LPushedTables$State;", .fieldLink RX5 41 "PushedTables$State" "rowCount" "I"] ++ wsX50 ++ wsX30 ++ wsX10)
def wsX5_set_r1 : List Cond := [Cond.fieldLink RX5 22 "PushedTables" "history" "LPushedTables$History;", Cond.fieldLink RX5 12 "PushedTables" "table" "LPushedTables$Table;", Cond.fieldLink RX5 37 "PushedTables$Table" "state" "LPushedTables$State;", Cond.methodLink RX5 55 yX5_isRow, Cond.instanceMethod yX5_isRow, Cond.selects RX5 yX5_isRow yX5_isRow, Cond.initialized RX5, Cond.code yX5_isRow cX5_isRow 2 (some .boolean), Cond.fieldLink RX5 41 "PushedTables$State" "rowCount" "I", Cond.methodLink RX5 58 yX5_isColumn, Cond.static yX5_isColumn, Cond.code yX5_isColumn cX5_isColumn 1 (some .boolean), Cond.methodLink RX5 33 yX5_isValue, Cond.static yX5_isValue, Cond.code yX5_isValue cX5_isValue 1 (some .boolean), Cond.methodLink RX5 47 yX0_remember, Cond.instanceMethod yX0_remember, Cond.selects RX0 yX0_remember yX0_remember, Cond.initialized RX0, Cond.code yX0_remember cX0_remember 2 none, Cond.fieldLink RX0 9 "PushedTables$History" "size" "I", Cond.fieldLink RX0 17 "PushedTables$History" "states" "[LPushedTables$State;", Cond.methodLink RX0 22 yX0_dropOldest, Cond.instanceMethod yX0_dropOldest]
def wsX5_set_r2 : List Cond := [Cond.selects RX0 yX0_dropOldest yX0_dropOldest, Cond.code yX0_dropOldest cX0_dropOldest 3 none, Cond.methodLink RX0 25 yX1_copyFrom, Cond.instanceMethod yX1_copyFrom, Cond.selects RX1 yX1_copyFrom yX1_copyFrom, Cond.initialized RX1, Cond.code yX1_copyFrom cX1_copyFrom 2 none, Cond.fieldLink RX1 9 "PushedTables$State" "rowCount" "I", Cond.fieldLink RX1 15 "PushedTables$State" "defaults" "[I", Cond.methodLink RX1 31 arraycopyName, Cond.native arraycopyName, Cond.static arraycopyName, Cond.initialized "java/lang/System", Cond.fieldLink RX1 19 "PushedTables$State" "values" "[I", Cond.fieldLink RX1 22 "PushedTables$State" "forms" "[I", Cond.fieldLink RX1 25 "PushedTables$State" "shifts" "[I", Cond.methodLink RX5 61 yX1_valueAt, Cond.instanceMethod yX1_valueAt, Cond.selects RX1 yX1_valueAt yX1_valueAt, Cond.code yX1_valueAt cX1_valueAt 3 (some .int), Cond.methodLink RX5 65 yX1_changeValue, Cond.instanceMethod yX1_changeValue, Cond.selects RX1 yX1_changeValue yX1_changeValue, Cond.code yX1_changeValue cX1_changeValue 4 none]
def wsX5_set_r3 : List Cond := [Cond.methodLink RX5 69 yX3_settle, Cond.instanceMethod yX3_settle, Cond.selects RX3 yX3_settle yX3_settle, Cond.initialized RX3, Cond.code yX3_settle cX3_settle 3 none, Cond.fieldLink RX3 12 "PushedTables$Table" "state" "LPushedTables$State;", Cond.fieldLink RX3 40 "PushedTables$State" "forms" "[I", Cond.methodLink RX3 60 yX3_hasEntriesOf, Cond.instanceMethod yX3_hasEntriesOf, Cond.selects RX3 yX3_hasEntriesOf yX3_hasEntriesOf, Cond.code yX3_hasEntriesOf cX3_hasEntriesOf 6 (some .boolean), Cond.fieldLink RX3 21 "PushedTables$Table" "store" "LPushedTables$Store;", Cond.fieldLink RX3 85 "PushedTables$Store" "marks" "[I", Cond.fieldLink RX3 88 "PushedTables$Store" "values" "[I", Cond.methodLink RX3 44 yX1_shiftOf, Cond.instanceMethod yX1_shiftOf, Cond.selects RX1 yX1_shiftOf yX1_shiftOf, Cond.code yX1_shiftOf cX1_shiftOf 2 (some .int), Cond.methodLink RX3 48 yX1_isEntry, Cond.instanceMethod yX1_isEntry, Cond.selects RX1 yX1_isEntry yX1_isEntry, Cond.code yX1_isEntry cX1_isEntry 3 (some .boolean), Cond.methodLink RX1 54 yX1_valueAt, Cond.methodLink RX3 52 yX1_valueAt]
def wsX5_set_r4 : List Cond := [Cond.methodLink RX3 63 yX3_leaveForm, Cond.instanceMethod yX3_leaveForm, Cond.selects RX3 yX3_leaveForm yX3_leaveForm, Cond.code yX3_leaveForm cX3_leaveForm 4 none, Cond.fieldLink RX3 82 "PushedTables$State" "shifts" "[I", Cond.methodLink RX3 76 yX1_sharersOf, Cond.instanceMethod yX1_sharersOf, Cond.selects RX1 yX1_sharersOf yX1_sharersOf, Cond.code yX1_sharersOf cX1_sharersOf 4 (some .int), Cond.methodLink RX3 79 yX2_takeOut, Cond.instanceMethod yX2_takeOut, Cond.selects RX2 yX2_takeOut yX2_takeOut, Cond.initialized RX2, Cond.code yX2_takeOut cX2_takeOut 4 none, Cond.fieldLink RX2 15 "PushedTables$Store" "marks" "[I", Cond.methodLink RX2 27 yX2_fillCell, Cond.instanceMethod yX2_fillCell, Cond.selects RX2 yX2_fillCell yX2_fillCell, Cond.code yX2_fillCell cX2_fillCell 4 none, Cond.fieldLink RX2 9 "PushedTables$Store" "values" "[I", Cond.methodLink RX3 66 yX1_columnsOf, Cond.instanceMethod yX1_columnsOf, Cond.selects RX1 yX1_columnsOf yX1_columnsOf, Cond.code yX1_columnsOf cX1_columnsOf 4 (some .int)]
def wsX5_set_r5 : List Cond := [Cond.methodLink RX1 46 yX1_isEntry, Cond.methodLink RX3 69 yX3_formWithEntriesOf, Cond.instanceMethod yX3_formWithEntriesOf, Cond.selects RX3 yX3_formWithEntriesOf yX3_formWithEntriesOf, Cond.code yX3_formWithEntriesOf cX3_formWithEntriesOf 3 (some .int), Cond.methodLink RX3 72 yX3_pushNewForm, Cond.instanceMethod yX3_pushNewForm, Cond.selects RX3 yX3_pushNewForm yX3_pushNewForm, Cond.code yX3_pushNewForm cX3_pushNewForm 5 none, Cond.methodLink RX3 91 yX1_freeForm, Cond.instanceMethod yX1_freeForm, Cond.selects RX1 yX1_freeForm yX1_freeForm, Cond.code yX1_freeForm cX1_freeForm 2 (some .int), Cond.methodLink RX3 95 yX2_firstFit, Cond.instanceMethod yX2_firstFit, Cond.selects RX2 yX2_firstFit yX2_firstFit, Cond.code yX2_firstFit cX2_firstFit 3 (some .int), Cond.methodLink RX2 31 yX2_fitsAt, Cond.instanceMethod yX2_fitsAt, Cond.selects RX2 yX2_fitsAt yX2_fitsAt, Cond.code yX2_fitsAt cX2_fitsAt 4 (some .boolean), Cond.methodLink RX2 35 yX2_isEmptyAt, Cond.instanceMethod yX2_isEmptyAt, Cond.selects RX2 yX2_isEmptyAt yX2_isEmptyAt]
def wsX5_set_r6 : List Cond := [Cond.code yX2_isEmptyAt cX2_isEmptyAt 2 (some .boolean), Cond.methodLink RX3 36 yX3_fillCellsOf, Cond.instanceMethod yX3_fillCellsOf, Cond.selects RX3 yX3_fillCellsOf yX3_fillCellsOf, Cond.code yX3_fillCellsOf cX3_fillCellsOf 5 none, Cond.methodLink RX3 56 yX2_fillCell]
def wsX5_set : List Cond := .code yX5_set cX5_set 5 (some .int) :: ((wsX5_set_r1 ++ (wsX5_set_r2 ++ (wsX5_set_r3 ++ (wsX5_set_r4 ++ (wsX5_set_r5 ++ wsX5_set_r6))))) ++ wsX50 ++ wsX30 ++ wsX10 ++ wsX00 ++ wsX20)
def wsX5_setDefault_r1 : List Cond := [Cond.fieldLink RX5 22 "PushedTables" "history" "LPushedTables$History;", Cond.fieldLink RX5 12 "PushedTables" "table" "LPushedTables$Table;", Cond.fieldLink RX5 37 "PushedTables$Table" "state" "LPushedTables$State;", Cond.methodLink RX5 55 yX5_isRow, Cond.instanceMethod yX5_isRow, Cond.selects RX5 yX5_isRow yX5_isRow, Cond.initialized RX5, Cond.code yX5_isRow cX5_isRow 2 (some .boolean), Cond.fieldLink RX5 41 "PushedTables$State" "rowCount" "I", Cond.methodLink RX5 33 yX5_isValue, Cond.static yX5_isValue, Cond.code yX5_isValue cX5_isValue 1 (some .boolean), Cond.methodLink RX5 47 yX0_remember, Cond.instanceMethod yX0_remember, Cond.selects RX0 yX0_remember yX0_remember, Cond.initialized RX0, Cond.code yX0_remember cX0_remember 2 none, Cond.fieldLink RX0 9 "PushedTables$History" "size" "I", Cond.fieldLink RX0 17 "PushedTables$History" "states" "[LPushedTables$State;", Cond.methodLink RX0 22 yX0_dropOldest, Cond.instanceMethod yX0_dropOldest, Cond.selects RX0 yX0_dropOldest yX0_dropOldest, Cond.code yX0_dropOldest cX0_dropOldest 3 none, Cond.methodLink RX0 25 yX1_copyFrom]
def wsX5_setDefault_r2 : List Cond := [Cond.instanceMethod yX1_copyFrom, Cond.selects RX1 yX1_copyFrom yX1_copyFrom, Cond.initialized RX1, Cond.code yX1_copyFrom cX1_copyFrom 2 none, Cond.fieldLink RX1 9 "PushedTables$State" "rowCount" "I", Cond.fieldLink RX1 15 "PushedTables$State" "defaults" "[I", Cond.methodLink RX1 31 arraycopyName, Cond.native arraycopyName, Cond.static arraycopyName, Cond.initialized "java/lang/System", Cond.fieldLink RX1 19 "PushedTables$State" "values" "[I", Cond.fieldLink RX1 22 "PushedTables$State" "forms" "[I", Cond.fieldLink RX1 25 "PushedTables$State" "shifts" "[I", Cond.methodLink RX5 73 yX1_changeDefault, Cond.instanceMethod yX1_changeDefault, Cond.selects RX1 yX1_changeDefault yX1_changeDefault, Cond.code yX1_changeDefault cX1_changeDefault 4 none, Cond.methodLink RX1 46 yX1_isEntry, Cond.instanceMethod yX1_isEntry, Cond.selects RX1 yX1_isEntry yX1_isEntry, Cond.code yX1_isEntry cX1_isEntry 3 (some .boolean), Cond.methodLink RX1 54 yX1_valueAt, Cond.instanceMethod yX1_valueAt, Cond.selects RX1 yX1_valueAt yX1_valueAt]
def wsX5_setDefault_r3 : List Cond := [Cond.code yX1_valueAt cX1_valueAt 3 (some .int), Cond.methodLink RX1 50 yX1_changeValue, Cond.instanceMethod yX1_changeValue, Cond.selects RX1 yX1_changeValue yX1_changeValue, Cond.code yX1_changeValue cX1_changeValue 4 none, Cond.methodLink RX5 69 yX3_settle, Cond.instanceMethod yX3_settle, Cond.selects RX3 yX3_settle yX3_settle, Cond.initialized RX3, Cond.code yX3_settle cX3_settle 3 none, Cond.fieldLink RX3 12 "PushedTables$Table" "state" "LPushedTables$State;", Cond.fieldLink RX3 40 "PushedTables$State" "forms" "[I", Cond.methodLink RX3 60 yX3_hasEntriesOf, Cond.instanceMethod yX3_hasEntriesOf, Cond.selects RX3 yX3_hasEntriesOf yX3_hasEntriesOf, Cond.code yX3_hasEntriesOf cX3_hasEntriesOf 6 (some .boolean), Cond.fieldLink RX3 21 "PushedTables$Table" "store" "LPushedTables$Store;", Cond.fieldLink RX3 85 "PushedTables$Store" "marks" "[I", Cond.fieldLink RX3 88 "PushedTables$Store" "values" "[I", Cond.methodLink RX3 44 yX1_shiftOf, Cond.instanceMethod yX1_shiftOf, Cond.selects RX1 yX1_shiftOf yX1_shiftOf, Cond.code yX1_shiftOf cX1_shiftOf 2 (some .int), Cond.methodLink RX3 48 yX1_isEntry]
def wsX5_setDefault_r4 : List Cond := [Cond.methodLink RX3 52 yX1_valueAt, Cond.methodLink RX3 63 yX3_leaveForm, Cond.instanceMethod yX3_leaveForm, Cond.selects RX3 yX3_leaveForm yX3_leaveForm, Cond.code yX3_leaveForm cX3_leaveForm 4 none, Cond.fieldLink RX3 82 "PushedTables$State" "shifts" "[I", Cond.methodLink RX3 76 yX1_sharersOf, Cond.instanceMethod yX1_sharersOf, Cond.selects RX1 yX1_sharersOf yX1_sharersOf, Cond.code yX1_sharersOf cX1_sharersOf 4 (some .int), Cond.methodLink RX3 79 yX2_takeOut, Cond.instanceMethod yX2_takeOut, Cond.selects RX2 yX2_takeOut yX2_takeOut, Cond.initialized RX2, Cond.code yX2_takeOut cX2_takeOut 4 none, Cond.fieldLink RX2 15 "PushedTables$Store" "marks" "[I", Cond.methodLink RX2 27 yX2_fillCell, Cond.instanceMethod yX2_fillCell, Cond.selects RX2 yX2_fillCell yX2_fillCell, Cond.code yX2_fillCell cX2_fillCell 4 none, Cond.fieldLink RX2 9 "PushedTables$Store" "values" "[I", Cond.methodLink RX3 66 yX1_columnsOf, Cond.instanceMethod yX1_columnsOf, Cond.selects RX1 yX1_columnsOf yX1_columnsOf]
def wsX5_setDefault_r5 : List Cond := [Cond.code yX1_columnsOf cX1_columnsOf 4 (some .int), Cond.methodLink RX3 69 yX3_formWithEntriesOf, Cond.instanceMethod yX3_formWithEntriesOf, Cond.selects RX3 yX3_formWithEntriesOf yX3_formWithEntriesOf, Cond.code yX3_formWithEntriesOf cX3_formWithEntriesOf 3 (some .int), Cond.methodLink RX3 72 yX3_pushNewForm, Cond.instanceMethod yX3_pushNewForm, Cond.selects RX3 yX3_pushNewForm yX3_pushNewForm, Cond.code yX3_pushNewForm cX3_pushNewForm 5 none, Cond.methodLink RX3 91 yX1_freeForm, Cond.instanceMethod yX1_freeForm, Cond.selects RX1 yX1_freeForm yX1_freeForm, Cond.code yX1_freeForm cX1_freeForm 2 (some .int), Cond.methodLink RX3 95 yX2_firstFit, Cond.instanceMethod yX2_firstFit, Cond.selects RX2 yX2_firstFit yX2_firstFit, Cond.code yX2_firstFit cX2_firstFit 3 (some .int), Cond.methodLink RX2 31 yX2_fitsAt, Cond.instanceMethod yX2_fitsAt, Cond.selects RX2 yX2_fitsAt yX2_fitsAt, Cond.code yX2_fitsAt cX2_fitsAt 4 (some .boolean), Cond.methodLink RX2 35 yX2_isEmptyAt, Cond.instanceMethod yX2_isEmptyAt, Cond.selects RX2 yX2_isEmptyAt yX2_isEmptyAt]
def wsX5_setDefault_r6 : List Cond := [Cond.code yX2_isEmptyAt cX2_isEmptyAt 2 (some .boolean), Cond.methodLink RX3 36 yX3_fillCellsOf, Cond.instanceMethod yX3_fillCellsOf, Cond.selects RX3 yX3_fillCellsOf yX3_fillCellsOf, Cond.code yX3_fillCellsOf cX3_fillCellsOf 5 none, Cond.methodLink RX3 56 yX2_fillCell, Cond.methodLink RX5 77 yX1_weightOf, Cond.instanceMethod yX1_weightOf, Cond.selects RX1 yX1_weightOf yX1_weightOf, Cond.code yX1_weightOf cX1_weightOf 2 (some .int), Cond.methodLink RX1 58 yX1_columnsOf, Cond.methodLink RX1 62 yJ6_bitCount_0f7a4, Cond.static yJ6_bitCount_0f7a4, Cond.initialized RJ6, Cond.code yJ6_bitCount_0f7a4 cJ6_bitCount_0f7a4 1 (some .int), Cond.constant RJ6 265 (1431655765), Cond.constant RJ6 266 (858993459), Cond.constant RJ6 267 (252645135)]
def wsX5_setDefault : List Cond := .code yX5_setDefault cX5_setDefault 3 (some .int) :: ((wsX5_setDefault_r1 ++ (wsX5_setDefault_r2 ++ (wsX5_setDefault_r3 ++ (wsX5_setDefault_r4 ++ (wsX5_setDefault_r5 ++ wsX5_setDefault_r6))))) ++ wsX50 ++ wsX30 ++ wsX10 ++ wsX00 ++ wsX20)
def wsX5_removeLast_r1 : List Cond := [Cond.fieldLink RX5 12 "PushedTables" "table" "LPushedTables$Table;", Cond.fieldLink RX5 37 "PushedTables$Table" "state" "LPushedTables$State;", Cond.fieldLink RX5 41 "PushedTables$State" "rowCount" "I", Cond.fieldLink RX5 22 "PushedTables" "history" "LPushedTables$History;", Cond.methodLink RX5 47 yX0_remember, Cond.instanceMethod yX0_remember, Cond.selects RX0 yX0_remember yX0_remember, Cond.initialized RX0, Cond.code yX0_remember cX0_remember 2 none, Cond.fieldLink RX0 9 "PushedTables$History" "size" "I", Cond.fieldLink RX0 17 "PushedTables$History" "states" "[LPushedTables$State;", Cond.methodLink RX0 22 yX0_dropOldest, Cond.instanceMethod yX0_dropOldest, Cond.selects RX0 yX0_dropOldest yX0_dropOldest, Cond.code yX0_dropOldest cX0_dropOldest 3 none, Cond.methodLink RX0 25 yX1_copyFrom, Cond.instanceMethod yX1_copyFrom, Cond.selects RX1 yX1_copyFrom yX1_copyFrom, Cond.initialized RX1, Cond.code yX1_copyFrom cX1_copyFrom 2 none, Cond.fieldLink RX1 9 "PushedTables$State" "rowCount" "I", Cond.fieldLink RX1 15 "PushedTables$State" "defaults" "[I", Cond.methodLink RX1 31 arraycopyName, Cond.native arraycopyName]
def wsX5_removeLast_r2 : List Cond := [Cond.static arraycopyName, Cond.initialized "java/lang/System", Cond.fieldLink RX1 19 "PushedTables$State" "values" "[I", Cond.fieldLink RX1 22 "PushedTables$State" "forms" "[I", Cond.fieldLink RX1 25 "PushedTables$State" "shifts" "[I", Cond.methodLink RX5 80 yX3_leaveForm, Cond.instanceMethod yX3_leaveForm, Cond.selects RX3 yX3_leaveForm yX3_leaveForm, Cond.initialized RX3, Cond.code yX3_leaveForm cX3_leaveForm 4 none, Cond.fieldLink RX3 12 "PushedTables$Table" "state" "LPushedTables$State;", Cond.fieldLink RX3 40 "PushedTables$State" "forms" "[I", Cond.fieldLink RX3 21 "PushedTables$Table" "store" "LPushedTables$Store;", Cond.fieldLink RX3 82 "PushedTables$State" "shifts" "[I", Cond.methodLink RX3 44 yX1_shiftOf, Cond.instanceMethod yX1_shiftOf, Cond.selects RX1 yX1_shiftOf yX1_shiftOf, Cond.code yX1_shiftOf cX1_shiftOf 2 (some .int), Cond.methodLink RX3 76 yX1_sharersOf, Cond.instanceMethod yX1_sharersOf, Cond.selects RX1 yX1_sharersOf yX1_sharersOf, Cond.code yX1_sharersOf cX1_sharersOf 4 (some .int), Cond.methodLink RX3 79 yX2_takeOut, Cond.instanceMethod yX2_takeOut]
def wsX5_removeLast_r3 : List Cond := [Cond.selects RX2 yX2_takeOut yX2_takeOut, Cond.initialized RX2, Cond.code yX2_takeOut cX2_takeOut 4 none, Cond.fieldLink RX2 15 "PushedTables$Store" "marks" "[I", Cond.methodLink RX2 27 yX2_fillCell, Cond.instanceMethod yX2_fillCell, Cond.selects RX2 yX2_fillCell yX2_fillCell, Cond.code yX2_fillCell cX2_fillCell 4 none, Cond.fieldLink RX2 9 "PushedTables$Store" "values" "[I"]
def wsX5_removeLast : List Cond := .code yX5_removeLast cX5_removeLast 1 (some .int) :: ((wsX5_removeLast_r1 ++ (wsX5_removeLast_r2 ++ wsX5_removeLast_r3)) ++ wsX50 ++ wsX30 ++ wsX10 ++ wsX00 ++ wsX20)
def wsX5_slim_r1 : List Cond := [Cond.fieldLink RX5 22 "PushedTables" "history" "LPushedTables$History;", Cond.fieldLink RX5 12 "PushedTables" "table" "LPushedTables$Table;", Cond.fieldLink RX5 37 "PushedTables$Table" "state" "LPushedTables$State;", Cond.fieldLink RX5 83 "PushedTables$State" "defaults" "[I", Cond.methodLink RX5 55 yX5_isRow, Cond.instanceMethod yX5_isRow, Cond.selects RX5 yX5_isRow yX5_isRow, Cond.initialized RX5, Cond.code yX5_isRow cX5_isRow 2 (some .boolean), Cond.fieldLink RX5 41 "PushedTables$State" "rowCount" "I", Cond.methodLink RX5 47 yX0_remember, Cond.instanceMethod yX0_remember, Cond.selects RX0 yX0_remember yX0_remember, Cond.initialized RX0, Cond.code yX0_remember cX0_remember 2 none, Cond.fieldLink RX0 9 "PushedTables$History" "size" "I", Cond.fieldLink RX0 17 "PushedTables$History" "states" "[LPushedTables$State;", Cond.methodLink RX0 22 yX0_dropOldest, Cond.instanceMethod yX0_dropOldest, Cond.selects RX0 yX0_dropOldest yX0_dropOldest, Cond.code yX0_dropOldest cX0_dropOldest 3 none, Cond.methodLink RX0 25 yX1_copyFrom, Cond.instanceMethod yX1_copyFrom, Cond.selects RX1 yX1_copyFrom yX1_copyFrom]
def wsX5_slim_r2 : List Cond := [Cond.initialized RX1, Cond.code yX1_copyFrom cX1_copyFrom 2 none, Cond.fieldLink RX1 9 "PushedTables$State" "rowCount" "I", Cond.fieldLink RX1 15 "PushedTables$State" "defaults" "[I", Cond.methodLink RX1 31 arraycopyName, Cond.native arraycopyName, Cond.static arraycopyName, Cond.initialized "java/lang/System", Cond.fieldLink RX1 19 "PushedTables$State" "values" "[I", Cond.fieldLink RX1 22 "PushedTables$State" "forms" "[I", Cond.fieldLink RX1 25 "PushedTables$State" "shifts" "[I", Cond.methodLink RX5 87 yX1_commonestValue, Cond.instanceMethod yX1_commonestValue, Cond.selects RX1 yX1_commonestValue yX1_commonestValue, Cond.code yX1_commonestValue cX1_commonestValue 7 (some .int), Cond.methodLink RX1 54 yX1_valueAt, Cond.instanceMethod yX1_valueAt, Cond.selects RX1 yX1_valueAt yX1_valueAt, Cond.code yX1_valueAt cX1_valueAt 3 (some .int), Cond.methodLink RX1 70 yX1_cellsWith, Cond.instanceMethod yX1_cellsWith, Cond.selects RX1 yX1_cellsWith yX1_cellsWith, Cond.code yX1_cellsWith cX1_cellsWith 5 (some .int), Cond.methodLink RX5 69 yX3_settle]
def wsX5_slim_r3 : List Cond := [Cond.instanceMethod yX3_settle, Cond.selects RX3 yX3_settle yX3_settle, Cond.initialized RX3, Cond.code yX3_settle cX3_settle 3 none, Cond.fieldLink RX3 12 "PushedTables$Table" "state" "LPushedTables$State;", Cond.fieldLink RX3 40 "PushedTables$State" "forms" "[I", Cond.methodLink RX3 60 yX3_hasEntriesOf, Cond.instanceMethod yX3_hasEntriesOf, Cond.selects RX3 yX3_hasEntriesOf yX3_hasEntriesOf, Cond.code yX3_hasEntriesOf cX3_hasEntriesOf 6 (some .boolean), Cond.fieldLink RX3 21 "PushedTables$Table" "store" "LPushedTables$Store;", Cond.fieldLink RX3 85 "PushedTables$Store" "marks" "[I", Cond.fieldLink RX3 88 "PushedTables$Store" "values" "[I", Cond.methodLink RX3 44 yX1_shiftOf, Cond.instanceMethod yX1_shiftOf, Cond.selects RX1 yX1_shiftOf yX1_shiftOf, Cond.code yX1_shiftOf cX1_shiftOf 2 (some .int), Cond.methodLink RX3 48 yX1_isEntry, Cond.instanceMethod yX1_isEntry, Cond.selects RX1 yX1_isEntry yX1_isEntry, Cond.code yX1_isEntry cX1_isEntry 3 (some .boolean), Cond.methodLink RX3 52 yX1_valueAt, Cond.methodLink RX3 63 yX3_leaveForm, Cond.instanceMethod yX3_leaveForm]
def wsX5_slim_r4 : List Cond := [Cond.selects RX3 yX3_leaveForm yX3_leaveForm, Cond.code yX3_leaveForm cX3_leaveForm 4 none, Cond.fieldLink RX3 82 "PushedTables$State" "shifts" "[I", Cond.methodLink RX3 76 yX1_sharersOf, Cond.instanceMethod yX1_sharersOf, Cond.selects RX1 yX1_sharersOf yX1_sharersOf, Cond.code yX1_sharersOf cX1_sharersOf 4 (some .int), Cond.methodLink RX3 79 yX2_takeOut, Cond.instanceMethod yX2_takeOut, Cond.selects RX2 yX2_takeOut yX2_takeOut, Cond.initialized RX2, Cond.code yX2_takeOut cX2_takeOut 4 none, Cond.fieldLink RX2 15 "PushedTables$Store" "marks" "[I", Cond.methodLink RX2 27 yX2_fillCell, Cond.instanceMethod yX2_fillCell, Cond.selects RX2 yX2_fillCell yX2_fillCell, Cond.code yX2_fillCell cX2_fillCell 4 none, Cond.fieldLink RX2 9 "PushedTables$Store" "values" "[I", Cond.methodLink RX3 66 yX1_columnsOf, Cond.instanceMethod yX1_columnsOf, Cond.selects RX1 yX1_columnsOf yX1_columnsOf, Cond.code yX1_columnsOf cX1_columnsOf 4 (some .int), Cond.methodLink RX1 46 yX1_isEntry, Cond.methodLink RX3 69 yX3_formWithEntriesOf]
def wsX5_slim_r5 : List Cond := [Cond.instanceMethod yX3_formWithEntriesOf, Cond.selects RX3 yX3_formWithEntriesOf yX3_formWithEntriesOf, Cond.code yX3_formWithEntriesOf cX3_formWithEntriesOf 3 (some .int), Cond.methodLink RX3 72 yX3_pushNewForm, Cond.instanceMethod yX3_pushNewForm, Cond.selects RX3 yX3_pushNewForm yX3_pushNewForm, Cond.code yX3_pushNewForm cX3_pushNewForm 5 none, Cond.methodLink RX3 91 yX1_freeForm, Cond.instanceMethod yX1_freeForm, Cond.selects RX1 yX1_freeForm yX1_freeForm, Cond.code yX1_freeForm cX1_freeForm 2 (some .int), Cond.methodLink RX3 95 yX2_firstFit, Cond.instanceMethod yX2_firstFit, Cond.selects RX2 yX2_firstFit yX2_firstFit, Cond.code yX2_firstFit cX2_firstFit 3 (some .int), Cond.methodLink RX2 31 yX2_fitsAt, Cond.instanceMethod yX2_fitsAt, Cond.selects RX2 yX2_fitsAt yX2_fitsAt, Cond.code yX2_fitsAt cX2_fitsAt 4 (some .boolean), Cond.methodLink RX2 35 yX2_isEmptyAt, Cond.instanceMethod yX2_isEmptyAt, Cond.selects RX2 yX2_isEmptyAt yX2_isEmptyAt, Cond.code yX2_isEmptyAt cX2_isEmptyAt 2 (some .boolean), Cond.methodLink RX3 36 yX3_fillCellsOf]
def wsX5_slim_r6 : List Cond := [Cond.instanceMethod yX3_fillCellsOf, Cond.selects RX3 yX3_fillCellsOf yX3_fillCellsOf, Cond.code yX3_fillCellsOf cX3_fillCellsOf 5 none, Cond.methodLink RX3 56 yX2_fillCell]
def wsX5_slim : List Cond := .code yX5_slim cX5_slim 2 (some .int) :: ((wsX5_slim_r1 ++ (wsX5_slim_r2 ++ (wsX5_slim_r3 ++ (wsX5_slim_r4 ++ (wsX5_slim_r5 ++ wsX5_slim_r6))))) ++ wsX50 ++ wsX30 ++ wsX10 ++ wsX00 ++ wsX20)
def wsX5_push_r1 : List Cond := [Cond.fieldLink RX5 22 "PushedTables" "history" "LPushedTables$History;", Cond.fieldLink RX5 12 "PushedTables" "table" "LPushedTables$Table;", Cond.fieldLink RX5 37 "PushedTables$Table" "state" "LPushedTables$State;", Cond.fieldLink RX5 93 "PushedTables$Table" "store" "LPushedTables$Store;", Cond.methodLink RX5 47 yX0_remember, Cond.instanceMethod yX0_remember, Cond.selects RX0 yX0_remember yX0_remember, Cond.initialized RX0, Cond.code yX0_remember cX0_remember 2 none, Cond.fieldLink RX0 9 "PushedTables$History" "size" "I", Cond.fieldLink RX0 17 "PushedTables$History" "states" "[LPushedTables$State;", Cond.methodLink RX0 22 yX0_dropOldest, Cond.instanceMethod yX0_dropOldest, Cond.selects RX0 yX0_dropOldest yX0_dropOldest, Cond.code yX0_dropOldest cX0_dropOldest 3 none, Cond.methodLink RX0 25 yX1_copyFrom, Cond.instanceMethod yX1_copyFrom, Cond.selects RX1 yX1_copyFrom yX1_copyFrom, Cond.initialized RX1, Cond.code yX1_copyFrom cX1_copyFrom 2 none, Cond.fieldLink RX1 9 "PushedTables$State" "rowCount" "I", Cond.fieldLink RX1 15 "PushedTables$State" "defaults" "[I", Cond.methodLink RX1 31 arraycopyName, Cond.native arraycopyName]
def wsX5_push_r2 : List Cond := [Cond.static arraycopyName, Cond.initialized "java/lang/System", Cond.fieldLink RX1 19 "PushedTables$State" "values" "[I", Cond.fieldLink RX1 22 "PushedTables$State" "forms" "[I", Cond.fieldLink RX1 25 "PushedTables$State" "shifts" "[I", Cond.methodLink RX5 90 yX3_pushAnewByWeights, Cond.instanceMethod yX3_pushAnewByWeights, Cond.selects RX3 yX3_pushAnewByWeights yX3_pushAnewByWeights, Cond.initialized RX3, Cond.code yX3_pushAnewByWeights cX3_pushAnewByWeights 3 none, Cond.fieldLink RX3 12 "PushedTables$Table" "state" "LPushedTables$State;", Cond.fieldLink RX3 32 "PushedTables$State" "rowCount" "I", Cond.methodLink RX3 98 yX3_takeOutAll, Cond.instanceMethod yX3_takeOutAll, Cond.selects RX3 yX3_takeOutAll yX3_takeOutAll, Cond.code yX3_takeOutAll cX3_takeOutAll 1 none, Cond.fieldLink RX3 21 "PushedTables$Table" "store" "LPushedTables$Store;", Cond.instanceMethod yX1_forgetForms, Cond.selects RX1 yX1_forgetForms yX1_forgetForms, Cond.code yX1_forgetForms cX1_forgetForms 1 none, Cond.methodLink RX1 37 yJ7_fill_53178, Cond.static yJ7_fill_53178, Cond.initialized RJ7, Cond.code yJ7_fill_53178 cJ7_fill_53178 4 none]
def wsX5_push_r3 : List Cond := [Cond.methodLink RX3 29 yX2_emptyAll, Cond.instanceMethod yX2_emptyAll, Cond.selects RX2 yX2_emptyAll yX2_emptyAll, Cond.initialized RX2, Cond.code yX2_emptyAll cX2_emptyAll 1 none, Cond.fieldLink RX2 9 "PushedTables$Store" "values" "[I", Cond.fieldLink RX2 15 "PushedTables$Store" "marks" "[I", Cond.methodLink RX2 21 yJ7_fill_53178, Cond.methodLink RX3 101 yX1_weightOf, Cond.instanceMethod yX1_weightOf, Cond.selects RX1 yX1_weightOf yX1_weightOf, Cond.code yX1_weightOf cX1_weightOf 2 (some .int), Cond.methodLink RX1 58 yX1_columnsOf, Cond.instanceMethod yX1_columnsOf, Cond.selects RX1 yX1_columnsOf yX1_columnsOf, Cond.code yX1_columnsOf cX1_columnsOf 4 (some .int), Cond.methodLink RX1 46 yX1_isEntry, Cond.instanceMethod yX1_isEntry, Cond.selects RX1 yX1_isEntry yX1_isEntry, Cond.code yX1_isEntry cX1_isEntry 3 (some .boolean), Cond.methodLink RX1 54 yX1_valueAt, Cond.instanceMethod yX1_valueAt, Cond.selects RX1 yX1_valueAt yX1_valueAt, Cond.code yX1_valueAt cX1_valueAt 3 (some .int)]
def wsX5_push_r4 : List Cond := [Cond.methodLink RX1 62 yJ6_bitCount_0f7a4, Cond.static yJ6_bitCount_0f7a4, Cond.initialized RJ6, Cond.code yJ6_bitCount_0f7a4 cJ6_bitCount_0f7a4 1 (some .int), Cond.constant RJ6 265 (1431655765), Cond.constant RJ6 266 (858993459), Cond.constant RJ6 267 (252645135), Cond.methodLink RX3 104 yX3_settle, Cond.instanceMethod yX3_settle, Cond.selects RX3 yX3_settle yX3_settle, Cond.code yX3_settle cX3_settle 3 none, Cond.fieldLink RX3 40 "PushedTables$State" "forms" "[I", Cond.methodLink RX3 60 yX3_hasEntriesOf, Cond.instanceMethod yX3_hasEntriesOf, Cond.selects RX3 yX3_hasEntriesOf yX3_hasEntriesOf, Cond.code yX3_hasEntriesOf cX3_hasEntriesOf 6 (some .boolean), Cond.fieldLink RX3 85 "PushedTables$Store" "marks" "[I", Cond.fieldLink RX3 88 "PushedTables$Store" "values" "[I", Cond.methodLink RX3 44 yX1_shiftOf, Cond.instanceMethod yX1_shiftOf, Cond.selects RX1 yX1_shiftOf yX1_shiftOf, Cond.code yX1_shiftOf cX1_shiftOf 2 (some .int), Cond.methodLink RX3 48 yX1_isEntry, Cond.methodLink RX3 52 yX1_valueAt]
def wsX5_push_r5 : List Cond := [Cond.methodLink RX3 63 yX3_leaveForm, Cond.instanceMethod yX3_leaveForm, Cond.selects RX3 yX3_leaveForm yX3_leaveForm, Cond.code yX3_leaveForm cX3_leaveForm 4 none, Cond.fieldLink RX3 82 "PushedTables$State" "shifts" "[I", Cond.methodLink RX3 76 yX1_sharersOf, Cond.instanceMethod yX1_sharersOf, Cond.selects RX1 yX1_sharersOf yX1_sharersOf, Cond.code yX1_sharersOf cX1_sharersOf 4 (some .int), Cond.methodLink RX3 79 yX2_takeOut, Cond.instanceMethod yX2_takeOut, Cond.selects RX2 yX2_takeOut yX2_takeOut, Cond.code yX2_takeOut cX2_takeOut 4 none, Cond.methodLink RX2 27 yX2_fillCell, Cond.instanceMethod yX2_fillCell, Cond.selects RX2 yX2_fillCell yX2_fillCell, Cond.code yX2_fillCell cX2_fillCell 4 none, Cond.methodLink RX3 66 yX1_columnsOf, Cond.methodLink RX3 69 yX3_formWithEntriesOf, Cond.instanceMethod yX3_formWithEntriesOf, Cond.selects RX3 yX3_formWithEntriesOf yX3_formWithEntriesOf, Cond.code yX3_formWithEntriesOf cX3_formWithEntriesOf 3 (some .int), Cond.methodLink RX3 72 yX3_pushNewForm, Cond.instanceMethod yX3_pushNewForm]
def wsX5_push_r6 : List Cond := [Cond.selects RX3 yX3_pushNewForm yX3_pushNewForm, Cond.code yX3_pushNewForm cX3_pushNewForm 5 none, Cond.methodLink RX3 91 yX1_freeForm, Cond.instanceMethod yX1_freeForm, Cond.selects RX1 yX1_freeForm yX1_freeForm, Cond.code yX1_freeForm cX1_freeForm 2 (some .int), Cond.methodLink RX3 95 yX2_firstFit, Cond.instanceMethod yX2_firstFit, Cond.selects RX2 yX2_firstFit yX2_firstFit, Cond.code yX2_firstFit cX2_firstFit 3 (some .int), Cond.methodLink RX2 31 yX2_fitsAt, Cond.instanceMethod yX2_fitsAt, Cond.selects RX2 yX2_fitsAt yX2_fitsAt, Cond.code yX2_fitsAt cX2_fitsAt 4 (some .boolean), Cond.methodLink RX2 35 yX2_isEmptyAt, Cond.instanceMethod yX2_isEmptyAt, Cond.selects RX2 yX2_isEmptyAt yX2_isEmptyAt, Cond.code yX2_isEmptyAt cX2_isEmptyAt 2 (some .boolean), Cond.methodLink RX3 36 yX3_fillCellsOf, Cond.instanceMethod yX3_fillCellsOf, Cond.selects RX3 yX3_fillCellsOf yX3_fillCellsOf, Cond.code yX3_fillCellsOf cX3_fillCellsOf 5 none, Cond.methodLink RX3 56 yX2_fillCell, Cond.methodLink RX5 97 yX2_endOfCells]
def wsX5_push_r7 : List Cond := [Cond.instanceMethod yX2_endOfCells, Cond.selects RX2 yX2_endOfCells yX2_endOfCells, Cond.code yX2_endOfCells cX2_endOfCells 2 (some .int)]
def wsX5_push : List Cond := .code yX5_push cX5_push 1 (some .int) :: ((wsX5_push_r1 ++ (wsX5_push_r2 ++ (wsX5_push_r3 ++ (wsX5_push_r4 ++ (wsX5_push_r5 ++ (wsX5_push_r6 ++ wsX5_push_r7)))))) ++ wsX50 ++ wsX30 ++ wsX00 ++ wsX10 ++ wsX20)
def wsX5_undo_r1 : List Cond := [Cond.fieldLink RX5 22 "PushedTables" "history" "LPushedTables$History;", Cond.fieldLink RX5 103 "PushedTables$History" "size" "I", Cond.fieldLink RX5 12 "PushedTables" "table" "LPushedTables$Table;", Cond.methodLink RX5 106 yX0_takeLatest, Cond.instanceMethod yX0_takeLatest, Cond.selects RX0 yX0_takeLatest yX0_takeLatest, Cond.initialized RX0, Cond.code yX0_takeLatest cX0_takeLatest 1 (some (.object "PushedTables$State")), Cond.fieldLink RX0 9 "PushedTables$History" "size" "I", Cond.fieldLink RX0 17 "PushedTables$History" "states" "[LPushedTables$State;", Cond.methodLink RX5 110 yX3_restore, Cond.instanceMethod yX3_restore, Cond.selects RX3 yX3_restore yX3_restore, Cond.initialized RX3, Cond.code yX3_restore cX3_restore 3 none, Cond.fieldLink RX3 12 "PushedTables$Table" "state" "LPushedTables$State;", Cond.fieldLink RX3 21 "PushedTables$Table" "store" "LPushedTables$Store;", Cond.fieldLink RX3 32 "PushedTables$State" "rowCount" "I", Cond.methodLink RX3 25 yX1_copyFrom, Cond.instanceMethod yX1_copyFrom, Cond.selects RX1 yX1_copyFrom yX1_copyFrom, Cond.initialized RX1, Cond.code yX1_copyFrom cX1_copyFrom 2 none, Cond.fieldLink RX1 9 "PushedTables$State" "rowCount" "I"]
def wsX5_undo_r2 : List Cond := [Cond.fieldLink RX1 15 "PushedTables$State" "defaults" "[I", Cond.methodLink RX1 31 arraycopyName, Cond.native arraycopyName, Cond.static arraycopyName, Cond.initialized "java/lang/System", Cond.fieldLink RX1 19 "PushedTables$State" "values" "[I", Cond.fieldLink RX1 22 "PushedTables$State" "forms" "[I", Cond.fieldLink RX1 25 "PushedTables$State" "shifts" "[I", Cond.methodLink RX3 29 yX2_emptyAll, Cond.instanceMethod yX2_emptyAll, Cond.selects RX2 yX2_emptyAll yX2_emptyAll, Cond.initialized RX2, Cond.code yX2_emptyAll cX2_emptyAll 1 none, Cond.fieldLink RX2 9 "PushedTables$Store" "values" "[I", Cond.fieldLink RX2 15 "PushedTables$Store" "marks" "[I", Cond.methodLink RX2 21 yJ7_fill_53178, Cond.static yJ7_fill_53178, Cond.initialized RJ7, Cond.code yJ7_fill_53178 cJ7_fill_53178 4 none, Cond.methodLink RX3 36 yX3_fillCellsOf, Cond.instanceMethod yX3_fillCellsOf, Cond.selects RX3 yX3_fillCellsOf yX3_fillCellsOf, Cond.code yX3_fillCellsOf cX3_fillCellsOf 5 none, Cond.fieldLink RX3 40 "PushedTables$State" "forms" "[I"]
def wsX5_undo_r3 : List Cond := [Cond.methodLink RX3 44 yX1_shiftOf, Cond.instanceMethod yX1_shiftOf, Cond.selects RX1 yX1_shiftOf yX1_shiftOf, Cond.code yX1_shiftOf cX1_shiftOf 2 (some .int), Cond.methodLink RX3 48 yX1_isEntry, Cond.instanceMethod yX1_isEntry, Cond.selects RX1 yX1_isEntry yX1_isEntry, Cond.code yX1_isEntry cX1_isEntry 3 (some .boolean), Cond.methodLink RX1 54 yX1_valueAt, Cond.instanceMethod yX1_valueAt, Cond.selects RX1 yX1_valueAt yX1_valueAt, Cond.code yX1_valueAt cX1_valueAt 3 (some .int), Cond.methodLink RX3 52 yX1_valueAt, Cond.methodLink RX3 56 yX2_fillCell, Cond.instanceMethod yX2_fillCell, Cond.selects RX2 yX2_fillCell yX2_fillCell, Cond.code yX2_fillCell cX2_fillCell 4 none]
def wsX5_undo : List Cond := .code yX5_undo cX5_undo 1 (some .int) :: ((wsX5_undo_r1 ++ (wsX5_undo_r2 ++ wsX5_undo_r3)) ++ wsX50 ++ wsX00 ++ wsX30 ++ wsX10 ++ wsX20)
def wsX5_append : List Cond := .code yX5_append cX5_append 2 (some .int) :: ([.fieldLink RX5 29 "PushedTables" "text" "LPushedTables$Text;", .fieldLink RX5 113 "PushedTables$Text" "length" "I", .methodLink RX5 116 yX4_appendSign, .instanceMethod yX4_appendSign, .selects RX4 yX4_appendSign yX4_appendSign, .initialized RX4, .code yX4_appendSign cX4_appendSign 2 none, .fieldLink RX4 9 "PushedTables$Text" "length" "I", .fieldLink RX4 15 "PushedTables$Text" "signs" "[C"] ++ wsX50 ++ wsX40)
def wsX5_clearText : List Cond := .code yX5_clearText cX5_clearText 2 (some .int) :: ([.fieldLink RX5 29 "PushedTables" "text" "LPushedTables$Text;", .fieldLink RX5 113 "PushedTables$Text" "length" "I"] ++ wsX50 ++ wsX40)
def wsX5_addRowOfText_r1 : List Cond := [Cond.fieldLink RX5 12 "PushedTables" "table" "LPushedTables$Table;", Cond.fieldLink RX5 37 "PushedTables$Table" "state" "LPushedTables$State;", Cond.fieldLink RX5 29 "PushedTables" "text" "LPushedTables$Text;", Cond.fieldLink RX5 184 "PushedTables$Text" "defaults" "[I", Cond.methodLink RX5 51 yX1_addRow, Cond.instanceMethod yX1_addRow, Cond.selects RX1 yX1_addRow yX1_addRow, Cond.initialized RX1, Cond.code yX1_addRow cX1_addRow 3 (some .int), Cond.fieldLink RX1 9 "PushedTables$State" "rowCount" "I", Cond.fieldLink RX1 15 "PushedTables$State" "defaults" "[I", Cond.fieldLink RX1 19 "PushedTables$State" "values" "[I", Cond.fieldLink RX1 22 "PushedTables$State" "forms" "[I", Cond.methodLink RX1 43 yJ7_fill_fda19, Cond.static yJ7_fill_fda19, Cond.initialized RJ7, Cond.code yJ7_fill_fda19 cJ7_fill_fda19 5 none, Cond.methodLink RJ7 13 yJ7_rangeCheck_23922, Cond.static yJ7_rangeCheck_23922, Cond.code yJ7_rangeCheck_23922 cJ7_rangeCheck_23922 3 none, Cond.methodLink RX5 185 yX4_valueRead, Cond.instanceMethod yX4_valueRead, Cond.selects RX4 yX4_valueRead yX4_valueRead, Cond.initialized RX4]
def wsX5_addRowOfText_r2 : List Cond := [Cond.code yX4_valueRead cX4_valueRead 3 (some .int), Cond.fieldLink RX4 35 "PushedTables$Text" "values" "[I", Cond.methodLink RX5 65 yX1_changeValue, Cond.instanceMethod yX1_changeValue, Cond.selects RX1 yX1_changeValue yX1_changeValue, Cond.code yX1_changeValue cX1_changeValue 4 none, Cond.methodLink RX5 69 yX3_settle, Cond.instanceMethod yX3_settle, Cond.selects RX3 yX3_settle yX3_settle, Cond.initialized RX3, Cond.code yX3_settle cX3_settle 3 none, Cond.fieldLink RX3 12 "PushedTables$Table" "state" "LPushedTables$State;", Cond.fieldLink RX3 40 "PushedTables$State" "forms" "[I", Cond.methodLink RX3 60 yX3_hasEntriesOf, Cond.instanceMethod yX3_hasEntriesOf, Cond.selects RX3 yX3_hasEntriesOf yX3_hasEntriesOf, Cond.code yX3_hasEntriesOf cX3_hasEntriesOf 6 (some .boolean), Cond.fieldLink RX3 21 "PushedTables$Table" "store" "LPushedTables$Store;", Cond.fieldLink RX3 85 "PushedTables$Store" "marks" "[I", Cond.fieldLink RX3 88 "PushedTables$Store" "values" "[I", Cond.methodLink RX3 44 yX1_shiftOf, Cond.instanceMethod yX1_shiftOf, Cond.selects RX1 yX1_shiftOf yX1_shiftOf, Cond.code yX1_shiftOf cX1_shiftOf 2 (some .int)]
def wsX5_addRowOfText_r3 : List Cond := [Cond.fieldLink RX1 25 "PushedTables$State" "shifts" "[I", Cond.methodLink RX3 48 yX1_isEntry, Cond.instanceMethod yX1_isEntry, Cond.selects RX1 yX1_isEntry yX1_isEntry, Cond.code yX1_isEntry cX1_isEntry 3 (some .boolean), Cond.methodLink RX1 54 yX1_valueAt, Cond.instanceMethod yX1_valueAt, Cond.selects RX1 yX1_valueAt yX1_valueAt, Cond.code yX1_valueAt cX1_valueAt 3 (some .int), Cond.methodLink RX3 52 yX1_valueAt, Cond.methodLink RX3 63 yX3_leaveForm, Cond.instanceMethod yX3_leaveForm, Cond.selects RX3 yX3_leaveForm yX3_leaveForm, Cond.code yX3_leaveForm cX3_leaveForm 4 none, Cond.fieldLink RX3 82 "PushedTables$State" "shifts" "[I", Cond.methodLink RX3 76 yX1_sharersOf, Cond.instanceMethod yX1_sharersOf, Cond.selects RX1 yX1_sharersOf yX1_sharersOf, Cond.code yX1_sharersOf cX1_sharersOf 4 (some .int), Cond.methodLink RX3 79 yX2_takeOut, Cond.instanceMethod yX2_takeOut, Cond.selects RX2 yX2_takeOut yX2_takeOut, Cond.initialized RX2, Cond.code yX2_takeOut cX2_takeOut 4 none]
def wsX5_addRowOfText_r4 : List Cond := [Cond.fieldLink RX2 15 "PushedTables$Store" "marks" "[I", Cond.methodLink RX2 27 yX2_fillCell, Cond.instanceMethod yX2_fillCell, Cond.selects RX2 yX2_fillCell yX2_fillCell, Cond.code yX2_fillCell cX2_fillCell 4 none, Cond.fieldLink RX2 9 "PushedTables$Store" "values" "[I", Cond.methodLink RX3 66 yX1_columnsOf, Cond.instanceMethod yX1_columnsOf, Cond.selects RX1 yX1_columnsOf yX1_columnsOf, Cond.code yX1_columnsOf cX1_columnsOf 4 (some .int), Cond.methodLink RX1 46 yX1_isEntry, Cond.methodLink RX3 69 yX3_formWithEntriesOf, Cond.instanceMethod yX3_formWithEntriesOf, Cond.selects RX3 yX3_formWithEntriesOf yX3_formWithEntriesOf, Cond.code yX3_formWithEntriesOf cX3_formWithEntriesOf 3 (some .int), Cond.methodLink RX3 72 yX3_pushNewForm, Cond.instanceMethod yX3_pushNewForm, Cond.selects RX3 yX3_pushNewForm yX3_pushNewForm, Cond.code yX3_pushNewForm cX3_pushNewForm 5 none, Cond.methodLink RX3 91 yX1_freeForm, Cond.instanceMethod yX1_freeForm, Cond.selects RX1 yX1_freeForm yX1_freeForm, Cond.code yX1_freeForm cX1_freeForm 2 (some .int), Cond.methodLink RX3 95 yX2_firstFit]
def wsX5_addRowOfText_r5 : List Cond := [Cond.instanceMethod yX2_firstFit, Cond.selects RX2 yX2_firstFit yX2_firstFit, Cond.code yX2_firstFit cX2_firstFit 3 (some .int), Cond.methodLink RX2 31 yX2_fitsAt, Cond.instanceMethod yX2_fitsAt, Cond.selects RX2 yX2_fitsAt yX2_fitsAt, Cond.code yX2_fitsAt cX2_fitsAt 4 (some .boolean), Cond.methodLink RX2 35 yX2_isEmptyAt, Cond.instanceMethod yX2_isEmptyAt, Cond.selects RX2 yX2_isEmptyAt yX2_isEmptyAt, Cond.code yX2_isEmptyAt cX2_isEmptyAt 2 (some .boolean), Cond.methodLink RX3 36 yX3_fillCellsOf, Cond.instanceMethod yX3_fillCellsOf, Cond.selects RX3 yX3_fillCellsOf yX3_fillCellsOf, Cond.code yX3_fillCellsOf cX3_fillCellsOf 5 none, Cond.methodLink RX3 56 yX2_fillCell]
def wsX5_addRowOfText : List Cond := .code yX5_addRowOfText cX5_addRowOfText 4 none :: ((wsX5_addRowOfText_r1 ++ (wsX5_addRowOfText_r2 ++ (wsX5_addRowOfText_r3 ++ (wsX5_addRowOfText_r4 ++ wsX5_addRowOfText_r5)))) ++ wsX50 ++ wsX30 ++ wsX40 ++ wsX10 ++ wsX20)
def wsX5_read_r1 : List Cond := [Cond.fieldLink RX5 29 "PushedTables" "text" "LPushedTables$Text;", Cond.fieldLink RX5 12 "PushedTables" "table" "LPushedTables$Table;", Cond.fieldLink RX5 37 "PushedTables$Table" "state" "LPushedTables$State;", Cond.fieldLink RX5 41 "PushedTables$State" "rowCount" "I", Cond.fieldLink RX5 123 "PushedTables$Text" "place" "I", Cond.fieldLink RX5 22 "PushedTables" "history" "LPushedTables$History;", Cond.fieldLink RX5 126 "PushedTables$Text" "rowsRead" "I", Cond.fieldLink RX5 113 "PushedTables$Text" "length" "I", Cond.methodLink RX5 120 yX4_readTable, Cond.instanceMethod yX4_readTable, Cond.selects RX4 yX4_readTable yX4_readTable, Cond.initialized RX4, Cond.code yX4_readTable cX4_readTable 3 (some .boolean), Cond.fieldLink RX4 19 "PushedTables$Text" "place" "I", Cond.fieldLink RX4 9 "PushedTables$Text" "length" "I", Cond.fieldLink RX4 28 "PushedTables$Text" "rowsRead" "I", Cond.methodLink RX4 38 yX4_skipSpaces, Cond.instanceMethod yX4_skipSpaces, Cond.selects RX4 yX4_skipSpaces yX4_skipSpaces, Cond.code yX4_skipSpaces cX4_skipSpaces 1 none, Cond.methodLink RX4 76 yX4_signHere, Cond.instanceMethod yX4_signHere, Cond.selects RX4 yX4_signHere yX4_signHere, Cond.code yX4_signHere cX4_signHere 1 (some .char)]
def wsX5_read_r2 : List Cond := [Cond.fieldLink RX4 15 "PushedTables$Text" "signs" "[C", Cond.methodLink RX4 41 yX4_readRow, Cond.instanceMethod yX4_readRow, Cond.selects RX4 yX4_readRow yX4_readRow, Cond.code yX4_readRow cX4_readRow 2 (some .boolean), Cond.fieldLink RX4 31 "PushedTables$Text" "defaults" "[I", Cond.fieldLink RX4 22 "PushedTables$Text" "number" "I", Cond.fieldLink RX4 35 "PushedTables$Text" "values" "[I", Cond.methodLink RX4 45 yX4_isDigitHere, Cond.instanceMethod yX4_isDigitHere, Cond.selects RX4 yX4_isDigitHere yX4_isDigitHere, Cond.code yX4_isDigitHere cX4_isDigitHere 1 (some .boolean), Cond.methodLink RX4 49 yX4_readNumber, Cond.instanceMethod yX4_readNumber, Cond.selects RX4 yX4_readNumber yX4_readNumber, Cond.code yX4_readNumber cX4_readNumber 1 (some .boolean), Cond.fieldLink RX4 25 "PushedTables$Text" "numberPlace" "I", Cond.methodLink RX4 72 yX4_takeDigit, Cond.instanceMethod yX4_takeDigit, Cond.selects RX4 yX4_takeDigit yX4_takeDigit, Cond.code yX4_takeDigit cX4_takeDigit 2 (some .int), Cond.methodLink RX4 52 yJ7_fill_fda19, Cond.static yJ7_fill_fda19, Cond.initialized RJ7]
def wsX5_read_r3 : List Cond := [Cond.code yJ7_fill_fda19 cJ7_fill_fda19 5 none, Cond.methodLink RJ7 13 yJ7_rangeCheck_23922, Cond.static yJ7_rangeCheck_23922, Cond.code yJ7_rangeCheck_23922 cJ7_rangeCheck_23922 3 none, Cond.methodLink RX4 58 yX4_takeSign, Cond.instanceMethod yX4_takeSign, Cond.selects RX4 yX4_takeSign yX4_takeSign, Cond.code yX4_takeSign cX4_takeSign 2 (some .boolean), Cond.methodLink RX4 62 yX4_readEntries, Cond.instanceMethod yX4_readEntries, Cond.selects RX4 yX4_readEntries yX4_readEntries, Cond.code yX4_readEntries cX4_readEntries 5 (some .boolean), Cond.static yX5_isColumn, Cond.initialized RX5, Cond.code yX5_isColumn cX5_isColumn 1 (some .boolean), Cond.methodLink RX4 68 yX4_allowNumber, Cond.instanceMethod yX4_allowNumber, Cond.selects RX4 yX4_allowNumber yX4_allowNumber, Cond.code yX4_allowNumber cX4_allowNumber 2 (some .boolean), Cond.methodLink RX5 47 yX0_remember, Cond.instanceMethod yX0_remember, Cond.selects RX0 yX0_remember yX0_remember, Cond.initialized RX0, Cond.code yX0_remember cX0_remember 2 none]
def wsX5_read_r4 : List Cond := [Cond.fieldLink RX0 9 "PushedTables$History" "size" "I", Cond.fieldLink RX0 17 "PushedTables$History" "states" "[LPushedTables$State;", Cond.methodLink RX0 22 yX0_dropOldest, Cond.instanceMethod yX0_dropOldest, Cond.selects RX0 yX0_dropOldest yX0_dropOldest, Cond.code yX0_dropOldest cX0_dropOldest 3 none, Cond.methodLink RX0 25 yX1_copyFrom, Cond.instanceMethod yX1_copyFrom, Cond.selects RX1 yX1_copyFrom yX1_copyFrom, Cond.initialized RX1, Cond.code yX1_copyFrom cX1_copyFrom 2 none, Cond.fieldLink RX1 9 "PushedTables$State" "rowCount" "I", Cond.fieldLink RX1 15 "PushedTables$State" "defaults" "[I", Cond.methodLink RX1 31 arraycopyName, Cond.native arraycopyName, Cond.static arraycopyName, Cond.initialized "java/lang/System", Cond.fieldLink RX1 19 "PushedTables$State" "values" "[I", Cond.fieldLink RX1 22 "PushedTables$State" "forms" "[I", Cond.fieldLink RX1 25 "PushedTables$State" "shifts" "[I", Cond.methodLink RX5 129 yX5_addRowOfText, Cond.instanceMethod yX5_addRowOfText, Cond.selects RX5 yX5_addRowOfText yX5_addRowOfText, Cond.code yX5_addRowOfText cX5_addRowOfText 4 none]
def wsX5_read_r5 : List Cond := [Cond.fieldLink RX5 184 "PushedTables$Text" "defaults" "[I", Cond.methodLink RX5 51 yX1_addRow, Cond.instanceMethod yX1_addRow, Cond.selects RX1 yX1_addRow yX1_addRow, Cond.code yX1_addRow cX1_addRow 3 (some .int), Cond.methodLink RX1 43 yJ7_fill_fda19, Cond.methodLink RX5 185 yX4_valueRead, Cond.instanceMethod yX4_valueRead, Cond.selects RX4 yX4_valueRead yX4_valueRead, Cond.code yX4_valueRead cX4_valueRead 3 (some .int), Cond.methodLink RX5 65 yX1_changeValue, Cond.instanceMethod yX1_changeValue, Cond.selects RX1 yX1_changeValue yX1_changeValue, Cond.code yX1_changeValue cX1_changeValue 4 none, Cond.methodLink RX5 69 yX3_settle, Cond.instanceMethod yX3_settle, Cond.selects RX3 yX3_settle yX3_settle, Cond.initialized RX3, Cond.code yX3_settle cX3_settle 3 none, Cond.fieldLink RX3 12 "PushedTables$Table" "state" "LPushedTables$State;", Cond.fieldLink RX3 40 "PushedTables$State" "forms" "[I", Cond.methodLink RX3 60 yX3_hasEntriesOf, Cond.instanceMethod yX3_hasEntriesOf, Cond.selects RX3 yX3_hasEntriesOf yX3_hasEntriesOf]
def wsX5_read_r6 : List Cond := [Cond.code yX3_hasEntriesOf cX3_hasEntriesOf 6 (some .boolean), Cond.fieldLink RX3 21 "PushedTables$Table" "store" "LPushedTables$Store;", Cond.fieldLink RX3 85 "PushedTables$Store" "marks" "[I", Cond.fieldLink RX3 88 "PushedTables$Store" "values" "[I", Cond.methodLink RX3 44 yX1_shiftOf, Cond.instanceMethod yX1_shiftOf, Cond.selects RX1 yX1_shiftOf yX1_shiftOf, Cond.code yX1_shiftOf cX1_shiftOf 2 (some .int), Cond.methodLink RX3 48 yX1_isEntry, Cond.instanceMethod yX1_isEntry, Cond.selects RX1 yX1_isEntry yX1_isEntry, Cond.code yX1_isEntry cX1_isEntry 3 (some .boolean), Cond.methodLink RX1 54 yX1_valueAt, Cond.instanceMethod yX1_valueAt, Cond.selects RX1 yX1_valueAt yX1_valueAt, Cond.code yX1_valueAt cX1_valueAt 3 (some .int), Cond.methodLink RX3 52 yX1_valueAt, Cond.methodLink RX3 63 yX3_leaveForm, Cond.instanceMethod yX3_leaveForm, Cond.selects RX3 yX3_leaveForm yX3_leaveForm, Cond.code yX3_leaveForm cX3_leaveForm 4 none, Cond.fieldLink RX3 82 "PushedTables$State" "shifts" "[I", Cond.methodLink RX3 76 yX1_sharersOf, Cond.instanceMethod yX1_sharersOf]
def wsX5_read_r7 : List Cond := [Cond.selects RX1 yX1_sharersOf yX1_sharersOf, Cond.code yX1_sharersOf cX1_sharersOf 4 (some .int), Cond.methodLink RX3 79 yX2_takeOut, Cond.instanceMethod yX2_takeOut, Cond.selects RX2 yX2_takeOut yX2_takeOut, Cond.initialized RX2, Cond.code yX2_takeOut cX2_takeOut 4 none, Cond.fieldLink RX2 15 "PushedTables$Store" "marks" "[I", Cond.methodLink RX2 27 yX2_fillCell, Cond.instanceMethod yX2_fillCell, Cond.selects RX2 yX2_fillCell yX2_fillCell, Cond.code yX2_fillCell cX2_fillCell 4 none, Cond.fieldLink RX2 9 "PushedTables$Store" "values" "[I", Cond.methodLink RX3 66 yX1_columnsOf, Cond.instanceMethod yX1_columnsOf, Cond.selects RX1 yX1_columnsOf yX1_columnsOf, Cond.code yX1_columnsOf cX1_columnsOf 4 (some .int), Cond.methodLink RX1 46 yX1_isEntry, Cond.methodLink RX3 69 yX3_formWithEntriesOf, Cond.instanceMethod yX3_formWithEntriesOf, Cond.selects RX3 yX3_formWithEntriesOf yX3_formWithEntriesOf, Cond.code yX3_formWithEntriesOf cX3_formWithEntriesOf 3 (some .int), Cond.methodLink RX3 72 yX3_pushNewForm, Cond.instanceMethod yX3_pushNewForm]
def wsX5_read_r8 : List Cond := [Cond.selects RX3 yX3_pushNewForm yX3_pushNewForm, Cond.code yX3_pushNewForm cX3_pushNewForm 5 none, Cond.methodLink RX3 91 yX1_freeForm, Cond.instanceMethod yX1_freeForm, Cond.selects RX1 yX1_freeForm yX1_freeForm, Cond.code yX1_freeForm cX1_freeForm 2 (some .int), Cond.methodLink RX3 95 yX2_firstFit, Cond.instanceMethod yX2_firstFit, Cond.selects RX2 yX2_firstFit yX2_firstFit, Cond.code yX2_firstFit cX2_firstFit 3 (some .int), Cond.methodLink RX2 31 yX2_fitsAt, Cond.instanceMethod yX2_fitsAt, Cond.selects RX2 yX2_fitsAt yX2_fitsAt, Cond.code yX2_fitsAt cX2_fitsAt 4 (some .boolean), Cond.methodLink RX2 35 yX2_isEmptyAt, Cond.instanceMethod yX2_isEmptyAt, Cond.selects RX2 yX2_isEmptyAt yX2_isEmptyAt, Cond.code yX2_isEmptyAt cX2_isEmptyAt 2 (some .boolean), Cond.methodLink RX3 36 yX3_fillCellsOf, Cond.instanceMethod yX3_fillCellsOf, Cond.selects RX3 yX3_fillCellsOf yX3_fillCellsOf, Cond.code yX3_fillCellsOf cX3_fillCellsOf 5 none, Cond.methodLink RX3 56 yX2_fillCell]
def wsX5_read : List Cond := .code yX5_read cX5_read 2 (some .int) :: ((wsX5_read_r1 ++ (wsX5_read_r2 ++ (wsX5_read_r3 ++ (wsX5_read_r4 ++ (wsX5_read_r5 ++ (wsX5_read_r6 ++ (wsX5_read_r7 ++ wsX5_read_r8))))))) ++ wsX50 ++ wsX30 ++ wsX10 ++ wsX40 ++ wsX00 ++ wsX20)
def wsX5_get_r1 : List Cond := [Cond.fieldLink RX5 12 "PushedTables" "table" "LPushedTables$Table;", Cond.methodLink RX5 55 yX5_isRow, Cond.instanceMethod yX5_isRow, Cond.selects RX5 yX5_isRow yX5_isRow, Cond.initialized RX5, Cond.code yX5_isRow cX5_isRow 2 (some .boolean), Cond.fieldLink RX5 37 "PushedTables$Table" "state" "LPushedTables$State;", Cond.fieldLink RX5 41 "PushedTables$State" "rowCount" "I", Cond.methodLink RX5 58 yX5_isColumn, Cond.static yX5_isColumn, Cond.code yX5_isColumn cX5_isColumn 1 (some .boolean), Cond.methodLink RX5 132 yX3_lookUp, Cond.instanceMethod yX3_lookUp, Cond.selects RX3 yX3_lookUp yX3_lookUp, Cond.initialized RX3, Cond.code yX3_lookUp cX3_lookUp 5 (some .int), Cond.fieldLink RX3 12 "PushedTables$Table" "state" "LPushedTables$State;", Cond.fieldLink RX3 40 "PushedTables$State" "forms" "[I", Cond.fieldLink RX3 21 "PushedTables$Table" "store" "LPushedTables$Store;", Cond.fieldLink RX3 85 "PushedTables$Store" "marks" "[I", Cond.fieldLink RX3 88 "PushedTables$Store" "values" "[I", Cond.fieldLink RX3 110 "PushedTables$State" "defaults" "[I", Cond.methodLink RX3 44 yX1_shiftOf, Cond.instanceMethod yX1_shiftOf]
def wsX5_get_r2 : List Cond := [Cond.selects RX1 yX1_shiftOf yX1_shiftOf, Cond.initialized RX1, Cond.code yX1_shiftOf cX1_shiftOf 2 (some .int), Cond.fieldLink RX1 25 "PushedTables$State" "shifts" "[I"]
def wsX5_get : List Cond := .code yX5_get cX5_get 3 (some .int) :: ((wsX5_get_r1 ++ wsX5_get_r2) ++ wsX50 ++ wsX30 ++ wsX10 ++ wsX20)
def wsX5_count_r1 : List Cond := [Cond.fieldLink RX5 12 "PushedTables" "table" "LPushedTables$Table;", Cond.fieldLink RX5 37 "PushedTables$Table" "state" "LPushedTables$State;", Cond.fieldLink RX5 41 "PushedTables$State" "rowCount" "I", Cond.fieldLink RX5 93 "PushedTables$Table" "store" "LPushedTables$Store;", Cond.fieldLink RX5 22 "PushedTables" "history" "LPushedTables$History;", Cond.fieldLink RX5 103 "PushedTables$History" "size" "I", Cond.fieldLink RX5 29 "PushedTables" "text" "LPushedTables$Text;", Cond.fieldLink RX5 113 "PushedTables$Text" "length" "I", Cond.methodLink RX5 135 yX1_formCount, Cond.instanceMethod yX1_formCount, Cond.selects RX1 yX1_formCount yX1_formCount, Cond.initialized RX1, Cond.code yX1_formCount cX1_formCount 3 (some .int), Cond.fieldLink RX1 25 "PushedTables$State" "shifts" "[I", Cond.methodLink RX5 138 yX1_weightSum, Cond.instanceMethod yX1_weightSum, Cond.selects RX1 yX1_weightSum yX1_weightSum, Cond.code yX1_weightSum cX1_weightSum 3 (some .int), Cond.fieldLink RX1 9 "PushedTables$State" "rowCount" "I", Cond.methodLink RX1 67 yX1_weightOf, Cond.instanceMethod yX1_weightOf, Cond.selects RX1 yX1_weightOf yX1_weightOf, Cond.code yX1_weightOf cX1_weightOf 2 (some .int), Cond.methodLink RX1 58 yX1_columnsOf]
def wsX5_count_r2 : List Cond := [Cond.instanceMethod yX1_columnsOf, Cond.selects RX1 yX1_columnsOf yX1_columnsOf, Cond.code yX1_columnsOf cX1_columnsOf 4 (some .int), Cond.methodLink RX1 46 yX1_isEntry, Cond.instanceMethod yX1_isEntry, Cond.selects RX1 yX1_isEntry yX1_isEntry, Cond.code yX1_isEntry cX1_isEntry 3 (some .boolean), Cond.fieldLink RX1 15 "PushedTables$State" "defaults" "[I", Cond.methodLink RX1 54 yX1_valueAt, Cond.instanceMethod yX1_valueAt, Cond.selects RX1 yX1_valueAt yX1_valueAt, Cond.code yX1_valueAt cX1_valueAt 3 (some .int), Cond.fieldLink RX1 19 "PushedTables$State" "values" "[I", Cond.methodLink RX1 62 yJ6_bitCount_0f7a4, Cond.static yJ6_bitCount_0f7a4, Cond.initialized RJ6, Cond.code yJ6_bitCount_0f7a4 cJ6_bitCount_0f7a4 1 (some .int), Cond.constant RJ6 265 (1431655765), Cond.constant RJ6 266 (858993459), Cond.constant RJ6 267 (252645135), Cond.methodLink RX5 141 yX2_filledCells, Cond.instanceMethod yX2_filledCells, Cond.selects RX2 yX2_filledCells yX2_filledCells, Cond.initialized RX2]
def wsX5_count_r3 : List Cond := [Cond.code yX2_filledCells cX2_filledCells 3 (some .int), Cond.methodLink RX2 35 yX2_isEmptyAt, Cond.instanceMethod yX2_isEmptyAt, Cond.selects RX2 yX2_isEmptyAt yX2_isEmptyAt, Cond.code yX2_isEmptyAt cX2_isEmptyAt 2 (some .boolean), Cond.fieldLink RX2 15 "PushedTables$Store" "marks" "[I", Cond.methodLink RX5 97 yX2_endOfCells, Cond.instanceMethod yX2_endOfCells, Cond.selects RX2 yX2_endOfCells yX2_endOfCells, Cond.code yX2_endOfCells cX2_endOfCells 2 (some .int), Cond.methodLink RX5 144 yX3_refusals, Cond.instanceMethod yX3_refusals, Cond.selects RX3 yX3_refusals yX3_refusals, Cond.initialized RX3, Cond.code yX3_refusals cX3_refusals 3 (some .int), Cond.fieldLink RX3 12 "PushedTables$Table" "state" "LPushedTables$State;", Cond.fieldLink RX3 32 "PushedTables$State" "rowCount" "I", Cond.methodLink RX3 113 yX3_refusalsOf, Cond.instanceMethod yX3_refusalsOf, Cond.selects RX3 yX3_refusalsOf yX3_refusalsOf, Cond.code yX3_refusalsOf cX3_refusalsOf 6 (some .int), Cond.fieldLink RX3 40 "PushedTables$State" "forms" "[I", Cond.fieldLink RX3 21 "PushedTables$Table" "store" "LPushedTables$Store;", Cond.fieldLink RX3 85 "PushedTables$Store" "marks" "[I"]
def wsX5_count_r4 : List Cond := [Cond.methodLink RX3 44 yX1_shiftOf, Cond.instanceMethod yX1_shiftOf, Cond.selects RX1 yX1_shiftOf yX1_shiftOf, Cond.code yX1_shiftOf cX1_shiftOf 2 (some .int), Cond.methodLink RX3 116 yX2_isEmptyAt]
def wsX5_count : List Cond := .code yX5_count cX5_count 2 (some .int) :: ((wsX5_count_r1 ++ (wsX5_count_r2 ++ (wsX5_count_r3 ++ wsX5_count_r4))) ++ wsX50 ++ wsX30 ++ wsX10 ++ wsX00 ++ wsX40 ++ wsX20)
def wsX5_row_r1 : List Cond := [Cond.fieldLink RX5 12 "PushedTables" "table" "LPushedTables$Table;", Cond.fieldLink RX5 37 "PushedTables$Table" "state" "LPushedTables$State;", Cond.fieldLink RX5 83 "PushedTables$State" "defaults" "[I", Cond.fieldLink RX5 147 "PushedTables$State" "forms" "[I", Cond.methodLink RX5 55 yX5_isRow, Cond.instanceMethod yX5_isRow, Cond.selects RX5 yX5_isRow yX5_isRow, Cond.initialized RX5, Cond.code yX5_isRow cX5_isRow 2 (some .boolean), Cond.fieldLink RX5 41 "PushedTables$State" "rowCount" "I", Cond.methodLink RX5 77 yX1_weightOf, Cond.instanceMethod yX1_weightOf, Cond.selects RX1 yX1_weightOf yX1_weightOf, Cond.initialized RX1, Cond.code yX1_weightOf cX1_weightOf 2 (some .int), Cond.methodLink RX1 58 yX1_columnsOf, Cond.instanceMethod yX1_columnsOf, Cond.selects RX1 yX1_columnsOf yX1_columnsOf, Cond.code yX1_columnsOf cX1_columnsOf 4 (some .int), Cond.methodLink RX1 46 yX1_isEntry, Cond.instanceMethod yX1_isEntry, Cond.selects RX1 yX1_isEntry yX1_isEntry, Cond.code yX1_isEntry cX1_isEntry 3 (some .boolean), Cond.fieldLink RX1 15 "PushedTables$State" "defaults" "[I"]
def wsX5_row_r2 : List Cond := [Cond.methodLink RX1 54 yX1_valueAt, Cond.instanceMethod yX1_valueAt, Cond.selects RX1 yX1_valueAt yX1_valueAt, Cond.code yX1_valueAt cX1_valueAt 3 (some .int), Cond.fieldLink RX1 19 "PushedTables$State" "values" "[I", Cond.methodLink RX1 62 yJ6_bitCount_0f7a4, Cond.static yJ6_bitCount_0f7a4, Cond.initialized RJ6, Cond.code yJ6_bitCount_0f7a4 cJ6_bitCount_0f7a4 1 (some .int), Cond.constant RJ6 265 (1431655765), Cond.constant RJ6 266 (858993459), Cond.constant RJ6 267 (252645135), Cond.methodLink RX5 150 yX1_shiftOf, Cond.instanceMethod yX1_shiftOf, Cond.selects RX1 yX1_shiftOf yX1_shiftOf, Cond.code yX1_shiftOf cX1_shiftOf 2 (some .int), Cond.fieldLink RX1 25 "PushedTables$State" "shifts" "[I", Cond.methodLink RX5 153 yX1_columnsOf]
def wsX5_row : List Cond := .code yX5_row cX5_row 3 (some .int) :: ((wsX5_row_r1 ++ wsX5_row_r2) ++ wsX50 ++ wsX30 ++ wsX10)
def wsX5_form : List Cond := .code yX5_form cX5_form 4 (some .int) :: ([.fieldLink RX5 12 "PushedTables" "table" "LPushedTables$Table;", .fieldLink RX5 37 "PushedTables$Table" "state" "LPushedTables$State;", .fieldLink RX5 93 "PushedTables$Table" "store" "LPushedTables$Store;", .methodLink RX5 150 yX1_shiftOf, .instanceMethod yX1_shiftOf, .selects RX1 yX1_shiftOf yX1_shiftOf, .initialized RX1, .code yX1_shiftOf cX1_shiftOf 2 (some .int), .fieldLink RX1 25 "PushedTables$State" "shifts" "[I", .methodLink RX5 156 yX1_sharersOf, .instanceMethod yX1_sharersOf, .selects RX1 yX1_sharersOf yX1_sharersOf, .code yX1_sharersOf cX1_sharersOf 4 (some .int), .fieldLink RX1 9 "PushedTables$State" "rowCount" "I", .fieldLink RX1 22 "PushedTables$State" "forms" "[I", .methodLink RX5 159 yX2_filledOf, .instanceMethod yX2_filledOf, .selects RX2 yX2_filledOf yX2_filledOf, .initialized RX2, .code yX2_filledOf cX2_filledOf 5 (some .int), .fieldLink RX2 15 "PushedTables$Store" "marks" "[I"] ++ wsX50 ++ wsX30 ++ wsX10 ++ wsX20)
def wsX5_cell : List Cond := .code yX5_cell cX5_cell 3 (some .int) :: ([.fieldLink RX5 12 "PushedTables" "table" "LPushedTables$Table;", .fieldLink RX5 93 "PushedTables$Table" "store" "LPushedTables$Store;", .fieldLink RX5 162 "PushedTables$Store" "values" "[I", .fieldLink RX5 165 "PushedTables$Store" "marks" "[I"] ++ wsX50 ++ wsX30 ++ wsX20)
def wsX5_fit : List Cond := .code yX5_fit cX5_fit 2 (some .int) :: ([.constant RX5 168 (65535), .fieldLink RX5 12 "PushedTables" "table" "LPushedTables$Table;", .fieldLink RX5 93 "PushedTables$Table" "store" "LPushedTables$Store;", .methodLink RX5 169 yX2_firstFit, .instanceMethod yX2_firstFit, .selects RX2 yX2_firstFit yX2_firstFit, .initialized RX2, .code yX2_firstFit cX2_firstFit 3 (some .int), .methodLink RX2 31 yX2_fitsAt, .instanceMethod yX2_fitsAt, .selects RX2 yX2_fitsAt yX2_fitsAt, .code yX2_fitsAt cX2_fitsAt 4 (some .boolean), .methodLink RX2 35 yX2_isEmptyAt, .instanceMethod yX2_isEmptyAt, .selects RX2 yX2_isEmptyAt yX2_isEmptyAt, .code yX2_isEmptyAt cX2_isEmptyAt 2 (some .boolean), .fieldLink RX2 15 "PushedTables$Store" "marks" "[I"] ++ wsX50 ++ wsX30 ++ wsX20)
def wsX5_endBy_r1 : List Cond := [Cond.fieldLink RX5 16 "PushedTables" "forecast" "LPushedTables$Table;", Cond.fieldLink RX5 37 "PushedTables$Table" "state" "LPushedTables$State;", Cond.fieldLink RX5 12 "PushedTables" "table" "LPushedTables$Table;", Cond.fieldLink RX5 93 "PushedTables$Table" "store" "LPushedTables$Store;", Cond.methodLink RX5 172 yX1_copyFrom, Cond.instanceMethod yX1_copyFrom, Cond.selects RX1 yX1_copyFrom yX1_copyFrom, Cond.initialized RX1, Cond.code yX1_copyFrom cX1_copyFrom 2 none, Cond.fieldLink RX1 9 "PushedTables$State" "rowCount" "I", Cond.fieldLink RX1 15 "PushedTables$State" "defaults" "[I", Cond.methodLink RX1 31 arraycopyName, Cond.native arraycopyName, Cond.static arraycopyName, Cond.initialized "java/lang/System", Cond.fieldLink RX1 19 "PushedTables$State" "values" "[I", Cond.fieldLink RX1 22 "PushedTables$State" "forms" "[I", Cond.fieldLink RX1 25 "PushedTables$State" "shifts" "[I", Cond.methodLink RX5 90 yX3_pushAnewByWeights, Cond.instanceMethod yX3_pushAnewByWeights, Cond.selects RX3 yX3_pushAnewByWeights yX3_pushAnewByWeights, Cond.initialized RX3, Cond.code yX3_pushAnewByWeights cX3_pushAnewByWeights 3 none, Cond.fieldLink RX3 12 "PushedTables$Table" "state" "LPushedTables$State;"]
def wsX5_endBy_r2 : List Cond := [Cond.fieldLink RX3 32 "PushedTables$State" "rowCount" "I", Cond.methodLink RX3 98 yX3_takeOutAll, Cond.instanceMethod yX3_takeOutAll, Cond.selects RX3 yX3_takeOutAll yX3_takeOutAll, Cond.code yX3_takeOutAll cX3_takeOutAll 1 none, Cond.fieldLink RX3 21 "PushedTables$Table" "store" "LPushedTables$Store;", Cond.instanceMethod yX1_forgetForms, Cond.selects RX1 yX1_forgetForms yX1_forgetForms, Cond.code yX1_forgetForms cX1_forgetForms 1 none, Cond.methodLink RX1 37 yJ7_fill_53178, Cond.static yJ7_fill_53178, Cond.initialized RJ7, Cond.code yJ7_fill_53178 cJ7_fill_53178 4 none, Cond.methodLink RX3 29 yX2_emptyAll, Cond.instanceMethod yX2_emptyAll, Cond.selects RX2 yX2_emptyAll yX2_emptyAll, Cond.initialized RX2, Cond.code yX2_emptyAll cX2_emptyAll 1 none, Cond.fieldLink RX2 9 "PushedTables$Store" "values" "[I", Cond.fieldLink RX2 15 "PushedTables$Store" "marks" "[I", Cond.methodLink RX2 21 yJ7_fill_53178, Cond.methodLink RX3 101 yX1_weightOf, Cond.instanceMethod yX1_weightOf, Cond.selects RX1 yX1_weightOf yX1_weightOf]
def wsX5_endBy_r3 : List Cond := [Cond.code yX1_weightOf cX1_weightOf 2 (some .int), Cond.methodLink RX1 58 yX1_columnsOf, Cond.instanceMethod yX1_columnsOf, Cond.selects RX1 yX1_columnsOf yX1_columnsOf, Cond.code yX1_columnsOf cX1_columnsOf 4 (some .int), Cond.methodLink RX1 46 yX1_isEntry, Cond.instanceMethod yX1_isEntry, Cond.selects RX1 yX1_isEntry yX1_isEntry, Cond.code yX1_isEntry cX1_isEntry 3 (some .boolean), Cond.methodLink RX1 54 yX1_valueAt, Cond.instanceMethod yX1_valueAt, Cond.selects RX1 yX1_valueAt yX1_valueAt, Cond.code yX1_valueAt cX1_valueAt 3 (some .int), Cond.methodLink RX1 62 yJ6_bitCount_0f7a4, Cond.static yJ6_bitCount_0f7a4, Cond.initialized RJ6, Cond.code yJ6_bitCount_0f7a4 cJ6_bitCount_0f7a4 1 (some .int), Cond.constant RJ6 265 (1431655765), Cond.constant RJ6 266 (858993459), Cond.constant RJ6 267 (252645135), Cond.methodLink RX3 104 yX3_settle, Cond.instanceMethod yX3_settle, Cond.selects RX3 yX3_settle yX3_settle, Cond.code yX3_settle cX3_settle 3 none]
def wsX5_endBy_r4 : List Cond := [Cond.fieldLink RX3 40 "PushedTables$State" "forms" "[I", Cond.methodLink RX3 60 yX3_hasEntriesOf, Cond.instanceMethod yX3_hasEntriesOf, Cond.selects RX3 yX3_hasEntriesOf yX3_hasEntriesOf, Cond.code yX3_hasEntriesOf cX3_hasEntriesOf 6 (some .boolean), Cond.fieldLink RX3 85 "PushedTables$Store" "marks" "[I", Cond.fieldLink RX3 88 "PushedTables$Store" "values" "[I", Cond.methodLink RX3 44 yX1_shiftOf, Cond.instanceMethod yX1_shiftOf, Cond.selects RX1 yX1_shiftOf yX1_shiftOf, Cond.code yX1_shiftOf cX1_shiftOf 2 (some .int), Cond.methodLink RX3 48 yX1_isEntry, Cond.methodLink RX3 52 yX1_valueAt, Cond.methodLink RX3 63 yX3_leaveForm, Cond.instanceMethod yX3_leaveForm, Cond.selects RX3 yX3_leaveForm yX3_leaveForm, Cond.code yX3_leaveForm cX3_leaveForm 4 none, Cond.fieldLink RX3 82 "PushedTables$State" "shifts" "[I", Cond.methodLink RX3 76 yX1_sharersOf, Cond.instanceMethod yX1_sharersOf, Cond.selects RX1 yX1_sharersOf yX1_sharersOf, Cond.code yX1_sharersOf cX1_sharersOf 4 (some .int), Cond.methodLink RX3 79 yX2_takeOut, Cond.instanceMethod yX2_takeOut]
def wsX5_endBy_r5 : List Cond := [Cond.selects RX2 yX2_takeOut yX2_takeOut, Cond.code yX2_takeOut cX2_takeOut 4 none, Cond.methodLink RX2 27 yX2_fillCell, Cond.instanceMethod yX2_fillCell, Cond.selects RX2 yX2_fillCell yX2_fillCell, Cond.code yX2_fillCell cX2_fillCell 4 none, Cond.methodLink RX3 66 yX1_columnsOf, Cond.methodLink RX3 69 yX3_formWithEntriesOf, Cond.instanceMethod yX3_formWithEntriesOf, Cond.selects RX3 yX3_formWithEntriesOf yX3_formWithEntriesOf, Cond.code yX3_formWithEntriesOf cX3_formWithEntriesOf 3 (some .int), Cond.methodLink RX3 72 yX3_pushNewForm, Cond.instanceMethod yX3_pushNewForm, Cond.selects RX3 yX3_pushNewForm yX3_pushNewForm, Cond.code yX3_pushNewForm cX3_pushNewForm 5 none, Cond.methodLink RX3 91 yX1_freeForm, Cond.instanceMethod yX1_freeForm, Cond.selects RX1 yX1_freeForm yX1_freeForm, Cond.code yX1_freeForm cX1_freeForm 2 (some .int), Cond.methodLink RX3 95 yX2_firstFit, Cond.instanceMethod yX2_firstFit, Cond.selects RX2 yX2_firstFit yX2_firstFit, Cond.code yX2_firstFit cX2_firstFit 3 (some .int), Cond.methodLink RX2 31 yX2_fitsAt]
def wsX5_endBy_r6 : List Cond := [Cond.instanceMethod yX2_fitsAt, Cond.selects RX2 yX2_fitsAt yX2_fitsAt, Cond.code yX2_fitsAt cX2_fitsAt 4 (some .boolean), Cond.methodLink RX2 35 yX2_isEmptyAt, Cond.instanceMethod yX2_isEmptyAt, Cond.selects RX2 yX2_isEmptyAt yX2_isEmptyAt, Cond.code yX2_isEmptyAt cX2_isEmptyAt 2 (some .boolean), Cond.methodLink RX3 36 yX3_fillCellsOf, Cond.instanceMethod yX3_fillCellsOf, Cond.selects RX3 yX3_fillCellsOf yX3_fillCellsOf, Cond.code yX3_fillCellsOf cX3_fillCellsOf 5 none, Cond.methodLink RX3 56 yX2_fillCell, Cond.methodLink RX5 175 yX3_pushAnewByNumbers, Cond.instanceMethod yX3_pushAnewByNumbers, Cond.selects RX3 yX3_pushAnewByNumbers yX3_pushAnewByNumbers, Cond.code yX3_pushAnewByNumbers cX3_pushAnewByNumbers 2 none, Cond.methodLink RX5 97 yX2_endOfCells, Cond.instanceMethod yX2_endOfCells, Cond.selects RX2 yX2_endOfCells yX2_endOfCells, Cond.code yX2_endOfCells cX2_endOfCells 2 (some .int)]
def wsX5_endBy : List Cond := .code yX5_endBy cX5_endBy 2 (some .int) :: ((wsX5_endBy_r1 ++ (wsX5_endBy_r2 ++ (wsX5_endBy_r3 ++ (wsX5_endBy_r4 ++ (wsX5_endBy_r5 ++ wsX5_endBy_r6))))) ++ wsX50 ++ wsX30 ++ wsX10 ++ wsX20)
def wsX5_slimmer_r1 : List Cond := [Cond.fieldLink RX5 12 "PushedTables" "table" "LPushedTables$Table;", Cond.fieldLink RX5 37 "PushedTables$Table" "state" "LPushedTables$State;", Cond.fieldLink RX5 41 "PushedTables$State" "rowCount" "I", Cond.methodLink RX5 178 yX1_slimmerBy, Cond.instanceMethod yX1_slimmerBy, Cond.selects RX1 yX1_slimmerBy yX1_slimmerBy, Cond.initialized RX1, Cond.code yX1_slimmerBy cX1_slimmerBy 3 (some .int), Cond.methodLink RX1 73 yX1_commonestValue, Cond.instanceMethod yX1_commonestValue, Cond.selects RX1 yX1_commonestValue yX1_commonestValue, Cond.code yX1_commonestValue cX1_commonestValue 7 (some .int), Cond.methodLink RX1 54 yX1_valueAt, Cond.instanceMethod yX1_valueAt, Cond.selects RX1 yX1_valueAt yX1_valueAt, Cond.code yX1_valueAt cX1_valueAt 3 (some .int), Cond.fieldLink RX1 19 "PushedTables$State" "values" "[I", Cond.methodLink RX1 70 yX1_cellsWith, Cond.instanceMethod yX1_cellsWith, Cond.selects RX1 yX1_cellsWith yX1_cellsWith, Cond.code yX1_cellsWith cX1_cellsWith 5 (some .int), Cond.methodLink RX1 67 yX1_weightOf, Cond.instanceMethod yX1_weightOf, Cond.selects RX1 yX1_weightOf yX1_weightOf]
def wsX5_slimmer_r2 : List Cond := [Cond.code yX1_weightOf cX1_weightOf 2 (some .int), Cond.methodLink RX1 58 yX1_columnsOf, Cond.instanceMethod yX1_columnsOf, Cond.selects RX1 yX1_columnsOf yX1_columnsOf, Cond.code yX1_columnsOf cX1_columnsOf 4 (some .int), Cond.methodLink RX1 46 yX1_isEntry, Cond.instanceMethod yX1_isEntry, Cond.selects RX1 yX1_isEntry yX1_isEntry, Cond.code yX1_isEntry cX1_isEntry 3 (some .boolean), Cond.fieldLink RX1 15 "PushedTables$State" "defaults" "[I", Cond.methodLink RX1 62 yJ6_bitCount_0f7a4, Cond.static yJ6_bitCount_0f7a4, Cond.initialized RJ6, Cond.code yJ6_bitCount_0f7a4 cJ6_bitCount_0f7a4 1 (some .int), Cond.constant RJ6 265 (1431655765), Cond.constant RJ6 266 (858993459), Cond.constant RJ6 267 (252645135)]
def wsX5_slimmer : List Cond := .code yX5_slimmer cX5_slimmer 3 (some .int) :: ((wsX5_slimmer_r1 ++ wsX5_slimmer_r2) ++ wsX50 ++ wsX30 ++ wsX10)
def wsX5_like : List Cond := .code yX5_like cX5_like 2 (some .int) :: ([.fieldLink RX5 12 "PushedTables" "table" "LPushedTables$Table;", .fieldLink RX5 37 "PushedTables$Table" "state" "LPushedTables$State;", .methodLink RX5 55 yX5_isRow, .instanceMethod yX5_isRow, .selects RX5 yX5_isRow yX5_isRow, .initialized RX5, .code yX5_isRow cX5_isRow 2 (some .boolean), .fieldLink RX5 41 "PushedTables$State" "rowCount" "I", .methodLink RX5 181 yX1_mostLike, .instanceMethod yX1_mostLike, .selects RX1 yX1_mostLike yX1_mostLike, .initialized RX1, .code yX1_mostLike cX1_mostLike 6 (some .int), .fieldLink RX1 9 "PushedTables$State" "rowCount" "I", .methodLink RX1 76 yX1_equalCells, .instanceMethod yX1_equalCells, .selects RX1 yX1_equalCells yX1_equalCells, .code yX1_equalCells cX1_equalCells 5 (some .int), .methodLink RX1 54 yX1_valueAt, .instanceMethod yX1_valueAt, .selects RX1 yX1_valueAt yX1_valueAt, .code yX1_valueAt cX1_valueAt 3 (some .int), .fieldLink RX1 19 "PushedTables$State" "values" "[I"] ++ wsX50 ++ wsX30 ++ wsX10)
def wsX6_init : List Cond := .code yX6_init cX6_init 2 none :: ([.methodLink RX6 1 objectInit, .instanceMethod objectInit, .code objectInit ⟨#[0xb1]⟩ 1 none, .arrayClass .int, .fieldLink RX6 7 "PushedTablesModel" "now" "[I", .fieldLink RX6 13 "PushedTablesModel" "before" "[I", .fieldLink RX6 16 "PushedTablesModel" "states" "[I", .fieldLink RX6 19 "PushedTablesModel" "marks" "[I", .fieldLink RX6 22 "PushedTablesModel" "values" "[I", .fieldLink RX6 25 "PushedTablesModel" "text" "[I"] ++ wsX60)
def wsX6_in : List Cond := .code yX6_in cX6_in 3 (some .boolean) :: ([])
def wsX6_bits : List Cond := .code yX6_bits cX6_bits 3 (some .int) :: ([])
def wsX6_has : List Cond := .code yX6_has cX6_has 2 (some .boolean) :: ([])
def wsX6_isRow : List Cond := .code yX6_isRow cX6_isRow 2 (some .boolean) :: ([.fieldLink RX6 7 "PushedTablesModel" "now" "[I", .methodLink RX6 28 yX6_in, .static yX6_in, .initialized RX6, .code yX6_in cX6_in 3 (some .boolean)] ++ wsX60)
def wsX6_copy : List Cond := .code yX6_copy cX6_copy 2 none :: ([.fieldLink RX6 13 "PushedTablesModel" "before" "[I", .fieldLink RX6 7 "PushedTablesModel" "now" "[I"] ++ wsX60)
def wsX6_back : List Cond := .code yX6_back cX6_back 2 none :: ([.fieldLink RX6 7 "PushedTablesModel" "now" "[I", .fieldLink RX6 13 "PushedTablesModel" "before" "[I"] ++ wsX60)
def wsX6_record : List Cond := .code yX6_record cX6_record 2 none :: ([.fieldLink RX6 16 "PushedTablesModel" "states" "[I", .fieldLink RX6 32 "PushedTablesModel" "stateAt" "I", .fieldLink RX6 13 "PushedTablesModel" "before" "[I", .fieldLink RX6 36 "PushedTablesModel" "stateMany" "I"] ++ wsX60)
def wsX6_remember : List Cond := .code yX6_remember cX6_remember 1 none :: ([.methodLink RX6 39 yX6_copy, .instanceMethod yX6_copy, .selects RX6 yX6_copy yX6_copy, .initialized RX6, .code yX6_copy cX6_copy 2 none, .fieldLink RX6 13 "PushedTablesModel" "before" "[I", .fieldLink RX6 7 "PushedTablesModel" "now" "[I", .methodLink RX6 42 yX6_record, .instanceMethod yX6_record, .selects RX6 yX6_record yX6_record, .code yX6_record cX6_record 2 none, .fieldLink RX6 16 "PushedTablesModel" "states" "[I", .fieldLink RX6 32 "PushedTablesModel" "stateAt" "I", .fieldLink RX6 36 "PushedTablesModel" "stateMany" "I"] ++ wsX60)
def wsX6_undo : List Cond := .code yX6_undo cX6_undo 2 (some .int) :: ([.fieldLink RX6 36 "PushedTablesModel" "stateMany" "I", .fieldLink RX6 32 "PushedTablesModel" "stateAt" "I", .fieldLink RX6 7 "PushedTablesModel" "now" "[I", .fieldLink RX6 16 "PushedTablesModel" "states" "[I"] ++ wsX60)
def wsX6_entries : List Cond := .code yX6_entries cX6_entries 2 (some .int) :: ([.fieldLink RX6 7 "PushedTablesModel" "now" "[I"] ++ wsX60)
def wsX6_valueOf : List Cond := .code yX6_valueOf cX6_valueOf 3 (some .int) :: ([.fieldLink RX6 7 "PushedTablesModel" "now" "[I", .methodLink RX6 45 yX6_entries, .instanceMethod yX6_entries, .selects RX6 yX6_entries yX6_entries, .initialized RX6, .code yX6_entries cX6_entries 2 (some .int), .methodLink RX6 49 yX6_has, .static yX6_has, .code yX6_has cX6_has 2 (some .boolean)] ++ wsX60)
def wsX6_areAlike : List Cond := .code yX6_areAlike cX6_areAlike 5 (some .boolean) :: ([.fieldLink RX6 7 "PushedTablesModel" "now" "[I", .methodLink RX6 45 yX6_entries, .instanceMethod yX6_entries, .selects RX6 yX6_entries yX6_entries, .initialized RX6, .code yX6_entries cX6_entries 2 (some .int), .methodLink RX6 49 yX6_has, .static yX6_has, .code yX6_has cX6_has 2 (some .boolean)] ++ wsX60)
def wsX6_sharers : List Cond := .code yX6_sharers cX6_sharers 4 (some .int) :: ([.fieldLink RX6 7 "PushedTablesModel" "now" "[I"] ++ wsX60)
def wsX6_layStore : List Cond := .code yX6_layStore cX6_layStore 4 none :: ([.fieldLink RX6 19 "PushedTablesModel" "marks" "[I", .fieldLink RX6 7 "PushedTablesModel" "now" "[I", .fieldLink RX6 22 "PushedTablesModel" "values" "[I", .methodLink RX6 45 yX6_entries, .instanceMethod yX6_entries, .selects RX6 yX6_entries yX6_entries, .initialized RX6, .code yX6_entries cX6_entries 2 (some .int), .methodLink RX6 49 yX6_has, .static yX6_has, .code yX6_has cX6_has 2 (some .boolean)] ++ wsX60)
def wsX6_fits : List Cond := .code yX6_fits cX6_fits 5 (some .int) :: ([.fieldLink RX6 19 "PushedTablesModel" "marks" "[I", .methodLink RX6 49 yX6_has, .static yX6_has, .initialized RX6, .code yX6_has cX6_has 2 (some .boolean)] ++ wsX60)
def wsX6_forms : List Cond := .code yX6_forms cX6_forms 5 none :: ([.fieldLink RX6 7 "PushedTablesModel" "now" "[I", .methodLink RX6 53 yX6_areAlike, .instanceMethod yX6_areAlike, .selects RX6 yX6_areAlike yX6_areAlike, .initialized RX6, .code yX6_areAlike cX6_areAlike 5 (some .boolean), .methodLink RX6 45 yX6_entries, .instanceMethod yX6_entries, .selects RX6 yX6_entries yX6_entries, .code yX6_entries cX6_entries 2 (some .int), .methodLink RX6 49 yX6_has, .static yX6_has, .code yX6_has cX6_has 2 (some .boolean), .methodLink RX6 56 yX6_layStore, .instanceMethod yX6_layStore, .selects RX6 yX6_layStore yX6_layStore, .code yX6_layStore cX6_layStore 4 none, .fieldLink RX6 19 "PushedTablesModel" "marks" "[I", .fieldLink RX6 22 "PushedTablesModel" "values" "[I", .methodLink RX6 59 yX6_fits, .instanceMethod yX6_fits, .selects RX6 yX6_fits yX6_fits, .code yX6_fits cX6_fits 5 (some .int)] ++ wsX60)
def wsX6_leaves : List Cond := .code yX6_leaves cX6_leaves 3 none :: ([.fieldLink RX6 7 "PushedTablesModel" "now" "[I", .methodLink RX6 62 yX6_sharers, .instanceMethod yX6_sharers, .selects RX6 yX6_sharers yX6_sharers, .initialized RX6, .code yX6_sharers cX6_sharers 4 (some .int)] ++ wsX60)
def wsX6_adds : List Cond := .code yX6_adds cX6_adds 3 none :: ([.fieldLink RX6 7 "PushedTablesModel" "now" "[I"] ++ wsX60)
def wsX6_add_r1 : List Cond := [Cond.fieldLink RX6 7 "PushedTablesModel" "now" "[I", Cond.methodLink RX6 28 yX6_in, Cond.static yX6_in, Cond.initialized RX6, Cond.code yX6_in cX6_in 3 (some .boolean), Cond.methodLink RX6 65 yX6_remember, Cond.instanceMethod yX6_remember, Cond.selects RX6 yX6_remember yX6_remember, Cond.code yX6_remember cX6_remember 1 none, Cond.methodLink RX6 39 yX6_copy, Cond.instanceMethod yX6_copy, Cond.selects RX6 yX6_copy yX6_copy, Cond.code yX6_copy cX6_copy 2 none, Cond.fieldLink RX6 13 "PushedTablesModel" "before" "[I", Cond.methodLink RX6 42 yX6_record, Cond.instanceMethod yX6_record, Cond.selects RX6 yX6_record yX6_record, Cond.code yX6_record cX6_record 2 none, Cond.fieldLink RX6 16 "PushedTablesModel" "states" "[I", Cond.fieldLink RX6 32 "PushedTablesModel" "stateAt" "I", Cond.fieldLink RX6 36 "PushedTablesModel" "stateMany" "I", Cond.methodLink RX6 68 yX6_adds, Cond.instanceMethod yX6_adds, Cond.selects RX6 yX6_adds yX6_adds]
def wsX6_add_r2 : List Cond := [Cond.code yX6_adds cX6_adds 3 none]
def wsX6_add : List Cond := .code yX6_add cX6_add 2 (some .int) :: ((wsX6_add_r1 ++ wsX6_add_r2) ++ wsX60)
def wsX6_leavesFor : List Cond := .code yX6_leavesFor cX6_leavesFor 3 none :: ([.methodLink RX6 87 yX6_leaves, .instanceMethod yX6_leaves, .selects RX6 yX6_leaves yX6_leaves, .initialized RX6, .code yX6_leaves cX6_leaves 3 none, .fieldLink RX6 7 "PushedTablesModel" "now" "[I", .methodLink RX6 62 yX6_sharers, .instanceMethod yX6_sharers, .selects RX6 yX6_sharers yX6_sharers, .code yX6_sharers cX6_sharers 4 (some .int)] ++ wsX60)
def wsX6_formsFor_r1 : List Cond := [Cond.methodLink RX6 90 yX6_forms, Cond.instanceMethod yX6_forms, Cond.selects RX6 yX6_forms yX6_forms, Cond.initialized RX6, Cond.code yX6_forms cX6_forms 5 none, Cond.fieldLink RX6 7 "PushedTablesModel" "now" "[I", Cond.methodLink RX6 53 yX6_areAlike, Cond.instanceMethod yX6_areAlike, Cond.selects RX6 yX6_areAlike yX6_areAlike, Cond.code yX6_areAlike cX6_areAlike 5 (some .boolean), Cond.methodLink RX6 45 yX6_entries, Cond.instanceMethod yX6_entries, Cond.selects RX6 yX6_entries yX6_entries, Cond.code yX6_entries cX6_entries 2 (some .int), Cond.methodLink RX6 49 yX6_has, Cond.static yX6_has, Cond.code yX6_has cX6_has 2 (some .boolean), Cond.methodLink RX6 56 yX6_layStore, Cond.instanceMethod yX6_layStore, Cond.selects RX6 yX6_layStore yX6_layStore, Cond.code yX6_layStore cX6_layStore 4 none, Cond.fieldLink RX6 19 "PushedTablesModel" "marks" "[I", Cond.fieldLink RX6 22 "PushedTablesModel" "values" "[I", Cond.methodLink RX6 59 yX6_fits]
def wsX6_formsFor_r2 : List Cond := [Cond.instanceMethod yX6_fits, Cond.selects RX6 yX6_fits yX6_fits, Cond.code yX6_fits cX6_fits 5 (some .int)]
def wsX6_formsFor : List Cond := .code yX6_formsFor cX6_formsFor 3 none :: ((wsX6_formsFor_r1 ++ wsX6_formsFor_r2) ++ wsX60)
def wsX6_set_r1 : List Cond := [Cond.fieldLink RX6 7 "PushedTablesModel" "now" "[I", Cond.methodLink RX6 72 yX6_isRow, Cond.instanceMethod yX6_isRow, Cond.selects RX6 yX6_isRow yX6_isRow, Cond.initialized RX6, Cond.code yX6_isRow cX6_isRow 2 (some .boolean), Cond.methodLink RX6 28 yX6_in, Cond.static yX6_in, Cond.code yX6_in cX6_in 3 (some .boolean), Cond.methodLink RX6 65 yX6_remember, Cond.instanceMethod yX6_remember, Cond.selects RX6 yX6_remember yX6_remember, Cond.code yX6_remember cX6_remember 1 none, Cond.methodLink RX6 39 yX6_copy, Cond.instanceMethod yX6_copy, Cond.selects RX6 yX6_copy yX6_copy, Cond.code yX6_copy cX6_copy 2 none, Cond.fieldLink RX6 13 "PushedTablesModel" "before" "[I", Cond.methodLink RX6 42 yX6_record, Cond.instanceMethod yX6_record, Cond.selects RX6 yX6_record yX6_record, Cond.code yX6_record cX6_record 2 none, Cond.fieldLink RX6 16 "PushedTablesModel" "states" "[I", Cond.fieldLink RX6 32 "PushedTablesModel" "stateAt" "I"]
def wsX6_set_r2 : List Cond := [Cond.fieldLink RX6 36 "PushedTablesModel" "stateMany" "I", Cond.methodLink RX6 76 yX6_valueOf, Cond.instanceMethod yX6_valueOf, Cond.selects RX6 yX6_valueOf yX6_valueOf, Cond.code yX6_valueOf cX6_valueOf 3 (some .int), Cond.methodLink RX6 45 yX6_entries, Cond.instanceMethod yX6_entries, Cond.selects RX6 yX6_entries yX6_entries, Cond.code yX6_entries cX6_entries 2 (some .int), Cond.methodLink RX6 49 yX6_has, Cond.static yX6_has, Cond.code yX6_has cX6_has 2 (some .boolean), Cond.methodLink RX6 80 yX6_leavesFor, Cond.instanceMethod yX6_leavesFor, Cond.selects RX6 yX6_leavesFor yX6_leavesFor, Cond.code yX6_leavesFor cX6_leavesFor 3 none, Cond.methodLink RX6 87 yX6_leaves, Cond.instanceMethod yX6_leaves, Cond.selects RX6 yX6_leaves yX6_leaves, Cond.code yX6_leaves cX6_leaves 3 none, Cond.methodLink RX6 62 yX6_sharers, Cond.instanceMethod yX6_sharers, Cond.selects RX6 yX6_sharers yX6_sharers, Cond.code yX6_sharers cX6_sharers 4 (some .int)]
def wsX6_set_r3 : List Cond := [Cond.methodLink RX6 84 yX6_formsFor, Cond.instanceMethod yX6_formsFor, Cond.selects RX6 yX6_formsFor yX6_formsFor, Cond.code yX6_formsFor cX6_formsFor 3 none, Cond.methodLink RX6 90 yX6_forms, Cond.instanceMethod yX6_forms, Cond.selects RX6 yX6_forms yX6_forms, Cond.code yX6_forms cX6_forms 5 none, Cond.methodLink RX6 53 yX6_areAlike, Cond.instanceMethod yX6_areAlike, Cond.selects RX6 yX6_areAlike yX6_areAlike, Cond.code yX6_areAlike cX6_areAlike 5 (some .boolean), Cond.methodLink RX6 56 yX6_layStore, Cond.instanceMethod yX6_layStore, Cond.selects RX6 yX6_layStore yX6_layStore, Cond.code yX6_layStore cX6_layStore 4 none, Cond.fieldLink RX6 19 "PushedTablesModel" "marks" "[I", Cond.fieldLink RX6 22 "PushedTablesModel" "values" "[I", Cond.methodLink RX6 59 yX6_fits, Cond.instanceMethod yX6_fits, Cond.selects RX6 yX6_fits yX6_fits, Cond.code yX6_fits cX6_fits 5 (some .int)]
def wsX6_set : List Cond := .code yX6_set cX6_set 5 (some .int) :: ((wsX6_set_r1 ++ (wsX6_set_r2 ++ wsX6_set_r3)) ++ wsX60)
def wsX6_entriesBy : List Cond := .code yX6_entriesBy cX6_entriesBy 6 (some .int) :: ([.methodLink RX6 45 yX6_entries, .instanceMethod yX6_entries, .selects RX6 yX6_entries yX6_entries, .initialized RX6, .code yX6_entries cX6_entries 2 (some .int), .fieldLink RX6 7 "PushedTablesModel" "now" "[I", .methodLink RX6 49 yX6_has, .static yX6_has, .code yX6_has cX6_has 2 (some .boolean), .methodLink RX6 76 yX6_valueOf, .instanceMethod yX6_valueOf, .selects RX6 yX6_valueOf yX6_valueOf, .code yX6_valueOf cX6_valueOf 3 (some .int)] ++ wsX60)
def wsX6_setDefault_r1 : List Cond := [Cond.fieldLink RX6 7 "PushedTablesModel" "now" "[I", Cond.methodLink RX6 72 yX6_isRow, Cond.instanceMethod yX6_isRow, Cond.selects RX6 yX6_isRow yX6_isRow, Cond.initialized RX6, Cond.code yX6_isRow cX6_isRow 2 (some .boolean), Cond.methodLink RX6 28 yX6_in, Cond.static yX6_in, Cond.code yX6_in cX6_in 3 (some .boolean), Cond.methodLink RX6 65 yX6_remember, Cond.instanceMethod yX6_remember, Cond.selects RX6 yX6_remember yX6_remember, Cond.code yX6_remember cX6_remember 1 none, Cond.methodLink RX6 39 yX6_copy, Cond.instanceMethod yX6_copy, Cond.selects RX6 yX6_copy yX6_copy, Cond.code yX6_copy cX6_copy 2 none, Cond.fieldLink RX6 13 "PushedTablesModel" "before" "[I", Cond.methodLink RX6 42 yX6_record, Cond.instanceMethod yX6_record, Cond.selects RX6 yX6_record yX6_record, Cond.code yX6_record cX6_record 2 none, Cond.fieldLink RX6 16 "PushedTablesModel" "states" "[I", Cond.fieldLink RX6 32 "PushedTablesModel" "stateAt" "I"]
def wsX6_setDefault_r2 : List Cond := [Cond.fieldLink RX6 36 "PushedTablesModel" "stateMany" "I", Cond.methodLink RX6 93 yX6_entriesBy, Cond.instanceMethod yX6_entriesBy, Cond.selects RX6 yX6_entriesBy yX6_entriesBy, Cond.code yX6_entriesBy cX6_entriesBy 6 (some .int), Cond.methodLink RX6 45 yX6_entries, Cond.instanceMethod yX6_entries, Cond.selects RX6 yX6_entries yX6_entries, Cond.code yX6_entries cX6_entries 2 (some .int), Cond.methodLink RX6 49 yX6_has, Cond.static yX6_has, Cond.code yX6_has cX6_has 2 (some .boolean), Cond.methodLink RX6 76 yX6_valueOf, Cond.instanceMethod yX6_valueOf, Cond.selects RX6 yX6_valueOf yX6_valueOf, Cond.code yX6_valueOf cX6_valueOf 3 (some .int), Cond.methodLink RX6 80 yX6_leavesFor, Cond.instanceMethod yX6_leavesFor, Cond.selects RX6 yX6_leavesFor yX6_leavesFor, Cond.code yX6_leavesFor cX6_leavesFor 3 none, Cond.methodLink RX6 87 yX6_leaves, Cond.instanceMethod yX6_leaves, Cond.selects RX6 yX6_leaves yX6_leaves, Cond.code yX6_leaves cX6_leaves 3 none]
def wsX6_setDefault_r3 : List Cond := [Cond.methodLink RX6 62 yX6_sharers, Cond.instanceMethod yX6_sharers, Cond.selects RX6 yX6_sharers yX6_sharers, Cond.code yX6_sharers cX6_sharers 4 (some .int), Cond.methodLink RX6 84 yX6_formsFor, Cond.instanceMethod yX6_formsFor, Cond.selects RX6 yX6_formsFor yX6_formsFor, Cond.code yX6_formsFor cX6_formsFor 3 none, Cond.methodLink RX6 90 yX6_forms, Cond.instanceMethod yX6_forms, Cond.selects RX6 yX6_forms yX6_forms, Cond.code yX6_forms cX6_forms 5 none, Cond.methodLink RX6 53 yX6_areAlike, Cond.instanceMethod yX6_areAlike, Cond.selects RX6 yX6_areAlike yX6_areAlike, Cond.code yX6_areAlike cX6_areAlike 5 (some .boolean), Cond.methodLink RX6 56 yX6_layStore, Cond.instanceMethod yX6_layStore, Cond.selects RX6 yX6_layStore yX6_layStore, Cond.code yX6_layStore cX6_layStore 4 none, Cond.fieldLink RX6 19 "PushedTablesModel" "marks" "[I", Cond.fieldLink RX6 22 "PushedTablesModel" "values" "[I", Cond.methodLink RX6 59 yX6_fits, Cond.instanceMethod yX6_fits]
def wsX6_setDefault_r4 : List Cond := [Cond.selects RX6 yX6_fits yX6_fits, Cond.code yX6_fits cX6_fits 5 (some .int), Cond.methodLink RX6 97 yX6_bits, Cond.static yX6_bits, Cond.code yX6_bits cX6_bits 3 (some .int)]
def wsX6_setDefault : List Cond := .code yX6_setDefault cX6_setDefault 5 (some .int) :: ((wsX6_setDefault_r1 ++ (wsX6_setDefault_r2 ++ (wsX6_setDefault_r3 ++ wsX6_setDefault_r4))) ++ wsX60)
def wsX6_removeLast_r1 : List Cond := [Cond.fieldLink RX6 7 "PushedTablesModel" "now" "[I", Cond.methodLink RX6 65 yX6_remember, Cond.instanceMethod yX6_remember, Cond.selects RX6 yX6_remember yX6_remember, Cond.initialized RX6, Cond.code yX6_remember cX6_remember 1 none, Cond.methodLink RX6 39 yX6_copy, Cond.instanceMethod yX6_copy, Cond.selects RX6 yX6_copy yX6_copy, Cond.code yX6_copy cX6_copy 2 none, Cond.fieldLink RX6 13 "PushedTablesModel" "before" "[I", Cond.methodLink RX6 42 yX6_record, Cond.instanceMethod yX6_record, Cond.selects RX6 yX6_record yX6_record, Cond.code yX6_record cX6_record 2 none, Cond.fieldLink RX6 16 "PushedTablesModel" "states" "[I", Cond.fieldLink RX6 32 "PushedTablesModel" "stateAt" "I", Cond.fieldLink RX6 36 "PushedTablesModel" "stateMany" "I", Cond.methodLink RX6 87 yX6_leaves, Cond.instanceMethod yX6_leaves, Cond.selects RX6 yX6_leaves yX6_leaves, Cond.code yX6_leaves cX6_leaves 3 none, Cond.methodLink RX6 62 yX6_sharers, Cond.instanceMethod yX6_sharers]
def wsX6_removeLast_r2 : List Cond := [Cond.selects RX6 yX6_sharers yX6_sharers, Cond.code yX6_sharers cX6_sharers 4 (some .int)]
def wsX6_removeLast : List Cond := .code yX6_removeLast cX6_removeLast 1 (some .int) :: ((wsX6_removeLast_r1 ++ wsX6_removeLast_r2) ++ wsX60)
def wsX6_most : List Cond := .code yX6_most cX6_most 7 (some .int) :: ([.methodLink RX6 76 yX6_valueOf, .instanceMethod yX6_valueOf, .selects RX6 yX6_valueOf yX6_valueOf, .initialized RX6, .code yX6_valueOf cX6_valueOf 3 (some .int), .fieldLink RX6 7 "PushedTablesModel" "now" "[I", .methodLink RX6 45 yX6_entries, .instanceMethod yX6_entries, .selects RX6 yX6_entries yX6_entries, .code yX6_entries cX6_entries 2 (some .int), .methodLink RX6 49 yX6_has, .static yX6_has, .code yX6_has cX6_has 2 (some .boolean)] ++ wsX60)
def wsX6_slim_r1 : List Cond := [Cond.fieldLink RX6 7 "PushedTablesModel" "now" "[I", Cond.methodLink RX6 72 yX6_isRow, Cond.instanceMethod yX6_isRow, Cond.selects RX6 yX6_isRow yX6_isRow, Cond.initialized RX6, Cond.code yX6_isRow cX6_isRow 2 (some .boolean), Cond.methodLink RX6 28 yX6_in, Cond.static yX6_in, Cond.code yX6_in cX6_in 3 (some .boolean), Cond.methodLink RX6 65 yX6_remember, Cond.instanceMethod yX6_remember, Cond.selects RX6 yX6_remember yX6_remember, Cond.code yX6_remember cX6_remember 1 none, Cond.methodLink RX6 39 yX6_copy, Cond.instanceMethod yX6_copy, Cond.selects RX6 yX6_copy yX6_copy, Cond.code yX6_copy cX6_copy 2 none, Cond.fieldLink RX6 13 "PushedTablesModel" "before" "[I", Cond.methodLink RX6 42 yX6_record, Cond.instanceMethod yX6_record, Cond.selects RX6 yX6_record yX6_record, Cond.code yX6_record cX6_record 2 none, Cond.fieldLink RX6 16 "PushedTablesModel" "states" "[I", Cond.fieldLink RX6 32 "PushedTablesModel" "stateAt" "I"]
def wsX6_slim_r2 : List Cond := [Cond.fieldLink RX6 36 "PushedTablesModel" "stateMany" "I", Cond.methodLink RX6 100 yX6_most, Cond.instanceMethod yX6_most, Cond.selects RX6 yX6_most yX6_most, Cond.code yX6_most cX6_most 7 (some .int), Cond.methodLink RX6 76 yX6_valueOf, Cond.instanceMethod yX6_valueOf, Cond.selects RX6 yX6_valueOf yX6_valueOf, Cond.code yX6_valueOf cX6_valueOf 3 (some .int), Cond.methodLink RX6 45 yX6_entries, Cond.instanceMethod yX6_entries, Cond.selects RX6 yX6_entries yX6_entries, Cond.code yX6_entries cX6_entries 2 (some .int), Cond.methodLink RX6 49 yX6_has, Cond.static yX6_has, Cond.code yX6_has cX6_has 2 (some .boolean), Cond.methodLink RX6 93 yX6_entriesBy, Cond.instanceMethod yX6_entriesBy, Cond.selects RX6 yX6_entriesBy yX6_entriesBy, Cond.code yX6_entriesBy cX6_entriesBy 6 (some .int), Cond.methodLink RX6 80 yX6_leavesFor, Cond.instanceMethod yX6_leavesFor, Cond.selects RX6 yX6_leavesFor yX6_leavesFor, Cond.code yX6_leavesFor cX6_leavesFor 3 none]
def wsX6_slim_r3 : List Cond := [Cond.methodLink RX6 87 yX6_leaves, Cond.instanceMethod yX6_leaves, Cond.selects RX6 yX6_leaves yX6_leaves, Cond.code yX6_leaves cX6_leaves 3 none, Cond.methodLink RX6 62 yX6_sharers, Cond.instanceMethod yX6_sharers, Cond.selects RX6 yX6_sharers yX6_sharers, Cond.code yX6_sharers cX6_sharers 4 (some .int), Cond.methodLink RX6 84 yX6_formsFor, Cond.instanceMethod yX6_formsFor, Cond.selects RX6 yX6_formsFor yX6_formsFor, Cond.code yX6_formsFor cX6_formsFor 3 none, Cond.methodLink RX6 90 yX6_forms, Cond.instanceMethod yX6_forms, Cond.selects RX6 yX6_forms yX6_forms, Cond.code yX6_forms cX6_forms 5 none, Cond.methodLink RX6 53 yX6_areAlike, Cond.instanceMethod yX6_areAlike, Cond.selects RX6 yX6_areAlike yX6_areAlike, Cond.code yX6_areAlike cX6_areAlike 5 (some .boolean), Cond.methodLink RX6 56 yX6_layStore, Cond.instanceMethod yX6_layStore, Cond.selects RX6 yX6_layStore yX6_layStore, Cond.code yX6_layStore cX6_layStore 4 none]
def wsX6_slim_r4 : List Cond := [Cond.fieldLink RX6 19 "PushedTablesModel" "marks" "[I", Cond.fieldLink RX6 22 "PushedTablesModel" "values" "[I", Cond.methodLink RX6 59 yX6_fits, Cond.instanceMethod yX6_fits, Cond.selects RX6 yX6_fits yX6_fits, Cond.code yX6_fits cX6_fits 5 (some .int)]
def wsX6_slim : List Cond := .code yX6_slim cX6_slim 6 (some .int) :: ((wsX6_slim_r1 ++ (wsX6_slim_r2 ++ (wsX6_slim_r3 ++ wsX6_slim_r4))) ++ wsX60)
def wsX6_pushes_r1 : List Cond := [Cond.fieldLink RX6 7 "PushedTablesModel" "now" "[I", Cond.methodLink RX6 45 yX6_entries, Cond.instanceMethod yX6_entries, Cond.selects RX6 yX6_entries yX6_entries, Cond.initialized RX6, Cond.code yX6_entries cX6_entries 2 (some .int), Cond.methodLink RX6 97 yX6_bits, Cond.static yX6_bits, Cond.code yX6_bits cX6_bits 3 (some .int), Cond.methodLink RX6 90 yX6_forms, Cond.instanceMethod yX6_forms, Cond.selects RX6 yX6_forms yX6_forms, Cond.code yX6_forms cX6_forms 5 none, Cond.methodLink RX6 53 yX6_areAlike, Cond.instanceMethod yX6_areAlike, Cond.selects RX6 yX6_areAlike yX6_areAlike, Cond.code yX6_areAlike cX6_areAlike 5 (some .boolean), Cond.methodLink RX6 49 yX6_has, Cond.static yX6_has, Cond.code yX6_has cX6_has 2 (some .boolean), Cond.methodLink RX6 56 yX6_layStore, Cond.instanceMethod yX6_layStore, Cond.selects RX6 yX6_layStore yX6_layStore, Cond.code yX6_layStore cX6_layStore 4 none]
def wsX6_pushes_r2 : List Cond := [Cond.fieldLink RX6 19 "PushedTablesModel" "marks" "[I", Cond.fieldLink RX6 22 "PushedTablesModel" "values" "[I", Cond.methodLink RX6 59 yX6_fits, Cond.instanceMethod yX6_fits, Cond.selects RX6 yX6_fits yX6_fits, Cond.code yX6_fits cX6_fits 5 (some .int)]
def wsX6_pushes : List Cond := .code yX6_pushes cX6_pushes 4 none :: ((wsX6_pushes_r1 ++ wsX6_pushes_r2) ++ wsX60)
def wsX6_end : List Cond := .code yX6_end cX6_end 3 (some .int) :: ([.fieldLink RX6 19 "PushedTablesModel" "marks" "[I", .methodLink RX6 56 yX6_layStore, .instanceMethod yX6_layStore, .selects RX6 yX6_layStore yX6_layStore, .initialized RX6, .code yX6_layStore cX6_layStore 4 none, .fieldLink RX6 7 "PushedTablesModel" "now" "[I", .fieldLink RX6 22 "PushedTablesModel" "values" "[I", .methodLink RX6 45 yX6_entries, .instanceMethod yX6_entries, .selects RX6 yX6_entries yX6_entries, .code yX6_entries cX6_entries 2 (some .int), .methodLink RX6 49 yX6_has, .static yX6_has, .code yX6_has cX6_has 2 (some .boolean)] ++ wsX60)
def wsX6_push_r1 : List Cond := [Cond.methodLink RX6 65 yX6_remember, Cond.instanceMethod yX6_remember, Cond.selects RX6 yX6_remember yX6_remember, Cond.initialized RX6, Cond.code yX6_remember cX6_remember 1 none, Cond.methodLink RX6 39 yX6_copy, Cond.instanceMethod yX6_copy, Cond.selects RX6 yX6_copy yX6_copy, Cond.code yX6_copy cX6_copy 2 none, Cond.fieldLink RX6 13 "PushedTablesModel" "before" "[I", Cond.fieldLink RX6 7 "PushedTablesModel" "now" "[I", Cond.methodLink RX6 42 yX6_record, Cond.instanceMethod yX6_record, Cond.selects RX6 yX6_record yX6_record, Cond.code yX6_record cX6_record 2 none, Cond.fieldLink RX6 16 "PushedTablesModel" "states" "[I", Cond.fieldLink RX6 32 "PushedTablesModel" "stateAt" "I", Cond.fieldLink RX6 36 "PushedTablesModel" "stateMany" "I", Cond.methodLink RX6 103 yX6_pushes, Cond.instanceMethod yX6_pushes, Cond.selects RX6 yX6_pushes yX6_pushes, Cond.code yX6_pushes cX6_pushes 4 none, Cond.methodLink RX6 45 yX6_entries, Cond.instanceMethod yX6_entries]
def wsX6_push_r2 : List Cond := [Cond.selects RX6 yX6_entries yX6_entries, Cond.code yX6_entries cX6_entries 2 (some .int), Cond.methodLink RX6 97 yX6_bits, Cond.static yX6_bits, Cond.code yX6_bits cX6_bits 3 (some .int), Cond.methodLink RX6 90 yX6_forms, Cond.instanceMethod yX6_forms, Cond.selects RX6 yX6_forms yX6_forms, Cond.code yX6_forms cX6_forms 5 none, Cond.methodLink RX6 53 yX6_areAlike, Cond.instanceMethod yX6_areAlike, Cond.selects RX6 yX6_areAlike yX6_areAlike, Cond.code yX6_areAlike cX6_areAlike 5 (some .boolean), Cond.methodLink RX6 49 yX6_has, Cond.static yX6_has, Cond.code yX6_has cX6_has 2 (some .boolean), Cond.methodLink RX6 56 yX6_layStore, Cond.instanceMethod yX6_layStore, Cond.selects RX6 yX6_layStore yX6_layStore, Cond.code yX6_layStore cX6_layStore 4 none, Cond.fieldLink RX6 19 "PushedTablesModel" "marks" "[I", Cond.fieldLink RX6 22 "PushedTablesModel" "values" "[I", Cond.methodLink RX6 59 yX6_fits, Cond.instanceMethod yX6_fits]
def wsX6_push_r3 : List Cond := [Cond.selects RX6 yX6_fits yX6_fits, Cond.code yX6_fits cX6_fits 5 (some .int), Cond.methodLink RX6 107 yX6_end, Cond.instanceMethod yX6_end, Cond.selects RX6 yX6_end yX6_end, Cond.code yX6_end cX6_end 3 (some .int)]
def wsX6_push : List Cond := .code yX6_push cX6_push 1 (some .int) :: ((wsX6_push_r1 ++ (wsX6_push_r2 ++ wsX6_push_r3)) ++ wsX60)
def wsX6_append : List Cond := .code yX6_append cX6_append 2 (some .int) :: ([.fieldLink RX6 111 "PushedTablesModel" "letters" "I", .fieldLink RX6 25 "PushedTablesModel" "text" "[I", .methodLink RX6 28 yX6_in, .static yX6_in, .initialized RX6, .code yX6_in cX6_in 3 (some .boolean)] ++ wsX60)
def wsX6_clearText : List Cond := .code yX6_clearText cX6_clearText 2 (some .int) :: ([.fieldLink RX6 111 "PushedTablesModel" "letters" "I"] ++ wsX60)
def wsX6_here : List Cond := .code yX6_here cX6_here 1 (some .int) :: ([.fieldLink RX6 114 "PushedTablesModel" "readAt" "I", .fieldLink RX6 111 "PushedTablesModel" "letters" "I", .fieldLink RX6 25 "PushedTablesModel" "text" "[I"] ++ wsX60)
def wsX6_isDigit : List Cond := .code yX6_isDigit cX6_isDigit 2 (some .boolean) :: ([.fieldLink RX6 111 "PushedTablesModel" "letters" "I", .fieldLink RX6 25 "PushedTablesModel" "text" "[I", .methodLink RX6 28 yX6_in, .static yX6_in, .initialized RX6, .code yX6_in cX6_in 3 (some .boolean)] ++ wsX60)
def wsX6_fails : List Cond := .code yX6_fails cX6_fails 2 (some .int) :: ([.fieldLink RX6 117 "PushedTablesModel" "failure" "I"] ++ wsX60)
def wsX6_number : List Cond := .code yX6_number cX6_number 2 (some .int) :: ([.fieldLink RX6 114 "PushedTablesModel" "readAt" "I", .fieldLink RX6 25 "PushedTablesModel" "text" "[I", .methodLink RX6 120 yX6_here, .instanceMethod yX6_here, .selects RX6 yX6_here yX6_here, .initialized RX6, .code yX6_here cX6_here 1 (some .int), .fieldLink RX6 111 "PushedTablesModel" "letters" "I", .methodLink RX6 123 yX6_isDigit, .instanceMethod yX6_isDigit, .selects RX6 yX6_isDigit yX6_isDigit, .code yX6_isDigit cX6_isDigit 2 (some .boolean), .methodLink RX6 28 yX6_in, .static yX6_in, .code yX6_in cX6_in 3 (some .boolean), .methodLink RX6 126 yX6_fails, .instanceMethod yX6_fails, .selects RX6 yX6_fails yX6_fails, .code yX6_fails cX6_fails 2 (some .int), .fieldLink RX6 117 "PushedTablesModel" "failure" "I"] ++ wsX60)
def wsX6_sign : List Cond := .code yX6_sign cX6_sign 2 (some .boolean) :: ([.fieldLink RX6 114 "PushedTablesModel" "readAt" "I", .methodLink RX6 120 yX6_here, .instanceMethod yX6_here, .selects RX6 yX6_here yX6_here, .initialized RX6, .code yX6_here cX6_here 1 (some .int), .fieldLink RX6 111 "PushedTablesModel" "letters" "I", .fieldLink RX6 25 "PushedTablesModel" "text" "[I", .methodLink RX6 126 yX6_fails, .instanceMethod yX6_fails, .selects RX6 yX6_fails yX6_fails, .code yX6_fails cX6_fails 2 (some .int), .fieldLink RX6 117 "PushedTablesModel" "failure" "I"] ++ wsX60)
def wsX6_entry_r1 : List Cond := [Cond.fieldLink RX6 114 "PushedTablesModel" "readAt" "I", Cond.fieldLink RX6 7 "PushedTablesModel" "now" "[I", Cond.methodLink RX6 120 yX6_here, Cond.instanceMethod yX6_here, Cond.selects RX6 yX6_here yX6_here, Cond.initialized RX6, Cond.code yX6_here cX6_here 1 (some .int), Cond.fieldLink RX6 111 "PushedTablesModel" "letters" "I", Cond.fieldLink RX6 25 "PushedTablesModel" "text" "[I", Cond.methodLink RX6 129 yX6_number, Cond.instanceMethod yX6_number, Cond.selects RX6 yX6_number yX6_number, Cond.code yX6_number cX6_number 2 (some .int), Cond.methodLink RX6 123 yX6_isDigit, Cond.instanceMethod yX6_isDigit, Cond.selects RX6 yX6_isDigit yX6_isDigit, Cond.code yX6_isDigit cX6_isDigit 2 (some .boolean), Cond.methodLink RX6 28 yX6_in, Cond.static yX6_in, Cond.code yX6_in cX6_in 3 (some .boolean), Cond.methodLink RX6 126 yX6_fails, Cond.instanceMethod yX6_fails, Cond.selects RX6 yX6_fails yX6_fails, Cond.code yX6_fails cX6_fails 2 (some .int)]
def wsX6_entry_r2 : List Cond := [Cond.fieldLink RX6 117 "PushedTablesModel" "failure" "I", Cond.methodLink RX6 132 yX6_sign, Cond.instanceMethod yX6_sign, Cond.selects RX6 yX6_sign yX6_sign, Cond.code yX6_sign cX6_sign 2 (some .boolean)]
def wsX6_entry : List Cond := .code yX6_entry cX6_entry 6 (some .int) :: ((wsX6_entry_r1 ++ wsX6_entry_r2) ++ wsX60)
def wsX6_rowRead_r1 : List Cond := [Cond.fieldLink RX6 7 "PushedTablesModel" "now" "[I", Cond.fieldLink RX6 114 "PushedTablesModel" "readAt" "I", Cond.methodLink RX6 126 yX6_fails, Cond.instanceMethod yX6_fails, Cond.selects RX6 yX6_fails yX6_fails, Cond.initialized RX6, Cond.code yX6_fails cX6_fails 2 (some .int), Cond.fieldLink RX6 117 "PushedTablesModel" "failure" "I", Cond.methodLink RX6 123 yX6_isDigit, Cond.instanceMethod yX6_isDigit, Cond.selects RX6 yX6_isDigit yX6_isDigit, Cond.code yX6_isDigit cX6_isDigit 2 (some .boolean), Cond.fieldLink RX6 111 "PushedTablesModel" "letters" "I", Cond.fieldLink RX6 25 "PushedTablesModel" "text" "[I", Cond.methodLink RX6 28 yX6_in, Cond.static yX6_in, Cond.code yX6_in cX6_in 3 (some .boolean), Cond.methodLink RX6 129 yX6_number, Cond.instanceMethod yX6_number, Cond.selects RX6 yX6_number yX6_number, Cond.code yX6_number cX6_number 2 (some .int), Cond.methodLink RX6 120 yX6_here, Cond.instanceMethod yX6_here, Cond.selects RX6 yX6_here yX6_here]
def wsX6_rowRead_r2 : List Cond := [Cond.code yX6_here cX6_here 1 (some .int), Cond.methodLink RX6 132 yX6_sign, Cond.instanceMethod yX6_sign, Cond.selects RX6 yX6_sign yX6_sign, Cond.code yX6_sign cX6_sign 2 (some .boolean), Cond.methodLink RX6 68 yX6_adds, Cond.instanceMethod yX6_adds, Cond.selects RX6 yX6_adds yX6_adds, Cond.code yX6_adds cX6_adds 3 none, Cond.methodLink RX6 135 yX6_entry, Cond.instanceMethod yX6_entry, Cond.selects RX6 yX6_entry yX6_entry, Cond.code yX6_entry cX6_entry 6 (some .int), Cond.methodLink RX6 90 yX6_forms, Cond.instanceMethod yX6_forms, Cond.selects RX6 yX6_forms yX6_forms, Cond.code yX6_forms cX6_forms 5 none, Cond.methodLink RX6 53 yX6_areAlike, Cond.instanceMethod yX6_areAlike, Cond.selects RX6 yX6_areAlike yX6_areAlike, Cond.code yX6_areAlike cX6_areAlike 5 (some .boolean), Cond.methodLink RX6 45 yX6_entries, Cond.instanceMethod yX6_entries, Cond.selects RX6 yX6_entries yX6_entries]
def wsX6_rowRead_r3 : List Cond := [Cond.code yX6_entries cX6_entries 2 (some .int), Cond.methodLink RX6 49 yX6_has, Cond.static yX6_has, Cond.code yX6_has cX6_has 2 (some .boolean), Cond.methodLink RX6 56 yX6_layStore, Cond.instanceMethod yX6_layStore, Cond.selects RX6 yX6_layStore yX6_layStore, Cond.code yX6_layStore cX6_layStore 4 none, Cond.fieldLink RX6 19 "PushedTablesModel" "marks" "[I", Cond.fieldLink RX6 22 "PushedTablesModel" "values" "[I", Cond.methodLink RX6 59 yX6_fits, Cond.instanceMethod yX6_fits, Cond.selects RX6 yX6_fits yX6_fits, Cond.code yX6_fits cX6_fits 5 (some .int)]
def wsX6_rowRead : List Cond := .code yX6_rowRead cX6_rowRead 5 (some .boolean) :: ((wsX6_rowRead_r1 ++ (wsX6_rowRead_r2 ++ wsX6_rowRead_r3)) ++ wsX60)
def wsX6_read_r1 : List Cond := [Cond.fieldLink RX6 114 "PushedTablesModel" "readAt" "I", Cond.fieldLink RX6 117 "PushedTablesModel" "failure" "I", Cond.fieldLink RX6 111 "PushedTablesModel" "letters" "I", Cond.methodLink RX6 39 yX6_copy, Cond.instanceMethod yX6_copy, Cond.selects RX6 yX6_copy yX6_copy, Cond.initialized RX6, Cond.code yX6_copy cX6_copy 2 none, Cond.fieldLink RX6 13 "PushedTablesModel" "before" "[I", Cond.fieldLink RX6 7 "PushedTablesModel" "now" "[I", Cond.methodLink RX6 120 yX6_here, Cond.instanceMethod yX6_here, Cond.selects RX6 yX6_here yX6_here, Cond.code yX6_here cX6_here 1 (some .int), Cond.fieldLink RX6 25 "PushedTablesModel" "text" "[I", Cond.methodLink RX6 138 yX6_rowRead, Cond.instanceMethod yX6_rowRead, Cond.selects RX6 yX6_rowRead yX6_rowRead, Cond.code yX6_rowRead cX6_rowRead 5 (some .boolean), Cond.methodLink RX6 126 yX6_fails, Cond.instanceMethod yX6_fails, Cond.selects RX6 yX6_fails yX6_fails, Cond.code yX6_fails cX6_fails 2 (some .int), Cond.methodLink RX6 123 yX6_isDigit]
def wsX6_read_r2 : List Cond := [Cond.instanceMethod yX6_isDigit, Cond.selects RX6 yX6_isDigit yX6_isDigit, Cond.code yX6_isDigit cX6_isDigit 2 (some .boolean), Cond.methodLink RX6 28 yX6_in, Cond.static yX6_in, Cond.code yX6_in cX6_in 3 (some .boolean), Cond.methodLink RX6 129 yX6_number, Cond.instanceMethod yX6_number, Cond.selects RX6 yX6_number yX6_number, Cond.code yX6_number cX6_number 2 (some .int), Cond.methodLink RX6 132 yX6_sign, Cond.instanceMethod yX6_sign, Cond.selects RX6 yX6_sign yX6_sign, Cond.code yX6_sign cX6_sign 2 (some .boolean), Cond.methodLink RX6 68 yX6_adds, Cond.instanceMethod yX6_adds, Cond.selects RX6 yX6_adds yX6_adds, Cond.code yX6_adds cX6_adds 3 none, Cond.methodLink RX6 135 yX6_entry, Cond.instanceMethod yX6_entry, Cond.selects RX6 yX6_entry yX6_entry, Cond.code yX6_entry cX6_entry 6 (some .int), Cond.methodLink RX6 90 yX6_forms, Cond.instanceMethod yX6_forms]
def wsX6_read_r3 : List Cond := [Cond.selects RX6 yX6_forms yX6_forms, Cond.code yX6_forms cX6_forms 5 none, Cond.methodLink RX6 53 yX6_areAlike, Cond.instanceMethod yX6_areAlike, Cond.selects RX6 yX6_areAlike yX6_areAlike, Cond.code yX6_areAlike cX6_areAlike 5 (some .boolean), Cond.methodLink RX6 45 yX6_entries, Cond.instanceMethod yX6_entries, Cond.selects RX6 yX6_entries yX6_entries, Cond.code yX6_entries cX6_entries 2 (some .int), Cond.methodLink RX6 49 yX6_has, Cond.static yX6_has, Cond.code yX6_has cX6_has 2 (some .boolean), Cond.methodLink RX6 56 yX6_layStore, Cond.instanceMethod yX6_layStore, Cond.selects RX6 yX6_layStore yX6_layStore, Cond.code yX6_layStore cX6_layStore 4 none, Cond.fieldLink RX6 19 "PushedTablesModel" "marks" "[I", Cond.fieldLink RX6 22 "PushedTablesModel" "values" "[I", Cond.methodLink RX6 59 yX6_fits, Cond.instanceMethod yX6_fits, Cond.selects RX6 yX6_fits yX6_fits, Cond.code yX6_fits cX6_fits 5 (some .int), Cond.methodLink RX6 142 yX6_back]
def wsX6_read_r4 : List Cond := [Cond.instanceMethod yX6_back, Cond.selects RX6 yX6_back yX6_back, Cond.code yX6_back cX6_back 2 none, Cond.methodLink RX6 42 yX6_record, Cond.instanceMethod yX6_record, Cond.selects RX6 yX6_record yX6_record, Cond.code yX6_record cX6_record 2 none, Cond.fieldLink RX6 16 "PushedTablesModel" "states" "[I", Cond.fieldLink RX6 32 "PushedTablesModel" "stateAt" "I", Cond.fieldLink RX6 36 "PushedTablesModel" "stateMany" "I"]
def wsX6_read : List Cond := .code yX6_read cX6_read 2 (some .int) :: ((wsX6_read_r1 ++ (wsX6_read_r2 ++ (wsX6_read_r3 ++ wsX6_read_r4))) ++ wsX60)
def wsX6_get : List Cond := .code yX6_get cX6_get 3 (some .int) :: ([.methodLink RX6 72 yX6_isRow, .instanceMethod yX6_isRow, .selects RX6 yX6_isRow yX6_isRow, .initialized RX6, .code yX6_isRow cX6_isRow 2 (some .boolean), .fieldLink RX6 7 "PushedTablesModel" "now" "[I", .methodLink RX6 28 yX6_in, .static yX6_in, .code yX6_in cX6_in 3 (some .boolean), .methodLink RX6 76 yX6_valueOf, .instanceMethod yX6_valueOf, .selects RX6 yX6_valueOf yX6_valueOf, .code yX6_valueOf cX6_valueOf 3 (some .int), .methodLink RX6 45 yX6_entries, .instanceMethod yX6_entries, .selects RX6 yX6_entries yX6_entries, .code yX6_entries cX6_entries 2 (some .int), .methodLink RX6 49 yX6_has, .static yX6_has, .code yX6_has cX6_has 2 (some .boolean)] ++ wsX60)
def wsX6_formMany : List Cond := .code yX6_formMany cX6_formMany 3 (some .int) :: ([.fieldLink RX6 7 "PushedTablesModel" "now" "[I"] ++ wsX60)
def wsX6_full : List Cond := .code yX6_full cX6_full 3 (some .int) :: ([.fieldLink RX6 19 "PushedTablesModel" "marks" "[I", .methodLink RX6 56 yX6_layStore, .instanceMethod yX6_layStore, .selects RX6 yX6_layStore yX6_layStore, .initialized RX6, .code yX6_layStore cX6_layStore 4 none, .fieldLink RX6 7 "PushedTablesModel" "now" "[I", .fieldLink RX6 22 "PushedTablesModel" "values" "[I", .methodLink RX6 45 yX6_entries, .instanceMethod yX6_entries, .selects RX6 yX6_entries yX6_entries, .code yX6_entries cX6_entries 2 (some .int), .methodLink RX6 49 yX6_has, .static yX6_has, .code yX6_has cX6_has 2 (some .boolean)] ++ wsX60)
def wsX6_strangers : List Cond := .code yX6_strangers cX6_strangers 6 (some .int) :: ([.fieldLink RX6 7 "PushedTablesModel" "now" "[I", .fieldLink RX6 19 "PushedTablesModel" "marks" "[I", .methodLink RX6 56 yX6_layStore, .instanceMethod yX6_layStore, .selects RX6 yX6_layStore yX6_layStore, .initialized RX6, .code yX6_layStore cX6_layStore 4 none, .fieldLink RX6 22 "PushedTablesModel" "values" "[I", .methodLink RX6 45 yX6_entries, .instanceMethod yX6_entries, .selects RX6 yX6_entries yX6_entries, .code yX6_entries cX6_entries 2 (some .int), .methodLink RX6 49 yX6_has, .static yX6_has, .code yX6_has cX6_has 2 (some .boolean)] ++ wsX60)
def wsX6_count_r1 : List Cond := [Cond.fieldLink RX6 7 "PushedTablesModel" "now" "[I", Cond.fieldLink RX6 36 "PushedTablesModel" "stateMany" "I", Cond.fieldLink RX6 111 "PushedTablesModel" "letters" "I", Cond.methodLink RX6 145 yX6_formMany, Cond.instanceMethod yX6_formMany, Cond.selects RX6 yX6_formMany yX6_formMany, Cond.initialized RX6, Cond.code yX6_formMany cX6_formMany 3 (some .int), Cond.methodLink RX6 45 yX6_entries, Cond.instanceMethod yX6_entries, Cond.selects RX6 yX6_entries yX6_entries, Cond.code yX6_entries cX6_entries 2 (some .int), Cond.methodLink RX6 97 yX6_bits, Cond.static yX6_bits, Cond.code yX6_bits cX6_bits 3 (some .int), Cond.methodLink RX6 148 yX6_full, Cond.instanceMethod yX6_full, Cond.selects RX6 yX6_full yX6_full, Cond.code yX6_full cX6_full 3 (some .int), Cond.fieldLink RX6 19 "PushedTablesModel" "marks" "[I", Cond.methodLink RX6 56 yX6_layStore, Cond.instanceMethod yX6_layStore, Cond.selects RX6 yX6_layStore yX6_layStore, Cond.code yX6_layStore cX6_layStore 4 none]
def wsX6_count_r2 : List Cond := [Cond.fieldLink RX6 22 "PushedTablesModel" "values" "[I", Cond.methodLink RX6 49 yX6_has, Cond.static yX6_has, Cond.code yX6_has cX6_has 2 (some .boolean), Cond.methodLink RX6 107 yX6_end, Cond.instanceMethod yX6_end, Cond.selects RX6 yX6_end yX6_end, Cond.code yX6_end cX6_end 3 (some .int), Cond.methodLink RX6 151 yX6_strangers, Cond.instanceMethod yX6_strangers, Cond.selects RX6 yX6_strangers yX6_strangers, Cond.code yX6_strangers cX6_strangers 6 (some .int)]
def wsX6_count : List Cond := .code yX6_count cX6_count 4 (some .int) :: ((wsX6_count_r1 ++ wsX6_count_r2) ++ wsX60)
def wsX6_row : List Cond := .code yX6_row cX6_row 4 (some .int) :: ([.fieldLink RX6 7 "PushedTablesModel" "now" "[I", .methodLink RX6 72 yX6_isRow, .instanceMethod yX6_isRow, .selects RX6 yX6_isRow yX6_isRow, .initialized RX6, .code yX6_isRow cX6_isRow 2 (some .boolean), .methodLink RX6 28 yX6_in, .static yX6_in, .code yX6_in cX6_in 3 (some .boolean), .methodLink RX6 45 yX6_entries, .instanceMethod yX6_entries, .selects RX6 yX6_entries yX6_entries, .code yX6_entries cX6_entries 2 (some .int), .methodLink RX6 97 yX6_bits, .static yX6_bits, .code yX6_bits cX6_bits 3 (some .int)] ++ wsX60)
def wsX6_form : List Cond := .code yX6_form cX6_form 5 (some .int) :: ([.fieldLink RX6 7 "PushedTablesModel" "now" "[I", .methodLink RX6 28 yX6_in, .static yX6_in, .initialized RX6, .code yX6_in cX6_in 3 (some .boolean), .methodLink RX6 45 yX6_entries, .instanceMethod yX6_entries, .selects RX6 yX6_entries yX6_entries, .code yX6_entries cX6_entries 2 (some .int), .methodLink RX6 97 yX6_bits, .static yX6_bits, .code yX6_bits cX6_bits 3 (some .int), .methodLink RX6 62 yX6_sharers, .instanceMethod yX6_sharers, .selects RX6 yX6_sharers yX6_sharers, .code yX6_sharers cX6_sharers 4 (some .int)] ++ wsX60)
def wsX6_cell : List Cond := .code yX6_cell cX6_cell 3 (some .int) :: ([.fieldLink RX6 19 "PushedTablesModel" "marks" "[I", .fieldLink RX6 22 "PushedTablesModel" "values" "[I", .methodLink RX6 28 yX6_in, .static yX6_in, .initialized RX6, .code yX6_in cX6_in 3 (some .boolean), .methodLink RX6 56 yX6_layStore, .instanceMethod yX6_layStore, .selects RX6 yX6_layStore yX6_layStore, .code yX6_layStore cX6_layStore 4 none, .fieldLink RX6 7 "PushedTablesModel" "now" "[I", .methodLink RX6 45 yX6_entries, .instanceMethod yX6_entries, .selects RX6 yX6_entries yX6_entries, .code yX6_entries cX6_entries 2 (some .int), .methodLink RX6 49 yX6_has, .static yX6_has, .code yX6_has cX6_has 2 (some .boolean)] ++ wsX60)
def wsX6_fit : List Cond := .code yX6_fit cX6_fit 2 (some .int) :: ([.constant RX6 154 (65535), .methodLink RX6 28 yX6_in, .static yX6_in, .initialized RX6, .code yX6_in cX6_in 3 (some .boolean), .methodLink RX6 56 yX6_layStore, .instanceMethod yX6_layStore, .selects RX6 yX6_layStore yX6_layStore, .code yX6_layStore cX6_layStore 4 none, .fieldLink RX6 19 "PushedTablesModel" "marks" "[I", .fieldLink RX6 7 "PushedTablesModel" "now" "[I", .fieldLink RX6 22 "PushedTablesModel" "values" "[I", .methodLink RX6 45 yX6_entries, .instanceMethod yX6_entries, .selects RX6 yX6_entries yX6_entries, .code yX6_entries cX6_entries 2 (some .int), .methodLink RX6 49 yX6_has, .static yX6_has, .code yX6_has cX6_has 2 (some .boolean), .methodLink RX6 59 yX6_fits, .instanceMethod yX6_fits, .selects RX6 yX6_fits yX6_fits, .code yX6_fits cX6_fits 5 (some .int)] ++ wsX60)
def wsX6_endBy_r1 : List Cond := [Cond.methodLink RX6 28 yX6_in, Cond.static yX6_in, Cond.initialized RX6, Cond.code yX6_in cX6_in 3 (some .boolean), Cond.methodLink RX6 39 yX6_copy, Cond.instanceMethod yX6_copy, Cond.selects RX6 yX6_copy yX6_copy, Cond.code yX6_copy cX6_copy 2 none, Cond.fieldLink RX6 13 "PushedTablesModel" "before" "[I", Cond.fieldLink RX6 7 "PushedTablesModel" "now" "[I", Cond.methodLink RX6 103 yX6_pushes, Cond.instanceMethod yX6_pushes, Cond.selects RX6 yX6_pushes yX6_pushes, Cond.code yX6_pushes cX6_pushes 4 none, Cond.methodLink RX6 45 yX6_entries, Cond.instanceMethod yX6_entries, Cond.selects RX6 yX6_entries yX6_entries, Cond.code yX6_entries cX6_entries 2 (some .int), Cond.methodLink RX6 97 yX6_bits, Cond.static yX6_bits, Cond.code yX6_bits cX6_bits 3 (some .int), Cond.methodLink RX6 90 yX6_forms, Cond.instanceMethod yX6_forms, Cond.selects RX6 yX6_forms yX6_forms]
def wsX6_endBy_r2 : List Cond := [Cond.code yX6_forms cX6_forms 5 none, Cond.methodLink RX6 53 yX6_areAlike, Cond.instanceMethod yX6_areAlike, Cond.selects RX6 yX6_areAlike yX6_areAlike, Cond.code yX6_areAlike cX6_areAlike 5 (some .boolean), Cond.methodLink RX6 49 yX6_has, Cond.static yX6_has, Cond.code yX6_has cX6_has 2 (some .boolean), Cond.methodLink RX6 56 yX6_layStore, Cond.instanceMethod yX6_layStore, Cond.selects RX6 yX6_layStore yX6_layStore, Cond.code yX6_layStore cX6_layStore 4 none, Cond.fieldLink RX6 19 "PushedTablesModel" "marks" "[I", Cond.fieldLink RX6 22 "PushedTablesModel" "values" "[I", Cond.methodLink RX6 59 yX6_fits, Cond.instanceMethod yX6_fits, Cond.selects RX6 yX6_fits yX6_fits, Cond.code yX6_fits cX6_fits 5 (some .int), Cond.methodLink RX6 107 yX6_end, Cond.instanceMethod yX6_end, Cond.selects RX6 yX6_end yX6_end, Cond.code yX6_end cX6_end 3 (some .int), Cond.methodLink RX6 142 yX6_back, Cond.instanceMethod yX6_back]
def wsX6_endBy_r3 : List Cond := [Cond.selects RX6 yX6_back yX6_back, Cond.code yX6_back cX6_back 2 none]
def wsX6_endBy : List Cond := .code yX6_endBy cX6_endBy 3 (some .int) :: ((wsX6_endBy_r1 ++ (wsX6_endBy_r2 ++ wsX6_endBy_r3)) ++ wsX60)
def wsX6_slimmer : List Cond := .code yX6_slimmer cX6_slimmer 3 (some .int) :: ([.fieldLink RX6 7 "PushedTablesModel" "now" "[I", .methodLink RX6 45 yX6_entries, .instanceMethod yX6_entries, .selects RX6 yX6_entries yX6_entries, .initialized RX6, .code yX6_entries cX6_entries 2 (some .int), .methodLink RX6 97 yX6_bits, .static yX6_bits, .code yX6_bits cX6_bits 3 (some .int), .methodLink RX6 100 yX6_most, .instanceMethod yX6_most, .selects RX6 yX6_most yX6_most, .code yX6_most cX6_most 7 (some .int), .methodLink RX6 76 yX6_valueOf, .instanceMethod yX6_valueOf, .selects RX6 yX6_valueOf yX6_valueOf, .code yX6_valueOf cX6_valueOf 3 (some .int), .methodLink RX6 49 yX6_has, .static yX6_has, .code yX6_has cX6_has 2 (some .boolean), .methodLink RX6 93 yX6_entriesBy, .instanceMethod yX6_entriesBy, .selects RX6 yX6_entriesBy yX6_entriesBy, .code yX6_entriesBy cX6_entriesBy 6 (some .int)] ++ wsX60)
def wsX6_like : List Cond := .code yX6_like cX6_like 7 (some .int) :: ([.fieldLink RX6 7 "PushedTablesModel" "now" "[I", .methodLink RX6 72 yX6_isRow, .instanceMethod yX6_isRow, .selects RX6 yX6_isRow yX6_isRow, .initialized RX6, .code yX6_isRow cX6_isRow 2 (some .boolean), .methodLink RX6 28 yX6_in, .static yX6_in, .code yX6_in cX6_in 3 (some .boolean), .methodLink RX6 76 yX6_valueOf, .instanceMethod yX6_valueOf, .selects RX6 yX6_valueOf yX6_valueOf, .code yX6_valueOf cX6_valueOf 3 (some .int), .methodLink RX6 45 yX6_entries, .instanceMethod yX6_entries, .selects RX6 yX6_entries yX6_entries, .code yX6_entries cX6_entries 2 (some .int), .methodLink RX6 49 yX6_has, .static yX6_has, .code yX6_has cX6_has 2 (some .boolean)] ++ wsX60)
abbrev vwCl : List vw_C := [(RX0, TX0, 2), (RX1, TX1, 5), (RX2, TX2, 2), (RX3, TX3, 2), (RX4, TX4, 8), (RX5, TX5, 4), (RX6, TX6, 11)]
end
section
theorem dJ6_bitCount_0f7a4_0 : decode cJ6_bitCount_0f7a4 0 = .ok (.iload_n 0, 1) := by decide +kernel
theorem dJ6_bitCount_0f7a4_1 : decode cJ6_bitCount_0f7a4 1 = .ok (.iload_n 0, 1) := by decide +kernel
theorem dJ6_bitCount_0f7a4_2 : decode cJ6_bitCount_0f7a4 2 = .ok (.iconst 1, 1) := by decide +kernel
theorem dJ6_bitCount_0f7a4_3 : decode cJ6_bitCount_0f7a4 3 = .ok (.iushr, 1) := by decide +kernel
theorem dJ6_bitCount_0f7a4_4 : decode cJ6_bitCount_0f7a4 4 = .ok (.ldc_w 265, 3) := by decide +kernel
theorem dJ6_bitCount_0f7a4_7 : decode cJ6_bitCount_0f7a4 7 = .ok (.iand, 1) := by decide +kernel
theorem dJ6_bitCount_0f7a4_8 : decode cJ6_bitCount_0f7a4 8 = .ok (.isub, 1) := by decide +kernel
theorem dJ6_bitCount_0f7a4_9 : decode cJ6_bitCount_0f7a4 9 = .ok (.istore_n 0, 1) := by decide +kernel
theorem dJ6_bitCount_0f7a4_10 : decode cJ6_bitCount_0f7a4 10 = .ok (.iload_n 0, 1) := by decide +kernel
theorem dJ6_bitCount_0f7a4_11 : decode cJ6_bitCount_0f7a4 11 = .ok (.ldc_w 266, 3) := by decide +kernel
theorem dJ6_bitCount_0f7a4_14 : decode cJ6_bitCount_0f7a4 14 = .ok (.iand, 1) := by decide +kernel
theorem dJ6_bitCount_0f7a4_15 : decode cJ6_bitCount_0f7a4 15 = .ok (.iload_n 0, 1) := by decide +kernel
theorem dJ6_bitCount_0f7a4_16 : decode cJ6_bitCount_0f7a4 16 = .ok (.iconst 2, 1) := by decide +kernel
theorem dJ6_bitCount_0f7a4_17 : decode cJ6_bitCount_0f7a4 17 = .ok (.iushr, 1) := by decide +kernel
theorem dJ6_bitCount_0f7a4_18 : decode cJ6_bitCount_0f7a4 18 = .ok (.ldc_w 266, 3) := by decide +kernel
theorem dJ6_bitCount_0f7a4_21 : decode cJ6_bitCount_0f7a4 21 = .ok (.iand, 1) := by decide +kernel
theorem dJ6_bitCount_0f7a4_22 : decode cJ6_bitCount_0f7a4 22 = .ok (.iadd, 1) := by decide +kernel
theorem dJ6_bitCount_0f7a4_23 : decode cJ6_bitCount_0f7a4 23 = .ok (.istore_n 0, 1) := by decide +kernel
theorem dJ6_bitCount_0f7a4_24 : decode cJ6_bitCount_0f7a4 24 = .ok (.iload_n 0, 1) := by decide +kernel
theorem dJ6_bitCount_0f7a4_25 : decode cJ6_bitCount_0f7a4 25 = .ok (.iload_n 0, 1) := by decide +kernel
theorem dJ6_bitCount_0f7a4_26 : decode cJ6_bitCount_0f7a4 26 = .ok (.iconst 4, 1) := by decide +kernel
theorem dJ6_bitCount_0f7a4_27 : decode cJ6_bitCount_0f7a4 27 = .ok (.iushr, 1) := by decide +kernel
theorem dJ6_bitCount_0f7a4_28 : decode cJ6_bitCount_0f7a4 28 = .ok (.iadd, 1) := by decide +kernel
theorem dJ6_bitCount_0f7a4_29 : decode cJ6_bitCount_0f7a4 29 = .ok (.ldc_w 267, 3) := by decide +kernel
theorem dJ6_bitCount_0f7a4_32 : decode cJ6_bitCount_0f7a4 32 = .ok (.iand, 1) := by decide +kernel
theorem dJ6_bitCount_0f7a4_33 : decode cJ6_bitCount_0f7a4 33 = .ok (.istore_n 0, 1) := by decide +kernel
theorem dJ6_bitCount_0f7a4_34 : decode cJ6_bitCount_0f7a4 34 = .ok (.iload_n 0, 1) := by decide +kernel
theorem dJ6_bitCount_0f7a4_35 : decode cJ6_bitCount_0f7a4 35 = .ok (.iload_n 0, 1) := by decide +kernel
theorem dJ6_bitCount_0f7a4_36 : decode cJ6_bitCount_0f7a4 36 = .ok (.bipush 8, 2) := by decide +kernel
theorem dJ6_bitCount_0f7a4_38 : decode cJ6_bitCount_0f7a4 38 = .ok (.iushr, 1) := by decide +kernel
theorem dJ6_bitCount_0f7a4_39 : decode cJ6_bitCount_0f7a4 39 = .ok (.iadd, 1) := by decide +kernel
theorem dJ6_bitCount_0f7a4_40 : decode cJ6_bitCount_0f7a4 40 = .ok (.istore_n 0, 1) := by decide +kernel
theorem dJ6_bitCount_0f7a4_41 : decode cJ6_bitCount_0f7a4 41 = .ok (.iload_n 0, 1) := by decide +kernel
theorem dJ6_bitCount_0f7a4_42 : decode cJ6_bitCount_0f7a4 42 = .ok (.iload_n 0, 1) := by decide +kernel
theorem dJ6_bitCount_0f7a4_43 : decode cJ6_bitCount_0f7a4 43 = .ok (.bipush 16, 2) := by decide +kernel
theorem dJ6_bitCount_0f7a4_45 : decode cJ6_bitCount_0f7a4 45 = .ok (.iushr, 1) := by decide +kernel
theorem dJ6_bitCount_0f7a4_46 : decode cJ6_bitCount_0f7a4 46 = .ok (.iadd, 1) := by decide +kernel
theorem dJ6_bitCount_0f7a4_47 : decode cJ6_bitCount_0f7a4 47 = .ok (.istore_n 0, 1) := by decide +kernel
theorem dJ6_bitCount_0f7a4_48 : decode cJ6_bitCount_0f7a4 48 = .ok (.iload_n 0, 1) := by decide +kernel
theorem dJ6_bitCount_0f7a4_49 : decode cJ6_bitCount_0f7a4 49 = .ok (.bipush 63, 2) := by decide +kernel
theorem dJ6_bitCount_0f7a4_51 : decode cJ6_bitCount_0f7a4 51 = .ok (.iand, 1) := by decide +kernel
theorem dJ6_bitCount_0f7a4_52 : decode cJ6_bitCount_0f7a4 52 = .ok (.ireturn, 1) := by decide +kernel
theorem dJ7_rangeCheck_23922_0 : decode cJ7_rangeCheck_23922 0 = .ok (.iload_n 1, 1) := by decide +kernel
theorem dJ7_rangeCheck_23922_1 : decode cJ7_rangeCheck_23922 1 = .ok (.iload_n 2, 1) := by decide +kernel
theorem dJ7_rangeCheck_23922_2 : decode cJ7_rangeCheck_23922 2 = .ok (.if_icmp .le 44, 3) := by decide +kernel
theorem dJ7_rangeCheck_23922_5 : decode cJ7_rangeCheck_23922 5 = .ok (.new 43, 3) := by decide +kernel
theorem dJ7_rangeCheck_23922_8 : decode cJ7_rangeCheck_23922 8 = .ok (.dup, 1) := by decide +kernel
theorem dJ7_rangeCheck_23922_9 : decode cJ7_rangeCheck_23922 9 = .ok (.new 45, 3) := by decide +kernel
theorem dJ7_rangeCheck_23922_12 : decode cJ7_rangeCheck_23922 12 = .ok (.dup, 1) := by decide +kernel
theorem dJ7_rangeCheck_23922_13 : decode cJ7_rangeCheck_23922 13 = .ok (.invokespecial 47, 3) := by decide +kernel
theorem dJ7_rangeCheck_23922_16 : decode cJ7_rangeCheck_23922 16 = .ok (.ldc 48, 2) := by decide +kernel
theorem dJ7_rangeCheck_23922_18 : decode cJ7_rangeCheck_23922 18 = .ok (.invokevirtual 50, 3) := by decide +kernel
theorem dJ7_rangeCheck_23922_21 : decode cJ7_rangeCheck_23922 21 = .ok (.iload_n 1, 1) := by decide +kernel
theorem dJ7_rangeCheck_23922_22 : decode cJ7_rangeCheck_23922 22 = .ok (.invokevirtual 54, 3) := by decide +kernel
theorem dJ7_rangeCheck_23922_25 : decode cJ7_rangeCheck_23922 25 = .ok (.ldc 57, 2) := by decide +kernel
theorem dJ7_rangeCheck_23922_27 : decode cJ7_rangeCheck_23922 27 = .ok (.invokevirtual 50, 3) := by decide +kernel
theorem dJ7_rangeCheck_23922_30 : decode cJ7_rangeCheck_23922 30 = .ok (.iload_n 2, 1) := by decide +kernel
theorem dJ7_rangeCheck_23922_31 : decode cJ7_rangeCheck_23922 31 = .ok (.invokevirtual 54, 3) := by decide +kernel
theorem dJ7_rangeCheck_23922_34 : decode cJ7_rangeCheck_23922 34 = .ok (.ldc 59, 2) := by decide +kernel
theorem dJ7_rangeCheck_23922_36 : decode cJ7_rangeCheck_23922 36 = .ok (.invokevirtual 50, 3) := by decide +kernel
theorem dJ7_rangeCheck_23922_39 : decode cJ7_rangeCheck_23922 39 = .ok (.invokevirtual 61, 3) := by decide +kernel
theorem dJ7_rangeCheck_23922_42 : decode cJ7_rangeCheck_23922 42 = .ok (.invokespecial 65, 3) := by decide +kernel
theorem dJ7_rangeCheck_23922_45 : decode cJ7_rangeCheck_23922 45 = .ok (.athrow, 1) := by decide +kernel
theorem dJ7_rangeCheck_23922_46 : decode cJ7_rangeCheck_23922 46 = .ok (.iload_n 1, 1) := by decide +kernel
theorem dJ7_rangeCheck_23922_47 : decode cJ7_rangeCheck_23922 47 = .ok (.ifCond .ge 12, 3) := by decide +kernel
theorem dJ7_rangeCheck_23922_50 : decode cJ7_rangeCheck_23922 50 = .ok (.new 68, 3) := by decide +kernel
theorem dJ7_rangeCheck_23922_53 : decode cJ7_rangeCheck_23922 53 = .ok (.dup, 1) := by decide +kernel
theorem dJ7_rangeCheck_23922_54 : decode cJ7_rangeCheck_23922 54 = .ok (.iload_n 1, 1) := by decide +kernel
theorem dJ7_rangeCheck_23922_55 : decode cJ7_rangeCheck_23922 55 = .ok (.invokespecial 70, 3) := by decide +kernel
theorem dJ7_rangeCheck_23922_58 : decode cJ7_rangeCheck_23922 58 = .ok (.athrow, 1) := by decide +kernel
theorem dJ7_rangeCheck_23922_59 : decode cJ7_rangeCheck_23922 59 = .ok (.iload_n 2, 1) := by decide +kernel
theorem dJ7_rangeCheck_23922_60 : decode cJ7_rangeCheck_23922 60 = .ok (.iload_n 0, 1) := by decide +kernel
theorem dJ7_rangeCheck_23922_61 : decode cJ7_rangeCheck_23922 61 = .ok (.if_icmp .le 12, 3) := by decide +kernel
theorem dJ7_rangeCheck_23922_64 : decode cJ7_rangeCheck_23922 64 = .ok (.new 68, 3) := by decide +kernel
theorem dJ7_rangeCheck_23922_67 : decode cJ7_rangeCheck_23922 67 = .ok (.dup, 1) := by decide +kernel
theorem dJ7_rangeCheck_23922_68 : decode cJ7_rangeCheck_23922 68 = .ok (.iload_n 2, 1) := by decide +kernel
theorem dJ7_rangeCheck_23922_69 : decode cJ7_rangeCheck_23922 69 = .ok (.invokespecial 70, 3) := by decide +kernel
theorem dJ7_rangeCheck_23922_72 : decode cJ7_rangeCheck_23922 72 = .ok (.athrow, 1) := by decide +kernel
theorem dJ7_rangeCheck_23922_73 : decode cJ7_rangeCheck_23922 73 = .ok (.return_, 1) := by decide +kernel
theorem dJ7_fill_53178_0 : decode cJ7_fill_53178 0 = .ok (.iconst 0, 1) := by decide +kernel
theorem dJ7_fill_53178_1 : decode cJ7_fill_53178 1 = .ok (.istore_n 2, 1) := by decide +kernel
theorem dJ7_fill_53178_2 : decode cJ7_fill_53178 2 = .ok (.aload_n 0, 1) := by decide +kernel
theorem dJ7_fill_53178_3 : decode cJ7_fill_53178 3 = .ok (.arraylength, 1) := by decide +kernel
theorem dJ7_fill_53178_4 : decode cJ7_fill_53178 4 = .ok (.istore_n 3, 1) := by decide +kernel
theorem dJ7_fill_53178_5 : decode cJ7_fill_53178 5 = .ok (.iload_n 2, 1) := by decide +kernel
theorem dJ7_fill_53178_6 : decode cJ7_fill_53178 6 = .ok (.iload_n 3, 1) := by decide +kernel
theorem dJ7_fill_53178_7 : decode cJ7_fill_53178 7 = .ok (.if_icmp .ge 13, 3) := by decide +kernel
theorem dJ7_fill_53178_10 : decode cJ7_fill_53178 10 = .ok (.aload_n 0, 1) := by decide +kernel
theorem dJ7_fill_53178_11 : decode cJ7_fill_53178 11 = .ok (.iload_n 2, 1) := by decide +kernel
theorem dJ7_fill_53178_12 : decode cJ7_fill_53178 12 = .ok (.iload_n 1, 1) := by decide +kernel
theorem dJ7_fill_53178_13 : decode cJ7_fill_53178 13 = .ok (.iastore, 1) := by decide +kernel
theorem dJ7_fill_53178_14 : decode cJ7_fill_53178 14 = .ok (.iinc 2 1, 3) := by decide +kernel
theorem dJ7_fill_53178_17 : decode cJ7_fill_53178 17 = .ok (.goto (-12), 3) := by decide +kernel
theorem dJ7_fill_53178_20 : decode cJ7_fill_53178 20 = .ok (.return_, 1) := by decide +kernel
set_option maxRecDepth 20000 in
theorem ggJ7_fill_fda19_J7_rangeCheck_23922 : GoodIn wsJ7_fill_fda19 wsJ7_rangeCheck_23922 := goodIn_r _ [4] (by decide +kernel) (by decide +kernel)
set_option maxRecDepth 20000 in
theorem gJ7_fill_fda19_J7_rangeCheck_23922 : GoodIn wsJ7_fill_fda19 (va_wsS RJ7 13 yJ7_rangeCheck_23922 wsJ7_rangeCheck_23922) := goodIn_app (goodIn_of _ (by decide +kernel)) ggJ7_fill_fda19_J7_rangeCheck_23922
theorem dJ7_fill_fda19_0 : decode cJ7_fill_fda19 0 = .ok (.aload_n 0, 1) := by decide +kernel
theorem dJ7_fill_fda19_1 : decode cJ7_fill_fda19 1 = .ok (.arraylength, 1) := by decide +kernel
theorem dJ7_fill_fda19_2 : decode cJ7_fill_fda19 2 = .ok (.iload_n 1, 1) := by decide +kernel
theorem dJ7_fill_fda19_3 : decode cJ7_fill_fda19 3 = .ok (.iload_n 2, 1) := by decide +kernel
theorem dJ7_fill_fda19_4 : decode cJ7_fill_fda19 4 = .ok (.invokestatic 13, 3) := by decide +kernel
theorem dJ7_fill_fda19_7 : decode cJ7_fill_fda19 7 = .ok (.iload_n 1, 1) := by decide +kernel
theorem dJ7_fill_fda19_8 : decode cJ7_fill_fda19 8 = .ok (.istore 4, 2) := by decide +kernel
theorem dJ7_fill_fda19_10 : decode cJ7_fill_fda19 10 = .ok (.iload 4, 2) := by decide +kernel
theorem dJ7_fill_fda19_12 : decode cJ7_fill_fda19 12 = .ok (.iload_n 2, 1) := by decide +kernel
theorem dJ7_fill_fda19_13 : decode cJ7_fill_fda19 13 = .ok (.if_icmp .ge 14, 3) := by decide +kernel
theorem dJ7_fill_fda19_16 : decode cJ7_fill_fda19 16 = .ok (.aload_n 0, 1) := by decide +kernel
theorem dJ7_fill_fda19_17 : decode cJ7_fill_fda19 17 = .ok (.iload 4, 2) := by decide +kernel
theorem dJ7_fill_fda19_19 : decode cJ7_fill_fda19 19 = .ok (.iload_n 3, 1) := by decide +kernel
theorem dJ7_fill_fda19_20 : decode cJ7_fill_fda19 20 = .ok (.iastore, 1) := by decide +kernel
theorem dJ7_fill_fda19_21 : decode cJ7_fill_fda19 21 = .ok (.iinc 4 1, 3) := by decide +kernel
theorem dJ7_fill_fda19_24 : decode cJ7_fill_fda19 24 = .ok (.goto (-14), 3) := by decide +kernel
theorem dJ7_fill_fda19_27 : decode cJ7_fill_fda19 27 = .ok (.return_, 1) := by decide +kernel
set_option maxRecDepth 20000 in
theorem ggX2_init_X2_emptyAll : GoodIn wsX2_init wsX2_emptyAll := goodIn_r _ [11, 5, 6, 12, 13, 14, 15, 16, 17] (by decide +kernel) (by decide +kernel)
set_option maxRecDepth 20000 in
theorem gX2_init_X2_emptyAll : GoodIn wsX2_init (wsV RX2 18 RX2 yX2_emptyAll wsX2_emptyAll) := goodIn_app (goodIn_of _ (by decide +kernel)) ggX2_init_X2_emptyAll
theorem dX2_init_0 : decode cX2_init 0 = .ok (.aload_n 0, 1) := by decide +kernel
theorem dX2_init_1 : decode cX2_init 1 = .ok (.invokespecial 3, 3) := by decide +kernel
theorem dX2_init_4 : decode cX2_init 4 = .ok (.aload_n 0, 1) := by decide +kernel
theorem dX2_init_5 : decode cX2_init 5 = .ok (.sipush 800, 3) := by decide +kernel
theorem dX2_init_8 : decode cX2_init 8 = .ok (.newarray .int, 2) := by decide +kernel
theorem dX2_init_10 : decode cX2_init 10 = .ok (.putfield 9, 3) := by decide +kernel
theorem dX2_init_13 : decode cX2_init 13 = .ok (.aload_n 0, 1) := by decide +kernel
theorem dX2_init_14 : decode cX2_init 14 = .ok (.sipush 800, 3) := by decide +kernel
theorem dX2_init_17 : decode cX2_init 17 = .ok (.newarray .int, 2) := by decide +kernel
theorem dX2_init_19 : decode cX2_init 19 = .ok (.putfield 15, 3) := by decide +kernel
theorem dX2_init_22 : decode cX2_init 22 = .ok (.aload_n 0, 1) := by decide +kernel
theorem dX2_init_23 : decode cX2_init 23 = .ok (.invokevirtual 18, 3) := by decide +kernel
theorem dX2_init_26 : decode cX2_init 26 = .ok (.return_, 1) := by decide +kernel
set_option maxRecDepth 20000 in
theorem ggX2_emptyAll_J7_fill_53178 : GoodIn wsX2_emptyAll wsJ7_fill_53178 := goodIn_r _ [6] (by decide +kernel) (by decide +kernel)
set_option maxRecDepth 20000 in
theorem gX2_emptyAll_J7_fill_53178 : GoodIn wsX2_emptyAll (va_wsS RX2 21 yJ7_fill_53178 wsJ7_fill_53178) := goodIn_app (goodIn_of _ (by decide +kernel)) ggX2_emptyAll_J7_fill_53178
theorem dX2_emptyAll_0 : decode cX2_emptyAll 0 = .ok (.aload_n 0, 1) := by decide +kernel
theorem dX2_emptyAll_1 : decode cX2_emptyAll 1 = .ok (.getfield 9, 3) := by decide +kernel
theorem dX2_emptyAll_4 : decode cX2_emptyAll 4 = .ok (.bipush (-9), 2) := by decide +kernel
theorem dX2_emptyAll_6 : decode cX2_emptyAll 6 = .ok (.invokestatic 21, 3) := by decide +kernel
theorem dX2_emptyAll_9 : decode cX2_emptyAll 9 = .ok (.aload_n 0, 1) := by decide +kernel
theorem dX2_emptyAll_10 : decode cX2_emptyAll 10 = .ok (.getfield 15, 3) := by decide +kernel
theorem dX2_emptyAll_13 : decode cX2_emptyAll 13 = .ok (.bipush (-9), 2) := by decide +kernel
theorem dX2_emptyAll_15 : decode cX2_emptyAll 15 = .ok (.invokestatic 21, 3) := by decide +kernel
theorem dX2_emptyAll_18 : decode cX2_emptyAll 18 = .ok (.return_, 1) := by decide +kernel
theorem dX2_fillCell_0 : decode cX2_fillCell 0 = .ok (.aload_n 0, 1) := by decide +kernel
theorem dX2_fillCell_1 : decode cX2_fillCell 1 = .ok (.getfield 9, 3) := by decide +kernel
theorem dX2_fillCell_4 : decode cX2_fillCell 4 = .ok (.iload_n 1, 1) := by decide +kernel
theorem dX2_fillCell_5 : decode cX2_fillCell 5 = .ok (.iload_n 2, 1) := by decide +kernel
theorem dX2_fillCell_6 : decode cX2_fillCell 6 = .ok (.iastore, 1) := by decide +kernel
theorem dX2_fillCell_7 : decode cX2_fillCell 7 = .ok (.aload_n 0, 1) := by decide +kernel
theorem dX2_fillCell_8 : decode cX2_fillCell 8 = .ok (.getfield 15, 3) := by decide +kernel
theorem dX2_fillCell_11 : decode cX2_fillCell 11 = .ok (.iload_n 1, 1) := by decide +kernel
theorem dX2_fillCell_12 : decode cX2_fillCell 12 = .ok (.iload_n 3, 1) := by decide +kernel
theorem dX2_fillCell_13 : decode cX2_fillCell 13 = .ok (.iastore, 1) := by decide +kernel
theorem dX2_fillCell_14 : decode cX2_fillCell 14 = .ok (.return_, 1) := by decide +kernel
theorem dX2_isEmptyAt_0 : decode cX2_isEmptyAt 0 = .ok (.aload_n 0, 1) := by decide +kernel
theorem dX2_isEmptyAt_1 : decode cX2_isEmptyAt 1 = .ok (.getfield 15, 3) := by decide +kernel
theorem dX2_isEmptyAt_4 : decode cX2_isEmptyAt 4 = .ok (.iload_n 1, 1) := by decide +kernel
theorem dX2_isEmptyAt_5 : decode cX2_isEmptyAt 5 = .ok (.iaload, 1) := by decide +kernel
theorem dX2_isEmptyAt_6 : decode cX2_isEmptyAt 6 = .ok (.bipush (-9), 2) := by decide +kernel
theorem dX2_isEmptyAt_8 : decode cX2_isEmptyAt 8 = .ok (.if_icmp .ne 7, 3) := by decide +kernel
theorem dX2_isEmptyAt_11 : decode cX2_isEmptyAt 11 = .ok (.iconst 1, 1) := by decide +kernel
theorem dX2_isEmptyAt_12 : decode cX2_isEmptyAt 12 = .ok (.goto 4, 3) := by decide +kernel
theorem dX2_isEmptyAt_15 : decode cX2_isEmptyAt 15 = .ok (.iconst 0, 1) := by decide +kernel
theorem dX2_isEmptyAt_16 : decode cX2_isEmptyAt 16 = .ok (.ireturn, 1) := by decide +kernel
set_option maxRecDepth 20000 in
theorem ggX2_takeOut_X2_fillCell : GoodIn wsX2_takeOut wsX2_fillCell := goodIn_r _ [6, 7, 1, 8, 9] (by decide +kernel) (by decide +kernel)
set_option maxRecDepth 20000 in
theorem gX2_takeOut_X2_fillCell : GoodIn wsX2_takeOut (wsV RX2 27 RX2 yX2_fillCell wsX2_fillCell) := goodIn_app (goodIn_of _ (by decide +kernel)) ggX2_takeOut_X2_fillCell
theorem dX2_takeOut_0 : decode cX2_takeOut 0 = .ok (.iload_n 2, 1) := by decide +kernel
theorem dX2_takeOut_1 : decode cX2_takeOut 1 = .ok (.istore_n 3, 1) := by decide +kernel
theorem dX2_takeOut_2 : decode cX2_takeOut 2 = .ok (.iload_n 3, 1) := by decide +kernel
theorem dX2_takeOut_3 : decode cX2_takeOut 3 = .ok (.iload_n 2, 1) := by decide +kernel
theorem dX2_takeOut_4 : decode cX2_takeOut 4 = .ok (.bipush 16, 2) := by decide +kernel
theorem dX2_takeOut_6 : decode cX2_takeOut 6 = .ok (.iadd, 1) := by decide +kernel
theorem dX2_takeOut_7 : decode cX2_takeOut 7 = .ok (.if_icmp .ge 28, 3) := by decide +kernel
theorem dX2_takeOut_10 : decode cX2_takeOut 10 = .ok (.aload_n 0, 1) := by decide +kernel
theorem dX2_takeOut_11 : decode cX2_takeOut 11 = .ok (.getfield 15, 3) := by decide +kernel
theorem dX2_takeOut_14 : decode cX2_takeOut 14 = .ok (.iload_n 3, 1) := by decide +kernel
theorem dX2_takeOut_15 : decode cX2_takeOut 15 = .ok (.iaload, 1) := by decide +kernel
theorem dX2_takeOut_16 : decode cX2_takeOut 16 = .ok (.iload_n 1, 1) := by decide +kernel
theorem dX2_takeOut_17 : decode cX2_takeOut 17 = .ok (.if_icmp .ne 12, 3) := by decide +kernel
theorem dX2_takeOut_20 : decode cX2_takeOut 20 = .ok (.aload_n 0, 1) := by decide +kernel
theorem dX2_takeOut_21 : decode cX2_takeOut 21 = .ok (.iload_n 3, 1) := by decide +kernel
theorem dX2_takeOut_22 : decode cX2_takeOut 22 = .ok (.bipush (-9), 2) := by decide +kernel
theorem dX2_takeOut_24 : decode cX2_takeOut 24 = .ok (.bipush (-9), 2) := by decide +kernel
theorem dX2_takeOut_26 : decode cX2_takeOut 26 = .ok (.invokevirtual 27, 3) := by decide +kernel
theorem dX2_takeOut_29 : decode cX2_takeOut 29 = .ok (.iinc 3 1, 3) := by decide +kernel
theorem dX2_takeOut_32 : decode cX2_takeOut 32 = .ok (.goto (-30), 3) := by decide +kernel
theorem dX2_takeOut_35 : decode cX2_takeOut 35 = .ok (.return_, 1) := by decide +kernel
theorem dX2_filledOf_0 : decode cX2_filledOf 0 = .ok (.iconst 0, 1) := by decide +kernel
theorem dX2_filledOf_1 : decode cX2_filledOf 1 = .ok (.istore_n 3, 1) := by decide +kernel
theorem dX2_filledOf_2 : decode cX2_filledOf 2 = .ok (.iload_n 2, 1) := by decide +kernel
theorem dX2_filledOf_3 : decode cX2_filledOf 3 = .ok (.istore 4, 2) := by decide +kernel
theorem dX2_filledOf_5 : decode cX2_filledOf 5 = .ok (.iload 4, 2) := by decide +kernel
theorem dX2_filledOf_7 : decode cX2_filledOf 7 = .ok (.iload_n 2, 1) := by decide +kernel
theorem dX2_filledOf_8 : decode cX2_filledOf 8 = .ok (.bipush 16, 2) := by decide +kernel
theorem dX2_filledOf_10 : decode cX2_filledOf 10 = .ok (.iadd, 1) := by decide +kernel
theorem dX2_filledOf_11 : decode cX2_filledOf 11 = .ok (.if_icmp .ge 23, 3) := by decide +kernel
theorem dX2_filledOf_14 : decode cX2_filledOf 14 = .ok (.aload_n 0, 1) := by decide +kernel
theorem dX2_filledOf_15 : decode cX2_filledOf 15 = .ok (.getfield 15, 3) := by decide +kernel
theorem dX2_filledOf_18 : decode cX2_filledOf 18 = .ok (.iload 4, 2) := by decide +kernel
theorem dX2_filledOf_20 : decode cX2_filledOf 20 = .ok (.iaload, 1) := by decide +kernel
theorem dX2_filledOf_21 : decode cX2_filledOf 21 = .ok (.iload_n 1, 1) := by decide +kernel
theorem dX2_filledOf_22 : decode cX2_filledOf 22 = .ok (.if_icmp .ne 6, 3) := by decide +kernel
theorem dX2_filledOf_25 : decode cX2_filledOf 25 = .ok (.iinc 3 1, 3) := by decide +kernel
theorem dX2_filledOf_28 : decode cX2_filledOf 28 = .ok (.iinc 4 1, 3) := by decide +kernel
theorem dX2_filledOf_31 : decode cX2_filledOf 31 = .ok (.goto (-26), 3) := by decide +kernel
theorem dX2_filledOf_34 : decode cX2_filledOf 34 = .ok (.iload_n 3, 1) := by decide +kernel
theorem dX2_filledOf_35 : decode cX2_filledOf 35 = .ok (.ireturn, 1) := by decide +kernel
set_option maxRecDepth 20000 in
theorem ggX2_firstFit_X2_fitsAt : GoodIn wsX2_firstFit wsX2_fitsAt := goodIn_r _ [5, 6, 7, 8, 4, 9, 10, 11, 12] (by decide +kernel) (by decide +kernel)
set_option maxRecDepth 20000 in
theorem gX2_firstFit_X2_fitsAt : GoodIn wsX2_firstFit (wsV RX2 31 RX2 yX2_fitsAt wsX2_fitsAt) := goodIn_app (goodIn_of _ (by decide +kernel)) ggX2_firstFit_X2_fitsAt
theorem dX2_firstFit_0 : decode cX2_firstFit 0 = .ok (.iconst 0, 1) := by decide +kernel
theorem dX2_firstFit_1 : decode cX2_firstFit 1 = .ok (.istore_n 2, 1) := by decide +kernel
theorem dX2_firstFit_2 : decode cX2_firstFit 2 = .ok (.iload_n 2, 1) := by decide +kernel
theorem dX2_firstFit_3 : decode cX2_firstFit 3 = .ok (.sipush 784, 3) := by decide +kernel
theorem dX2_firstFit_6 : decode cX2_firstFit 6 = .ok (.if_icmp .gt 20, 3) := by decide +kernel
theorem dX2_firstFit_9 : decode cX2_firstFit 9 = .ok (.aload_n 0, 1) := by decide +kernel
theorem dX2_firstFit_10 : decode cX2_firstFit 10 = .ok (.iload_n 2, 1) := by decide +kernel
theorem dX2_firstFit_11 : decode cX2_firstFit 11 = .ok (.iload_n 1, 1) := by decide +kernel
theorem dX2_firstFit_12 : decode cX2_firstFit 12 = .ok (.invokevirtual 31, 3) := by decide +kernel
theorem dX2_firstFit_15 : decode cX2_firstFit 15 = .ok (.ifCond .eq 5, 3) := by decide +kernel
theorem dX2_firstFit_18 : decode cX2_firstFit 18 = .ok (.iload_n 2, 1) := by decide +kernel
theorem dX2_firstFit_19 : decode cX2_firstFit 19 = .ok (.ireturn, 1) := by decide +kernel
theorem dX2_firstFit_20 : decode cX2_firstFit 20 = .ok (.iinc 2 1, 3) := by decide +kernel
theorem dX2_firstFit_23 : decode cX2_firstFit 23 = .ok (.goto (-21), 3) := by decide +kernel
theorem dX2_firstFit_26 : decode cX2_firstFit 26 = .ok (.bipush (-9), 2) := by decide +kernel
theorem dX2_firstFit_28 : decode cX2_firstFit 28 = .ok (.ireturn, 1) := by decide +kernel
set_option maxRecDepth 20000 in
theorem ggX2_fitsAt_X2_isEmptyAt : GoodIn wsX2_fitsAt wsX2_isEmptyAt := goodIn_r _ [5, 6, 7, 8] (by decide +kernel) (by decide +kernel)
set_option maxRecDepth 20000 in
theorem gX2_fitsAt_X2_isEmptyAt : GoodIn wsX2_fitsAt (wsV RX2 35 RX2 yX2_isEmptyAt wsX2_isEmptyAt) := goodIn_app (goodIn_of _ (by decide +kernel)) ggX2_fitsAt_X2_isEmptyAt
theorem dX2_fitsAt_0 : decode cX2_fitsAt 0 = .ok (.iconst 0, 1) := by decide +kernel
theorem dX2_fitsAt_1 : decode cX2_fitsAt 1 = .ok (.istore_n 3, 1) := by decide +kernel
theorem dX2_fitsAt_2 : decode cX2_fitsAt 2 = .ok (.iload_n 3, 1) := by decide +kernel
theorem dX2_fitsAt_3 : decode cX2_fitsAt 3 = .ok (.bipush 16, 2) := by decide +kernel
theorem dX2_fitsAt_5 : decode cX2_fitsAt 5 = .ok (.if_icmp .ge 30, 3) := by decide +kernel
theorem dX2_fitsAt_8 : decode cX2_fitsAt 8 = .ok (.iload_n 2, 1) := by decide +kernel
theorem dX2_fitsAt_9 : decode cX2_fitsAt 9 = .ok (.iload_n 3, 1) := by decide +kernel
theorem dX2_fitsAt_10 : decode cX2_fitsAt 10 = .ok (.ishr, 1) := by decide +kernel
theorem dX2_fitsAt_11 : decode cX2_fitsAt 11 = .ok (.iconst 1, 1) := by decide +kernel
theorem dX2_fitsAt_12 : decode cX2_fitsAt 12 = .ok (.iand, 1) := by decide +kernel
theorem dX2_fitsAt_13 : decode cX2_fitsAt 13 = .ok (.iconst 1, 1) := by decide +kernel
theorem dX2_fitsAt_14 : decode cX2_fitsAt 14 = .ok (.if_icmp .ne 15, 3) := by decide +kernel
theorem dX2_fitsAt_17 : decode cX2_fitsAt 17 = .ok (.aload_n 0, 1) := by decide +kernel
theorem dX2_fitsAt_18 : decode cX2_fitsAt 18 = .ok (.iload_n 1, 1) := by decide +kernel
theorem dX2_fitsAt_19 : decode cX2_fitsAt 19 = .ok (.iload_n 3, 1) := by decide +kernel
theorem dX2_fitsAt_20 : decode cX2_fitsAt 20 = .ok (.iadd, 1) := by decide +kernel
theorem dX2_fitsAt_21 : decode cX2_fitsAt 21 = .ok (.invokevirtual 35, 3) := by decide +kernel
theorem dX2_fitsAt_24 : decode cX2_fitsAt 24 = .ok (.ifCond .ne 5, 3) := by decide +kernel
theorem dX2_fitsAt_27 : decode cX2_fitsAt 27 = .ok (.iconst 0, 1) := by decide +kernel
theorem dX2_fitsAt_28 : decode cX2_fitsAt 28 = .ok (.ireturn, 1) := by decide +kernel
theorem dX2_fitsAt_29 : decode cX2_fitsAt 29 = .ok (.iinc 3 1, 3) := by decide +kernel
theorem dX2_fitsAt_32 : decode cX2_fitsAt 32 = .ok (.goto (-30), 3) := by decide +kernel
theorem dX2_fitsAt_35 : decode cX2_fitsAt 35 = .ok (.iconst 1, 1) := by decide +kernel
theorem dX2_fitsAt_36 : decode cX2_fitsAt 36 = .ok (.ireturn, 1) := by decide +kernel
set_option maxRecDepth 20000 in
theorem ggX2_endOfCells_X2_isEmptyAt : GoodIn wsX2_endOfCells wsX2_isEmptyAt := goodIn_r _ [5, 6, 7, 8] (by decide +kernel) (by decide +kernel)
set_option maxRecDepth 20000 in
theorem gX2_endOfCells_X2_isEmptyAt : GoodIn wsX2_endOfCells (wsV RX2 35 RX2 yX2_isEmptyAt wsX2_isEmptyAt) := goodIn_app (goodIn_of _ (by decide +kernel)) ggX2_endOfCells_X2_isEmptyAt
theorem dX2_endOfCells_0 : decode cX2_endOfCells 0 = .ok (.sipush 799, 3) := by decide +kernel
theorem dX2_endOfCells_3 : decode cX2_endOfCells 3 = .ok (.istore_n 1, 1) := by decide +kernel
theorem dX2_endOfCells_4 : decode cX2_endOfCells 4 = .ok (.iload_n 1, 1) := by decide +kernel
theorem dX2_endOfCells_5 : decode cX2_endOfCells 5 = .ok (.ifCond .lt 21, 3) := by decide +kernel
theorem dX2_endOfCells_8 : decode cX2_endOfCells 8 = .ok (.aload_n 0, 1) := by decide +kernel
theorem dX2_endOfCells_9 : decode cX2_endOfCells 9 = .ok (.iload_n 1, 1) := by decide +kernel
theorem dX2_endOfCells_10 : decode cX2_endOfCells 10 = .ok (.invokevirtual 35, 3) := by decide +kernel
theorem dX2_endOfCells_13 : decode cX2_endOfCells 13 = .ok (.ifCond .ne 7, 3) := by decide +kernel
theorem dX2_endOfCells_16 : decode cX2_endOfCells 16 = .ok (.iload_n 1, 1) := by decide +kernel
theorem dX2_endOfCells_17 : decode cX2_endOfCells 17 = .ok (.iconst 1, 1) := by decide +kernel
theorem dX2_endOfCells_18 : decode cX2_endOfCells 18 = .ok (.iadd, 1) := by decide +kernel
theorem dX2_endOfCells_19 : decode cX2_endOfCells 19 = .ok (.ireturn, 1) := by decide +kernel
theorem dX2_endOfCells_20 : decode cX2_endOfCells 20 = .ok (.iinc 1 (-1), 3) := by decide +kernel
theorem dX2_endOfCells_23 : decode cX2_endOfCells 23 = .ok (.goto (-19), 3) := by decide +kernel
theorem dX2_endOfCells_26 : decode cX2_endOfCells 26 = .ok (.iconst 0, 1) := by decide +kernel
theorem dX2_endOfCells_27 : decode cX2_endOfCells 27 = .ok (.ireturn, 1) := by decide +kernel
set_option maxRecDepth 20000 in
theorem ggX2_filledCells_X2_isEmptyAt : GoodIn wsX2_filledCells wsX2_isEmptyAt := goodIn_r _ [5, 6, 7, 8] (by decide +kernel) (by decide +kernel)
set_option maxRecDepth 20000 in
theorem gX2_filledCells_X2_isEmptyAt : GoodIn wsX2_filledCells (wsV RX2 35 RX2 yX2_isEmptyAt wsX2_isEmptyAt) := goodIn_app (goodIn_of _ (by decide +kernel)) ggX2_filledCells_X2_isEmptyAt
theorem dX2_filledCells_0 : decode cX2_filledCells 0 = .ok (.iconst 0, 1) := by decide +kernel
theorem dX2_filledCells_1 : decode cX2_filledCells 1 = .ok (.istore_n 1, 1) := by decide +kernel
theorem dX2_filledCells_2 : decode cX2_filledCells 2 = .ok (.iconst 0, 1) := by decide +kernel
theorem dX2_filledCells_3 : decode cX2_filledCells 3 = .ok (.istore_n 2, 1) := by decide +kernel
theorem dX2_filledCells_4 : decode cX2_filledCells 4 = .ok (.iload_n 2, 1) := by decide +kernel
theorem dX2_filledCells_5 : decode cX2_filledCells 5 = .ok (.sipush 800, 3) := by decide +kernel
theorem dX2_filledCells_8 : decode cX2_filledCells 8 = .ok (.if_icmp .ge 20, 3) := by decide +kernel
theorem dX2_filledCells_11 : decode cX2_filledCells 11 = .ok (.aload_n 0, 1) := by decide +kernel
theorem dX2_filledCells_12 : decode cX2_filledCells 12 = .ok (.iload_n 2, 1) := by decide +kernel
theorem dX2_filledCells_13 : decode cX2_filledCells 13 = .ok (.invokevirtual 35, 3) := by decide +kernel
theorem dX2_filledCells_16 : decode cX2_filledCells 16 = .ok (.ifCond .ne 6, 3) := by decide +kernel
theorem dX2_filledCells_19 : decode cX2_filledCells 19 = .ok (.iinc 1 1, 3) := by decide +kernel
theorem dX2_filledCells_22 : decode cX2_filledCells 22 = .ok (.iinc 2 1, 3) := by decide +kernel
theorem dX2_filledCells_25 : decode cX2_filledCells 25 = .ok (.goto (-21), 3) := by decide +kernel
theorem dX2_filledCells_28 : decode cX2_filledCells 28 = .ok (.iload_n 1, 1) := by decide +kernel
theorem dX2_filledCells_29 : decode cX2_filledCells 29 = .ok (.ireturn, 1) := by decide +kernel
end
section
set_option maxRecDepth 20000 in
theorem ggX1_init_X1_forgetForms : GoodIn wsX1_init wsX1_forgetForms := goodIn_r _ [14, 8, 9, 15, 16, 17, 18, 19, 20, 21, 22, 23] (by decide +kernel) (by decide +kernel)
set_option maxRecDepth 20000 in
theorem gX1_init_X1_forgetForms : GoodIn wsX1_init (wsV RX1 28 RX1 yX1_forgetForms wsX1_forgetForms) := goodIn_app (goodIn_of _ (by decide +kernel)) ggX1_init_X1_forgetForms
theorem dX1_init_0 : decode cX1_init 0 = .ok (.aload_n 0, 1) := by decide +kernel
theorem dX1_init_1 : decode cX1_init 1 = .ok (.invokespecial 3, 3) := by decide +kernel
theorem dX1_init_4 : decode cX1_init 4 = .ok (.aload_n 0, 1) := by decide +kernel
theorem dX1_init_5 : decode cX1_init 5 = .ok (.iconst 0, 1) := by decide +kernel
theorem dX1_init_6 : decode cX1_init 6 = .ok (.putfield 9, 3) := by decide +kernel
theorem dX1_init_9 : decode cX1_init 9 = .ok (.aload_n 0, 1) := by decide +kernel
theorem dX1_init_10 : decode cX1_init 10 = .ok (.bipush 24, 2) := by decide +kernel
theorem dX1_init_12 : decode cX1_init 12 = .ok (.newarray .int, 2) := by decide +kernel
theorem dX1_init_14 : decode cX1_init 14 = .ok (.putfield 15, 3) := by decide +kernel
theorem dX1_init_17 : decode cX1_init 17 = .ok (.aload_n 0, 1) := by decide +kernel
theorem dX1_init_18 : decode cX1_init 18 = .ok (.sipush 384, 3) := by decide +kernel
theorem dX1_init_21 : decode cX1_init 21 = .ok (.newarray .int, 2) := by decide +kernel
theorem dX1_init_23 : decode cX1_init 23 = .ok (.putfield 19, 3) := by decide +kernel
theorem dX1_init_26 : decode cX1_init 26 = .ok (.aload_n 0, 1) := by decide +kernel
theorem dX1_init_27 : decode cX1_init 27 = .ok (.bipush 24, 2) := by decide +kernel
theorem dX1_init_29 : decode cX1_init 29 = .ok (.newarray .int, 2) := by decide +kernel
theorem dX1_init_31 : decode cX1_init 31 = .ok (.putfield 22, 3) := by decide +kernel
theorem dX1_init_34 : decode cX1_init 34 = .ok (.aload_n 0, 1) := by decide +kernel
theorem dX1_init_35 : decode cX1_init 35 = .ok (.bipush 24, 2) := by decide +kernel
theorem dX1_init_37 : decode cX1_init 37 = .ok (.newarray .int, 2) := by decide +kernel
theorem dX1_init_39 : decode cX1_init 39 = .ok (.putfield 25, 3) := by decide +kernel
theorem dX1_init_42 : decode cX1_init 42 = .ok (.aload_n 0, 1) := by decide +kernel
theorem dX1_init_43 : decode cX1_init 43 = .ok (.invokevirtual 28, 3) := by decide +kernel
theorem dX1_init_46 : decode cX1_init 46 = .ok (.return_, 1) := by decide +kernel
theorem dX1_copyFrom_0 : decode cX1_copyFrom 0 = .ok (.aload_n 0, 1) := by decide +kernel
theorem dX1_copyFrom_1 : decode cX1_copyFrom 1 = .ok (.aload_n 1, 1) := by decide +kernel
theorem dX1_copyFrom_2 : decode cX1_copyFrom 2 = .ok (.getfield 9, 3) := by decide +kernel
theorem dX1_copyFrom_5 : decode cX1_copyFrom 5 = .ok (.putfield 9, 3) := by decide +kernel
theorem dX1_copyFrom_8 : decode cX1_copyFrom 8 = .ok (.aload_n 1, 1) := by decide +kernel
theorem dX1_copyFrom_9 : decode cX1_copyFrom 9 = .ok (.getfield 15, 3) := by decide +kernel
theorem dX1_copyFrom_12 : decode cX1_copyFrom 12 = .ok (.iconst 0, 1) := by decide +kernel
theorem dX1_copyFrom_13 : decode cX1_copyFrom 13 = .ok (.aload_n 0, 1) := by decide +kernel
theorem dX1_copyFrom_14 : decode cX1_copyFrom 14 = .ok (.getfield 15, 3) := by decide +kernel
theorem dX1_copyFrom_17 : decode cX1_copyFrom 17 = .ok (.iconst 0, 1) := by decide +kernel
theorem dX1_copyFrom_18 : decode cX1_copyFrom 18 = .ok (.bipush 24, 2) := by decide +kernel
theorem dX1_copyFrom_20 : decode cX1_copyFrom 20 = .ok (.invokestatic 31, 3) := by decide +kernel
theorem dX1_copyFrom_23 : decode cX1_copyFrom 23 = .ok (.aload_n 1, 1) := by decide +kernel
theorem dX1_copyFrom_24 : decode cX1_copyFrom 24 = .ok (.getfield 19, 3) := by decide +kernel
theorem dX1_copyFrom_27 : decode cX1_copyFrom 27 = .ok (.iconst 0, 1) := by decide +kernel
theorem dX1_copyFrom_28 : decode cX1_copyFrom 28 = .ok (.aload_n 0, 1) := by decide +kernel
theorem dX1_copyFrom_29 : decode cX1_copyFrom 29 = .ok (.getfield 19, 3) := by decide +kernel
theorem dX1_copyFrom_32 : decode cX1_copyFrom 32 = .ok (.iconst 0, 1) := by decide +kernel
theorem dX1_copyFrom_33 : decode cX1_copyFrom 33 = .ok (.sipush 384, 3) := by decide +kernel
theorem dX1_copyFrom_36 : decode cX1_copyFrom 36 = .ok (.invokestatic 31, 3) := by decide +kernel
theorem dX1_copyFrom_39 : decode cX1_copyFrom 39 = .ok (.aload_n 1, 1) := by decide +kernel
theorem dX1_copyFrom_40 : decode cX1_copyFrom 40 = .ok (.getfield 22, 3) := by decide +kernel
theorem dX1_copyFrom_43 : decode cX1_copyFrom 43 = .ok (.iconst 0, 1) := by decide +kernel
theorem dX1_copyFrom_44 : decode cX1_copyFrom 44 = .ok (.aload_n 0, 1) := by decide +kernel
theorem dX1_copyFrom_45 : decode cX1_copyFrom 45 = .ok (.getfield 22, 3) := by decide +kernel
theorem dX1_copyFrom_48 : decode cX1_copyFrom 48 = .ok (.iconst 0, 1) := by decide +kernel
theorem dX1_copyFrom_49 : decode cX1_copyFrom 49 = .ok (.bipush 24, 2) := by decide +kernel
theorem dX1_copyFrom_51 : decode cX1_copyFrom 51 = .ok (.invokestatic 31, 3) := by decide +kernel
theorem dX1_copyFrom_54 : decode cX1_copyFrom 54 = .ok (.aload_n 1, 1) := by decide +kernel
theorem dX1_copyFrom_55 : decode cX1_copyFrom 55 = .ok (.getfield 25, 3) := by decide +kernel
theorem dX1_copyFrom_58 : decode cX1_copyFrom 58 = .ok (.iconst 0, 1) := by decide +kernel
theorem dX1_copyFrom_59 : decode cX1_copyFrom 59 = .ok (.aload_n 0, 1) := by decide +kernel
theorem dX1_copyFrom_60 : decode cX1_copyFrom 60 = .ok (.getfield 25, 3) := by decide +kernel
theorem dX1_copyFrom_63 : decode cX1_copyFrom 63 = .ok (.iconst 0, 1) := by decide +kernel
theorem dX1_copyFrom_64 : decode cX1_copyFrom 64 = .ok (.bipush 24, 2) := by decide +kernel
theorem dX1_copyFrom_66 : decode cX1_copyFrom 66 = .ok (.invokestatic 31, 3) := by decide +kernel
theorem dX1_copyFrom_69 : decode cX1_copyFrom 69 = .ok (.return_, 1) := by decide +kernel
set_option maxRecDepth 20000 in
theorem ggX1_forgetForms_J7_fill_53178 : GoodIn wsX1_forgetForms wsJ7_fill_53178 := goodIn_r _ [6] (by decide +kernel) (by decide +kernel)
set_option maxRecDepth 20000 in
theorem gX1_forgetForms_J7_fill_53178 : GoodIn wsX1_forgetForms (va_wsS RX1 37 yJ7_fill_53178 wsJ7_fill_53178) := goodIn_app (goodIn_of _ (by decide +kernel)) ggX1_forgetForms_J7_fill_53178
theorem dX1_forgetForms_0 : decode cX1_forgetForms 0 = .ok (.aload_n 0, 1) := by decide +kernel
theorem dX1_forgetForms_1 : decode cX1_forgetForms 1 = .ok (.getfield 22, 3) := by decide +kernel
theorem dX1_forgetForms_4 : decode cX1_forgetForms 4 = .ok (.bipush (-9), 2) := by decide +kernel
theorem dX1_forgetForms_6 : decode cX1_forgetForms 6 = .ok (.invokestatic 37, 3) := by decide +kernel
theorem dX1_forgetForms_9 : decode cX1_forgetForms 9 = .ok (.aload_n 0, 1) := by decide +kernel
theorem dX1_forgetForms_10 : decode cX1_forgetForms 10 = .ok (.getfield 25, 3) := by decide +kernel
theorem dX1_forgetForms_13 : decode cX1_forgetForms 13 = .ok (.bipush (-9), 2) := by decide +kernel
theorem dX1_forgetForms_15 : decode cX1_forgetForms 15 = .ok (.invokestatic 37, 3) := by decide +kernel
theorem dX1_forgetForms_18 : decode cX1_forgetForms 18 = .ok (.return_, 1) := by decide +kernel
set_option maxRecDepth 20000 in
theorem ggX1_addRow_J7_fill_fda19 : GoodIn wsX1_addRow wsJ7_fill_fda19 := goodIn_r _ [8, 9, 10, 7, 11] (by decide +kernel) (by decide +kernel)
set_option maxRecDepth 20000 in
theorem gX1_addRow_J7_fill_fda19 : GoodIn wsX1_addRow (va_wsS RX1 43 yJ7_fill_fda19 wsJ7_fill_fda19) := goodIn_app (goodIn_of _ (by decide +kernel)) ggX1_addRow_J7_fill_fda19
theorem dX1_addRow_0 : decode cX1_addRow 0 = .ok (.aload_n 0, 1) := by decide +kernel
theorem dX1_addRow_1 : decode cX1_addRow 1 = .ok (.getfield 9, 3) := by decide +kernel
theorem dX1_addRow_4 : decode cX1_addRow 4 = .ok (.bipush 24, 2) := by decide +kernel
theorem dX1_addRow_6 : decode cX1_addRow 6 = .ok (.if_icmp .lt 6, 3) := by decide +kernel
theorem dX1_addRow_9 : decode cX1_addRow 9 = .ok (.bipush (-9), 2) := by decide +kernel
theorem dX1_addRow_11 : decode cX1_addRow 11 = .ok (.ireturn, 1) := by decide +kernel
theorem dX1_addRow_12 : decode cX1_addRow 12 = .ok (.aload_n 0, 1) := by decide +kernel
theorem dX1_addRow_13 : decode cX1_addRow 13 = .ok (.getfield 9, 3) := by decide +kernel
theorem dX1_addRow_16 : decode cX1_addRow 16 = .ok (.istore_n 2, 1) := by decide +kernel
theorem dX1_addRow_17 : decode cX1_addRow 17 = .ok (.aload_n 0, 1) := by decide +kernel
theorem dX1_addRow_18 : decode cX1_addRow 18 = .ok (.getfield 15, 3) := by decide +kernel
theorem dX1_addRow_21 : decode cX1_addRow 21 = .ok (.iload_n 2, 1) := by decide +kernel
theorem dX1_addRow_22 : decode cX1_addRow 22 = .ok (.iload_n 1, 1) := by decide +kernel
theorem dX1_addRow_23 : decode cX1_addRow 23 = .ok (.iastore, 1) := by decide +kernel
theorem dX1_addRow_24 : decode cX1_addRow 24 = .ok (.aload_n 0, 1) := by decide +kernel
theorem dX1_addRow_25 : decode cX1_addRow 25 = .ok (.getfield 19, 3) := by decide +kernel
theorem dX1_addRow_28 : decode cX1_addRow 28 = .ok (.iload_n 2, 1) := by decide +kernel
theorem dX1_addRow_29 : decode cX1_addRow 29 = .ok (.bipush 16, 2) := by decide +kernel
theorem dX1_addRow_31 : decode cX1_addRow 31 = .ok (.imul, 1) := by decide +kernel
theorem dX1_addRow_32 : decode cX1_addRow 32 = .ok (.iload_n 2, 1) := by decide +kernel
theorem dX1_addRow_33 : decode cX1_addRow 33 = .ok (.iconst 1, 1) := by decide +kernel
theorem dX1_addRow_34 : decode cX1_addRow 34 = .ok (.iadd, 1) := by decide +kernel
theorem dX1_addRow_35 : decode cX1_addRow 35 = .ok (.bipush 16, 2) := by decide +kernel
theorem dX1_addRow_37 : decode cX1_addRow 37 = .ok (.imul, 1) := by decide +kernel
theorem dX1_addRow_38 : decode cX1_addRow 38 = .ok (.iload_n 1, 1) := by decide +kernel
theorem dX1_addRow_39 : decode cX1_addRow 39 = .ok (.invokestatic 43, 3) := by decide +kernel
theorem dX1_addRow_42 : decode cX1_addRow 42 = .ok (.aload_n 0, 1) := by decide +kernel
theorem dX1_addRow_43 : decode cX1_addRow 43 = .ok (.getfield 22, 3) := by decide +kernel
theorem dX1_addRow_46 : decode cX1_addRow 46 = .ok (.iload_n 2, 1) := by decide +kernel
theorem dX1_addRow_47 : decode cX1_addRow 47 = .ok (.bipush (-9), 2) := by decide +kernel
theorem dX1_addRow_49 : decode cX1_addRow 49 = .ok (.iastore, 1) := by decide +kernel
theorem dX1_addRow_50 : decode cX1_addRow 50 = .ok (.aload_n 0, 1) := by decide +kernel
theorem dX1_addRow_51 : decode cX1_addRow 51 = .ok (.dup, 1) := by decide +kernel
theorem dX1_addRow_52 : decode cX1_addRow 52 = .ok (.getfield 9, 3) := by decide +kernel
theorem dX1_addRow_55 : decode cX1_addRow 55 = .ok (.iconst 1, 1) := by decide +kernel
theorem dX1_addRow_56 : decode cX1_addRow 56 = .ok (.iadd, 1) := by decide +kernel
theorem dX1_addRow_57 : decode cX1_addRow 57 = .ok (.putfield 9, 3) := by decide +kernel
theorem dX1_addRow_60 : decode cX1_addRow 60 = .ok (.iload_n 2, 1) := by decide +kernel
theorem dX1_addRow_61 : decode cX1_addRow 61 = .ok (.ireturn, 1) := by decide +kernel
theorem dX1_valueAt_0 : decode cX1_valueAt 0 = .ok (.aload_n 0, 1) := by decide +kernel
theorem dX1_valueAt_1 : decode cX1_valueAt 1 = .ok (.getfield 19, 3) := by decide +kernel
theorem dX1_valueAt_4 : decode cX1_valueAt 4 = .ok (.iload_n 1, 1) := by decide +kernel
theorem dX1_valueAt_5 : decode cX1_valueAt 5 = .ok (.bipush 16, 2) := by decide +kernel
theorem dX1_valueAt_7 : decode cX1_valueAt 7 = .ok (.imul, 1) := by decide +kernel
theorem dX1_valueAt_8 : decode cX1_valueAt 8 = .ok (.iload_n 2, 1) := by decide +kernel
theorem dX1_valueAt_9 : decode cX1_valueAt 9 = .ok (.iadd, 1) := by decide +kernel
theorem dX1_valueAt_10 : decode cX1_valueAt 10 = .ok (.iaload, 1) := by decide +kernel
theorem dX1_valueAt_11 : decode cX1_valueAt 11 = .ok (.ireturn, 1) := by decide +kernel
theorem dX1_changeValue_0 : decode cX1_changeValue 0 = .ok (.aload_n 0, 1) := by decide +kernel
theorem dX1_changeValue_1 : decode cX1_changeValue 1 = .ok (.getfield 19, 3) := by decide +kernel
theorem dX1_changeValue_4 : decode cX1_changeValue 4 = .ok (.iload_n 1, 1) := by decide +kernel
theorem dX1_changeValue_5 : decode cX1_changeValue 5 = .ok (.bipush 16, 2) := by decide +kernel
theorem dX1_changeValue_7 : decode cX1_changeValue 7 = .ok (.imul, 1) := by decide +kernel
theorem dX1_changeValue_8 : decode cX1_changeValue 8 = .ok (.iload_n 2, 1) := by decide +kernel
theorem dX1_changeValue_9 : decode cX1_changeValue 9 = .ok (.iadd, 1) := by decide +kernel
theorem dX1_changeValue_10 : decode cX1_changeValue 10 = .ok (.iload_n 3, 1) := by decide +kernel
theorem dX1_changeValue_11 : decode cX1_changeValue 11 = .ok (.iastore, 1) := by decide +kernel
theorem dX1_changeValue_12 : decode cX1_changeValue 12 = .ok (.return_, 1) := by decide +kernel
set_option maxRecDepth 20000 in
theorem ggX1_changeDefault_X1_isEntry : GoodIn wsX1_changeDefault wsX1_isEntry := goodIn_r _ [6, 1, 7, 8, 9, 5, 10, 11, 16, 17, 18, 19, 20] (by decide +kernel) (by decide +kernel)
set_option maxRecDepth 20000 in
theorem gX1_changeDefault_X1_isEntry : GoodIn wsX1_changeDefault (wsV RX1 46 RX1 yX1_isEntry wsX1_isEntry) := goodIn_app (goodIn_of _ (by decide +kernel)) ggX1_changeDefault_X1_isEntry
set_option maxRecDepth 20000 in
theorem ggX1_changeDefault_X1_changeValue : GoodIn wsX1_changeDefault wsX1_changeValue := goodIn_r _ [15, 11, 16, 17, 18, 19, 20] (by decide +kernel) (by decide +kernel)
set_option maxRecDepth 20000 in
theorem gX1_changeDefault_X1_changeValue : GoodIn wsX1_changeDefault (wsV RX1 50 RX1 yX1_changeValue wsX1_changeValue) := goodIn_app (goodIn_of _ (by decide +kernel)) ggX1_changeDefault_X1_changeValue
theorem dX1_changeDefault_0 : decode cX1_changeDefault 0 = .ok (.iconst 0, 1) := by decide +kernel
theorem dX1_changeDefault_1 : decode cX1_changeDefault 1 = .ok (.istore_n 3, 1) := by decide +kernel
theorem dX1_changeDefault_2 : decode cX1_changeDefault 2 = .ok (.iload_n 3, 1) := by decide +kernel
theorem dX1_changeDefault_3 : decode cX1_changeDefault 3 = .ok (.bipush 16, 2) := by decide +kernel
theorem dX1_changeDefault_5 : decode cX1_changeDefault 5 = .ok (.if_icmp .ge 25, 3) := by decide +kernel
theorem dX1_changeDefault_8 : decode cX1_changeDefault 8 = .ok (.aload_n 0, 1) := by decide +kernel
theorem dX1_changeDefault_9 : decode cX1_changeDefault 9 = .ok (.iload_n 1, 1) := by decide +kernel
theorem dX1_changeDefault_10 : decode cX1_changeDefault 10 = .ok (.iload_n 3, 1) := by decide +kernel
theorem dX1_changeDefault_11 : decode cX1_changeDefault 11 = .ok (.invokevirtual 46, 3) := by decide +kernel
theorem dX1_changeDefault_14 : decode cX1_changeDefault 14 = .ok (.ifCond .ne 10, 3) := by decide +kernel
theorem dX1_changeDefault_17 : decode cX1_changeDefault 17 = .ok (.aload_n 0, 1) := by decide +kernel
theorem dX1_changeDefault_18 : decode cX1_changeDefault 18 = .ok (.iload_n 1, 1) := by decide +kernel
theorem dX1_changeDefault_19 : decode cX1_changeDefault 19 = .ok (.iload_n 3, 1) := by decide +kernel
theorem dX1_changeDefault_20 : decode cX1_changeDefault 20 = .ok (.iload_n 2, 1) := by decide +kernel
theorem dX1_changeDefault_21 : decode cX1_changeDefault 21 = .ok (.invokevirtual 50, 3) := by decide +kernel
theorem dX1_changeDefault_24 : decode cX1_changeDefault 24 = .ok (.iinc 3 1, 3) := by decide +kernel
theorem dX1_changeDefault_27 : decode cX1_changeDefault 27 = .ok (.goto (-25), 3) := by decide +kernel
theorem dX1_changeDefault_30 : decode cX1_changeDefault 30 = .ok (.aload_n 0, 1) := by decide +kernel
theorem dX1_changeDefault_31 : decode cX1_changeDefault 31 = .ok (.getfield 15, 3) := by decide +kernel
theorem dX1_changeDefault_34 : decode cX1_changeDefault 34 = .ok (.iload_n 1, 1) := by decide +kernel
theorem dX1_changeDefault_35 : decode cX1_changeDefault 35 = .ok (.iload_n 2, 1) := by decide +kernel
theorem dX1_changeDefault_36 : decode cX1_changeDefault 36 = .ok (.iastore, 1) := by decide +kernel
theorem dX1_changeDefault_37 : decode cX1_changeDefault 37 = .ok (.return_, 1) := by decide +kernel
set_option maxRecDepth 20000 in
theorem ggX1_isEntry_X1_valueAt : GoodIn wsX1_isEntry wsX1_valueAt := goodIn_r _ [6, 7, 8, 9, 10, 11, 12] (by decide +kernel) (by decide +kernel)
set_option maxRecDepth 20000 in
theorem gX1_isEntry_X1_valueAt : GoodIn wsX1_isEntry (wsV RX1 54 RX1 yX1_valueAt wsX1_valueAt) := goodIn_app (goodIn_of _ (by decide +kernel)) ggX1_isEntry_X1_valueAt
theorem dX1_isEntry_0 : decode cX1_isEntry 0 = .ok (.aload_n 0, 1) := by decide +kernel
theorem dX1_isEntry_1 : decode cX1_isEntry 1 = .ok (.iload_n 1, 1) := by decide +kernel
theorem dX1_isEntry_2 : decode cX1_isEntry 2 = .ok (.iload_n 2, 1) := by decide +kernel
theorem dX1_isEntry_3 : decode cX1_isEntry 3 = .ok (.invokevirtual 54, 3) := by decide +kernel
theorem dX1_isEntry_6 : decode cX1_isEntry 6 = .ok (.aload_n 0, 1) := by decide +kernel
theorem dX1_isEntry_7 : decode cX1_isEntry 7 = .ok (.getfield 15, 3) := by decide +kernel
theorem dX1_isEntry_10 : decode cX1_isEntry 10 = .ok (.iload_n 1, 1) := by decide +kernel
theorem dX1_isEntry_11 : decode cX1_isEntry 11 = .ok (.iaload, 1) := by decide +kernel
theorem dX1_isEntry_12 : decode cX1_isEntry 12 = .ok (.if_icmp .eq 7, 3) := by decide +kernel
theorem dX1_isEntry_15 : decode cX1_isEntry 15 = .ok (.iconst 1, 1) := by decide +kernel
theorem dX1_isEntry_16 : decode cX1_isEntry 16 = .ok (.goto 4, 3) := by decide +kernel
theorem dX1_isEntry_19 : decode cX1_isEntry 19 = .ok (.iconst 0, 1) := by decide +kernel
theorem dX1_isEntry_20 : decode cX1_isEntry 20 = .ok (.ireturn, 1) := by decide +kernel
set_option maxRecDepth 20000 in
theorem ggX1_columnsOf_X1_isEntry : GoodIn wsX1_columnsOf wsX1_isEntry := goodIn_r _ [5, 6, 7, 8, 9, 4, 10, 11, 12, 13, 14, 15, 16] (by decide +kernel) (by decide +kernel)
set_option maxRecDepth 20000 in
theorem gX1_columnsOf_X1_isEntry : GoodIn wsX1_columnsOf (wsV RX1 46 RX1 yX1_isEntry wsX1_isEntry) := goodIn_app (goodIn_of _ (by decide +kernel)) ggX1_columnsOf_X1_isEntry
theorem dX1_columnsOf_0 : decode cX1_columnsOf 0 = .ok (.iconst 0, 1) := by decide +kernel
theorem dX1_columnsOf_1 : decode cX1_columnsOf 1 = .ok (.istore_n 2, 1) := by decide +kernel
theorem dX1_columnsOf_2 : decode cX1_columnsOf 2 = .ok (.iconst 0, 1) := by decide +kernel
theorem dX1_columnsOf_3 : decode cX1_columnsOf 3 = .ok (.istore_n 3, 1) := by decide +kernel
theorem dX1_columnsOf_4 : decode cX1_columnsOf 4 = .ok (.iload_n 3, 1) := by decide +kernel
theorem dX1_columnsOf_5 : decode cX1_columnsOf 5 = .ok (.bipush 16, 2) := by decide +kernel
theorem dX1_columnsOf_7 : decode cX1_columnsOf 7 = .ok (.if_icmp .ge 24, 3) := by decide +kernel
theorem dX1_columnsOf_10 : decode cX1_columnsOf 10 = .ok (.aload_n 0, 1) := by decide +kernel
theorem dX1_columnsOf_11 : decode cX1_columnsOf 11 = .ok (.iload_n 1, 1) := by decide +kernel
theorem dX1_columnsOf_12 : decode cX1_columnsOf 12 = .ok (.iload_n 3, 1) := by decide +kernel
theorem dX1_columnsOf_13 : decode cX1_columnsOf 13 = .ok (.invokevirtual 46, 3) := by decide +kernel
theorem dX1_columnsOf_16 : decode cX1_columnsOf 16 = .ok (.ifCond .eq 9, 3) := by decide +kernel
theorem dX1_columnsOf_19 : decode cX1_columnsOf 19 = .ok (.iload_n 2, 1) := by decide +kernel
theorem dX1_columnsOf_20 : decode cX1_columnsOf 20 = .ok (.iconst 1, 1) := by decide +kernel
theorem dX1_columnsOf_21 : decode cX1_columnsOf 21 = .ok (.iload_n 3, 1) := by decide +kernel
theorem dX1_columnsOf_22 : decode cX1_columnsOf 22 = .ok (.ishl, 1) := by decide +kernel
theorem dX1_columnsOf_23 : decode cX1_columnsOf 23 = .ok (.ior, 1) := by decide +kernel
theorem dX1_columnsOf_24 : decode cX1_columnsOf 24 = .ok (.istore_n 2, 1) := by decide +kernel
theorem dX1_columnsOf_25 : decode cX1_columnsOf 25 = .ok (.iinc 3 1, 3) := by decide +kernel
theorem dX1_columnsOf_28 : decode cX1_columnsOf 28 = .ok (.goto (-24), 3) := by decide +kernel
theorem dX1_columnsOf_31 : decode cX1_columnsOf 31 = .ok (.iload_n 2, 1) := by decide +kernel
theorem dX1_columnsOf_32 : decode cX1_columnsOf 32 = .ok (.ireturn, 1) := by decide +kernel
set_option maxRecDepth 20000 in
theorem ggX1_weightOf_X1_columnsOf : GoodIn wsX1_weightOf wsX1_columnsOf := goodIn_r _ [5, 6, 7, 8, 4, 9, 10, 11, 12, 13, 14, 15, 23, 24, 25, 26, 27] (by decide +kernel) (by decide +kernel)
set_option maxRecDepth 20000 in
theorem gX1_weightOf_X1_columnsOf : GoodIn wsX1_weightOf (wsV RX1 58 RX1 yX1_columnsOf wsX1_columnsOf) := goodIn_app (goodIn_of _ (by decide +kernel)) ggX1_weightOf_X1_columnsOf
set_option maxRecDepth 20000 in
theorem ggX1_weightOf_J6_bitCount_0f7a4 : GoodIn wsX1_weightOf wsJ6_bitCount_0f7a4 := goodIn_r _ [19, 20, 21, 22] (by decide +kernel) (by decide +kernel)
set_option maxRecDepth 20000 in
theorem gX1_weightOf_J6_bitCount_0f7a4 : GoodIn wsX1_weightOf (va_wsS RX1 62 yJ6_bitCount_0f7a4 wsJ6_bitCount_0f7a4) := goodIn_app (goodIn_of _ (by decide +kernel)) ggX1_weightOf_J6_bitCount_0f7a4
theorem dX1_weightOf_0 : decode cX1_weightOf 0 = .ok (.aload_n 0, 1) := by decide +kernel
theorem dX1_weightOf_1 : decode cX1_weightOf 1 = .ok (.iload_n 1, 1) := by decide +kernel
theorem dX1_weightOf_2 : decode cX1_weightOf 2 = .ok (.invokevirtual 58, 3) := by decide +kernel
theorem dX1_weightOf_5 : decode cX1_weightOf 5 = .ok (.invokestatic 62, 3) := by decide +kernel
theorem dX1_weightOf_8 : decode cX1_weightOf 8 = .ok (.ireturn, 1) := by decide +kernel
set_option maxRecDepth 20000 in
theorem ggX1_weightSum_X1_weightOf : GoodIn wsX1_weightSum wsX1_weightOf := goodIn_r _ [6, 7, 8, 9, 5, 10, 11, 12, 13, 14, 15, 16, 17, 18, 19, 20, 21, 22, 23, 24, 25, 26, 27, 28, 29, 30, 31, 32] (by decide +kernel) (by decide +kernel)
set_option maxRecDepth 20000 in
theorem gX1_weightSum_X1_weightOf : GoodIn wsX1_weightSum (wsV RX1 67 RX1 yX1_weightOf wsX1_weightOf) := goodIn_app (goodIn_of _ (by decide +kernel)) ggX1_weightSum_X1_weightOf
theorem dX1_weightSum_0 : decode cX1_weightSum 0 = .ok (.iconst 0, 1) := by decide +kernel
theorem dX1_weightSum_1 : decode cX1_weightSum 1 = .ok (.istore_n 1, 1) := by decide +kernel
theorem dX1_weightSum_2 : decode cX1_weightSum 2 = .ok (.iconst 0, 1) := by decide +kernel
theorem dX1_weightSum_3 : decode cX1_weightSum 3 = .ok (.istore_n 2, 1) := by decide +kernel
theorem dX1_weightSum_4 : decode cX1_weightSum 4 = .ok (.iload_n 2, 1) := by decide +kernel
theorem dX1_weightSum_5 : decode cX1_weightSum 5 = .ok (.aload_n 0, 1) := by decide +kernel
theorem dX1_weightSum_6 : decode cX1_weightSum 6 = .ok (.getfield 9, 3) := by decide +kernel
theorem dX1_weightSum_9 : decode cX1_weightSum 9 = .ok (.if_icmp .ge 17, 3) := by decide +kernel
theorem dX1_weightSum_12 : decode cX1_weightSum 12 = .ok (.iload_n 1, 1) := by decide +kernel
theorem dX1_weightSum_13 : decode cX1_weightSum 13 = .ok (.aload_n 0, 1) := by decide +kernel
theorem dX1_weightSum_14 : decode cX1_weightSum 14 = .ok (.iload_n 2, 1) := by decide +kernel
theorem dX1_weightSum_15 : decode cX1_weightSum 15 = .ok (.invokevirtual 67, 3) := by decide +kernel
theorem dX1_weightSum_18 : decode cX1_weightSum 18 = .ok (.iadd, 1) := by decide +kernel
theorem dX1_weightSum_19 : decode cX1_weightSum 19 = .ok (.istore_n 1, 1) := by decide +kernel
theorem dX1_weightSum_20 : decode cX1_weightSum 20 = .ok (.iinc 2 1, 3) := by decide +kernel
theorem dX1_weightSum_23 : decode cX1_weightSum 23 = .ok (.goto (-19), 3) := by decide +kernel
theorem dX1_weightSum_26 : decode cX1_weightSum 26 = .ok (.iload_n 1, 1) := by decide +kernel
theorem dX1_weightSum_27 : decode cX1_weightSum 27 = .ok (.ireturn, 1) := by decide +kernel
set_option maxRecDepth 20000 in
theorem ggX1_commonestValue_X1_valueAt : GoodIn wsX1_commonestValue wsX1_valueAt := goodIn_r _ [5, 6, 11, 12, 13, 14, 15] (by decide +kernel) (by decide +kernel)
set_option maxRecDepth 20000 in
theorem gX1_commonestValue_X1_valueAt : GoodIn wsX1_commonestValue (wsV RX1 54 RX1 yX1_valueAt wsX1_valueAt) := goodIn_app (goodIn_of _ (by decide +kernel)) ggX1_commonestValue_X1_valueAt
set_option maxRecDepth 20000 in
theorem ggX1_commonestValue_X1_cellsWith : GoodIn wsX1_commonestValue wsX1_cellsWith := goodIn_r _ [10, 1, 2, 3, 4, 5, 6, 11, 12, 13, 14, 15] (by decide +kernel) (by decide +kernel)
set_option maxRecDepth 20000 in
theorem gX1_commonestValue_X1_cellsWith : GoodIn wsX1_commonestValue (wsV RX1 70 RX1 yX1_cellsWith wsX1_cellsWith) := goodIn_app (goodIn_of _ (by decide +kernel)) ggX1_commonestValue_X1_cellsWith
theorem dX1_commonestValue_0 : decode cX1_commonestValue 0 = .ok (.aload_n 0, 1) := by decide +kernel
theorem dX1_commonestValue_1 : decode cX1_commonestValue 1 = .ok (.iload_n 1, 1) := by decide +kernel
theorem dX1_commonestValue_2 : decode cX1_commonestValue 2 = .ok (.iconst 0, 1) := by decide +kernel
theorem dX1_commonestValue_3 : decode cX1_commonestValue 3 = .ok (.invokevirtual 54, 3) := by decide +kernel
theorem dX1_commonestValue_6 : decode cX1_commonestValue 6 = .ok (.istore_n 2, 1) := by decide +kernel
theorem dX1_commonestValue_7 : decode cX1_commonestValue 7 = .ok (.aload_n 0, 1) := by decide +kernel
theorem dX1_commonestValue_8 : decode cX1_commonestValue 8 = .ok (.iload_n 1, 1) := by decide +kernel
theorem dX1_commonestValue_9 : decode cX1_commonestValue 9 = .ok (.iload_n 2, 1) := by decide +kernel
theorem dX1_commonestValue_10 : decode cX1_commonestValue 10 = .ok (.invokevirtual 70, 3) := by decide +kernel
theorem dX1_commonestValue_13 : decode cX1_commonestValue 13 = .ok (.istore_n 3, 1) := by decide +kernel
theorem dX1_commonestValue_14 : decode cX1_commonestValue 14 = .ok (.iconst 1, 1) := by decide +kernel
theorem dX1_commonestValue_15 : decode cX1_commonestValue 15 = .ok (.istore 4, 2) := by decide +kernel
theorem dX1_commonestValue_17 : decode cX1_commonestValue 17 = .ok (.iload 4, 2) := by decide +kernel
theorem dX1_commonestValue_19 : decode cX1_commonestValue 19 = .ok (.bipush 16, 2) := by decide +kernel
theorem dX1_commonestValue_21 : decode cX1_commonestValue 21 = .ok (.if_icmp .ge 51, 3) := by decide +kernel
theorem dX1_commonestValue_24 : decode cX1_commonestValue 24 = .ok (.aload_n 0, 1) := by decide +kernel
theorem dX1_commonestValue_25 : decode cX1_commonestValue 25 = .ok (.iload_n 1, 1) := by decide +kernel
theorem dX1_commonestValue_26 : decode cX1_commonestValue 26 = .ok (.iload 4, 2) := by decide +kernel
theorem dX1_commonestValue_28 : decode cX1_commonestValue 28 = .ok (.invokevirtual 54, 3) := by decide +kernel
theorem dX1_commonestValue_31 : decode cX1_commonestValue 31 = .ok (.istore 5, 2) := by decide +kernel
theorem dX1_commonestValue_33 : decode cX1_commonestValue 33 = .ok (.aload_n 0, 1) := by decide +kernel
theorem dX1_commonestValue_34 : decode cX1_commonestValue 34 = .ok (.iload_n 1, 1) := by decide +kernel
theorem dX1_commonestValue_35 : decode cX1_commonestValue 35 = .ok (.iload 5, 2) := by decide +kernel
theorem dX1_commonestValue_37 : decode cX1_commonestValue 37 = .ok (.invokevirtual 70, 3) := by decide +kernel
theorem dX1_commonestValue_40 : decode cX1_commonestValue 40 = .ok (.istore 6, 2) := by decide +kernel
theorem dX1_commonestValue_42 : decode cX1_commonestValue 42 = .ok (.iload 6, 2) := by decide +kernel
theorem dX1_commonestValue_44 : decode cX1_commonestValue 44 = .ok (.iload_n 3, 1) := by decide +kernel
theorem dX1_commonestValue_45 : decode cX1_commonestValue 45 = .ok (.if_icmp .gt 15, 3) := by decide +kernel
theorem dX1_commonestValue_48 : decode cX1_commonestValue 48 = .ok (.iload 6, 2) := by decide +kernel
theorem dX1_commonestValue_50 : decode cX1_commonestValue 50 = .ok (.iload_n 3, 1) := by decide +kernel
theorem dX1_commonestValue_51 : decode cX1_commonestValue 51 = .ok (.if_icmp .ne 15, 3) := by decide +kernel
theorem dX1_commonestValue_54 : decode cX1_commonestValue 54 = .ok (.iload 5, 2) := by decide +kernel
theorem dX1_commonestValue_56 : decode cX1_commonestValue 56 = .ok (.iload_n 2, 1) := by decide +kernel
theorem dX1_commonestValue_57 : decode cX1_commonestValue 57 = .ok (.if_icmp .ge 9, 3) := by decide +kernel
theorem dX1_commonestValue_60 : decode cX1_commonestValue 60 = .ok (.iload 5, 2) := by decide +kernel
theorem dX1_commonestValue_62 : decode cX1_commonestValue 62 = .ok (.istore_n 2, 1) := by decide +kernel
theorem dX1_commonestValue_63 : decode cX1_commonestValue 63 = .ok (.iload 6, 2) := by decide +kernel
theorem dX1_commonestValue_65 : decode cX1_commonestValue 65 = .ok (.istore_n 3, 1) := by decide +kernel
theorem dX1_commonestValue_66 : decode cX1_commonestValue 66 = .ok (.iinc 4 1, 3) := by decide +kernel
theorem dX1_commonestValue_69 : decode cX1_commonestValue 69 = .ok (.goto (-52), 3) := by decide +kernel
theorem dX1_commonestValue_72 : decode cX1_commonestValue 72 = .ok (.iload_n 2, 1) := by decide +kernel
theorem dX1_commonestValue_73 : decode cX1_commonestValue 73 = .ok (.ireturn, 1) := by decide +kernel
set_option maxRecDepth 20000 in
theorem ggX1_slimmerBy_X1_commonestValue : GoodIn wsX1_slimmerBy wsX1_commonestValue := goodIn_r _ [5, 6, 7, 8, 4, 9, 10, 11, 12, 13, 14, 35, 36, 37, 38, 39] (by decide +kernel) (by decide +kernel)
set_option maxRecDepth 20000 in
theorem gX1_slimmerBy_X1_commonestValue : GoodIn wsX1_slimmerBy (wsV RX1 73 RX1 yX1_commonestValue wsX1_commonestValue) := goodIn_app (goodIn_of _ (by decide +kernel)) ggX1_slimmerBy_X1_commonestValue
set_option maxRecDepth 20000 in
theorem ggX1_slimmerBy_X1_cellsWith : GoodIn wsX1_slimmerBy wsX1_cellsWith := goodIn_r _ [14, 6, 7, 8, 4, 9, 10, 35, 36, 37, 38, 39] (by decide +kernel) (by decide +kernel)
set_option maxRecDepth 20000 in
theorem gX1_slimmerBy_X1_cellsWith : GoodIn wsX1_slimmerBy (wsV RX1 70 RX1 yX1_cellsWith wsX1_cellsWith) := goodIn_app (goodIn_of _ (by decide +kernel)) ggX1_slimmerBy_X1_cellsWith
set_option maxRecDepth 20000 in
theorem ggX1_slimmerBy_X1_weightOf : GoodIn wsX1_slimmerBy wsX1_weightOf := goodIn_r _ [18, 19, 20, 21, 4, 22, 23, 24, 25, 26, 27, 6, 7, 8, 9, 10, 28, 29, 30, 31, 32, 33, 34, 35, 36, 37, 38, 39] (by decide +kernel) (by decide +kernel)
set_option maxRecDepth 20000 in
theorem gX1_slimmerBy_X1_weightOf : GoodIn wsX1_slimmerBy (wsV RX1 67 RX1 yX1_weightOf wsX1_weightOf) := goodIn_app (goodIn_of _ (by decide +kernel)) ggX1_slimmerBy_X1_weightOf
theorem dX1_slimmerBy_0 : decode cX1_slimmerBy 0 = .ok (.bipush 16, 2) := by decide +kernel
theorem dX1_slimmerBy_2 : decode cX1_slimmerBy 2 = .ok (.aload_n 0, 1) := by decide +kernel
theorem dX1_slimmerBy_3 : decode cX1_slimmerBy 3 = .ok (.iload_n 1, 1) := by decide +kernel
theorem dX1_slimmerBy_4 : decode cX1_slimmerBy 4 = .ok (.aload_n 0, 1) := by decide +kernel
theorem dX1_slimmerBy_5 : decode cX1_slimmerBy 5 = .ok (.iload_n 1, 1) := by decide +kernel
theorem dX1_slimmerBy_6 : decode cX1_slimmerBy 6 = .ok (.invokevirtual 73, 3) := by decide +kernel
theorem dX1_slimmerBy_9 : decode cX1_slimmerBy 9 = .ok (.invokevirtual 70, 3) := by decide +kernel
theorem dX1_slimmerBy_12 : decode cX1_slimmerBy 12 = .ok (.isub, 1) := by decide +kernel
theorem dX1_slimmerBy_13 : decode cX1_slimmerBy 13 = .ok (.istore_n 2, 1) := by decide +kernel
theorem dX1_slimmerBy_14 : decode cX1_slimmerBy 14 = .ok (.aload_n 0, 1) := by decide +kernel
theorem dX1_slimmerBy_15 : decode cX1_slimmerBy 15 = .ok (.iload_n 1, 1) := by decide +kernel
theorem dX1_slimmerBy_16 : decode cX1_slimmerBy 16 = .ok (.invokevirtual 67, 3) := by decide +kernel
theorem dX1_slimmerBy_19 : decode cX1_slimmerBy 19 = .ok (.iload_n 2, 1) := by decide +kernel
theorem dX1_slimmerBy_20 : decode cX1_slimmerBy 20 = .ok (.isub, 1) := by decide +kernel
theorem dX1_slimmerBy_21 : decode cX1_slimmerBy 21 = .ok (.ireturn, 1) := by decide +kernel
set_option maxRecDepth 20000 in
theorem ggX1_cellsWith_X1_valueAt : GoodIn wsX1_cellsWith wsX1_valueAt := goodIn_r _ [5, 6, 7, 8, 9, 10, 11] (by decide +kernel) (by decide +kernel)
set_option maxRecDepth 20000 in
theorem gX1_cellsWith_X1_valueAt : GoodIn wsX1_cellsWith (wsV RX1 54 RX1 yX1_valueAt wsX1_valueAt) := goodIn_app (goodIn_of _ (by decide +kernel)) ggX1_cellsWith_X1_valueAt
theorem dX1_cellsWith_0 : decode cX1_cellsWith 0 = .ok (.iconst 0, 1) := by decide +kernel
theorem dX1_cellsWith_1 : decode cX1_cellsWith 1 = .ok (.istore_n 3, 1) := by decide +kernel
theorem dX1_cellsWith_2 : decode cX1_cellsWith 2 = .ok (.iconst 0, 1) := by decide +kernel
theorem dX1_cellsWith_3 : decode cX1_cellsWith 3 = .ok (.istore 4, 2) := by decide +kernel
theorem dX1_cellsWith_5 : decode cX1_cellsWith 5 = .ok (.iload 4, 2) := by decide +kernel
theorem dX1_cellsWith_7 : decode cX1_cellsWith 7 = .ok (.bipush 16, 2) := by decide +kernel
theorem dX1_cellsWith_9 : decode cX1_cellsWith 9 = .ok (.if_icmp .ge 23, 3) := by decide +kernel
theorem dX1_cellsWith_12 : decode cX1_cellsWith 12 = .ok (.aload_n 0, 1) := by decide +kernel
theorem dX1_cellsWith_13 : decode cX1_cellsWith 13 = .ok (.iload_n 1, 1) := by decide +kernel
theorem dX1_cellsWith_14 : decode cX1_cellsWith 14 = .ok (.iload 4, 2) := by decide +kernel
theorem dX1_cellsWith_16 : decode cX1_cellsWith 16 = .ok (.invokevirtual 54, 3) := by decide +kernel
theorem dX1_cellsWith_19 : decode cX1_cellsWith 19 = .ok (.iload_n 2, 1) := by decide +kernel
theorem dX1_cellsWith_20 : decode cX1_cellsWith 20 = .ok (.if_icmp .ne 6, 3) := by decide +kernel
theorem dX1_cellsWith_23 : decode cX1_cellsWith 23 = .ok (.iinc 3 1, 3) := by decide +kernel
theorem dX1_cellsWith_26 : decode cX1_cellsWith 26 = .ok (.iinc 4 1, 3) := by decide +kernel
theorem dX1_cellsWith_29 : decode cX1_cellsWith 29 = .ok (.goto (-24), 3) := by decide +kernel
theorem dX1_cellsWith_32 : decode cX1_cellsWith 32 = .ok (.iload_n 3, 1) := by decide +kernel
theorem dX1_cellsWith_33 : decode cX1_cellsWith 33 = .ok (.ireturn, 1) := by decide +kernel
set_option maxRecDepth 20000 in
theorem ggX1_mostLike_X1_equalCells : GoodIn wsX1_mostLike wsX1_equalCells := goodIn_r _ [6, 7, 8, 9, 5, 10, 11, 12, 13, 14, 15, 16] (by decide +kernel) (by decide +kernel)
set_option maxRecDepth 20000 in
theorem gX1_mostLike_X1_equalCells : GoodIn wsX1_mostLike (wsV RX1 76 RX1 yX1_equalCells wsX1_equalCells) := goodIn_app (goodIn_of _ (by decide +kernel)) ggX1_mostLike_X1_equalCells
theorem dX1_mostLike_0 : decode cX1_mostLike 0 = .ok (.bipush (-9), 2) := by decide +kernel
theorem dX1_mostLike_2 : decode cX1_mostLike 2 = .ok (.istore_n 2, 1) := by decide +kernel
theorem dX1_mostLike_3 : decode cX1_mostLike 3 = .ok (.iconst (-1), 1) := by decide +kernel
theorem dX1_mostLike_4 : decode cX1_mostLike 4 = .ok (.istore_n 3, 1) := by decide +kernel
theorem dX1_mostLike_5 : decode cX1_mostLike 5 = .ok (.iconst 0, 1) := by decide +kernel
theorem dX1_mostLike_6 : decode cX1_mostLike 6 = .ok (.istore 4, 2) := by decide +kernel
theorem dX1_mostLike_8 : decode cX1_mostLike 8 = .ok (.iload 4, 2) := by decide +kernel
theorem dX1_mostLike_10 : decode cX1_mostLike 10 = .ok (.aload_n 0, 1) := by decide +kernel
theorem dX1_mostLike_11 : decode cX1_mostLike 11 = .ok (.getfield 9, 3) := by decide +kernel
theorem dX1_mostLike_14 : decode cX1_mostLike 14 = .ok (.if_icmp .ge 36, 3) := by decide +kernel
theorem dX1_mostLike_17 : decode cX1_mostLike 17 = .ok (.aload_n 0, 1) := by decide +kernel
theorem dX1_mostLike_18 : decode cX1_mostLike 18 = .ok (.iload_n 1, 1) := by decide +kernel
theorem dX1_mostLike_19 : decode cX1_mostLike 19 = .ok (.iload 4, 2) := by decide +kernel
theorem dX1_mostLike_21 : decode cX1_mostLike 21 = .ok (.invokevirtual 76, 3) := by decide +kernel
theorem dX1_mostLike_24 : decode cX1_mostLike 24 = .ok (.istore 5, 2) := by decide +kernel
theorem dX1_mostLike_26 : decode cX1_mostLike 26 = .ok (.iload 4, 2) := by decide +kernel
theorem dX1_mostLike_28 : decode cX1_mostLike 28 = .ok (.iload_n 1, 1) := by decide +kernel
theorem dX1_mostLike_29 : decode cX1_mostLike 29 = .ok (.if_icmp .eq 15, 3) := by decide +kernel
theorem dX1_mostLike_32 : decode cX1_mostLike 32 = .ok (.iload 5, 2) := by decide +kernel
theorem dX1_mostLike_34 : decode cX1_mostLike 34 = .ok (.iload_n 3, 1) := by decide +kernel
theorem dX1_mostLike_35 : decode cX1_mostLike 35 = .ok (.if_icmp .le 9, 3) := by decide +kernel
theorem dX1_mostLike_38 : decode cX1_mostLike 38 = .ok (.iload 4, 2) := by decide +kernel
theorem dX1_mostLike_40 : decode cX1_mostLike 40 = .ok (.istore_n 2, 1) := by decide +kernel
theorem dX1_mostLike_41 : decode cX1_mostLike 41 = .ok (.iload 5, 2) := by decide +kernel
theorem dX1_mostLike_43 : decode cX1_mostLike 43 = .ok (.istore_n 3, 1) := by decide +kernel
theorem dX1_mostLike_44 : decode cX1_mostLike 44 = .ok (.iinc 4 1, 3) := by decide +kernel
theorem dX1_mostLike_47 : decode cX1_mostLike 47 = .ok (.goto (-39), 3) := by decide +kernel
theorem dX1_mostLike_50 : decode cX1_mostLike 50 = .ok (.iload_n 2, 1) := by decide +kernel
theorem dX1_mostLike_51 : decode cX1_mostLike 51 = .ok (.ireturn, 1) := by decide +kernel
set_option maxRecDepth 20000 in
theorem ggX1_equalCells_X1_valueAt : GoodIn wsX1_equalCells wsX1_valueAt := goodIn_r _ [5, 6, 7, 8, 9, 10, 11] (by decide +kernel) (by decide +kernel)
set_option maxRecDepth 20000 in
theorem gX1_equalCells_X1_valueAt : GoodIn wsX1_equalCells (wsV RX1 54 RX1 yX1_valueAt wsX1_valueAt) := goodIn_app (goodIn_of _ (by decide +kernel)) ggX1_equalCells_X1_valueAt
theorem dX1_equalCells_0 : decode cX1_equalCells 0 = .ok (.iconst 0, 1) := by decide +kernel
theorem dX1_equalCells_1 : decode cX1_equalCells 1 = .ok (.istore_n 3, 1) := by decide +kernel
theorem dX1_equalCells_2 : decode cX1_equalCells 2 = .ok (.iconst 0, 1) := by decide +kernel
theorem dX1_equalCells_3 : decode cX1_equalCells 3 = .ok (.istore 4, 2) := by decide +kernel
theorem dX1_equalCells_5 : decode cX1_equalCells 5 = .ok (.iload 4, 2) := by decide +kernel
theorem dX1_equalCells_7 : decode cX1_equalCells 7 = .ok (.bipush 16, 2) := by decide +kernel
theorem dX1_equalCells_9 : decode cX1_equalCells 9 = .ok (.if_icmp .ge 29, 3) := by decide +kernel
theorem dX1_equalCells_12 : decode cX1_equalCells 12 = .ok (.aload_n 0, 1) := by decide +kernel
theorem dX1_equalCells_13 : decode cX1_equalCells 13 = .ok (.iload_n 1, 1) := by decide +kernel
theorem dX1_equalCells_14 : decode cX1_equalCells 14 = .ok (.iload 4, 2) := by decide +kernel
theorem dX1_equalCells_16 : decode cX1_equalCells 16 = .ok (.invokevirtual 54, 3) := by decide +kernel
theorem dX1_equalCells_19 : decode cX1_equalCells 19 = .ok (.aload_n 0, 1) := by decide +kernel
theorem dX1_equalCells_20 : decode cX1_equalCells 20 = .ok (.iload_n 2, 1) := by decide +kernel
theorem dX1_equalCells_21 : decode cX1_equalCells 21 = .ok (.iload 4, 2) := by decide +kernel
theorem dX1_equalCells_23 : decode cX1_equalCells 23 = .ok (.invokevirtual 54, 3) := by decide +kernel
theorem dX1_equalCells_26 : decode cX1_equalCells 26 = .ok (.if_icmp .ne 6, 3) := by decide +kernel
theorem dX1_equalCells_29 : decode cX1_equalCells 29 = .ok (.iinc 3 1, 3) := by decide +kernel
theorem dX1_equalCells_32 : decode cX1_equalCells 32 = .ok (.iinc 4 1, 3) := by decide +kernel
theorem dX1_equalCells_35 : decode cX1_equalCells 35 = .ok (.goto (-30), 3) := by decide +kernel
theorem dX1_equalCells_38 : decode cX1_equalCells 38 = .ok (.iload_n 3, 1) := by decide +kernel
theorem dX1_equalCells_39 : decode cX1_equalCells 39 = .ok (.ireturn, 1) := by decide +kernel
theorem dX1_shiftOf_0 : decode cX1_shiftOf 0 = .ok (.iload_n 1, 1) := by decide +kernel
theorem dX1_shiftOf_1 : decode cX1_shiftOf 1 = .ok (.ifCond .lt 18, 3) := by decide +kernel
theorem dX1_shiftOf_4 : decode cX1_shiftOf 4 = .ok (.iload_n 1, 1) := by decide +kernel
theorem dX1_shiftOf_5 : decode cX1_shiftOf 5 = .ok (.bipush 24, 2) := by decide +kernel
theorem dX1_shiftOf_7 : decode cX1_shiftOf 7 = .ok (.if_icmp .ge 12, 3) := by decide +kernel
theorem dX1_shiftOf_10 : decode cX1_shiftOf 10 = .ok (.aload_n 0, 1) := by decide +kernel
theorem dX1_shiftOf_11 : decode cX1_shiftOf 11 = .ok (.getfield 25, 3) := by decide +kernel
theorem dX1_shiftOf_14 : decode cX1_shiftOf 14 = .ok (.iload_n 1, 1) := by decide +kernel
theorem dX1_shiftOf_15 : decode cX1_shiftOf 15 = .ok (.iaload, 1) := by decide +kernel
theorem dX1_shiftOf_16 : decode cX1_shiftOf 16 = .ok (.goto 5, 3) := by decide +kernel
theorem dX1_shiftOf_19 : decode cX1_shiftOf 19 = .ok (.bipush (-9), 2) := by decide +kernel
theorem dX1_shiftOf_21 : decode cX1_shiftOf 21 = .ok (.ireturn, 1) := by decide +kernel
theorem dX1_formCount_0 : decode cX1_formCount 0 = .ok (.iconst 0, 1) := by decide +kernel
theorem dX1_formCount_1 : decode cX1_formCount 1 = .ok (.istore_n 1, 1) := by decide +kernel
theorem dX1_formCount_2 : decode cX1_formCount 2 = .ok (.iconst 0, 1) := by decide +kernel
theorem dX1_formCount_3 : decode cX1_formCount 3 = .ok (.istore_n 2, 1) := by decide +kernel
theorem dX1_formCount_4 : decode cX1_formCount 4 = .ok (.iload_n 2, 1) := by decide +kernel
theorem dX1_formCount_5 : decode cX1_formCount 5 = .ok (.bipush 24, 2) := by decide +kernel
theorem dX1_formCount_7 : decode cX1_formCount 7 = .ok (.if_icmp .ge 23, 3) := by decide +kernel
theorem dX1_formCount_10 : decode cX1_formCount 10 = .ok (.aload_n 0, 1) := by decide +kernel
theorem dX1_formCount_11 : decode cX1_formCount 11 = .ok (.getfield 25, 3) := by decide +kernel
theorem dX1_formCount_14 : decode cX1_formCount 14 = .ok (.iload_n 2, 1) := by decide +kernel
theorem dX1_formCount_15 : decode cX1_formCount 15 = .ok (.iaload, 1) := by decide +kernel
theorem dX1_formCount_16 : decode cX1_formCount 16 = .ok (.bipush (-9), 2) := by decide +kernel
theorem dX1_formCount_18 : decode cX1_formCount 18 = .ok (.if_icmp .eq 6, 3) := by decide +kernel
theorem dX1_formCount_21 : decode cX1_formCount 21 = .ok (.iinc 1 1, 3) := by decide +kernel
theorem dX1_formCount_24 : decode cX1_formCount 24 = .ok (.iinc 2 1, 3) := by decide +kernel
theorem dX1_formCount_27 : decode cX1_formCount 27 = .ok (.goto (-23), 3) := by decide +kernel
theorem dX1_formCount_30 : decode cX1_formCount 30 = .ok (.iload_n 1, 1) := by decide +kernel
theorem dX1_formCount_31 : decode cX1_formCount 31 = .ok (.ireturn, 1) := by decide +kernel
theorem dX1_sharersOf_0 : decode cX1_sharersOf 0 = .ok (.iconst 0, 1) := by decide +kernel
theorem dX1_sharersOf_1 : decode cX1_sharersOf 1 = .ok (.istore_n 2, 1) := by decide +kernel
theorem dX1_sharersOf_2 : decode cX1_sharersOf 2 = .ok (.iconst 0, 1) := by decide +kernel
theorem dX1_sharersOf_3 : decode cX1_sharersOf 3 = .ok (.istore_n 3, 1) := by decide +kernel
theorem dX1_sharersOf_4 : decode cX1_sharersOf 4 = .ok (.iload_n 3, 1) := by decide +kernel
theorem dX1_sharersOf_5 : decode cX1_sharersOf 5 = .ok (.aload_n 0, 1) := by decide +kernel
theorem dX1_sharersOf_6 : decode cX1_sharersOf 6 = .ok (.getfield 9, 3) := by decide +kernel
theorem dX1_sharersOf_9 : decode cX1_sharersOf 9 = .ok (.if_icmp .ge 22, 3) := by decide +kernel
theorem dX1_sharersOf_12 : decode cX1_sharersOf 12 = .ok (.aload_n 0, 1) := by decide +kernel
theorem dX1_sharersOf_13 : decode cX1_sharersOf 13 = .ok (.getfield 22, 3) := by decide +kernel
theorem dX1_sharersOf_16 : decode cX1_sharersOf 16 = .ok (.iload_n 3, 1) := by decide +kernel
theorem dX1_sharersOf_17 : decode cX1_sharersOf 17 = .ok (.iaload, 1) := by decide +kernel
theorem dX1_sharersOf_18 : decode cX1_sharersOf 18 = .ok (.iload_n 1, 1) := by decide +kernel
theorem dX1_sharersOf_19 : decode cX1_sharersOf 19 = .ok (.if_icmp .ne 6, 3) := by decide +kernel
theorem dX1_sharersOf_22 : decode cX1_sharersOf 22 = .ok (.iinc 2 1, 3) := by decide +kernel
theorem dX1_sharersOf_25 : decode cX1_sharersOf 25 = .ok (.iinc 3 1, 3) := by decide +kernel
theorem dX1_sharersOf_28 : decode cX1_sharersOf 28 = .ok (.goto (-24), 3) := by decide +kernel
theorem dX1_sharersOf_31 : decode cX1_sharersOf 31 = .ok (.iload_n 2, 1) := by decide +kernel
theorem dX1_sharersOf_32 : decode cX1_sharersOf 32 = .ok (.ireturn, 1) := by decide +kernel
theorem dX1_freeForm_0 : decode cX1_freeForm 0 = .ok (.iconst 0, 1) := by decide +kernel
theorem dX1_freeForm_1 : decode cX1_freeForm 1 = .ok (.istore_n 1, 1) := by decide +kernel
theorem dX1_freeForm_2 : decode cX1_freeForm 2 = .ok (.iload_n 1, 1) := by decide +kernel
theorem dX1_freeForm_3 : decode cX1_freeForm 3 = .ok (.bipush 24, 2) := by decide +kernel
theorem dX1_freeForm_5 : decode cX1_freeForm 5 = .ok (.if_icmp .ge 22, 3) := by decide +kernel
theorem dX1_freeForm_8 : decode cX1_freeForm 8 = .ok (.aload_n 0, 1) := by decide +kernel
theorem dX1_freeForm_9 : decode cX1_freeForm 9 = .ok (.getfield 25, 3) := by decide +kernel
theorem dX1_freeForm_12 : decode cX1_freeForm 12 = .ok (.iload_n 1, 1) := by decide +kernel
theorem dX1_freeForm_13 : decode cX1_freeForm 13 = .ok (.iaload, 1) := by decide +kernel
theorem dX1_freeForm_14 : decode cX1_freeForm 14 = .ok (.bipush (-9), 2) := by decide +kernel
theorem dX1_freeForm_16 : decode cX1_freeForm 16 = .ok (.if_icmp .ne 5, 3) := by decide +kernel
theorem dX1_freeForm_19 : decode cX1_freeForm 19 = .ok (.iload_n 1, 1) := by decide +kernel
theorem dX1_freeForm_20 : decode cX1_freeForm 20 = .ok (.ireturn, 1) := by decide +kernel
theorem dX1_freeForm_21 : decode cX1_freeForm 21 = .ok (.iinc 1 1, 3) := by decide +kernel
theorem dX1_freeForm_24 : decode cX1_freeForm 24 = .ok (.goto (-22), 3) := by decide +kernel
theorem dX1_freeForm_27 : decode cX1_freeForm 27 = .ok (.bipush (-9), 2) := by decide +kernel
theorem dX1_freeForm_29 : decode cX1_freeForm 29 = .ok (.ireturn, 1) := by decide +kernel
end
section
set_option maxRecDepth 20000 in
theorem ggX0_init_X1_init : GoodIn wsX0_init wsX1_init := goodIn_r _ [11, 12, 2, 3, 13, 14, 15, 16, 17, 18, 19, 20, 21, 8, 22, 23, 24, 25, 26, 29, 30, 31, 32, 33] (by decide +kernel) (by decide +kernel)
set_option maxRecDepth 20000 in
theorem gX0_init_X1_init : GoodIn wsX0_init (wsX1_init) := ggX0_init_X1_init
theorem dX0_init_0 : decode cX0_init 0 = .ok (.aload_n 0, 1) := by decide +kernel
theorem dX0_init_1 : decode cX0_init 1 = .ok (.invokespecial 3, 3) := by decide +kernel
theorem dX0_init_4 : decode cX0_init 4 = .ok (.aload_n 0, 1) := by decide +kernel
theorem dX0_init_5 : decode cX0_init 5 = .ok (.iconst 0, 1) := by decide +kernel
theorem dX0_init_6 : decode cX0_init 6 = .ok (.putfield 9, 3) := by decide +kernel
theorem dX0_init_9 : decode cX0_init 9 = .ok (.aload_n 0, 1) := by decide +kernel
theorem dX0_init_10 : decode cX0_init 10 = .ok (.iconst 5, 1) := by decide +kernel
theorem dX0_init_11 : decode cX0_init 11 = .ok (.anewarray 15, 3) := by decide +kernel
theorem dX0_init_14 : decode cX0_init 14 = .ok (.putfield 17, 3) := by decide +kernel
theorem dX0_init_17 : decode cX0_init 17 = .ok (.iconst 0, 1) := by decide +kernel
theorem dX0_init_18 : decode cX0_init 18 = .ok (.istore_n 1, 1) := by decide +kernel
theorem dX0_init_19 : decode cX0_init 19 = .ok (.iload_n 1, 1) := by decide +kernel
theorem dX0_init_20 : decode cX0_init 20 = .ok (.iconst 5, 1) := by decide +kernel
theorem dX0_init_21 : decode cX0_init 21 = .ok (.if_icmp .ge 22, 3) := by decide +kernel
theorem dX0_init_24 : decode cX0_init 24 = .ok (.aload_n 0, 1) := by decide +kernel
theorem dX0_init_25 : decode cX0_init 25 = .ok (.getfield 17, 3) := by decide +kernel
theorem dX0_init_28 : decode cX0_init 28 = .ok (.iload_n 1, 1) := by decide +kernel
theorem dX0_init_29 : decode cX0_init 29 = .ok (.new 15, 3) := by decide +kernel
theorem dX0_init_32 : decode cX0_init 32 = .ok (.dup, 1) := by decide +kernel
theorem dX0_init_33 : decode cX0_init 33 = .ok (.invokespecial 21, 3) := by decide +kernel
theorem dX0_init_36 : decode cX0_init 36 = .ok (.aastore, 1) := by decide +kernel
theorem dX0_init_37 : decode cX0_init 37 = .ok (.iinc 1 1, 3) := by decide +kernel
theorem dX0_init_40 : decode cX0_init 40 = .ok (.goto (-21), 3) := by decide +kernel
theorem dX0_init_43 : decode cX0_init 43 = .ok (.return_, 1) := by decide +kernel
set_option maxRecDepth 20000 in
theorem ggX0_remember_X0_dropOldest : GoodIn wsX0_remember wsX0_dropOldest := goodIn_r _ [7, 2, 1, 22, 23] (by decide +kernel) (by decide +kernel)
set_option maxRecDepth 20000 in
theorem gX0_remember_X0_dropOldest : GoodIn wsX0_remember (wsV RX0 22 RX0 yX0_dropOldest wsX0_dropOldest) := goodIn_app (goodIn_of _ (by decide +kernel)) ggX0_remember_X0_dropOldest
set_option maxRecDepth 20000 in
theorem ggX0_remember_X1_copyFrom : GoodIn wsX0_remember wsX1_copyFrom := goodIn_r _ [12, 13, 14, 15, 16, 17, 18, 19, 20, 21, 24, 25, 26, 27, 28] (by decide +kernel) (by decide +kernel)
set_option maxRecDepth 20000 in
theorem gX0_remember_X1_copyFrom : GoodIn wsX0_remember (wsV RX0 25 RX1 yX1_copyFrom wsX1_copyFrom) := goodIn_app (goodIn_of _ (by decide +kernel)) ggX0_remember_X1_copyFrom
theorem dX0_remember_0 : decode cX0_remember 0 = .ok (.aload_n 0, 1) := by decide +kernel
theorem dX0_remember_1 : decode cX0_remember 1 = .ok (.getfield 9, 3) := by decide +kernel
theorem dX0_remember_4 : decode cX0_remember 4 = .ok (.iconst 5, 1) := by decide +kernel
theorem dX0_remember_5 : decode cX0_remember 5 = .ok (.if_icmp .lt 7, 3) := by decide +kernel
theorem dX0_remember_8 : decode cX0_remember 8 = .ok (.aload_n 0, 1) := by decide +kernel
theorem dX0_remember_9 : decode cX0_remember 9 = .ok (.invokevirtual 22, 3) := by decide +kernel
theorem dX0_remember_12 : decode cX0_remember 12 = .ok (.aload_n 0, 1) := by decide +kernel
theorem dX0_remember_13 : decode cX0_remember 13 = .ok (.getfield 17, 3) := by decide +kernel
theorem dX0_remember_16 : decode cX0_remember 16 = .ok (.aload_n 0, 1) := by decide +kernel
theorem dX0_remember_17 : decode cX0_remember 17 = .ok (.getfield 9, 3) := by decide +kernel
theorem dX0_remember_20 : decode cX0_remember 20 = .ok (.aaload, 1) := by decide +kernel
theorem dX0_remember_21 : decode cX0_remember 21 = .ok (.aload_n 1, 1) := by decide +kernel
theorem dX0_remember_22 : decode cX0_remember 22 = .ok (.invokevirtual 25, 3) := by decide +kernel
theorem dX0_remember_25 : decode cX0_remember 25 = .ok (.aload_n 0, 1) := by decide +kernel
theorem dX0_remember_26 : decode cX0_remember 26 = .ok (.dup, 1) := by decide +kernel
theorem dX0_remember_27 : decode cX0_remember 27 = .ok (.getfield 9, 3) := by decide +kernel
theorem dX0_remember_30 : decode cX0_remember 30 = .ok (.iconst 1, 1) := by decide +kernel
theorem dX0_remember_31 : decode cX0_remember 31 = .ok (.iadd, 1) := by decide +kernel
theorem dX0_remember_32 : decode cX0_remember 32 = .ok (.putfield 9, 3) := by decide +kernel
theorem dX0_remember_35 : decode cX0_remember 35 = .ok (.return_, 1) := by decide +kernel
theorem dX0_dropOldest_0 : decode cX0_dropOldest 0 = .ok (.aload_n 0, 1) := by decide +kernel
theorem dX0_dropOldest_1 : decode cX0_dropOldest 1 = .ok (.getfield 17, 3) := by decide +kernel
theorem dX0_dropOldest_4 : decode cX0_dropOldest 4 = .ok (.iconst 0, 1) := by decide +kernel
theorem dX0_dropOldest_5 : decode cX0_dropOldest 5 = .ok (.aaload, 1) := by decide +kernel
theorem dX0_dropOldest_6 : decode cX0_dropOldest 6 = .ok (.astore_n 1, 1) := by decide +kernel
theorem dX0_dropOldest_7 : decode cX0_dropOldest 7 = .ok (.iconst 1, 1) := by decide +kernel
theorem dX0_dropOldest_8 : decode cX0_dropOldest 8 = .ok (.istore_n 2, 1) := by decide +kernel
theorem dX0_dropOldest_9 : decode cX0_dropOldest 9 = .ok (.iload_n 2, 1) := by decide +kernel
theorem dX0_dropOldest_10 : decode cX0_dropOldest 10 = .ok (.iconst 5, 1) := by decide +kernel
theorem dX0_dropOldest_11 : decode cX0_dropOldest 11 = .ok (.if_icmp .ge 23, 3) := by decide +kernel
theorem dX0_dropOldest_14 : decode cX0_dropOldest 14 = .ok (.aload_n 0, 1) := by decide +kernel
theorem dX0_dropOldest_15 : decode cX0_dropOldest 15 = .ok (.getfield 17, 3) := by decide +kernel
theorem dX0_dropOldest_18 : decode cX0_dropOldest 18 = .ok (.iload_n 2, 1) := by decide +kernel
theorem dX0_dropOldest_19 : decode cX0_dropOldest 19 = .ok (.iconst 1, 1) := by decide +kernel
theorem dX0_dropOldest_20 : decode cX0_dropOldest 20 = .ok (.isub, 1) := by decide +kernel
theorem dX0_dropOldest_21 : decode cX0_dropOldest 21 = .ok (.aload_n 0, 1) := by decide +kernel
theorem dX0_dropOldest_22 : decode cX0_dropOldest 22 = .ok (.getfield 17, 3) := by decide +kernel
theorem dX0_dropOldest_25 : decode cX0_dropOldest 25 = .ok (.iload_n 2, 1) := by decide +kernel
theorem dX0_dropOldest_26 : decode cX0_dropOldest 26 = .ok (.aaload, 1) := by decide +kernel
theorem dX0_dropOldest_27 : decode cX0_dropOldest 27 = .ok (.aastore, 1) := by decide +kernel
theorem dX0_dropOldest_28 : decode cX0_dropOldest 28 = .ok (.iinc 2 1, 3) := by decide +kernel
theorem dX0_dropOldest_31 : decode cX0_dropOldest 31 = .ok (.goto (-22), 3) := by decide +kernel
theorem dX0_dropOldest_34 : decode cX0_dropOldest 34 = .ok (.aload_n 0, 1) := by decide +kernel
theorem dX0_dropOldest_35 : decode cX0_dropOldest 35 = .ok (.getfield 17, 3) := by decide +kernel
theorem dX0_dropOldest_38 : decode cX0_dropOldest 38 = .ok (.iconst 4, 1) := by decide +kernel
theorem dX0_dropOldest_39 : decode cX0_dropOldest 39 = .ok (.aload_n 1, 1) := by decide +kernel
theorem dX0_dropOldest_40 : decode cX0_dropOldest 40 = .ok (.aastore, 1) := by decide +kernel
theorem dX0_dropOldest_41 : decode cX0_dropOldest 41 = .ok (.aload_n 0, 1) := by decide +kernel
theorem dX0_dropOldest_42 : decode cX0_dropOldest 42 = .ok (.dup, 1) := by decide +kernel
theorem dX0_dropOldest_43 : decode cX0_dropOldest 43 = .ok (.getfield 9, 3) := by decide +kernel
theorem dX0_dropOldest_46 : decode cX0_dropOldest 46 = .ok (.iconst 1, 1) := by decide +kernel
theorem dX0_dropOldest_47 : decode cX0_dropOldest 47 = .ok (.isub, 1) := by decide +kernel
theorem dX0_dropOldest_48 : decode cX0_dropOldest 48 = .ok (.putfield 9, 3) := by decide +kernel
theorem dX0_dropOldest_51 : decode cX0_dropOldest 51 = .ok (.return_, 1) := by decide +kernel
theorem dX0_takeLatest_0 : decode cX0_takeLatest 0 = .ok (.aload_n 0, 1) := by decide +kernel
theorem dX0_takeLatest_1 : decode cX0_takeLatest 1 = .ok (.dup, 1) := by decide +kernel
theorem dX0_takeLatest_2 : decode cX0_takeLatest 2 = .ok (.getfield 9, 3) := by decide +kernel
theorem dX0_takeLatest_5 : decode cX0_takeLatest 5 = .ok (.iconst 1, 1) := by decide +kernel
theorem dX0_takeLatest_6 : decode cX0_takeLatest 6 = .ok (.isub, 1) := by decide +kernel
theorem dX0_takeLatest_7 : decode cX0_takeLatest 7 = .ok (.putfield 9, 3) := by decide +kernel
theorem dX0_takeLatest_10 : decode cX0_takeLatest 10 = .ok (.aload_n 0, 1) := by decide +kernel
theorem dX0_takeLatest_11 : decode cX0_takeLatest 11 = .ok (.getfield 17, 3) := by decide +kernel
theorem dX0_takeLatest_14 : decode cX0_takeLatest 14 = .ok (.aload_n 0, 1) := by decide +kernel
theorem dX0_takeLatest_15 : decode cX0_takeLatest 15 = .ok (.getfield 9, 3) := by decide +kernel
theorem dX0_takeLatest_18 : decode cX0_takeLatest 18 = .ok (.aaload, 1) := by decide +kernel
theorem dX0_takeLatest_19 : decode cX0_takeLatest 19 = .ok (.areturn, 1) := by decide +kernel
set_option maxRecDepth 20000 in
theorem ggX3_init_X1_init : GoodIn wsX3_init wsX1_init := goodIn_r _ [14, 15, 2, 3, 16, 17, 18, 19, 20, 21, 22, 23, 24, 6, 25, 26, 27, 28, 29, 41, 42, 43, 44, 45] (by decide +kernel) (by decide +kernel)
set_option maxRecDepth 20000 in
theorem gX3_init_X1_init : GoodIn wsX3_init (wsX1_init) := ggX3_init_X1_init
set_option maxRecDepth 20000 in
theorem ggX3_init_X2_init : GoodIn wsX3_init wsX2_init := goodIn_r _ [32, 33, 2, 3, 17, 34, 35, 36, 37, 38, 10, 39, 40, 27, 28, 29, 48, 49] (by decide +kernel) (by decide +kernel)
set_option maxRecDepth 20000 in
theorem gX3_init_X2_init : GoodIn wsX3_init (wsX2_init) := ggX3_init_X2_init
theorem dX3_init_0 : decode cX3_init 0 = .ok (.aload_n 0, 1) := by decide +kernel
theorem dX3_init_1 : decode cX3_init 1 = .ok (.invokespecial 3, 3) := by decide +kernel
theorem dX3_init_4 : decode cX3_init 4 = .ok (.aload_n 0, 1) := by decide +kernel
theorem dX3_init_5 : decode cX3_init 5 = .ok (.new 9, 3) := by decide +kernel
theorem dX3_init_8 : decode cX3_init 8 = .ok (.dup, 1) := by decide +kernel
theorem dX3_init_9 : decode cX3_init 9 = .ok (.invokespecial 11, 3) := by decide +kernel
theorem dX3_init_12 : decode cX3_init 12 = .ok (.putfield 12, 3) := by decide +kernel
theorem dX3_init_15 : decode cX3_init 15 = .ok (.aload_n 0, 1) := by decide +kernel
theorem dX3_init_16 : decode cX3_init 16 = .ok (.new 18, 3) := by decide +kernel
theorem dX3_init_19 : decode cX3_init 19 = .ok (.dup, 1) := by decide +kernel
theorem dX3_init_20 : decode cX3_init 20 = .ok (.invokespecial 20, 3) := by decide +kernel
theorem dX3_init_23 : decode cX3_init 23 = .ok (.putfield 21, 3) := by decide +kernel
theorem dX3_init_26 : decode cX3_init 26 = .ok (.return_, 1) := by decide +kernel
set_option maxRecDepth 20000 in
theorem ggX3_restore_X1_copyFrom : GoodIn wsX3_restore wsX1_copyFrom := goodIn_r _ [8, 9, 10, 11, 12, 13, 14, 15, 16, 17, 54, 55, 56, 57, 58] (by decide +kernel) (by decide +kernel)
set_option maxRecDepth 20000 in
theorem gX3_restore_X1_copyFrom : GoodIn wsX3_restore (wsV RX3 25 RX1 yX1_copyFrom wsX1_copyFrom) := goodIn_app (goodIn_of _ (by decide +kernel)) ggX3_restore_X1_copyFrom
set_option maxRecDepth 20000 in
theorem ggX3_restore_X2_emptyAll : GoodIn wsX3_restore wsX2_emptyAll := goodIn_r _ [22, 23, 24, 25, 26, 27, 28, 59, 60] (by decide +kernel) (by decide +kernel)
set_option maxRecDepth 20000 in
theorem gX3_restore_X2_emptyAll : GoodIn wsX3_restore (wsV RX3 29 RX2 yX2_emptyAll wsX2_emptyAll) := goodIn_app (goodIn_of _ (by decide +kernel)) ggX3_restore_X2_emptyAll
set_option maxRecDepth 20000 in
theorem ggX3_restore_X3_fillCellsOf : GoodIn wsX3_restore wsX3_fillCellsOf := goodIn_r _ [33, 1, 34, 2, 35, 36, 37, 7, 38, 17, 39, 40, 41, 42, 10, 43, 44, 45, 46, 15, 47, 48, 49, 50, 21, 51, 23, 24, 52, 53, 54, 55, 56, 57, 58, 59, 60] (by decide +kernel) (by decide +kernel)
set_option maxRecDepth 20000 in
theorem gX3_restore_X3_fillCellsOf : GoodIn wsX3_restore (wsV RX3 36 RX3 yX3_fillCellsOf wsX3_fillCellsOf) := goodIn_app (goodIn_of _ (by decide +kernel)) ggX3_restore_X3_fillCellsOf
theorem dX3_restore_0 : decode cX3_restore 0 = .ok (.aload_n 0, 1) := by decide +kernel
theorem dX3_restore_1 : decode cX3_restore 1 = .ok (.getfield 12, 3) := by decide +kernel
theorem dX3_restore_4 : decode cX3_restore 4 = .ok (.aload_n 1, 1) := by decide +kernel
theorem dX3_restore_5 : decode cX3_restore 5 = .ok (.invokevirtual 25, 3) := by decide +kernel
theorem dX3_restore_8 : decode cX3_restore 8 = .ok (.aload_n 0, 1) := by decide +kernel
theorem dX3_restore_9 : decode cX3_restore 9 = .ok (.getfield 21, 3) := by decide +kernel
theorem dX3_restore_12 : decode cX3_restore 12 = .ok (.invokevirtual 29, 3) := by decide +kernel
theorem dX3_restore_15 : decode cX3_restore 15 = .ok (.iconst 0, 1) := by decide +kernel
theorem dX3_restore_16 : decode cX3_restore 16 = .ok (.istore_n 2, 1) := by decide +kernel
theorem dX3_restore_17 : decode cX3_restore 17 = .ok (.iload_n 2, 1) := by decide +kernel
theorem dX3_restore_18 : decode cX3_restore 18 = .ok (.aload_n 0, 1) := by decide +kernel
theorem dX3_restore_19 : decode cX3_restore 19 = .ok (.getfield 12, 3) := by decide +kernel
theorem dX3_restore_22 : decode cX3_restore 22 = .ok (.getfield 32, 3) := by decide +kernel
theorem dX3_restore_25 : decode cX3_restore 25 = .ok (.if_icmp .ge 14, 3) := by decide +kernel
theorem dX3_restore_28 : decode cX3_restore 28 = .ok (.aload_n 0, 1) := by decide +kernel
theorem dX3_restore_29 : decode cX3_restore 29 = .ok (.iload_n 2, 1) := by decide +kernel
theorem dX3_restore_30 : decode cX3_restore 30 = .ok (.invokevirtual 36, 3) := by decide +kernel
theorem dX3_restore_33 : decode cX3_restore 33 = .ok (.iinc 2 1, 3) := by decide +kernel
theorem dX3_restore_36 : decode cX3_restore 36 = .ok (.goto (-19), 3) := by decide +kernel
theorem dX3_restore_39 : decode cX3_restore 39 = .ok (.return_, 1) := by decide +kernel
set_option maxRecDepth 20000 in
theorem ggX3_fillCellsOf_X1_shiftOf : GoodIn wsX3_fillCellsOf wsX1_shiftOf := goodIn_r _ [8, 9, 30, 31, 32, 33, 34] (by decide +kernel) (by decide +kernel)
set_option maxRecDepth 20000 in
theorem gX3_fillCellsOf_X1_shiftOf : GoodIn wsX3_fillCellsOf (wsV RX3 44 RX1 yX1_shiftOf wsX1_shiftOf) := goodIn_app (goodIn_of _ (by decide +kernel)) ggX3_fillCellsOf_X1_shiftOf
set_option maxRecDepth 20000 in
theorem ggX3_fillCellsOf_X1_isEntry : GoodIn wsX3_fillCellsOf wsX1_isEntry := goodIn_r _ [13, 14, 15, 16, 17, 7, 18, 19, 30, 31, 32, 33, 34] (by decide +kernel) (by decide +kernel)
set_option maxRecDepth 20000 in
theorem gX3_fillCellsOf_X1_isEntry : GoodIn wsX3_fillCellsOf (wsV RX3 48 RX1 yX1_isEntry wsX1_isEntry) := goodIn_app (goodIn_of _ (by decide +kernel)) ggX3_fillCellsOf_X1_isEntry
set_option maxRecDepth 20000 in
theorem ggX3_fillCellsOf_X1_valueAt : GoodIn wsX3_fillCellsOf wsX1_valueAt := goodIn_r _ [18, 19, 30, 31, 32, 33, 34] (by decide +kernel) (by decide +kernel)
set_option maxRecDepth 20000 in
theorem gX3_fillCellsOf_X1_valueAt : GoodIn wsX3_fillCellsOf (wsV RX3 52 RX1 yX1_valueAt wsX1_valueAt) := goodIn_app (goodIn_of _ (by decide +kernel)) ggX3_fillCellsOf_X1_valueAt
set_option maxRecDepth 20000 in
theorem ggX3_fillCellsOf_X2_fillCell : GoodIn wsX3_fillCellsOf wsX2_fillCell := goodIn_r _ [25, 26, 27, 35, 36] (by decide +kernel) (by decide +kernel)
set_option maxRecDepth 20000 in
theorem gX3_fillCellsOf_X2_fillCell : GoodIn wsX3_fillCellsOf (wsV RX3 56 RX2 yX2_fillCell wsX2_fillCell) := goodIn_app (goodIn_of _ (by decide +kernel)) ggX3_fillCellsOf_X2_fillCell
theorem dX3_fillCellsOf_0 : decode cX3_fillCellsOf 0 = .ok (.aload_n 0, 1) := by decide +kernel
theorem dX3_fillCellsOf_1 : decode cX3_fillCellsOf 1 = .ok (.getfield 12, 3) := by decide +kernel
theorem dX3_fillCellsOf_4 : decode cX3_fillCellsOf 4 = .ok (.getfield 40, 3) := by decide +kernel
theorem dX3_fillCellsOf_7 : decode cX3_fillCellsOf 7 = .ok (.iload_n 1, 1) := by decide +kernel
theorem dX3_fillCellsOf_8 : decode cX3_fillCellsOf 8 = .ok (.iaload, 1) := by decide +kernel
theorem dX3_fillCellsOf_9 : decode cX3_fillCellsOf 9 = .ok (.istore_n 2, 1) := by decide +kernel
theorem dX3_fillCellsOf_10 : decode cX3_fillCellsOf 10 = .ok (.aload_n 0, 1) := by decide +kernel
theorem dX3_fillCellsOf_11 : decode cX3_fillCellsOf 11 = .ok (.getfield 12, 3) := by decide +kernel
theorem dX3_fillCellsOf_14 : decode cX3_fillCellsOf 14 = .ok (.iload_n 2, 1) := by decide +kernel
theorem dX3_fillCellsOf_15 : decode cX3_fillCellsOf 15 = .ok (.invokevirtual 44, 3) := by decide +kernel
theorem dX3_fillCellsOf_18 : decode cX3_fillCellsOf 18 = .ok (.istore_n 3, 1) := by decide +kernel
theorem dX3_fillCellsOf_19 : decode cX3_fillCellsOf 19 = .ok (.iload_n 3, 1) := by decide +kernel
theorem dX3_fillCellsOf_20 : decode cX3_fillCellsOf 20 = .ok (.bipush (-9), 2) := by decide +kernel
theorem dX3_fillCellsOf_22 : decode cX3_fillCellsOf 22 = .ok (.if_icmp .ne 4, 3) := by decide +kernel
theorem dX3_fillCellsOf_25 : decode cX3_fillCellsOf 25 = .ok (.return_, 1) := by decide +kernel
theorem dX3_fillCellsOf_26 : decode cX3_fillCellsOf 26 = .ok (.iconst 0, 1) := by decide +kernel
theorem dX3_fillCellsOf_27 : decode cX3_fillCellsOf 27 = .ok (.istore 4, 2) := by decide +kernel
theorem dX3_fillCellsOf_29 : decode cX3_fillCellsOf 29 = .ok (.iload 4, 2) := by decide +kernel
theorem dX3_fillCellsOf_31 : decode cX3_fillCellsOf 31 = .ok (.bipush 16, 2) := by decide +kernel
theorem dX3_fillCellsOf_33 : decode cX3_fillCellsOf 33 = .ok (.if_icmp .ge 44, 3) := by decide +kernel
theorem dX3_fillCellsOf_36 : decode cX3_fillCellsOf 36 = .ok (.aload_n 0, 1) := by decide +kernel
theorem dX3_fillCellsOf_37 : decode cX3_fillCellsOf 37 = .ok (.getfield 12, 3) := by decide +kernel
theorem dX3_fillCellsOf_40 : decode cX3_fillCellsOf 40 = .ok (.iload_n 1, 1) := by decide +kernel
theorem dX3_fillCellsOf_41 : decode cX3_fillCellsOf 41 = .ok (.iload 4, 2) := by decide +kernel
theorem dX3_fillCellsOf_43 : decode cX3_fillCellsOf 43 = .ok (.invokevirtual 48, 3) := by decide +kernel
theorem dX3_fillCellsOf_46 : decode cX3_fillCellsOf 46 = .ok (.ifCond .eq 25, 3) := by decide +kernel
theorem dX3_fillCellsOf_49 : decode cX3_fillCellsOf 49 = .ok (.aload_n 0, 1) := by decide +kernel
theorem dX3_fillCellsOf_50 : decode cX3_fillCellsOf 50 = .ok (.getfield 21, 3) := by decide +kernel
theorem dX3_fillCellsOf_53 : decode cX3_fillCellsOf 53 = .ok (.iload_n 3, 1) := by decide +kernel
theorem dX3_fillCellsOf_54 : decode cX3_fillCellsOf 54 = .ok (.iload 4, 2) := by decide +kernel
theorem dX3_fillCellsOf_56 : decode cX3_fillCellsOf 56 = .ok (.iadd, 1) := by decide +kernel
theorem dX3_fillCellsOf_57 : decode cX3_fillCellsOf 57 = .ok (.aload_n 0, 1) := by decide +kernel
theorem dX3_fillCellsOf_58 : decode cX3_fillCellsOf 58 = .ok (.getfield 12, 3) := by decide +kernel
theorem dX3_fillCellsOf_61 : decode cX3_fillCellsOf 61 = .ok (.iload_n 1, 1) := by decide +kernel
theorem dX3_fillCellsOf_62 : decode cX3_fillCellsOf 62 = .ok (.iload 4, 2) := by decide +kernel
theorem dX3_fillCellsOf_64 : decode cX3_fillCellsOf 64 = .ok (.invokevirtual 52, 3) := by decide +kernel
theorem dX3_fillCellsOf_67 : decode cX3_fillCellsOf 67 = .ok (.iload_n 2, 1) := by decide +kernel
theorem dX3_fillCellsOf_68 : decode cX3_fillCellsOf 68 = .ok (.invokevirtual 56, 3) := by decide +kernel
theorem dX3_fillCellsOf_71 : decode cX3_fillCellsOf 71 = .ok (.iinc 4 1, 3) := by decide +kernel
theorem dX3_fillCellsOf_74 : decode cX3_fillCellsOf 74 = .ok (.goto (-45), 3) := by decide +kernel
theorem dX3_fillCellsOf_77 : decode cX3_fillCellsOf 77 = .ok (.return_, 1) := by decide +kernel
set_option maxRecDepth 20000 in
theorem ggX3_settle_X3_hasEntriesOf : GoodIn wsX3_settle wsX3_hasEntriesOf := goodIn_r _ [7, 1, 8, 9, 10, 11, 12, 13, 14, 15, 16, 17, 18, 19, 20, 21, 22, 23, 24, 25, 26, 27, 84, 85, 91, 92, 86, 87, 88, 89, 90] (by decide +kernel) (by decide +kernel)
set_option maxRecDepth 20000 in
theorem gX3_settle_X3_hasEntriesOf : GoodIn wsX3_settle (wsV RX3 60 RX3 yX3_hasEntriesOf wsX3_hasEntriesOf) := goodIn_app (goodIn_of _ (by decide +kernel)) ggX3_settle_X3_hasEntriesOf
set_option maxRecDepth 20000 in
theorem ggX3_settle_X3_leaveForm : GoodIn wsX3_settle wsX3_leaveForm := goodIn_r _ [31, 1, 2, 8, 32, 11, 12, 13, 14, 15, 16, 33, 34, 35, 36, 37, 38, 39, 40, 41, 42, 43, 44, 45, 46, 47, 48, 49, 84, 85, 86, 87, 88, 89, 90, 91, 92] (by decide +kernel) (by decide +kernel)
set_option maxRecDepth 20000 in
theorem gX3_settle_X3_leaveForm : GoodIn wsX3_settle (wsV RX3 63 RX3 yX3_leaveForm wsX3_leaveForm) := goodIn_app (goodIn_of _ (by decide +kernel)) ggX3_settle_X3_leaveForm
set_option maxRecDepth 20000 in
theorem ggX3_settle_X1_columnsOf : GoodIn wsX3_settle wsX1_columnsOf := goodIn_r _ [53, 54, 18, 19, 14, 20, 21, 22, 23, 24, 25, 26, 86, 87, 88, 89, 90] (by decide +kernel) (by decide +kernel)
set_option maxRecDepth 20000 in
theorem gX3_settle_X1_columnsOf : GoodIn wsX3_settle (wsV RX3 66 RX1 yX1_columnsOf wsX1_columnsOf) := goodIn_app (goodIn_of _ (by decide +kernel)) ggX3_settle_X1_columnsOf
set_option maxRecDepth 20000 in
theorem ggX3_settle_X3_formWithEntriesOf : GoodIn wsX3_settle wsX3_formWithEntriesOf := goodIn_r _ [58, 3, 4, 5, 6, 7, 1, 8, 9, 10, 11, 12, 13, 14, 15, 16, 17, 18, 19, 20, 21, 22, 23, 24, 25, 26, 27, 84, 85, 91, 92, 86, 87, 88, 89, 90] (by decide +kernel) (by decide +kernel)
set_option maxRecDepth 20000 in
theorem gX3_settle_X3_formWithEntriesOf : GoodIn wsX3_settle (wsV RX3 69 RX3 yX3_formWithEntriesOf wsX3_formWithEntriesOf) := goodIn_app (goodIn_of _ (by decide +kernel)) ggX3_settle_X3_formWithEntriesOf
set_option maxRecDepth 20000 in
theorem ggX3_settle_X3_pushNewForm : GoodIn wsX3_settle wsX3_pushNewForm := goodIn_r _ [62, 1, 8, 2, 32, 63, 64, 65, 14, 66, 16, 67, 68, 69, 42, 70, 71, 72, 73, 74, 75, 76, 77, 78, 44, 79, 80, 81, 6, 82, 11, 12, 13, 15, 17, 18, 19, 20, 21, 22, 23, 24, 25, 26, 27, 83, 46, 47, 48, 49, 84, 85, 86, 87, 88, 89, 90, 91, 92] (by decide +kernel) (by decide +kernel)
set_option maxRecDepth 20000 in
theorem gX3_settle_X3_pushNewForm : GoodIn wsX3_settle (wsV RX3 72 RX3 yX3_pushNewForm wsX3_pushNewForm) := goodIn_app (goodIn_of _ (by decide +kernel)) ggX3_settle_X3_pushNewForm
theorem dX3_settle_0 : decode cX3_settle 0 = .ok (.aload_n 0, 1) := by decide +kernel
theorem dX3_settle_1 : decode cX3_settle 1 = .ok (.aload_n 0, 1) := by decide +kernel
theorem dX3_settle_2 : decode cX3_settle 2 = .ok (.getfield 12, 3) := by decide +kernel
theorem dX3_settle_5 : decode cX3_settle 5 = .ok (.getfield 40, 3) := by decide +kernel
theorem dX3_settle_8 : decode cX3_settle 8 = .ok (.iload_n 1, 1) := by decide +kernel
theorem dX3_settle_9 : decode cX3_settle 9 = .ok (.iaload, 1) := by decide +kernel
theorem dX3_settle_10 : decode cX3_settle 10 = .ok (.iload_n 1, 1) := by decide +kernel
theorem dX3_settle_11 : decode cX3_settle 11 = .ok (.invokevirtual 60, 3) := by decide +kernel
theorem dX3_settle_14 : decode cX3_settle 14 = .ok (.ifCond .eq 4, 3) := by decide +kernel
theorem dX3_settle_17 : decode cX3_settle 17 = .ok (.return_, 1) := by decide +kernel
theorem dX3_settle_18 : decode cX3_settle 18 = .ok (.aload_n 0, 1) := by decide +kernel
theorem dX3_settle_19 : decode cX3_settle 19 = .ok (.iload_n 1, 1) := by decide +kernel
theorem dX3_settle_20 : decode cX3_settle 20 = .ok (.invokevirtual 63, 3) := by decide +kernel
theorem dX3_settle_23 : decode cX3_settle 23 = .ok (.aload_n 0, 1) := by decide +kernel
theorem dX3_settle_24 : decode cX3_settle 24 = .ok (.getfield 12, 3) := by decide +kernel
theorem dX3_settle_27 : decode cX3_settle 27 = .ok (.iload_n 1, 1) := by decide +kernel
theorem dX3_settle_28 : decode cX3_settle 28 = .ok (.invokevirtual 66, 3) := by decide +kernel
theorem dX3_settle_31 : decode cX3_settle 31 = .ok (.istore_n 2, 1) := by decide +kernel
theorem dX3_settle_32 : decode cX3_settle 32 = .ok (.iload_n 2, 1) := by decide +kernel
theorem dX3_settle_33 : decode cX3_settle 33 = .ok (.ifCond .ne 4, 3) := by decide +kernel
theorem dX3_settle_36 : decode cX3_settle 36 = .ok (.return_, 1) := by decide +kernel
theorem dX3_settle_37 : decode cX3_settle 37 = .ok (.aload_n 0, 1) := by decide +kernel
theorem dX3_settle_38 : decode cX3_settle 38 = .ok (.getfield 12, 3) := by decide +kernel
theorem dX3_settle_41 : decode cX3_settle 41 = .ok (.getfield 40, 3) := by decide +kernel
theorem dX3_settle_44 : decode cX3_settle 44 = .ok (.iload_n 1, 1) := by decide +kernel
theorem dX3_settle_45 : decode cX3_settle 45 = .ok (.aload_n 0, 1) := by decide +kernel
theorem dX3_settle_46 : decode cX3_settle 46 = .ok (.iload_n 1, 1) := by decide +kernel
theorem dX3_settle_47 : decode cX3_settle 47 = .ok (.invokevirtual 69, 3) := by decide +kernel
theorem dX3_settle_50 : decode cX3_settle 50 = .ok (.iastore, 1) := by decide +kernel
theorem dX3_settle_51 : decode cX3_settle 51 = .ok (.aload_n 0, 1) := by decide +kernel
theorem dX3_settle_52 : decode cX3_settle 52 = .ok (.getfield 12, 3) := by decide +kernel
theorem dX3_settle_55 : decode cX3_settle 55 = .ok (.getfield 40, 3) := by decide +kernel
theorem dX3_settle_58 : decode cX3_settle 58 = .ok (.iload_n 1, 1) := by decide +kernel
theorem dX3_settle_59 : decode cX3_settle 59 = .ok (.iaload, 1) := by decide +kernel
theorem dX3_settle_60 : decode cX3_settle 60 = .ok (.bipush (-9), 2) := by decide +kernel
theorem dX3_settle_62 : decode cX3_settle 62 = .ok (.if_icmp .ne 9, 3) := by decide +kernel
theorem dX3_settle_65 : decode cX3_settle 65 = .ok (.aload_n 0, 1) := by decide +kernel
theorem dX3_settle_66 : decode cX3_settle 66 = .ok (.iload_n 1, 1) := by decide +kernel
theorem dX3_settle_67 : decode cX3_settle 67 = .ok (.iload_n 2, 1) := by decide +kernel
theorem dX3_settle_68 : decode cX3_settle 68 = .ok (.invokevirtual 72, 3) := by decide +kernel
theorem dX3_settle_71 : decode cX3_settle 71 = .ok (.return_, 1) := by decide +kernel
set_option maxRecDepth 20000 in
theorem ggX3_leaveForm_X1_shiftOf : GoodIn wsX3_leaveForm wsX1_shiftOf := goodIn_r _ [9, 10, 30, 31, 32, 33, 34] (by decide +kernel) (by decide +kernel)
set_option maxRecDepth 20000 in
theorem gX3_leaveForm_X1_shiftOf : GoodIn wsX3_leaveForm (wsV RX3 44 RX1 yX1_shiftOf wsX1_shiftOf) := goodIn_app (goodIn_of _ (by decide +kernel)) ggX3_leaveForm_X1_shiftOf
set_option maxRecDepth 20000 in
theorem ggX3_leaveForm_X1_sharersOf : GoodIn wsX3_leaveForm wsX1_sharersOf := goodIn_r _ [14, 15, 16, 30, 31, 32, 33, 34] (by decide +kernel) (by decide +kernel)
set_option maxRecDepth 20000 in
theorem gX3_leaveForm_X1_sharersOf : GoodIn wsX3_leaveForm (wsV RX3 76 RX1 yX1_sharersOf wsX1_sharersOf) := goodIn_app (goodIn_of _ (by decide +kernel)) ggX3_leaveForm_X1_sharersOf
set_option maxRecDepth 20000 in
theorem ggX3_leaveForm_X2_takeOut : GoodIn wsX3_leaveForm wsX2_takeOut := goodIn_r _ [21, 22, 23, 24, 25, 20, 26, 27, 35, 36] (by decide +kernel) (by decide +kernel)
set_option maxRecDepth 20000 in
theorem gX3_leaveForm_X2_takeOut : GoodIn wsX3_leaveForm (wsV RX3 79 RX2 yX2_takeOut wsX2_takeOut) := goodIn_app (goodIn_of _ (by decide +kernel)) ggX3_leaveForm_X2_takeOut
theorem dX3_leaveForm_0 : decode cX3_leaveForm 0 = .ok (.aload_n 0, 1) := by decide +kernel
theorem dX3_leaveForm_1 : decode cX3_leaveForm 1 = .ok (.getfield 12, 3) := by decide +kernel
theorem dX3_leaveForm_4 : decode cX3_leaveForm 4 = .ok (.getfield 40, 3) := by decide +kernel
theorem dX3_leaveForm_7 : decode cX3_leaveForm 7 = .ok (.iload_n 1, 1) := by decide +kernel
theorem dX3_leaveForm_8 : decode cX3_leaveForm 8 = .ok (.iaload, 1) := by decide +kernel
theorem dX3_leaveForm_9 : decode cX3_leaveForm 9 = .ok (.istore_n 2, 1) := by decide +kernel
theorem dX3_leaveForm_10 : decode cX3_leaveForm 10 = .ok (.aload_n 0, 1) := by decide +kernel
theorem dX3_leaveForm_11 : decode cX3_leaveForm 11 = .ok (.getfield 12, 3) := by decide +kernel
theorem dX3_leaveForm_14 : decode cX3_leaveForm 14 = .ok (.iload_n 2, 1) := by decide +kernel
theorem dX3_leaveForm_15 : decode cX3_leaveForm 15 = .ok (.invokevirtual 44, 3) := by decide +kernel
theorem dX3_leaveForm_18 : decode cX3_leaveForm 18 = .ok (.istore_n 3, 1) := by decide +kernel
theorem dX3_leaveForm_19 : decode cX3_leaveForm 19 = .ok (.aload_n 0, 1) := by decide +kernel
theorem dX3_leaveForm_20 : decode cX3_leaveForm 20 = .ok (.getfield 12, 3) := by decide +kernel
theorem dX3_leaveForm_23 : decode cX3_leaveForm 23 = .ok (.getfield 40, 3) := by decide +kernel
theorem dX3_leaveForm_26 : decode cX3_leaveForm 26 = .ok (.iload_n 1, 1) := by decide +kernel
theorem dX3_leaveForm_27 : decode cX3_leaveForm 27 = .ok (.bipush (-9), 2) := by decide +kernel
theorem dX3_leaveForm_29 : decode cX3_leaveForm 29 = .ok (.iastore, 1) := by decide +kernel
theorem dX3_leaveForm_30 : decode cX3_leaveForm 30 = .ok (.iload_n 3, 1) := by decide +kernel
theorem dX3_leaveForm_31 : decode cX3_leaveForm 31 = .ok (.bipush (-9), 2) := by decide +kernel
theorem dX3_leaveForm_33 : decode cX3_leaveForm 33 = .ok (.if_icmp .eq 34, 3) := by decide +kernel
theorem dX3_leaveForm_36 : decode cX3_leaveForm 36 = .ok (.aload_n 0, 1) := by decide +kernel
theorem dX3_leaveForm_37 : decode cX3_leaveForm 37 = .ok (.getfield 12, 3) := by decide +kernel
theorem dX3_leaveForm_40 : decode cX3_leaveForm 40 = .ok (.iload_n 2, 1) := by decide +kernel
theorem dX3_leaveForm_41 : decode cX3_leaveForm 41 = .ok (.invokevirtual 76, 3) := by decide +kernel
theorem dX3_leaveForm_44 : decode cX3_leaveForm 44 = .ok (.ifCond .ne 23, 3) := by decide +kernel
theorem dX3_leaveForm_47 : decode cX3_leaveForm 47 = .ok (.aload_n 0, 1) := by decide +kernel
theorem dX3_leaveForm_48 : decode cX3_leaveForm 48 = .ok (.getfield 21, 3) := by decide +kernel
theorem dX3_leaveForm_51 : decode cX3_leaveForm 51 = .ok (.iload_n 2, 1) := by decide +kernel
theorem dX3_leaveForm_52 : decode cX3_leaveForm 52 = .ok (.iload_n 3, 1) := by decide +kernel
theorem dX3_leaveForm_53 : decode cX3_leaveForm 53 = .ok (.invokevirtual 79, 3) := by decide +kernel
theorem dX3_leaveForm_56 : decode cX3_leaveForm 56 = .ok (.aload_n 0, 1) := by decide +kernel
theorem dX3_leaveForm_57 : decode cX3_leaveForm 57 = .ok (.getfield 12, 3) := by decide +kernel
theorem dX3_leaveForm_60 : decode cX3_leaveForm 60 = .ok (.getfield 82, 3) := by decide +kernel
theorem dX3_leaveForm_63 : decode cX3_leaveForm 63 = .ok (.iload_n 2, 1) := by decide +kernel
theorem dX3_leaveForm_64 : decode cX3_leaveForm 64 = .ok (.bipush (-9), 2) := by decide +kernel
theorem dX3_leaveForm_66 : decode cX3_leaveForm 66 = .ok (.iastore, 1) := by decide +kernel
theorem dX3_leaveForm_67 : decode cX3_leaveForm 67 = .ok (.return_, 1) := by decide +kernel
set_option maxRecDepth 20000 in
theorem ggX3_formWithEntriesOf_X3_hasEntriesOf : GoodIn wsX3_formWithEntriesOf wsX3_hasEntriesOf := goodIn_r _ [5, 6, 7, 8, 9, 10, 11, 12, 13, 14, 15, 16, 17, 18, 19, 20, 21, 22, 23, 24, 25, 26, 27, 28, 29, 30, 31, 32, 33, 34, 35] (by decide +kernel) (by decide +kernel)
set_option maxRecDepth 20000 in
theorem gX3_formWithEntriesOf_X3_hasEntriesOf : GoodIn wsX3_formWithEntriesOf (wsV RX3 60 RX3 yX3_hasEntriesOf wsX3_hasEntriesOf) := goodIn_app (goodIn_of _ (by decide +kernel)) ggX3_formWithEntriesOf_X3_hasEntriesOf
theorem dX3_formWithEntriesOf_0 : decode cX3_formWithEntriesOf 0 = .ok (.iconst 0, 1) := by decide +kernel
theorem dX3_formWithEntriesOf_1 : decode cX3_formWithEntriesOf 1 = .ok (.istore_n 2, 1) := by decide +kernel
theorem dX3_formWithEntriesOf_2 : decode cX3_formWithEntriesOf 2 = .ok (.iload_n 2, 1) := by decide +kernel
theorem dX3_formWithEntriesOf_3 : decode cX3_formWithEntriesOf 3 = .ok (.bipush 24, 2) := by decide +kernel
theorem dX3_formWithEntriesOf_5 : decode cX3_formWithEntriesOf 5 = .ok (.if_icmp .ge 20, 3) := by decide +kernel
theorem dX3_formWithEntriesOf_8 : decode cX3_formWithEntriesOf 8 = .ok (.aload_n 0, 1) := by decide +kernel
theorem dX3_formWithEntriesOf_9 : decode cX3_formWithEntriesOf 9 = .ok (.iload_n 2, 1) := by decide +kernel
theorem dX3_formWithEntriesOf_10 : decode cX3_formWithEntriesOf 10 = .ok (.iload_n 1, 1) := by decide +kernel
theorem dX3_formWithEntriesOf_11 : decode cX3_formWithEntriesOf 11 = .ok (.invokevirtual 60, 3) := by decide +kernel
theorem dX3_formWithEntriesOf_14 : decode cX3_formWithEntriesOf 14 = .ok (.ifCond .eq 5, 3) := by decide +kernel
theorem dX3_formWithEntriesOf_17 : decode cX3_formWithEntriesOf 17 = .ok (.iload_n 2, 1) := by decide +kernel
theorem dX3_formWithEntriesOf_18 : decode cX3_formWithEntriesOf 18 = .ok (.ireturn, 1) := by decide +kernel
theorem dX3_formWithEntriesOf_19 : decode cX3_formWithEntriesOf 19 = .ok (.iinc 2 1, 3) := by decide +kernel
theorem dX3_formWithEntriesOf_22 : decode cX3_formWithEntriesOf 22 = .ok (.goto (-20), 3) := by decide +kernel
theorem dX3_formWithEntriesOf_25 : decode cX3_formWithEntriesOf 25 = .ok (.bipush (-9), 2) := by decide +kernel
theorem dX3_formWithEntriesOf_27 : decode cX3_formWithEntriesOf 27 = .ok (.ireturn, 1) := by decide +kernel
set_option maxRecDepth 20000 in
theorem ggX3_hasEntriesOf_X1_shiftOf : GoodIn wsX3_hasEntriesOf wsX1_shiftOf := goodIn_r _ [9, 10, 26, 27, 28, 29, 30] (by decide +kernel) (by decide +kernel)
set_option maxRecDepth 20000 in
theorem gX3_hasEntriesOf_X1_shiftOf : GoodIn wsX3_hasEntriesOf (wsV RX3 44 RX1 yX1_shiftOf wsX1_shiftOf) := goodIn_app (goodIn_of _ (by decide +kernel)) ggX3_hasEntriesOf_X1_shiftOf
set_option maxRecDepth 20000 in
theorem ggX3_hasEntriesOf_X1_isEntry : GoodIn wsX3_hasEntriesOf wsX1_isEntry := goodIn_r _ [14, 15, 16, 17, 18, 8, 19, 20, 26, 27, 28, 29, 30] (by decide +kernel) (by decide +kernel)
set_option maxRecDepth 20000 in
theorem gX3_hasEntriesOf_X1_isEntry : GoodIn wsX3_hasEntriesOf (wsV RX3 48 RX1 yX1_isEntry wsX1_isEntry) := goodIn_app (goodIn_of _ (by decide +kernel)) ggX3_hasEntriesOf_X1_isEntry
set_option maxRecDepth 20000 in
theorem ggX3_hasEntriesOf_X1_valueAt : GoodIn wsX3_hasEntriesOf wsX1_valueAt := goodIn_r _ [19, 20, 26, 27, 28, 29, 30] (by decide +kernel) (by decide +kernel)
set_option maxRecDepth 20000 in
theorem gX3_hasEntriesOf_X1_valueAt : GoodIn wsX3_hasEntriesOf (wsV RX3 52 RX1 yX1_valueAt wsX1_valueAt) := goodIn_app (goodIn_of _ (by decide +kernel)) ggX3_hasEntriesOf_X1_valueAt
theorem dX3_hasEntriesOf_0 : decode cX3_hasEntriesOf 0 = .ok (.aload_n 0, 1) := by decide +kernel
theorem dX3_hasEntriesOf_1 : decode cX3_hasEntriesOf 1 = .ok (.getfield 12, 3) := by decide +kernel
theorem dX3_hasEntriesOf_4 : decode cX3_hasEntriesOf 4 = .ok (.iload_n 1, 1) := by decide +kernel
theorem dX3_hasEntriesOf_5 : decode cX3_hasEntriesOf 5 = .ok (.invokevirtual 44, 3) := by decide +kernel
theorem dX3_hasEntriesOf_8 : decode cX3_hasEntriesOf 8 = .ok (.istore_n 3, 1) := by decide +kernel
theorem dX3_hasEntriesOf_9 : decode cX3_hasEntriesOf 9 = .ok (.iload_n 3, 1) := by decide +kernel
theorem dX3_hasEntriesOf_10 : decode cX3_hasEntriesOf 10 = .ok (.bipush (-9), 2) := by decide +kernel
theorem dX3_hasEntriesOf_12 : decode cX3_hasEntriesOf 12 = .ok (.if_icmp .ne 5, 3) := by decide +kernel
theorem dX3_hasEntriesOf_15 : decode cX3_hasEntriesOf 15 = .ok (.iconst 0, 1) := by decide +kernel
theorem dX3_hasEntriesOf_16 : decode cX3_hasEntriesOf 16 = .ok (.ireturn, 1) := by decide +kernel
theorem dX3_hasEntriesOf_17 : decode cX3_hasEntriesOf 17 = .ok (.iconst 0, 1) := by decide +kernel
theorem dX3_hasEntriesOf_18 : decode cX3_hasEntriesOf 18 = .ok (.istore 4, 2) := by decide +kernel
theorem dX3_hasEntriesOf_20 : decode cX3_hasEntriesOf 20 = .ok (.iload 4, 2) := by decide +kernel
theorem dX3_hasEntriesOf_22 : decode cX3_hasEntriesOf 22 = .ok (.bipush 16, 2) := by decide +kernel
theorem dX3_hasEntriesOf_24 : decode cX3_hasEntriesOf 24 = .ok (.if_icmp .ge 81, 3) := by decide +kernel
theorem dX3_hasEntriesOf_27 : decode cX3_hasEntriesOf 27 = .ok (.aload_n 0, 1) := by decide +kernel
theorem dX3_hasEntriesOf_28 : decode cX3_hasEntriesOf 28 = .ok (.getfield 21, 3) := by decide +kernel
theorem dX3_hasEntriesOf_31 : decode cX3_hasEntriesOf 31 = .ok (.getfield 85, 3) := by decide +kernel
theorem dX3_hasEntriesOf_34 : decode cX3_hasEntriesOf 34 = .ok (.iload_n 3, 1) := by decide +kernel
theorem dX3_hasEntriesOf_35 : decode cX3_hasEntriesOf 35 = .ok (.iload 4, 2) := by decide +kernel
theorem dX3_hasEntriesOf_37 : decode cX3_hasEntriesOf 37 = .ok (.iadd, 1) := by decide +kernel
theorem dX3_hasEntriesOf_38 : decode cX3_hasEntriesOf 38 = .ok (.iaload, 1) := by decide +kernel
theorem dX3_hasEntriesOf_39 : decode cX3_hasEntriesOf 39 = .ok (.iload_n 1, 1) := by decide +kernel
theorem dX3_hasEntriesOf_40 : decode cX3_hasEntriesOf 40 = .ok (.if_icmp .ne 7, 3) := by decide +kernel
theorem dX3_hasEntriesOf_43 : decode cX3_hasEntriesOf 43 = .ok (.iconst 1, 1) := by decide +kernel
theorem dX3_hasEntriesOf_44 : decode cX3_hasEntriesOf 44 = .ok (.goto 4, 3) := by decide +kernel
theorem dX3_hasEntriesOf_47 : decode cX3_hasEntriesOf 47 = .ok (.iconst 0, 1) := by decide +kernel
theorem dX3_hasEntriesOf_48 : decode cX3_hasEntriesOf 48 = .ok (.istore 5, 2) := by decide +kernel
theorem dX3_hasEntriesOf_50 : decode cX3_hasEntriesOf 50 = .ok (.iload 5, 2) := by decide +kernel
theorem dX3_hasEntriesOf_52 : decode cX3_hasEntriesOf 52 = .ok (.aload_n 0, 1) := by decide +kernel
theorem dX3_hasEntriesOf_53 : decode cX3_hasEntriesOf 53 = .ok (.getfield 12, 3) := by decide +kernel
theorem dX3_hasEntriesOf_56 : decode cX3_hasEntriesOf 56 = .ok (.iload_n 2, 1) := by decide +kernel
theorem dX3_hasEntriesOf_57 : decode cX3_hasEntriesOf 57 = .ok (.iload 4, 2) := by decide +kernel
theorem dX3_hasEntriesOf_59 : decode cX3_hasEntriesOf 59 = .ok (.invokevirtual 48, 3) := by decide +kernel
theorem dX3_hasEntriesOf_62 : decode cX3_hasEntriesOf 62 = .ok (.if_icmp .eq 5, 3) := by decide +kernel
theorem dX3_hasEntriesOf_65 : decode cX3_hasEntriesOf 65 = .ok (.iconst 0, 1) := by decide +kernel
theorem dX3_hasEntriesOf_66 : decode cX3_hasEntriesOf 66 = .ok (.ireturn, 1) := by decide +kernel
theorem dX3_hasEntriesOf_67 : decode cX3_hasEntriesOf 67 = .ok (.iload 5, 2) := by decide +kernel
theorem dX3_hasEntriesOf_69 : decode cX3_hasEntriesOf 69 = .ok (.ifCond .eq 30, 3) := by decide +kernel
theorem dX3_hasEntriesOf_72 : decode cX3_hasEntriesOf 72 = .ok (.aload_n 0, 1) := by decide +kernel
theorem dX3_hasEntriesOf_73 : decode cX3_hasEntriesOf 73 = .ok (.getfield 21, 3) := by decide +kernel
theorem dX3_hasEntriesOf_76 : decode cX3_hasEntriesOf 76 = .ok (.getfield 88, 3) := by decide +kernel
theorem dX3_hasEntriesOf_79 : decode cX3_hasEntriesOf 79 = .ok (.iload_n 3, 1) := by decide +kernel
theorem dX3_hasEntriesOf_80 : decode cX3_hasEntriesOf 80 = .ok (.iload 4, 2) := by decide +kernel
theorem dX3_hasEntriesOf_82 : decode cX3_hasEntriesOf 82 = .ok (.iadd, 1) := by decide +kernel
theorem dX3_hasEntriesOf_83 : decode cX3_hasEntriesOf 83 = .ok (.iaload, 1) := by decide +kernel
theorem dX3_hasEntriesOf_84 : decode cX3_hasEntriesOf 84 = .ok (.aload_n 0, 1) := by decide +kernel
theorem dX3_hasEntriesOf_85 : decode cX3_hasEntriesOf 85 = .ok (.getfield 12, 3) := by decide +kernel
theorem dX3_hasEntriesOf_88 : decode cX3_hasEntriesOf 88 = .ok (.iload_n 2, 1) := by decide +kernel
theorem dX3_hasEntriesOf_89 : decode cX3_hasEntriesOf 89 = .ok (.iload 4, 2) := by decide +kernel
theorem dX3_hasEntriesOf_91 : decode cX3_hasEntriesOf 91 = .ok (.invokevirtual 52, 3) := by decide +kernel
theorem dX3_hasEntriesOf_94 : decode cX3_hasEntriesOf 94 = .ok (.if_icmp .eq 5, 3) := by decide +kernel
theorem dX3_hasEntriesOf_97 : decode cX3_hasEntriesOf 97 = .ok (.iconst 0, 1) := by decide +kernel
theorem dX3_hasEntriesOf_98 : decode cX3_hasEntriesOf 98 = .ok (.ireturn, 1) := by decide +kernel
theorem dX3_hasEntriesOf_99 : decode cX3_hasEntriesOf 99 = .ok (.iinc 4 1, 3) := by decide +kernel
theorem dX3_hasEntriesOf_102 : decode cX3_hasEntriesOf 102 = .ok (.goto (-82), 3) := by decide +kernel
theorem dX3_hasEntriesOf_105 : decode cX3_hasEntriesOf 105 = .ok (.iconst 1, 1) := by decide +kernel
theorem dX3_hasEntriesOf_106 : decode cX3_hasEntriesOf 106 = .ok (.ireturn, 1) := by decide +kernel
set_option maxRecDepth 20000 in
theorem ggX3_pushNewForm_X1_freeForm : GoodIn wsX3_pushNewForm wsX1_freeForm := goodIn_r _ [9, 10, 52, 53, 54, 55, 56] (by decide +kernel) (by decide +kernel)
set_option maxRecDepth 20000 in
theorem gX3_pushNewForm_X1_freeForm : GoodIn wsX3_pushNewForm (wsV RX3 91 RX1 yX1_freeForm wsX1_freeForm) := goodIn_app (goodIn_of _ (by decide +kernel)) ggX3_pushNewForm_X1_freeForm
set_option maxRecDepth 20000 in
theorem ggX3_pushNewForm_X2_firstFit : GoodIn wsX3_pushNewForm wsX2_firstFit := goodIn_r _ [15, 16, 17, 18, 14, 19, 20, 21, 22, 23, 24, 57, 58] (by decide +kernel) (by decide +kernel)
set_option maxRecDepth 20000 in
theorem gX3_pushNewForm_X2_firstFit : GoodIn wsX3_pushNewForm (wsV RX3 95 RX2 yX2_firstFit wsX2_firstFit) := goodIn_app (goodIn_of _ (by decide +kernel)) ggX3_pushNewForm_X2_firstFit
set_option maxRecDepth 20000 in
theorem ggX3_pushNewForm_X3_fillCellsOf : GoodIn wsX3_pushNewForm wsX3_fillCellsOf := goodIn_r _ [29, 1, 3, 2, 30, 31, 32, 8, 33, 10, 34, 35, 36, 37, 38, 39, 40, 41, 42, 43, 44, 45, 46, 47, 14, 48, 49, 24, 50, 51, 52, 53, 54, 55, 56, 57, 58] (by decide +kernel) (by decide +kernel)
set_option maxRecDepth 20000 in
theorem gX3_pushNewForm_X3_fillCellsOf : GoodIn wsX3_pushNewForm (wsV RX3 36 RX3 yX3_fillCellsOf wsX3_fillCellsOf) := goodIn_app (goodIn_of _ (by decide +kernel)) ggX3_pushNewForm_X3_fillCellsOf
theorem dX3_pushNewForm_0 : decode cX3_pushNewForm 0 = .ok (.aload_n 0, 1) := by decide +kernel
theorem dX3_pushNewForm_1 : decode cX3_pushNewForm 1 = .ok (.getfield 12, 3) := by decide +kernel
theorem dX3_pushNewForm_4 : decode cX3_pushNewForm 4 = .ok (.invokevirtual 91, 3) := by decide +kernel
theorem dX3_pushNewForm_7 : decode cX3_pushNewForm 7 = .ok (.istore_n 3, 1) := by decide +kernel
theorem dX3_pushNewForm_8 : decode cX3_pushNewForm 8 = .ok (.aload_n 0, 1) := by decide +kernel
theorem dX3_pushNewForm_9 : decode cX3_pushNewForm 9 = .ok (.getfield 21, 3) := by decide +kernel
theorem dX3_pushNewForm_12 : decode cX3_pushNewForm 12 = .ok (.iload_n 2, 1) := by decide +kernel
theorem dX3_pushNewForm_13 : decode cX3_pushNewForm 13 = .ok (.invokevirtual 95, 3) := by decide +kernel
theorem dX3_pushNewForm_16 : decode cX3_pushNewForm 16 = .ok (.istore 4, 2) := by decide +kernel
theorem dX3_pushNewForm_18 : decode cX3_pushNewForm 18 = .ok (.iload_n 3, 1) := by decide +kernel
theorem dX3_pushNewForm_19 : decode cX3_pushNewForm 19 = .ok (.bipush (-9), 2) := by decide +kernel
theorem dX3_pushNewForm_21 : decode cX3_pushNewForm 21 = .ok (.if_icmp .eq 10, 3) := by decide +kernel
theorem dX3_pushNewForm_24 : decode cX3_pushNewForm 24 = .ok (.iload 4, 2) := by decide +kernel
theorem dX3_pushNewForm_26 : decode cX3_pushNewForm 26 = .ok (.bipush (-9), 2) := by decide +kernel
theorem dX3_pushNewForm_28 : decode cX3_pushNewForm 28 = .ok (.if_icmp .ne 4, 3) := by decide +kernel
theorem dX3_pushNewForm_31 : decode cX3_pushNewForm 31 = .ok (.return_, 1) := by decide +kernel
theorem dX3_pushNewForm_32 : decode cX3_pushNewForm 32 = .ok (.aload_n 0, 1) := by decide +kernel
theorem dX3_pushNewForm_33 : decode cX3_pushNewForm 33 = .ok (.getfield 12, 3) := by decide +kernel
theorem dX3_pushNewForm_36 : decode cX3_pushNewForm 36 = .ok (.getfield 40, 3) := by decide +kernel
theorem dX3_pushNewForm_39 : decode cX3_pushNewForm 39 = .ok (.iload_n 1, 1) := by decide +kernel
theorem dX3_pushNewForm_40 : decode cX3_pushNewForm 40 = .ok (.iload_n 3, 1) := by decide +kernel
theorem dX3_pushNewForm_41 : decode cX3_pushNewForm 41 = .ok (.iastore, 1) := by decide +kernel
theorem dX3_pushNewForm_42 : decode cX3_pushNewForm 42 = .ok (.aload_n 0, 1) := by decide +kernel
theorem dX3_pushNewForm_43 : decode cX3_pushNewForm 43 = .ok (.getfield 12, 3) := by decide +kernel
theorem dX3_pushNewForm_46 : decode cX3_pushNewForm 46 = .ok (.getfield 82, 3) := by decide +kernel
theorem dX3_pushNewForm_49 : decode cX3_pushNewForm 49 = .ok (.iload_n 3, 1) := by decide +kernel
theorem dX3_pushNewForm_50 : decode cX3_pushNewForm 50 = .ok (.iload 4, 2) := by decide +kernel
theorem dX3_pushNewForm_52 : decode cX3_pushNewForm 52 = .ok (.iastore, 1) := by decide +kernel
theorem dX3_pushNewForm_53 : decode cX3_pushNewForm 53 = .ok (.aload_n 0, 1) := by decide +kernel
theorem dX3_pushNewForm_54 : decode cX3_pushNewForm 54 = .ok (.iload_n 1, 1) := by decide +kernel
theorem dX3_pushNewForm_55 : decode cX3_pushNewForm 55 = .ok (.invokevirtual 36, 3) := by decide +kernel
theorem dX3_pushNewForm_58 : decode cX3_pushNewForm 58 = .ok (.return_, 1) := by decide +kernel
set_option maxRecDepth 20000 in
theorem ggX3_pushAnewByWeights_X3_takeOutAll : GoodIn wsX3_pushAnewByWeights wsX3_takeOutAll := goodIn_r _ [7, 1, 8, 9, 10, 11, 12, 13, 14, 15, 16, 17, 18, 19, 20, 21, 22, 23, 24, 25, 26, 117, 118, 119, 120, 121, 122, 123, 124, 125] (by decide +kernel) (by decide +kernel)
set_option maxRecDepth 20000 in
theorem gX3_pushAnewByWeights_X3_takeOutAll : GoodIn wsX3_pushAnewByWeights (wsV RX3 98 RX3 yX3_takeOutAll wsX3_takeOutAll) := goodIn_app (goodIn_of _ (by decide +kernel)) ggX3_pushAnewByWeights_X3_takeOutAll
set_option maxRecDepth 20000 in
theorem ggX3_pushAnewByWeights_X1_weightOf : GoodIn wsX3_pushAnewByWeights wsX1_weightOf := goodIn_r _ [30, 31, 32, 33, 10, 34, 35, 36, 37, 38, 39, 40, 41, 42, 43, 44, 45, 46, 47, 48, 49, 50, 51, 119, 120, 121, 122, 123] (by decide +kernel) (by decide +kernel)
set_option maxRecDepth 20000 in
theorem gX3_pushAnewByWeights_X1_weightOf : GoodIn wsX3_pushAnewByWeights (wsV RX3 101 RX1 yX1_weightOf wsX1_weightOf) := goodIn_app (goodIn_of _ (by decide +kernel)) ggX3_pushAnewByWeights_X1_weightOf
set_option maxRecDepth 20000 in
theorem ggX3_pushAnewByWeights_X3_settle : GoodIn wsX3_pushAnewByWeights wsX3_settle := goodIn_r _ [55, 1, 56, 57, 58, 59, 6, 60, 8, 61, 62, 63, 64, 65, 10, 66, 14, 67, 36, 37, 38, 39, 40, 41, 42, 43, 44, 68, 69, 70, 71, 72, 73, 74, 75, 76, 77, 78, 13, 79, 80, 81, 22, 82, 25, 83, 84, 85, 86, 24, 87, 32, 33, 34, 35, 88, 89, 90, 91, 92, 93, 94, 95, 96, 97, 98, 99, 100, 101, 102, 103, 104, 105, 106, 107, 108, 109, 110, 111, 112, 113, 114, 115, 116, 117, 118, 119, 120, 121, 122, 123, 124, 125] (by decide +kernel) (by decide +kernel)
set_option maxRecDepth 20000 in
theorem gX3_pushAnewByWeights_X3_settle : GoodIn wsX3_pushAnewByWeights (wsV RX3 104 RX3 yX3_settle wsX3_settle) := goodIn_app (goodIn_of _ (by decide +kernel)) ggX3_pushAnewByWeights_X3_settle
theorem dX3_pushAnewByWeights_0 : decode cX3_pushAnewByWeights 0 = .ok (.aload_n 0, 1) := by decide +kernel
theorem dX3_pushAnewByWeights_1 : decode cX3_pushAnewByWeights 1 = .ok (.invokevirtual 98, 3) := by decide +kernel
theorem dX3_pushAnewByWeights_4 : decode cX3_pushAnewByWeights 4 = .ok (.bipush 16, 2) := by decide +kernel
theorem dX3_pushAnewByWeights_6 : decode cX3_pushAnewByWeights 6 = .ok (.istore_n 1, 1) := by decide +kernel
theorem dX3_pushAnewByWeights_7 : decode cX3_pushAnewByWeights 7 = .ok (.iload_n 1, 1) := by decide +kernel
theorem dX3_pushAnewByWeights_8 : decode cX3_pushAnewByWeights 8 = .ok (.iconst 1, 1) := by decide +kernel
theorem dX3_pushAnewByWeights_9 : decode cX3_pushAnewByWeights 9 = .ok (.if_icmp .lt 45, 3) := by decide +kernel
theorem dX3_pushAnewByWeights_12 : decode cX3_pushAnewByWeights 12 = .ok (.iconst 0, 1) := by decide +kernel
theorem dX3_pushAnewByWeights_13 : decode cX3_pushAnewByWeights 13 = .ok (.istore_n 2, 1) := by decide +kernel
theorem dX3_pushAnewByWeights_14 : decode cX3_pushAnewByWeights 14 = .ok (.iload_n 2, 1) := by decide +kernel
theorem dX3_pushAnewByWeights_15 : decode cX3_pushAnewByWeights 15 = .ok (.aload_n 0, 1) := by decide +kernel
theorem dX3_pushAnewByWeights_16 : decode cX3_pushAnewByWeights 16 = .ok (.getfield 12, 3) := by decide +kernel
theorem dX3_pushAnewByWeights_19 : decode cX3_pushAnewByWeights 19 = .ok (.getfield 32, 3) := by decide +kernel
theorem dX3_pushAnewByWeights_22 : decode cX3_pushAnewByWeights 22 = .ok (.if_icmp .ge 26, 3) := by decide +kernel
theorem dX3_pushAnewByWeights_25 : decode cX3_pushAnewByWeights 25 = .ok (.aload_n 0, 1) := by decide +kernel
theorem dX3_pushAnewByWeights_26 : decode cX3_pushAnewByWeights 26 = .ok (.getfield 12, 3) := by decide +kernel
theorem dX3_pushAnewByWeights_29 : decode cX3_pushAnewByWeights 29 = .ok (.iload_n 2, 1) := by decide +kernel
theorem dX3_pushAnewByWeights_30 : decode cX3_pushAnewByWeights 30 = .ok (.invokevirtual 101, 3) := by decide +kernel
theorem dX3_pushAnewByWeights_33 : decode cX3_pushAnewByWeights 33 = .ok (.iload_n 1, 1) := by decide +kernel
theorem dX3_pushAnewByWeights_34 : decode cX3_pushAnewByWeights 34 = .ok (.if_icmp .ne 8, 3) := by decide +kernel
theorem dX3_pushAnewByWeights_37 : decode cX3_pushAnewByWeights 37 = .ok (.aload_n 0, 1) := by decide +kernel
theorem dX3_pushAnewByWeights_38 : decode cX3_pushAnewByWeights 38 = .ok (.iload_n 2, 1) := by decide +kernel
theorem dX3_pushAnewByWeights_39 : decode cX3_pushAnewByWeights 39 = .ok (.invokevirtual 104, 3) := by decide +kernel
theorem dX3_pushAnewByWeights_42 : decode cX3_pushAnewByWeights 42 = .ok (.iinc 2 1, 3) := by decide +kernel
theorem dX3_pushAnewByWeights_45 : decode cX3_pushAnewByWeights 45 = .ok (.goto (-31), 3) := by decide +kernel
theorem dX3_pushAnewByWeights_48 : decode cX3_pushAnewByWeights 48 = .ok (.iinc 1 (-1), 3) := by decide +kernel
theorem dX3_pushAnewByWeights_51 : decode cX3_pushAnewByWeights 51 = .ok (.goto (-44), 3) := by decide +kernel
theorem dX3_pushAnewByWeights_54 : decode cX3_pushAnewByWeights 54 = .ok (.return_, 1) := by decide +kernel
set_option maxRecDepth 20000 in
theorem ggX3_pushAnewByNumbers_X3_takeOutAll : GoodIn wsX3_pushAnewByNumbers wsX3_takeOutAll := goodIn_r _ [7, 1, 8, 9, 10, 11, 12, 13, 14, 15, 16, 17, 18, 19, 20, 21, 22, 23, 24, 25, 26, 105, 106, 107, 108, 109, 110, 111, 112, 113] (by decide +kernel) (by decide +kernel)
set_option maxRecDepth 20000 in
theorem gX3_pushAnewByNumbers_X3_takeOutAll : GoodIn wsX3_pushAnewByNumbers (wsV RX3 98 RX3 yX3_takeOutAll wsX3_takeOutAll) := goodIn_app (goodIn_of _ (by decide +kernel)) ggX3_pushAnewByNumbers_X3_takeOutAll
set_option maxRecDepth 20000 in
theorem ggX3_pushAnewByNumbers_X3_settle : GoodIn wsX3_pushAnewByNumbers wsX3_settle := goodIn_r _ [30, 1, 31, 32, 33, 34, 6, 35, 8, 36, 37, 38, 39, 40, 10, 41, 14, 42, 43, 44, 45, 46, 47, 48, 49, 50, 51, 52, 53, 54, 55, 56, 57, 58, 59, 60, 61, 62, 13, 63, 64, 65, 22, 66, 25, 67, 68, 69, 70, 24, 71, 72, 73, 74, 75, 76, 77, 78, 79, 80, 81, 82, 83, 84, 85, 86, 87, 88, 89, 90, 91, 92, 93, 94, 95, 96, 97, 98, 99, 100, 101, 102, 103, 104, 105, 106, 107, 108, 109, 110, 111, 112, 113] (by decide +kernel) (by decide +kernel)
set_option maxRecDepth 20000 in
theorem gX3_pushAnewByNumbers_X3_settle : GoodIn wsX3_pushAnewByNumbers (wsV RX3 104 RX3 yX3_settle wsX3_settle) := goodIn_app (goodIn_of _ (by decide +kernel)) ggX3_pushAnewByNumbers_X3_settle
theorem dX3_pushAnewByNumbers_0 : decode cX3_pushAnewByNumbers 0 = .ok (.aload_n 0, 1) := by decide +kernel
theorem dX3_pushAnewByNumbers_1 : decode cX3_pushAnewByNumbers 1 = .ok (.invokevirtual 98, 3) := by decide +kernel
theorem dX3_pushAnewByNumbers_4 : decode cX3_pushAnewByNumbers 4 = .ok (.iconst 0, 1) := by decide +kernel
theorem dX3_pushAnewByNumbers_5 : decode cX3_pushAnewByNumbers 5 = .ok (.istore_n 1, 1) := by decide +kernel
theorem dX3_pushAnewByNumbers_6 : decode cX3_pushAnewByNumbers 6 = .ok (.iload_n 1, 1) := by decide +kernel
theorem dX3_pushAnewByNumbers_7 : decode cX3_pushAnewByNumbers 7 = .ok (.aload_n 0, 1) := by decide +kernel
theorem dX3_pushAnewByNumbers_8 : decode cX3_pushAnewByNumbers 8 = .ok (.getfield 12, 3) := by decide +kernel
theorem dX3_pushAnewByNumbers_11 : decode cX3_pushAnewByNumbers 11 = .ok (.getfield 32, 3) := by decide +kernel
theorem dX3_pushAnewByNumbers_14 : decode cX3_pushAnewByNumbers 14 = .ok (.if_icmp .ge 14, 3) := by decide +kernel
theorem dX3_pushAnewByNumbers_17 : decode cX3_pushAnewByNumbers 17 = .ok (.aload_n 0, 1) := by decide +kernel
theorem dX3_pushAnewByNumbers_18 : decode cX3_pushAnewByNumbers 18 = .ok (.iload_n 1, 1) := by decide +kernel
theorem dX3_pushAnewByNumbers_19 : decode cX3_pushAnewByNumbers 19 = .ok (.invokevirtual 104, 3) := by decide +kernel
theorem dX3_pushAnewByNumbers_22 : decode cX3_pushAnewByNumbers 22 = .ok (.iinc 1 1, 3) := by decide +kernel
theorem dX3_pushAnewByNumbers_25 : decode cX3_pushAnewByNumbers 25 = .ok (.goto (-19), 3) := by decide +kernel
theorem dX3_pushAnewByNumbers_28 : decode cX3_pushAnewByNumbers 28 = .ok (.return_, 1) := by decide +kernel
set_option maxRecDepth 20000 in
theorem ggX3_takeOutAll_X1_forgetForms : GoodIn wsX3_takeOutAll wsX1_forgetForms := goodIn_r _ [6, 7, 8, 9, 10, 11, 12, 23, 24, 25, 26, 27] (by decide +kernel) (by decide +kernel)
set_option maxRecDepth 20000 in
theorem gX3_takeOutAll_X1_forgetForms_n107 : GoodIn wsX3_takeOutAll (wsX1_forgetForms) := ggX3_takeOutAll_X1_forgetForms
set_option maxRecDepth 20000 in
theorem ggX3_takeOutAll_X2_emptyAll : GoodIn wsX3_takeOutAll wsX2_emptyAll := goodIn_r _ [17, 18, 19, 20, 10, 11, 12, 28, 29] (by decide +kernel) (by decide +kernel)
set_option maxRecDepth 20000 in
theorem gX3_takeOutAll_X2_emptyAll : GoodIn wsX3_takeOutAll (wsV RX3 29 RX2 yX2_emptyAll wsX2_emptyAll) := goodIn_app (goodIn_of _ (by decide +kernel)) ggX3_takeOutAll_X2_emptyAll
theorem dX3_takeOutAll_0 : decode cX3_takeOutAll 0 = .ok (.aload_n 0, 1) := by decide +kernel
theorem dX3_takeOutAll_1 : decode cX3_takeOutAll 1 = .ok (.getfield 12, 3) := by decide +kernel
theorem dX3_takeOutAll_4 : decode cX3_takeOutAll 4 = .ok (.invokevirtual 107, 3) := by decide +kernel
theorem dX3_takeOutAll_7 : decode cX3_takeOutAll 7 = .ok (.aload_n 0, 1) := by decide +kernel
theorem dX3_takeOutAll_8 : decode cX3_takeOutAll 8 = .ok (.getfield 21, 3) := by decide +kernel
theorem dX3_takeOutAll_11 : decode cX3_takeOutAll 11 = .ok (.invokevirtual 29, 3) := by decide +kernel
theorem dX3_takeOutAll_14 : decode cX3_takeOutAll 14 = .ok (.return_, 1) := by decide +kernel
set_option maxRecDepth 20000 in
theorem ggX3_lookUp_X1_shiftOf : GoodIn wsX3_lookUp wsX1_shiftOf := goodIn_r _ [11, 12, 15, 16, 17, 18, 19] (by decide +kernel) (by decide +kernel)
set_option maxRecDepth 20000 in
theorem gX3_lookUp_X1_shiftOf : GoodIn wsX3_lookUp (wsV RX3 44 RX1 yX1_shiftOf wsX1_shiftOf) := goodIn_app (goodIn_of _ (by decide +kernel)) ggX3_lookUp_X1_shiftOf
theorem dX3_lookUp_0 : decode cX3_lookUp 0 = .ok (.aload_n 0, 1) := by decide +kernel
theorem dX3_lookUp_1 : decode cX3_lookUp 1 = .ok (.getfield 12, 3) := by decide +kernel
theorem dX3_lookUp_4 : decode cX3_lookUp 4 = .ok (.getfield 40, 3) := by decide +kernel
theorem dX3_lookUp_7 : decode cX3_lookUp 7 = .ok (.iload_n 1, 1) := by decide +kernel
theorem dX3_lookUp_8 : decode cX3_lookUp 8 = .ok (.iaload, 1) := by decide +kernel
theorem dX3_lookUp_9 : decode cX3_lookUp 9 = .ok (.istore_n 3, 1) := by decide +kernel
theorem dX3_lookUp_10 : decode cX3_lookUp 10 = .ok (.aload_n 0, 1) := by decide +kernel
theorem dX3_lookUp_11 : decode cX3_lookUp 11 = .ok (.getfield 12, 3) := by decide +kernel
theorem dX3_lookUp_14 : decode cX3_lookUp 14 = .ok (.iload_n 3, 1) := by decide +kernel
theorem dX3_lookUp_15 : decode cX3_lookUp 15 = .ok (.invokevirtual 44, 3) := by decide +kernel
theorem dX3_lookUp_18 : decode cX3_lookUp 18 = .ok (.istore 4, 2) := by decide +kernel
theorem dX3_lookUp_20 : decode cX3_lookUp 20 = .ok (.iload 4, 2) := by decide +kernel
theorem dX3_lookUp_22 : decode cX3_lookUp 22 = .ok (.bipush (-9), 2) := by decide +kernel
theorem dX3_lookUp_24 : decode cX3_lookUp 24 = .ok (.if_icmp .eq 32, 3) := by decide +kernel
theorem dX3_lookUp_27 : decode cX3_lookUp 27 = .ok (.aload_n 0, 1) := by decide +kernel
theorem dX3_lookUp_28 : decode cX3_lookUp 28 = .ok (.getfield 21, 3) := by decide +kernel
theorem dX3_lookUp_31 : decode cX3_lookUp 31 = .ok (.getfield 85, 3) := by decide +kernel
theorem dX3_lookUp_34 : decode cX3_lookUp 34 = .ok (.iload 4, 2) := by decide +kernel
theorem dX3_lookUp_36 : decode cX3_lookUp 36 = .ok (.iload_n 2, 1) := by decide +kernel
theorem dX3_lookUp_37 : decode cX3_lookUp 37 = .ok (.iadd, 1) := by decide +kernel
theorem dX3_lookUp_38 : decode cX3_lookUp 38 = .ok (.iaload, 1) := by decide +kernel
theorem dX3_lookUp_39 : decode cX3_lookUp 39 = .ok (.iload_n 3, 1) := by decide +kernel
theorem dX3_lookUp_40 : decode cX3_lookUp 40 = .ok (.if_icmp .ne 16, 3) := by decide +kernel
theorem dX3_lookUp_43 : decode cX3_lookUp 43 = .ok (.aload_n 0, 1) := by decide +kernel
theorem dX3_lookUp_44 : decode cX3_lookUp 44 = .ok (.getfield 21, 3) := by decide +kernel
theorem dX3_lookUp_47 : decode cX3_lookUp 47 = .ok (.getfield 88, 3) := by decide +kernel
theorem dX3_lookUp_50 : decode cX3_lookUp 50 = .ok (.iload 4, 2) := by decide +kernel
theorem dX3_lookUp_52 : decode cX3_lookUp 52 = .ok (.iload_n 2, 1) := by decide +kernel
theorem dX3_lookUp_53 : decode cX3_lookUp 53 = .ok (.iadd, 1) := by decide +kernel
theorem dX3_lookUp_54 : decode cX3_lookUp 54 = .ok (.iaload, 1) := by decide +kernel
theorem dX3_lookUp_55 : decode cX3_lookUp 55 = .ok (.ireturn, 1) := by decide +kernel
theorem dX3_lookUp_56 : decode cX3_lookUp 56 = .ok (.aload_n 0, 1) := by decide +kernel
theorem dX3_lookUp_57 : decode cX3_lookUp 57 = .ok (.getfield 12, 3) := by decide +kernel
theorem dX3_lookUp_60 : decode cX3_lookUp 60 = .ok (.getfield 110, 3) := by decide +kernel
theorem dX3_lookUp_63 : decode cX3_lookUp 63 = .ok (.iload_n 1, 1) := by decide +kernel
theorem dX3_lookUp_64 : decode cX3_lookUp 64 = .ok (.iaload, 1) := by decide +kernel
theorem dX3_lookUp_65 : decode cX3_lookUp 65 = .ok (.ireturn, 1) := by decide +kernel
set_option maxRecDepth 20000 in
theorem ggX3_refusals_X3_refusalsOf : GoodIn wsX3_refusals wsX3_refusalsOf := goodIn_r _ [7, 1, 8, 9, 10, 11, 12, 13, 14, 15, 16, 17, 18, 19, 20, 21, 22, 23, 24, 25, 26, 27, 28, 29, 30, 31] (by decide +kernel) (by decide +kernel)
set_option maxRecDepth 20000 in
theorem gX3_refusals_X3_refusalsOf : GoodIn wsX3_refusals (wsV RX3 113 RX3 yX3_refusalsOf wsX3_refusalsOf) := goodIn_app (goodIn_of _ (by decide +kernel)) ggX3_refusals_X3_refusalsOf
theorem dX3_refusals_0 : decode cX3_refusals 0 = .ok (.iconst 0, 1) := by decide +kernel
theorem dX3_refusals_1 : decode cX3_refusals 1 = .ok (.istore_n 1, 1) := by decide +kernel
theorem dX3_refusals_2 : decode cX3_refusals 2 = .ok (.iconst 0, 1) := by decide +kernel
theorem dX3_refusals_3 : decode cX3_refusals 3 = .ok (.istore_n 2, 1) := by decide +kernel
theorem dX3_refusals_4 : decode cX3_refusals 4 = .ok (.iload_n 2, 1) := by decide +kernel
theorem dX3_refusals_5 : decode cX3_refusals 5 = .ok (.aload_n 0, 1) := by decide +kernel
theorem dX3_refusals_6 : decode cX3_refusals 6 = .ok (.getfield 12, 3) := by decide +kernel
theorem dX3_refusals_9 : decode cX3_refusals 9 = .ok (.getfield 32, 3) := by decide +kernel
theorem dX3_refusals_12 : decode cX3_refusals 12 = .ok (.if_icmp .ge 17, 3) := by decide +kernel
theorem dX3_refusals_15 : decode cX3_refusals 15 = .ok (.iload_n 1, 1) := by decide +kernel
theorem dX3_refusals_16 : decode cX3_refusals 16 = .ok (.aload_n 0, 1) := by decide +kernel
theorem dX3_refusals_17 : decode cX3_refusals 17 = .ok (.iload_n 2, 1) := by decide +kernel
theorem dX3_refusals_18 : decode cX3_refusals 18 = .ok (.invokevirtual 113, 3) := by decide +kernel
theorem dX3_refusals_21 : decode cX3_refusals 21 = .ok (.iadd, 1) := by decide +kernel
theorem dX3_refusals_22 : decode cX3_refusals 22 = .ok (.istore_n 1, 1) := by decide +kernel
theorem dX3_refusals_23 : decode cX3_refusals 23 = .ok (.iinc 2 1, 3) := by decide +kernel
theorem dX3_refusals_26 : decode cX3_refusals 26 = .ok (.goto (-22), 3) := by decide +kernel
theorem dX3_refusals_29 : decode cX3_refusals 29 = .ok (.iload_n 1, 1) := by decide +kernel
theorem dX3_refusals_30 : decode cX3_refusals 30 = .ok (.ireturn, 1) := by decide +kernel
set_option maxRecDepth 20000 in
theorem ggX3_refusalsOf_X1_shiftOf : GoodIn wsX3_refusalsOf wsX1_shiftOf := goodIn_r _ [9, 10, 19, 20, 21, 22, 23] (by decide +kernel) (by decide +kernel)
set_option maxRecDepth 20000 in
theorem gX3_refusalsOf_X1_shiftOf : GoodIn wsX3_refusalsOf (wsV RX3 44 RX1 yX1_shiftOf wsX1_shiftOf) := goodIn_app (goodIn_of _ (by decide +kernel)) ggX3_refusalsOf_X1_shiftOf
set_option maxRecDepth 20000 in
theorem ggX3_refusalsOf_X2_isEmptyAt : GoodIn wsX3_refusalsOf wsX2_isEmptyAt := goodIn_r _ [15, 16, 24, 25] (by decide +kernel) (by decide +kernel)
set_option maxRecDepth 20000 in
theorem gX3_refusalsOf_X2_isEmptyAt : GoodIn wsX3_refusalsOf (wsV RX3 116 RX2 yX2_isEmptyAt wsX2_isEmptyAt) := goodIn_app (goodIn_of _ (by decide +kernel)) ggX3_refusalsOf_X2_isEmptyAt
theorem dX3_refusalsOf_0 : decode cX3_refusalsOf 0 = .ok (.aload_n 0, 1) := by decide +kernel
theorem dX3_refusalsOf_1 : decode cX3_refusalsOf 1 = .ok (.getfield 12, 3) := by decide +kernel
theorem dX3_refusalsOf_4 : decode cX3_refusalsOf 4 = .ok (.getfield 40, 3) := by decide +kernel
theorem dX3_refusalsOf_7 : decode cX3_refusalsOf 7 = .ok (.iload_n 1, 1) := by decide +kernel
theorem dX3_refusalsOf_8 : decode cX3_refusalsOf 8 = .ok (.iaload, 1) := by decide +kernel
theorem dX3_refusalsOf_9 : decode cX3_refusalsOf 9 = .ok (.istore_n 2, 1) := by decide +kernel
theorem dX3_refusalsOf_10 : decode cX3_refusalsOf 10 = .ok (.aload_n 0, 1) := by decide +kernel
theorem dX3_refusalsOf_11 : decode cX3_refusalsOf 11 = .ok (.getfield 12, 3) := by decide +kernel
theorem dX3_refusalsOf_14 : decode cX3_refusalsOf 14 = .ok (.iload_n 2, 1) := by decide +kernel
theorem dX3_refusalsOf_15 : decode cX3_refusalsOf 15 = .ok (.invokevirtual 44, 3) := by decide +kernel
theorem dX3_refusalsOf_18 : decode cX3_refusalsOf 18 = .ok (.istore_n 3, 1) := by decide +kernel
theorem dX3_refusalsOf_19 : decode cX3_refusalsOf 19 = .ok (.iload_n 3, 1) := by decide +kernel
theorem dX3_refusalsOf_20 : decode cX3_refusalsOf 20 = .ok (.bipush (-9), 2) := by decide +kernel
theorem dX3_refusalsOf_22 : decode cX3_refusalsOf 22 = .ok (.if_icmp .ne 5, 3) := by decide +kernel
theorem dX3_refusalsOf_25 : decode cX3_refusalsOf 25 = .ok (.iconst 0, 1) := by decide +kernel
theorem dX3_refusalsOf_26 : decode cX3_refusalsOf 26 = .ok (.ireturn, 1) := by decide +kernel
theorem dX3_refusalsOf_27 : decode cX3_refusalsOf 27 = .ok (.iconst 0, 1) := by decide +kernel
theorem dX3_refusalsOf_28 : decode cX3_refusalsOf 28 = .ok (.istore 4, 2) := by decide +kernel
theorem dX3_refusalsOf_30 : decode cX3_refusalsOf 30 = .ok (.iload_n 3, 1) := by decide +kernel
theorem dX3_refusalsOf_31 : decode cX3_refusalsOf 31 = .ok (.istore 5, 2) := by decide +kernel
theorem dX3_refusalsOf_33 : decode cX3_refusalsOf 33 = .ok (.iload 5, 2) := by decide +kernel
theorem dX3_refusalsOf_35 : decode cX3_refusalsOf 35 = .ok (.iload_n 3, 1) := by decide +kernel
theorem dX3_refusalsOf_36 : decode cX3_refusalsOf 36 = .ok (.bipush 16, 2) := by decide +kernel
theorem dX3_refusalsOf_38 : decode cX3_refusalsOf 38 = .ok (.iadd, 1) := by decide +kernel
theorem dX3_refusalsOf_39 : decode cX3_refusalsOf 39 = .ok (.if_icmp .ge 38, 3) := by decide +kernel
theorem dX3_refusalsOf_42 : decode cX3_refusalsOf 42 = .ok (.aload_n 0, 1) := by decide +kernel
theorem dX3_refusalsOf_43 : decode cX3_refusalsOf 43 = .ok (.getfield 21, 3) := by decide +kernel
theorem dX3_refusalsOf_46 : decode cX3_refusalsOf 46 = .ok (.iload 5, 2) := by decide +kernel
theorem dX3_refusalsOf_48 : decode cX3_refusalsOf 48 = .ok (.invokevirtual 116, 3) := by decide +kernel
theorem dX3_refusalsOf_51 : decode cX3_refusalsOf 51 = .ok (.ifCond .ne 20, 3) := by decide +kernel
theorem dX3_refusalsOf_54 : decode cX3_refusalsOf 54 = .ok (.aload_n 0, 1) := by decide +kernel
theorem dX3_refusalsOf_55 : decode cX3_refusalsOf 55 = .ok (.getfield 21, 3) := by decide +kernel
theorem dX3_refusalsOf_58 : decode cX3_refusalsOf 58 = .ok (.getfield 85, 3) := by decide +kernel
theorem dX3_refusalsOf_61 : decode cX3_refusalsOf 61 = .ok (.iload 5, 2) := by decide +kernel
theorem dX3_refusalsOf_63 : decode cX3_refusalsOf 63 = .ok (.iaload, 1) := by decide +kernel
theorem dX3_refusalsOf_64 : decode cX3_refusalsOf 64 = .ok (.iload_n 2, 1) := by decide +kernel
theorem dX3_refusalsOf_65 : decode cX3_refusalsOf 65 = .ok (.if_icmp .eq 6, 3) := by decide +kernel
theorem dX3_refusalsOf_68 : decode cX3_refusalsOf 68 = .ok (.iinc 4 1, 3) := by decide +kernel
theorem dX3_refusalsOf_71 : decode cX3_refusalsOf 71 = .ok (.iinc 5 1, 3) := by decide +kernel
theorem dX3_refusalsOf_74 : decode cX3_refusalsOf 74 = .ok (.goto (-41), 3) := by decide +kernel
theorem dX3_refusalsOf_77 : decode cX3_refusalsOf 77 = .ok (.iload 4, 2) := by decide +kernel
theorem dX3_refusalsOf_79 : decode cX3_refusalsOf 79 = .ok (.ireturn, 1) := by decide +kernel
end
section
theorem dX4_init_0 : decode cX4_init 0 = .ok (.aload_n 0, 1) := by decide +kernel
theorem dX4_init_1 : decode cX4_init 1 = .ok (.invokespecial 3, 3) := by decide +kernel
theorem dX4_init_4 : decode cX4_init 4 = .ok (.aload_n 0, 1) := by decide +kernel
theorem dX4_init_5 : decode cX4_init 5 = .ok (.iconst 0, 1) := by decide +kernel
theorem dX4_init_6 : decode cX4_init 6 = .ok (.putfield 9, 3) := by decide +kernel
theorem dX4_init_9 : decode cX4_init 9 = .ok (.aload_n 0, 1) := by decide +kernel
theorem dX4_init_10 : decode cX4_init 10 = .ok (.bipush 100, 2) := by decide +kernel
theorem dX4_init_12 : decode cX4_init 12 = .ok (.newarray .char, 2) := by decide +kernel
theorem dX4_init_14 : decode cX4_init 14 = .ok (.putfield 15, 3) := by decide +kernel
theorem dX4_init_17 : decode cX4_init 17 = .ok (.aload_n 0, 1) := by decide +kernel
theorem dX4_init_18 : decode cX4_init 18 = .ok (.iconst 0, 1) := by decide +kernel
theorem dX4_init_19 : decode cX4_init 19 = .ok (.putfield 19, 3) := by decide +kernel
theorem dX4_init_22 : decode cX4_init 22 = .ok (.aload_n 0, 1) := by decide +kernel
theorem dX4_init_23 : decode cX4_init 23 = .ok (.iconst 0, 1) := by decide +kernel
theorem dX4_init_24 : decode cX4_init 24 = .ok (.putfield 22, 3) := by decide +kernel
theorem dX4_init_27 : decode cX4_init 27 = .ok (.aload_n 0, 1) := by decide +kernel
theorem dX4_init_28 : decode cX4_init 28 = .ok (.iconst 0, 1) := by decide +kernel
theorem dX4_init_29 : decode cX4_init 29 = .ok (.putfield 25, 3) := by decide +kernel
theorem dX4_init_32 : decode cX4_init 32 = .ok (.aload_n 0, 1) := by decide +kernel
theorem dX4_init_33 : decode cX4_init 33 = .ok (.iconst 0, 1) := by decide +kernel
theorem dX4_init_34 : decode cX4_init 34 = .ok (.putfield 28, 3) := by decide +kernel
theorem dX4_init_37 : decode cX4_init 37 = .ok (.aload_n 0, 1) := by decide +kernel
theorem dX4_init_38 : decode cX4_init 38 = .ok (.bipush 24, 2) := by decide +kernel
theorem dX4_init_40 : decode cX4_init 40 = .ok (.newarray .int, 2) := by decide +kernel
theorem dX4_init_42 : decode cX4_init 42 = .ok (.putfield 31, 3) := by decide +kernel
theorem dX4_init_45 : decode cX4_init 45 = .ok (.aload_n 0, 1) := by decide +kernel
theorem dX4_init_46 : decode cX4_init 46 = .ok (.sipush 384, 3) := by decide +kernel
theorem dX4_init_49 : decode cX4_init 49 = .ok (.newarray .int, 2) := by decide +kernel
theorem dX4_init_51 : decode cX4_init 51 = .ok (.putfield 35, 3) := by decide +kernel
theorem dX4_init_54 : decode cX4_init 54 = .ok (.return_, 1) := by decide +kernel
theorem dX4_appendSign_0 : decode cX4_appendSign 0 = .ok (.aload_n 0, 1) := by decide +kernel
theorem dX4_appendSign_1 : decode cX4_appendSign 1 = .ok (.getfield 9, 3) := by decide +kernel
theorem dX4_appendSign_4 : decode cX4_appendSign 4 = .ok (.bipush 100, 2) := by decide +kernel
theorem dX4_appendSign_6 : decode cX4_appendSign 6 = .ok (.if_icmp .ge 23, 3) := by decide +kernel
theorem dX4_appendSign_9 : decode cX4_appendSign 9 = .ok (.aload_n 0, 1) := by decide +kernel
theorem dX4_appendSign_10 : decode cX4_appendSign 10 = .ok (.getfield 15, 3) := by decide +kernel
theorem dX4_appendSign_13 : decode cX4_appendSign 13 = .ok (.aload_n 0, 1) := by decide +kernel
theorem dX4_appendSign_14 : decode cX4_appendSign 14 = .ok (.getfield 9, 3) := by decide +kernel
theorem dX4_appendSign_17 : decode cX4_appendSign 17 = .ok (.iload_n 1, 1) := by decide +kernel
theorem dX4_appendSign_18 : decode cX4_appendSign 18 = .ok (.castore, 1) := by decide +kernel
theorem dX4_appendSign_19 : decode cX4_appendSign 19 = .ok (.aload_n 0, 1) := by decide +kernel
theorem dX4_appendSign_20 : decode cX4_appendSign 20 = .ok (.dup, 1) := by decide +kernel
theorem dX4_appendSign_21 : decode cX4_appendSign 21 = .ok (.getfield 9, 3) := by decide +kernel
theorem dX4_appendSign_24 : decode cX4_appendSign 24 = .ok (.iconst 1, 1) := by decide +kernel
theorem dX4_appendSign_25 : decode cX4_appendSign 25 = .ok (.iadd, 1) := by decide +kernel
theorem dX4_appendSign_26 : decode cX4_appendSign 26 = .ok (.putfield 9, 3) := by decide +kernel
theorem dX4_appendSign_29 : decode cX4_appendSign 29 = .ok (.return_, 1) := by decide +kernel
theorem dX4_valueRead_0 : decode cX4_valueRead 0 = .ok (.aload_n 0, 1) := by decide +kernel
theorem dX4_valueRead_1 : decode cX4_valueRead 1 = .ok (.getfield 35, 3) := by decide +kernel
theorem dX4_valueRead_4 : decode cX4_valueRead 4 = .ok (.iload_n 1, 1) := by decide +kernel
theorem dX4_valueRead_5 : decode cX4_valueRead 5 = .ok (.bipush 16, 2) := by decide +kernel
theorem dX4_valueRead_7 : decode cX4_valueRead 7 = .ok (.imul, 1) := by decide +kernel
theorem dX4_valueRead_8 : decode cX4_valueRead 8 = .ok (.iload_n 2, 1) := by decide +kernel
theorem dX4_valueRead_9 : decode cX4_valueRead 9 = .ok (.iadd, 1) := by decide +kernel
theorem dX4_valueRead_10 : decode cX4_valueRead 10 = .ok (.iaload, 1) := by decide +kernel
theorem dX4_valueRead_11 : decode cX4_valueRead 11 = .ok (.ireturn, 1) := by decide +kernel
set_option maxRecDepth 20000 in
theorem ggX4_readTable_X4_skipSpaces : GoodIn wsX4_readTable wsX4_skipSpaces := goodIn_r _ [8, 1, 2, 9, 10, 11, 7, 12, 13, 56, 57, 58, 59, 60, 61, 62, 63] (by decide +kernel) (by decide +kernel)
set_option maxRecDepth 20000 in
theorem gX4_readTable_X4_skipSpaces : GoodIn wsX4_readTable (wsV RX4 38 RX4 yX4_skipSpaces wsX4_skipSpaces) := goodIn_app (goodIn_of _ (by decide +kernel)) ggX4_readTable_X4_skipSpaces
set_option maxRecDepth 20000 in
theorem ggX4_readTable_X4_readRow : GoodIn wsX4_readTable wsX4_readRow := goodIn_r _ [17, 18, 19, 20, 21, 22, 23, 7, 24, 9, 10, 11, 12, 1, 2, 13, 25, 26, 27, 28, 29, 4, 5, 6, 8, 30, 31, 32, 33, 34, 35, 36, 37, 38, 39, 40, 41, 42, 43, 44, 45, 46, 47, 48, 49, 50, 51, 52, 53, 54, 55, 56, 57, 58, 59, 60, 61, 62, 63] (by decide +kernel) (by decide +kernel)
set_option maxRecDepth 20000 in
theorem gX4_readTable_X4_readRow : GoodIn wsX4_readTable (wsV RX4 41 RX4 yX4_readRow wsX4_readRow) := goodIn_app (goodIn_of _ (by decide +kernel)) ggX4_readTable_X4_readRow
theorem dX4_readTable_0 : decode cX4_readTable 0 = .ok (.aload_n 0, 1) := by decide +kernel
theorem dX4_readTable_1 : decode cX4_readTable 1 = .ok (.iconst 0, 1) := by decide +kernel
theorem dX4_readTable_2 : decode cX4_readTable 2 = .ok (.putfield 19, 3) := by decide +kernel
theorem dX4_readTable_5 : decode cX4_readTable 5 = .ok (.iconst 0, 1) := by decide +kernel
theorem dX4_readTable_6 : decode cX4_readTable 6 = .ok (.istore_n 2, 1) := by decide +kernel
theorem dX4_readTable_7 : decode cX4_readTable 7 = .ok (.iload_n 2, 1) := by decide +kernel
theorem dX4_readTable_8 : decode cX4_readTable 8 = .ok (.iload_n 1, 1) := by decide +kernel
theorem dX4_readTable_9 : decode cX4_readTable 9 = .ok (.if_icmp .gt 46, 3) := by decide +kernel
theorem dX4_readTable_12 : decode cX4_readTable 12 = .ok (.aload_n 0, 1) := by decide +kernel
theorem dX4_readTable_13 : decode cX4_readTable 13 = .ok (.invokevirtual 38, 3) := by decide +kernel
theorem dX4_readTable_16 : decode cX4_readTable 16 = .ok (.aload_n 0, 1) := by decide +kernel
theorem dX4_readTable_17 : decode cX4_readTable 17 = .ok (.getfield 19, 3) := by decide +kernel
theorem dX4_readTable_20 : decode cX4_readTable 20 = .ok (.aload_n 0, 1) := by decide +kernel
theorem dX4_readTable_21 : decode cX4_readTable 21 = .ok (.getfield 9, 3) := by decide +kernel
theorem dX4_readTable_24 : decode cX4_readTable 24 = .ok (.if_icmp .lt 10, 3) := by decide +kernel
theorem dX4_readTable_27 : decode cX4_readTable 27 = .ok (.aload_n 0, 1) := by decide +kernel
theorem dX4_readTable_28 : decode cX4_readTable 28 = .ok (.iload_n 2, 1) := by decide +kernel
theorem dX4_readTable_29 : decode cX4_readTable 29 = .ok (.putfield 28, 3) := by decide +kernel
theorem dX4_readTable_32 : decode cX4_readTable 32 = .ok (.iconst 1, 1) := by decide +kernel
theorem dX4_readTable_33 : decode cX4_readTable 33 = .ok (.ireturn, 1) := by decide +kernel
theorem dX4_readTable_34 : decode cX4_readTable 34 = .ok (.iload_n 2, 1) := by decide +kernel
theorem dX4_readTable_35 : decode cX4_readTable 35 = .ok (.iload_n 1, 1) := by decide +kernel
theorem dX4_readTable_36 : decode cX4_readTable 36 = .ok (.if_icmp .eq 11, 3) := by decide +kernel
theorem dX4_readTable_39 : decode cX4_readTable 39 = .ok (.aload_n 0, 1) := by decide +kernel
theorem dX4_readTable_40 : decode cX4_readTable 40 = .ok (.iload_n 2, 1) := by decide +kernel
theorem dX4_readTable_41 : decode cX4_readTable 41 = .ok (.invokevirtual 41, 3) := by decide +kernel
theorem dX4_readTable_44 : decode cX4_readTable 44 = .ok (.ifCond .ne 5, 3) := by decide +kernel
theorem dX4_readTable_47 : decode cX4_readTable 47 = .ok (.iconst 0, 1) := by decide +kernel
theorem dX4_readTable_48 : decode cX4_readTable 48 = .ok (.ireturn, 1) := by decide +kernel
theorem dX4_readTable_49 : decode cX4_readTable 49 = .ok (.iinc 2 1, 3) := by decide +kernel
theorem dX4_readTable_52 : decode cX4_readTable 52 = .ok (.goto (-45), 3) := by decide +kernel
theorem dX4_readTable_55 : decode cX4_readTable 55 = .ok (.iconst 0, 1) := by decide +kernel
theorem dX4_readTable_56 : decode cX4_readTable 56 = .ok (.ireturn, 1) := by decide +kernel
set_option maxRecDepth 20000 in
theorem ggX4_readRow_X4_isDigitHere : GoodIn wsX4_readRow wsX4_isDigitHere := goodIn_r _ [8, 9, 10, 11, 7, 12, 13, 14, 15, 51, 52, 53, 54, 55, 56, 57, 58] (by decide +kernel) (by decide +kernel)
set_option maxRecDepth 20000 in
theorem gX4_readRow_X4_isDigitHere : GoodIn wsX4_readRow (wsV RX4 45 RX4 yX4_isDigitHere wsX4_isDigitHere) := goodIn_app (goodIn_of _ (by decide +kernel)) ggX4_readRow_X4_isDigitHere
set_option maxRecDepth 20000 in
theorem ggX4_readRow_X4_readNumber : GoodIn wsX4_readRow wsX4_readNumber := goodIn_r _ [19, 13, 20, 2, 21, 22, 23, 7, 24, 14, 9, 10, 11, 12, 15, 4, 5, 6, 8, 25, 26, 27, 28, 51, 52, 53, 54, 55, 56, 57, 58] (by decide +kernel) (by decide +kernel)
set_option maxRecDepth 20000 in
theorem gX4_readRow_X4_readNumber : GoodIn wsX4_readRow (wsV RX4 49 RX4 yX4_readNumber wsX4_readNumber) := goodIn_app (goodIn_of _ (by decide +kernel)) ggX4_readRow_X4_readNumber
set_option maxRecDepth 20000 in
theorem ggX4_readRow_J7_fill_fda19 : GoodIn wsX4_readRow wsJ7_fill_fda19 := goodIn_r _ [32, 33, 34, 31, 35] (by decide +kernel) (by decide +kernel)
set_option maxRecDepth 20000 in
theorem gX4_readRow_J7_fill_fda19 : GoodIn wsX4_readRow (va_wsS RX4 52 yJ7_fill_fda19 wsJ7_fill_fda19) := goodIn_app (goodIn_of _ (by decide +kernel)) ggX4_readRow_J7_fill_fda19
set_option maxRecDepth 20000 in
theorem ggX4_readRow_X4_takeSign : GoodIn wsX4_readRow wsX4_takeSign := goodIn_r _ [39, 13, 21, 22, 23, 7, 24, 14, 9, 10, 11, 12, 15, 51, 52, 53, 54, 55, 56, 57, 58] (by decide +kernel) (by decide +kernel)
set_option maxRecDepth 20000 in
theorem gX4_readRow_X4_takeSign : GoodIn wsX4_readRow (wsV RX4 58 RX4 yX4_takeSign wsX4_takeSign) := goodIn_app (goodIn_of _ (by decide +kernel)) ggX4_readRow_X4_takeSign
set_option maxRecDepth 20000 in
theorem ggX4_readRow_X4_readEntries : GoodIn wsX4_readRow wsX4_readEntries := goodIn_r _ [43, 2, 1, 3, 36, 37, 38, 7, 39, 13, 21, 22, 23, 24, 14, 9, 10, 11, 12, 15, 16, 17, 18, 19, 20, 4, 5, 6, 8, 25, 26, 27, 28, 44, 45, 46, 47, 48, 49, 50, 51, 52, 53, 54, 55, 56, 57, 58] (by decide +kernel) (by decide +kernel)
set_option maxRecDepth 20000 in
theorem gX4_readRow_X4_readEntries : GoodIn wsX4_readRow (wsV RX4 62 RX4 yX4_readEntries wsX4_readEntries) := goodIn_app (goodIn_of _ (by decide +kernel)) ggX4_readRow_X4_readEntries
theorem dX4_readRow_0 : decode cX4_readRow 0 = .ok (.aload_n 0, 1) := by decide +kernel
theorem dX4_readRow_1 : decode cX4_readRow 1 = .ok (.getfield 31, 3) := by decide +kernel
theorem dX4_readRow_4 : decode cX4_readRow 4 = .ok (.iload_n 1, 1) := by decide +kernel
theorem dX4_readRow_5 : decode cX4_readRow 5 = .ok (.iconst 0, 1) := by decide +kernel
theorem dX4_readRow_6 : decode cX4_readRow 6 = .ok (.iastore, 1) := by decide +kernel
theorem dX4_readRow_7 : decode cX4_readRow 7 = .ok (.aload_n 0, 1) := by decide +kernel
theorem dX4_readRow_8 : decode cX4_readRow 8 = .ok (.invokevirtual 45, 3) := by decide +kernel
theorem dX4_readRow_11 : decode cX4_readRow 11 = .ok (.ifCond .eq 22, 3) := by decide +kernel
theorem dX4_readRow_14 : decode cX4_readRow 14 = .ok (.aload_n 0, 1) := by decide +kernel
theorem dX4_readRow_15 : decode cX4_readRow 15 = .ok (.invokevirtual 49, 3) := by decide +kernel
theorem dX4_readRow_18 : decode cX4_readRow 18 = .ok (.ifCond .ne 5, 3) := by decide +kernel
theorem dX4_readRow_21 : decode cX4_readRow 21 = .ok (.iconst 0, 1) := by decide +kernel
theorem dX4_readRow_22 : decode cX4_readRow 22 = .ok (.ireturn, 1) := by decide +kernel
theorem dX4_readRow_23 : decode cX4_readRow 23 = .ok (.aload_n 0, 1) := by decide +kernel
theorem dX4_readRow_24 : decode cX4_readRow 24 = .ok (.getfield 31, 3) := by decide +kernel
theorem dX4_readRow_27 : decode cX4_readRow 27 = .ok (.iload_n 1, 1) := by decide +kernel
theorem dX4_readRow_28 : decode cX4_readRow 28 = .ok (.aload_n 0, 1) := by decide +kernel
theorem dX4_readRow_29 : decode cX4_readRow 29 = .ok (.getfield 22, 3) := by decide +kernel
theorem dX4_readRow_32 : decode cX4_readRow 32 = .ok (.iastore, 1) := by decide +kernel
theorem dX4_readRow_33 : decode cX4_readRow 33 = .ok (.aload_n 0, 1) := by decide +kernel
theorem dX4_readRow_34 : decode cX4_readRow 34 = .ok (.getfield 35, 3) := by decide +kernel
theorem dX4_readRow_37 : decode cX4_readRow 37 = .ok (.iload_n 1, 1) := by decide +kernel
theorem dX4_readRow_38 : decode cX4_readRow 38 = .ok (.bipush 16, 2) := by decide +kernel
theorem dX4_readRow_40 : decode cX4_readRow 40 = .ok (.imul, 1) := by decide +kernel
theorem dX4_readRow_41 : decode cX4_readRow 41 = .ok (.iload_n 1, 1) := by decide +kernel
theorem dX4_readRow_42 : decode cX4_readRow 42 = .ok (.iconst 1, 1) := by decide +kernel
theorem dX4_readRow_43 : decode cX4_readRow 43 = .ok (.iadd, 1) := by decide +kernel
theorem dX4_readRow_44 : decode cX4_readRow 44 = .ok (.bipush 16, 2) := by decide +kernel
theorem dX4_readRow_46 : decode cX4_readRow 46 = .ok (.imul, 1) := by decide +kernel
theorem dX4_readRow_47 : decode cX4_readRow 47 = .ok (.aload_n 0, 1) := by decide +kernel
theorem dX4_readRow_48 : decode cX4_readRow 48 = .ok (.getfield 31, 3) := by decide +kernel
theorem dX4_readRow_51 : decode cX4_readRow 51 = .ok (.iload_n 1, 1) := by decide +kernel
theorem dX4_readRow_52 : decode cX4_readRow 52 = .ok (.iaload, 1) := by decide +kernel
theorem dX4_readRow_53 : decode cX4_readRow 53 = .ok (.invokestatic 52, 3) := by decide +kernel
theorem dX4_readRow_56 : decode cX4_readRow 56 = .ok (.aload_n 0, 1) := by decide +kernel
theorem dX4_readRow_57 : decode cX4_readRow 57 = .ok (.bipush 58, 2) := by decide +kernel
theorem dX4_readRow_59 : decode cX4_readRow 59 = .ok (.invokevirtual 58, 3) := by decide +kernel
theorem dX4_readRow_62 : decode cX4_readRow 62 = .ok (.ifCond .eq 15, 3) := by decide +kernel
theorem dX4_readRow_65 : decode cX4_readRow 65 = .ok (.aload_n 0, 1) := by decide +kernel
theorem dX4_readRow_66 : decode cX4_readRow 66 = .ok (.iload_n 1, 1) := by decide +kernel
theorem dX4_readRow_67 : decode cX4_readRow 67 = .ok (.invokevirtual 62, 3) := by decide +kernel
theorem dX4_readRow_70 : decode cX4_readRow 70 = .ok (.ifCond .eq 7, 3) := by decide +kernel
theorem dX4_readRow_73 : decode cX4_readRow 73 = .ok (.iconst 1, 1) := by decide +kernel
theorem dX4_readRow_74 : decode cX4_readRow 74 = .ok (.goto 4, 3) := by decide +kernel
theorem dX4_readRow_77 : decode cX4_readRow 77 = .ok (.iconst 0, 1) := by decide +kernel
theorem dX4_readRow_78 : decode cX4_readRow 78 = .ok (.ireturn, 1) := by decide +kernel
set_option maxRecDepth 20000 in
theorem ggX4_readEntries_X4_takeSign : GoodIn wsX4_readEntries wsX4_takeSign := goodIn_r _ [8, 9, 10, 11, 12, 7, 13, 14, 15, 16, 17, 18, 19, 40, 41, 42, 43, 44, 45, 46, 47] (by decide +kernel) (by decide +kernel)
set_option maxRecDepth 20000 in
theorem gX4_readEntries_X4_takeSign : GoodIn wsX4_readEntries (wsV RX4 58 RX4 yX4_takeSign wsX4_takeSign) := goodIn_app (goodIn_of _ (by decide +kernel)) ggX4_readEntries_X4_takeSign
set_option maxRecDepth 20000 in
theorem ggX4_readEntries_X4_readNumber : GoodIn wsX4_readEntries wsX4_readNumber := goodIn_r _ [23, 9, 24, 1, 10, 11, 12, 7, 13, 14, 15, 16, 17, 18, 19, 25, 26, 27, 28, 29, 30, 31, 32, 40, 41, 42, 43, 44, 45, 46, 47] (by decide +kernel) (by decide +kernel)
set_option maxRecDepth 20000 in
theorem gX4_readEntries_X4_readNumber : GoodIn wsX4_readEntries (wsV RX4 49 RX4 yX4_readNumber wsX4_readNumber) := goodIn_app (goodIn_of _ (by decide +kernel)) ggX4_readEntries_X4_readNumber
set_option maxRecDepth 20000 in
theorem ggX4_readEntries_X5_isColumn : GoodIn wsX4_readEntries wsX5_isColumn := goodIn_r _ [35] (by decide +kernel) (by decide +kernel)
set_option maxRecDepth 20000 in
theorem gX4_readEntries_X5_isColumn_n65 : GoodIn wsX4_readEntries (wsX5_isColumn) := ggX4_readEntries_X5_isColumn
set_option maxRecDepth 20000 in
theorem ggX4_readEntries_X4_allowNumber : GoodIn wsX4_readEntries wsX4_allowNumber := goodIn_r _ [39, 24, 9, 40, 41, 42, 43, 44, 45, 46, 47] (by decide +kernel) (by decide +kernel)
set_option maxRecDepth 20000 in
theorem gX4_readEntries_X4_allowNumber : GoodIn wsX4_readEntries (wsV RX4 68 RX4 yX4_allowNumber wsX4_allowNumber) := goodIn_app (goodIn_of _ (by decide +kernel)) ggX4_readEntries_X4_allowNumber
theorem dX4_readEntries_0 : decode cX4_readEntries 0 = .ok (.aload_n 0, 1) := by decide +kernel
theorem dX4_readEntries_1 : decode cX4_readEntries 1 = .ok (.bipush 59, 2) := by decide +kernel
theorem dX4_readEntries_3 : decode cX4_readEntries 3 = .ok (.invokevirtual 58, 3) := by decide +kernel
theorem dX4_readEntries_6 : decode cX4_readEntries 6 = .ok (.ifCond .eq 5, 3) := by decide +kernel
theorem dX4_readEntries_9 : decode cX4_readEntries 9 = .ok (.iconst 1, 1) := by decide +kernel
theorem dX4_readEntries_10 : decode cX4_readEntries 10 = .ok (.ireturn, 1) := by decide +kernel
theorem dX4_readEntries_11 : decode cX4_readEntries 11 = .ok (.iconst (-1), 1) := by decide +kernel
theorem dX4_readEntries_12 : decode cX4_readEntries 12 = .ok (.istore_n 2, 1) := by decide +kernel
theorem dX4_readEntries_13 : decode cX4_readEntries 13 = .ok (.iconst 0, 1) := by decide +kernel
theorem dX4_readEntries_14 : decode cX4_readEntries 14 = .ok (.istore_n 3, 1) := by decide +kernel
theorem dX4_readEntries_15 : decode cX4_readEntries 15 = .ok (.iload_n 3, 1) := by decide +kernel
theorem dX4_readEntries_16 : decode cX4_readEntries 16 = .ok (.bipush 16, 2) := by decide +kernel
theorem dX4_readEntries_18 : decode cX4_readEntries 18 = .ok (.if_icmp .gt 138, 3) := by decide +kernel
theorem dX4_readEntries_21 : decode cX4_readEntries 21 = .ok (.aload_n 0, 1) := by decide +kernel
theorem dX4_readEntries_22 : decode cX4_readEntries 22 = .ok (.invokevirtual 49, 3) := by decide +kernel
theorem dX4_readEntries_25 : decode cX4_readEntries 25 = .ok (.ifCond .eq 33, 3) := by decide +kernel
theorem dX4_readEntries_28 : decode cX4_readEntries 28 = .ok (.aload_n 0, 1) := by decide +kernel
theorem dX4_readEntries_29 : decode cX4_readEntries 29 = .ok (.aload_n 0, 1) := by decide +kernel
theorem dX4_readEntries_30 : decode cX4_readEntries 30 = .ok (.getfield 22, 3) := by decide +kernel
theorem dX4_readEntries_33 : decode cX4_readEntries 33 = .ok (.invokestatic 65, 3) := by decide +kernel
theorem dX4_readEntries_36 : decode cX4_readEntries 36 = .ok (.ifCond .eq 15, 3) := by decide +kernel
theorem dX4_readEntries_39 : decode cX4_readEntries 39 = .ok (.aload_n 0, 1) := by decide +kernel
theorem dX4_readEntries_40 : decode cX4_readEntries 40 = .ok (.getfield 22, 3) := by decide +kernel
theorem dX4_readEntries_43 : decode cX4_readEntries 43 = .ok (.iload_n 2, 1) := by decide +kernel
theorem dX4_readEntries_44 : decode cX4_readEntries 44 = .ok (.if_icmp .le 7, 3) := by decide +kernel
theorem dX4_readEntries_47 : decode cX4_readEntries 47 = .ok (.iconst 1, 1) := by decide +kernel
theorem dX4_readEntries_48 : decode cX4_readEntries 48 = .ok (.goto 4, 3) := by decide +kernel
theorem dX4_readEntries_51 : decode cX4_readEntries 51 = .ok (.iconst 0, 1) := by decide +kernel
theorem dX4_readEntries_52 : decode cX4_readEntries 52 = .ok (.invokevirtual 68, 3) := by decide +kernel
theorem dX4_readEntries_55 : decode cX4_readEntries 55 = .ok (.ifCond .ne 5, 3) := by decide +kernel
theorem dX4_readEntries_58 : decode cX4_readEntries 58 = .ok (.iconst 0, 1) := by decide +kernel
theorem dX4_readEntries_59 : decode cX4_readEntries 59 = .ok (.ireturn, 1) := by decide +kernel
theorem dX4_readEntries_60 : decode cX4_readEntries 60 = .ok (.aload_n 0, 1) := by decide +kernel
theorem dX4_readEntries_61 : decode cX4_readEntries 61 = .ok (.getfield 22, 3) := by decide +kernel
theorem dX4_readEntries_64 : decode cX4_readEntries 64 = .ok (.istore 4, 2) := by decide +kernel
theorem dX4_readEntries_66 : decode cX4_readEntries 66 = .ok (.aload_n 0, 1) := by decide +kernel
theorem dX4_readEntries_67 : decode cX4_readEntries 67 = .ok (.bipush 61, 2) := by decide +kernel
theorem dX4_readEntries_69 : decode cX4_readEntries 69 = .ok (.invokevirtual 58, 3) := by decide +kernel
theorem dX4_readEntries_72 : decode cX4_readEntries 72 = .ok (.ifCond .eq 35, 3) := by decide +kernel
theorem dX4_readEntries_75 : decode cX4_readEntries 75 = .ok (.aload_n 0, 1) := by decide +kernel
theorem dX4_readEntries_76 : decode cX4_readEntries 76 = .ok (.invokevirtual 49, 3) := by decide +kernel
theorem dX4_readEntries_79 : decode cX4_readEntries 79 = .ok (.ifCond .eq 28, 3) := by decide +kernel
theorem dX4_readEntries_82 : decode cX4_readEntries 82 = .ok (.aload_n 0, 1) := by decide +kernel
theorem dX4_readEntries_83 : decode cX4_readEntries 83 = .ok (.aload_n 0, 1) := by decide +kernel
theorem dX4_readEntries_84 : decode cX4_readEntries 84 = .ok (.getfield 22, 3) := by decide +kernel
theorem dX4_readEntries_87 : decode cX4_readEntries 87 = .ok (.aload_n 0, 1) := by decide +kernel
theorem dX4_readEntries_88 : decode cX4_readEntries 88 = .ok (.getfield 31, 3) := by decide +kernel
theorem dX4_readEntries_91 : decode cX4_readEntries 91 = .ok (.iload_n 1, 1) := by decide +kernel
theorem dX4_readEntries_92 : decode cX4_readEntries 92 = .ok (.iaload, 1) := by decide +kernel
theorem dX4_readEntries_93 : decode cX4_readEntries 93 = .ok (.if_icmp .eq 7, 3) := by decide +kernel
theorem dX4_readEntries_96 : decode cX4_readEntries 96 = .ok (.iconst 1, 1) := by decide +kernel
theorem dX4_readEntries_97 : decode cX4_readEntries 97 = .ok (.goto 4, 3) := by decide +kernel
theorem dX4_readEntries_100 : decode cX4_readEntries 100 = .ok (.iconst 0, 1) := by decide +kernel
theorem dX4_readEntries_101 : decode cX4_readEntries 101 = .ok (.invokevirtual 68, 3) := by decide +kernel
theorem dX4_readEntries_104 : decode cX4_readEntries 104 = .ok (.ifCond .ne 5, 3) := by decide +kernel
theorem dX4_readEntries_107 : decode cX4_readEntries 107 = .ok (.iconst 0, 1) := by decide +kernel
theorem dX4_readEntries_108 : decode cX4_readEntries 108 = .ok (.ireturn, 1) := by decide +kernel
theorem dX4_readEntries_109 : decode cX4_readEntries 109 = .ok (.aload_n 0, 1) := by decide +kernel
theorem dX4_readEntries_110 : decode cX4_readEntries 110 = .ok (.getfield 35, 3) := by decide +kernel
theorem dX4_readEntries_113 : decode cX4_readEntries 113 = .ok (.iload_n 1, 1) := by decide +kernel
theorem dX4_readEntries_114 : decode cX4_readEntries 114 = .ok (.bipush 16, 2) := by decide +kernel
theorem dX4_readEntries_116 : decode cX4_readEntries 116 = .ok (.imul, 1) := by decide +kernel
theorem dX4_readEntries_117 : decode cX4_readEntries 117 = .ok (.iload 4, 2) := by decide +kernel
theorem dX4_readEntries_119 : decode cX4_readEntries 119 = .ok (.iadd, 1) := by decide +kernel
theorem dX4_readEntries_120 : decode cX4_readEntries 120 = .ok (.aload_n 0, 1) := by decide +kernel
theorem dX4_readEntries_121 : decode cX4_readEntries 121 = .ok (.getfield 22, 3) := by decide +kernel
theorem dX4_readEntries_124 : decode cX4_readEntries 124 = .ok (.iastore, 1) := by decide +kernel
theorem dX4_readEntries_125 : decode cX4_readEntries 125 = .ok (.aload_n 0, 1) := by decide +kernel
theorem dX4_readEntries_126 : decode cX4_readEntries 126 = .ok (.bipush 59, 2) := by decide +kernel
theorem dX4_readEntries_128 : decode cX4_readEntries 128 = .ok (.invokevirtual 58, 3) := by decide +kernel
theorem dX4_readEntries_131 : decode cX4_readEntries 131 = .ok (.ifCond .eq 5, 3) := by decide +kernel
theorem dX4_readEntries_134 : decode cX4_readEntries 134 = .ok (.iconst 1, 1) := by decide +kernel
theorem dX4_readEntries_135 : decode cX4_readEntries 135 = .ok (.ireturn, 1) := by decide +kernel
theorem dX4_readEntries_136 : decode cX4_readEntries 136 = .ok (.aload_n 0, 1) := by decide +kernel
theorem dX4_readEntries_137 : decode cX4_readEntries 137 = .ok (.bipush 44, 2) := by decide +kernel
theorem dX4_readEntries_139 : decode cX4_readEntries 139 = .ok (.invokevirtual 58, 3) := by decide +kernel
theorem dX4_readEntries_142 : decode cX4_readEntries 142 = .ok (.ifCond .ne 5, 3) := by decide +kernel
theorem dX4_readEntries_145 : decode cX4_readEntries 145 = .ok (.iconst 0, 1) := by decide +kernel
theorem dX4_readEntries_146 : decode cX4_readEntries 146 = .ok (.ireturn, 1) := by decide +kernel
theorem dX4_readEntries_147 : decode cX4_readEntries 147 = .ok (.iload 4, 2) := by decide +kernel
theorem dX4_readEntries_149 : decode cX4_readEntries 149 = .ok (.istore_n 2, 1) := by decide +kernel
theorem dX4_readEntries_150 : decode cX4_readEntries 150 = .ok (.iinc 3 1, 3) := by decide +kernel
theorem dX4_readEntries_153 : decode cX4_readEntries 153 = .ok (.goto (-138), 3) := by decide +kernel
theorem dX4_readEntries_156 : decode cX4_readEntries 156 = .ok (.iconst 0, 1) := by decide +kernel
theorem dX4_readEntries_157 : decode cX4_readEntries 157 = .ok (.ireturn, 1) := by decide +kernel
theorem dX4_allowNumber_0 : decode cX4_allowNumber 0 = .ok (.iload_n 1, 1) := by decide +kernel
theorem dX4_allowNumber_1 : decode cX4_allowNumber 1 = .ok (.ifCond .ne 11, 3) := by decide +kernel
theorem dX4_allowNumber_4 : decode cX4_allowNumber 4 = .ok (.aload_n 0, 1) := by decide +kernel
theorem dX4_allowNumber_5 : decode cX4_allowNumber 5 = .ok (.aload_n 0, 1) := by decide +kernel
theorem dX4_allowNumber_6 : decode cX4_allowNumber 6 = .ok (.getfield 25, 3) := by decide +kernel
theorem dX4_allowNumber_9 : decode cX4_allowNumber 9 = .ok (.putfield 19, 3) := by decide +kernel
theorem dX4_allowNumber_12 : decode cX4_allowNumber 12 = .ok (.iload_n 1, 1) := by decide +kernel
theorem dX4_allowNumber_13 : decode cX4_allowNumber 13 = .ok (.ireturn, 1) := by decide +kernel
set_option maxRecDepth 20000 in
theorem ggX4_readNumber_X4_skipSpaces : GoodIn wsX4_readNumber wsX4_skipSpaces := goodIn_r _ [8, 1, 9, 10, 11, 12, 7, 13, 14, 23, 24, 25, 26, 27, 28, 29, 30] (by decide +kernel) (by decide +kernel)
set_option maxRecDepth 20000 in
theorem gX4_readNumber_X4_skipSpaces : GoodIn wsX4_readNumber (wsV RX4 38 RX4 yX4_skipSpaces wsX4_skipSpaces) := goodIn_app (goodIn_of _ (by decide +kernel)) ggX4_readNumber_X4_skipSpaces
set_option maxRecDepth 20000 in
theorem ggX4_readNumber_X4_isDigitHere : GoodIn wsX4_readNumber wsX4_isDigitHere := goodIn_r _ [18, 10, 11, 12, 7, 13, 1, 9, 14, 23, 24, 25, 26, 27, 28, 29, 30] (by decide +kernel) (by decide +kernel)
set_option maxRecDepth 20000 in
theorem gX4_readNumber_X4_isDigitHere : GoodIn wsX4_readNumber (wsV RX4 45 RX4 yX4_isDigitHere wsX4_isDigitHere) := goodIn_app (goodIn_of _ (by decide +kernel)) ggX4_readNumber_X4_isDigitHere
set_option maxRecDepth 20000 in
theorem ggX4_readNumber_X4_takeDigit : GoodIn wsX4_readNumber wsX4_takeDigit := goodIn_r _ [22, 1, 10, 11, 12, 7, 13, 9, 14, 23, 24, 25, 26, 27, 28, 29, 30] (by decide +kernel) (by decide +kernel)
set_option maxRecDepth 20000 in
theorem gX4_readNumber_X4_takeDigit : GoodIn wsX4_readNumber (wsV RX4 72 RX4 yX4_takeDigit wsX4_takeDigit) := goodIn_app (goodIn_of _ (by decide +kernel)) ggX4_readNumber_X4_takeDigit
theorem dX4_readNumber_0 : decode cX4_readNumber 0 = .ok (.aload_n 0, 1) := by decide +kernel
theorem dX4_readNumber_1 : decode cX4_readNumber 1 = .ok (.invokevirtual 38, 3) := by decide +kernel
theorem dX4_readNumber_4 : decode cX4_readNumber 4 = .ok (.aload_n 0, 1) := by decide +kernel
theorem dX4_readNumber_5 : decode cX4_readNumber 5 = .ok (.invokevirtual 45, 3) := by decide +kernel
theorem dX4_readNumber_8 : decode cX4_readNumber 8 = .ok (.ifCond .ne 5, 3) := by decide +kernel
theorem dX4_readNumber_11 : decode cX4_readNumber 11 = .ok (.iconst 0, 1) := by decide +kernel
theorem dX4_readNumber_12 : decode cX4_readNumber 12 = .ok (.ireturn, 1) := by decide +kernel
theorem dX4_readNumber_13 : decode cX4_readNumber 13 = .ok (.aload_n 0, 1) := by decide +kernel
theorem dX4_readNumber_14 : decode cX4_readNumber 14 = .ok (.aload_n 0, 1) := by decide +kernel
theorem dX4_readNumber_15 : decode cX4_readNumber 15 = .ok (.getfield 19, 3) := by decide +kernel
theorem dX4_readNumber_18 : decode cX4_readNumber 18 = .ok (.putfield 25, 3) := by decide +kernel
theorem dX4_readNumber_21 : decode cX4_readNumber 21 = .ok (.aload_n 0, 1) := by decide +kernel
theorem dX4_readNumber_22 : decode cX4_readNumber 22 = .ok (.aload_n 0, 1) := by decide +kernel
theorem dX4_readNumber_23 : decode cX4_readNumber 23 = .ok (.invokevirtual 72, 3) := by decide +kernel
theorem dX4_readNumber_26 : decode cX4_readNumber 26 = .ok (.putfield 22, 3) := by decide +kernel
theorem dX4_readNumber_29 : decode cX4_readNumber 29 = .ok (.aload_n 0, 1) := by decide +kernel
theorem dX4_readNumber_30 : decode cX4_readNumber 30 = .ok (.getfield 22, 3) := by decide +kernel
theorem dX4_readNumber_33 : decode cX4_readNumber 33 = .ok (.ifCond .eq 26, 3) := by decide +kernel
theorem dX4_readNumber_36 : decode cX4_readNumber 36 = .ok (.aload_n 0, 1) := by decide +kernel
theorem dX4_readNumber_37 : decode cX4_readNumber 37 = .ok (.invokevirtual 45, 3) := by decide +kernel
theorem dX4_readNumber_40 : decode cX4_readNumber 40 = .ok (.ifCond .eq 19, 3) := by decide +kernel
theorem dX4_readNumber_43 : decode cX4_readNumber 43 = .ok (.aload_n 0, 1) := by decide +kernel
theorem dX4_readNumber_44 : decode cX4_readNumber 44 = .ok (.aload_n 0, 1) := by decide +kernel
theorem dX4_readNumber_45 : decode cX4_readNumber 45 = .ok (.getfield 22, 3) := by decide +kernel
theorem dX4_readNumber_48 : decode cX4_readNumber 48 = .ok (.bipush 10, 2) := by decide +kernel
theorem dX4_readNumber_50 : decode cX4_readNumber 50 = .ok (.imul, 1) := by decide +kernel
theorem dX4_readNumber_51 : decode cX4_readNumber 51 = .ok (.aload_n 0, 1) := by decide +kernel
theorem dX4_readNumber_52 : decode cX4_readNumber 52 = .ok (.invokevirtual 72, 3) := by decide +kernel
theorem dX4_readNumber_55 : decode cX4_readNumber 55 = .ok (.iadd, 1) := by decide +kernel
theorem dX4_readNumber_56 : decode cX4_readNumber 56 = .ok (.putfield 22, 3) := by decide +kernel
theorem dX4_readNumber_59 : decode cX4_readNumber 59 = .ok (.aload_n 0, 1) := by decide +kernel
theorem dX4_readNumber_60 : decode cX4_readNumber 60 = .ok (.invokevirtual 45, 3) := by decide +kernel
theorem dX4_readNumber_63 : decode cX4_readNumber 63 = .ok (.ifCond .ne 7, 3) := by decide +kernel
theorem dX4_readNumber_66 : decode cX4_readNumber 66 = .ok (.iconst 1, 1) := by decide +kernel
theorem dX4_readNumber_67 : decode cX4_readNumber 67 = .ok (.goto 4, 3) := by decide +kernel
theorem dX4_readNumber_70 : decode cX4_readNumber 70 = .ok (.iconst 0, 1) := by decide +kernel
theorem dX4_readNumber_71 : decode cX4_readNumber 71 = .ok (.ireturn, 1) := by decide +kernel
set_option maxRecDepth 20000 in
theorem ggX4_takeDigit_X4_signHere : GoodIn wsX4_takeDigit wsX4_signHere := goodIn_r _ [6, 1, 7, 8, 9, 10, 11, 12, 13, 14, 15, 16] (by decide +kernel) (by decide +kernel)
set_option maxRecDepth 20000 in
theorem gX4_takeDigit_X4_signHere : GoodIn wsX4_takeDigit (wsV RX4 76 RX4 yX4_signHere wsX4_signHere) := goodIn_app (goodIn_of _ (by decide +kernel)) ggX4_takeDigit_X4_signHere
theorem dX4_takeDigit_0 : decode cX4_takeDigit 0 = .ok (.aload_n 0, 1) := by decide +kernel
theorem dX4_takeDigit_1 : decode cX4_takeDigit 1 = .ok (.invokevirtual 76, 3) := by decide +kernel
theorem dX4_takeDigit_4 : decode cX4_takeDigit 4 = .ok (.bipush 48, 2) := by decide +kernel
theorem dX4_takeDigit_6 : decode cX4_takeDigit 6 = .ok (.isub, 1) := by decide +kernel
theorem dX4_takeDigit_7 : decode cX4_takeDigit 7 = .ok (.istore_n 1, 1) := by decide +kernel
theorem dX4_takeDigit_8 : decode cX4_takeDigit 8 = .ok (.aload_n 0, 1) := by decide +kernel
theorem dX4_takeDigit_9 : decode cX4_takeDigit 9 = .ok (.dup, 1) := by decide +kernel
theorem dX4_takeDigit_10 : decode cX4_takeDigit 10 = .ok (.getfield 19, 3) := by decide +kernel
theorem dX4_takeDigit_13 : decode cX4_takeDigit 13 = .ok (.iconst 1, 1) := by decide +kernel
theorem dX4_takeDigit_14 : decode cX4_takeDigit 14 = .ok (.iadd, 1) := by decide +kernel
theorem dX4_takeDigit_15 : decode cX4_takeDigit 15 = .ok (.putfield 19, 3) := by decide +kernel
theorem dX4_takeDigit_18 : decode cX4_takeDigit 18 = .ok (.iload_n 1, 1) := by decide +kernel
theorem dX4_takeDigit_19 : decode cX4_takeDigit 19 = .ok (.ireturn, 1) := by decide +kernel
set_option maxRecDepth 20000 in
theorem ggX4_takeSign_X4_skipSpaces : GoodIn wsX4_takeSign wsX4_skipSpaces := goodIn_r _ [6, 1, 7, 8, 9, 10, 5, 11, 12, 13, 14, 15, 16, 17, 18, 19, 20] (by decide +kernel) (by decide +kernel)
set_option maxRecDepth 20000 in
theorem gX4_takeSign_X4_skipSpaces : GoodIn wsX4_takeSign (wsV RX4 38 RX4 yX4_skipSpaces wsX4_skipSpaces) := goodIn_app (goodIn_of _ (by decide +kernel)) ggX4_takeSign_X4_skipSpaces
set_option maxRecDepth 20000 in
theorem ggX4_takeSign_X4_signHere : GoodIn wsX4_takeSign wsX4_signHere := goodIn_r _ [11, 1, 7, 12, 13, 14, 15, 16, 17, 18, 19, 20] (by decide +kernel) (by decide +kernel)
set_option maxRecDepth 20000 in
theorem gX4_takeSign_X4_signHere : GoodIn wsX4_takeSign (wsV RX4 76 RX4 yX4_signHere wsX4_signHere) := goodIn_app (goodIn_of _ (by decide +kernel)) ggX4_takeSign_X4_signHere
theorem dX4_takeSign_0 : decode cX4_takeSign 0 = .ok (.aload_n 0, 1) := by decide +kernel
theorem dX4_takeSign_1 : decode cX4_takeSign 1 = .ok (.invokevirtual 38, 3) := by decide +kernel
theorem dX4_takeSign_4 : decode cX4_takeSign 4 = .ok (.aload_n 0, 1) := by decide +kernel
theorem dX4_takeSign_5 : decode cX4_takeSign 5 = .ok (.invokevirtual 76, 3) := by decide +kernel
theorem dX4_takeSign_8 : decode cX4_takeSign 8 = .ok (.iload_n 1, 1) := by decide +kernel
theorem dX4_takeSign_9 : decode cX4_takeSign 9 = .ok (.if_icmp .eq 5, 3) := by decide +kernel
theorem dX4_takeSign_12 : decode cX4_takeSign 12 = .ok (.iconst 0, 1) := by decide +kernel
theorem dX4_takeSign_13 : decode cX4_takeSign 13 = .ok (.ireturn, 1) := by decide +kernel
theorem dX4_takeSign_14 : decode cX4_takeSign 14 = .ok (.aload_n 0, 1) := by decide +kernel
theorem dX4_takeSign_15 : decode cX4_takeSign 15 = .ok (.dup, 1) := by decide +kernel
theorem dX4_takeSign_16 : decode cX4_takeSign 16 = .ok (.getfield 19, 3) := by decide +kernel
theorem dX4_takeSign_19 : decode cX4_takeSign 19 = .ok (.iconst 1, 1) := by decide +kernel
theorem dX4_takeSign_20 : decode cX4_takeSign 20 = .ok (.iadd, 1) := by decide +kernel
theorem dX4_takeSign_21 : decode cX4_takeSign 21 = .ok (.putfield 19, 3) := by decide +kernel
theorem dX4_takeSign_24 : decode cX4_takeSign 24 = .ok (.iconst 1, 1) := by decide +kernel
theorem dX4_takeSign_25 : decode cX4_takeSign 25 = .ok (.ireturn, 1) := by decide +kernel
set_option maxRecDepth 20000 in
theorem ggX4_skipSpaces_X4_signHere : GoodIn wsX4_skipSpaces wsX4_signHere := goodIn_r _ [7, 1, 2, 8, 9, 10, 11, 12, 13, 14, 15, 16] (by decide +kernel) (by decide +kernel)
set_option maxRecDepth 20000 in
theorem gX4_skipSpaces_X4_signHere : GoodIn wsX4_skipSpaces (wsV RX4 76 RX4 yX4_signHere wsX4_signHere) := goodIn_app (goodIn_of _ (by decide +kernel)) ggX4_skipSpaces_X4_signHere
theorem dX4_skipSpaces_0 : decode cX4_skipSpaces 0 = .ok (.aload_n 0, 1) := by decide +kernel
theorem dX4_skipSpaces_1 : decode cX4_skipSpaces 1 = .ok (.getfield 19, 3) := by decide +kernel
theorem dX4_skipSpaces_4 : decode cX4_skipSpaces 4 = .ok (.aload_n 0, 1) := by decide +kernel
theorem dX4_skipSpaces_5 : decode cX4_skipSpaces 5 = .ok (.getfield 9, 3) := by decide +kernel
theorem dX4_skipSpaces_8 : decode cX4_skipSpaces 8 = .ok (.if_icmp .ge 25, 3) := by decide +kernel
theorem dX4_skipSpaces_11 : decode cX4_skipSpaces 11 = .ok (.aload_n 0, 1) := by decide +kernel
theorem dX4_skipSpaces_12 : decode cX4_skipSpaces 12 = .ok (.invokevirtual 76, 3) := by decide +kernel
theorem dX4_skipSpaces_15 : decode cX4_skipSpaces 15 = .ok (.bipush 32, 2) := by decide +kernel
theorem dX4_skipSpaces_17 : decode cX4_skipSpaces 17 = .ok (.if_icmp .ne 16, 3) := by decide +kernel
theorem dX4_skipSpaces_20 : decode cX4_skipSpaces 20 = .ok (.aload_n 0, 1) := by decide +kernel
theorem dX4_skipSpaces_21 : decode cX4_skipSpaces 21 = .ok (.dup, 1) := by decide +kernel
theorem dX4_skipSpaces_22 : decode cX4_skipSpaces 22 = .ok (.getfield 19, 3) := by decide +kernel
theorem dX4_skipSpaces_25 : decode cX4_skipSpaces 25 = .ok (.iconst 1, 1) := by decide +kernel
theorem dX4_skipSpaces_26 : decode cX4_skipSpaces 26 = .ok (.iadd, 1) := by decide +kernel
theorem dX4_skipSpaces_27 : decode cX4_skipSpaces 27 = .ok (.putfield 19, 3) := by decide +kernel
theorem dX4_skipSpaces_30 : decode cX4_skipSpaces 30 = .ok (.goto (-30), 3) := by decide +kernel
theorem dX4_skipSpaces_33 : decode cX4_skipSpaces 33 = .ok (.return_, 1) := by decide +kernel
set_option maxRecDepth 20000 in
theorem ggX4_isDigitHere_X4_signHere : GoodIn wsX4_isDigitHere wsX4_signHere := goodIn_r _ [5, 6, 7, 8, 9, 10, 11, 12, 13, 14, 15, 16] (by decide +kernel) (by decide +kernel)
set_option maxRecDepth 20000 in
theorem gX4_isDigitHere_X4_signHere : GoodIn wsX4_isDigitHere (wsV RX4 76 RX4 yX4_signHere wsX4_signHere) := goodIn_app (goodIn_of _ (by decide +kernel)) ggX4_isDigitHere_X4_signHere
theorem dX4_isDigitHere_0 : decode cX4_isDigitHere 0 = .ok (.aload_n 0, 1) := by decide +kernel
theorem dX4_isDigitHere_1 : decode cX4_isDigitHere 1 = .ok (.invokevirtual 76, 3) := by decide +kernel
theorem dX4_isDigitHere_4 : decode cX4_isDigitHere 4 = .ok (.bipush 48, 2) := by decide +kernel
theorem dX4_isDigitHere_6 : decode cX4_isDigitHere 6 = .ok (.if_icmp .lt 16, 3) := by decide +kernel
theorem dX4_isDigitHere_9 : decode cX4_isDigitHere 9 = .ok (.aload_n 0, 1) := by decide +kernel
theorem dX4_isDigitHere_10 : decode cX4_isDigitHere 10 = .ok (.invokevirtual 76, 3) := by decide +kernel
theorem dX4_isDigitHere_13 : decode cX4_isDigitHere 13 = .ok (.bipush 57, 2) := by decide +kernel
theorem dX4_isDigitHere_15 : decode cX4_isDigitHere 15 = .ok (.if_icmp .gt 7, 3) := by decide +kernel
theorem dX4_isDigitHere_18 : decode cX4_isDigitHere 18 = .ok (.iconst 1, 1) := by decide +kernel
theorem dX4_isDigitHere_19 : decode cX4_isDigitHere 19 = .ok (.goto 4, 3) := by decide +kernel
theorem dX4_isDigitHere_22 : decode cX4_isDigitHere 22 = .ok (.iconst 0, 1) := by decide +kernel
theorem dX4_isDigitHere_23 : decode cX4_isDigitHere 23 = .ok (.ireturn, 1) := by decide +kernel
theorem dX4_signHere_0 : decode cX4_signHere 0 = .ok (.aload_n 0, 1) := by decide +kernel
theorem dX4_signHere_1 : decode cX4_signHere 1 = .ok (.getfield 19, 3) := by decide +kernel
theorem dX4_signHere_4 : decode cX4_signHere 4 = .ok (.ifCond .lt 26, 3) := by decide +kernel
theorem dX4_signHere_7 : decode cX4_signHere 7 = .ok (.aload_n 0, 1) := by decide +kernel
theorem dX4_signHere_8 : decode cX4_signHere 8 = .ok (.getfield 19, 3) := by decide +kernel
theorem dX4_signHere_11 : decode cX4_signHere 11 = .ok (.aload_n 0, 1) := by decide +kernel
theorem dX4_signHere_12 : decode cX4_signHere 12 = .ok (.getfield 9, 3) := by decide +kernel
theorem dX4_signHere_15 : decode cX4_signHere 15 = .ok (.if_icmp .ge 15, 3) := by decide +kernel
theorem dX4_signHere_18 : decode cX4_signHere 18 = .ok (.aload_n 0, 1) := by decide +kernel
theorem dX4_signHere_19 : decode cX4_signHere 19 = .ok (.getfield 15, 3) := by decide +kernel
theorem dX4_signHere_22 : decode cX4_signHere 22 = .ok (.aload_n 0, 1) := by decide +kernel
theorem dX4_signHere_23 : decode cX4_signHere 23 = .ok (.getfield 19, 3) := by decide +kernel
theorem dX4_signHere_26 : decode cX4_signHere 26 = .ok (.caload, 1) := by decide +kernel
theorem dX4_signHere_27 : decode cX4_signHere 27 = .ok (.goto 4, 3) := by decide +kernel
theorem dX4_signHere_30 : decode cX4_signHere 30 = .ok (.iconst 0, 1) := by decide +kernel
theorem dX4_signHere_31 : decode cX4_signHere 31 = .ok (.ireturn, 1) := by decide +kernel
end
section
set_option maxRecDepth 20000 in
theorem ggX5_init_X3_init : GoodIn wsX5_init wsX3_init := goodIn_r _ [18, 19, 2, 3, 20, 21, 22, 23, 24, 25, 26, 27, 28, 29, 30, 31, 32, 33, 34, 35, 36, 37, 38, 39, 40, 41, 42, 43, 44, 45, 46, 47, 48, 49, 50, 51, 52, 53, 54, 55, 56, 93, 94, 95, 96, 97, 77, 78, 98, 99] (by decide +kernel) (by decide +kernel)
set_option maxRecDepth 20000 in
theorem gX5_init_X3_init_n11 : GoodIn wsX5_init (wsX3_init) := ggX5_init_X3_init
set_option maxRecDepth 20000 in
theorem ggX5_init_X0_init : GoodIn wsX5_init wsX0_init := goodIn_r _ [59, 60, 2, 3, 61, 62, 63, 21, 22, 64, 29, 30, 31, 32, 33, 34, 35, 36, 37, 38, 39, 40, 41, 42, 43, 44, 45, 83, 84, 93, 94, 95, 96, 97] (by decide +kernel) (by decide +kernel)
set_option maxRecDepth 20000 in
theorem gX5_init_X0_init : GoodIn wsX5_init (wsX0_init) := ggX5_init_X0_init
set_option maxRecDepth 20000 in
theorem ggX5_init_X4_init : GoodIn wsX5_init wsX4_init := goodIn_r _ [66, 67, 2, 3, 68, 69, 70, 71, 72, 73, 74, 33, 75, 76, 85, 86, 87, 88, 89, 90, 91, 92] (by decide +kernel) (by decide +kernel)
set_option maxRecDepth 20000 in
theorem gX5_init_X4_init_n28 : GoodIn wsX5_init (wsX4_init) := ggX5_init_X4_init
theorem dX5_init_0 : decode cX5_init 0 = .ok (.aload_n 0, 1) := by decide +kernel
theorem dX5_init_1 : decode cX5_init 1 = .ok (.invokespecial 3, 3) := by decide +kernel
theorem dX5_init_4 : decode cX5_init 4 = .ok (.aload_n 0, 1) := by decide +kernel
theorem dX5_init_5 : decode cX5_init 5 = .ok (.new 9, 3) := by decide +kernel
theorem dX5_init_8 : decode cX5_init 8 = .ok (.dup, 1) := by decide +kernel
theorem dX5_init_9 : decode cX5_init 9 = .ok (.invokespecial 11, 3) := by decide +kernel
theorem dX5_init_12 : decode cX5_init 12 = .ok (.putfield 12, 3) := by decide +kernel
theorem dX5_init_15 : decode cX5_init 15 = .ok (.aload_n 0, 1) := by decide +kernel
theorem dX5_init_16 : decode cX5_init 16 = .ok (.new 9, 3) := by decide +kernel
theorem dX5_init_19 : decode cX5_init 19 = .ok (.dup, 1) := by decide +kernel
theorem dX5_init_20 : decode cX5_init 20 = .ok (.invokespecial 11, 3) := by decide +kernel
theorem dX5_init_23 : decode cX5_init 23 = .ok (.putfield 16, 3) := by decide +kernel
theorem dX5_init_26 : decode cX5_init 26 = .ok (.aload_n 0, 1) := by decide +kernel
theorem dX5_init_27 : decode cX5_init 27 = .ok (.new 19, 3) := by decide +kernel
theorem dX5_init_30 : decode cX5_init 30 = .ok (.dup, 1) := by decide +kernel
theorem dX5_init_31 : decode cX5_init 31 = .ok (.invokespecial 21, 3) := by decide +kernel
theorem dX5_init_34 : decode cX5_init 34 = .ok (.putfield 22, 3) := by decide +kernel
theorem dX5_init_37 : decode cX5_init 37 = .ok (.aload_n 0, 1) := by decide +kernel
theorem dX5_init_38 : decode cX5_init 38 = .ok (.new 26, 3) := by decide +kernel
theorem dX5_init_41 : decode cX5_init 41 = .ok (.dup, 1) := by decide +kernel
theorem dX5_init_42 : decode cX5_init 42 = .ok (.invokespecial 28, 3) := by decide +kernel
theorem dX5_init_45 : decode cX5_init 45 = .ok (.putfield 29, 3) := by decide +kernel
theorem dX5_init_48 : decode cX5_init 48 = .ok (.return_, 1) := by decide +kernel
set_option maxRecDepth 20000 in
theorem ggX5_add_X5_isValue : GoodIn wsX5_add wsX5_isValue := goodIn_r _ [8] (by decide +kernel) (by decide +kernel)
set_option maxRecDepth 20000 in
theorem gX5_add_X5_isValue : GoodIn wsX5_add (va_wsS RX5 33 yX5_isValue wsX5_isValue) := goodIn_app (goodIn_of _ (by decide +kernel)) ggX5_add_X5_isValue
set_option maxRecDepth 20000 in
theorem ggX5_add_X0_remember : GoodIn wsX5_add wsX0_remember := goodIn_r _ [13, 14, 15, 16, 17, 18, 12, 19, 20, 21, 22, 23, 24, 25, 26, 27, 28, 29, 30, 31, 32, 33, 56, 57, 51, 52, 53, 54, 55] (by decide +kernel) (by decide +kernel)
set_option maxRecDepth 20000 in
theorem gX5_add_X0_remember : GoodIn wsX5_add (wsV RX5 47 RX0 yX0_remember wsX0_remember) := goodIn_app (goodIn_of _ (by decide +kernel)) ggX5_add_X0_remember
set_option maxRecDepth 20000 in
theorem ggX5_add_X1_addRow : GoodIn wsX5_add wsX1_addRow := goodIn_r _ [37, 25, 26, 31, 32, 38, 39, 40, 41, 42, 43, 44, 51, 52, 53, 54, 55] (by decide +kernel) (by decide +kernel)
set_option maxRecDepth 20000 in
theorem gX5_add_X1_addRow : GoodIn wsX5_add (wsV RX5 51 RX1 yX1_addRow wsX1_addRow) := goodIn_app (goodIn_of _ (by decide +kernel)) ggX5_add_X1_addRow
theorem dX5_add_0 : decode cX5_add 0 = .ok (.iload_n 1, 1) := by decide +kernel
theorem dX5_add_1 : decode cX5_add 1 = .ok (.invokestatic 33, 3) := by decide +kernel
theorem dX5_add_4 : decode cX5_add 4 = .ok (.ifCond .ne 5, 3) := by decide +kernel
theorem dX5_add_7 : decode cX5_add 7 = .ok (.iconst (-1), 1) := by decide +kernel
theorem dX5_add_8 : decode cX5_add 8 = .ok (.ireturn, 1) := by decide +kernel
theorem dX5_add_9 : decode cX5_add 9 = .ok (.aload_n 0, 1) := by decide +kernel
theorem dX5_add_10 : decode cX5_add 10 = .ok (.getfield 12, 3) := by decide +kernel
theorem dX5_add_13 : decode cX5_add 13 = .ok (.getfield 37, 3) := by decide +kernel
theorem dX5_add_16 : decode cX5_add 16 = .ok (.getfield 41, 3) := by decide +kernel
theorem dX5_add_19 : decode cX5_add 19 = .ok (.bipush 24, 2) := by decide +kernel
theorem dX5_add_21 : decode cX5_add 21 = .ok (.if_icmp .lt 6, 3) := by decide +kernel
theorem dX5_add_24 : decode cX5_add 24 = .ok (.bipush (-3), 2) := by decide +kernel
theorem dX5_add_26 : decode cX5_add 26 = .ok (.ireturn, 1) := by decide +kernel
theorem dX5_add_27 : decode cX5_add 27 = .ok (.aload_n 0, 1) := by decide +kernel
theorem dX5_add_28 : decode cX5_add 28 = .ok (.getfield 22, 3) := by decide +kernel
theorem dX5_add_31 : decode cX5_add 31 = .ok (.aload_n 0, 1) := by decide +kernel
theorem dX5_add_32 : decode cX5_add 32 = .ok (.getfield 12, 3) := by decide +kernel
theorem dX5_add_35 : decode cX5_add 35 = .ok (.getfield 37, 3) := by decide +kernel
theorem dX5_add_38 : decode cX5_add 38 = .ok (.invokevirtual 47, 3) := by decide +kernel
theorem dX5_add_41 : decode cX5_add 41 = .ok (.aload_n 0, 1) := by decide +kernel
theorem dX5_add_42 : decode cX5_add 42 = .ok (.getfield 12, 3) := by decide +kernel
theorem dX5_add_45 : decode cX5_add 45 = .ok (.getfield 37, 3) := by decide +kernel
theorem dX5_add_48 : decode cX5_add 48 = .ok (.iload_n 1, 1) := by decide +kernel
theorem dX5_add_49 : decode cX5_add 49 = .ok (.invokevirtual 51, 3) := by decide +kernel
theorem dX5_add_52 : decode cX5_add 52 = .ok (.ireturn, 1) := by decide +kernel
set_option maxRecDepth 20000 in
theorem ggX5_set_X5_isRow : GoodIn wsX5_set wsX5_isRow := goodIn_r _ [8, 2, 3, 9, 127, 128, 129, 130, 131, 132, 133, 134, 135, 136, 137] (by decide +kernel) (by decide +kernel)
set_option maxRecDepth 20000 in
theorem gX5_set_X5_isRow : GoodIn wsX5_set (wsV RX5 55 RX5 yX5_isRow wsX5_isRow) := goodIn_app (goodIn_of _ (by decide +kernel)) ggX5_set_X5_isRow
set_option maxRecDepth 20000 in
theorem ggX5_set_X5_isColumn : GoodIn wsX5_set wsX5_isColumn := goodIn_r _ [12] (by decide +kernel) (by decide +kernel)
set_option maxRecDepth 20000 in
theorem gX5_set_X5_isColumn : GoodIn wsX5_set (va_wsS RX5 58 yX5_isColumn wsX5_isColumn) := goodIn_app (goodIn_of _ (by decide +kernel)) ggX5_set_X5_isColumn
set_option maxRecDepth 20000 in
theorem ggX5_set_X5_isValue : GoodIn wsX5_set wsX5_isValue := goodIn_r _ [15] (by decide +kernel) (by decide +kernel)
set_option maxRecDepth 20000 in
theorem gX5_set_X5_isValue : GoodIn wsX5_set (va_wsS RX5 33 yX5_isValue wsX5_isValue) := goodIn_app (goodIn_of _ (by decide +kernel)) ggX5_set_X5_isValue
set_option maxRecDepth 20000 in
theorem ggX5_set_X0_remember : GoodIn wsX5_set wsX0_remember := goodIn_r _ [20, 21, 22, 23, 24, 25, 19, 26, 27, 28, 29, 30, 31, 32, 33, 34, 35, 36, 37, 38, 39, 40, 138, 139, 133, 134, 135, 136, 137] (by decide +kernel) (by decide +kernel)
set_option maxRecDepth 20000 in
theorem gX5_set_X0_remember : GoodIn wsX5_set (wsV RX5 47 RX0 yX0_remember wsX0_remember) := goodIn_app (goodIn_of _ (by decide +kernel)) ggX5_set_X0_remember
set_option maxRecDepth 20000 in
theorem ggX5_set_X1_valueAt : GoodIn wsX5_set wsX1_valueAt := goodIn_r _ [44, 38, 133, 134, 135, 136, 137] (by decide +kernel) (by decide +kernel)
set_option maxRecDepth 20000 in
theorem gX5_set_X1_valueAt : GoodIn wsX5_set (wsV RX5 61 RX1 yX1_valueAt wsX1_valueAt) := goodIn_app (goodIn_of _ (by decide +kernel)) ggX5_set_X1_valueAt
set_option maxRecDepth 20000 in
theorem ggX5_set_X1_changeValue : GoodIn wsX5_set wsX1_changeValue := goodIn_r _ [48, 38, 133, 134, 135, 136, 137] (by decide +kernel) (by decide +kernel)
set_option maxRecDepth 20000 in
theorem gX5_set_X1_changeValue : GoodIn wsX5_set (wsV RX5 65 RX1 yX1_changeValue wsX1_changeValue) := goodIn_app (goodIn_of _ (by decide +kernel)) ggX5_set_X1_changeValue
set_option maxRecDepth 20000 in
theorem ggX5_set_X3_settle : GoodIn wsX5_set wsX3_settle := goodIn_r _ [53, 54, 55, 56, 57, 58, 52, 59, 60, 61, 62, 63, 64, 65, 30, 66, 40, 67, 68, 69, 70, 33, 71, 42, 43, 44, 38, 72, 73, 74, 75, 76, 77, 78, 79, 80, 81, 32, 39, 82, 83, 84, 85, 86, 87, 88, 89, 90, 91, 92, 93, 94, 95, 96, 97, 98, 99, 100, 101, 102, 103, 104, 105, 106, 107, 108, 109, 110, 111, 112, 113, 114, 115, 116, 117, 118, 119, 120, 121, 122, 123, 124, 125, 126, 131, 132, 133, 134, 135, 136, 137, 140, 141] (by decide +kernel) (by decide +kernel)
set_option maxRecDepth 20000 in
theorem gX5_set_X3_settle : GoodIn wsX5_set (wsV RX5 69 RX3 yX3_settle wsX3_settle) := goodIn_app (goodIn_of _ (by decide +kernel)) ggX5_set_X3_settle
theorem dX5_set_0 : decode cX5_set 0 = .ok (.aload_n 0, 1) := by decide +kernel
theorem dX5_set_1 : decode cX5_set 1 = .ok (.iload_n 1, 1) := by decide +kernel
theorem dX5_set_2 : decode cX5_set 2 = .ok (.invokevirtual 55, 3) := by decide +kernel
theorem dX5_set_5 : decode cX5_set 5 = .ok (.ifCond .eq 17, 3) := by decide +kernel
theorem dX5_set_8 : decode cX5_set 8 = .ok (.iload_n 2, 1) := by decide +kernel
theorem dX5_set_9 : decode cX5_set 9 = .ok (.invokestatic 58, 3) := by decide +kernel
theorem dX5_set_12 : decode cX5_set 12 = .ok (.ifCond .eq 10, 3) := by decide +kernel
theorem dX5_set_15 : decode cX5_set 15 = .ok (.iload_n 3, 1) := by decide +kernel
theorem dX5_set_16 : decode cX5_set 16 = .ok (.invokestatic 33, 3) := by decide +kernel
theorem dX5_set_19 : decode cX5_set 19 = .ok (.ifCond .ne 5, 3) := by decide +kernel
theorem dX5_set_22 : decode cX5_set 22 = .ok (.iconst (-1), 1) := by decide +kernel
theorem dX5_set_23 : decode cX5_set 23 = .ok (.ireturn, 1) := by decide +kernel
theorem dX5_set_24 : decode cX5_set 24 = .ok (.aload_n 0, 1) := by decide +kernel
theorem dX5_set_25 : decode cX5_set 25 = .ok (.getfield 22, 3) := by decide +kernel
theorem dX5_set_28 : decode cX5_set 28 = .ok (.aload_n 0, 1) := by decide +kernel
theorem dX5_set_29 : decode cX5_set 29 = .ok (.getfield 12, 3) := by decide +kernel
theorem dX5_set_32 : decode cX5_set 32 = .ok (.getfield 37, 3) := by decide +kernel
theorem dX5_set_35 : decode cX5_set 35 = .ok (.invokevirtual 47, 3) := by decide +kernel
theorem dX5_set_38 : decode cX5_set 38 = .ok (.aload_n 0, 1) := by decide +kernel
theorem dX5_set_39 : decode cX5_set 39 = .ok (.getfield 12, 3) := by decide +kernel
theorem dX5_set_42 : decode cX5_set 42 = .ok (.getfield 37, 3) := by decide +kernel
theorem dX5_set_45 : decode cX5_set 45 = .ok (.iload_n 1, 1) := by decide +kernel
theorem dX5_set_46 : decode cX5_set 46 = .ok (.iload_n 2, 1) := by decide +kernel
theorem dX5_set_47 : decode cX5_set 47 = .ok (.invokevirtual 61, 3) := by decide +kernel
theorem dX5_set_50 : decode cX5_set 50 = .ok (.istore 4, 2) := by decide +kernel
theorem dX5_set_52 : decode cX5_set 52 = .ok (.aload_n 0, 1) := by decide +kernel
theorem dX5_set_53 : decode cX5_set 53 = .ok (.getfield 12, 3) := by decide +kernel
theorem dX5_set_56 : decode cX5_set 56 = .ok (.getfield 37, 3) := by decide +kernel
theorem dX5_set_59 : decode cX5_set 59 = .ok (.iload_n 1, 1) := by decide +kernel
theorem dX5_set_60 : decode cX5_set 60 = .ok (.iload_n 2, 1) := by decide +kernel
theorem dX5_set_61 : decode cX5_set 61 = .ok (.iload_n 3, 1) := by decide +kernel
theorem dX5_set_62 : decode cX5_set 62 = .ok (.invokevirtual 65, 3) := by decide +kernel
theorem dX5_set_65 : decode cX5_set 65 = .ok (.aload_n 0, 1) := by decide +kernel
theorem dX5_set_66 : decode cX5_set 66 = .ok (.getfield 12, 3) := by decide +kernel
theorem dX5_set_69 : decode cX5_set 69 = .ok (.iload_n 1, 1) := by decide +kernel
theorem dX5_set_70 : decode cX5_set 70 = .ok (.invokevirtual 69, 3) := by decide +kernel
theorem dX5_set_73 : decode cX5_set 73 = .ok (.iload 4, 2) := by decide +kernel
theorem dX5_set_75 : decode cX5_set 75 = .ok (.ireturn, 1) := by decide +kernel
set_option maxRecDepth 20000 in
theorem ggX5_setDefault_X5_isRow : GoodIn wsX5_setDefault wsX5_isRow := goodIn_r _ [8, 2, 3, 9, 139, 140, 141, 142, 143, 144, 145, 146, 147, 148, 149] (by decide +kernel) (by decide +kernel)
set_option maxRecDepth 20000 in
theorem gX5_setDefault_X5_isRow : GoodIn wsX5_setDefault (wsV RX5 55 RX5 yX5_isRow wsX5_isRow) := goodIn_app (goodIn_of _ (by decide +kernel)) ggX5_setDefault_X5_isRow
set_option maxRecDepth 20000 in
theorem ggX5_setDefault_X5_isValue : GoodIn wsX5_setDefault wsX5_isValue := goodIn_r _ [12] (by decide +kernel) (by decide +kernel)
set_option maxRecDepth 20000 in
theorem gX5_setDefault_X5_isValue : GoodIn wsX5_setDefault (va_wsS RX5 33 yX5_isValue wsX5_isValue) := goodIn_app (goodIn_of _ (by decide +kernel)) ggX5_setDefault_X5_isValue
set_option maxRecDepth 20000 in
theorem ggX5_setDefault_X0_remember : GoodIn wsX5_setDefault wsX0_remember := goodIn_r _ [17, 18, 19, 20, 21, 22, 16, 23, 24, 25, 26, 27, 28, 29, 30, 31, 32, 33, 34, 35, 36, 37, 150, 151, 145, 146, 147, 148, 149] (by decide +kernel) (by decide +kernel)
set_option maxRecDepth 20000 in
theorem gX5_setDefault_X0_remember : GoodIn wsX5_setDefault (wsV RX5 47 RX0 yX0_remember wsX0_remember) := goodIn_app (goodIn_of _ (by decide +kernel)) ggX5_setDefault_X0_remember
set_option maxRecDepth 20000 in
theorem ggX5_setDefault_X1_changeDefault : GoodIn wsX5_setDefault wsX1_changeDefault := goodIn_r _ [41, 30, 42, 43, 44, 27, 45, 46, 47, 48, 49, 35, 50, 51, 52, 53, 145, 146, 147, 148, 149] (by decide +kernel) (by decide +kernel)
set_option maxRecDepth 20000 in
theorem gX5_setDefault_X1_changeDefault : GoodIn wsX5_setDefault (wsV RX5 73 RX1 yX1_changeDefault wsX1_changeDefault) := goodIn_app (goodIn_of _ (by decide +kernel)) ggX5_setDefault_X1_changeDefault
set_option maxRecDepth 20000 in
theorem ggX5_setDefault_X3_settle : GoodIn wsX5_setDefault wsX3_settle := goodIn_r _ [58, 59, 60, 61, 62, 63, 57, 64, 65, 66, 67, 68, 69, 70, 27, 71, 37, 72, 43, 44, 45, 30, 46, 47, 48, 49, 35, 73, 74, 75, 76, 77, 78, 79, 80, 81, 82, 29, 36, 83, 84, 85, 86, 87, 88, 89, 90, 91, 92, 93, 94, 95, 96, 97, 42, 98, 99, 100, 101, 102, 103, 104, 105, 106, 107, 108, 109, 110, 111, 112, 113, 114, 115, 116, 117, 118, 119, 120, 121, 122, 123, 124, 125, 126, 143, 144, 145, 146, 147, 148, 149, 152, 153] (by decide +kernel) (by decide +kernel)
set_option maxRecDepth 20000 in
theorem gX5_setDefault_X3_settle : GoodIn wsX5_setDefault (wsV RX5 69 RX3 yX3_settle wsX3_settle) := goodIn_app (goodIn_of _ (by decide +kernel)) ggX5_setDefault_X3_settle
set_option maxRecDepth 20000 in
theorem ggX5_setDefault_X1_weightOf : GoodIn wsX5_setDefault wsX1_weightOf := goodIn_r _ [130, 131, 95, 96, 27, 97, 42, 43, 44, 45, 30, 46, 47, 48, 49, 35, 132, 133, 134, 135, 136, 137, 138, 145, 146, 147, 148, 149] (by decide +kernel) (by decide +kernel)
set_option maxRecDepth 20000 in
theorem gX5_setDefault_X1_weightOf : GoodIn wsX5_setDefault (wsV RX5 77 RX1 yX1_weightOf wsX1_weightOf) := goodIn_app (goodIn_of _ (by decide +kernel)) ggX5_setDefault_X1_weightOf
theorem dX5_setDefault_0 : decode cX5_setDefault 0 = .ok (.aload_n 0, 1) := by decide +kernel
theorem dX5_setDefault_1 : decode cX5_setDefault 1 = .ok (.iload_n 1, 1) := by decide +kernel
theorem dX5_setDefault_2 : decode cX5_setDefault 2 = .ok (.invokevirtual 55, 3) := by decide +kernel
theorem dX5_setDefault_5 : decode cX5_setDefault 5 = .ok (.ifCond .eq 10, 3) := by decide +kernel
theorem dX5_setDefault_8 : decode cX5_setDefault 8 = .ok (.iload_n 2, 1) := by decide +kernel
theorem dX5_setDefault_9 : decode cX5_setDefault 9 = .ok (.invokestatic 33, 3) := by decide +kernel
theorem dX5_setDefault_12 : decode cX5_setDefault 12 = .ok (.ifCond .ne 5, 3) := by decide +kernel
theorem dX5_setDefault_15 : decode cX5_setDefault 15 = .ok (.iconst (-1), 1) := by decide +kernel
theorem dX5_setDefault_16 : decode cX5_setDefault 16 = .ok (.ireturn, 1) := by decide +kernel
theorem dX5_setDefault_17 : decode cX5_setDefault 17 = .ok (.aload_n 0, 1) := by decide +kernel
theorem dX5_setDefault_18 : decode cX5_setDefault 18 = .ok (.getfield 22, 3) := by decide +kernel
theorem dX5_setDefault_21 : decode cX5_setDefault 21 = .ok (.aload_n 0, 1) := by decide +kernel
theorem dX5_setDefault_22 : decode cX5_setDefault 22 = .ok (.getfield 12, 3) := by decide +kernel
theorem dX5_setDefault_25 : decode cX5_setDefault 25 = .ok (.getfield 37, 3) := by decide +kernel
theorem dX5_setDefault_28 : decode cX5_setDefault 28 = .ok (.invokevirtual 47, 3) := by decide +kernel
theorem dX5_setDefault_31 : decode cX5_setDefault 31 = .ok (.aload_n 0, 1) := by decide +kernel
theorem dX5_setDefault_32 : decode cX5_setDefault 32 = .ok (.getfield 12, 3) := by decide +kernel
theorem dX5_setDefault_35 : decode cX5_setDefault 35 = .ok (.getfield 37, 3) := by decide +kernel
theorem dX5_setDefault_38 : decode cX5_setDefault 38 = .ok (.iload_n 1, 1) := by decide +kernel
theorem dX5_setDefault_39 : decode cX5_setDefault 39 = .ok (.iload_n 2, 1) := by decide +kernel
theorem dX5_setDefault_40 : decode cX5_setDefault 40 = .ok (.invokevirtual 73, 3) := by decide +kernel
theorem dX5_setDefault_43 : decode cX5_setDefault 43 = .ok (.aload_n 0, 1) := by decide +kernel
theorem dX5_setDefault_44 : decode cX5_setDefault 44 = .ok (.getfield 12, 3) := by decide +kernel
theorem dX5_setDefault_47 : decode cX5_setDefault 47 = .ok (.iload_n 1, 1) := by decide +kernel
theorem dX5_setDefault_48 : decode cX5_setDefault 48 = .ok (.invokevirtual 69, 3) := by decide +kernel
theorem dX5_setDefault_51 : decode cX5_setDefault 51 = .ok (.aload_n 0, 1) := by decide +kernel
theorem dX5_setDefault_52 : decode cX5_setDefault 52 = .ok (.getfield 12, 3) := by decide +kernel
theorem dX5_setDefault_55 : decode cX5_setDefault 55 = .ok (.getfield 37, 3) := by decide +kernel
theorem dX5_setDefault_58 : decode cX5_setDefault 58 = .ok (.iload_n 1, 1) := by decide +kernel
theorem dX5_setDefault_59 : decode cX5_setDefault 59 = .ok (.invokevirtual 77, 3) := by decide +kernel
theorem dX5_setDefault_62 : decode cX5_setDefault 62 = .ok (.ireturn, 1) := by decide +kernel
set_option maxRecDepth 20000 in
theorem ggX5_removeLast_X0_remember : GoodIn wsX5_removeLast wsX0_remember := goodIn_r _ [9, 10, 11, 12, 13, 14, 8, 15, 16, 17, 18, 19, 20, 21, 22, 23, 24, 25, 26, 27, 28, 29, 69, 70, 64, 65, 66, 67, 68] (by decide +kernel) (by decide +kernel)
set_option maxRecDepth 20000 in
theorem gX5_removeLast_X0_remember : GoodIn wsX5_removeLast (wsV RX5 47 RX0 yX0_remember wsX0_remember) := goodIn_app (goodIn_of _ (by decide +kernel)) ggX5_removeLast_X0_remember
set_option maxRecDepth 20000 in
theorem ggX5_removeLast_X3_leaveForm : GoodIn wsX5_removeLast wsX3_leaveForm := goodIn_r _ [34, 35, 36, 37, 38, 39, 40, 41, 19, 42, 29, 43, 44, 45, 46, 21, 28, 47, 48, 49, 50, 51, 52, 53, 54, 55, 56, 57, 62, 63, 64, 65, 66, 67, 68, 71, 72] (by decide +kernel) (by decide +kernel)
set_option maxRecDepth 20000 in
theorem gX5_removeLast_X3_leaveForm : GoodIn wsX5_removeLast (wsV RX5 80 RX3 yX3_leaveForm wsX3_leaveForm) := goodIn_app (goodIn_of _ (by decide +kernel)) ggX5_removeLast_X3_leaveForm
theorem dX5_removeLast_0 : decode cX5_removeLast 0 = .ok (.aload_n 0, 1) := by decide +kernel
theorem dX5_removeLast_1 : decode cX5_removeLast 1 = .ok (.getfield 12, 3) := by decide +kernel
theorem dX5_removeLast_4 : decode cX5_removeLast 4 = .ok (.getfield 37, 3) := by decide +kernel
theorem dX5_removeLast_7 : decode cX5_removeLast 7 = .ok (.getfield 41, 3) := by decide +kernel
theorem dX5_removeLast_10 : decode cX5_removeLast 10 = .ok (.ifCond .gt 6, 3) := by decide +kernel
theorem dX5_removeLast_13 : decode cX5_removeLast 13 = .ok (.bipush (-2), 2) := by decide +kernel
theorem dX5_removeLast_15 : decode cX5_removeLast 15 = .ok (.ireturn, 1) := by decide +kernel
theorem dX5_removeLast_16 : decode cX5_removeLast 16 = .ok (.aload_n 0, 1) := by decide +kernel
theorem dX5_removeLast_17 : decode cX5_removeLast 17 = .ok (.getfield 22, 3) := by decide +kernel
theorem dX5_removeLast_20 : decode cX5_removeLast 20 = .ok (.aload_n 0, 1) := by decide +kernel
theorem dX5_removeLast_21 : decode cX5_removeLast 21 = .ok (.getfield 12, 3) := by decide +kernel
theorem dX5_removeLast_24 : decode cX5_removeLast 24 = .ok (.getfield 37, 3) := by decide +kernel
theorem dX5_removeLast_27 : decode cX5_removeLast 27 = .ok (.invokevirtual 47, 3) := by decide +kernel
theorem dX5_removeLast_30 : decode cX5_removeLast 30 = .ok (.aload_n 0, 1) := by decide +kernel
theorem dX5_removeLast_31 : decode cX5_removeLast 31 = .ok (.getfield 12, 3) := by decide +kernel
theorem dX5_removeLast_34 : decode cX5_removeLast 34 = .ok (.aload_n 0, 1) := by decide +kernel
theorem dX5_removeLast_35 : decode cX5_removeLast 35 = .ok (.getfield 12, 3) := by decide +kernel
theorem dX5_removeLast_38 : decode cX5_removeLast 38 = .ok (.getfield 37, 3) := by decide +kernel
theorem dX5_removeLast_41 : decode cX5_removeLast 41 = .ok (.getfield 41, 3) := by decide +kernel
theorem dX5_removeLast_44 : decode cX5_removeLast 44 = .ok (.iconst 1, 1) := by decide +kernel
theorem dX5_removeLast_45 : decode cX5_removeLast 45 = .ok (.isub, 1) := by decide +kernel
theorem dX5_removeLast_46 : decode cX5_removeLast 46 = .ok (.invokevirtual 80, 3) := by decide +kernel
theorem dX5_removeLast_49 : decode cX5_removeLast 49 = .ok (.aload_n 0, 1) := by decide +kernel
theorem dX5_removeLast_50 : decode cX5_removeLast 50 = .ok (.getfield 12, 3) := by decide +kernel
theorem dX5_removeLast_53 : decode cX5_removeLast 53 = .ok (.getfield 37, 3) := by decide +kernel
theorem dX5_removeLast_56 : decode cX5_removeLast 56 = .ok (.dup, 1) := by decide +kernel
theorem dX5_removeLast_57 : decode cX5_removeLast 57 = .ok (.getfield 41, 3) := by decide +kernel
theorem dX5_removeLast_60 : decode cX5_removeLast 60 = .ok (.iconst 1, 1) := by decide +kernel
theorem dX5_removeLast_61 : decode cX5_removeLast 61 = .ok (.isub, 1) := by decide +kernel
theorem dX5_removeLast_62 : decode cX5_removeLast 62 = .ok (.putfield 41, 3) := by decide +kernel
theorem dX5_removeLast_65 : decode cX5_removeLast 65 = .ok (.aload_n 0, 1) := by decide +kernel
theorem dX5_removeLast_66 : decode cX5_removeLast 66 = .ok (.getfield 12, 3) := by decide +kernel
theorem dX5_removeLast_69 : decode cX5_removeLast 69 = .ok (.getfield 37, 3) := by decide +kernel
theorem dX5_removeLast_72 : decode cX5_removeLast 72 = .ok (.getfield 41, 3) := by decide +kernel
theorem dX5_removeLast_75 : decode cX5_removeLast 75 = .ok (.ireturn, 1) := by decide +kernel
set_option maxRecDepth 20000 in
theorem ggX5_slim_X5_isRow : GoodIn wsX5_slim wsX5_isRow := goodIn_r _ [9, 2, 3, 10, 125, 126, 127, 128, 129, 130, 131, 132, 133, 134, 135] (by decide +kernel) (by decide +kernel)
set_option maxRecDepth 20000 in
theorem gX5_slim_X5_isRow : GoodIn wsX5_slim (wsV RX5 55 RX5 yX5_isRow wsX5_isRow) := goodIn_app (goodIn_of _ (by decide +kernel)) ggX5_slim_X5_isRow
set_option maxRecDepth 20000 in
theorem ggX5_slim_X0_remember : GoodIn wsX5_slim wsX0_remember := goodIn_r _ [15, 16, 17, 18, 19, 20, 14, 21, 22, 23, 24, 25, 26, 27, 28, 29, 30, 31, 32, 33, 34, 35, 136, 137, 131, 132, 133, 134, 135] (by decide +kernel) (by decide +kernel)
set_option maxRecDepth 20000 in
theorem gX5_slim_X0_remember : GoodIn wsX5_slim (wsV RX5 47 RX0 yX0_remember wsX0_remember) := goodIn_app (goodIn_of _ (by decide +kernel)) ggX5_slim_X0_remember
set_option maxRecDepth 20000 in
theorem ggX5_slim_X1_commonestValue : GoodIn wsX5_slim wsX1_commonestValue := goodIn_r _ [39, 40, 41, 42, 25, 43, 33, 44, 45, 46, 47, 131, 132, 133, 134, 135] (by decide +kernel) (by decide +kernel)
set_option maxRecDepth 20000 in
theorem gX5_slim_X1_commonestValue : GoodIn wsX5_slim (wsV RX5 87 RX1 yX1_commonestValue wsX1_commonestValue) := goodIn_app (goodIn_of _ (by decide +kernel)) ggX5_slim_X1_commonestValue
set_option maxRecDepth 20000 in
theorem ggX5_slim_X3_settle : GoodIn wsX5_slim wsX3_settle := goodIn_r _ [52, 53, 54, 55, 56, 57, 51, 58, 59, 60, 61, 62, 63, 64, 25, 65, 35, 66, 67, 68, 69, 28, 40, 41, 42, 43, 33, 70, 71, 72, 73, 74, 75, 76, 77, 78, 79, 27, 34, 80, 81, 82, 83, 84, 85, 86, 87, 88, 89, 90, 91, 92, 93, 94, 95, 96, 97, 98, 99, 100, 101, 102, 103, 104, 105, 106, 107, 108, 109, 110, 111, 112, 113, 114, 115, 116, 117, 118, 119, 120, 121, 122, 123, 124, 129, 130, 131, 132, 133, 134, 135, 138, 139] (by decide +kernel) (by decide +kernel)
set_option maxRecDepth 20000 in
theorem gX5_slim_X3_settle : GoodIn wsX5_slim (wsV RX5 69 RX3 yX3_settle wsX3_settle) := goodIn_app (goodIn_of _ (by decide +kernel)) ggX5_slim_X3_settle
theorem dX5_slim_0 : decode cX5_slim 0 = .ok (.aload_n 0, 1) := by decide +kernel
theorem dX5_slim_1 : decode cX5_slim 1 = .ok (.iload_n 1, 1) := by decide +kernel
theorem dX5_slim_2 : decode cX5_slim 2 = .ok (.invokevirtual 55, 3) := by decide +kernel
theorem dX5_slim_5 : decode cX5_slim 5 = .ok (.ifCond .ne 5, 3) := by decide +kernel
theorem dX5_slim_8 : decode cX5_slim 8 = .ok (.iconst (-1), 1) := by decide +kernel
theorem dX5_slim_9 : decode cX5_slim 9 = .ok (.ireturn, 1) := by decide +kernel
theorem dX5_slim_10 : decode cX5_slim 10 = .ok (.aload_n 0, 1) := by decide +kernel
theorem dX5_slim_11 : decode cX5_slim 11 = .ok (.getfield 22, 3) := by decide +kernel
theorem dX5_slim_14 : decode cX5_slim 14 = .ok (.aload_n 0, 1) := by decide +kernel
theorem dX5_slim_15 : decode cX5_slim 15 = .ok (.getfield 12, 3) := by decide +kernel
theorem dX5_slim_18 : decode cX5_slim 18 = .ok (.getfield 37, 3) := by decide +kernel
theorem dX5_slim_21 : decode cX5_slim 21 = .ok (.invokevirtual 47, 3) := by decide +kernel
theorem dX5_slim_24 : decode cX5_slim 24 = .ok (.aload_n 0, 1) := by decide +kernel
theorem dX5_slim_25 : decode cX5_slim 25 = .ok (.getfield 12, 3) := by decide +kernel
theorem dX5_slim_28 : decode cX5_slim 28 = .ok (.getfield 37, 3) := by decide +kernel
theorem dX5_slim_31 : decode cX5_slim 31 = .ok (.getfield 83, 3) := by decide +kernel
theorem dX5_slim_34 : decode cX5_slim 34 = .ok (.iload_n 1, 1) := by decide +kernel
theorem dX5_slim_35 : decode cX5_slim 35 = .ok (.aload_n 0, 1) := by decide +kernel
theorem dX5_slim_36 : decode cX5_slim 36 = .ok (.getfield 12, 3) := by decide +kernel
theorem dX5_slim_39 : decode cX5_slim 39 = .ok (.getfield 37, 3) := by decide +kernel
theorem dX5_slim_42 : decode cX5_slim 42 = .ok (.iload_n 1, 1) := by decide +kernel
theorem dX5_slim_43 : decode cX5_slim 43 = .ok (.invokevirtual 87, 3) := by decide +kernel
theorem dX5_slim_46 : decode cX5_slim 46 = .ok (.iastore, 1) := by decide +kernel
theorem dX5_slim_47 : decode cX5_slim 47 = .ok (.aload_n 0, 1) := by decide +kernel
theorem dX5_slim_48 : decode cX5_slim 48 = .ok (.getfield 12, 3) := by decide +kernel
theorem dX5_slim_51 : decode cX5_slim 51 = .ok (.iload_n 1, 1) := by decide +kernel
theorem dX5_slim_52 : decode cX5_slim 52 = .ok (.invokevirtual 69, 3) := by decide +kernel
theorem dX5_slim_55 : decode cX5_slim 55 = .ok (.aload_n 0, 1) := by decide +kernel
theorem dX5_slim_56 : decode cX5_slim 56 = .ok (.getfield 12, 3) := by decide +kernel
theorem dX5_slim_59 : decode cX5_slim 59 = .ok (.getfield 37, 3) := by decide +kernel
theorem dX5_slim_62 : decode cX5_slim 62 = .ok (.getfield 83, 3) := by decide +kernel
theorem dX5_slim_65 : decode cX5_slim 65 = .ok (.iload_n 1, 1) := by decide +kernel
theorem dX5_slim_66 : decode cX5_slim 66 = .ok (.iaload, 1) := by decide +kernel
theorem dX5_slim_67 : decode cX5_slim 67 = .ok (.ireturn, 1) := by decide +kernel
set_option maxRecDepth 20000 in
theorem ggX5_push_X0_remember : GoodIn wsX5_push wsX0_remember := goodIn_r _ [9, 10, 11, 12, 13, 14, 8, 15, 16, 17, 18, 19, 20, 21, 22, 23, 24, 25, 26, 27, 28, 29, 154, 155, 156, 157, 158, 159, 160] (by decide +kernel) (by decide +kernel)
set_option maxRecDepth 20000 in
theorem gX5_push_X0_remember : GoodIn wsX5_push (wsV RX5 47 RX0 yX0_remember wsX0_remember) := goodIn_app (goodIn_of _ (by decide +kernel)) ggX5_push_X0_remember
set_option maxRecDepth 20000 in
theorem ggX5_push_X3_pushAnewByWeights : GoodIn wsX5_push wsX3_pushAnewByWeights := goodIn_r _ [34, 35, 36, 37, 38, 39, 33, 40, 41, 42, 19, 43, 44, 28, 29, 45, 46, 47, 48, 49, 50, 51, 52, 53, 54, 55, 56, 57, 58, 59, 60, 61, 62, 63, 64, 65, 66, 67, 68, 22, 69, 70, 71, 72, 27, 73, 74, 75, 76, 77, 78, 79, 80, 81, 82, 83, 84, 85, 86, 87, 88, 89, 90, 91, 92, 93, 94, 95, 96, 97, 98, 99, 100, 101, 102, 103, 104, 105, 21, 106, 107, 108, 109, 110, 111, 112, 113, 114, 115, 116, 117, 118, 119, 120, 121, 122, 123, 124, 125, 126, 127, 128, 129, 130, 131, 132, 133, 134, 135, 136, 137, 138, 139, 140, 141, 142, 143, 152, 153, 156, 157, 158, 159, 160, 161, 162] (by decide +kernel) (by decide +kernel)
set_option maxRecDepth 20000 in
theorem gX5_push_X3_pushAnewByWeights : GoodIn wsX5_push (wsV RX5 90 RX3 yX3_pushAnewByWeights wsX3_pushAnewByWeights) := goodIn_app (goodIn_of _ (by decide +kernel)) ggX5_push_X3_pushAnewByWeights
set_option maxRecDepth 20000 in
theorem ggX5_push_X2_endOfCells : GoodIn wsX5_push wsX2_endOfCells := goodIn_r _ [147, 135, 136, 137, 52, 138, 55, 161, 162] (by decide +kernel) (by decide +kernel)
set_option maxRecDepth 20000 in
theorem gX5_push_X2_endOfCells : GoodIn wsX5_push (wsV RX5 97 RX2 yX2_endOfCells wsX2_endOfCells) := goodIn_app (goodIn_of _ (by decide +kernel)) ggX5_push_X2_endOfCells
theorem dX5_push_0 : decode cX5_push 0 = .ok (.aload_n 0, 1) := by decide +kernel
theorem dX5_push_1 : decode cX5_push 1 = .ok (.getfield 22, 3) := by decide +kernel
theorem dX5_push_4 : decode cX5_push 4 = .ok (.aload_n 0, 1) := by decide +kernel
theorem dX5_push_5 : decode cX5_push 5 = .ok (.getfield 12, 3) := by decide +kernel
theorem dX5_push_8 : decode cX5_push 8 = .ok (.getfield 37, 3) := by decide +kernel
theorem dX5_push_11 : decode cX5_push 11 = .ok (.invokevirtual 47, 3) := by decide +kernel
theorem dX5_push_14 : decode cX5_push 14 = .ok (.aload_n 0, 1) := by decide +kernel
theorem dX5_push_15 : decode cX5_push 15 = .ok (.getfield 12, 3) := by decide +kernel
theorem dX5_push_18 : decode cX5_push 18 = .ok (.invokevirtual 90, 3) := by decide +kernel
theorem dX5_push_21 : decode cX5_push 21 = .ok (.aload_n 0, 1) := by decide +kernel
theorem dX5_push_22 : decode cX5_push 22 = .ok (.getfield 12, 3) := by decide +kernel
theorem dX5_push_25 : decode cX5_push 25 = .ok (.getfield 93, 3) := by decide +kernel
theorem dX5_push_28 : decode cX5_push 28 = .ok (.invokevirtual 97, 3) := by decide +kernel
theorem dX5_push_31 : decode cX5_push 31 = .ok (.ireturn, 1) := by decide +kernel
set_option maxRecDepth 20000 in
theorem ggX5_undo_X0_takeLatest : GoodIn wsX5_undo wsX0_takeLatest := goodIn_r _ [8, 9, 10, 70, 71] (by decide +kernel) (by decide +kernel)
set_option maxRecDepth 20000 in
theorem gX5_undo_X0_takeLatest : GoodIn wsX5_undo (wsV RX5 106 RX0 yX0_takeLatest wsX0_takeLatest) := goodIn_app (goodIn_of _ (by decide +kernel)) ggX5_undo_X0_takeLatest
set_option maxRecDepth 20000 in
theorem ggX5_undo_X3_restore : GoodIn wsX5_undo wsX3_restore := goodIn_r _ [15, 16, 17, 18, 19, 20, 21, 22, 23, 24, 25, 26, 27, 28, 29, 30, 31, 32, 33, 34, 35, 36, 37, 38, 39, 40, 41, 42, 43, 44, 45, 46, 14, 47, 48, 49, 50, 51, 52, 53, 54, 55, 56, 57, 58, 59, 60, 61, 62, 63, 64, 65, 72, 73, 74, 75, 76, 77, 78, 79, 80] (by decide +kernel) (by decide +kernel)
set_option maxRecDepth 20000 in
theorem gX5_undo_X3_restore : GoodIn wsX5_undo (wsV RX5 110 RX3 yX3_restore wsX3_restore) := goodIn_app (goodIn_of _ (by decide +kernel)) ggX5_undo_X3_restore
theorem dX5_undo_0 : decode cX5_undo 0 = .ok (.aload_n 0, 1) := by decide +kernel
theorem dX5_undo_1 : decode cX5_undo 1 = .ok (.getfield 22, 3) := by decide +kernel
theorem dX5_undo_4 : decode cX5_undo 4 = .ok (.getfield 103, 3) := by decide +kernel
theorem dX5_undo_7 : decode cX5_undo 7 = .ok (.ifCond .gt 6, 3) := by decide +kernel
theorem dX5_undo_10 : decode cX5_undo 10 = .ok (.bipush (-2), 2) := by decide +kernel
theorem dX5_undo_12 : decode cX5_undo 12 = .ok (.ireturn, 1) := by decide +kernel
theorem dX5_undo_13 : decode cX5_undo 13 = .ok (.aload_n 0, 1) := by decide +kernel
theorem dX5_undo_14 : decode cX5_undo 14 = .ok (.getfield 12, 3) := by decide +kernel
theorem dX5_undo_17 : decode cX5_undo 17 = .ok (.aload_n 0, 1) := by decide +kernel
theorem dX5_undo_18 : decode cX5_undo 18 = .ok (.getfield 22, 3) := by decide +kernel
theorem dX5_undo_21 : decode cX5_undo 21 = .ok (.invokevirtual 106, 3) := by decide +kernel
theorem dX5_undo_24 : decode cX5_undo 24 = .ok (.invokevirtual 110, 3) := by decide +kernel
theorem dX5_undo_27 : decode cX5_undo 27 = .ok (.aload_n 0, 1) := by decide +kernel
theorem dX5_undo_28 : decode cX5_undo 28 = .ok (.getfield 22, 3) := by decide +kernel
theorem dX5_undo_31 : decode cX5_undo 31 = .ok (.getfield 103, 3) := by decide +kernel
theorem dX5_undo_34 : decode cX5_undo 34 = .ok (.ireturn, 1) := by decide +kernel
set_option maxRecDepth 20000 in
theorem ggX5_append_X4_appendSign : GoodIn wsX5_append wsX4_appendSign := goodIn_r _ [7, 8, 9, 14, 15, 16, 17, 18, 19, 20, 21] (by decide +kernel) (by decide +kernel)
set_option maxRecDepth 20000 in
theorem gX5_append_X4_appendSign : GoodIn wsX5_append (wsV RX5 116 RX4 yX4_appendSign wsX4_appendSign) := goodIn_app (goodIn_of _ (by decide +kernel)) ggX5_append_X4_appendSign
theorem dX5_append_0 : decode cX5_append 0 = .ok (.iload_n 1, 1) := by decide +kernel
theorem dX5_append_1 : decode cX5_append 1 = .ok (.iconst 1, 1) := by decide +kernel
theorem dX5_append_2 : decode cX5_append 2 = .ok (.if_icmp .lt 10, 3) := by decide +kernel
theorem dX5_append_5 : decode cX5_append 5 = .ok (.iload_n 1, 1) := by decide +kernel
theorem dX5_append_6 : decode cX5_append 6 = .ok (.sipush 255, 3) := by decide +kernel
theorem dX5_append_9 : decode cX5_append 9 = .ok (.if_icmp .le 5, 3) := by decide +kernel
theorem dX5_append_12 : decode cX5_append 12 = .ok (.iconst (-1), 1) := by decide +kernel
theorem dX5_append_13 : decode cX5_append 13 = .ok (.ireturn, 1) := by decide +kernel
theorem dX5_append_14 : decode cX5_append 14 = .ok (.aload_n 0, 1) := by decide +kernel
theorem dX5_append_15 : decode cX5_append 15 = .ok (.getfield 29, 3) := by decide +kernel
theorem dX5_append_18 : decode cX5_append 18 = .ok (.getfield 113, 3) := by decide +kernel
theorem dX5_append_21 : decode cX5_append 21 = .ok (.bipush 100, 2) := by decide +kernel
theorem dX5_append_23 : decode cX5_append 23 = .ok (.if_icmp .lt 6, 3) := by decide +kernel
theorem dX5_append_26 : decode cX5_append 26 = .ok (.bipush (-3), 2) := by decide +kernel
theorem dX5_append_28 : decode cX5_append 28 = .ok (.ireturn, 1) := by decide +kernel
theorem dX5_append_29 : decode cX5_append 29 = .ok (.aload_n 0, 1) := by decide +kernel
theorem dX5_append_30 : decode cX5_append 30 = .ok (.getfield 29, 3) := by decide +kernel
theorem dX5_append_33 : decode cX5_append 33 = .ok (.iload_n 1, 1) := by decide +kernel
theorem dX5_append_34 : decode cX5_append 34 = .ok (.i2c, 1) := by decide +kernel
theorem dX5_append_35 : decode cX5_append 35 = .ok (.invokevirtual 116, 3) := by decide +kernel
theorem dX5_append_38 : decode cX5_append 38 = .ok (.aload_n 0, 1) := by decide +kernel
theorem dX5_append_39 : decode cX5_append 39 = .ok (.getfield 29, 3) := by decide +kernel
theorem dX5_append_42 : decode cX5_append 42 = .ok (.getfield 113, 3) := by decide +kernel
theorem dX5_append_45 : decode cX5_append 45 = .ok (.ireturn, 1) := by decide +kernel
theorem dX5_clearText_0 : decode cX5_clearText 0 = .ok (.aload_n 0, 1) := by decide +kernel
theorem dX5_clearText_1 : decode cX5_clearText 1 = .ok (.getfield 29, 3) := by decide +kernel
theorem dX5_clearText_4 : decode cX5_clearText 4 = .ok (.getfield 113, 3) := by decide +kernel
theorem dX5_clearText_7 : decode cX5_clearText 7 = .ok (.istore_n 1, 1) := by decide +kernel
theorem dX5_clearText_8 : decode cX5_clearText 8 = .ok (.aload_n 0, 1) := by decide +kernel
theorem dX5_clearText_9 : decode cX5_clearText 9 = .ok (.getfield 29, 3) := by decide +kernel
theorem dX5_clearText_12 : decode cX5_clearText 12 = .ok (.iconst 0, 1) := by decide +kernel
theorem dX5_clearText_13 : decode cX5_clearText 13 = .ok (.putfield 113, 3) := by decide +kernel
theorem dX5_clearText_16 : decode cX5_clearText 16 = .ok (.iload_n 1, 1) := by decide +kernel
theorem dX5_clearText_17 : decode cX5_clearText 17 = .ok (.ireturn, 1) := by decide +kernel
set_option maxRecDepth 20000 in
theorem ggX5_read_X4_readTable : GoodIn wsX5_read wsX4_readTable := goodIn_r _ [13, 14, 15, 16, 17, 18, 19, 12, 20, 21, 22, 23, 24, 25, 26, 27, 28, 29, 30, 31, 32, 33, 34, 35, 36, 37, 38, 39, 40, 41, 42, 43, 44, 45, 46, 47, 48, 49, 50, 51, 52, 53, 54, 55, 56, 57, 58, 59, 60, 61, 62, 63, 64, 65, 66, 67, 203, 204, 205, 206, 207, 208, 209, 210] (by decide +kernel) (by decide +kernel)
set_option maxRecDepth 20000 in
theorem gX5_read_X4_readTable : GoodIn wsX5_read (wsV RX5 120 RX4 yX4_readTable wsX4_readTable) := goodIn_app (goodIn_of _ (by decide +kernel)) ggX5_read_X4_readTable
set_option maxRecDepth 20000 in
theorem ggX5_read_X0_remember : GoodIn wsX5_read wsX0_remember := goodIn_r _ [72, 73, 74, 75, 76, 77, 71, 78, 79, 80, 81, 82, 83, 84, 85, 86, 87, 88, 89, 90, 91, 92, 211, 212, 198, 199, 200, 201, 202] (by decide +kernel) (by decide +kernel)
set_option maxRecDepth 20000 in
theorem gX5_read_X0_remember : GoodIn wsX5_read (wsV RX5 47 RX0 yX0_remember wsX0_remember) := goodIn_app (goodIn_of _ (by decide +kernel)) ggX5_read_X0_remember
set_option maxRecDepth 20000 in
theorem ggX5_read_X5_addRowOfText : GoodIn wsX5_read wsX5_addRowOfText := goodIn_r _ [96, 2, 3, 1, 97, 98, 99, 100, 82, 101, 84, 85, 90, 91, 102, 47, 48, 49, 50, 51, 52, 103, 104, 105, 12, 106, 32, 107, 108, 109, 110, 111, 112, 113, 114, 115, 116, 117, 118, 119, 120, 121, 122, 123, 124, 125, 126, 127, 128, 92, 129, 130, 131, 132, 133, 134, 135, 136, 137, 138, 139, 140, 141, 142, 143, 144, 145, 146, 147, 148, 149, 150, 151, 152, 153, 154, 155, 156, 157, 158, 159, 160, 161, 162, 163, 164, 165, 166, 167, 168, 169, 170, 171, 172, 173, 174, 175, 176, 177, 178, 179, 180, 181, 182, 183, 184, 185, 186, 187, 188, 189, 190, 191, 192, 193, 194, 195, 196, 197, 203, 204, 205, 206, 207, 208, 209, 210, 198, 199, 200, 201, 202, 213, 214] (by decide +kernel) (by decide +kernel)
set_option maxRecDepth 20000 in
theorem gX5_read_X5_addRowOfText : GoodIn wsX5_read (wsV RX5 129 RX5 yX5_addRowOfText wsX5_addRowOfText) := goodIn_app (goodIn_of _ (by decide +kernel)) ggX5_read_X5_addRowOfText
theorem dX5_read_0 : decode cX5_read 0 = .ok (.aload_n 0, 1) := by decide +kernel
theorem dX5_read_1 : decode cX5_read 1 = .ok (.getfield 29, 3) := by decide +kernel
theorem dX5_read_4 : decode cX5_read 4 = .ok (.bipush 24, 2) := by decide +kernel
theorem dX5_read_6 : decode cX5_read 6 = .ok (.aload_n 0, 1) := by decide +kernel
theorem dX5_read_7 : decode cX5_read 7 = .ok (.getfield 12, 3) := by decide +kernel
theorem dX5_read_10 : decode cX5_read 10 = .ok (.getfield 37, 3) := by decide +kernel
theorem dX5_read_13 : decode cX5_read 13 = .ok (.getfield 41, 3) := by decide +kernel
theorem dX5_read_16 : decode cX5_read 16 = .ok (.isub, 1) := by decide +kernel
theorem dX5_read_17 : decode cX5_read 17 = .ok (.invokevirtual 120, 3) := by decide +kernel
theorem dX5_read_20 : decode cX5_read 20 = .ok (.ifCond .ne 15, 3) := by decide +kernel
theorem dX5_read_23 : decode cX5_read 23 = .ok (.sipush (-1000), 3) := by decide +kernel
theorem dX5_read_26 : decode cX5_read 26 = .ok (.aload_n 0, 1) := by decide +kernel
theorem dX5_read_27 : decode cX5_read 27 = .ok (.getfield 29, 3) := by decide +kernel
theorem dX5_read_30 : decode cX5_read 30 = .ok (.getfield 123, 3) := by decide +kernel
theorem dX5_read_33 : decode cX5_read 33 = .ok (.isub, 1) := by decide +kernel
theorem dX5_read_34 : decode cX5_read 34 = .ok (.ireturn, 1) := by decide +kernel
theorem dX5_read_35 : decode cX5_read 35 = .ok (.aload_n 0, 1) := by decide +kernel
theorem dX5_read_36 : decode cX5_read 36 = .ok (.getfield 22, 3) := by decide +kernel
theorem dX5_read_39 : decode cX5_read 39 = .ok (.aload_n 0, 1) := by decide +kernel
theorem dX5_read_40 : decode cX5_read 40 = .ok (.getfield 12, 3) := by decide +kernel
theorem dX5_read_43 : decode cX5_read 43 = .ok (.getfield 37, 3) := by decide +kernel
theorem dX5_read_46 : decode cX5_read 46 = .ok (.invokevirtual 47, 3) := by decide +kernel
theorem dX5_read_49 : decode cX5_read 49 = .ok (.iconst 0, 1) := by decide +kernel
theorem dX5_read_50 : decode cX5_read 50 = .ok (.istore_n 1, 1) := by decide +kernel
theorem dX5_read_51 : decode cX5_read 51 = .ok (.iload_n 1, 1) := by decide +kernel
theorem dX5_read_52 : decode cX5_read 52 = .ok (.aload_n 0, 1) := by decide +kernel
theorem dX5_read_53 : decode cX5_read 53 = .ok (.getfield 29, 3) := by decide +kernel
theorem dX5_read_56 : decode cX5_read 56 = .ok (.getfield 126, 3) := by decide +kernel
theorem dX5_read_59 : decode cX5_read 59 = .ok (.if_icmp .ge 14, 3) := by decide +kernel
theorem dX5_read_62 : decode cX5_read 62 = .ok (.aload_n 0, 1) := by decide +kernel
theorem dX5_read_63 : decode cX5_read 63 = .ok (.iload_n 1, 1) := by decide +kernel
theorem dX5_read_64 : decode cX5_read 64 = .ok (.invokevirtual 129, 3) := by decide +kernel
theorem dX5_read_67 : decode cX5_read 67 = .ok (.iinc 1 1, 3) := by decide +kernel
theorem dX5_read_70 : decode cX5_read 70 = .ok (.goto (-19), 3) := by decide +kernel
theorem dX5_read_73 : decode cX5_read 73 = .ok (.aload_n 0, 1) := by decide +kernel
theorem dX5_read_74 : decode cX5_read 74 = .ok (.getfield 29, 3) := by decide +kernel
theorem dX5_read_77 : decode cX5_read 77 = .ok (.iconst 0, 1) := by decide +kernel
theorem dX5_read_78 : decode cX5_read 78 = .ok (.putfield 113, 3) := by decide +kernel
theorem dX5_read_81 : decode cX5_read 81 = .ok (.aload_n 0, 1) := by decide +kernel
theorem dX5_read_82 : decode cX5_read 82 = .ok (.getfield 29, 3) := by decide +kernel
theorem dX5_read_85 : decode cX5_read 85 = .ok (.getfield 126, 3) := by decide +kernel
theorem dX5_read_88 : decode cX5_read 88 = .ok (.ireturn, 1) := by decide +kernel
set_option maxRecDepth 20000 in
theorem ggX5_get_X5_isRow : GoodIn wsX5_get wsX5_isRow := goodIn_r _ [6, 1, 7, 8, 29, 30, 31, 32, 33, 34, 35, 36, 37, 38, 39] (by decide +kernel) (by decide +kernel)
set_option maxRecDepth 20000 in
theorem gX5_get_X5_isRow : GoodIn wsX5_get (wsV RX5 55 RX5 yX5_isRow wsX5_isRow) := goodIn_app (goodIn_of _ (by decide +kernel)) ggX5_get_X5_isRow
set_option maxRecDepth 20000 in
theorem ggX5_get_X5_isColumn : GoodIn wsX5_get wsX5_isColumn := goodIn_r _ [11] (by decide +kernel) (by decide +kernel)
set_option maxRecDepth 20000 in
theorem gX5_get_X5_isColumn : GoodIn wsX5_get (va_wsS RX5 58 yX5_isColumn wsX5_isColumn) := goodIn_app (goodIn_of _ (by decide +kernel)) ggX5_get_X5_isColumn
set_option maxRecDepth 20000 in
theorem ggX5_get_X3_lookUp : GoodIn wsX5_get wsX3_lookUp := goodIn_r _ [16, 17, 18, 19, 20, 21, 22, 23, 24, 25, 26, 27, 28, 33, 34, 35, 36, 37, 38, 39, 40, 41] (by decide +kernel) (by decide +kernel)
set_option maxRecDepth 20000 in
theorem gX5_get_X3_lookUp : GoodIn wsX5_get (wsV RX5 132 RX3 yX3_lookUp wsX3_lookUp) := goodIn_app (goodIn_of _ (by decide +kernel)) ggX5_get_X3_lookUp
theorem dX5_get_0 : decode cX5_get 0 = .ok (.aload_n 0, 1) := by decide +kernel
theorem dX5_get_1 : decode cX5_get 1 = .ok (.iload_n 1, 1) := by decide +kernel
theorem dX5_get_2 : decode cX5_get 2 = .ok (.invokevirtual 55, 3) := by decide +kernel
theorem dX5_get_5 : decode cX5_get 5 = .ok (.ifCond .eq 10, 3) := by decide +kernel
end
section
theorem dX5_get_8 : decode cX5_get 8 = .ok (.iload_n 2, 1) := by decide +kernel
theorem dX5_get_9 : decode cX5_get 9 = .ok (.invokestatic 58, 3) := by decide +kernel
theorem dX5_get_12 : decode cX5_get 12 = .ok (.ifCond .ne 5, 3) := by decide +kernel
theorem dX5_get_15 : decode cX5_get 15 = .ok (.iconst (-1), 1) := by decide +kernel
theorem dX5_get_16 : decode cX5_get 16 = .ok (.ireturn, 1) := by decide +kernel
theorem dX5_get_17 : decode cX5_get 17 = .ok (.aload_n 0, 1) := by decide +kernel
theorem dX5_get_18 : decode cX5_get 18 = .ok (.getfield 12, 3) := by decide +kernel
theorem dX5_get_21 : decode cX5_get 21 = .ok (.iload_n 1, 1) := by decide +kernel
theorem dX5_get_22 : decode cX5_get 22 = .ok (.iload_n 2, 1) := by decide +kernel
theorem dX5_get_23 : decode cX5_get 23 = .ok (.invokevirtual 132, 3) := by decide +kernel
theorem dX5_get_26 : decode cX5_get 26 = .ok (.ireturn, 1) := by decide +kernel
set_option maxRecDepth 20000 in
theorem ggX5_count_X1_formCount : GoodIn wsX5_count wsX1_formCount := goodIn_r _ [13, 14, 84, 85, 86, 87, 88] (by decide +kernel) (by decide +kernel)
set_option maxRecDepth 20000 in
theorem gX5_count_X1_formCount : GoodIn wsX5_count (wsV RX5 135 RX1 yX1_formCount wsX1_formCount) := goodIn_app (goodIn_of _ (by decide +kernel)) ggX5_count_X1_formCount
set_option maxRecDepth 20000 in
theorem ggX5_count_X1_weightSum : GoodIn wsX5_count wsX1_weightSum := goodIn_r _ [18, 19, 20, 21, 22, 12, 23, 24, 25, 26, 27, 28, 29, 30, 31, 32, 33, 34, 35, 36, 37, 38, 39, 40, 41, 42, 43, 44, 84, 85, 86, 87, 88] (by decide +kernel) (by decide +kernel)
set_option maxRecDepth 20000 in
theorem gX5_count_X1_weightSum : GoodIn wsX5_count (wsV RX5 138 RX1 yX1_weightSum wsX1_weightSum) := goodIn_app (goodIn_of _ (by decide +kernel)) ggX5_count_X1_weightSum
set_option maxRecDepth 20000 in
theorem ggX5_count_X2_filledCells : GoodIn wsX5_count wsX2_filledCells := goodIn_r _ [49, 50, 51, 52, 48, 53, 54, 99, 100] (by decide +kernel) (by decide +kernel)
set_option maxRecDepth 20000 in
theorem gX5_count_X2_filledCells : GoodIn wsX5_count (wsV RX5 141 RX2 yX2_filledCells wsX2_filledCells) := goodIn_app (goodIn_of _ (by decide +kernel)) ggX5_count_X2_filledCells
set_option maxRecDepth 20000 in
theorem ggX5_count_X2_endOfCells : GoodIn wsX5_count wsX2_endOfCells := goodIn_r _ [58, 50, 51, 52, 48, 53, 54, 99, 100] (by decide +kernel) (by decide +kernel)
set_option maxRecDepth 20000 in
theorem gX5_count_X2_endOfCells : GoodIn wsX5_count (wsV RX5 97 RX2 yX2_endOfCells wsX2_endOfCells) := goodIn_app (goodIn_of _ (by decide +kernel)) ggX5_count_X2_endOfCells
set_option maxRecDepth 20000 in
theorem ggX5_count_X3_refusals : GoodIn wsX5_count wsX3_refusals := goodIn_r _ [63, 64, 65, 66, 67, 68, 62, 69, 70, 71, 72, 73, 74, 75, 12, 76, 14, 77, 51, 52, 48, 53, 54, 82, 83, 84, 85, 86, 87, 88, 99, 100] (by decide +kernel) (by decide +kernel)
set_option maxRecDepth 20000 in
theorem gX5_count_X3_refusals : GoodIn wsX5_count (wsV RX5 144 RX3 yX3_refusals wsX3_refusals) := goodIn_app (goodIn_of _ (by decide +kernel)) ggX5_count_X3_refusals
theorem dX5_count_0 : decode cX5_count 0 = .ok (.iload_n 1, 1) := by decide +kernel
theorem dX5_count_1 : decode cX5_count 1 = .ok (.tableswitch 152 0 8 #[51, 62, 73, 84, 95, 106, 128, 136, 144], 51) := by decide +kernel
theorem dX5_count_52 : decode cX5_count 52 = .ok (.aload_n 0, 1) := by decide +kernel
theorem dX5_count_53 : decode cX5_count 53 = .ok (.getfield 12, 3) := by decide +kernel
theorem dX5_count_56 : decode cX5_count 56 = .ok (.getfield 37, 3) := by decide +kernel
theorem dX5_count_59 : decode cX5_count 59 = .ok (.getfield 41, 3) := by decide +kernel
theorem dX5_count_62 : decode cX5_count 62 = .ok (.ireturn, 1) := by decide +kernel
theorem dX5_count_63 : decode cX5_count 63 = .ok (.aload_n 0, 1) := by decide +kernel
theorem dX5_count_64 : decode cX5_count 64 = .ok (.getfield 12, 3) := by decide +kernel
theorem dX5_count_67 : decode cX5_count 67 = .ok (.getfield 37, 3) := by decide +kernel
theorem dX5_count_70 : decode cX5_count 70 = .ok (.invokevirtual 135, 3) := by decide +kernel
theorem dX5_count_73 : decode cX5_count 73 = .ok (.ireturn, 1) := by decide +kernel
theorem dX5_count_74 : decode cX5_count 74 = .ok (.aload_n 0, 1) := by decide +kernel
theorem dX5_count_75 : decode cX5_count 75 = .ok (.getfield 12, 3) := by decide +kernel
theorem dX5_count_78 : decode cX5_count 78 = .ok (.getfield 37, 3) := by decide +kernel
theorem dX5_count_81 : decode cX5_count 81 = .ok (.invokevirtual 138, 3) := by decide +kernel
theorem dX5_count_84 : decode cX5_count 84 = .ok (.ireturn, 1) := by decide +kernel
theorem dX5_count_85 : decode cX5_count 85 = .ok (.aload_n 0, 1) := by decide +kernel
theorem dX5_count_86 : decode cX5_count 86 = .ok (.getfield 12, 3) := by decide +kernel
theorem dX5_count_89 : decode cX5_count 89 = .ok (.getfield 93, 3) := by decide +kernel
theorem dX5_count_92 : decode cX5_count 92 = .ok (.invokevirtual 141, 3) := by decide +kernel
theorem dX5_count_95 : decode cX5_count 95 = .ok (.ireturn, 1) := by decide +kernel
theorem dX5_count_96 : decode cX5_count 96 = .ok (.aload_n 0, 1) := by decide +kernel
theorem dX5_count_97 : decode cX5_count 97 = .ok (.getfield 12, 3) := by decide +kernel
theorem dX5_count_100 : decode cX5_count 100 = .ok (.getfield 93, 3) := by decide +kernel
theorem dX5_count_103 : decode cX5_count 103 = .ok (.invokevirtual 97, 3) := by decide +kernel
theorem dX5_count_106 : decode cX5_count 106 = .ok (.ireturn, 1) := by decide +kernel
theorem dX5_count_107 : decode cX5_count 107 = .ok (.aload_n 0, 1) := by decide +kernel
theorem dX5_count_108 : decode cX5_count 108 = .ok (.getfield 12, 3) := by decide +kernel
theorem dX5_count_111 : decode cX5_count 111 = .ok (.getfield 93, 3) := by decide +kernel
theorem dX5_count_114 : decode cX5_count 114 = .ok (.invokevirtual 97, 3) := by decide +kernel
theorem dX5_count_117 : decode cX5_count 117 = .ok (.aload_n 0, 1) := by decide +kernel
theorem dX5_count_118 : decode cX5_count 118 = .ok (.getfield 12, 3) := by decide +kernel
theorem dX5_count_121 : decode cX5_count 121 = .ok (.getfield 93, 3) := by decide +kernel
theorem dX5_count_124 : decode cX5_count 124 = .ok (.invokevirtual 141, 3) := by decide +kernel
theorem dX5_count_127 : decode cX5_count 127 = .ok (.isub, 1) := by decide +kernel
theorem dX5_count_128 : decode cX5_count 128 = .ok (.ireturn, 1) := by decide +kernel
theorem dX5_count_129 : decode cX5_count 129 = .ok (.aload_n 0, 1) := by decide +kernel
theorem dX5_count_130 : decode cX5_count 130 = .ok (.getfield 12, 3) := by decide +kernel
theorem dX5_count_133 : decode cX5_count 133 = .ok (.invokevirtual 144, 3) := by decide +kernel
theorem dX5_count_136 : decode cX5_count 136 = .ok (.ireturn, 1) := by decide +kernel
theorem dX5_count_137 : decode cX5_count 137 = .ok (.aload_n 0, 1) := by decide +kernel
theorem dX5_count_138 : decode cX5_count 138 = .ok (.getfield 22, 3) := by decide +kernel
theorem dX5_count_141 : decode cX5_count 141 = .ok (.getfield 103, 3) := by decide +kernel
theorem dX5_count_144 : decode cX5_count 144 = .ok (.ireturn, 1) := by decide +kernel
theorem dX5_count_145 : decode cX5_count 145 = .ok (.aload_n 0, 1) := by decide +kernel
theorem dX5_count_146 : decode cX5_count 146 = .ok (.getfield 29, 3) := by decide +kernel
theorem dX5_count_149 : decode cX5_count 149 = .ok (.getfield 113, 3) := by decide +kernel
theorem dX5_count_152 : decode cX5_count 152 = .ok (.ireturn, 1) := by decide +kernel
theorem dX5_count_153 : decode cX5_count 153 = .ok (.iconst (-1), 1) := by decide +kernel
theorem dX5_count_154 : decode cX5_count 154 = .ok (.ireturn, 1) := by decide +kernel
set_option maxRecDepth 20000 in
theorem ggX5_row_X5_isRow : GoodIn wsX5_row wsX5_isRow := goodIn_r _ [9, 1, 2, 10, 43, 44, 45, 46, 47, 48, 49, 50, 51, 52, 53] (by decide +kernel) (by decide +kernel)
set_option maxRecDepth 20000 in
theorem gX5_row_X5_isRow : GoodIn wsX5_row (wsV RX5 55 RX5 yX5_isRow wsX5_isRow) := goodIn_app (goodIn_of _ (by decide +kernel)) ggX5_row_X5_isRow
set_option maxRecDepth 20000 in
theorem ggX5_row_X1_weightOf : GoodIn wsX5_row wsX1_weightOf := goodIn_r _ [15, 16, 17, 18, 14, 19, 20, 21, 22, 23, 24, 25, 26, 27, 28, 29, 30, 31, 32, 33, 34, 35, 36, 49, 50, 51, 52, 53] (by decide +kernel) (by decide +kernel)
set_option maxRecDepth 20000 in
theorem gX5_row_X1_weightOf : GoodIn wsX5_row (wsV RX5 77 RX1 yX1_weightOf wsX1_weightOf) := goodIn_app (goodIn_of _ (by decide +kernel)) ggX5_row_X1_weightOf
set_option maxRecDepth 20000 in
theorem ggX5_row_X1_shiftOf : GoodIn wsX5_row wsX1_shiftOf := goodIn_r _ [40, 41, 49, 50, 51, 52, 53] (by decide +kernel) (by decide +kernel)
set_option maxRecDepth 20000 in
theorem gX5_row_X1_shiftOf : GoodIn wsX5_row (wsV RX5 150 RX1 yX1_shiftOf wsX1_shiftOf) := goodIn_app (goodIn_of _ (by decide +kernel)) ggX5_row_X1_shiftOf
set_option maxRecDepth 20000 in
theorem ggX5_row_X1_columnsOf : GoodIn wsX5_row wsX1_columnsOf := goodIn_r _ [19, 20, 21, 22, 14, 23, 24, 25, 26, 27, 28, 29, 49, 50, 51, 52, 53] (by decide +kernel) (by decide +kernel)
set_option maxRecDepth 20000 in
theorem gX5_row_X1_columnsOf : GoodIn wsX5_row (wsV RX5 153 RX1 yX1_columnsOf wsX1_columnsOf) := goodIn_app (goodIn_of _ (by decide +kernel)) ggX5_row_X1_columnsOf
theorem dX5_row_0 : decode cX5_row 0 = .ok (.aload_n 0, 1) := by decide +kernel
theorem dX5_row_1 : decode cX5_row 1 = .ok (.iload_n 1, 1) := by decide +kernel
theorem dX5_row_2 : decode cX5_row 2 = .ok (.invokevirtual 55, 3) := by decide +kernel
theorem dX5_row_5 : decode cX5_row 5 = .ok (.ifCond .ne 5, 3) := by decide +kernel
theorem dX5_row_8 : decode cX5_row 8 = .ok (.iconst (-1), 1) := by decide +kernel
theorem dX5_row_9 : decode cX5_row 9 = .ok (.ireturn, 1) := by decide +kernel
theorem dX5_row_10 : decode cX5_row 10 = .ok (.iload_n 2, 1) := by decide +kernel
theorem dX5_row_11 : decode cX5_row 11 = .ok (.tableswitch 106 0 4 #[33, 46, 58, 71, 94], 33) := by decide +kernel
theorem dX5_row_44 : decode cX5_row 44 = .ok (.aload_n 0, 1) := by decide +kernel
theorem dX5_row_45 : decode cX5_row 45 = .ok (.getfield 12, 3) := by decide +kernel
theorem dX5_row_48 : decode cX5_row 48 = .ok (.getfield 37, 3) := by decide +kernel
theorem dX5_row_51 : decode cX5_row 51 = .ok (.getfield 83, 3) := by decide +kernel
theorem dX5_row_54 : decode cX5_row 54 = .ok (.iload_n 1, 1) := by decide +kernel
theorem dX5_row_55 : decode cX5_row 55 = .ok (.iaload, 1) := by decide +kernel
theorem dX5_row_56 : decode cX5_row 56 = .ok (.ireturn, 1) := by decide +kernel
theorem dX5_row_57 : decode cX5_row 57 = .ok (.aload_n 0, 1) := by decide +kernel
theorem dX5_row_58 : decode cX5_row 58 = .ok (.getfield 12, 3) := by decide +kernel
theorem dX5_row_61 : decode cX5_row 61 = .ok (.getfield 37, 3) := by decide +kernel
theorem dX5_row_64 : decode cX5_row 64 = .ok (.iload_n 1, 1) := by decide +kernel
theorem dX5_row_65 : decode cX5_row 65 = .ok (.invokevirtual 77, 3) := by decide +kernel
theorem dX5_row_68 : decode cX5_row 68 = .ok (.ireturn, 1) := by decide +kernel
theorem dX5_row_69 : decode cX5_row 69 = .ok (.aload_n 0, 1) := by decide +kernel
theorem dX5_row_70 : decode cX5_row 70 = .ok (.getfield 12, 3) := by decide +kernel
theorem dX5_row_73 : decode cX5_row 73 = .ok (.getfield 37, 3) := by decide +kernel
theorem dX5_row_76 : decode cX5_row 76 = .ok (.getfield 147, 3) := by decide +kernel
theorem dX5_row_79 : decode cX5_row 79 = .ok (.iload_n 1, 1) := by decide +kernel
theorem dX5_row_80 : decode cX5_row 80 = .ok (.iaload, 1) := by decide +kernel
theorem dX5_row_81 : decode cX5_row 81 = .ok (.ireturn, 1) := by decide +kernel
theorem dX5_row_82 : decode cX5_row 82 = .ok (.aload_n 0, 1) := by decide +kernel
theorem dX5_row_83 : decode cX5_row 83 = .ok (.getfield 12, 3) := by decide +kernel
theorem dX5_row_86 : decode cX5_row 86 = .ok (.getfield 37, 3) := by decide +kernel
theorem dX5_row_89 : decode cX5_row 89 = .ok (.aload_n 0, 1) := by decide +kernel
theorem dX5_row_90 : decode cX5_row 90 = .ok (.getfield 12, 3) := by decide +kernel
theorem dX5_row_93 : decode cX5_row 93 = .ok (.getfield 37, 3) := by decide +kernel
theorem dX5_row_96 : decode cX5_row 96 = .ok (.getfield 147, 3) := by decide +kernel
theorem dX5_row_99 : decode cX5_row 99 = .ok (.iload_n 1, 1) := by decide +kernel
theorem dX5_row_100 : decode cX5_row 100 = .ok (.iaload, 1) := by decide +kernel
theorem dX5_row_101 : decode cX5_row 101 = .ok (.invokevirtual 150, 3) := by decide +kernel
theorem dX5_row_104 : decode cX5_row 104 = .ok (.ireturn, 1) := by decide +kernel
theorem dX5_row_105 : decode cX5_row 105 = .ok (.aload_n 0, 1) := by decide +kernel
theorem dX5_row_106 : decode cX5_row 106 = .ok (.getfield 12, 3) := by decide +kernel
theorem dX5_row_109 : decode cX5_row 109 = .ok (.getfield 37, 3) := by decide +kernel
theorem dX5_row_112 : decode cX5_row 112 = .ok (.iload_n 1, 1) := by decide +kernel
theorem dX5_row_113 : decode cX5_row 113 = .ok (.invokevirtual 153, 3) := by decide +kernel
theorem dX5_row_116 : decode cX5_row 116 = .ok (.ireturn, 1) := by decide +kernel
theorem dX5_row_117 : decode cX5_row 117 = .ok (.iconst (-1), 1) := by decide +kernel
theorem dX5_row_118 : decode cX5_row 118 = .ok (.ireturn, 1) := by decide +kernel
set_option maxRecDepth 20000 in
theorem ggX5_form_X1_shiftOf : GoodIn wsX5_form wsX1_shiftOf := goodIn_r _ [8, 9, 28, 29, 30, 31, 32] (by decide +kernel) (by decide +kernel)
set_option maxRecDepth 20000 in
theorem gX5_form_X1_shiftOf : GoodIn wsX5_form (wsV RX5 150 RX1 yX1_shiftOf wsX1_shiftOf) := goodIn_app (goodIn_of _ (by decide +kernel)) ggX5_form_X1_shiftOf
set_option maxRecDepth 20000 in
theorem ggX5_form_X1_sharersOf : GoodIn wsX5_form wsX1_sharersOf := goodIn_r _ [13, 14, 15, 28, 29, 30, 31, 32] (by decide +kernel) (by decide +kernel)
set_option maxRecDepth 20000 in
theorem gX5_form_X1_sharersOf : GoodIn wsX5_form (wsV RX5 156 RX1 yX1_sharersOf wsX1_sharersOf) := goodIn_app (goodIn_of _ (by decide +kernel)) ggX5_form_X1_sharersOf
set_option maxRecDepth 20000 in
theorem ggX5_form_X2_filledOf : GoodIn wsX5_form wsX2_filledOf := goodIn_r _ [20, 21, 33, 34] (by decide +kernel) (by decide +kernel)
set_option maxRecDepth 20000 in
theorem gX5_form_X2_filledOf : GoodIn wsX5_form (wsV RX5 159 RX2 yX2_filledOf wsX2_filledOf) := goodIn_app (goodIn_of _ (by decide +kernel)) ggX5_form_X2_filledOf
theorem dX5_form_0 : decode cX5_form 0 = .ok (.iload_n 1, 1) := by decide +kernel
theorem dX5_form_1 : decode cX5_form 1 = .ok (.ifCond .lt 18, 3) := by decide +kernel
theorem dX5_form_4 : decode cX5_form 4 = .ok (.iload_n 1, 1) := by decide +kernel
theorem dX5_form_5 : decode cX5_form 5 = .ok (.bipush 24, 2) := by decide +kernel
theorem dX5_form_7 : decode cX5_form 7 = .ok (.if_icmp .ge 12, 3) := by decide +kernel
theorem dX5_form_10 : decode cX5_form 10 = .ok (.iload_n 2, 1) := by decide +kernel
theorem dX5_form_11 : decode cX5_form 11 = .ok (.ifCond .lt 8, 3) := by decide +kernel
theorem dX5_form_14 : decode cX5_form 14 = .ok (.iload_n 2, 1) := by decide +kernel
theorem dX5_form_15 : decode cX5_form 15 = .ok (.iconst 2, 1) := by decide +kernel
theorem dX5_form_16 : decode cX5_form 16 = .ok (.if_icmp .le 5, 3) := by decide +kernel
theorem dX5_form_19 : decode cX5_form 19 = .ok (.iconst (-1), 1) := by decide +kernel
theorem dX5_form_20 : decode cX5_form 20 = .ok (.ireturn, 1) := by decide +kernel
theorem dX5_form_21 : decode cX5_form 21 = .ok (.aload_n 0, 1) := by decide +kernel
theorem dX5_form_22 : decode cX5_form 22 = .ok (.getfield 12, 3) := by decide +kernel
theorem dX5_form_25 : decode cX5_form 25 = .ok (.getfield 37, 3) := by decide +kernel
theorem dX5_form_28 : decode cX5_form 28 = .ok (.iload_n 1, 1) := by decide +kernel
theorem dX5_form_29 : decode cX5_form 29 = .ok (.invokevirtual 150, 3) := by decide +kernel
theorem dX5_form_32 : decode cX5_form 32 = .ok (.istore_n 3, 1) := by decide +kernel
theorem dX5_form_33 : decode cX5_form 33 = .ok (.iload_n 3, 1) := by decide +kernel
theorem dX5_form_34 : decode cX5_form 34 = .ok (.bipush (-9), 2) := by decide +kernel
theorem dX5_form_36 : decode cX5_form 36 = .ok (.if_icmp .eq 7, 3) := by decide +kernel
theorem dX5_form_39 : decode cX5_form 39 = .ok (.iload_n 2, 1) := by decide +kernel
theorem dX5_form_40 : decode cX5_form 40 = .ok (.ifCond .ne 5, 3) := by decide +kernel
theorem dX5_form_43 : decode cX5_form 43 = .ok (.iload_n 3, 1) := by decide +kernel
theorem dX5_form_44 : decode cX5_form 44 = .ok (.ireturn, 1) := by decide +kernel
theorem dX5_form_45 : decode cX5_form 45 = .ok (.iload_n 2, 1) := by decide +kernel
theorem dX5_form_46 : decode cX5_form 46 = .ok (.iconst 1, 1) := by decide +kernel
theorem dX5_form_47 : decode cX5_form 47 = .ok (.if_icmp .ne 17, 3) := by decide +kernel
theorem dX5_form_50 : decode cX5_form 50 = .ok (.aload_n 0, 1) := by decide +kernel
theorem dX5_form_51 : decode cX5_form 51 = .ok (.getfield 12, 3) := by decide +kernel
theorem dX5_form_54 : decode cX5_form 54 = .ok (.getfield 37, 3) := by decide +kernel
theorem dX5_form_57 : decode cX5_form 57 = .ok (.iload_n 1, 1) := by decide +kernel
theorem dX5_form_58 : decode cX5_form 58 = .ok (.invokevirtual 156, 3) := by decide +kernel
theorem dX5_form_61 : decode cX5_form 61 = .ok (.goto 15, 3) := by decide +kernel
theorem dX5_form_64 : decode cX5_form 64 = .ok (.aload_n 0, 1) := by decide +kernel
theorem dX5_form_65 : decode cX5_form 65 = .ok (.getfield 12, 3) := by decide +kernel
theorem dX5_form_68 : decode cX5_form 68 = .ok (.getfield 93, 3) := by decide +kernel
theorem dX5_form_71 : decode cX5_form 71 = .ok (.iload_n 1, 1) := by decide +kernel
theorem dX5_form_72 : decode cX5_form 72 = .ok (.iload_n 3, 1) := by decide +kernel
theorem dX5_form_73 : decode cX5_form 73 = .ok (.invokevirtual 159, 3) := by decide +kernel
theorem dX5_form_76 : decode cX5_form 76 = .ok (.ireturn, 1) := by decide +kernel
theorem dX5_cell_0 : decode cX5_cell 0 = .ok (.iload_n 1, 1) := by decide +kernel
theorem dX5_cell_1 : decode cX5_cell 1 = .ok (.ifCond .lt 19, 3) := by decide +kernel
theorem dX5_cell_4 : decode cX5_cell 4 = .ok (.iload_n 1, 1) := by decide +kernel
theorem dX5_cell_5 : decode cX5_cell 5 = .ok (.sipush 800, 3) := by decide +kernel
theorem dX5_cell_8 : decode cX5_cell 8 = .ok (.if_icmp .ge 12, 3) := by decide +kernel
theorem dX5_cell_11 : decode cX5_cell 11 = .ok (.iload_n 2, 1) := by decide +kernel
theorem dX5_cell_12 : decode cX5_cell 12 = .ok (.ifCond .lt 8, 3) := by decide +kernel
theorem dX5_cell_15 : decode cX5_cell 15 = .ok (.iload_n 2, 1) := by decide +kernel
theorem dX5_cell_16 : decode cX5_cell 16 = .ok (.iconst 1, 1) := by decide +kernel
theorem dX5_cell_17 : decode cX5_cell 17 = .ok (.if_icmp .le 5, 3) := by decide +kernel
theorem dX5_cell_20 : decode cX5_cell 20 = .ok (.iconst (-1), 1) := by decide +kernel
theorem dX5_cell_21 : decode cX5_cell 21 = .ok (.ireturn, 1) := by decide +kernel
theorem dX5_cell_22 : decode cX5_cell 22 = .ok (.iload_n 2, 1) := by decide +kernel
theorem dX5_cell_23 : decode cX5_cell 23 = .ok (.ifCond .ne 18, 3) := by decide +kernel
theorem dX5_cell_26 : decode cX5_cell 26 = .ok (.aload_n 0, 1) := by decide +kernel
theorem dX5_cell_27 : decode cX5_cell 27 = .ok (.getfield 12, 3) := by decide +kernel
theorem dX5_cell_30 : decode cX5_cell 30 = .ok (.getfield 93, 3) := by decide +kernel
theorem dX5_cell_33 : decode cX5_cell 33 = .ok (.getfield 162, 3) := by decide +kernel
theorem dX5_cell_36 : decode cX5_cell 36 = .ok (.iload_n 1, 1) := by decide +kernel
theorem dX5_cell_37 : decode cX5_cell 37 = .ok (.iaload, 1) := by decide +kernel
theorem dX5_cell_38 : decode cX5_cell 38 = .ok (.goto 15, 3) := by decide +kernel
theorem dX5_cell_41 : decode cX5_cell 41 = .ok (.aload_n 0, 1) := by decide +kernel
theorem dX5_cell_42 : decode cX5_cell 42 = .ok (.getfield 12, 3) := by decide +kernel
theorem dX5_cell_45 : decode cX5_cell 45 = .ok (.getfield 93, 3) := by decide +kernel
theorem dX5_cell_48 : decode cX5_cell 48 = .ok (.getfield 165, 3) := by decide +kernel
theorem dX5_cell_51 : decode cX5_cell 51 = .ok (.iload_n 1, 1) := by decide +kernel
theorem dX5_cell_52 : decode cX5_cell 52 = .ok (.iaload, 1) := by decide +kernel
theorem dX5_cell_53 : decode cX5_cell 53 = .ok (.ireturn, 1) := by decide +kernel
set_option maxRecDepth 20000 in
theorem ggX5_fit_X2_firstFit : GoodIn wsX5_fit wsX2_firstFit := goodIn_r _ [8, 9, 10, 11, 7, 12, 13, 14, 15, 16, 17, 24, 25] (by decide +kernel) (by decide +kernel)
set_option maxRecDepth 20000 in
theorem gX5_fit_X2_firstFit : GoodIn wsX5_fit (wsV RX5 169 RX2 yX2_firstFit wsX2_firstFit) := goodIn_app (goodIn_of _ (by decide +kernel)) ggX5_fit_X2_firstFit
theorem dX5_fit_0 : decode cX5_fit 0 = .ok (.iload_n 1, 1) := by decide +kernel
theorem dX5_fit_1 : decode cX5_fit 1 = .ok (.iconst 1, 1) := by decide +kernel
theorem dX5_fit_2 : decode cX5_fit 2 = .ok (.if_icmp .lt 9, 3) := by decide +kernel
theorem dX5_fit_5 : decode cX5_fit 5 = .ok (.iload_n 1, 1) := by decide +kernel
theorem dX5_fit_6 : decode cX5_fit 6 = .ok (.ldc 168, 2) := by decide +kernel
theorem dX5_fit_8 : decode cX5_fit 8 = .ok (.if_icmp .le 5, 3) := by decide +kernel
theorem dX5_fit_11 : decode cX5_fit 11 = .ok (.iconst (-1), 1) := by decide +kernel
theorem dX5_fit_12 : decode cX5_fit 12 = .ok (.ireturn, 1) := by decide +kernel
theorem dX5_fit_13 : decode cX5_fit 13 = .ok (.aload_n 0, 1) := by decide +kernel
theorem dX5_fit_14 : decode cX5_fit 14 = .ok (.getfield 12, 3) := by decide +kernel
theorem dX5_fit_17 : decode cX5_fit 17 = .ok (.getfield 93, 3) := by decide +kernel
theorem dX5_fit_20 : decode cX5_fit 20 = .ok (.iload_n 1, 1) := by decide +kernel
theorem dX5_fit_21 : decode cX5_fit 21 = .ok (.invokevirtual 169, 3) := by decide +kernel
theorem dX5_fit_24 : decode cX5_fit 24 = .ok (.ireturn, 1) := by decide +kernel
set_option maxRecDepth 20000 in
theorem ggX5_endBy_X1_copyFrom : GoodIn wsX5_endBy wsX1_copyFrom := goodIn_r _ [9, 10, 11, 12, 13, 14, 15, 16, 17, 18, 147, 148, 149, 150, 151] (by decide +kernel) (by decide +kernel)
set_option maxRecDepth 20000 in
theorem gX5_endBy_X1_copyFrom : GoodIn wsX5_endBy (wsV RX5 172 RX1 yX1_copyFrom wsX1_copyFrom) := goodIn_app (goodIn_of _ (by decide +kernel)) ggX5_endBy_X1_copyFrom
set_option maxRecDepth 20000 in
theorem ggX5_endBy_X3_pushAnewByWeights : GoodIn wsX5_endBy wsX3_pushAnewByWeights := goodIn_r _ [23, 24, 25, 26, 27, 28, 22, 29, 30, 31, 8, 32, 33, 17, 18, 34, 35, 36, 37, 38, 39, 40, 41, 42, 43, 44, 45, 46, 47, 48, 49, 50, 51, 52, 53, 54, 55, 56, 57, 11, 58, 59, 60, 61, 16, 62, 63, 64, 65, 66, 67, 68, 69, 70, 71, 72, 73, 74, 75, 76, 77, 78, 79, 80, 81, 82, 83, 84, 85, 86, 87, 88, 89, 90, 91, 92, 93, 94, 10, 95, 96, 97, 98, 99, 100, 101, 102, 103, 104, 105, 106, 107, 108, 109, 110, 111, 112, 113, 114, 115, 116, 117, 118, 119, 120, 121, 122, 123, 124, 125, 126, 127, 128, 129, 130, 131, 132, 145, 146, 147, 148, 149, 150, 151, 152, 153] (by decide +kernel) (by decide +kernel)
set_option maxRecDepth 20000 in
theorem gX5_endBy_X3_pushAnewByWeights : GoodIn wsX5_endBy (wsV RX5 90 RX3 yX3_pushAnewByWeights wsX3_pushAnewByWeights) := goodIn_app (goodIn_of _ (by decide +kernel)) ggX5_endBy_X3_pushAnewByWeights
set_option maxRecDepth 20000 in
theorem ggX5_endBy_X3_pushAnewByNumbers : GoodIn wsX5_endBy wsX3_pushAnewByNumbers := goodIn_r _ [136, 24, 25, 26, 27, 28, 22, 29, 30, 31, 8, 32, 33, 17, 18, 34, 35, 36, 37, 38, 39, 40, 41, 42, 43, 44, 45, 69, 70, 71, 72, 73, 74, 75, 76, 77, 78, 79, 80, 81, 82, 83, 84, 55, 56, 57, 11, 58, 59, 60, 61, 16, 85, 86, 87, 88, 89, 90, 91, 92, 93, 94, 10, 95, 96, 97, 98, 99, 100, 101, 102, 103, 51, 52, 53, 54, 104, 105, 106, 107, 108, 109, 110, 111, 112, 113, 114, 115, 116, 117, 118, 119, 120, 121, 122, 123, 124, 125, 126, 127, 128, 129, 130, 131, 132, 145, 146, 147, 148, 149, 150, 151, 152, 153] (by decide +kernel) (by decide +kernel)
set_option maxRecDepth 20000 in
theorem gX5_endBy_X3_pushAnewByNumbers : GoodIn wsX5_endBy (wsV RX5 175 RX3 yX3_pushAnewByNumbers wsX3_pushAnewByNumbers) := goodIn_app (goodIn_of _ (by decide +kernel)) ggX5_endBy_X3_pushAnewByNumbers
set_option maxRecDepth 20000 in
theorem ggX5_endBy_X2_endOfCells : GoodIn wsX5_endBy wsX2_endOfCells := goodIn_r _ [140, 124, 125, 126, 41, 127, 44, 152, 153] (by decide +kernel) (by decide +kernel)
set_option maxRecDepth 20000 in
theorem gX5_endBy_X2_endOfCells : GoodIn wsX5_endBy (wsV RX5 97 RX2 yX2_endOfCells wsX2_endOfCells) := goodIn_app (goodIn_of _ (by decide +kernel)) ggX5_endBy_X2_endOfCells
theorem dX5_endBy_0 : decode cX5_endBy 0 = .ok (.iload_n 1, 1) := by decide +kernel
theorem dX5_endBy_1 : decode cX5_endBy 1 = .ok (.ifCond .eq 10, 3) := by decide +kernel
theorem dX5_endBy_4 : decode cX5_endBy 4 = .ok (.iload_n 1, 1) := by decide +kernel
theorem dX5_endBy_5 : decode cX5_endBy 5 = .ok (.iconst 1, 1) := by decide +kernel
theorem dX5_endBy_6 : decode cX5_endBy 6 = .ok (.if_icmp .eq 5, 3) := by decide +kernel
theorem dX5_endBy_9 : decode cX5_endBy 9 = .ok (.iconst (-1), 1) := by decide +kernel
theorem dX5_endBy_10 : decode cX5_endBy 10 = .ok (.ireturn, 1) := by decide +kernel
theorem dX5_endBy_11 : decode cX5_endBy 11 = .ok (.aload_n 0, 1) := by decide +kernel
theorem dX5_endBy_12 : decode cX5_endBy 12 = .ok (.getfield 16, 3) := by decide +kernel
theorem dX5_endBy_15 : decode cX5_endBy 15 = .ok (.getfield 37, 3) := by decide +kernel
theorem dX5_endBy_18 : decode cX5_endBy 18 = .ok (.aload_n 0, 1) := by decide +kernel
theorem dX5_endBy_19 : decode cX5_endBy 19 = .ok (.getfield 12, 3) := by decide +kernel
theorem dX5_endBy_22 : decode cX5_endBy 22 = .ok (.getfield 37, 3) := by decide +kernel
theorem dX5_endBy_25 : decode cX5_endBy 25 = .ok (.invokevirtual 172, 3) := by decide +kernel
theorem dX5_endBy_28 : decode cX5_endBy 28 = .ok (.iload_n 1, 1) := by decide +kernel
theorem dX5_endBy_29 : decode cX5_endBy 29 = .ok (.ifCond .ne 13, 3) := by decide +kernel
theorem dX5_endBy_32 : decode cX5_endBy 32 = .ok (.aload_n 0, 1) := by decide +kernel
theorem dX5_endBy_33 : decode cX5_endBy 33 = .ok (.getfield 16, 3) := by decide +kernel
theorem dX5_endBy_36 : decode cX5_endBy 36 = .ok (.invokevirtual 90, 3) := by decide +kernel
theorem dX5_endBy_39 : decode cX5_endBy 39 = .ok (.goto 10, 3) := by decide +kernel
theorem dX5_endBy_42 : decode cX5_endBy 42 = .ok (.aload_n 0, 1) := by decide +kernel
theorem dX5_endBy_43 : decode cX5_endBy 43 = .ok (.getfield 16, 3) := by decide +kernel
theorem dX5_endBy_46 : decode cX5_endBy 46 = .ok (.invokevirtual 175, 3) := by decide +kernel
theorem dX5_endBy_49 : decode cX5_endBy 49 = .ok (.aload_n 0, 1) := by decide +kernel
theorem dX5_endBy_50 : decode cX5_endBy 50 = .ok (.getfield 16, 3) := by decide +kernel
theorem dX5_endBy_53 : decode cX5_endBy 53 = .ok (.getfield 93, 3) := by decide +kernel
theorem dX5_endBy_56 : decode cX5_endBy 56 = .ok (.invokevirtual 97, 3) := by decide +kernel
theorem dX5_endBy_59 : decode cX5_endBy 59 = .ok (.ireturn, 1) := by decide +kernel
set_option maxRecDepth 20000 in
theorem ggX5_slimmer_X1_slimmerBy : GoodIn wsX5_slimmer wsX1_slimmerBy := goodIn_r _ [8, 9, 10, 11, 7, 12, 13, 14, 15, 16, 17, 18, 19, 20, 21, 22, 23, 24, 25, 26, 27, 28, 29, 30, 31, 32, 33, 34, 35, 36, 37, 38, 39, 40, 41, 48, 49, 50, 51, 52] (by decide +kernel) (by decide +kernel)
set_option maxRecDepth 20000 in
theorem gX5_slimmer_X1_slimmerBy : GoodIn wsX5_slimmer (wsV RX5 178 RX1 yX1_slimmerBy wsX1_slimmerBy) := goodIn_app (goodIn_of _ (by decide +kernel)) ggX5_slimmer_X1_slimmerBy
theorem dX5_slimmer_0 : decode cX5_slimmer 0 = .ok (.iconst 0, 1) := by decide +kernel
theorem dX5_slimmer_1 : decode cX5_slimmer 1 = .ok (.istore_n 1, 1) := by decide +kernel
theorem dX5_slimmer_2 : decode cX5_slimmer 2 = .ok (.iconst 0, 1) := by decide +kernel
theorem dX5_slimmer_3 : decode cX5_slimmer 3 = .ok (.istore_n 2, 1) := by decide +kernel
theorem dX5_slimmer_4 : decode cX5_slimmer 4 = .ok (.iload_n 2, 1) := by decide +kernel
theorem dX5_slimmer_5 : decode cX5_slimmer 5 = .ok (.aload_n 0, 1) := by decide +kernel
theorem dX5_slimmer_6 : decode cX5_slimmer 6 = .ok (.getfield 12, 3) := by decide +kernel
theorem dX5_slimmer_9 : decode cX5_slimmer 9 = .ok (.getfield 37, 3) := by decide +kernel
theorem dX5_slimmer_12 : decode cX5_slimmer 12 = .ok (.getfield 41, 3) := by decide +kernel
theorem dX5_slimmer_15 : decode cX5_slimmer 15 = .ok (.if_icmp .ge 23, 3) := by decide +kernel
theorem dX5_slimmer_18 : decode cX5_slimmer 18 = .ok (.iload_n 1, 1) := by decide +kernel
theorem dX5_slimmer_19 : decode cX5_slimmer 19 = .ok (.aload_n 0, 1) := by decide +kernel
theorem dX5_slimmer_20 : decode cX5_slimmer 20 = .ok (.getfield 12, 3) := by decide +kernel
theorem dX5_slimmer_23 : decode cX5_slimmer 23 = .ok (.getfield 37, 3) := by decide +kernel
theorem dX5_slimmer_26 : decode cX5_slimmer 26 = .ok (.iload_n 2, 1) := by decide +kernel
theorem dX5_slimmer_27 : decode cX5_slimmer 27 = .ok (.invokevirtual 178, 3) := by decide +kernel
theorem dX5_slimmer_30 : decode cX5_slimmer 30 = .ok (.iadd, 1) := by decide +kernel
theorem dX5_slimmer_31 : decode cX5_slimmer 31 = .ok (.istore_n 1, 1) := by decide +kernel
theorem dX5_slimmer_32 : decode cX5_slimmer 32 = .ok (.iinc 2 1, 3) := by decide +kernel
theorem dX5_slimmer_35 : decode cX5_slimmer 35 = .ok (.goto (-31), 3) := by decide +kernel
theorem dX5_slimmer_38 : decode cX5_slimmer 38 = .ok (.iload_n 1, 1) := by decide +kernel
theorem dX5_slimmer_39 : decode cX5_slimmer 39 = .ok (.ireturn, 1) := by decide +kernel
set_option maxRecDepth 20000 in
theorem ggX5_like_X5_isRow : GoodIn wsX5_like wsX5_isRow := goodIn_r _ [7, 1, 2, 8, 24, 25, 26, 27, 28, 29, 30, 31, 32, 33, 34] (by decide +kernel) (by decide +kernel)
set_option maxRecDepth 20000 in
theorem gX5_like_X5_isRow : GoodIn wsX5_like (wsV RX5 55 RX5 yX5_isRow wsX5_isRow) := goodIn_app (goodIn_of _ (by decide +kernel)) ggX5_like_X5_isRow
set_option maxRecDepth 20000 in
theorem ggX5_like_X1_mostLike : GoodIn wsX5_like wsX1_mostLike := goodIn_r _ [13, 14, 15, 16, 17, 12, 18, 19, 20, 21, 22, 23, 30, 31, 32, 33, 34] (by decide +kernel) (by decide +kernel)
set_option maxRecDepth 20000 in
theorem gX5_like_X1_mostLike : GoodIn wsX5_like (wsV RX5 181 RX1 yX1_mostLike wsX1_mostLike) := goodIn_app (goodIn_of _ (by decide +kernel)) ggX5_like_X1_mostLike
theorem dX5_like_0 : decode cX5_like 0 = .ok (.aload_n 0, 1) := by decide +kernel
theorem dX5_like_1 : decode cX5_like 1 = .ok (.iload_n 1, 1) := by decide +kernel
theorem dX5_like_2 : decode cX5_like 2 = .ok (.invokevirtual 55, 3) := by decide +kernel
theorem dX5_like_5 : decode cX5_like 5 = .ok (.ifCond .ne 5, 3) := by decide +kernel
theorem dX5_like_8 : decode cX5_like 8 = .ok (.iconst (-1), 1) := by decide +kernel
theorem dX5_like_9 : decode cX5_like 9 = .ok (.ireturn, 1) := by decide +kernel
theorem dX5_like_10 : decode cX5_like 10 = .ok (.aload_n 0, 1) := by decide +kernel
theorem dX5_like_11 : decode cX5_like 11 = .ok (.getfield 12, 3) := by decide +kernel
theorem dX5_like_14 : decode cX5_like 14 = .ok (.getfield 37, 3) := by decide +kernel
theorem dX5_like_17 : decode cX5_like 17 = .ok (.iload_n 1, 1) := by decide +kernel
theorem dX5_like_18 : decode cX5_like 18 = .ok (.invokevirtual 181, 3) := by decide +kernel
theorem dX5_like_21 : decode cX5_like 21 = .ok (.ireturn, 1) := by decide +kernel
set_option maxRecDepth 20000 in
theorem ggX5_addRowOfText_X1_addRow : GoodIn wsX5_addRowOfText wsX1_addRow := goodIn_r _ [9, 10, 11, 12, 13, 14, 15, 16, 17, 18, 19, 20, 127, 128, 129, 130, 131] (by decide +kernel) (by decide +kernel)
set_option maxRecDepth 20000 in
theorem gX5_addRowOfText_X1_addRow : GoodIn wsX5_addRowOfText (wsV RX5 51 RX1 yX1_addRow wsX1_addRow) := goodIn_app (goodIn_of _ (by decide +kernel)) ggX5_addRowOfText_X1_addRow
set_option maxRecDepth 20000 in
theorem ggX5_addRowOfText_X4_valueRead : GoodIn wsX5_addRowOfText wsX4_valueRead := goodIn_r _ [25, 26, 119, 120, 121, 122, 123, 124, 125, 126] (by decide +kernel) (by decide +kernel)
set_option maxRecDepth 20000 in
theorem gX5_addRowOfText_X4_valueRead : GoodIn wsX5_addRowOfText (wsV RX5 185 RX4 yX4_valueRead wsX4_valueRead) := goodIn_app (goodIn_of _ (by decide +kernel)) ggX5_addRowOfText_X4_valueRead
set_option maxRecDepth 20000 in
theorem ggX5_addRowOfText_X1_changeValue : GoodIn wsX5_addRowOfText wsX1_changeValue := goodIn_r _ [30, 12, 127, 128, 129, 130, 131] (by decide +kernel) (by decide +kernel)
set_option maxRecDepth 20000 in
theorem gX5_addRowOfText_X1_changeValue : GoodIn wsX5_addRowOfText (wsV RX5 65 RX1 yX1_changeValue wsX1_changeValue) := goodIn_app (goodIn_of _ (by decide +kernel)) ggX5_addRowOfText_X1_changeValue
set_option maxRecDepth 20000 in
theorem ggX5_addRowOfText_X3_settle : GoodIn wsX5_addRowOfText wsX3_settle := goodIn_r _ [35, 36, 37, 38, 39, 40, 34, 41, 42, 43, 44, 45, 46, 47, 8, 48, 49, 50, 51, 52, 53, 11, 54, 55, 56, 57, 12, 58, 59, 60, 61, 62, 63, 64, 65, 66, 67, 10, 13, 68, 69, 70, 71, 72, 73, 74, 75, 76, 77, 78, 79, 80, 81, 82, 83, 84, 85, 86, 87, 88, 89, 90, 91, 92, 93, 94, 95, 96, 97, 98, 99, 100, 101, 102, 103, 104, 105, 106, 107, 108, 109, 110, 111, 112, 117, 118, 127, 128, 129, 130, 131, 132, 133] (by decide +kernel) (by decide +kernel)
set_option maxRecDepth 20000 in
theorem gX5_addRowOfText_X3_settle : GoodIn wsX5_addRowOfText (wsV RX5 69 RX3 yX3_settle wsX3_settle) := goodIn_app (goodIn_of _ (by decide +kernel)) ggX5_addRowOfText_X3_settle
theorem dX5_addRowOfText_0 : decode cX5_addRowOfText 0 = .ok (.aload_n 0, 1) := by decide +kernel
theorem dX5_addRowOfText_1 : decode cX5_addRowOfText 1 = .ok (.getfield 12, 3) := by decide +kernel
theorem dX5_addRowOfText_4 : decode cX5_addRowOfText 4 = .ok (.getfield 37, 3) := by decide +kernel
theorem dX5_addRowOfText_7 : decode cX5_addRowOfText 7 = .ok (.aload_n 0, 1) := by decide +kernel
theorem dX5_addRowOfText_8 : decode cX5_addRowOfText 8 = .ok (.getfield 29, 3) := by decide +kernel
theorem dX5_addRowOfText_11 : decode cX5_addRowOfText 11 = .ok (.getfield 184, 3) := by decide +kernel
theorem dX5_addRowOfText_14 : decode cX5_addRowOfText 14 = .ok (.iload_n 1, 1) := by decide +kernel
theorem dX5_addRowOfText_15 : decode cX5_addRowOfText 15 = .ok (.iaload, 1) := by decide +kernel
theorem dX5_addRowOfText_16 : decode cX5_addRowOfText 16 = .ok (.invokevirtual 51, 3) := by decide +kernel
theorem dX5_addRowOfText_19 : decode cX5_addRowOfText 19 = .ok (.istore_n 2, 1) := by decide +kernel
theorem dX5_addRowOfText_20 : decode cX5_addRowOfText 20 = .ok (.iload_n 2, 1) := by decide +kernel
theorem dX5_addRowOfText_21 : decode cX5_addRowOfText 21 = .ok (.bipush (-9), 2) := by decide +kernel
theorem dX5_addRowOfText_23 : decode cX5_addRowOfText 23 = .ok (.if_icmp .ne 4, 3) := by decide +kernel
theorem dX5_addRowOfText_26 : decode cX5_addRowOfText 26 = .ok (.return_, 1) := by decide +kernel
theorem dX5_addRowOfText_27 : decode cX5_addRowOfText 27 = .ok (.iconst 0, 1) := by decide +kernel
theorem dX5_addRowOfText_28 : decode cX5_addRowOfText 28 = .ok (.istore_n 3, 1) := by decide +kernel
theorem dX5_addRowOfText_29 : decode cX5_addRowOfText 29 = .ok (.iload_n 3, 1) := by decide +kernel
theorem dX5_addRowOfText_30 : decode cX5_addRowOfText 30 = .ok (.bipush 16, 2) := by decide +kernel
theorem dX5_addRowOfText_32 : decode cX5_addRowOfText 32 = .ok (.if_icmp .ge 30, 3) := by decide +kernel
theorem dX5_addRowOfText_35 : decode cX5_addRowOfText 35 = .ok (.aload_n 0, 1) := by decide +kernel
theorem dX5_addRowOfText_36 : decode cX5_addRowOfText 36 = .ok (.getfield 12, 3) := by decide +kernel
theorem dX5_addRowOfText_39 : decode cX5_addRowOfText 39 = .ok (.getfield 37, 3) := by decide +kernel
theorem dX5_addRowOfText_42 : decode cX5_addRowOfText 42 = .ok (.iload_n 2, 1) := by decide +kernel
theorem dX5_addRowOfText_43 : decode cX5_addRowOfText 43 = .ok (.iload_n 3, 1) := by decide +kernel
theorem dX5_addRowOfText_44 : decode cX5_addRowOfText 44 = .ok (.aload_n 0, 1) := by decide +kernel
theorem dX5_addRowOfText_45 : decode cX5_addRowOfText 45 = .ok (.getfield 29, 3) := by decide +kernel
theorem dX5_addRowOfText_48 : decode cX5_addRowOfText 48 = .ok (.iload_n 1, 1) := by decide +kernel
theorem dX5_addRowOfText_49 : decode cX5_addRowOfText 49 = .ok (.iload_n 3, 1) := by decide +kernel
theorem dX5_addRowOfText_50 : decode cX5_addRowOfText 50 = .ok (.invokevirtual 185, 3) := by decide +kernel
theorem dX5_addRowOfText_53 : decode cX5_addRowOfText 53 = .ok (.invokevirtual 65, 3) := by decide +kernel
theorem dX5_addRowOfText_56 : decode cX5_addRowOfText 56 = .ok (.iinc 3 1, 3) := by decide +kernel
theorem dX5_addRowOfText_59 : decode cX5_addRowOfText 59 = .ok (.goto (-30), 3) := by decide +kernel
theorem dX5_addRowOfText_62 : decode cX5_addRowOfText 62 = .ok (.aload_n 0, 1) := by decide +kernel
theorem dX5_addRowOfText_63 : decode cX5_addRowOfText 63 = .ok (.getfield 12, 3) := by decide +kernel
theorem dX5_addRowOfText_66 : decode cX5_addRowOfText 66 = .ok (.iload_n 2, 1) := by decide +kernel
theorem dX5_addRowOfText_67 : decode cX5_addRowOfText 67 = .ok (.invokevirtual 69, 3) := by decide +kernel
theorem dX5_addRowOfText_70 : decode cX5_addRowOfText 70 = .ok (.return_, 1) := by decide +kernel
theorem dX5_isRow_0 : decode cX5_isRow 0 = .ok (.iload_n 1, 1) := by decide +kernel
theorem dX5_isRow_1 : decode cX5_isRow 1 = .ok (.ifCond .lt 21, 3) := by decide +kernel
theorem dX5_isRow_4 : decode cX5_isRow 4 = .ok (.iload_n 1, 1) := by decide +kernel
theorem dX5_isRow_5 : decode cX5_isRow 5 = .ok (.aload_n 0, 1) := by decide +kernel
theorem dX5_isRow_6 : decode cX5_isRow 6 = .ok (.getfield 12, 3) := by decide +kernel
theorem dX5_isRow_9 : decode cX5_isRow 9 = .ok (.getfield 37, 3) := by decide +kernel
theorem dX5_isRow_12 : decode cX5_isRow 12 = .ok (.getfield 41, 3) := by decide +kernel
theorem dX5_isRow_15 : decode cX5_isRow 15 = .ok (.if_icmp .ge 7, 3) := by decide +kernel
theorem dX5_isRow_18 : decode cX5_isRow 18 = .ok (.iconst 1, 1) := by decide +kernel
theorem dX5_isRow_19 : decode cX5_isRow 19 = .ok (.goto 4, 3) := by decide +kernel
theorem dX5_isRow_22 : decode cX5_isRow 22 = .ok (.iconst 0, 1) := by decide +kernel
theorem dX5_isRow_23 : decode cX5_isRow 23 = .ok (.ireturn, 1) := by decide +kernel
theorem dX5_isColumn_0 : decode cX5_isColumn 0 = .ok (.iload_n 0, 1) := by decide +kernel
theorem dX5_isColumn_1 : decode cX5_isColumn 1 = .ok (.ifCond .lt 13, 3) := by decide +kernel
theorem dX5_isColumn_4 : decode cX5_isColumn 4 = .ok (.iload_n 0, 1) := by decide +kernel
theorem dX5_isColumn_5 : decode cX5_isColumn 5 = .ok (.bipush 16, 2) := by decide +kernel
theorem dX5_isColumn_7 : decode cX5_isColumn 7 = .ok (.if_icmp .ge 7, 3) := by decide +kernel
theorem dX5_isColumn_10 : decode cX5_isColumn 10 = .ok (.iconst 1, 1) := by decide +kernel
theorem dX5_isColumn_11 : decode cX5_isColumn 11 = .ok (.goto 4, 3) := by decide +kernel
theorem dX5_isColumn_14 : decode cX5_isColumn 14 = .ok (.iconst 0, 1) := by decide +kernel
theorem dX5_isColumn_15 : decode cX5_isColumn 15 = .ok (.ireturn, 1) := by decide +kernel
theorem dX5_isValue_0 : decode cX5_isValue 0 = .ok (.iload_n 0, 1) := by decide +kernel
theorem dX5_isValue_1 : decode cX5_isValue 1 = .ok (.ifCond .lt 13, 3) := by decide +kernel
theorem dX5_isValue_4 : decode cX5_isValue 4 = .ok (.iload_n 0, 1) := by decide +kernel
theorem dX5_isValue_5 : decode cX5_isValue 5 = .ok (.bipush 99, 2) := by decide +kernel
theorem dX5_isValue_7 : decode cX5_isValue 7 = .ok (.if_icmp .gt 7, 3) := by decide +kernel
theorem dX5_isValue_10 : decode cX5_isValue 10 = .ok (.iconst 1, 1) := by decide +kernel
theorem dX5_isValue_11 : decode cX5_isValue 11 = .ok (.goto 4, 3) := by decide +kernel
theorem dX5_isValue_14 : decode cX5_isValue 14 = .ok (.iconst 0, 1) := by decide +kernel
theorem dX5_isValue_15 : decode cX5_isValue 15 = .ok (.ireturn, 1) := by decide +kernel
end
section
theorem dX6_init_0 : decode cX6_init 0 = .ok (.aload_n 0, 1) := by decide +kernel
theorem dX6_init_1 : decode cX6_init 1 = .ok (.invokespecial 1, 3) := by decide +kernel
theorem dX6_init_4 : decode cX6_init 4 = .ok (.aload_n 0, 1) := by decide +kernel
theorem dX6_init_5 : decode cX6_init 5 = .ok (.sipush 481, 3) := by decide +kernel
theorem dX6_init_8 : decode cX6_init 8 = .ok (.newarray .int, 2) := by decide +kernel
theorem dX6_init_10 : decode cX6_init 10 = .ok (.putfield 7, 3) := by decide +kernel
theorem dX6_init_13 : decode cX6_init 13 = .ok (.aload_n 0, 1) := by decide +kernel
theorem dX6_init_14 : decode cX6_init 14 = .ok (.sipush 481, 3) := by decide +kernel
theorem dX6_init_17 : decode cX6_init 17 = .ok (.newarray .int, 2) := by decide +kernel
theorem dX6_init_19 : decode cX6_init 19 = .ok (.putfield 13, 3) := by decide +kernel
theorem dX6_init_22 : decode cX6_init 22 = .ok (.aload_n 0, 1) := by decide +kernel
theorem dX6_init_23 : decode cX6_init 23 = .ok (.sipush 2405, 3) := by decide +kernel
theorem dX6_init_26 : decode cX6_init 26 = .ok (.newarray .int, 2) := by decide +kernel
theorem dX6_init_28 : decode cX6_init 28 = .ok (.putfield 16, 3) := by decide +kernel
theorem dX6_init_31 : decode cX6_init 31 = .ok (.aload_n 0, 1) := by decide +kernel
theorem dX6_init_32 : decode cX6_init 32 = .ok (.sipush 800, 3) := by decide +kernel
theorem dX6_init_35 : decode cX6_init 35 = .ok (.newarray .int, 2) := by decide +kernel
theorem dX6_init_37 : decode cX6_init 37 = .ok (.putfield 19, 3) := by decide +kernel
theorem dX6_init_40 : decode cX6_init 40 = .ok (.aload_n 0, 1) := by decide +kernel
theorem dX6_init_41 : decode cX6_init 41 = .ok (.sipush 800, 3) := by decide +kernel
theorem dX6_init_44 : decode cX6_init 44 = .ok (.newarray .int, 2) := by decide +kernel
theorem dX6_init_46 : decode cX6_init 46 = .ok (.putfield 22, 3) := by decide +kernel
theorem dX6_init_49 : decode cX6_init 49 = .ok (.aload_n 0, 1) := by decide +kernel
theorem dX6_init_50 : decode cX6_init 50 = .ok (.bipush 100, 2) := by decide +kernel
theorem dX6_init_52 : decode cX6_init 52 = .ok (.newarray .int, 2) := by decide +kernel
theorem dX6_init_54 : decode cX6_init 54 = .ok (.putfield 25, 3) := by decide +kernel
theorem dX6_init_57 : decode cX6_init 57 = .ok (.iconst 0, 1) := by decide +kernel
theorem dX6_init_58 : decode cX6_init 58 = .ok (.istore_n 1, 1) := by decide +kernel
theorem dX6_init_59 : decode cX6_init 59 = .ok (.iload_n 1, 1) := by decide +kernel
theorem dX6_init_60 : decode cX6_init 60 = .ok (.bipush 24, 2) := by decide +kernel
theorem dX6_init_62 : decode cX6_init 62 = .ok (.if_icmp .ge 20, 3) := by decide +kernel
theorem dX6_init_65 : decode cX6_init 65 = .ok (.aload_n 0, 1) := by decide +kernel
theorem dX6_init_66 : decode cX6_init 66 = .ok (.getfield 7, 3) := by decide +kernel
theorem dX6_init_69 : decode cX6_init 69 = .ok (.sipush 457, 3) := by decide +kernel
theorem dX6_init_72 : decode cX6_init 72 = .ok (.iload_n 1, 1) := by decide +kernel
theorem dX6_init_73 : decode cX6_init 73 = .ok (.iadd, 1) := by decide +kernel
theorem dX6_init_74 : decode cX6_init 74 = .ok (.iconst (-1), 1) := by decide +kernel
theorem dX6_init_75 : decode cX6_init 75 = .ok (.iastore, 1) := by decide +kernel
theorem dX6_init_76 : decode cX6_init 76 = .ok (.iinc 1 1, 3) := by decide +kernel
theorem dX6_init_79 : decode cX6_init 79 = .ok (.goto (-20), 3) := by decide +kernel
theorem dX6_init_82 : decode cX6_init 82 = .ok (.return_, 1) := by decide +kernel
theorem dX6_in_0 : decode cX6_in 0 = .ok (.iload_n 0, 1) := by decide +kernel
theorem dX6_in_1 : decode cX6_in 1 = .ok (.iload_n 1, 1) := by decide +kernel
theorem dX6_in_2 : decode cX6_in 2 = .ok (.if_icmp .lt 12, 3) := by decide +kernel
theorem dX6_in_5 : decode cX6_in 5 = .ok (.iload_n 0, 1) := by decide +kernel
theorem dX6_in_6 : decode cX6_in 6 = .ok (.iload_n 2, 1) := by decide +kernel
theorem dX6_in_7 : decode cX6_in 7 = .ok (.if_icmp .gt 7, 3) := by decide +kernel
theorem dX6_in_10 : decode cX6_in 10 = .ok (.iconst 1, 1) := by decide +kernel
theorem dX6_in_11 : decode cX6_in 11 = .ok (.goto 4, 3) := by decide +kernel
theorem dX6_in_14 : decode cX6_in 14 = .ok (.iconst 0, 1) := by decide +kernel
theorem dX6_in_15 : decode cX6_in 15 = .ok (.ireturn, 1) := by decide +kernel
theorem dX6_bits_0 : decode cX6_bits 0 = .ok (.iconst 0, 1) := by decide +kernel
theorem dX6_bits_1 : decode cX6_bits 1 = .ok (.istore_n 1, 1) := by decide +kernel
theorem dX6_bits_2 : decode cX6_bits 2 = .ok (.iload_n 0, 1) := by decide +kernel
theorem dX6_bits_3 : decode cX6_bits 3 = .ok (.istore_n 2, 1) := by decide +kernel
theorem dX6_bits_4 : decode cX6_bits 4 = .ok (.iload_n 2, 1) := by decide +kernel
theorem dX6_bits_5 : decode cX6_bits 5 = .ok (.ifCond .eq 15, 3) := by decide +kernel
theorem dX6_bits_8 : decode cX6_bits 8 = .ok (.iinc 1 1, 3) := by decide +kernel
theorem dX6_bits_11 : decode cX6_bits 11 = .ok (.iload_n 2, 1) := by decide +kernel
theorem dX6_bits_12 : decode cX6_bits 12 = .ok (.iload_n 2, 1) := by decide +kernel
theorem dX6_bits_13 : decode cX6_bits 13 = .ok (.iconst 1, 1) := by decide +kernel
theorem dX6_bits_14 : decode cX6_bits 14 = .ok (.isub, 1) := by decide +kernel
theorem dX6_bits_15 : decode cX6_bits 15 = .ok (.iand, 1) := by decide +kernel
theorem dX6_bits_16 : decode cX6_bits 16 = .ok (.istore_n 2, 1) := by decide +kernel
theorem dX6_bits_17 : decode cX6_bits 17 = .ok (.goto (-13), 3) := by decide +kernel
theorem dX6_bits_20 : decode cX6_bits 20 = .ok (.iload_n 1, 1) := by decide +kernel
theorem dX6_bits_21 : decode cX6_bits 21 = .ok (.ireturn, 1) := by decide +kernel
theorem dX6_has_0 : decode cX6_has 0 = .ok (.iload_n 0, 1) := by decide +kernel
theorem dX6_has_1 : decode cX6_has 1 = .ok (.iload_n 1, 1) := by decide +kernel
theorem dX6_has_2 : decode cX6_has 2 = .ok (.ishr, 1) := by decide +kernel
theorem dX6_has_3 : decode cX6_has 3 = .ok (.iconst 1, 1) := by decide +kernel
theorem dX6_has_4 : decode cX6_has 4 = .ok (.iand, 1) := by decide +kernel
theorem dX6_has_5 : decode cX6_has 5 = .ok (.iconst 1, 1) := by decide +kernel
theorem dX6_has_6 : decode cX6_has 6 = .ok (.if_icmp .ne 7, 3) := by decide +kernel
theorem dX6_has_9 : decode cX6_has 9 = .ok (.iconst 1, 1) := by decide +kernel
theorem dX6_has_10 : decode cX6_has 10 = .ok (.goto 4, 3) := by decide +kernel
theorem dX6_has_13 : decode cX6_has 13 = .ok (.iconst 0, 1) := by decide +kernel
theorem dX6_has_14 : decode cX6_has 14 = .ok (.ireturn, 1) := by decide +kernel
set_option maxRecDepth 20000 in
theorem ggX6_isRow_X6_in : GoodIn wsX6_isRow wsX6_in := goodIn_r _ [5] (by decide +kernel) (by decide +kernel)
set_option maxRecDepth 20000 in
theorem gX6_isRow_X6_in : GoodIn wsX6_isRow (va_wsS RX6 28 yX6_in wsX6_in) := goodIn_app (goodIn_of _ (by decide +kernel)) ggX6_isRow_X6_in
theorem dX6_isRow_0 : decode cX6_isRow 0 = .ok (.iload_n 1, 1) := by decide +kernel
theorem dX6_isRow_1 : decode cX6_isRow 1 = .ok (.iconst 0, 1) := by decide +kernel
theorem dX6_isRow_2 : decode cX6_isRow 2 = .ok (.aload_n 0, 1) := by decide +kernel
theorem dX6_isRow_3 : decode cX6_isRow 3 = .ok (.getfield 7, 3) := by decide +kernel
theorem dX6_isRow_6 : decode cX6_isRow 6 = .ok (.iconst 0, 1) := by decide +kernel
theorem dX6_isRow_7 : decode cX6_isRow 7 = .ok (.iaload, 1) := by decide +kernel
theorem dX6_isRow_8 : decode cX6_isRow 8 = .ok (.iconst 1, 1) := by decide +kernel
theorem dX6_isRow_9 : decode cX6_isRow 9 = .ok (.isub, 1) := by decide +kernel
theorem dX6_isRow_10 : decode cX6_isRow 10 = .ok (.invokestatic 28, 3) := by decide +kernel
theorem dX6_isRow_13 : decode cX6_isRow 13 = .ok (.ireturn, 1) := by decide +kernel
theorem dX6_copy_0 : decode cX6_copy 0 = .ok (.iconst 0, 1) := by decide +kernel
theorem dX6_copy_1 : decode cX6_copy 1 = .ok (.istore_n 1, 1) := by decide +kernel
theorem dX6_copy_2 : decode cX6_copy 2 = .ok (.iload_n 1, 1) := by decide +kernel
theorem dX6_copy_3 : decode cX6_copy 3 = .ok (.sipush 481, 3) := by decide +kernel
theorem dX6_copy_6 : decode cX6_copy 6 = .ok (.if_icmp .ge 21, 3) := by decide +kernel
theorem dX6_copy_9 : decode cX6_copy 9 = .ok (.aload_n 0, 1) := by decide +kernel
theorem dX6_copy_10 : decode cX6_copy 10 = .ok (.getfield 13, 3) := by decide +kernel
theorem dX6_copy_13 : decode cX6_copy 13 = .ok (.iload_n 1, 1) := by decide +kernel
theorem dX6_copy_14 : decode cX6_copy 14 = .ok (.aload_n 0, 1) := by decide +kernel
theorem dX6_copy_15 : decode cX6_copy 15 = .ok (.getfield 7, 3) := by decide +kernel
theorem dX6_copy_18 : decode cX6_copy 18 = .ok (.iload_n 1, 1) := by decide +kernel
theorem dX6_copy_19 : decode cX6_copy 19 = .ok (.iaload, 1) := by decide +kernel
theorem dX6_copy_20 : decode cX6_copy 20 = .ok (.iastore, 1) := by decide +kernel
theorem dX6_copy_21 : decode cX6_copy 21 = .ok (.iinc 1 1, 3) := by decide +kernel
theorem dX6_copy_24 : decode cX6_copy 24 = .ok (.goto (-22), 3) := by decide +kernel
theorem dX6_copy_27 : decode cX6_copy 27 = .ok (.return_, 1) := by decide +kernel
theorem dX6_back_0 : decode cX6_back 0 = .ok (.iconst 0, 1) := by decide +kernel
theorem dX6_back_1 : decode cX6_back 1 = .ok (.istore_n 1, 1) := by decide +kernel
theorem dX6_back_2 : decode cX6_back 2 = .ok (.iload_n 1, 1) := by decide +kernel
theorem dX6_back_3 : decode cX6_back 3 = .ok (.sipush 481, 3) := by decide +kernel
theorem dX6_back_6 : decode cX6_back 6 = .ok (.if_icmp .ge 21, 3) := by decide +kernel
theorem dX6_back_9 : decode cX6_back 9 = .ok (.aload_n 0, 1) := by decide +kernel
theorem dX6_back_10 : decode cX6_back 10 = .ok (.getfield 7, 3) := by decide +kernel
theorem dX6_back_13 : decode cX6_back 13 = .ok (.iload_n 1, 1) := by decide +kernel
theorem dX6_back_14 : decode cX6_back 14 = .ok (.aload_n 0, 1) := by decide +kernel
theorem dX6_back_15 : decode cX6_back 15 = .ok (.getfield 13, 3) := by decide +kernel
theorem dX6_back_18 : decode cX6_back 18 = .ok (.iload_n 1, 1) := by decide +kernel
theorem dX6_back_19 : decode cX6_back 19 = .ok (.iaload, 1) := by decide +kernel
theorem dX6_back_20 : decode cX6_back 20 = .ok (.iastore, 1) := by decide +kernel
theorem dX6_back_21 : decode cX6_back 21 = .ok (.iinc 1 1, 3) := by decide +kernel
theorem dX6_back_24 : decode cX6_back 24 = .ok (.goto (-22), 3) := by decide +kernel
theorem dX6_back_27 : decode cX6_back 27 = .ok (.return_, 1) := by decide +kernel
theorem dX6_record_0 : decode cX6_record 0 = .ok (.iconst 0, 1) := by decide +kernel
theorem dX6_record_1 : decode cX6_record 1 = .ok (.istore_n 1, 1) := by decide +kernel
theorem dX6_record_2 : decode cX6_record 2 = .ok (.iload_n 1, 1) := by decide +kernel
theorem dX6_record_3 : decode cX6_record 3 = .ok (.sipush 481, 3) := by decide +kernel
theorem dX6_record_6 : decode cX6_record 6 = .ok (.if_icmp .ge 30, 3) := by decide +kernel
theorem dX6_record_9 : decode cX6_record 9 = .ok (.aload_n 0, 1) := by decide +kernel
theorem dX6_record_10 : decode cX6_record 10 = .ok (.getfield 16, 3) := by decide +kernel
theorem dX6_record_13 : decode cX6_record 13 = .ok (.sipush 481, 3) := by decide +kernel
theorem dX6_record_16 : decode cX6_record 16 = .ok (.aload_n 0, 1) := by decide +kernel
theorem dX6_record_17 : decode cX6_record 17 = .ok (.getfield 32, 3) := by decide +kernel
theorem dX6_record_20 : decode cX6_record 20 = .ok (.imul, 1) := by decide +kernel
theorem dX6_record_21 : decode cX6_record 21 = .ok (.iload_n 1, 1) := by decide +kernel
theorem dX6_record_22 : decode cX6_record 22 = .ok (.iadd, 1) := by decide +kernel
theorem dX6_record_23 : decode cX6_record 23 = .ok (.aload_n 0, 1) := by decide +kernel
theorem dX6_record_24 : decode cX6_record 24 = .ok (.getfield 13, 3) := by decide +kernel
theorem dX6_record_27 : decode cX6_record 27 = .ok (.iload_n 1, 1) := by decide +kernel
theorem dX6_record_28 : decode cX6_record 28 = .ok (.iaload, 1) := by decide +kernel
theorem dX6_record_29 : decode cX6_record 29 = .ok (.iastore, 1) := by decide +kernel
theorem dX6_record_30 : decode cX6_record 30 = .ok (.iinc 1 1, 3) := by decide +kernel
theorem dX6_record_33 : decode cX6_record 33 = .ok (.goto (-31), 3) := by decide +kernel
theorem dX6_record_36 : decode cX6_record 36 = .ok (.aload_n 0, 1) := by decide +kernel
theorem dX6_record_37 : decode cX6_record 37 = .ok (.aload_n 0, 1) := by decide +kernel
theorem dX6_record_38 : decode cX6_record 38 = .ok (.getfield 32, 3) := by decide +kernel
theorem dX6_record_41 : decode cX6_record 41 = .ok (.iconst 1, 1) := by decide +kernel
theorem dX6_record_42 : decode cX6_record 42 = .ok (.iadd, 1) := by decide +kernel
theorem dX6_record_43 : decode cX6_record 43 = .ok (.iconst 5, 1) := by decide +kernel
theorem dX6_record_44 : decode cX6_record 44 = .ok (.irem, 1) := by decide +kernel
theorem dX6_record_45 : decode cX6_record 45 = .ok (.putfield 32, 3) := by decide +kernel
theorem dX6_record_48 : decode cX6_record 48 = .ok (.aload_n 0, 1) := by decide +kernel
theorem dX6_record_49 : decode cX6_record 49 = .ok (.aload_n 0, 1) := by decide +kernel
theorem dX6_record_50 : decode cX6_record 50 = .ok (.getfield 36, 3) := by decide +kernel
theorem dX6_record_53 : decode cX6_record 53 = .ok (.iconst 5, 1) := by decide +kernel
theorem dX6_record_54 : decode cX6_record 54 = .ok (.if_icmp .ge 12, 3) := by decide +kernel
theorem dX6_record_57 : decode cX6_record 57 = .ok (.aload_n 0, 1) := by decide +kernel
theorem dX6_record_58 : decode cX6_record 58 = .ok (.getfield 36, 3) := by decide +kernel
theorem dX6_record_61 : decode cX6_record 61 = .ok (.iconst 1, 1) := by decide +kernel
theorem dX6_record_62 : decode cX6_record 62 = .ok (.iadd, 1) := by decide +kernel
theorem dX6_record_63 : decode cX6_record 63 = .ok (.goto 4, 3) := by decide +kernel
theorem dX6_record_66 : decode cX6_record 66 = .ok (.iconst 5, 1) := by decide +kernel
theorem dX6_record_67 : decode cX6_record 67 = .ok (.putfield 36, 3) := by decide +kernel
theorem dX6_record_70 : decode cX6_record 70 = .ok (.return_, 1) := by decide +kernel
set_option maxRecDepth 20000 in
theorem ggX6_remember_X6_copy : GoodIn wsX6_remember wsX6_copy := goodIn_r _ [5, 6, 7, 15, 16, 17, 18, 19, 20, 21, 22, 23, 24, 25] (by decide +kernel) (by decide +kernel)
set_option maxRecDepth 20000 in
theorem gX6_remember_X6_copy : GoodIn wsX6_remember (wsV RX6 39 RX6 yX6_copy wsX6_copy) := goodIn_app (goodIn_of _ (by decide +kernel)) ggX6_remember_X6_copy
set_option maxRecDepth 20000 in
theorem ggX6_remember_X6_record : GoodIn wsX6_remember wsX6_record := goodIn_r _ [11, 12, 13, 6, 14, 15, 16, 17, 18, 19, 20, 21, 22, 23, 24, 25] (by decide +kernel) (by decide +kernel)
set_option maxRecDepth 20000 in
theorem gX6_remember_X6_record : GoodIn wsX6_remember (wsV RX6 42 RX6 yX6_record wsX6_record) := goodIn_app (goodIn_of _ (by decide +kernel)) ggX6_remember_X6_record
theorem dX6_remember_0 : decode cX6_remember 0 = .ok (.aload_n 0, 1) := by decide +kernel
theorem dX6_remember_1 : decode cX6_remember 1 = .ok (.invokevirtual 39, 3) := by decide +kernel
theorem dX6_remember_4 : decode cX6_remember 4 = .ok (.aload_n 0, 1) := by decide +kernel
theorem dX6_remember_5 : decode cX6_remember 5 = .ok (.invokevirtual 42, 3) := by decide +kernel
theorem dX6_remember_8 : decode cX6_remember 8 = .ok (.return_, 1) := by decide +kernel
theorem dX6_undo_0 : decode cX6_undo 0 = .ok (.aload_n 0, 1) := by decide +kernel
theorem dX6_undo_1 : decode cX6_undo 1 = .ok (.getfield 36, 3) := by decide +kernel
theorem dX6_undo_4 : decode cX6_undo 4 = .ok (.ifCond .ne 6, 3) := by decide +kernel
theorem dX6_undo_7 : decode cX6_undo 7 = .ok (.bipush (-2), 2) := by decide +kernel
theorem dX6_undo_9 : decode cX6_undo 9 = .ok (.ireturn, 1) := by decide +kernel
theorem dX6_undo_10 : decode cX6_undo 10 = .ok (.aload_n 0, 1) := by decide +kernel
theorem dX6_undo_11 : decode cX6_undo 11 = .ok (.aload_n 0, 1) := by decide +kernel
theorem dX6_undo_12 : decode cX6_undo 12 = .ok (.getfield 32, 3) := by decide +kernel
theorem dX6_undo_15 : decode cX6_undo 15 = .ok (.iconst 5, 1) := by decide +kernel
theorem dX6_undo_16 : decode cX6_undo 16 = .ok (.iadd, 1) := by decide +kernel
theorem dX6_undo_17 : decode cX6_undo 17 = .ok (.iconst 1, 1) := by decide +kernel
theorem dX6_undo_18 : decode cX6_undo 18 = .ok (.isub, 1) := by decide +kernel
theorem dX6_undo_19 : decode cX6_undo 19 = .ok (.iconst 5, 1) := by decide +kernel
theorem dX6_undo_20 : decode cX6_undo 20 = .ok (.irem, 1) := by decide +kernel
theorem dX6_undo_21 : decode cX6_undo 21 = .ok (.putfield 32, 3) := by decide +kernel
theorem dX6_undo_24 : decode cX6_undo 24 = .ok (.aload_n 0, 1) := by decide +kernel
theorem dX6_undo_25 : decode cX6_undo 25 = .ok (.dup, 1) := by decide +kernel
theorem dX6_undo_26 : decode cX6_undo 26 = .ok (.getfield 36, 3) := by decide +kernel
theorem dX6_undo_29 : decode cX6_undo 29 = .ok (.iconst 1, 1) := by decide +kernel
theorem dX6_undo_30 : decode cX6_undo 30 = .ok (.isub, 1) := by decide +kernel
theorem dX6_undo_31 : decode cX6_undo 31 = .ok (.putfield 36, 3) := by decide +kernel
theorem dX6_undo_34 : decode cX6_undo 34 = .ok (.iconst 0, 1) := by decide +kernel
theorem dX6_undo_35 : decode cX6_undo 35 = .ok (.istore_n 1, 1) := by decide +kernel
theorem dX6_undo_36 : decode cX6_undo 36 = .ok (.iload_n 1, 1) := by decide +kernel
theorem dX6_undo_37 : decode cX6_undo 37 = .ok (.sipush 481, 3) := by decide +kernel
theorem dX6_undo_40 : decode cX6_undo 40 = .ok (.if_icmp .ge 30, 3) := by decide +kernel
theorem dX6_undo_43 : decode cX6_undo 43 = .ok (.aload_n 0, 1) := by decide +kernel
theorem dX6_undo_44 : decode cX6_undo 44 = .ok (.getfield 7, 3) := by decide +kernel
theorem dX6_undo_47 : decode cX6_undo 47 = .ok (.iload_n 1, 1) := by decide +kernel
theorem dX6_undo_48 : decode cX6_undo 48 = .ok (.aload_n 0, 1) := by decide +kernel
theorem dX6_undo_49 : decode cX6_undo 49 = .ok (.getfield 16, 3) := by decide +kernel
theorem dX6_undo_52 : decode cX6_undo 52 = .ok (.sipush 481, 3) := by decide +kernel
theorem dX6_undo_55 : decode cX6_undo 55 = .ok (.aload_n 0, 1) := by decide +kernel
theorem dX6_undo_56 : decode cX6_undo 56 = .ok (.getfield 32, 3) := by decide +kernel
theorem dX6_undo_59 : decode cX6_undo 59 = .ok (.imul, 1) := by decide +kernel
theorem dX6_undo_60 : decode cX6_undo 60 = .ok (.iload_n 1, 1) := by decide +kernel
theorem dX6_undo_61 : decode cX6_undo 61 = .ok (.iadd, 1) := by decide +kernel
theorem dX6_undo_62 : decode cX6_undo 62 = .ok (.iaload, 1) := by decide +kernel
theorem dX6_undo_63 : decode cX6_undo 63 = .ok (.iastore, 1) := by decide +kernel
theorem dX6_undo_64 : decode cX6_undo 64 = .ok (.iinc 1 1, 3) := by decide +kernel
theorem dX6_undo_67 : decode cX6_undo 67 = .ok (.goto (-31), 3) := by decide +kernel
theorem dX6_undo_70 : decode cX6_undo 70 = .ok (.aload_n 0, 1) := by decide +kernel
theorem dX6_undo_71 : decode cX6_undo 71 = .ok (.getfield 36, 3) := by decide +kernel
theorem dX6_undo_74 : decode cX6_undo 74 = .ok (.ireturn, 1) := by decide +kernel
theorem dX6_entries_0 : decode cX6_entries 0 = .ok (.aload_n 0, 1) := by decide +kernel
theorem dX6_entries_1 : decode cX6_entries 1 = .ok (.getfield 7, 3) := by decide +kernel
theorem dX6_entries_4 : decode cX6_entries 4 = .ok (.bipush 25, 2) := by decide +kernel
theorem dX6_entries_6 : decode cX6_entries 6 = .ok (.iload_n 1, 1) := by decide +kernel
theorem dX6_entries_7 : decode cX6_entries 7 = .ok (.iadd, 1) := by decide +kernel
theorem dX6_entries_8 : decode cX6_entries 8 = .ok (.iaload, 1) := by decide +kernel
theorem dX6_entries_9 : decode cX6_entries 9 = .ok (.ireturn, 1) := by decide +kernel
set_option maxRecDepth 20000 in
theorem ggX6_valueOf_X6_entries : GoodIn wsX6_valueOf wsX6_entries := goodIn_r _ [6, 1, 10, 11, 12, 13, 14, 15, 16, 17, 18, 19, 20] (by decide +kernel) (by decide +kernel)
set_option maxRecDepth 20000 in
theorem gX6_valueOf_X6_entries : GoodIn wsX6_valueOf (wsV RX6 45 RX6 yX6_entries wsX6_entries) := goodIn_app (goodIn_of _ (by decide +kernel)) ggX6_valueOf_X6_entries
set_option maxRecDepth 20000 in
theorem ggX6_valueOf_X6_has : GoodIn wsX6_valueOf wsX6_has := goodIn_r _ [9] (by decide +kernel) (by decide +kernel)
set_option maxRecDepth 20000 in
theorem gX6_valueOf_X6_has : GoodIn wsX6_valueOf (va_wsS RX6 49 yX6_has wsX6_has) := goodIn_app (goodIn_of _ (by decide +kernel)) ggX6_valueOf_X6_has
theorem dX6_valueOf_0 : decode cX6_valueOf 0 = .ok (.aload_n 0, 1) := by decide +kernel
theorem dX6_valueOf_1 : decode cX6_valueOf 1 = .ok (.iload_n 1, 1) := by decide +kernel
theorem dX6_valueOf_2 : decode cX6_valueOf 2 = .ok (.invokevirtual 45, 3) := by decide +kernel
theorem dX6_valueOf_5 : decode cX6_valueOf 5 = .ok (.iload_n 2, 1) := by decide +kernel
theorem dX6_valueOf_6 : decode cX6_valueOf 6 = .ok (.invokestatic 49, 3) := by decide +kernel
theorem dX6_valueOf_9 : decode cX6_valueOf 9 = .ok (.ifCond .eq 20, 3) := by decide +kernel
theorem dX6_valueOf_12 : decode cX6_valueOf 12 = .ok (.aload_n 0, 1) := by decide +kernel
theorem dX6_valueOf_13 : decode cX6_valueOf 13 = .ok (.getfield 7, 3) := by decide +kernel
theorem dX6_valueOf_16 : decode cX6_valueOf 16 = .ok (.bipush 73, 2) := by decide +kernel
theorem dX6_valueOf_18 : decode cX6_valueOf 18 = .ok (.bipush 16, 2) := by decide +kernel
theorem dX6_valueOf_20 : decode cX6_valueOf 20 = .ok (.iload_n 1, 1) := by decide +kernel
theorem dX6_valueOf_21 : decode cX6_valueOf 21 = .ok (.imul, 1) := by decide +kernel
theorem dX6_valueOf_22 : decode cX6_valueOf 22 = .ok (.iadd, 1) := by decide +kernel
theorem dX6_valueOf_23 : decode cX6_valueOf 23 = .ok (.iload_n 2, 1) := by decide +kernel
theorem dX6_valueOf_24 : decode cX6_valueOf 24 = .ok (.iadd, 1) := by decide +kernel
theorem dX6_valueOf_25 : decode cX6_valueOf 25 = .ok (.iaload, 1) := by decide +kernel
theorem dX6_valueOf_26 : decode cX6_valueOf 26 = .ok (.goto 11, 3) := by decide +kernel
theorem dX6_valueOf_29 : decode cX6_valueOf 29 = .ok (.aload_n 0, 1) := by decide +kernel
theorem dX6_valueOf_30 : decode cX6_valueOf 30 = .ok (.getfield 7, 3) := by decide +kernel
theorem dX6_valueOf_33 : decode cX6_valueOf 33 = .ok (.iconst 1, 1) := by decide +kernel
theorem dX6_valueOf_34 : decode cX6_valueOf 34 = .ok (.iload_n 1, 1) := by decide +kernel
theorem dX6_valueOf_35 : decode cX6_valueOf 35 = .ok (.iadd, 1) := by decide +kernel
theorem dX6_valueOf_36 : decode cX6_valueOf 36 = .ok (.iaload, 1) := by decide +kernel
theorem dX6_valueOf_37 : decode cX6_valueOf 37 = .ok (.ireturn, 1) := by decide +kernel
set_option maxRecDepth 20000 in
theorem ggX6_areAlike_X6_entries : GoodIn wsX6_areAlike wsX6_entries := goodIn_r _ [6, 1, 10, 11, 12, 13, 14, 15, 16, 17, 18, 19, 20] (by decide +kernel) (by decide +kernel)
set_option maxRecDepth 20000 in
theorem gX6_areAlike_X6_entries : GoodIn wsX6_areAlike (wsV RX6 45 RX6 yX6_entries wsX6_entries) := goodIn_app (goodIn_of _ (by decide +kernel)) ggX6_areAlike_X6_entries
set_option maxRecDepth 20000 in
theorem ggX6_areAlike_X6_has : GoodIn wsX6_areAlike wsX6_has := goodIn_r _ [9] (by decide +kernel) (by decide +kernel)
set_option maxRecDepth 20000 in
theorem gX6_areAlike_X6_has : GoodIn wsX6_areAlike (va_wsS RX6 49 yX6_has wsX6_has) := goodIn_app (goodIn_of _ (by decide +kernel)) ggX6_areAlike_X6_has
theorem dX6_areAlike_0 : decode cX6_areAlike 0 = .ok (.aload_n 0, 1) := by decide +kernel
theorem dX6_areAlike_1 : decode cX6_areAlike 1 = .ok (.iload_n 1, 1) := by decide +kernel
theorem dX6_areAlike_2 : decode cX6_areAlike 2 = .ok (.invokevirtual 45, 3) := by decide +kernel
theorem dX6_areAlike_5 : decode cX6_areAlike 5 = .ok (.aload_n 0, 1) := by decide +kernel
theorem dX6_areAlike_6 : decode cX6_areAlike 6 = .ok (.iload_n 2, 1) := by decide +kernel
theorem dX6_areAlike_7 : decode cX6_areAlike 7 = .ok (.invokevirtual 45, 3) := by decide +kernel
theorem dX6_areAlike_10 : decode cX6_areAlike 10 = .ok (.if_icmp .ne 7, 3) := by decide +kernel
theorem dX6_areAlike_13 : decode cX6_areAlike 13 = .ok (.iconst 1, 1) := by decide +kernel
theorem dX6_areAlike_14 : decode cX6_areAlike 14 = .ok (.goto 4, 3) := by decide +kernel
theorem dX6_areAlike_17 : decode cX6_areAlike 17 = .ok (.iconst 0, 1) := by decide +kernel
theorem dX6_areAlike_18 : decode cX6_areAlike 18 = .ok (.istore_n 3, 1) := by decide +kernel
theorem dX6_areAlike_19 : decode cX6_areAlike 19 = .ok (.iconst 0, 1) := by decide +kernel
theorem dX6_areAlike_20 : decode cX6_areAlike 20 = .ok (.istore 4, 2) := by decide +kernel
theorem dX6_areAlike_22 : decode cX6_areAlike 22 = .ok (.iload 4, 2) := by decide +kernel
theorem dX6_areAlike_24 : decode cX6_areAlike 24 = .ok (.bipush 16, 2) := by decide +kernel
theorem dX6_areAlike_26 : decode cX6_areAlike 26 = .ok (.if_icmp .ge 65, 3) := by decide +kernel
theorem dX6_areAlike_29 : decode cX6_areAlike 29 = .ok (.iload_n 3, 1) := by decide +kernel
theorem dX6_areAlike_30 : decode cX6_areAlike 30 = .ok (.ifCond .eq 61, 3) := by decide +kernel
theorem dX6_areAlike_33 : decode cX6_areAlike 33 = .ok (.aload_n 0, 1) := by decide +kernel
theorem dX6_areAlike_34 : decode cX6_areAlike 34 = .ok (.iload_n 1, 1) := by decide +kernel
theorem dX6_areAlike_35 : decode cX6_areAlike 35 = .ok (.invokevirtual 45, 3) := by decide +kernel
theorem dX6_areAlike_38 : decode cX6_areAlike 38 = .ok (.iload 4, 2) := by decide +kernel
theorem dX6_areAlike_40 : decode cX6_areAlike 40 = .ok (.invokestatic 49, 3) := by decide +kernel
theorem dX6_areAlike_43 : decode cX6_areAlike 43 = .ok (.ifCond .eq 36, 3) := by decide +kernel
theorem dX6_areAlike_46 : decode cX6_areAlike 46 = .ok (.aload_n 0, 1) := by decide +kernel
theorem dX6_areAlike_47 : decode cX6_areAlike 47 = .ok (.getfield 7, 3) := by decide +kernel
theorem dX6_areAlike_50 : decode cX6_areAlike 50 = .ok (.bipush 73, 2) := by decide +kernel
theorem dX6_areAlike_52 : decode cX6_areAlike 52 = .ok (.bipush 16, 2) := by decide +kernel
theorem dX6_areAlike_54 : decode cX6_areAlike 54 = .ok (.iload_n 1, 1) := by decide +kernel
theorem dX6_areAlike_55 : decode cX6_areAlike 55 = .ok (.imul, 1) := by decide +kernel
theorem dX6_areAlike_56 : decode cX6_areAlike 56 = .ok (.iadd, 1) := by decide +kernel
theorem dX6_areAlike_57 : decode cX6_areAlike 57 = .ok (.iload 4, 2) := by decide +kernel
theorem dX6_areAlike_59 : decode cX6_areAlike 59 = .ok (.iadd, 1) := by decide +kernel
theorem dX6_areAlike_60 : decode cX6_areAlike 60 = .ok (.iaload, 1) := by decide +kernel
theorem dX6_areAlike_61 : decode cX6_areAlike 61 = .ok (.aload_n 0, 1) := by decide +kernel
theorem dX6_areAlike_62 : decode cX6_areAlike 62 = .ok (.getfield 7, 3) := by decide +kernel
theorem dX6_areAlike_65 : decode cX6_areAlike 65 = .ok (.bipush 73, 2) := by decide +kernel
theorem dX6_areAlike_67 : decode cX6_areAlike 67 = .ok (.bipush 16, 2) := by decide +kernel
theorem dX6_areAlike_69 : decode cX6_areAlike 69 = .ok (.iload_n 2, 1) := by decide +kernel
theorem dX6_areAlike_70 : decode cX6_areAlike 70 = .ok (.imul, 1) := by decide +kernel
theorem dX6_areAlike_71 : decode cX6_areAlike 71 = .ok (.iadd, 1) := by decide +kernel
theorem dX6_areAlike_72 : decode cX6_areAlike 72 = .ok (.iload 4, 2) := by decide +kernel
theorem dX6_areAlike_74 : decode cX6_areAlike 74 = .ok (.iadd, 1) := by decide +kernel
theorem dX6_areAlike_75 : decode cX6_areAlike 75 = .ok (.iaload, 1) := by decide +kernel
theorem dX6_areAlike_76 : decode cX6_areAlike 76 = .ok (.if_icmp .ne 7, 3) := by decide +kernel
theorem dX6_areAlike_79 : decode cX6_areAlike 79 = .ok (.iconst 1, 1) := by decide +kernel
theorem dX6_areAlike_80 : decode cX6_areAlike 80 = .ok (.goto 4, 3) := by decide +kernel
theorem dX6_areAlike_83 : decode cX6_areAlike 83 = .ok (.iconst 0, 1) := by decide +kernel
theorem dX6_areAlike_84 : decode cX6_areAlike 84 = .ok (.istore_n 3, 1) := by decide +kernel
theorem dX6_areAlike_85 : decode cX6_areAlike 85 = .ok (.iinc 4 1, 3) := by decide +kernel
theorem dX6_areAlike_88 : decode cX6_areAlike 88 = .ok (.goto (-66), 3) := by decide +kernel
theorem dX6_areAlike_91 : decode cX6_areAlike 91 = .ok (.iload_n 3, 1) := by decide +kernel
theorem dX6_areAlike_92 : decode cX6_areAlike 92 = .ok (.ireturn, 1) := by decide +kernel
theorem dX6_sharers_0 : decode cX6_sharers 0 = .ok (.iconst 0, 1) := by decide +kernel
theorem dX6_sharers_1 : decode cX6_sharers 1 = .ok (.istore_n 2, 1) := by decide +kernel
theorem dX6_sharers_2 : decode cX6_sharers 2 = .ok (.iconst 0, 1) := by decide +kernel
theorem dX6_sharers_3 : decode cX6_sharers 3 = .ok (.istore_n 3, 1) := by decide +kernel
theorem dX6_sharers_4 : decode cX6_sharers 4 = .ok (.iload_n 3, 1) := by decide +kernel
theorem dX6_sharers_5 : decode cX6_sharers 5 = .ok (.aload_n 0, 1) := by decide +kernel
theorem dX6_sharers_6 : decode cX6_sharers 6 = .ok (.getfield 7, 3) := by decide +kernel
theorem dX6_sharers_9 : decode cX6_sharers 9 = .ok (.iconst 0, 1) := by decide +kernel
theorem dX6_sharers_10 : decode cX6_sharers 10 = .ok (.iaload, 1) := by decide +kernel
theorem dX6_sharers_11 : decode cX6_sharers 11 = .ok (.if_icmp .ge 30, 3) := by decide +kernel
theorem dX6_sharers_14 : decode cX6_sharers 14 = .ok (.iload_n 2, 1) := by decide +kernel
theorem dX6_sharers_15 : decode cX6_sharers 15 = .ok (.aload_n 0, 1) := by decide +kernel
theorem dX6_sharers_16 : decode cX6_sharers 16 = .ok (.getfield 7, 3) := by decide +kernel
theorem dX6_sharers_19 : decode cX6_sharers 19 = .ok (.bipush 49, 2) := by decide +kernel
theorem dX6_sharers_21 : decode cX6_sharers 21 = .ok (.iload_n 3, 1) := by decide +kernel
theorem dX6_sharers_22 : decode cX6_sharers 22 = .ok (.iadd, 1) := by decide +kernel
theorem dX6_sharers_23 : decode cX6_sharers 23 = .ok (.iaload, 1) := by decide +kernel
theorem dX6_sharers_24 : decode cX6_sharers 24 = .ok (.iload_n 1, 1) := by decide +kernel
theorem dX6_sharers_25 : decode cX6_sharers 25 = .ok (.if_icmp .ne 7, 3) := by decide +kernel
theorem dX6_sharers_28 : decode cX6_sharers 28 = .ok (.iconst 1, 1) := by decide +kernel
theorem dX6_sharers_29 : decode cX6_sharers 29 = .ok (.goto 4, 3) := by decide +kernel
theorem dX6_sharers_32 : decode cX6_sharers 32 = .ok (.iconst 0, 1) := by decide +kernel
theorem dX6_sharers_33 : decode cX6_sharers 33 = .ok (.iadd, 1) := by decide +kernel
theorem dX6_sharers_34 : decode cX6_sharers 34 = .ok (.istore_n 2, 1) := by decide +kernel
theorem dX6_sharers_35 : decode cX6_sharers 35 = .ok (.iinc 3 1, 3) := by decide +kernel
theorem dX6_sharers_38 : decode cX6_sharers 38 = .ok (.goto (-34), 3) := by decide +kernel
theorem dX6_sharers_41 : decode cX6_sharers 41 = .ok (.iload_n 2, 1) := by decide +kernel
theorem dX6_sharers_42 : decode cX6_sharers 42 = .ok (.ireturn, 1) := by decide +kernel
set_option maxRecDepth 20000 in
theorem ggX6_layStore_X6_entries : GoodIn wsX6_layStore wsX6_entries := goodIn_r _ [8, 2, 12, 13, 14, 15, 16, 17, 18, 19, 20, 21, 22] (by decide +kernel) (by decide +kernel)
set_option maxRecDepth 20000 in
theorem gX6_layStore_X6_entries : GoodIn wsX6_layStore (wsV RX6 45 RX6 yX6_entries wsX6_entries) := goodIn_app (goodIn_of _ (by decide +kernel)) ggX6_layStore_X6_entries
set_option maxRecDepth 20000 in
theorem ggX6_layStore_X6_has : GoodIn wsX6_layStore wsX6_has := goodIn_r _ [11] (by decide +kernel) (by decide +kernel)
set_option maxRecDepth 20000 in
theorem gX6_layStore_X6_has : GoodIn wsX6_layStore (va_wsS RX6 49 yX6_has wsX6_has) := goodIn_app (goodIn_of _ (by decide +kernel)) ggX6_layStore_X6_has
theorem dX6_layStore_0 : decode cX6_layStore 0 = .ok (.iconst 0, 1) := by decide +kernel
theorem dX6_layStore_1 : decode cX6_layStore 1 = .ok (.istore_n 1, 1) := by decide +kernel
theorem dX6_layStore_2 : decode cX6_layStore 2 = .ok (.iload_n 1, 1) := by decide +kernel
theorem dX6_layStore_3 : decode cX6_layStore 3 = .ok (.sipush 800, 3) := by decide +kernel
theorem dX6_layStore_6 : decode cX6_layStore 6 = .ok (.if_icmp .ge 16, 3) := by decide +kernel
theorem dX6_layStore_9 : decode cX6_layStore 9 = .ok (.aload_n 0, 1) := by decide +kernel
theorem dX6_layStore_10 : decode cX6_layStore 10 = .ok (.getfield 19, 3) := by decide +kernel
theorem dX6_layStore_13 : decode cX6_layStore 13 = .ok (.iload_n 1, 1) := by decide +kernel
theorem dX6_layStore_14 : decode cX6_layStore 14 = .ok (.iconst (-1), 1) := by decide +kernel
theorem dX6_layStore_15 : decode cX6_layStore 15 = .ok (.iastore, 1) := by decide +kernel
theorem dX6_layStore_16 : decode cX6_layStore 16 = .ok (.iinc 1 1, 3) := by decide +kernel
theorem dX6_layStore_19 : decode cX6_layStore 19 = .ok (.goto (-17), 3) := by decide +kernel
theorem dX6_layStore_22 : decode cX6_layStore 22 = .ok (.iconst 0, 1) := by decide +kernel
theorem dX6_layStore_23 : decode cX6_layStore 23 = .ok (.istore_n 1, 1) := by decide +kernel
theorem dX6_layStore_24 : decode cX6_layStore 24 = .ok (.iload_n 1, 1) := by decide +kernel
theorem dX6_layStore_25 : decode cX6_layStore 25 = .ok (.aload_n 0, 1) := by decide +kernel
theorem dX6_layStore_26 : decode cX6_layStore 26 = .ok (.getfield 7, 3) := by decide +kernel
theorem dX6_layStore_29 : decode cX6_layStore 29 = .ok (.iconst 0, 1) := by decide +kernel
theorem dX6_layStore_30 : decode cX6_layStore 30 = .ok (.iaload, 1) := by decide +kernel
theorem dX6_layStore_31 : decode cX6_layStore 31 = .ok (.if_icmp .ge 98, 3) := by decide +kernel
theorem dX6_layStore_34 : decode cX6_layStore 34 = .ok (.aload_n 0, 1) := by decide +kernel
theorem dX6_layStore_35 : decode cX6_layStore 35 = .ok (.getfield 7, 3) := by decide +kernel
theorem dX6_layStore_38 : decode cX6_layStore 38 = .ok (.bipush 49, 2) := by decide +kernel
theorem dX6_layStore_40 : decode cX6_layStore 40 = .ok (.iload_n 1, 1) := by decide +kernel
theorem dX6_layStore_41 : decode cX6_layStore 41 = .ok (.iadd, 1) := by decide +kernel
theorem dX6_layStore_42 : decode cX6_layStore 42 = .ok (.iaload, 1) := by decide +kernel
theorem dX6_layStore_43 : decode cX6_layStore 43 = .ok (.istore_n 2, 1) := by decide +kernel
theorem dX6_layStore_44 : decode cX6_layStore 44 = .ok (.iconst 0, 1) := by decide +kernel
theorem dX6_layStore_45 : decode cX6_layStore 45 = .ok (.istore_n 3, 1) := by decide +kernel
theorem dX6_layStore_46 : decode cX6_layStore 46 = .ok (.iload_n 3, 1) := by decide +kernel
theorem dX6_layStore_47 : decode cX6_layStore 47 = .ok (.bipush 16, 2) := by decide +kernel
theorem dX6_layStore_49 : decode cX6_layStore 49 = .ok (.if_icmp .ge 74, 3) := by decide +kernel
theorem dX6_layStore_52 : decode cX6_layStore 52 = .ok (.iload_n 2, 1) := by decide +kernel
theorem dX6_layStore_53 : decode cX6_layStore 53 = .ok (.ifCond .lt 70, 3) := by decide +kernel
theorem dX6_layStore_56 : decode cX6_layStore 56 = .ok (.aload_n 0, 1) := by decide +kernel
theorem dX6_layStore_57 : decode cX6_layStore 57 = .ok (.iload_n 1, 1) := by decide +kernel
theorem dX6_layStore_58 : decode cX6_layStore 58 = .ok (.invokevirtual 45, 3) := by decide +kernel
theorem dX6_layStore_61 : decode cX6_layStore 61 = .ok (.iload_n 3, 1) := by decide +kernel
theorem dX6_layStore_62 : decode cX6_layStore 62 = .ok (.invokestatic 49, 3) := by decide +kernel
theorem dX6_layStore_65 : decode cX6_layStore 65 = .ok (.ifCond .eq 52, 3) := by decide +kernel
theorem dX6_layStore_68 : decode cX6_layStore 68 = .ok (.aload_n 0, 1) := by decide +kernel
theorem dX6_layStore_69 : decode cX6_layStore 69 = .ok (.getfield 19, 3) := by decide +kernel
theorem dX6_layStore_72 : decode cX6_layStore 72 = .ok (.aload_n 0, 1) := by decide +kernel
theorem dX6_layStore_73 : decode cX6_layStore 73 = .ok (.getfield 7, 3) := by decide +kernel
theorem dX6_layStore_76 : decode cX6_layStore 76 = .ok (.sipush 457, 3) := by decide +kernel
theorem dX6_layStore_79 : decode cX6_layStore 79 = .ok (.iload_n 2, 1) := by decide +kernel
theorem dX6_layStore_80 : decode cX6_layStore 80 = .ok (.iadd, 1) := by decide +kernel
theorem dX6_layStore_81 : decode cX6_layStore 81 = .ok (.iaload, 1) := by decide +kernel
theorem dX6_layStore_82 : decode cX6_layStore 82 = .ok (.iload_n 3, 1) := by decide +kernel
theorem dX6_layStore_83 : decode cX6_layStore 83 = .ok (.iadd, 1) := by decide +kernel
theorem dX6_layStore_84 : decode cX6_layStore 84 = .ok (.iload_n 2, 1) := by decide +kernel
theorem dX6_layStore_85 : decode cX6_layStore 85 = .ok (.iastore, 1) := by decide +kernel
theorem dX6_layStore_86 : decode cX6_layStore 86 = .ok (.aload_n 0, 1) := by decide +kernel
theorem dX6_layStore_87 : decode cX6_layStore 87 = .ok (.getfield 22, 3) := by decide +kernel
theorem dX6_layStore_90 : decode cX6_layStore 90 = .ok (.aload_n 0, 1) := by decide +kernel
theorem dX6_layStore_91 : decode cX6_layStore 91 = .ok (.getfield 7, 3) := by decide +kernel
theorem dX6_layStore_94 : decode cX6_layStore 94 = .ok (.sipush 457, 3) := by decide +kernel
theorem dX6_layStore_97 : decode cX6_layStore 97 = .ok (.iload_n 2, 1) := by decide +kernel
theorem dX6_layStore_98 : decode cX6_layStore 98 = .ok (.iadd, 1) := by decide +kernel
theorem dX6_layStore_99 : decode cX6_layStore 99 = .ok (.iaload, 1) := by decide +kernel
theorem dX6_layStore_100 : decode cX6_layStore 100 = .ok (.iload_n 3, 1) := by decide +kernel
theorem dX6_layStore_101 : decode cX6_layStore 101 = .ok (.iadd, 1) := by decide +kernel
theorem dX6_layStore_102 : decode cX6_layStore 102 = .ok (.aload_n 0, 1) := by decide +kernel
theorem dX6_layStore_103 : decode cX6_layStore 103 = .ok (.getfield 7, 3) := by decide +kernel
theorem dX6_layStore_106 : decode cX6_layStore 106 = .ok (.bipush 73, 2) := by decide +kernel
theorem dX6_layStore_108 : decode cX6_layStore 108 = .ok (.bipush 16, 2) := by decide +kernel
theorem dX6_layStore_110 : decode cX6_layStore 110 = .ok (.iload_n 1, 1) := by decide +kernel
theorem dX6_layStore_111 : decode cX6_layStore 111 = .ok (.imul, 1) := by decide +kernel
theorem dX6_layStore_112 : decode cX6_layStore 112 = .ok (.iadd, 1) := by decide +kernel
theorem dX6_layStore_113 : decode cX6_layStore 113 = .ok (.iload_n 3, 1) := by decide +kernel
theorem dX6_layStore_114 : decode cX6_layStore 114 = .ok (.iadd, 1) := by decide +kernel
theorem dX6_layStore_115 : decode cX6_layStore 115 = .ok (.iaload, 1) := by decide +kernel
theorem dX6_layStore_116 : decode cX6_layStore 116 = .ok (.iastore, 1) := by decide +kernel
theorem dX6_layStore_117 : decode cX6_layStore 117 = .ok (.iinc 3 1, 3) := by decide +kernel
theorem dX6_layStore_120 : decode cX6_layStore 120 = .ok (.goto (-74), 3) := by decide +kernel
theorem dX6_layStore_123 : decode cX6_layStore 123 = .ok (.iinc 1 1, 3) := by decide +kernel
theorem dX6_layStore_126 : decode cX6_layStore 126 = .ok (.goto (-102), 3) := by decide +kernel
theorem dX6_layStore_129 : decode cX6_layStore 129 = .ok (.return_, 1) := by decide +kernel
set_option maxRecDepth 20000 in
theorem ggX6_fits_X6_has : GoodIn wsX6_fits wsX6_has := goodIn_r _ [5] (by decide +kernel) (by decide +kernel)
set_option maxRecDepth 20000 in
theorem gX6_fits_X6_has : GoodIn wsX6_fits (va_wsS RX6 49 yX6_has wsX6_has) := goodIn_app (goodIn_of _ (by decide +kernel)) ggX6_fits_X6_has
theorem dX6_fits_0 : decode cX6_fits 0 = .ok (.iconst 0, 1) := by decide +kernel
theorem dX6_fits_1 : decode cX6_fits 1 = .ok (.istore_n 2, 1) := by decide +kernel
theorem dX6_fits_2 : decode cX6_fits 2 = .ok (.iload_n 2, 1) := by decide +kernel
theorem dX6_fits_3 : decode cX6_fits 3 = .ok (.sipush 784, 3) := by decide +kernel
theorem dX6_fits_6 : decode cX6_fits 6 = .ok (.if_icmp .gt 65, 3) := by decide +kernel
theorem dX6_fits_9 : decode cX6_fits 9 = .ok (.iconst 1, 1) := by decide +kernel
theorem dX6_fits_10 : decode cX6_fits 10 = .ok (.istore_n 3, 1) := by decide +kernel
theorem dX6_fits_11 : decode cX6_fits 11 = .ok (.iconst 0, 1) := by decide +kernel
theorem dX6_fits_12 : decode cX6_fits 12 = .ok (.istore 4, 2) := by decide +kernel
theorem dX6_fits_14 : decode cX6_fits 14 = .ok (.iload 4, 2) := by decide +kernel
theorem dX6_fits_16 : decode cX6_fits 16 = .ok (.bipush 16, 2) := by decide +kernel
theorem dX6_fits_18 : decode cX6_fits 18 = .ok (.if_icmp .ge 41, 3) := by decide +kernel
theorem dX6_fits_21 : decode cX6_fits 21 = .ok (.iload_n 3, 1) := by decide +kernel
theorem dX6_fits_22 : decode cX6_fits 22 = .ok (.ifCond .eq 37, 3) := by decide +kernel
theorem dX6_fits_25 : decode cX6_fits 25 = .ok (.iload_n 1, 1) := by decide +kernel
theorem dX6_fits_26 : decode cX6_fits 26 = .ok (.iload 4, 2) := by decide +kernel
theorem dX6_fits_28 : decode cX6_fits 28 = .ok (.invokestatic 49, 3) := by decide +kernel
theorem dX6_fits_31 : decode cX6_fits 31 = .ok (.ifCond .eq 16, 3) := by decide +kernel
theorem dX6_fits_34 : decode cX6_fits 34 = .ok (.aload_n 0, 1) := by decide +kernel
theorem dX6_fits_35 : decode cX6_fits 35 = .ok (.getfield 19, 3) := by decide +kernel
theorem dX6_fits_38 : decode cX6_fits 38 = .ok (.iload_n 2, 1) := by decide +kernel
theorem dX6_fits_39 : decode cX6_fits 39 = .ok (.iload 4, 2) := by decide +kernel
theorem dX6_fits_41 : decode cX6_fits 41 = .ok (.iadd, 1) := by decide +kernel
theorem dX6_fits_42 : decode cX6_fits 42 = .ok (.iaload, 1) := by decide +kernel
theorem dX6_fits_43 : decode cX6_fits 43 = .ok (.iconst (-1), 1) := by decide +kernel
theorem dX6_fits_44 : decode cX6_fits 44 = .ok (.if_icmp .ne 7, 3) := by decide +kernel
theorem dX6_fits_47 : decode cX6_fits 47 = .ok (.iconst 1, 1) := by decide +kernel
theorem dX6_fits_48 : decode cX6_fits 48 = .ok (.goto 4, 3) := by decide +kernel
theorem dX6_fits_51 : decode cX6_fits 51 = .ok (.iconst 0, 1) := by decide +kernel
theorem dX6_fits_52 : decode cX6_fits 52 = .ok (.istore_n 3, 1) := by decide +kernel
theorem dX6_fits_53 : decode cX6_fits 53 = .ok (.iinc 4 1, 3) := by decide +kernel
theorem dX6_fits_56 : decode cX6_fits 56 = .ok (.goto (-42), 3) := by decide +kernel
theorem dX6_fits_59 : decode cX6_fits 59 = .ok (.iload_n 3, 1) := by decide +kernel
theorem dX6_fits_60 : decode cX6_fits 60 = .ok (.ifCond .eq 5, 3) := by decide +kernel
theorem dX6_fits_63 : decode cX6_fits 63 = .ok (.iload_n 2, 1) := by decide +kernel
theorem dX6_fits_64 : decode cX6_fits 64 = .ok (.ireturn, 1) := by decide +kernel
theorem dX6_fits_65 : decode cX6_fits 65 = .ok (.iinc 2 1, 3) := by decide +kernel
theorem dX6_fits_68 : decode cX6_fits 68 = .ok (.goto (-66), 3) := by decide +kernel
theorem dX6_fits_71 : decode cX6_fits 71 = .ok (.sipush 784, 3) := by decide +kernel
theorem dX6_fits_74 : decode cX6_fits 74 = .ok (.ireturn, 1) := by decide +kernel
set_option maxRecDepth 20000 in
theorem ggX6_forms_X6_areAlike : GoodIn wsX6_forms wsX6_areAlike := goodIn_r _ [6, 1, 7, 8, 9, 5, 10, 11, 12, 13, 24, 25, 26, 27, 28, 29, 30, 31, 32, 33, 34] (by decide +kernel) (by decide +kernel)
set_option maxRecDepth 20000 in
theorem gX6_forms_X6_areAlike : GoodIn wsX6_forms (wsV RX6 53 RX6 yX6_areAlike wsX6_areAlike) := goodIn_app (goodIn_of _ (by decide +kernel)) ggX6_forms_X6_areAlike
set_option maxRecDepth 20000 in
theorem ggX6_forms_X6_entries : GoodIn wsX6_forms wsX6_entries := goodIn_r _ [10, 1, 24, 25, 26, 27, 28, 29, 30, 31, 32, 33, 34] (by decide +kernel) (by decide +kernel)
set_option maxRecDepth 20000 in
theorem gX6_forms_X6_entries : GoodIn wsX6_forms (wsV RX6 45 RX6 yX6_entries wsX6_entries) := goodIn_app (goodIn_of _ (by decide +kernel)) ggX6_forms_X6_entries
set_option maxRecDepth 20000 in
theorem ggX6_forms_X6_layStore : GoodIn wsX6_forms wsX6_layStore := goodIn_r _ [17, 18, 1, 19, 7, 8, 9, 5, 10, 11, 12, 13, 24, 25, 26, 27, 28, 29, 30, 31, 32, 33, 34] (by decide +kernel) (by decide +kernel)
set_option maxRecDepth 20000 in
theorem gX6_forms_X6_layStore : GoodIn wsX6_forms (wsV RX6 56 RX6 yX6_layStore wsX6_layStore) := goodIn_app (goodIn_of _ (by decide +kernel)) ggX6_forms_X6_layStore
set_option maxRecDepth 20000 in
theorem ggX6_forms_X6_fits : GoodIn wsX6_forms wsX6_fits := goodIn_r _ [23, 18, 11, 12, 5, 13, 24, 25, 26, 27, 28, 29, 30, 31, 32, 33, 34] (by decide +kernel) (by decide +kernel)
set_option maxRecDepth 20000 in
theorem gX6_forms_X6_fits : GoodIn wsX6_forms (wsV RX6 59 RX6 yX6_fits wsX6_fits) := goodIn_app (goodIn_of _ (by decide +kernel)) ggX6_forms_X6_fits
theorem dX6_forms_0 : decode cX6_forms 0 = .ok (.iconst (-1), 1) := by decide +kernel
theorem dX6_forms_1 : decode cX6_forms 1 = .ok (.istore_n 2, 1) := by decide +kernel
theorem dX6_forms_2 : decode cX6_forms 2 = .ok (.iconst 0, 1) := by decide +kernel
theorem dX6_forms_3 : decode cX6_forms 3 = .ok (.istore_n 3, 1) := by decide +kernel
theorem dX6_forms_4 : decode cX6_forms 4 = .ok (.iload_n 3, 1) := by decide +kernel
theorem dX6_forms_5 : decode cX6_forms 5 = .ok (.aload_n 0, 1) := by decide +kernel
theorem dX6_forms_6 : decode cX6_forms 6 = .ok (.getfield 7, 3) := by decide +kernel
theorem dX6_forms_9 : decode cX6_forms 9 = .ok (.iconst 0, 1) := by decide +kernel
theorem dX6_forms_10 : decode cX6_forms 10 = .ok (.iaload, 1) := by decide +kernel
theorem dX6_forms_11 : decode cX6_forms 11 = .ok (.if_icmp .ge 56, 3) := by decide +kernel
theorem dX6_forms_14 : decode cX6_forms 14 = .ok (.aload_n 0, 1) := by decide +kernel
theorem dX6_forms_15 : decode cX6_forms 15 = .ok (.getfield 7, 3) := by decide +kernel
theorem dX6_forms_18 : decode cX6_forms 18 = .ok (.bipush 49, 2) := by decide +kernel
theorem dX6_forms_20 : decode cX6_forms 20 = .ok (.iload_n 3, 1) := by decide +kernel
theorem dX6_forms_21 : decode cX6_forms 21 = .ok (.iadd, 1) := by decide +kernel
theorem dX6_forms_22 : decode cX6_forms 22 = .ok (.iaload, 1) := by decide +kernel
theorem dX6_forms_23 : decode cX6_forms 23 = .ok (.istore 4, 2) := by decide +kernel
theorem dX6_forms_25 : decode cX6_forms 25 = .ok (.iload_n 3, 1) := by decide +kernel
theorem dX6_forms_26 : decode cX6_forms 26 = .ok (.iload_n 1, 1) := by decide +kernel
theorem dX6_forms_27 : decode cX6_forms 27 = .ok (.if_icmp .eq 32, 3) := by decide +kernel
theorem dX6_forms_30 : decode cX6_forms 30 = .ok (.iload 4, 2) := by decide +kernel
theorem dX6_forms_32 : decode cX6_forms 32 = .ok (.ifCond .lt 27, 3) := by decide +kernel
theorem dX6_forms_35 : decode cX6_forms 35 = .ok (.aload_n 0, 1) := by decide +kernel
theorem dX6_forms_36 : decode cX6_forms 36 = .ok (.iload_n 3, 1) := by decide +kernel
theorem dX6_forms_37 : decode cX6_forms 37 = .ok (.iload_n 1, 1) := by decide +kernel
theorem dX6_forms_38 : decode cX6_forms 38 = .ok (.invokevirtual 53, 3) := by decide +kernel
theorem dX6_forms_41 : decode cX6_forms 41 = .ok (.ifCond .eq 18, 3) := by decide +kernel
theorem dX6_forms_44 : decode cX6_forms 44 = .ok (.iload_n 2, 1) := by decide +kernel
theorem dX6_forms_45 : decode cX6_forms 45 = .ok (.ifCond .lt 9, 3) := by decide +kernel
theorem dX6_forms_48 : decode cX6_forms 48 = .ok (.iload 4, 2) := by decide +kernel
theorem dX6_forms_50 : decode cX6_forms 50 = .ok (.iload_n 2, 1) := by decide +kernel
theorem dX6_forms_51 : decode cX6_forms 51 = .ok (.if_icmp .ge 8, 3) := by decide +kernel
theorem dX6_forms_54 : decode cX6_forms 54 = .ok (.iload 4, 2) := by decide +kernel
theorem dX6_forms_56 : decode cX6_forms 56 = .ok (.goto 4, 3) := by decide +kernel
theorem dX6_forms_59 : decode cX6_forms 59 = .ok (.iload_n 2, 1) := by decide +kernel
theorem dX6_forms_60 : decode cX6_forms 60 = .ok (.istore_n 2, 1) := by decide +kernel
theorem dX6_forms_61 : decode cX6_forms 61 = .ok (.iinc 3 1, 3) := by decide +kernel
theorem dX6_forms_64 : decode cX6_forms 64 = .ok (.goto (-60), 3) := by decide +kernel
theorem dX6_forms_67 : decode cX6_forms 67 = .ok (.iload_n 2, 1) := by decide +kernel
theorem dX6_forms_68 : decode cX6_forms 68 = .ok (.ifCond .ge 55, 3) := by decide +kernel
theorem dX6_forms_71 : decode cX6_forms 71 = .ok (.aload_n 0, 1) := by decide +kernel
theorem dX6_forms_72 : decode cX6_forms 72 = .ok (.iload_n 1, 1) := by decide +kernel
theorem dX6_forms_73 : decode cX6_forms 73 = .ok (.invokevirtual 45, 3) := by decide +kernel
theorem dX6_forms_76 : decode cX6_forms 76 = .ok (.ifCond .eq 47, 3) := by decide +kernel
theorem dX6_forms_79 : decode cX6_forms 79 = .ok (.aload_n 0, 1) := by decide +kernel
theorem dX6_forms_80 : decode cX6_forms 80 = .ok (.invokevirtual 56, 3) := by decide +kernel
theorem dX6_forms_83 : decode cX6_forms 83 = .ok (.iconst 0, 1) := by decide +kernel
theorem dX6_forms_84 : decode cX6_forms 84 = .ok (.istore_n 2, 1) := by decide +kernel
theorem dX6_forms_85 : decode cX6_forms 85 = .ok (.aload_n 0, 1) := by decide +kernel
theorem dX6_forms_86 : decode cX6_forms 86 = .ok (.getfield 7, 3) := by decide +kernel
theorem dX6_forms_89 : decode cX6_forms 89 = .ok (.sipush 457, 3) := by decide +kernel
theorem dX6_forms_92 : decode cX6_forms 92 = .ok (.iload_n 2, 1) := by decide +kernel
theorem dX6_forms_93 : decode cX6_forms 93 = .ok (.iadd, 1) := by decide +kernel
end
section
theorem dX6_forms_94 : decode cX6_forms 94 = .ok (.iaload, 1) := by decide +kernel
theorem dX6_forms_95 : decode cX6_forms 95 = .ok (.ifCond .lt 9, 3) := by decide +kernel
theorem dX6_forms_98 : decode cX6_forms 98 = .ok (.iinc 2 1, 3) := by decide +kernel
theorem dX6_forms_101 : decode cX6_forms 101 = .ok (.goto (-16), 3) := by decide +kernel
theorem dX6_forms_104 : decode cX6_forms 104 = .ok (.aload_n 0, 1) := by decide +kernel
theorem dX6_forms_105 : decode cX6_forms 105 = .ok (.getfield 7, 3) := by decide +kernel
theorem dX6_forms_108 : decode cX6_forms 108 = .ok (.sipush 457, 3) := by decide +kernel
theorem dX6_forms_111 : decode cX6_forms 111 = .ok (.iload_n 2, 1) := by decide +kernel
theorem dX6_forms_112 : decode cX6_forms 112 = .ok (.iadd, 1) := by decide +kernel
theorem dX6_forms_113 : decode cX6_forms 113 = .ok (.aload_n 0, 1) := by decide +kernel
theorem dX6_forms_114 : decode cX6_forms 114 = .ok (.aload_n 0, 1) := by decide +kernel
theorem dX6_forms_115 : decode cX6_forms 115 = .ok (.iload_n 1, 1) := by decide +kernel
theorem dX6_forms_116 : decode cX6_forms 116 = .ok (.invokevirtual 45, 3) := by decide +kernel
theorem dX6_forms_119 : decode cX6_forms 119 = .ok (.invokevirtual 59, 3) := by decide +kernel
theorem dX6_forms_122 : decode cX6_forms 122 = .ok (.iastore, 1) := by decide +kernel
theorem dX6_forms_123 : decode cX6_forms 123 = .ok (.aload_n 0, 1) := by decide +kernel
theorem dX6_forms_124 : decode cX6_forms 124 = .ok (.getfield 7, 3) := by decide +kernel
theorem dX6_forms_127 : decode cX6_forms 127 = .ok (.bipush 49, 2) := by decide +kernel
theorem dX6_forms_129 : decode cX6_forms 129 = .ok (.iload_n 1, 1) := by decide +kernel
theorem dX6_forms_130 : decode cX6_forms 130 = .ok (.iadd, 1) := by decide +kernel
theorem dX6_forms_131 : decode cX6_forms 131 = .ok (.aload_n 0, 1) := by decide +kernel
theorem dX6_forms_132 : decode cX6_forms 132 = .ok (.iload_n 1, 1) := by decide +kernel
theorem dX6_forms_133 : decode cX6_forms 133 = .ok (.invokevirtual 45, 3) := by decide +kernel
theorem dX6_forms_136 : decode cX6_forms 136 = .ok (.ifCond .ne 7, 3) := by decide +kernel
theorem dX6_forms_139 : decode cX6_forms 139 = .ok (.iconst (-1), 1) := by decide +kernel
theorem dX6_forms_140 : decode cX6_forms 140 = .ok (.goto 4, 3) := by decide +kernel
theorem dX6_forms_143 : decode cX6_forms 143 = .ok (.iload_n 2, 1) := by decide +kernel
theorem dX6_forms_144 : decode cX6_forms 144 = .ok (.iastore, 1) := by decide +kernel
theorem dX6_forms_145 : decode cX6_forms 145 = .ok (.return_, 1) := by decide +kernel
set_option maxRecDepth 20000 in
theorem ggX6_leaves_X6_sharers : GoodIn wsX6_leaves wsX6_sharers := goodIn_r _ [6, 1, 7, 8, 9, 10, 11, 12, 13, 14, 15, 16, 17] (by decide +kernel) (by decide +kernel)
set_option maxRecDepth 20000 in
theorem gX6_leaves_X6_sharers : GoodIn wsX6_leaves (wsV RX6 62 RX6 yX6_sharers wsX6_sharers) := goodIn_app (goodIn_of _ (by decide +kernel)) ggX6_leaves_X6_sharers
theorem dX6_leaves_0 : decode cX6_leaves 0 = .ok (.aload_n 0, 1) := by decide +kernel
theorem dX6_leaves_1 : decode cX6_leaves 1 = .ok (.getfield 7, 3) := by decide +kernel
theorem dX6_leaves_4 : decode cX6_leaves 4 = .ok (.bipush 49, 2) := by decide +kernel
theorem dX6_leaves_6 : decode cX6_leaves 6 = .ok (.iload_n 1, 1) := by decide +kernel
theorem dX6_leaves_7 : decode cX6_leaves 7 = .ok (.iadd, 1) := by decide +kernel
theorem dX6_leaves_8 : decode cX6_leaves 8 = .ok (.iaload, 1) := by decide +kernel
theorem dX6_leaves_9 : decode cX6_leaves 9 = .ok (.istore_n 2, 1) := by decide +kernel
theorem dX6_leaves_10 : decode cX6_leaves 10 = .ok (.aload_n 0, 1) := by decide +kernel
theorem dX6_leaves_11 : decode cX6_leaves 11 = .ok (.getfield 7, 3) := by decide +kernel
theorem dX6_leaves_14 : decode cX6_leaves 14 = .ok (.bipush 49, 2) := by decide +kernel
theorem dX6_leaves_16 : decode cX6_leaves 16 = .ok (.iload_n 1, 1) := by decide +kernel
theorem dX6_leaves_17 : decode cX6_leaves 17 = .ok (.iadd, 1) := by decide +kernel
theorem dX6_leaves_18 : decode cX6_leaves 18 = .ok (.iconst (-1), 1) := by decide +kernel
theorem dX6_leaves_19 : decode cX6_leaves 19 = .ok (.iastore, 1) := by decide +kernel
theorem dX6_leaves_20 : decode cX6_leaves 20 = .ok (.iload_n 2, 1) := by decide +kernel
theorem dX6_leaves_21 : decode cX6_leaves 21 = .ok (.ifCond .lt 22, 3) := by decide +kernel
theorem dX6_leaves_24 : decode cX6_leaves 24 = .ok (.aload_n 0, 1) := by decide +kernel
theorem dX6_leaves_25 : decode cX6_leaves 25 = .ok (.iload_n 2, 1) := by decide +kernel
theorem dX6_leaves_26 : decode cX6_leaves 26 = .ok (.invokevirtual 62, 3) := by decide +kernel
theorem dX6_leaves_29 : decode cX6_leaves 29 = .ok (.ifCond .ne 14, 3) := by decide +kernel
theorem dX6_leaves_32 : decode cX6_leaves 32 = .ok (.aload_n 0, 1) := by decide +kernel
theorem dX6_leaves_33 : decode cX6_leaves 33 = .ok (.getfield 7, 3) := by decide +kernel
theorem dX6_leaves_36 : decode cX6_leaves 36 = .ok (.sipush 457, 3) := by decide +kernel
theorem dX6_leaves_39 : decode cX6_leaves 39 = .ok (.iload_n 2, 1) := by decide +kernel
theorem dX6_leaves_40 : decode cX6_leaves 40 = .ok (.iadd, 1) := by decide +kernel
theorem dX6_leaves_41 : decode cX6_leaves 41 = .ok (.iconst (-1), 1) := by decide +kernel
theorem dX6_leaves_42 : decode cX6_leaves 42 = .ok (.iastore, 1) := by decide +kernel
theorem dX6_leaves_43 : decode cX6_leaves 43 = .ok (.return_, 1) := by decide +kernel
theorem dX6_adds_0 : decode cX6_adds 0 = .ok (.aload_n 0, 1) := by decide +kernel
theorem dX6_adds_1 : decode cX6_adds 1 = .ok (.getfield 7, 3) := by decide +kernel
theorem dX6_adds_4 : decode cX6_adds 4 = .ok (.iconst 0, 1) := by decide +kernel
theorem dX6_adds_5 : decode cX6_adds 5 = .ok (.iaload, 1) := by decide +kernel
theorem dX6_adds_6 : decode cX6_adds 6 = .ok (.istore_n 2, 1) := by decide +kernel
theorem dX6_adds_7 : decode cX6_adds 7 = .ok (.aload_n 0, 1) := by decide +kernel
theorem dX6_adds_8 : decode cX6_adds 8 = .ok (.getfield 7, 3) := by decide +kernel
theorem dX6_adds_11 : decode cX6_adds 11 = .ok (.iconst 1, 1) := by decide +kernel
theorem dX6_adds_12 : decode cX6_adds 12 = .ok (.iload_n 2, 1) := by decide +kernel
theorem dX6_adds_13 : decode cX6_adds 13 = .ok (.iadd, 1) := by decide +kernel
theorem dX6_adds_14 : decode cX6_adds 14 = .ok (.iload_n 1, 1) := by decide +kernel
theorem dX6_adds_15 : decode cX6_adds 15 = .ok (.iastore, 1) := by decide +kernel
theorem dX6_adds_16 : decode cX6_adds 16 = .ok (.aload_n 0, 1) := by decide +kernel
theorem dX6_adds_17 : decode cX6_adds 17 = .ok (.getfield 7, 3) := by decide +kernel
theorem dX6_adds_20 : decode cX6_adds 20 = .ok (.bipush 25, 2) := by decide +kernel
theorem dX6_adds_22 : decode cX6_adds 22 = .ok (.iload_n 2, 1) := by decide +kernel
theorem dX6_adds_23 : decode cX6_adds 23 = .ok (.iadd, 1) := by decide +kernel
theorem dX6_adds_24 : decode cX6_adds 24 = .ok (.iconst 0, 1) := by decide +kernel
theorem dX6_adds_25 : decode cX6_adds 25 = .ok (.iastore, 1) := by decide +kernel
theorem dX6_adds_26 : decode cX6_adds 26 = .ok (.aload_n 0, 1) := by decide +kernel
theorem dX6_adds_27 : decode cX6_adds 27 = .ok (.getfield 7, 3) := by decide +kernel
theorem dX6_adds_30 : decode cX6_adds 30 = .ok (.bipush 49, 2) := by decide +kernel
theorem dX6_adds_32 : decode cX6_adds 32 = .ok (.iload_n 2, 1) := by decide +kernel
theorem dX6_adds_33 : decode cX6_adds 33 = .ok (.iadd, 1) := by decide +kernel
theorem dX6_adds_34 : decode cX6_adds 34 = .ok (.iconst (-1), 1) := by decide +kernel
theorem dX6_adds_35 : decode cX6_adds 35 = .ok (.iastore, 1) := by decide +kernel
theorem dX6_adds_36 : decode cX6_adds 36 = .ok (.aload_n 0, 1) := by decide +kernel
theorem dX6_adds_37 : decode cX6_adds 37 = .ok (.getfield 7, 3) := by decide +kernel
theorem dX6_adds_40 : decode cX6_adds 40 = .ok (.iconst 0, 1) := by decide +kernel
theorem dX6_adds_41 : decode cX6_adds 41 = .ok (.dup2, 1) := by decide +kernel
theorem dX6_adds_42 : decode cX6_adds 42 = .ok (.iaload, 1) := by decide +kernel
theorem dX6_adds_43 : decode cX6_adds 43 = .ok (.iconst 1, 1) := by decide +kernel
theorem dX6_adds_44 : decode cX6_adds 44 = .ok (.iadd, 1) := by decide +kernel
theorem dX6_adds_45 : decode cX6_adds 45 = .ok (.iastore, 1) := by decide +kernel
theorem dX6_adds_46 : decode cX6_adds 46 = .ok (.return_, 1) := by decide +kernel
set_option maxRecDepth 20000 in
theorem ggX6_add_X6_in : GoodIn wsX6_add wsX6_in := goodIn_r _ [5] (by decide +kernel) (by decide +kernel)
set_option maxRecDepth 20000 in
theorem gX6_add_X6_in : GoodIn wsX6_add (va_wsS RX6 28 yX6_in wsX6_in) := goodIn_app (goodIn_of _ (by decide +kernel)) ggX6_add_X6_in
set_option maxRecDepth 20000 in
theorem ggX6_add_X6_remember : GoodIn wsX6_add wsX6_remember := goodIn_r _ [9, 10, 11, 12, 4, 13, 14, 1, 15, 16, 17, 18, 19, 20, 21, 26, 27, 28, 29, 30, 31, 32, 33, 34, 35, 36] (by decide +kernel) (by decide +kernel)
set_option maxRecDepth 20000 in
theorem gX6_add_X6_remember : GoodIn wsX6_add (wsV RX6 65 RX6 yX6_remember wsX6_remember) := goodIn_app (goodIn_of _ (by decide +kernel)) ggX6_add_X6_remember
set_option maxRecDepth 20000 in
theorem ggX6_add_X6_adds : GoodIn wsX6_add wsX6_adds := goodIn_r _ [25, 1, 26, 27, 28, 29, 30, 31, 32, 33, 34, 35, 36] (by decide +kernel) (by decide +kernel)
set_option maxRecDepth 20000 in
theorem gX6_add_X6_adds : GoodIn wsX6_add (wsV RX6 68 RX6 yX6_adds wsX6_adds) := goodIn_app (goodIn_of _ (by decide +kernel)) ggX6_add_X6_adds
theorem dX6_add_0 : decode cX6_add 0 = .ok (.iload_n 1, 1) := by decide +kernel
theorem dX6_add_1 : decode cX6_add 1 = .ok (.iconst 0, 1) := by decide +kernel
theorem dX6_add_2 : decode cX6_add 2 = .ok (.bipush 99, 2) := by decide +kernel
theorem dX6_add_4 : decode cX6_add 4 = .ok (.invokestatic 28, 3) := by decide +kernel
theorem dX6_add_7 : decode cX6_add 7 = .ok (.ifCond .ne 5, 3) := by decide +kernel
theorem dX6_add_10 : decode cX6_add 10 = .ok (.iconst (-1), 1) := by decide +kernel
theorem dX6_add_11 : decode cX6_add 11 = .ok (.ireturn, 1) := by decide +kernel
theorem dX6_add_12 : decode cX6_add 12 = .ok (.aload_n 0, 1) := by decide +kernel
theorem dX6_add_13 : decode cX6_add 13 = .ok (.getfield 7, 3) := by decide +kernel
theorem dX6_add_16 : decode cX6_add 16 = .ok (.iconst 0, 1) := by decide +kernel
theorem dX6_add_17 : decode cX6_add 17 = .ok (.iaload, 1) := by decide +kernel
theorem dX6_add_18 : decode cX6_add 18 = .ok (.bipush 24, 2) := by decide +kernel
theorem dX6_add_20 : decode cX6_add 20 = .ok (.if_icmp .ne 6, 3) := by decide +kernel
theorem dX6_add_23 : decode cX6_add 23 = .ok (.bipush (-3), 2) := by decide +kernel
theorem dX6_add_25 : decode cX6_add 25 = .ok (.ireturn, 1) := by decide +kernel
theorem dX6_add_26 : decode cX6_add 26 = .ok (.aload_n 0, 1) := by decide +kernel
theorem dX6_add_27 : decode cX6_add 27 = .ok (.invokevirtual 65, 3) := by decide +kernel
theorem dX6_add_30 : decode cX6_add 30 = .ok (.aload_n 0, 1) := by decide +kernel
theorem dX6_add_31 : decode cX6_add 31 = .ok (.iload_n 1, 1) := by decide +kernel
theorem dX6_add_32 : decode cX6_add 32 = .ok (.invokevirtual 68, 3) := by decide +kernel
theorem dX6_add_35 : decode cX6_add 35 = .ok (.aload_n 0, 1) := by decide +kernel
theorem dX6_add_36 : decode cX6_add 36 = .ok (.getfield 7, 3) := by decide +kernel
theorem dX6_add_39 : decode cX6_add 39 = .ok (.iconst 0, 1) := by decide +kernel
theorem dX6_add_40 : decode cX6_add 40 = .ok (.iaload, 1) := by decide +kernel
theorem dX6_add_41 : decode cX6_add 41 = .ok (.iconst 1, 1) := by decide +kernel
theorem dX6_add_42 : decode cX6_add 42 = .ok (.isub, 1) := by decide +kernel
theorem dX6_add_43 : decode cX6_add 43 = .ok (.ireturn, 1) := by decide +kernel
set_option maxRecDepth 20000 in
theorem ggX6_set_X6_isRow : GoodIn wsX6_set wsX6_isRow := goodIn_r _ [6, 1, 7, 8, 5, 9, 71, 72, 73, 74, 75, 76, 77, 78, 79, 80, 81] (by decide +kernel) (by decide +kernel)
set_option maxRecDepth 20000 in
theorem gX6_set_X6_isRow : GoodIn wsX6_set (wsV RX6 72 RX6 yX6_isRow wsX6_isRow) := goodIn_app (goodIn_of _ (by decide +kernel)) ggX6_set_X6_isRow
set_option maxRecDepth 20000 in
theorem ggX6_set_X6_in : GoodIn wsX6_set wsX6_in := goodIn_r _ [9] (by decide +kernel) (by decide +kernel)
set_option maxRecDepth 20000 in
theorem gX6_set_X6_in : GoodIn wsX6_set (va_wsS RX6 28 yX6_in wsX6_in) := goodIn_app (goodIn_of _ (by decide +kernel)) ggX6_set_X6_in
set_option maxRecDepth 20000 in
theorem ggX6_set_X6_remember : GoodIn wsX6_set wsX6_remember := goodIn_r _ [13, 14, 15, 16, 5, 17, 18, 1, 19, 20, 21, 22, 23, 24, 25, 71, 72, 73, 74, 75, 76, 77, 78, 79, 80, 81] (by decide +kernel) (by decide +kernel)
set_option maxRecDepth 20000 in
theorem gX6_set_X6_remember : GoodIn wsX6_set (wsV RX6 65 RX6 yX6_remember wsX6_remember) := goodIn_app (goodIn_of _ (by decide +kernel)) ggX6_set_X6_remember
set_option maxRecDepth 20000 in
theorem ggX6_set_X6_valueOf : GoodIn wsX6_set wsX6_valueOf := goodIn_r _ [29, 1, 30, 31, 32, 5, 33, 34, 35, 36, 71, 72, 73, 74, 75, 76, 77, 78, 79, 80, 81] (by decide +kernel) (by decide +kernel)
set_option maxRecDepth 20000 in
theorem gX6_set_X6_valueOf : GoodIn wsX6_set (wsV RX6 76 RX6 yX6_valueOf wsX6_valueOf) := goodIn_app (goodIn_of _ (by decide +kernel)) ggX6_set_X6_valueOf
set_option maxRecDepth 20000 in
theorem ggX6_set_X6_leavesFor : GoodIn wsX6_set wsX6_leavesFor := goodIn_r _ [40, 41, 42, 43, 5, 44, 1, 45, 46, 47, 48, 71, 72, 73, 74, 75, 76, 77, 78, 79, 80, 81] (by decide +kernel) (by decide +kernel)
set_option maxRecDepth 20000 in
theorem gX6_set_X6_leavesFor : GoodIn wsX6_set (wsV RX6 80 RX6 yX6_leavesFor wsX6_leavesFor) := goodIn_app (goodIn_of _ (by decide +kernel)) ggX6_set_X6_leavesFor
set_option maxRecDepth 20000 in
theorem ggX6_set_X6_entries : GoodIn wsX6_set wsX6_entries := goodIn_r _ [33, 1, 71, 72, 73, 74, 75, 76, 77, 78, 79, 80, 81] (by decide +kernel) (by decide +kernel)
set_option maxRecDepth 20000 in
theorem gX6_set_X6_entries : GoodIn wsX6_set (wsV RX6 45 RX6 yX6_entries wsX6_entries) := goodIn_app (goodIn_of _ (by decide +kernel)) ggX6_set_X6_entries
set_option maxRecDepth 20000 in
theorem ggX6_set_X6_formsFor : GoodIn wsX6_set wsX6_formsFor := goodIn_r _ [52, 53, 54, 55, 5, 56, 1, 57, 58, 59, 60, 30, 31, 32, 33, 34, 35, 36, 61, 62, 63, 64, 65, 66, 67, 68, 69, 70, 71, 72, 73, 74, 75, 76, 77, 78, 79, 80, 81] (by decide +kernel) (by decide +kernel)
set_option maxRecDepth 20000 in
theorem gX6_set_X6_formsFor : GoodIn wsX6_set (wsV RX6 84 RX6 yX6_formsFor wsX6_formsFor) := goodIn_app (goodIn_of _ (by decide +kernel)) ggX6_set_X6_formsFor
theorem dX6_set_0 : decode cX6_set 0 = .ok (.aload_n 0, 1) := by decide +kernel
theorem dX6_set_1 : decode cX6_set 1 = .ok (.iload_n 1, 1) := by decide +kernel
theorem dX6_set_2 : decode cX6_set 2 = .ok (.invokevirtual 72, 3) := by decide +kernel
theorem dX6_set_5 : decode cX6_set 5 = .ok (.ifCond .eq 23, 3) := by decide +kernel
theorem dX6_set_8 : decode cX6_set 8 = .ok (.iload_n 2, 1) := by decide +kernel
theorem dX6_set_9 : decode cX6_set 9 = .ok (.iconst 0, 1) := by decide +kernel
theorem dX6_set_10 : decode cX6_set 10 = .ok (.bipush 15, 2) := by decide +kernel
theorem dX6_set_12 : decode cX6_set 12 = .ok (.invokestatic 28, 3) := by decide +kernel
theorem dX6_set_15 : decode cX6_set 15 = .ok (.ifCond .eq 13, 3) := by decide +kernel
theorem dX6_set_18 : decode cX6_set 18 = .ok (.iload_n 3, 1) := by decide +kernel
theorem dX6_set_19 : decode cX6_set 19 = .ok (.iconst 0, 1) := by decide +kernel
theorem dX6_set_20 : decode cX6_set 20 = .ok (.bipush 99, 2) := by decide +kernel
theorem dX6_set_22 : decode cX6_set 22 = .ok (.invokestatic 28, 3) := by decide +kernel
theorem dX6_set_25 : decode cX6_set 25 = .ok (.ifCond .ne 5, 3) := by decide +kernel
theorem dX6_set_28 : decode cX6_set 28 = .ok (.iconst (-1), 1) := by decide +kernel
theorem dX6_set_29 : decode cX6_set 29 = .ok (.ireturn, 1) := by decide +kernel
theorem dX6_set_30 : decode cX6_set 30 = .ok (.aload_n 0, 1) := by decide +kernel
theorem dX6_set_31 : decode cX6_set 31 = .ok (.invokevirtual 65, 3) := by decide +kernel
theorem dX6_set_34 : decode cX6_set 34 = .ok (.aload_n 0, 1) := by decide +kernel
theorem dX6_set_35 : decode cX6_set 35 = .ok (.iload_n 1, 1) := by decide +kernel
theorem dX6_set_36 : decode cX6_set 36 = .ok (.iload_n 2, 1) := by decide +kernel
theorem dX6_set_37 : decode cX6_set 37 = .ok (.invokevirtual 76, 3) := by decide +kernel
theorem dX6_set_40 : decode cX6_set 40 = .ok (.istore 4, 2) := by decide +kernel
theorem dX6_set_42 : decode cX6_set 42 = .ok (.aload_n 0, 1) := by decide +kernel
theorem dX6_set_43 : decode cX6_set 43 = .ok (.iload_n 1, 1) := by decide +kernel
theorem dX6_set_44 : decode cX6_set 44 = .ok (.iload 4, 2) := by decide +kernel
theorem dX6_set_46 : decode cX6_set 46 = .ok (.iload_n 3, 1) := by decide +kernel
theorem dX6_set_47 : decode cX6_set 47 = .ok (.if_icmp .eq 7, 3) := by decide +kernel
theorem dX6_set_50 : decode cX6_set 50 = .ok (.iconst 1, 1) := by decide +kernel
theorem dX6_set_51 : decode cX6_set 51 = .ok (.goto 4, 3) := by decide +kernel
theorem dX6_set_54 : decode cX6_set 54 = .ok (.iconst 0, 1) := by decide +kernel
theorem dX6_set_55 : decode cX6_set 55 = .ok (.invokevirtual 80, 3) := by decide +kernel
theorem dX6_set_58 : decode cX6_set 58 = .ok (.aload_n 0, 1) := by decide +kernel
theorem dX6_set_59 : decode cX6_set 59 = .ok (.getfield 7, 3) := by decide +kernel
theorem dX6_set_62 : decode cX6_set 62 = .ok (.bipush 25, 2) := by decide +kernel
theorem dX6_set_64 : decode cX6_set 64 = .ok (.iload_n 1, 1) := by decide +kernel
theorem dX6_set_65 : decode cX6_set 65 = .ok (.iadd, 1) := by decide +kernel
theorem dX6_set_66 : decode cX6_set 66 = .ok (.aload_n 0, 1) := by decide +kernel
theorem dX6_set_67 : decode cX6_set 67 = .ok (.iload_n 1, 1) := by decide +kernel
theorem dX6_set_68 : decode cX6_set 68 = .ok (.invokevirtual 45, 3) := by decide +kernel
theorem dX6_set_71 : decode cX6_set 71 = .ok (.iconst 1, 1) := by decide +kernel
theorem dX6_set_72 : decode cX6_set 72 = .ok (.iload_n 2, 1) := by decide +kernel
theorem dX6_set_73 : decode cX6_set 73 = .ok (.ishl, 1) := by decide +kernel
theorem dX6_set_74 : decode cX6_set 74 = .ok (.iconst (-1), 1) := by decide +kernel
theorem dX6_set_75 : decode cX6_set 75 = .ok (.ixor, 1) := by decide +kernel
theorem dX6_set_76 : decode cX6_set 76 = .ok (.iand, 1) := by decide +kernel
theorem dX6_set_77 : decode cX6_set 77 = .ok (.iload_n 3, 1) := by decide +kernel
theorem dX6_set_78 : decode cX6_set 78 = .ok (.aload_n 0, 1) := by decide +kernel
theorem dX6_set_79 : decode cX6_set 79 = .ok (.getfield 7, 3) := by decide +kernel
theorem dX6_set_82 : decode cX6_set 82 = .ok (.iconst 1, 1) := by decide +kernel
theorem dX6_set_83 : decode cX6_set 83 = .ok (.iload_n 1, 1) := by decide +kernel
theorem dX6_set_84 : decode cX6_set 84 = .ok (.iadd, 1) := by decide +kernel
theorem dX6_set_85 : decode cX6_set 85 = .ok (.iaload, 1) := by decide +kernel
theorem dX6_set_86 : decode cX6_set 86 = .ok (.if_icmp .ne 7, 3) := by decide +kernel
theorem dX6_set_89 : decode cX6_set 89 = .ok (.iconst 0, 1) := by decide +kernel
theorem dX6_set_90 : decode cX6_set 90 = .ok (.goto 6, 3) := by decide +kernel
theorem dX6_set_93 : decode cX6_set 93 = .ok (.iconst 1, 1) := by decide +kernel
theorem dX6_set_94 : decode cX6_set 94 = .ok (.iload_n 2, 1) := by decide +kernel
theorem dX6_set_95 : decode cX6_set 95 = .ok (.ishl, 1) := by decide +kernel
theorem dX6_set_96 : decode cX6_set 96 = .ok (.ior, 1) := by decide +kernel
theorem dX6_set_97 : decode cX6_set 97 = .ok (.iastore, 1) := by decide +kernel
theorem dX6_set_98 : decode cX6_set 98 = .ok (.aload_n 0, 1) := by decide +kernel
theorem dX6_set_99 : decode cX6_set 99 = .ok (.getfield 7, 3) := by decide +kernel
theorem dX6_set_102 : decode cX6_set 102 = .ok (.bipush 73, 2) := by decide +kernel
theorem dX6_set_104 : decode cX6_set 104 = .ok (.bipush 16, 2) := by decide +kernel
theorem dX6_set_106 : decode cX6_set 106 = .ok (.iload_n 1, 1) := by decide +kernel
theorem dX6_set_107 : decode cX6_set 107 = .ok (.imul, 1) := by decide +kernel
theorem dX6_set_108 : decode cX6_set 108 = .ok (.iadd, 1) := by decide +kernel
theorem dX6_set_109 : decode cX6_set 109 = .ok (.iload_n 2, 1) := by decide +kernel
theorem dX6_set_110 : decode cX6_set 110 = .ok (.iadd, 1) := by decide +kernel
theorem dX6_set_111 : decode cX6_set 111 = .ok (.iload_n 3, 1) := by decide +kernel
theorem dX6_set_112 : decode cX6_set 112 = .ok (.iastore, 1) := by decide +kernel
theorem dX6_set_113 : decode cX6_set 113 = .ok (.aload_n 0, 1) := by decide +kernel
theorem dX6_set_114 : decode cX6_set 114 = .ok (.iload_n 1, 1) := by decide +kernel
theorem dX6_set_115 : decode cX6_set 115 = .ok (.iload 4, 2) := by decide +kernel
theorem dX6_set_117 : decode cX6_set 117 = .ok (.iload_n 3, 1) := by decide +kernel
theorem dX6_set_118 : decode cX6_set 118 = .ok (.if_icmp .eq 7, 3) := by decide +kernel
theorem dX6_set_121 : decode cX6_set 121 = .ok (.iconst 1, 1) := by decide +kernel
theorem dX6_set_122 : decode cX6_set 122 = .ok (.goto 4, 3) := by decide +kernel
theorem dX6_set_125 : decode cX6_set 125 = .ok (.iconst 0, 1) := by decide +kernel
theorem dX6_set_126 : decode cX6_set 126 = .ok (.invokevirtual 84, 3) := by decide +kernel
theorem dX6_set_129 : decode cX6_set 129 = .ok (.iload 4, 2) := by decide +kernel
theorem dX6_set_131 : decode cX6_set 131 = .ok (.ireturn, 1) := by decide +kernel
set_option maxRecDepth 20000 in
theorem ggX6_leavesFor_X6_leaves : GoodIn wsX6_leavesFor wsX6_leaves := goodIn_r _ [5, 6, 7, 8, 9, 4, 10, 11, 12, 13, 14, 15, 16, 17, 18, 19, 20, 21] (by decide +kernel) (by decide +kernel)
set_option maxRecDepth 20000 in
theorem gX6_leavesFor_X6_leaves : GoodIn wsX6_leavesFor (wsV RX6 87 RX6 yX6_leaves wsX6_leaves) := goodIn_app (goodIn_of _ (by decide +kernel)) ggX6_leavesFor_X6_leaves
theorem dX6_leavesFor_0 : decode cX6_leavesFor 0 = .ok (.iload_n 2, 1) := by decide +kernel
theorem dX6_leavesFor_1 : decode cX6_leavesFor 1 = .ok (.ifCond .eq 8, 3) := by decide +kernel
theorem dX6_leavesFor_4 : decode cX6_leavesFor 4 = .ok (.aload_n 0, 1) := by decide +kernel
theorem dX6_leavesFor_5 : decode cX6_leavesFor 5 = .ok (.iload_n 1, 1) := by decide +kernel
theorem dX6_leavesFor_6 : decode cX6_leavesFor 6 = .ok (.invokevirtual 87, 3) := by decide +kernel
theorem dX6_leavesFor_9 : decode cX6_leavesFor 9 = .ok (.return_, 1) := by decide +kernel
set_option maxRecDepth 20000 in
theorem ggX6_formsFor_X6_forms : GoodIn wsX6_formsFor wsX6_forms := goodIn_r _ [5, 6, 7, 8, 9, 4, 10, 11, 12, 13, 14, 15, 16, 17, 18, 19, 20, 21, 22, 23, 24, 25, 26, 27, 28, 29, 30, 31, 32, 33, 34, 35, 36, 37, 38] (by decide +kernel) (by decide +kernel)
set_option maxRecDepth 20000 in
theorem gX6_formsFor_X6_forms : GoodIn wsX6_formsFor (wsV RX6 90 RX6 yX6_forms wsX6_forms) := goodIn_app (goodIn_of _ (by decide +kernel)) ggX6_formsFor_X6_forms
theorem dX6_formsFor_0 : decode cX6_formsFor 0 = .ok (.iload_n 2, 1) := by decide +kernel
theorem dX6_formsFor_1 : decode cX6_formsFor 1 = .ok (.ifCond .eq 8, 3) := by decide +kernel
theorem dX6_formsFor_4 : decode cX6_formsFor 4 = .ok (.aload_n 0, 1) := by decide +kernel
theorem dX6_formsFor_5 : decode cX6_formsFor 5 = .ok (.iload_n 1, 1) := by decide +kernel
theorem dX6_formsFor_6 : decode cX6_formsFor 6 = .ok (.invokevirtual 90, 3) := by decide +kernel
theorem dX6_formsFor_9 : decode cX6_formsFor 9 = .ok (.return_, 1) := by decide +kernel
set_option maxRecDepth 20000 in
theorem ggX6_entriesBy_X6_entries : GoodIn wsX6_entriesBy wsX6_entries := goodIn_r _ [5, 6, 14, 15, 16, 17, 18, 19, 20, 21, 22, 23, 24] (by decide +kernel) (by decide +kernel)
set_option maxRecDepth 20000 in
theorem gX6_entriesBy_X6_entries : GoodIn wsX6_entriesBy (wsV RX6 45 RX6 yX6_entries wsX6_entries) := goodIn_app (goodIn_of _ (by decide +kernel)) ggX6_entriesBy_X6_entries
set_option maxRecDepth 20000 in
theorem ggX6_entriesBy_X6_has : GoodIn wsX6_entriesBy wsX6_has := goodIn_r _ [9] (by decide +kernel) (by decide +kernel)
set_option maxRecDepth 20000 in
theorem gX6_entriesBy_X6_has : GoodIn wsX6_entriesBy (va_wsS RX6 49 yX6_has wsX6_has) := goodIn_app (goodIn_of _ (by decide +kernel)) ggX6_entriesBy_X6_has
set_option maxRecDepth 20000 in
theorem ggX6_entriesBy_X6_valueOf : GoodIn wsX6_entriesBy wsX6_valueOf := goodIn_r _ [13, 6, 1, 2, 3, 4, 5, 7, 8, 9, 14, 15, 16, 17, 18, 19, 20, 21, 22, 23, 24] (by decide +kernel) (by decide +kernel)
set_option maxRecDepth 20000 in
theorem gX6_entriesBy_X6_valueOf : GoodIn wsX6_entriesBy (wsV RX6 76 RX6 yX6_valueOf wsX6_valueOf) := goodIn_app (goodIn_of _ (by decide +kernel)) ggX6_entriesBy_X6_valueOf
theorem dX6_entriesBy_0 : decode cX6_entriesBy 0 = .ok (.iconst 0, 1) := by decide +kernel
theorem dX6_entriesBy_1 : decode cX6_entriesBy 1 = .ok (.istore 4, 2) := by decide +kernel
theorem dX6_entriesBy_3 : decode cX6_entriesBy 3 = .ok (.iconst 0, 1) := by decide +kernel
theorem dX6_entriesBy_4 : decode cX6_entriesBy 4 = .ok (.istore 5, 2) := by decide +kernel
theorem dX6_entriesBy_6 : decode cX6_entriesBy 6 = .ok (.iload 5, 2) := by decide +kernel
theorem dX6_entriesBy_8 : decode cX6_entriesBy 8 = .ok (.bipush 16, 2) := by decide +kernel
theorem dX6_entriesBy_10 : decode cX6_entriesBy 10 = .ok (.if_icmp .ge 50, 3) := by decide +kernel
theorem dX6_entriesBy_13 : decode cX6_entriesBy 13 = .ok (.iload 4, 2) := by decide +kernel
theorem dX6_entriesBy_15 : decode cX6_entriesBy 15 = .ok (.iload_n 3, 1) := by decide +kernel
theorem dX6_entriesBy_16 : decode cX6_entriesBy 16 = .ok (.ifCond .ne 16, 3) := by decide +kernel
theorem dX6_entriesBy_19 : decode cX6_entriesBy 19 = .ok (.aload_n 0, 1) := by decide +kernel
theorem dX6_entriesBy_20 : decode cX6_entriesBy 20 = .ok (.iload_n 1, 1) := by decide +kernel
theorem dX6_entriesBy_21 : decode cX6_entriesBy 21 = .ok (.invokevirtual 45, 3) := by decide +kernel
theorem dX6_entriesBy_24 : decode cX6_entriesBy 24 = .ok (.iload 5, 2) := by decide +kernel
theorem dX6_entriesBy_26 : decode cX6_entriesBy 26 = .ok (.invokestatic 49, 3) := by decide +kernel
theorem dX6_entriesBy_29 : decode cX6_entriesBy 29 = .ok (.ifCond .eq 21, 3) := by decide +kernel
theorem dX6_entriesBy_32 : decode cX6_entriesBy 32 = .ok (.aload_n 0, 1) := by decide +kernel
theorem dX6_entriesBy_33 : decode cX6_entriesBy 33 = .ok (.iload_n 1, 1) := by decide +kernel
theorem dX6_entriesBy_34 : decode cX6_entriesBy 34 = .ok (.iload 5, 2) := by decide +kernel
theorem dX6_entriesBy_36 : decode cX6_entriesBy 36 = .ok (.invokevirtual 76, 3) := by decide +kernel
theorem dX6_entriesBy_39 : decode cX6_entriesBy 39 = .ok (.iload_n 2, 1) := by decide +kernel
theorem dX6_entriesBy_40 : decode cX6_entriesBy 40 = .ok (.if_icmp .eq 10, 3) := by decide +kernel
theorem dX6_entriesBy_43 : decode cX6_entriesBy 43 = .ok (.iconst 1, 1) := by decide +kernel
theorem dX6_entriesBy_44 : decode cX6_entriesBy 44 = .ok (.iload 5, 2) := by decide +kernel
theorem dX6_entriesBy_46 : decode cX6_entriesBy 46 = .ok (.ishl, 1) := by decide +kernel
theorem dX6_entriesBy_47 : decode cX6_entriesBy 47 = .ok (.goto 4, 3) := by decide +kernel
theorem dX6_entriesBy_50 : decode cX6_entriesBy 50 = .ok (.iconst 0, 1) := by decide +kernel
theorem dX6_entriesBy_51 : decode cX6_entriesBy 51 = .ok (.ior, 1) := by decide +kernel
theorem dX6_entriesBy_52 : decode cX6_entriesBy 52 = .ok (.istore 4, 2) := by decide +kernel
theorem dX6_entriesBy_54 : decode cX6_entriesBy 54 = .ok (.iinc 5 1, 3) := by decide +kernel
theorem dX6_entriesBy_57 : decode cX6_entriesBy 57 = .ok (.goto (-51), 3) := by decide +kernel
theorem dX6_entriesBy_60 : decode cX6_entriesBy 60 = .ok (.iload 4, 2) := by decide +kernel
theorem dX6_entriesBy_62 : decode cX6_entriesBy 62 = .ok (.ireturn, 1) := by decide +kernel
set_option maxRecDepth 20000 in
theorem ggX6_setDefault_X6_isRow : GoodIn wsX6_setDefault wsX6_isRow := goodIn_r _ [6, 1, 7, 8, 5, 9, 78, 79, 80, 81, 82, 83, 84, 85, 86, 87, 88] (by decide +kernel) (by decide +kernel)
set_option maxRecDepth 20000 in
theorem gX6_setDefault_X6_isRow : GoodIn wsX6_setDefault (wsV RX6 72 RX6 yX6_isRow wsX6_isRow) := goodIn_app (goodIn_of _ (by decide +kernel)) ggX6_setDefault_X6_isRow
set_option maxRecDepth 20000 in
theorem ggX6_setDefault_X6_in : GoodIn wsX6_setDefault wsX6_in := goodIn_r _ [9] (by decide +kernel) (by decide +kernel)
set_option maxRecDepth 20000 in
theorem gX6_setDefault_X6_in : GoodIn wsX6_setDefault (va_wsS RX6 28 yX6_in wsX6_in) := goodIn_app (goodIn_of _ (by decide +kernel)) ggX6_setDefault_X6_in
set_option maxRecDepth 20000 in
theorem ggX6_setDefault_X6_remember : GoodIn wsX6_setDefault wsX6_remember := goodIn_r _ [13, 14, 15, 16, 5, 17, 18, 1, 19, 20, 21, 22, 23, 24, 25, 78, 79, 80, 81, 82, 83, 84, 85, 86, 87, 88] (by decide +kernel) (by decide +kernel)
set_option maxRecDepth 20000 in
theorem gX6_setDefault_X6_remember : GoodIn wsX6_setDefault (wsV RX6 65 RX6 yX6_remember wsX6_remember) := goodIn_app (goodIn_of _ (by decide +kernel)) ggX6_setDefault_X6_remember
set_option maxRecDepth 20000 in
theorem ggX6_setDefault_X6_entriesBy : GoodIn wsX6_setDefault wsX6_entriesBy := goodIn_r _ [29, 30, 31, 32, 5, 33, 1, 34, 35, 36, 37, 38, 39, 40, 78, 79, 80, 81, 82, 83, 84, 85, 86, 87, 88] (by decide +kernel) (by decide +kernel)
set_option maxRecDepth 20000 in
theorem gX6_setDefault_X6_entriesBy : GoodIn wsX6_setDefault (wsV RX6 93 RX6 yX6_entriesBy wsX6_entriesBy) := goodIn_app (goodIn_of _ (by decide +kernel)) ggX6_setDefault_X6_entriesBy
set_option maxRecDepth 20000 in
theorem ggX6_setDefault_X6_entries : GoodIn wsX6_setDefault wsX6_entries := goodIn_r _ [33, 1, 78, 79, 80, 81, 82, 83, 84, 85, 86, 87, 88] (by decide +kernel) (by decide +kernel)
set_option maxRecDepth 20000 in
theorem gX6_setDefault_X6_entries : GoodIn wsX6_setDefault (wsV RX6 45 RX6 yX6_entries wsX6_entries) := goodIn_app (goodIn_of _ (by decide +kernel)) ggX6_setDefault_X6_entries
set_option maxRecDepth 20000 in
theorem ggX6_setDefault_X6_leavesFor : GoodIn wsX6_setDefault wsX6_leavesFor := goodIn_r _ [44, 45, 46, 47, 5, 48, 1, 49, 50, 51, 52, 78, 79, 80, 81, 82, 83, 84, 85, 86, 87, 88] (by decide +kernel) (by decide +kernel)
set_option maxRecDepth 20000 in
theorem gX6_setDefault_X6_leavesFor : GoodIn wsX6_setDefault (wsV RX6 80 RX6 yX6_leavesFor wsX6_leavesFor) := goodIn_app (goodIn_of _ (by decide +kernel)) ggX6_setDefault_X6_leavesFor
set_option maxRecDepth 20000 in
theorem ggX6_setDefault_X6_formsFor : GoodIn wsX6_setDefault wsX6_formsFor := goodIn_r _ [56, 57, 58, 59, 5, 60, 1, 61, 62, 63, 64, 30, 31, 32, 33, 34, 35, 36, 65, 66, 67, 68, 69, 70, 71, 72, 73, 74, 78, 79, 80, 81, 82, 83, 84, 85, 86, 87, 88] (by decide +kernel) (by decide +kernel)
set_option maxRecDepth 20000 in
theorem gX6_setDefault_X6_formsFor : GoodIn wsX6_setDefault (wsV RX6 84 RX6 yX6_formsFor wsX6_formsFor) := goodIn_app (goodIn_of _ (by decide +kernel)) ggX6_setDefault_X6_formsFor
set_option maxRecDepth 20000 in
theorem ggX6_setDefault_X6_bits : GoodIn wsX6_setDefault wsX6_bits := goodIn_r _ [77] (by decide +kernel) (by decide +kernel)
set_option maxRecDepth 20000 in
theorem gX6_setDefault_X6_bits : GoodIn wsX6_setDefault (va_wsS RX6 97 yX6_bits wsX6_bits) := goodIn_app (goodIn_of _ (by decide +kernel)) ggX6_setDefault_X6_bits
theorem dX6_setDefault_0 : decode cX6_setDefault 0 = .ok (.aload_n 0, 1) := by decide +kernel
theorem dX6_setDefault_1 : decode cX6_setDefault 1 = .ok (.iload_n 1, 1) := by decide +kernel
theorem dX6_setDefault_2 : decode cX6_setDefault 2 = .ok (.invokevirtual 72, 3) := by decide +kernel
theorem dX6_setDefault_5 : decode cX6_setDefault 5 = .ok (.ifCond .eq 13, 3) := by decide +kernel
theorem dX6_setDefault_8 : decode cX6_setDefault 8 = .ok (.iload_n 2, 1) := by decide +kernel
theorem dX6_setDefault_9 : decode cX6_setDefault 9 = .ok (.iconst 0, 1) := by decide +kernel
theorem dX6_setDefault_10 : decode cX6_setDefault 10 = .ok (.bipush 99, 2) := by decide +kernel
theorem dX6_setDefault_12 : decode cX6_setDefault 12 = .ok (.invokestatic 28, 3) := by decide +kernel
theorem dX6_setDefault_15 : decode cX6_setDefault 15 = .ok (.ifCond .ne 5, 3) := by decide +kernel
theorem dX6_setDefault_18 : decode cX6_setDefault 18 = .ok (.iconst (-1), 1) := by decide +kernel
theorem dX6_setDefault_19 : decode cX6_setDefault 19 = .ok (.ireturn, 1) := by decide +kernel
theorem dX6_setDefault_20 : decode cX6_setDefault 20 = .ok (.aload_n 0, 1) := by decide +kernel
theorem dX6_setDefault_21 : decode cX6_setDefault 21 = .ok (.invokevirtual 65, 3) := by decide +kernel
theorem dX6_setDefault_24 : decode cX6_setDefault 24 = .ok (.aload_n 0, 1) := by decide +kernel
theorem dX6_setDefault_25 : decode cX6_setDefault 25 = .ok (.iload_n 1, 1) := by decide +kernel
theorem dX6_setDefault_26 : decode cX6_setDefault 26 = .ok (.iload_n 2, 1) := by decide +kernel
theorem dX6_setDefault_27 : decode cX6_setDefault 27 = .ok (.iconst 0, 1) := by decide +kernel
theorem dX6_setDefault_28 : decode cX6_setDefault 28 = .ok (.invokevirtual 93, 3) := by decide +kernel
theorem dX6_setDefault_31 : decode cX6_setDefault 31 = .ok (.istore_n 3, 1) := by decide +kernel
theorem dX6_setDefault_32 : decode cX6_setDefault 32 = .ok (.iload_n 3, 1) := by decide +kernel
theorem dX6_setDefault_33 : decode cX6_setDefault 33 = .ok (.aload_n 0, 1) := by decide +kernel
theorem dX6_setDefault_34 : decode cX6_setDefault 34 = .ok (.iload_n 1, 1) := by decide +kernel
theorem dX6_setDefault_35 : decode cX6_setDefault 35 = .ok (.invokevirtual 45, 3) := by decide +kernel
theorem dX6_setDefault_38 : decode cX6_setDefault 38 = .ok (.if_icmp .eq 7, 3) := by decide +kernel
theorem dX6_setDefault_41 : decode cX6_setDefault 41 = .ok (.iconst 1, 1) := by decide +kernel
theorem dX6_setDefault_42 : decode cX6_setDefault 42 = .ok (.goto 4, 3) := by decide +kernel
theorem dX6_setDefault_45 : decode cX6_setDefault 45 = .ok (.iconst 0, 1) := by decide +kernel
theorem dX6_setDefault_46 : decode cX6_setDefault 46 = .ok (.istore 4, 2) := by decide +kernel
theorem dX6_setDefault_48 : decode cX6_setDefault 48 = .ok (.aload_n 0, 1) := by decide +kernel
theorem dX6_setDefault_49 : decode cX6_setDefault 49 = .ok (.iload_n 1, 1) := by decide +kernel
theorem dX6_setDefault_50 : decode cX6_setDefault 50 = .ok (.iload 4, 2) := by decide +kernel
theorem dX6_setDefault_52 : decode cX6_setDefault 52 = .ok (.invokevirtual 80, 3) := by decide +kernel
theorem dX6_setDefault_55 : decode cX6_setDefault 55 = .ok (.aload_n 0, 1) := by decide +kernel
theorem dX6_setDefault_56 : decode cX6_setDefault 56 = .ok (.getfield 7, 3) := by decide +kernel
theorem dX6_setDefault_59 : decode cX6_setDefault 59 = .ok (.bipush 25, 2) := by decide +kernel
theorem dX6_setDefault_61 : decode cX6_setDefault 61 = .ok (.iload_n 1, 1) := by decide +kernel
theorem dX6_setDefault_62 : decode cX6_setDefault 62 = .ok (.iadd, 1) := by decide +kernel
theorem dX6_setDefault_63 : decode cX6_setDefault 63 = .ok (.iload_n 3, 1) := by decide +kernel
theorem dX6_setDefault_64 : decode cX6_setDefault 64 = .ok (.iastore, 1) := by decide +kernel
theorem dX6_setDefault_65 : decode cX6_setDefault 65 = .ok (.aload_n 0, 1) := by decide +kernel
theorem dX6_setDefault_66 : decode cX6_setDefault 66 = .ok (.getfield 7, 3) := by decide +kernel
theorem dX6_setDefault_69 : decode cX6_setDefault 69 = .ok (.iconst 1, 1) := by decide +kernel
theorem dX6_setDefault_70 : decode cX6_setDefault 70 = .ok (.iload_n 1, 1) := by decide +kernel
theorem dX6_setDefault_71 : decode cX6_setDefault 71 = .ok (.iadd, 1) := by decide +kernel
theorem dX6_setDefault_72 : decode cX6_setDefault 72 = .ok (.iload_n 2, 1) := by decide +kernel
theorem dX6_setDefault_73 : decode cX6_setDefault 73 = .ok (.iastore, 1) := by decide +kernel
theorem dX6_setDefault_74 : decode cX6_setDefault 74 = .ok (.aload_n 0, 1) := by decide +kernel
theorem dX6_setDefault_75 : decode cX6_setDefault 75 = .ok (.iload_n 1, 1) := by decide +kernel
theorem dX6_setDefault_76 : decode cX6_setDefault 76 = .ok (.iload 4, 2) := by decide +kernel
theorem dX6_setDefault_78 : decode cX6_setDefault 78 = .ok (.invokevirtual 84, 3) := by decide +kernel
theorem dX6_setDefault_81 : decode cX6_setDefault 81 = .ok (.iload_n 3, 1) := by decide +kernel
theorem dX6_setDefault_82 : decode cX6_setDefault 82 = .ok (.invokestatic 97, 3) := by decide +kernel
theorem dX6_setDefault_85 : decode cX6_setDefault 85 = .ok (.ireturn, 1) := by decide +kernel
set_option maxRecDepth 20000 in
theorem ggX6_removeLast_X6_remember : GoodIn wsX6_removeLast wsX6_remember := goodIn_r _ [6, 7, 8, 9, 5, 10, 11, 1, 12, 13, 14, 15, 16, 17, 18, 27, 28, 29, 30, 31, 32, 33, 34, 35, 36, 37] (by decide +kernel) (by decide +kernel)
set_option maxRecDepth 20000 in
theorem gX6_removeLast_X6_remember : GoodIn wsX6_removeLast (wsV RX6 65 RX6 yX6_remember wsX6_remember) := goodIn_app (goodIn_of _ (by decide +kernel)) ggX6_removeLast_X6_remember
set_option maxRecDepth 20000 in
theorem ggX6_removeLast_X6_leaves : GoodIn wsX6_removeLast wsX6_leaves := goodIn_r _ [22, 1, 23, 24, 25, 5, 26, 27, 28, 29, 30, 31, 32, 33, 34, 35, 36, 37] (by decide +kernel) (by decide +kernel)
set_option maxRecDepth 20000 in
theorem gX6_removeLast_X6_leaves : GoodIn wsX6_removeLast (wsV RX6 87 RX6 yX6_leaves wsX6_leaves) := goodIn_app (goodIn_of _ (by decide +kernel)) ggX6_removeLast_X6_leaves
theorem dX6_removeLast_0 : decode cX6_removeLast 0 = .ok (.aload_n 0, 1) := by decide +kernel
theorem dX6_removeLast_1 : decode cX6_removeLast 1 = .ok (.getfield 7, 3) := by decide +kernel
theorem dX6_removeLast_4 : decode cX6_removeLast 4 = .ok (.iconst 0, 1) := by decide +kernel
theorem dX6_removeLast_5 : decode cX6_removeLast 5 = .ok (.iaload, 1) := by decide +kernel
theorem dX6_removeLast_6 : decode cX6_removeLast 6 = .ok (.ifCond .ne 6, 3) := by decide +kernel
theorem dX6_removeLast_9 : decode cX6_removeLast 9 = .ok (.bipush (-2), 2) := by decide +kernel
theorem dX6_removeLast_11 : decode cX6_removeLast 11 = .ok (.ireturn, 1) := by decide +kernel
theorem dX6_removeLast_12 : decode cX6_removeLast 12 = .ok (.aload_n 0, 1) := by decide +kernel
theorem dX6_removeLast_13 : decode cX6_removeLast 13 = .ok (.invokevirtual 65, 3) := by decide +kernel
theorem dX6_removeLast_16 : decode cX6_removeLast 16 = .ok (.aload_n 0, 1) := by decide +kernel
theorem dX6_removeLast_17 : decode cX6_removeLast 17 = .ok (.aload_n 0, 1) := by decide +kernel
theorem dX6_removeLast_18 : decode cX6_removeLast 18 = .ok (.getfield 7, 3) := by decide +kernel
theorem dX6_removeLast_21 : decode cX6_removeLast 21 = .ok (.iconst 0, 1) := by decide +kernel
theorem dX6_removeLast_22 : decode cX6_removeLast 22 = .ok (.iaload, 1) := by decide +kernel
theorem dX6_removeLast_23 : decode cX6_removeLast 23 = .ok (.iconst 1, 1) := by decide +kernel
theorem dX6_removeLast_24 : decode cX6_removeLast 24 = .ok (.isub, 1) := by decide +kernel
theorem dX6_removeLast_25 : decode cX6_removeLast 25 = .ok (.invokevirtual 87, 3) := by decide +kernel
theorem dX6_removeLast_28 : decode cX6_removeLast 28 = .ok (.aload_n 0, 1) := by decide +kernel
theorem dX6_removeLast_29 : decode cX6_removeLast 29 = .ok (.getfield 7, 3) := by decide +kernel
theorem dX6_removeLast_32 : decode cX6_removeLast 32 = .ok (.iconst 0, 1) := by decide +kernel
theorem dX6_removeLast_33 : decode cX6_removeLast 33 = .ok (.dup2, 1) := by decide +kernel
theorem dX6_removeLast_34 : decode cX6_removeLast 34 = .ok (.iaload, 1) := by decide +kernel
theorem dX6_removeLast_35 : decode cX6_removeLast 35 = .ok (.iconst 1, 1) := by decide +kernel
theorem dX6_removeLast_36 : decode cX6_removeLast 36 = .ok (.isub, 1) := by decide +kernel
theorem dX6_removeLast_37 : decode cX6_removeLast 37 = .ok (.iastore, 1) := by decide +kernel
theorem dX6_removeLast_38 : decode cX6_removeLast 38 = .ok (.aload_n 0, 1) := by decide +kernel
theorem dX6_removeLast_39 : decode cX6_removeLast 39 = .ok (.getfield 7, 3) := by decide +kernel
theorem dX6_removeLast_42 : decode cX6_removeLast 42 = .ok (.iconst 0, 1) := by decide +kernel
theorem dX6_removeLast_43 : decode cX6_removeLast 43 = .ok (.iaload, 1) := by decide +kernel
theorem dX6_removeLast_44 : decode cX6_removeLast 44 = .ok (.ireturn, 1) := by decide +kernel
set_option maxRecDepth 20000 in
theorem ggX6_most_X6_valueOf : GoodIn wsX6_most wsX6_valueOf := goodIn_r _ [5, 6, 7, 8, 9, 4, 10, 11, 12, 13, 14, 15, 16, 17, 18, 19, 20, 21, 22, 23, 24] (by decide +kernel) (by decide +kernel)
set_option maxRecDepth 20000 in
theorem gX6_most_X6_valueOf : GoodIn wsX6_most (wsV RX6 76 RX6 yX6_valueOf wsX6_valueOf) := goodIn_app (goodIn_of _ (by decide +kernel)) ggX6_most_X6_valueOf
theorem dX6_most_0 : decode cX6_most 0 = .ok (.iconst 0, 1) := by decide +kernel
theorem dX6_most_1 : decode cX6_most 1 = .ok (.istore_n 2, 1) := by decide +kernel
theorem dX6_most_2 : decode cX6_most 2 = .ok (.iconst 0, 1) := by decide +kernel
theorem dX6_most_3 : decode cX6_most 3 = .ok (.istore_n 3, 1) := by decide +kernel
theorem dX6_most_4 : decode cX6_most 4 = .ok (.iconst 0, 1) := by decide +kernel
theorem dX6_most_5 : decode cX6_most 5 = .ok (.istore 4, 2) := by decide +kernel
theorem dX6_most_7 : decode cX6_most 7 = .ok (.iload 4, 2) := by decide +kernel
theorem dX6_most_9 : decode cX6_most 9 = .ok (.bipush 99, 2) := by decide +kernel
theorem dX6_most_11 : decode cX6_most 11 = .ok (.if_icmp .gt 76, 3) := by decide +kernel
theorem dX6_most_14 : decode cX6_most 14 = .ok (.iconst 0, 1) := by decide +kernel
theorem dX6_most_15 : decode cX6_most 15 = .ok (.istore 5, 2) := by decide +kernel
theorem dX6_most_17 : decode cX6_most 17 = .ok (.iconst 0, 1) := by decide +kernel
theorem dX6_most_18 : decode cX6_most 18 = .ok (.istore 6, 2) := by decide +kernel
theorem dX6_most_20 : decode cX6_most 20 = .ok (.iload 6, 2) := by decide +kernel
theorem dX6_most_22 : decode cX6_most 22 = .ok (.bipush 16, 2) := by decide +kernel
theorem dX6_most_24 : decode cX6_most 24 = .ok (.if_icmp .ge 31, 3) := by decide +kernel
theorem dX6_most_27 : decode cX6_most 27 = .ok (.iload 5, 2) := by decide +kernel
theorem dX6_most_29 : decode cX6_most 29 = .ok (.aload_n 0, 1) := by decide +kernel
theorem dX6_most_30 : decode cX6_most 30 = .ok (.iload_n 1, 1) := by decide +kernel
theorem dX6_most_31 : decode cX6_most 31 = .ok (.iload 6, 2) := by decide +kernel
theorem dX6_most_33 : decode cX6_most 33 = .ok (.invokevirtual 76, 3) := by decide +kernel
theorem dX6_most_36 : decode cX6_most 36 = .ok (.iload 4, 2) := by decide +kernel
theorem dX6_most_38 : decode cX6_most 38 = .ok (.if_icmp .ne 7, 3) := by decide +kernel
theorem dX6_most_41 : decode cX6_most 41 = .ok (.iconst 1, 1) := by decide +kernel
theorem dX6_most_42 : decode cX6_most 42 = .ok (.goto 4, 3) := by decide +kernel
theorem dX6_most_45 : decode cX6_most 45 = .ok (.iconst 0, 1) := by decide +kernel
theorem dX6_most_46 : decode cX6_most 46 = .ok (.iadd, 1) := by decide +kernel
theorem dX6_most_47 : decode cX6_most 47 = .ok (.istore 5, 2) := by decide +kernel
theorem dX6_most_49 : decode cX6_most 49 = .ok (.iinc 6 1, 3) := by decide +kernel
theorem dX6_most_52 : decode cX6_most 52 = .ok (.goto (-32), 3) := by decide +kernel
theorem dX6_most_55 : decode cX6_most 55 = .ok (.iload 5, 2) := by decide +kernel
theorem dX6_most_57 : decode cX6_most 57 = .ok (.iload_n 3, 1) := by decide +kernel
theorem dX6_most_58 : decode cX6_most 58 = .ok (.if_icmp .le 8, 3) := by decide +kernel
theorem dX6_most_61 : decode cX6_most 61 = .ok (.iload 4, 2) := by decide +kernel
theorem dX6_most_63 : decode cX6_most 63 = .ok (.goto 4, 3) := by decide +kernel
theorem dX6_most_66 : decode cX6_most 66 = .ok (.iload_n 2, 1) := by decide +kernel
theorem dX6_most_67 : decode cX6_most 67 = .ok (.istore_n 2, 1) := by decide +kernel
theorem dX6_most_68 : decode cX6_most 68 = .ok (.iload 5, 2) := by decide +kernel
theorem dX6_most_70 : decode cX6_most 70 = .ok (.iload_n 3, 1) := by decide +kernel
theorem dX6_most_71 : decode cX6_most 71 = .ok (.if_icmp .le 8, 3) := by decide +kernel
theorem dX6_most_74 : decode cX6_most 74 = .ok (.iload 5, 2) := by decide +kernel
theorem dX6_most_76 : decode cX6_most 76 = .ok (.goto 4, 3) := by decide +kernel
theorem dX6_most_79 : decode cX6_most 79 = .ok (.iload_n 3, 1) := by decide +kernel
theorem dX6_most_80 : decode cX6_most 80 = .ok (.istore_n 3, 1) := by decide +kernel
theorem dX6_most_81 : decode cX6_most 81 = .ok (.iinc 4 1, 3) := by decide +kernel
theorem dX6_most_84 : decode cX6_most 84 = .ok (.goto (-77), 3) := by decide +kernel
theorem dX6_most_87 : decode cX6_most 87 = .ok (.iload_n 2, 1) := by decide +kernel
theorem dX6_most_88 : decode cX6_most 88 = .ok (.ireturn, 1) := by decide +kernel
set_option maxRecDepth 20000 in
theorem ggX6_slim_X6_isRow : GoodIn wsX6_slim wsX6_isRow := goodIn_r _ [6, 1, 7, 8, 5, 9, 79, 80, 81, 82, 83, 84, 85, 86, 87, 88, 89] (by decide +kernel) (by decide +kernel)
set_option maxRecDepth 20000 in
theorem gX6_slim_X6_isRow : GoodIn wsX6_slim (wsV RX6 72 RX6 yX6_isRow wsX6_isRow) := goodIn_app (goodIn_of _ (by decide +kernel)) ggX6_slim_X6_isRow
set_option maxRecDepth 20000 in
theorem ggX6_slim_X6_remember : GoodIn wsX6_slim wsX6_remember := goodIn_r _ [13, 14, 15, 16, 5, 17, 18, 1, 19, 20, 21, 22, 23, 24, 25, 79, 80, 81, 82, 83, 84, 85, 86, 87, 88, 89] (by decide +kernel) (by decide +kernel)
set_option maxRecDepth 20000 in
theorem gX6_slim_X6_remember : GoodIn wsX6_slim (wsV RX6 65 RX6 yX6_remember wsX6_remember) := goodIn_app (goodIn_of _ (by decide +kernel)) ggX6_slim_X6_remember
set_option maxRecDepth 20000 in
theorem ggX6_slim_X6_most : GoodIn wsX6_slim wsX6_most := goodIn_r _ [29, 30, 31, 32, 5, 33, 1, 34, 35, 36, 37, 38, 39, 40, 79, 80, 81, 82, 83, 84, 85, 86, 87, 88, 89] (by decide +kernel) (by decide +kernel)
set_option maxRecDepth 20000 in
theorem gX6_slim_X6_most : GoodIn wsX6_slim (wsV RX6 100 RX6 yX6_most wsX6_most) := goodIn_app (goodIn_of _ (by decide +kernel)) ggX6_slim_X6_most
set_option maxRecDepth 20000 in
theorem ggX6_slim_X6_entriesBy : GoodIn wsX6_slim wsX6_entriesBy := goodIn_r _ [44, 34, 35, 36, 5, 37, 1, 38, 39, 40, 30, 31, 32, 33, 79, 80, 81, 82, 83, 84, 85, 86, 87, 88, 89] (by decide +kernel) (by decide +kernel)
set_option maxRecDepth 20000 in
theorem gX6_slim_X6_entriesBy : GoodIn wsX6_slim (wsV RX6 93 RX6 yX6_entriesBy wsX6_entriesBy) := goodIn_app (goodIn_of _ (by decide +kernel)) ggX6_slim_X6_entriesBy
set_option maxRecDepth 20000 in
theorem ggX6_slim_X6_entries : GoodIn wsX6_slim wsX6_entries := goodIn_r _ [37, 1, 79, 80, 81, 82, 83, 84, 85, 86, 87, 88, 89] (by decide +kernel) (by decide +kernel)
set_option maxRecDepth 20000 in
theorem gX6_slim_X6_entries : GoodIn wsX6_slim (wsV RX6 45 RX6 yX6_entries wsX6_entries) := goodIn_app (goodIn_of _ (by decide +kernel)) ggX6_slim_X6_entries
set_option maxRecDepth 20000 in
theorem ggX6_slim_X6_leavesFor : GoodIn wsX6_slim wsX6_leavesFor := goodIn_r _ [48, 49, 50, 51, 5, 52, 1, 53, 54, 55, 56, 79, 80, 81, 82, 83, 84, 85, 86, 87, 88, 89] (by decide +kernel) (by decide +kernel)
set_option maxRecDepth 20000 in
theorem gX6_slim_X6_leavesFor : GoodIn wsX6_slim (wsV RX6 80 RX6 yX6_leavesFor wsX6_leavesFor) := goodIn_app (goodIn_of _ (by decide +kernel)) ggX6_slim_X6_leavesFor
set_option maxRecDepth 20000 in
theorem ggX6_slim_X6_valueOf : GoodIn wsX6_slim wsX6_valueOf := goodIn_r _ [33, 1, 34, 35, 36, 5, 37, 38, 39, 40, 79, 80, 81, 82, 83, 84, 85, 86, 87, 88, 89] (by decide +kernel) (by decide +kernel)
set_option maxRecDepth 20000 in
theorem gX6_slim_X6_valueOf : GoodIn wsX6_slim (wsV RX6 76 RX6 yX6_valueOf wsX6_valueOf) := goodIn_app (goodIn_of _ (by decide +kernel)) ggX6_slim_X6_valueOf
set_option maxRecDepth 20000 in
theorem ggX6_slim_X6_formsFor : GoodIn wsX6_slim wsX6_formsFor := goodIn_r _ [60, 61, 62, 63, 5, 64, 1, 65, 66, 67, 68, 34, 35, 36, 37, 38, 39, 40, 69, 70, 71, 72, 73, 74, 75, 76, 77, 78, 79, 80, 81, 82, 83, 84, 85, 86, 87, 88, 89] (by decide +kernel) (by decide +kernel)
set_option maxRecDepth 20000 in
theorem gX6_slim_X6_formsFor : GoodIn wsX6_slim (wsV RX6 84 RX6 yX6_formsFor wsX6_formsFor) := goodIn_app (goodIn_of _ (by decide +kernel)) ggX6_slim_X6_formsFor
theorem dX6_slim_0 : decode cX6_slim 0 = .ok (.aload_n 0, 1) := by decide +kernel
theorem dX6_slim_1 : decode cX6_slim 1 = .ok (.iload_n 1, 1) := by decide +kernel
theorem dX6_slim_2 : decode cX6_slim 2 = .ok (.invokevirtual 72, 3) := by decide +kernel
theorem dX6_slim_5 : decode cX6_slim 5 = .ok (.ifCond .ne 5, 3) := by decide +kernel
theorem dX6_slim_8 : decode cX6_slim 8 = .ok (.iconst (-1), 1) := by decide +kernel
theorem dX6_slim_9 : decode cX6_slim 9 = .ok (.ireturn, 1) := by decide +kernel
theorem dX6_slim_10 : decode cX6_slim 10 = .ok (.aload_n 0, 1) := by decide +kernel
theorem dX6_slim_11 : decode cX6_slim 11 = .ok (.invokevirtual 65, 3) := by decide +kernel
theorem dX6_slim_14 : decode cX6_slim 14 = .ok (.aload_n 0, 1) := by decide +kernel
theorem dX6_slim_15 : decode cX6_slim 15 = .ok (.iload_n 1, 1) := by decide +kernel
theorem dX6_slim_16 : decode cX6_slim 16 = .ok (.invokevirtual 100, 3) := by decide +kernel
theorem dX6_slim_19 : decode cX6_slim 19 = .ok (.istore_n 2, 1) := by decide +kernel
theorem dX6_slim_20 : decode cX6_slim 20 = .ok (.aload_n 0, 1) := by decide +kernel
theorem dX6_slim_21 : decode cX6_slim 21 = .ok (.iload_n 1, 1) := by decide +kernel
theorem dX6_slim_22 : decode cX6_slim 22 = .ok (.iload_n 2, 1) := by decide +kernel
theorem dX6_slim_23 : decode cX6_slim 23 = .ok (.iconst 1, 1) := by decide +kernel
theorem dX6_slim_24 : decode cX6_slim 24 = .ok (.invokevirtual 93, 3) := by decide +kernel
theorem dX6_slim_27 : decode cX6_slim 27 = .ok (.istore_n 3, 1) := by decide +kernel
theorem dX6_slim_28 : decode cX6_slim 28 = .ok (.iload_n 3, 1) := by decide +kernel
theorem dX6_slim_29 : decode cX6_slim 29 = .ok (.aload_n 0, 1) := by decide +kernel
theorem dX6_slim_30 : decode cX6_slim 30 = .ok (.iload_n 1, 1) := by decide +kernel
theorem dX6_slim_31 : decode cX6_slim 31 = .ok (.invokevirtual 45, 3) := by decide +kernel
theorem dX6_slim_34 : decode cX6_slim 34 = .ok (.if_icmp .eq 7, 3) := by decide +kernel
theorem dX6_slim_37 : decode cX6_slim 37 = .ok (.iconst 1, 1) := by decide +kernel
theorem dX6_slim_38 : decode cX6_slim 38 = .ok (.goto 4, 3) := by decide +kernel
theorem dX6_slim_41 : decode cX6_slim 41 = .ok (.iconst 0, 1) := by decide +kernel
theorem dX6_slim_42 : decode cX6_slim 42 = .ok (.istore 4, 2) := by decide +kernel
theorem dX6_slim_44 : decode cX6_slim 44 = .ok (.aload_n 0, 1) := by decide +kernel
theorem dX6_slim_45 : decode cX6_slim 45 = .ok (.iload_n 1, 1) := by decide +kernel
theorem dX6_slim_46 : decode cX6_slim 46 = .ok (.iload 4, 2) := by decide +kernel
theorem dX6_slim_48 : decode cX6_slim 48 = .ok (.invokevirtual 80, 3) := by decide +kernel
theorem dX6_slim_51 : decode cX6_slim 51 = .ok (.iconst 0, 1) := by decide +kernel
theorem dX6_slim_52 : decode cX6_slim 52 = .ok (.istore 5, 2) := by decide +kernel
theorem dX6_slim_54 : decode cX6_slim 54 = .ok (.iload 5, 2) := by decide +kernel
theorem dX6_slim_56 : decode cX6_slim 56 = .ok (.bipush 16, 2) := by decide +kernel
theorem dX6_slim_58 : decode cX6_slim 58 = .ok (.if_icmp .ge 31, 3) := by decide +kernel
theorem dX6_slim_61 : decode cX6_slim 61 = .ok (.aload_n 0, 1) := by decide +kernel
theorem dX6_slim_62 : decode cX6_slim 62 = .ok (.getfield 7, 3) := by decide +kernel
theorem dX6_slim_65 : decode cX6_slim 65 = .ok (.bipush 73, 2) := by decide +kernel
theorem dX6_slim_67 : decode cX6_slim 67 = .ok (.bipush 16, 2) := by decide +kernel
theorem dX6_slim_69 : decode cX6_slim 69 = .ok (.iload_n 1, 1) := by decide +kernel
theorem dX6_slim_70 : decode cX6_slim 70 = .ok (.imul, 1) := by decide +kernel
theorem dX6_slim_71 : decode cX6_slim 71 = .ok (.iadd, 1) := by decide +kernel
theorem dX6_slim_72 : decode cX6_slim 72 = .ok (.iload 5, 2) := by decide +kernel
theorem dX6_slim_74 : decode cX6_slim 74 = .ok (.iadd, 1) := by decide +kernel
theorem dX6_slim_75 : decode cX6_slim 75 = .ok (.aload_n 0, 1) := by decide +kernel
theorem dX6_slim_76 : decode cX6_slim 76 = .ok (.iload_n 1, 1) := by decide +kernel
theorem dX6_slim_77 : decode cX6_slim 77 = .ok (.iload 5, 2) := by decide +kernel
theorem dX6_slim_79 : decode cX6_slim 79 = .ok (.invokevirtual 76, 3) := by decide +kernel
theorem dX6_slim_82 : decode cX6_slim 82 = .ok (.iastore, 1) := by decide +kernel
theorem dX6_slim_83 : decode cX6_slim 83 = .ok (.iinc 5 1, 3) := by decide +kernel
theorem dX6_slim_86 : decode cX6_slim 86 = .ok (.goto (-32), 3) := by decide +kernel
theorem dX6_slim_89 : decode cX6_slim 89 = .ok (.aload_n 0, 1) := by decide +kernel
theorem dX6_slim_90 : decode cX6_slim 90 = .ok (.getfield 7, 3) := by decide +kernel
theorem dX6_slim_93 : decode cX6_slim 93 = .ok (.bipush 25, 2) := by decide +kernel
theorem dX6_slim_95 : decode cX6_slim 95 = .ok (.iload_n 1, 1) := by decide +kernel
theorem dX6_slim_96 : decode cX6_slim 96 = .ok (.iadd, 1) := by decide +kernel
theorem dX6_slim_97 : decode cX6_slim 97 = .ok (.iload_n 3, 1) := by decide +kernel
theorem dX6_slim_98 : decode cX6_slim 98 = .ok (.iastore, 1) := by decide +kernel
theorem dX6_slim_99 : decode cX6_slim 99 = .ok (.aload_n 0, 1) := by decide +kernel
theorem dX6_slim_100 : decode cX6_slim 100 = .ok (.getfield 7, 3) := by decide +kernel
theorem dX6_slim_103 : decode cX6_slim 103 = .ok (.iconst 1, 1) := by decide +kernel
theorem dX6_slim_104 : decode cX6_slim 104 = .ok (.iload_n 1, 1) := by decide +kernel
theorem dX6_slim_105 : decode cX6_slim 105 = .ok (.iadd, 1) := by decide +kernel
theorem dX6_slim_106 : decode cX6_slim 106 = .ok (.iload_n 2, 1) := by decide +kernel
theorem dX6_slim_107 : decode cX6_slim 107 = .ok (.iastore, 1) := by decide +kernel
theorem dX6_slim_108 : decode cX6_slim 108 = .ok (.aload_n 0, 1) := by decide +kernel
theorem dX6_slim_109 : decode cX6_slim 109 = .ok (.iload_n 1, 1) := by decide +kernel
theorem dX6_slim_110 : decode cX6_slim 110 = .ok (.iload 4, 2) := by decide +kernel
theorem dX6_slim_112 : decode cX6_slim 112 = .ok (.invokevirtual 84, 3) := by decide +kernel
theorem dX6_slim_115 : decode cX6_slim 115 = .ok (.iload_n 2, 1) := by decide +kernel
theorem dX6_slim_116 : decode cX6_slim 116 = .ok (.ireturn, 1) := by decide +kernel
set_option maxRecDepth 20000 in
theorem ggX6_pushes_X6_entries : GoodIn wsX6_pushes wsX6_entries := goodIn_r _ [6, 1, 31, 32, 33, 34, 35, 36, 37, 38, 39, 40, 41] (by decide +kernel) (by decide +kernel)
end
section
set_option maxRecDepth 20000 in
theorem gX6_pushes_X6_entries : GoodIn wsX6_pushes (wsV RX6 45 RX6 yX6_entries wsX6_entries) := goodIn_app (goodIn_of _ (by decide +kernel)) ggX6_pushes_X6_entries
set_option maxRecDepth 20000 in
theorem ggX6_pushes_X6_bits : GoodIn wsX6_pushes wsX6_bits := goodIn_r _ [9] (by decide +kernel) (by decide +kernel)
set_option maxRecDepth 20000 in
theorem gX6_pushes_X6_bits : GoodIn wsX6_pushes (va_wsS RX6 97 yX6_bits wsX6_bits) := goodIn_app (goodIn_of _ (by decide +kernel)) ggX6_pushes_X6_bits
set_option maxRecDepth 20000 in
theorem ggX6_pushes_X6_forms : GoodIn wsX6_pushes wsX6_forms := goodIn_r _ [13, 1, 14, 15, 16, 5, 17, 2, 3, 4, 6, 18, 19, 20, 21, 22, 23, 24, 25, 26, 27, 28, 29, 30, 31, 32, 33, 34, 35, 36, 37, 38, 39, 40, 41] (by decide +kernel) (by decide +kernel)
set_option maxRecDepth 20000 in
theorem gX6_pushes_X6_forms : GoodIn wsX6_pushes (wsV RX6 90 RX6 yX6_forms wsX6_forms) := goodIn_app (goodIn_of _ (by decide +kernel)) ggX6_pushes_X6_forms
theorem dX6_pushes_0 : decode cX6_pushes 0 = .ok (.iconst 0, 1) := by decide +kernel
theorem dX6_pushes_1 : decode cX6_pushes 1 = .ok (.istore_n 2, 1) := by decide +kernel
theorem dX6_pushes_2 : decode cX6_pushes 2 = .ok (.iload_n 2, 1) := by decide +kernel
theorem dX6_pushes_3 : decode cX6_pushes 3 = .ok (.bipush 24, 2) := by decide +kernel
theorem dX6_pushes_5 : decode cX6_pushes 5 = .ok (.if_icmp .ge 30, 3) := by decide +kernel
theorem dX6_pushes_8 : decode cX6_pushes 8 = .ok (.aload_n 0, 1) := by decide +kernel
theorem dX6_pushes_9 : decode cX6_pushes 9 = .ok (.getfield 7, 3) := by decide +kernel
theorem dX6_pushes_12 : decode cX6_pushes 12 = .ok (.sipush 457, 3) := by decide +kernel
theorem dX6_pushes_15 : decode cX6_pushes 15 = .ok (.iload_n 2, 1) := by decide +kernel
theorem dX6_pushes_16 : decode cX6_pushes 16 = .ok (.iadd, 1) := by decide +kernel
theorem dX6_pushes_17 : decode cX6_pushes 17 = .ok (.iconst (-1), 1) := by decide +kernel
theorem dX6_pushes_18 : decode cX6_pushes 18 = .ok (.iastore, 1) := by decide +kernel
theorem dX6_pushes_19 : decode cX6_pushes 19 = .ok (.aload_n 0, 1) := by decide +kernel
theorem dX6_pushes_20 : decode cX6_pushes 20 = .ok (.getfield 7, 3) := by decide +kernel
theorem dX6_pushes_23 : decode cX6_pushes 23 = .ok (.bipush 49, 2) := by decide +kernel
theorem dX6_pushes_25 : decode cX6_pushes 25 = .ok (.iload_n 2, 1) := by decide +kernel
theorem dX6_pushes_26 : decode cX6_pushes 26 = .ok (.iadd, 1) := by decide +kernel
theorem dX6_pushes_27 : decode cX6_pushes 27 = .ok (.iconst (-1), 1) := by decide +kernel
theorem dX6_pushes_28 : decode cX6_pushes 28 = .ok (.iastore, 1) := by decide +kernel
theorem dX6_pushes_29 : decode cX6_pushes 29 = .ok (.iinc 2 1, 3) := by decide +kernel
theorem dX6_pushes_32 : decode cX6_pushes 32 = .ok (.goto (-30), 3) := by decide +kernel
theorem dX6_pushes_35 : decode cX6_pushes 35 = .ok (.bipush 16, 2) := by decide +kernel
theorem dX6_pushes_37 : decode cX6_pushes 37 = .ok (.istore_n 2, 1) := by decide +kernel
theorem dX6_pushes_38 : decode cX6_pushes 38 = .ok (.iload_n 2, 1) := by decide +kernel
theorem dX6_pushes_39 : decode cX6_pushes 39 = .ok (.ifCond .le 57, 3) := by decide +kernel
theorem dX6_pushes_42 : decode cX6_pushes 42 = .ok (.iconst 0, 1) := by decide +kernel
theorem dX6_pushes_43 : decode cX6_pushes 43 = .ok (.istore_n 3, 1) := by decide +kernel
theorem dX6_pushes_44 : decode cX6_pushes 44 = .ok (.iload_n 3, 1) := by decide +kernel
theorem dX6_pushes_45 : decode cX6_pushes 45 = .ok (.aload_n 0, 1) := by decide +kernel
theorem dX6_pushes_46 : decode cX6_pushes 46 = .ok (.getfield 7, 3) := by decide +kernel
theorem dX6_pushes_49 : decode cX6_pushes 49 = .ok (.iconst 0, 1) := by decide +kernel
theorem dX6_pushes_50 : decode cX6_pushes 50 = .ok (.iaload, 1) := by decide +kernel
theorem dX6_pushes_51 : decode cX6_pushes 51 = .ok (.if_icmp .ge 39, 3) := by decide +kernel
theorem dX6_pushes_54 : decode cX6_pushes 54 = .ok (.iload_n 1, 1) := by decide +kernel
theorem dX6_pushes_55 : decode cX6_pushes 55 = .ok (.ifCond .eq 18, 3) := by decide +kernel
theorem dX6_pushes_58 : decode cX6_pushes 58 = .ok (.aload_n 0, 1) := by decide +kernel
theorem dX6_pushes_59 : decode cX6_pushes 59 = .ok (.iload_n 3, 1) := by decide +kernel
theorem dX6_pushes_60 : decode cX6_pushes 60 = .ok (.invokevirtual 45, 3) := by decide +kernel
theorem dX6_pushes_63 : decode cX6_pushes 63 = .ok (.invokestatic 97, 3) := by decide +kernel
theorem dX6_pushes_66 : decode cX6_pushes 66 = .ok (.iload_n 2, 1) := by decide +kernel
theorem dX6_pushes_67 : decode cX6_pushes 67 = .ok (.if_icmp .ne 17, 3) := by decide +kernel
theorem dX6_pushes_70 : decode cX6_pushes 70 = .ok (.goto 9, 3) := by decide +kernel
theorem dX6_pushes_73 : decode cX6_pushes 73 = .ok (.iload_n 2, 1) := by decide +kernel
theorem dX6_pushes_74 : decode cX6_pushes 74 = .ok (.bipush 16, 2) := by decide +kernel
theorem dX6_pushes_76 : decode cX6_pushes 76 = .ok (.if_icmp .ne 8, 3) := by decide +kernel
theorem dX6_pushes_79 : decode cX6_pushes 79 = .ok (.aload_n 0, 1) := by decide +kernel
theorem dX6_pushes_80 : decode cX6_pushes 80 = .ok (.iload_n 3, 1) := by decide +kernel
theorem dX6_pushes_81 : decode cX6_pushes 81 = .ok (.invokevirtual 90, 3) := by decide +kernel
theorem dX6_pushes_84 : decode cX6_pushes 84 = .ok (.iinc 3 1, 3) := by decide +kernel
theorem dX6_pushes_87 : decode cX6_pushes 87 = .ok (.goto (-43), 3) := by decide +kernel
theorem dX6_pushes_90 : decode cX6_pushes 90 = .ok (.iinc 2 (-1), 3) := by decide +kernel
theorem dX6_pushes_93 : decode cX6_pushes 93 = .ok (.goto (-55), 3) := by decide +kernel
theorem dX6_pushes_96 : decode cX6_pushes 96 = .ok (.return_, 1) := by decide +kernel
set_option maxRecDepth 20000 in
theorem ggX6_end_X6_layStore : GoodIn wsX6_end wsX6_layStore := goodIn_r _ [6, 1, 7, 8, 9, 10, 11, 5, 12, 13, 14, 15, 16, 17, 18, 19, 20, 21, 22, 23, 24, 25, 26] (by decide +kernel) (by decide +kernel)
set_option maxRecDepth 20000 in
theorem gX6_end_X6_layStore : GoodIn wsX6_end (wsV RX6 56 RX6 yX6_layStore wsX6_layStore) := goodIn_app (goodIn_of _ (by decide +kernel)) ggX6_end_X6_layStore
theorem dX6_end_0 : decode cX6_end 0 = .ok (.aload_n 0, 1) := by decide +kernel
theorem dX6_end_1 : decode cX6_end 1 = .ok (.invokevirtual 56, 3) := by decide +kernel
theorem dX6_end_4 : decode cX6_end 4 = .ok (.iconst 0, 1) := by decide +kernel
theorem dX6_end_5 : decode cX6_end 5 = .ok (.istore_n 1, 1) := by decide +kernel
theorem dX6_end_6 : decode cX6_end 6 = .ok (.iconst 0, 1) := by decide +kernel
theorem dX6_end_7 : decode cX6_end 7 = .ok (.istore_n 2, 1) := by decide +kernel
theorem dX6_end_8 : decode cX6_end 8 = .ok (.iload_n 2, 1) := by decide +kernel
theorem dX6_end_9 : decode cX6_end 9 = .ok (.sipush 800, 3) := by decide +kernel
theorem dX6_end_12 : decode cX6_end 12 = .ok (.if_icmp .ge 27, 3) := by decide +kernel
theorem dX6_end_15 : decode cX6_end 15 = .ok (.aload_n 0, 1) := by decide +kernel
theorem dX6_end_16 : decode cX6_end 16 = .ok (.getfield 19, 3) := by decide +kernel
theorem dX6_end_19 : decode cX6_end 19 = .ok (.iload_n 2, 1) := by decide +kernel
theorem dX6_end_20 : decode cX6_end 20 = .ok (.iaload, 1) := by decide +kernel
theorem dX6_end_21 : decode cX6_end 21 = .ok (.iconst (-1), 1) := by decide +kernel
theorem dX6_end_22 : decode cX6_end 22 = .ok (.if_icmp .ne 7, 3) := by decide +kernel
theorem dX6_end_25 : decode cX6_end 25 = .ok (.iload_n 1, 1) := by decide +kernel
theorem dX6_end_26 : decode cX6_end 26 = .ok (.goto 6, 3) := by decide +kernel
theorem dX6_end_29 : decode cX6_end 29 = .ok (.iload_n 2, 1) := by decide +kernel
theorem dX6_end_30 : decode cX6_end 30 = .ok (.iconst 1, 1) := by decide +kernel
theorem dX6_end_31 : decode cX6_end 31 = .ok (.iadd, 1) := by decide +kernel
theorem dX6_end_32 : decode cX6_end 32 = .ok (.istore_n 1, 1) := by decide +kernel
theorem dX6_end_33 : decode cX6_end 33 = .ok (.iinc 2 1, 3) := by decide +kernel
theorem dX6_end_36 : decode cX6_end 36 = .ok (.goto (-28), 3) := by decide +kernel
theorem dX6_end_39 : decode cX6_end 39 = .ok (.iload_n 1, 1) := by decide +kernel
theorem dX6_end_40 : decode cX6_end 40 = .ok (.ireturn, 1) := by decide +kernel
set_option maxRecDepth 20000 in
theorem ggX6_push_X6_remember : GoodIn wsX6_push wsX6_remember := goodIn_r _ [5, 6, 7, 8, 4, 9, 10, 11, 12, 13, 14, 15, 16, 17, 18, 55, 56, 57, 58, 59, 60, 61, 62, 63, 64, 65] (by decide +kernel) (by decide +kernel)
set_option maxRecDepth 20000 in
theorem gX6_push_X6_remember : GoodIn wsX6_push (wsV RX6 65 RX6 yX6_remember wsX6_remember) := goodIn_app (goodIn_of _ (by decide +kernel)) ggX6_push_X6_remember
set_option maxRecDepth 20000 in
theorem ggX6_push_X6_pushes : GoodIn wsX6_push wsX6_pushes := goodIn_r _ [22, 11, 23, 24, 25, 4, 26, 27, 28, 29, 30, 31, 32, 33, 34, 35, 36, 37, 38, 39, 40, 41, 42, 43, 44, 45, 46, 47, 48, 49, 50, 55, 56, 57, 58, 59, 60, 61, 62, 63, 64, 65] (by decide +kernel) (by decide +kernel)
set_option maxRecDepth 20000 in
theorem gX6_push_X6_pushes : GoodIn wsX6_push (wsV RX6 103 RX6 yX6_pushes wsX6_pushes) := goodIn_app (goodIn_of _ (by decide +kernel)) ggX6_push_X6_pushes
set_option maxRecDepth 20000 in
theorem ggX6_push_X6_end : GoodIn wsX6_push wsX6_end := goodIn_r _ [54, 45, 41, 42, 43, 4, 44, 11, 46, 23, 24, 25, 26, 38, 39, 40, 55, 56, 57, 58, 59, 60, 61, 62, 63, 64, 65] (by decide +kernel) (by decide +kernel)
set_option maxRecDepth 20000 in
theorem gX6_push_X6_end : GoodIn wsX6_push (wsV RX6 107 RX6 yX6_end wsX6_end) := goodIn_app (goodIn_of _ (by decide +kernel)) ggX6_push_X6_end
theorem dX6_push_0 : decode cX6_push 0 = .ok (.aload_n 0, 1) := by decide +kernel
theorem dX6_push_1 : decode cX6_push 1 = .ok (.invokevirtual 65, 3) := by decide +kernel
theorem dX6_push_4 : decode cX6_push 4 = .ok (.aload_n 0, 1) := by decide +kernel
theorem dX6_push_5 : decode cX6_push 5 = .ok (.iconst 1, 1) := by decide +kernel
theorem dX6_push_6 : decode cX6_push 6 = .ok (.invokevirtual 103, 3) := by decide +kernel
theorem dX6_push_9 : decode cX6_push 9 = .ok (.aload_n 0, 1) := by decide +kernel
theorem dX6_push_10 : decode cX6_push 10 = .ok (.invokevirtual 107, 3) := by decide +kernel
theorem dX6_push_13 : decode cX6_push 13 = .ok (.ireturn, 1) := by decide +kernel
set_option maxRecDepth 20000 in
theorem ggX6_append_X6_in : GoodIn wsX6_append wsX6_in := goodIn_r _ [6] (by decide +kernel) (by decide +kernel)
set_option maxRecDepth 20000 in
theorem gX6_append_X6_in : GoodIn wsX6_append (va_wsS RX6 28 yX6_in wsX6_in) := goodIn_app (goodIn_of _ (by decide +kernel)) ggX6_append_X6_in
theorem dX6_append_0 : decode cX6_append 0 = .ok (.iload_n 1, 1) := by decide +kernel
theorem dX6_append_1 : decode cX6_append 1 = .ok (.iconst 1, 1) := by decide +kernel
theorem dX6_append_2 : decode cX6_append 2 = .ok (.sipush 255, 3) := by decide +kernel
theorem dX6_append_5 : decode cX6_append 5 = .ok (.invokestatic 28, 3) := by decide +kernel
theorem dX6_append_8 : decode cX6_append 8 = .ok (.ifCond .ne 5, 3) := by decide +kernel
theorem dX6_append_11 : decode cX6_append 11 = .ok (.iconst (-1), 1) := by decide +kernel
theorem dX6_append_12 : decode cX6_append 12 = .ok (.ireturn, 1) := by decide +kernel
theorem dX6_append_13 : decode cX6_append 13 = .ok (.aload_n 0, 1) := by decide +kernel
theorem dX6_append_14 : decode cX6_append 14 = .ok (.getfield 111, 3) := by decide +kernel
theorem dX6_append_17 : decode cX6_append 17 = .ok (.bipush 100, 2) := by decide +kernel
theorem dX6_append_19 : decode cX6_append 19 = .ok (.if_icmp .ne 6, 3) := by decide +kernel
theorem dX6_append_22 : decode cX6_append 22 = .ok (.bipush (-3), 2) := by decide +kernel
theorem dX6_append_24 : decode cX6_append 24 = .ok (.ireturn, 1) := by decide +kernel
theorem dX6_append_25 : decode cX6_append 25 = .ok (.aload_n 0, 1) := by decide +kernel
theorem dX6_append_26 : decode cX6_append 26 = .ok (.getfield 25, 3) := by decide +kernel
theorem dX6_append_29 : decode cX6_append 29 = .ok (.aload_n 0, 1) := by decide +kernel
theorem dX6_append_30 : decode cX6_append 30 = .ok (.getfield 111, 3) := by decide +kernel
theorem dX6_append_33 : decode cX6_append 33 = .ok (.iload_n 1, 1) := by decide +kernel
theorem dX6_append_34 : decode cX6_append 34 = .ok (.iastore, 1) := by decide +kernel
theorem dX6_append_35 : decode cX6_append 35 = .ok (.aload_n 0, 1) := by decide +kernel
theorem dX6_append_36 : decode cX6_append 36 = .ok (.dup, 1) := by decide +kernel
theorem dX6_append_37 : decode cX6_append 37 = .ok (.getfield 111, 3) := by decide +kernel
theorem dX6_append_40 : decode cX6_append 40 = .ok (.iconst 1, 1) := by decide +kernel
theorem dX6_append_41 : decode cX6_append 41 = .ok (.iadd, 1) := by decide +kernel
theorem dX6_append_42 : decode cX6_append 42 = .ok (.putfield 111, 3) := by decide +kernel
theorem dX6_append_45 : decode cX6_append 45 = .ok (.aload_n 0, 1) := by decide +kernel
theorem dX6_append_46 : decode cX6_append 46 = .ok (.getfield 111, 3) := by decide +kernel
theorem dX6_append_49 : decode cX6_append 49 = .ok (.ireturn, 1) := by decide +kernel
theorem dX6_clearText_0 : decode cX6_clearText 0 = .ok (.aload_n 0, 1) := by decide +kernel
theorem dX6_clearText_1 : decode cX6_clearText 1 = .ok (.getfield 111, 3) := by decide +kernel
theorem dX6_clearText_4 : decode cX6_clearText 4 = .ok (.istore_n 1, 1) := by decide +kernel
theorem dX6_clearText_5 : decode cX6_clearText 5 = .ok (.aload_n 0, 1) := by decide +kernel
theorem dX6_clearText_6 : decode cX6_clearText 6 = .ok (.iconst 0, 1) := by decide +kernel
theorem dX6_clearText_7 : decode cX6_clearText 7 = .ok (.putfield 111, 3) := by decide +kernel
theorem dX6_clearText_10 : decode cX6_clearText 10 = .ok (.iload_n 1, 1) := by decide +kernel
theorem dX6_clearText_11 : decode cX6_clearText 11 = .ok (.ireturn, 1) := by decide +kernel
theorem dX6_here_0 : decode cX6_here 0 = .ok (.aload_n 0, 1) := by decide +kernel
theorem dX6_here_1 : decode cX6_here 1 = .ok (.getfield 114, 3) := by decide +kernel
theorem dX6_here_4 : decode cX6_here 4 = .ok (.aload_n 0, 1) := by decide +kernel
theorem dX6_here_5 : decode cX6_here 5 = .ok (.getfield 111, 3) := by decide +kernel
theorem dX6_here_8 : decode cX6_here 8 = .ok (.if_icmp .ge 30, 3) := by decide +kernel
theorem dX6_here_11 : decode cX6_here 11 = .ok (.aload_n 0, 1) := by decide +kernel
theorem dX6_here_12 : decode cX6_here 12 = .ok (.getfield 25, 3) := by decide +kernel
theorem dX6_here_15 : decode cX6_here 15 = .ok (.aload_n 0, 1) := by decide +kernel
theorem dX6_here_16 : decode cX6_here 16 = .ok (.getfield 114, 3) := by decide +kernel
theorem dX6_here_19 : decode cX6_here 19 = .ok (.iaload, 1) := by decide +kernel
theorem dX6_here_20 : decode cX6_here 20 = .ok (.bipush 32, 2) := by decide +kernel
theorem dX6_here_22 : decode cX6_here 22 = .ok (.if_icmp .ne 16, 3) := by decide +kernel
theorem dX6_here_25 : decode cX6_here 25 = .ok (.aload_n 0, 1) := by decide +kernel
theorem dX6_here_26 : decode cX6_here 26 = .ok (.dup, 1) := by decide +kernel
theorem dX6_here_27 : decode cX6_here 27 = .ok (.getfield 114, 3) := by decide +kernel
theorem dX6_here_30 : decode cX6_here 30 = .ok (.iconst 1, 1) := by decide +kernel
theorem dX6_here_31 : decode cX6_here 31 = .ok (.iadd, 1) := by decide +kernel
theorem dX6_here_32 : decode cX6_here 32 = .ok (.putfield 114, 3) := by decide +kernel
theorem dX6_here_35 : decode cX6_here 35 = .ok (.goto (-35), 3) := by decide +kernel
theorem dX6_here_38 : decode cX6_here 38 = .ok (.aload_n 0, 1) := by decide +kernel
theorem dX6_here_39 : decode cX6_here 39 = .ok (.getfield 114, 3) := by decide +kernel
theorem dX6_here_42 : decode cX6_here 42 = .ok (.aload_n 0, 1) := by decide +kernel
theorem dX6_here_43 : decode cX6_here 43 = .ok (.getfield 111, 3) := by decide +kernel
theorem dX6_here_46 : decode cX6_here 46 = .ok (.if_icmp .ge 15, 3) := by decide +kernel
theorem dX6_here_49 : decode cX6_here 49 = .ok (.aload_n 0, 1) := by decide +kernel
theorem dX6_here_50 : decode cX6_here 50 = .ok (.getfield 25, 3) := by decide +kernel
theorem dX6_here_53 : decode cX6_here 53 = .ok (.aload_n 0, 1) := by decide +kernel
theorem dX6_here_54 : decode cX6_here 54 = .ok (.getfield 114, 3) := by decide +kernel
theorem dX6_here_57 : decode cX6_here 57 = .ok (.iaload, 1) := by decide +kernel
theorem dX6_here_58 : decode cX6_here 58 = .ok (.goto 4, 3) := by decide +kernel
theorem dX6_here_61 : decode cX6_here 61 = .ok (.iconst 0, 1) := by decide +kernel
theorem dX6_here_62 : decode cX6_here 62 = .ok (.ireturn, 1) := by decide +kernel
set_option maxRecDepth 20000 in
theorem ggX6_isDigit_X6_in : GoodIn wsX6_isDigit wsX6_in := goodIn_r _ [6] (by decide +kernel) (by decide +kernel)
set_option maxRecDepth 20000 in
theorem gX6_isDigit_X6_in : GoodIn wsX6_isDigit (va_wsS RX6 28 yX6_in wsX6_in) := goodIn_app (goodIn_of _ (by decide +kernel)) ggX6_isDigit_X6_in
theorem dX6_isDigit_0 : decode cX6_isDigit 0 = .ok (.iload_n 1, 1) := by decide +kernel
theorem dX6_isDigit_1 : decode cX6_isDigit 1 = .ok (.aload_n 0, 1) := by decide +kernel
theorem dX6_isDigit_2 : decode cX6_isDigit 2 = .ok (.getfield 111, 3) := by decide +kernel
theorem dX6_isDigit_5 : decode cX6_isDigit 5 = .ok (.if_icmp .ge 23, 3) := by decide +kernel
theorem dX6_isDigit_8 : decode cX6_isDigit 8 = .ok (.aload_n 0, 1) := by decide +kernel
theorem dX6_isDigit_9 : decode cX6_isDigit 9 = .ok (.getfield 25, 3) := by decide +kernel
theorem dX6_isDigit_12 : decode cX6_isDigit 12 = .ok (.iload_n 1, 1) := by decide +kernel
theorem dX6_isDigit_13 : decode cX6_isDigit 13 = .ok (.iaload, 1) := by decide +kernel
theorem dX6_isDigit_14 : decode cX6_isDigit 14 = .ok (.bipush 48, 2) := by decide +kernel
theorem dX6_isDigit_16 : decode cX6_isDigit 16 = .ok (.bipush 57, 2) := by decide +kernel
theorem dX6_isDigit_18 : decode cX6_isDigit 18 = .ok (.invokestatic 28, 3) := by decide +kernel
theorem dX6_isDigit_21 : decode cX6_isDigit 21 = .ok (.ifCond .eq 7, 3) := by decide +kernel
theorem dX6_isDigit_24 : decode cX6_isDigit 24 = .ok (.iconst 1, 1) := by decide +kernel
theorem dX6_isDigit_25 : decode cX6_isDigit 25 = .ok (.goto 4, 3) := by decide +kernel
theorem dX6_isDigit_28 : decode cX6_isDigit 28 = .ok (.iconst 0, 1) := by decide +kernel
theorem dX6_isDigit_29 : decode cX6_isDigit 29 = .ok (.ireturn, 1) := by decide +kernel
theorem dX6_fails_0 : decode cX6_fails 0 = .ok (.aload_n 0, 1) := by decide +kernel
theorem dX6_fails_1 : decode cX6_fails 1 = .ok (.iload_n 1, 1) := by decide +kernel
theorem dX6_fails_2 : decode cX6_fails 2 = .ok (.putfield 117, 3) := by decide +kernel
theorem dX6_fails_5 : decode cX6_fails 5 = .ok (.bipush (-9), 2) := by decide +kernel
theorem dX6_fails_7 : decode cX6_fails 7 = .ok (.ireturn, 1) := by decide +kernel
set_option maxRecDepth 20000 in
theorem ggX6_number_X6_here : GoodIn wsX6_number wsX6_here := goodIn_r _ [7, 1, 8, 2, 21, 22, 23, 24, 25, 26, 27, 28, 29, 30, 31] (by decide +kernel) (by decide +kernel)
set_option maxRecDepth 20000 in
theorem gX6_number_X6_here : GoodIn wsX6_number (wsV RX6 120 RX6 yX6_here wsX6_here) := goodIn_app (goodIn_of _ (by decide +kernel)) ggX6_number_X6_here
set_option maxRecDepth 20000 in
theorem ggX6_number_X6_isDigit : GoodIn wsX6_number wsX6_isDigit := goodIn_r _ [12, 8, 2, 13, 14, 6, 15, 21, 22, 23, 24, 25, 26, 27, 28, 29, 30, 31] (by decide +kernel) (by decide +kernel)
set_option maxRecDepth 20000 in
theorem gX6_number_X6_isDigit : GoodIn wsX6_number (wsV RX6 123 RX6 yX6_isDigit wsX6_isDigit) := goodIn_app (goodIn_of _ (by decide +kernel)) ggX6_number_X6_isDigit
set_option maxRecDepth 20000 in
theorem ggX6_number_X6_fails : GoodIn wsX6_number wsX6_fails := goodIn_r _ [19, 20, 21, 22, 23, 24, 25, 26, 27, 28, 29, 30, 31] (by decide +kernel) (by decide +kernel)
set_option maxRecDepth 20000 in
theorem gX6_number_X6_fails : GoodIn wsX6_number (wsV RX6 126 RX6 yX6_fails wsX6_fails) := goodIn_app (goodIn_of _ (by decide +kernel)) ggX6_number_X6_fails
theorem dX6_number_0 : decode cX6_number 0 = .ok (.aload_n 0, 1) := by decide +kernel
theorem dX6_number_1 : decode cX6_number 1 = .ok (.invokevirtual 120, 3) := by decide +kernel
theorem dX6_number_4 : decode cX6_number 4 = .ok (.pop, 1) := by decide +kernel
theorem dX6_number_5 : decode cX6_number 5 = .ok (.aload_n 0, 1) := by decide +kernel
theorem dX6_number_6 : decode cX6_number 6 = .ok (.aload_n 0, 1) := by decide +kernel
theorem dX6_number_7 : decode cX6_number 7 = .ok (.getfield 114, 3) := by decide +kernel
theorem dX6_number_10 : decode cX6_number 10 = .ok (.invokevirtual 123, 3) := by decide +kernel
theorem dX6_number_13 : decode cX6_number 13 = .ok (.ifCond .ne 12, 3) := by decide +kernel
theorem dX6_number_16 : decode cX6_number 16 = .ok (.aload_n 0, 1) := by decide +kernel
theorem dX6_number_17 : decode cX6_number 17 = .ok (.aload_n 0, 1) := by decide +kernel
theorem dX6_number_18 : decode cX6_number 18 = .ok (.getfield 114, 3) := by decide +kernel
theorem dX6_number_21 : decode cX6_number 21 = .ok (.invokevirtual 126, 3) := by decide +kernel
theorem dX6_number_24 : decode cX6_number 24 = .ok (.ireturn, 1) := by decide +kernel
theorem dX6_number_25 : decode cX6_number 25 = .ok (.aload_n 0, 1) := by decide +kernel
theorem dX6_number_26 : decode cX6_number 26 = .ok (.getfield 25, 3) := by decide +kernel
theorem dX6_number_29 : decode cX6_number 29 = .ok (.aload_n 0, 1) := by decide +kernel
theorem dX6_number_30 : decode cX6_number 30 = .ok (.getfield 114, 3) := by decide +kernel
theorem dX6_number_33 : decode cX6_number 33 = .ok (.iaload, 1) := by decide +kernel
theorem dX6_number_34 : decode cX6_number 34 = .ok (.bipush 48, 2) := by decide +kernel
theorem dX6_number_36 : decode cX6_number 36 = .ok (.isub, 1) := by decide +kernel
theorem dX6_number_37 : decode cX6_number 37 = .ok (.istore_n 1, 1) := by decide +kernel
theorem dX6_number_38 : decode cX6_number 38 = .ok (.aload_n 0, 1) := by decide +kernel
theorem dX6_number_39 : decode cX6_number 39 = .ok (.dup, 1) := by decide +kernel
theorem dX6_number_40 : decode cX6_number 40 = .ok (.getfield 114, 3) := by decide +kernel
theorem dX6_number_43 : decode cX6_number 43 = .ok (.iconst 1, 1) := by decide +kernel
theorem dX6_number_44 : decode cX6_number 44 = .ok (.iadd, 1) := by decide +kernel
theorem dX6_number_45 : decode cX6_number 45 = .ok (.putfield 114, 3) := by decide +kernel
theorem dX6_number_48 : decode cX6_number 48 = .ok (.iload_n 1, 1) := by decide +kernel
theorem dX6_number_49 : decode cX6_number 49 = .ok (.ifCond .le 42, 3) := by decide +kernel
theorem dX6_number_52 : decode cX6_number 52 = .ok (.aload_n 0, 1) := by decide +kernel
theorem dX6_number_53 : decode cX6_number 53 = .ok (.aload_n 0, 1) := by decide +kernel
theorem dX6_number_54 : decode cX6_number 54 = .ok (.getfield 114, 3) := by decide +kernel
theorem dX6_number_57 : decode cX6_number 57 = .ok (.invokevirtual 123, 3) := by decide +kernel
theorem dX6_number_60 : decode cX6_number 60 = .ok (.ifCond .eq 31, 3) := by decide +kernel
theorem dX6_number_63 : decode cX6_number 63 = .ok (.bipush 10, 2) := by decide +kernel
theorem dX6_number_65 : decode cX6_number 65 = .ok (.iload_n 1, 1) := by decide +kernel
theorem dX6_number_66 : decode cX6_number 66 = .ok (.imul, 1) := by decide +kernel
theorem dX6_number_67 : decode cX6_number 67 = .ok (.aload_n 0, 1) := by decide +kernel
theorem dX6_number_68 : decode cX6_number 68 = .ok (.getfield 25, 3) := by decide +kernel
theorem dX6_number_71 : decode cX6_number 71 = .ok (.aload_n 0, 1) := by decide +kernel
theorem dX6_number_72 : decode cX6_number 72 = .ok (.getfield 114, 3) := by decide +kernel
theorem dX6_number_75 : decode cX6_number 75 = .ok (.iaload, 1) := by decide +kernel
theorem dX6_number_76 : decode cX6_number 76 = .ok (.iadd, 1) := by decide +kernel
theorem dX6_number_77 : decode cX6_number 77 = .ok (.bipush 48, 2) := by decide +kernel
theorem dX6_number_79 : decode cX6_number 79 = .ok (.isub, 1) := by decide +kernel
theorem dX6_number_80 : decode cX6_number 80 = .ok (.istore_n 1, 1) := by decide +kernel
theorem dX6_number_81 : decode cX6_number 81 = .ok (.aload_n 0, 1) := by decide +kernel
theorem dX6_number_82 : decode cX6_number 82 = .ok (.dup, 1) := by decide +kernel
theorem dX6_number_83 : decode cX6_number 83 = .ok (.getfield 114, 3) := by decide +kernel
theorem dX6_number_86 : decode cX6_number 86 = .ok (.iconst 1, 1) := by decide +kernel
theorem dX6_number_87 : decode cX6_number 87 = .ok (.iadd, 1) := by decide +kernel
theorem dX6_number_88 : decode cX6_number 88 = .ok (.putfield 114, 3) := by decide +kernel
theorem dX6_number_91 : decode cX6_number 91 = .ok (.aload_n 0, 1) := by decide +kernel
theorem dX6_number_92 : decode cX6_number 92 = .ok (.aload_n 0, 1) := by decide +kernel
theorem dX6_number_93 : decode cX6_number 93 = .ok (.getfield 114, 3) := by decide +kernel
theorem dX6_number_96 : decode cX6_number 96 = .ok (.invokevirtual 123, 3) := by decide +kernel
theorem dX6_number_99 : decode cX6_number 99 = .ok (.ifCond .eq 14, 3) := by decide +kernel
theorem dX6_number_102 : decode cX6_number 102 = .ok (.aload_n 0, 1) := by decide +kernel
theorem dX6_number_103 : decode cX6_number 103 = .ok (.aload_n 0, 1) := by decide +kernel
theorem dX6_number_104 : decode cX6_number 104 = .ok (.getfield 114, 3) := by decide +kernel
theorem dX6_number_107 : decode cX6_number 107 = .ok (.invokevirtual 126, 3) := by decide +kernel
theorem dX6_number_110 : decode cX6_number 110 = .ok (.goto 4, 3) := by decide +kernel
theorem dX6_number_113 : decode cX6_number 113 = .ok (.iload_n 1, 1) := by decide +kernel
theorem dX6_number_114 : decode cX6_number 114 = .ok (.ireturn, 1) := by decide +kernel
set_option maxRecDepth 20000 in
theorem ggX6_sign_X6_here : GoodIn wsX6_sign wsX6_here := goodIn_r _ [6, 1, 7, 8, 14, 15, 16, 17, 18, 19, 20, 21, 22, 23, 24] (by decide +kernel) (by decide +kernel)
set_option maxRecDepth 20000 in
theorem gX6_sign_X6_here : GoodIn wsX6_sign (wsV RX6 120 RX6 yX6_here wsX6_here) := goodIn_app (goodIn_of _ (by decide +kernel)) ggX6_sign_X6_here
set_option maxRecDepth 20000 in
theorem ggX6_sign_X6_fails : GoodIn wsX6_sign wsX6_fails := goodIn_r _ [12, 13, 14, 15, 16, 17, 18, 19, 20, 21, 22, 23, 24] (by decide +kernel) (by decide +kernel)
set_option maxRecDepth 20000 in
theorem gX6_sign_X6_fails : GoodIn wsX6_sign (wsV RX6 126 RX6 yX6_fails wsX6_fails) := goodIn_app (goodIn_of _ (by decide +kernel)) ggX6_sign_X6_fails
theorem dX6_sign_0 : decode cX6_sign 0 = .ok (.aload_n 0, 1) := by decide +kernel
theorem dX6_sign_1 : decode cX6_sign 1 = .ok (.invokevirtual 120, 3) := by decide +kernel
theorem dX6_sign_4 : decode cX6_sign 4 = .ok (.iload_n 1, 1) := by decide +kernel
theorem dX6_sign_5 : decode cX6_sign 5 = .ok (.if_icmp .eq 14, 3) := by decide +kernel
theorem dX6_sign_8 : decode cX6_sign 8 = .ok (.aload_n 0, 1) := by decide +kernel
theorem dX6_sign_9 : decode cX6_sign 9 = .ok (.aload_n 0, 1) := by decide +kernel
theorem dX6_sign_10 : decode cX6_sign 10 = .ok (.getfield 114, 3) := by decide +kernel
theorem dX6_sign_13 : decode cX6_sign 13 = .ok (.invokevirtual 126, 3) := by decide +kernel
theorem dX6_sign_16 : decode cX6_sign 16 = .ok (.pop, 1) := by decide +kernel
theorem dX6_sign_17 : decode cX6_sign 17 = .ok (.iconst 0, 1) := by decide +kernel
theorem dX6_sign_18 : decode cX6_sign 18 = .ok (.ireturn, 1) := by decide +kernel
theorem dX6_sign_19 : decode cX6_sign 19 = .ok (.aload_n 0, 1) := by decide +kernel
theorem dX6_sign_20 : decode cX6_sign 20 = .ok (.dup, 1) := by decide +kernel
theorem dX6_sign_21 : decode cX6_sign 21 = .ok (.getfield 114, 3) := by decide +kernel
theorem dX6_sign_24 : decode cX6_sign 24 = .ok (.iconst 1, 1) := by decide +kernel
theorem dX6_sign_25 : decode cX6_sign 25 = .ok (.iadd, 1) := by decide +kernel
theorem dX6_sign_26 : decode cX6_sign 26 = .ok (.putfield 114, 3) := by decide +kernel
theorem dX6_sign_29 : decode cX6_sign 29 = .ok (.iconst 1, 1) := by decide +kernel
theorem dX6_sign_30 : decode cX6_sign 30 = .ok (.ireturn, 1) := by decide +kernel
set_option maxRecDepth 20000 in
theorem ggX6_entry_X6_here : GoodIn wsX6_entry wsX6_here := goodIn_r _ [7, 1, 8, 9, 30, 31, 32, 33, 34, 35, 36, 37, 38, 39, 40] (by decide +kernel) (by decide +kernel)
set_option maxRecDepth 20000 in
theorem gX6_entry_X6_here : GoodIn wsX6_entry (wsV RX6 120 RX6 yX6_here wsX6_here) := goodIn_app (goodIn_of _ (by decide +kernel)) ggX6_entry_X6_here
set_option maxRecDepth 20000 in
theorem ggX6_entry_X6_number : GoodIn wsX6_entry wsX6_number := goodIn_r _ [13, 1, 9, 3, 4, 5, 6, 7, 8, 14, 15, 16, 17, 18, 19, 20, 21, 22, 23, 24, 25, 30, 31, 32, 33, 34, 35, 36, 37, 38, 39, 40] (by decide +kernel) (by decide +kernel)
set_option maxRecDepth 20000 in
theorem gX6_entry_X6_number : GoodIn wsX6_entry (wsV RX6 129 RX6 yX6_number wsX6_number) := goodIn_app (goodIn_of _ (by decide +kernel)) ggX6_entry_X6_number
set_option maxRecDepth 20000 in
theorem ggX6_entry_X6_fails : GoodIn wsX6_entry wsX6_fails := goodIn_r _ [24, 25, 30, 31, 32, 33, 34, 35, 36, 37, 38, 39, 40] (by decide +kernel) (by decide +kernel)
set_option maxRecDepth 20000 in
theorem gX6_entry_X6_fails : GoodIn wsX6_entry (wsV RX6 126 RX6 yX6_fails wsX6_fails) := goodIn_app (goodIn_of _ (by decide +kernel)) ggX6_entry_X6_fails
set_option maxRecDepth 20000 in
theorem ggX6_entry_X6_sign : GoodIn wsX6_entry wsX6_sign := goodIn_r _ [29, 1, 3, 4, 5, 6, 7, 8, 9, 21, 22, 23, 24, 25, 30, 31, 32, 33, 34, 35, 36, 37, 38, 39, 40] (by decide +kernel) (by decide +kernel)
set_option maxRecDepth 20000 in
theorem gX6_entry_X6_sign : GoodIn wsX6_entry (wsV RX6 132 RX6 yX6_sign wsX6_sign) := goodIn_app (goodIn_of _ (by decide +kernel)) ggX6_entry_X6_sign
theorem dX6_entry_0 : decode cX6_entry 0 = .ok (.aload_n 0, 1) := by decide +kernel
theorem dX6_entry_1 : decode cX6_entry 1 = .ok (.invokevirtual 120, 3) := by decide +kernel
theorem dX6_entry_4 : decode cX6_entry 4 = .ok (.pop, 1) := by decide +kernel
theorem dX6_entry_5 : decode cX6_entry 5 = .ok (.aload_n 0, 1) := by decide +kernel
theorem dX6_entry_6 : decode cX6_entry 6 = .ok (.getfield 114, 3) := by decide +kernel
theorem dX6_entry_9 : decode cX6_entry 9 = .ok (.istore_n 3, 1) := by decide +kernel
theorem dX6_entry_10 : decode cX6_entry 10 = .ok (.aload_n 0, 1) := by decide +kernel
theorem dX6_entry_11 : decode cX6_entry 11 = .ok (.invokevirtual 129, 3) := by decide +kernel
theorem dX6_entry_14 : decode cX6_entry 14 = .ok (.istore 4, 2) := by decide +kernel
theorem dX6_entry_16 : decode cX6_entry 16 = .ok (.iload 4, 2) := by decide +kernel
theorem dX6_entry_18 : decode cX6_entry 18 = .ok (.bipush (-9), 2) := by decide +kernel
theorem dX6_entry_20 : decode cX6_entry 20 = .ok (.if_icmp .ne 6, 3) := by decide +kernel
theorem dX6_entry_23 : decode cX6_entry 23 = .ok (.bipush (-9), 2) := by decide +kernel
theorem dX6_entry_25 : decode cX6_entry 25 = .ok (.ireturn, 1) := by decide +kernel
theorem dX6_entry_26 : decode cX6_entry 26 = .ok (.iload 4, 2) := by decide +kernel
theorem dX6_entry_28 : decode cX6_entry 28 = .ok (.iload_n 2, 1) := by decide +kernel
theorem dX6_entry_29 : decode cX6_entry 29 = .ok (.if_icmp .le 10, 3) := by decide +kernel
theorem dX6_entry_32 : decode cX6_entry 32 = .ok (.iload 4, 2) := by decide +kernel
theorem dX6_entry_34 : decode cX6_entry 34 = .ok (.bipush 16, 2) := by decide +kernel
theorem dX6_entry_36 : decode cX6_entry 36 = .ok (.if_icmp .lt 9, 3) := by decide +kernel
theorem dX6_entry_39 : decode cX6_entry 39 = .ok (.aload_n 0, 1) := by decide +kernel
theorem dX6_entry_40 : decode cX6_entry 40 = .ok (.iload_n 3, 1) := by decide +kernel
theorem dX6_entry_41 : decode cX6_entry 41 = .ok (.invokevirtual 126, 3) := by decide +kernel
theorem dX6_entry_44 : decode cX6_entry 44 = .ok (.ireturn, 1) := by decide +kernel
theorem dX6_entry_45 : decode cX6_entry 45 = .ok (.aload_n 0, 1) := by decide +kernel
theorem dX6_entry_46 : decode cX6_entry 46 = .ok (.bipush 61, 2) := by decide +kernel
theorem dX6_entry_48 : decode cX6_entry 48 = .ok (.invokevirtual 132, 3) := by decide +kernel
theorem dX6_entry_51 : decode cX6_entry 51 = .ok (.ifCond .ne 6, 3) := by decide +kernel
theorem dX6_entry_54 : decode cX6_entry 54 = .ok (.bipush (-9), 2) := by decide +kernel
theorem dX6_entry_56 : decode cX6_entry 56 = .ok (.ireturn, 1) := by decide +kernel
theorem dX6_entry_57 : decode cX6_entry 57 = .ok (.aload_n 0, 1) := by decide +kernel
theorem dX6_entry_58 : decode cX6_entry 58 = .ok (.invokevirtual 120, 3) := by decide +kernel
theorem dX6_entry_61 : decode cX6_entry 61 = .ok (.pop, 1) := by decide +kernel
theorem dX6_entry_62 : decode cX6_entry 62 = .ok (.aload_n 0, 1) := by decide +kernel
theorem dX6_entry_63 : decode cX6_entry 63 = .ok (.getfield 114, 3) := by decide +kernel
theorem dX6_entry_66 : decode cX6_entry 66 = .ok (.istore_n 3, 1) := by decide +kernel
theorem dX6_entry_67 : decode cX6_entry 67 = .ok (.aload_n 0, 1) := by decide +kernel
theorem dX6_entry_68 : decode cX6_entry 68 = .ok (.invokevirtual 129, 3) := by decide +kernel
theorem dX6_entry_71 : decode cX6_entry 71 = .ok (.istore 5, 2) := by decide +kernel
theorem dX6_entry_73 : decode cX6_entry 73 = .ok (.iload 5, 2) := by decide +kernel
theorem dX6_entry_75 : decode cX6_entry 75 = .ok (.bipush (-9), 2) := by decide +kernel
theorem dX6_entry_77 : decode cX6_entry 77 = .ok (.if_icmp .ne 6, 3) := by decide +kernel
theorem dX6_entry_80 : decode cX6_entry 80 = .ok (.bipush (-9), 2) := by decide +kernel
theorem dX6_entry_82 : decode cX6_entry 82 = .ok (.ireturn, 1) := by decide +kernel
theorem dX6_entry_83 : decode cX6_entry 83 = .ok (.iload 5, 2) := by decide +kernel
theorem dX6_entry_85 : decode cX6_entry 85 = .ok (.aload_n 0, 1) := by decide +kernel
theorem dX6_entry_86 : decode cX6_entry 86 = .ok (.getfield 7, 3) := by decide +kernel
theorem dX6_entry_89 : decode cX6_entry 89 = .ok (.iconst 1, 1) := by decide +kernel
theorem dX6_entry_90 : decode cX6_entry 90 = .ok (.iload_n 1, 1) := by decide +kernel
theorem dX6_entry_91 : decode cX6_entry 91 = .ok (.iadd, 1) := by decide +kernel
theorem dX6_entry_92 : decode cX6_entry 92 = .ok (.iaload, 1) := by decide +kernel
theorem dX6_entry_93 : decode cX6_entry 93 = .ok (.if_icmp .ne 9, 3) := by decide +kernel
theorem dX6_entry_96 : decode cX6_entry 96 = .ok (.aload_n 0, 1) := by decide +kernel
theorem dX6_entry_97 : decode cX6_entry 97 = .ok (.iload_n 3, 1) := by decide +kernel
theorem dX6_entry_98 : decode cX6_entry 98 = .ok (.invokevirtual 126, 3) := by decide +kernel
theorem dX6_entry_101 : decode cX6_entry 101 = .ok (.ireturn, 1) := by decide +kernel
theorem dX6_entry_102 : decode cX6_entry 102 = .ok (.aload_n 0, 1) := by decide +kernel
theorem dX6_entry_103 : decode cX6_entry 103 = .ok (.getfield 7, 3) := by decide +kernel
theorem dX6_entry_106 : decode cX6_entry 106 = .ok (.bipush 25, 2) := by decide +kernel
theorem dX6_entry_108 : decode cX6_entry 108 = .ok (.iload_n 1, 1) := by decide +kernel
theorem dX6_entry_109 : decode cX6_entry 109 = .ok (.iadd, 1) := by decide +kernel
theorem dX6_entry_110 : decode cX6_entry 110 = .ok (.dup2, 1) := by decide +kernel
theorem dX6_entry_111 : decode cX6_entry 111 = .ok (.iaload, 1) := by decide +kernel
theorem dX6_entry_112 : decode cX6_entry 112 = .ok (.iconst 1, 1) := by decide +kernel
theorem dX6_entry_113 : decode cX6_entry 113 = .ok (.iload 4, 2) := by decide +kernel
theorem dX6_entry_115 : decode cX6_entry 115 = .ok (.ishl, 1) := by decide +kernel
theorem dX6_entry_116 : decode cX6_entry 116 = .ok (.ior, 1) := by decide +kernel
theorem dX6_entry_117 : decode cX6_entry 117 = .ok (.iastore, 1) := by decide +kernel
theorem dX6_entry_118 : decode cX6_entry 118 = .ok (.aload_n 0, 1) := by decide +kernel
theorem dX6_entry_119 : decode cX6_entry 119 = .ok (.getfield 7, 3) := by decide +kernel
theorem dX6_entry_122 : decode cX6_entry 122 = .ok (.bipush 73, 2) := by decide +kernel
theorem dX6_entry_124 : decode cX6_entry 124 = .ok (.bipush 16, 2) := by decide +kernel
theorem dX6_entry_126 : decode cX6_entry 126 = .ok (.iload_n 1, 1) := by decide +kernel
theorem dX6_entry_127 : decode cX6_entry 127 = .ok (.imul, 1) := by decide +kernel
theorem dX6_entry_128 : decode cX6_entry 128 = .ok (.iadd, 1) := by decide +kernel
theorem dX6_entry_129 : decode cX6_entry 129 = .ok (.iload 4, 2) := by decide +kernel
theorem dX6_entry_131 : decode cX6_entry 131 = .ok (.iadd, 1) := by decide +kernel
theorem dX6_entry_132 : decode cX6_entry 132 = .ok (.iload 5, 2) := by decide +kernel
theorem dX6_entry_134 : decode cX6_entry 134 = .ok (.iastore, 1) := by decide +kernel
theorem dX6_entry_135 : decode cX6_entry 135 = .ok (.iload 4, 2) := by decide +kernel
theorem dX6_entry_137 : decode cX6_entry 137 = .ok (.ireturn, 1) := by decide +kernel
set_option maxRecDepth 20000 in
theorem ggX6_rowRead_X6_fails : GoodIn wsX6_rowRead wsX6_fails := goodIn_r _ [7, 8, 63, 64, 65, 66, 67, 68, 69, 70, 71, 72, 73] (by decide +kernel) (by decide +kernel)
set_option maxRecDepth 20000 in
theorem gX6_rowRead_X6_fails : GoodIn wsX6_rowRead (wsV RX6 126 RX6 yX6_fails wsX6_fails) := goodIn_app (goodIn_of _ (by decide +kernel)) ggX6_rowRead_X6_fails
set_option maxRecDepth 20000 in
theorem ggX6_rowRead_X6_isDigit : GoodIn wsX6_rowRead wsX6_isDigit := goodIn_r _ [12, 13, 14, 15, 16, 6, 17, 63, 64, 65, 66, 67, 68, 69, 70, 71, 72, 73] (by decide +kernel) (by decide +kernel)
set_option maxRecDepth 20000 in
theorem gX6_rowRead_X6_isDigit : GoodIn wsX6_rowRead (wsV RX6 123 RX6 yX6_isDigit wsX6_isDigit) := goodIn_app (goodIn_of _ (by decide +kernel)) ggX6_rowRead_X6_isDigit
set_option maxRecDepth 20000 in
theorem ggX6_rowRead_X6_number : GoodIn wsX6_rowRead wsX6_number := goodIn_r _ [21, 2, 14, 22, 23, 24, 6, 25, 13, 9, 10, 11, 12, 15, 16, 17, 3, 4, 5, 7, 8, 63, 64, 65, 66, 67, 68, 69, 70, 71, 72, 73] (by decide +kernel) (by decide +kernel)
set_option maxRecDepth 20000 in
theorem gX6_rowRead_X6_number : GoodIn wsX6_rowRead (wsV RX6 129 RX6 yX6_number wsX6_number) := goodIn_app (goodIn_of _ (by decide +kernel)) ggX6_rowRead_X6_number
set_option maxRecDepth 20000 in
theorem ggX6_rowRead_X6_sign : GoodIn wsX6_rowRead wsX6_sign := goodIn_r _ [29, 2, 22, 23, 24, 6, 25, 13, 14, 3, 4, 5, 7, 8, 63, 64, 65, 66, 67, 68, 69, 70, 71, 72, 73] (by decide +kernel) (by decide +kernel)
set_option maxRecDepth 20000 in
theorem gX6_rowRead_X6_sign : GoodIn wsX6_rowRead (wsV RX6 132 RX6 yX6_sign wsX6_sign) := goodIn_app (goodIn_of _ (by decide +kernel)) ggX6_rowRead_X6_sign
set_option maxRecDepth 20000 in
theorem ggX6_rowRead_X6_adds : GoodIn wsX6_rowRead wsX6_adds := goodIn_r _ [33, 1, 63, 64, 65, 66, 67, 68, 69, 70, 71, 72, 73] (by decide +kernel) (by decide +kernel)
set_option maxRecDepth 20000 in
theorem gX6_rowRead_X6_adds : GoodIn wsX6_rowRead (wsV RX6 68 RX6 yX6_adds wsX6_adds) := goodIn_app (goodIn_of _ (by decide +kernel)) ggX6_rowRead_X6_adds
set_option maxRecDepth 20000 in
theorem ggX6_rowRead_X6_here : GoodIn wsX6_rowRead wsX6_here := goodIn_r _ [25, 2, 13, 14, 63, 64, 65, 66, 67, 68, 69, 70, 71, 72, 73] (by decide +kernel) (by decide +kernel)
set_option maxRecDepth 20000 in
theorem gX6_rowRead_X6_here : GoodIn wsX6_rowRead (wsV RX6 120 RX6 yX6_here wsX6_here) := goodIn_app (goodIn_of _ (by decide +kernel)) ggX6_rowRead_X6_here
set_option maxRecDepth 20000 in
theorem ggX6_rowRead_X6_entry : GoodIn wsX6_rowRead wsX6_entry := goodIn_r _ [37, 2, 1, 22, 23, 24, 6, 25, 13, 14, 18, 19, 20, 21, 9, 10, 11, 12, 15, 16, 17, 3, 4, 5, 7, 8, 26, 27, 28, 29, 63, 64, 65, 66, 67, 68, 69, 70, 71, 72, 73] (by decide +kernel) (by decide +kernel)
set_option maxRecDepth 20000 in
theorem gX6_rowRead_X6_entry : GoodIn wsX6_rowRead (wsV RX6 135 RX6 yX6_entry wsX6_entry) := goodIn_app (goodIn_of _ (by decide +kernel)) ggX6_rowRead_X6_entry
set_option maxRecDepth 20000 in
theorem ggX6_rowRead_X6_forms : GoodIn wsX6_rowRead wsX6_forms := goodIn_r _ [41, 1, 42, 43, 44, 6, 45, 46, 47, 48, 49, 50, 51, 52, 53, 54, 55, 56, 57, 58, 59, 60, 61, 62, 63, 64, 65, 66, 67, 68, 69, 70, 71, 72, 73] (by decide +kernel) (by decide +kernel)
set_option maxRecDepth 20000 in
theorem gX6_rowRead_X6_forms : GoodIn wsX6_rowRead (wsV RX6 90 RX6 yX6_forms wsX6_forms) := goodIn_app (goodIn_of _ (by decide +kernel)) ggX6_rowRead_X6_forms
theorem dX6_rowRead_0 : decode cX6_rowRead 0 = .ok (.aload_n 0, 1) := by decide +kernel
theorem dX6_rowRead_1 : decode cX6_rowRead 1 = .ok (.getfield 7, 3) := by decide +kernel
theorem dX6_rowRead_4 : decode cX6_rowRead 4 = .ok (.iconst 0, 1) := by decide +kernel
theorem dX6_rowRead_5 : decode cX6_rowRead 5 = .ok (.iaload, 1) := by decide +kernel
theorem dX6_rowRead_6 : decode cX6_rowRead 6 = .ok (.bipush 24, 2) := by decide +kernel
theorem dX6_rowRead_8 : decode cX6_rowRead 8 = .ok (.if_icmp .ne 14, 3) := by decide +kernel
theorem dX6_rowRead_11 : decode cX6_rowRead 11 = .ok (.aload_n 0, 1) := by decide +kernel
theorem dX6_rowRead_12 : decode cX6_rowRead 12 = .ok (.aload_n 0, 1) := by decide +kernel
theorem dX6_rowRead_13 : decode cX6_rowRead 13 = .ok (.getfield 114, 3) := by decide +kernel
theorem dX6_rowRead_16 : decode cX6_rowRead 16 = .ok (.invokevirtual 126, 3) := by decide +kernel
theorem dX6_rowRead_19 : decode cX6_rowRead 19 = .ok (.pop, 1) := by decide +kernel
theorem dX6_rowRead_20 : decode cX6_rowRead 20 = .ok (.iconst 0, 1) := by decide +kernel
theorem dX6_rowRead_21 : decode cX6_rowRead 21 = .ok (.ireturn, 1) := by decide +kernel
theorem dX6_rowRead_22 : decode cX6_rowRead 22 = .ok (.aload_n 0, 1) := by decide +kernel
theorem dX6_rowRead_23 : decode cX6_rowRead 23 = .ok (.aload_n 0, 1) := by decide +kernel
theorem dX6_rowRead_24 : decode cX6_rowRead 24 = .ok (.getfield 114, 3) := by decide +kernel
theorem dX6_rowRead_27 : decode cX6_rowRead 27 = .ok (.invokevirtual 123, 3) := by decide +kernel
theorem dX6_rowRead_30 : decode cX6_rowRead 30 = .ok (.ifCond .eq 10, 3) := by decide +kernel
theorem dX6_rowRead_33 : decode cX6_rowRead 33 = .ok (.aload_n 0, 1) := by decide +kernel
theorem dX6_rowRead_34 : decode cX6_rowRead 34 = .ok (.invokevirtual 129, 3) := by decide +kernel
theorem dX6_rowRead_37 : decode cX6_rowRead 37 = .ok (.goto 4, 3) := by decide +kernel
theorem dX6_rowRead_40 : decode cX6_rowRead 40 = .ok (.iconst 0, 1) := by decide +kernel
theorem dX6_rowRead_41 : decode cX6_rowRead 41 = .ok (.istore_n 1, 1) := by decide +kernel
theorem dX6_rowRead_42 : decode cX6_rowRead 42 = .ok (.iload_n 1, 1) := by decide +kernel
theorem dX6_rowRead_43 : decode cX6_rowRead 43 = .ok (.bipush (-9), 2) := by decide +kernel
theorem dX6_rowRead_45 : decode cX6_rowRead 45 = .ok (.if_icmp .eq 12, 3) := by decide +kernel
theorem dX6_rowRead_48 : decode cX6_rowRead 48 = .ok (.aload_n 0, 1) := by decide +kernel
theorem dX6_rowRead_49 : decode cX6_rowRead 49 = .ok (.bipush 58, 2) := by decide +kernel
theorem dX6_rowRead_51 : decode cX6_rowRead 51 = .ok (.invokevirtual 132, 3) := by decide +kernel
theorem dX6_rowRead_54 : decode cX6_rowRead 54 = .ok (.ifCond .ne 5, 3) := by decide +kernel
theorem dX6_rowRead_57 : decode cX6_rowRead 57 = .ok (.iconst 0, 1) := by decide +kernel
theorem dX6_rowRead_58 : decode cX6_rowRead 58 = .ok (.ireturn, 1) := by decide +kernel
theorem dX6_rowRead_59 : decode cX6_rowRead 59 = .ok (.aload_n 0, 1) := by decide +kernel
theorem dX6_rowRead_60 : decode cX6_rowRead 60 = .ok (.getfield 7, 3) := by decide +kernel
theorem dX6_rowRead_63 : decode cX6_rowRead 63 = .ok (.iconst 0, 1) := by decide +kernel
theorem dX6_rowRead_64 : decode cX6_rowRead 64 = .ok (.iaload, 1) := by decide +kernel
theorem dX6_rowRead_65 : decode cX6_rowRead 65 = .ok (.istore_n 2, 1) := by decide +kernel
theorem dX6_rowRead_66 : decode cX6_rowRead 66 = .ok (.aload_n 0, 1) := by decide +kernel
theorem dX6_rowRead_67 : decode cX6_rowRead 67 = .ok (.iload_n 1, 1) := by decide +kernel
theorem dX6_rowRead_68 : decode cX6_rowRead 68 = .ok (.invokevirtual 68, 3) := by decide +kernel
theorem dX6_rowRead_71 : decode cX6_rowRead 71 = .ok (.iconst (-1), 1) := by decide +kernel
theorem dX6_rowRead_72 : decode cX6_rowRead 72 = .ok (.istore_n 3, 1) := by decide +kernel
theorem dX6_rowRead_73 : decode cX6_rowRead 73 = .ok (.aload_n 0, 1) := by decide +kernel
theorem dX6_rowRead_74 : decode cX6_rowRead 74 = .ok (.invokevirtual 120, 3) := by decide +kernel
theorem dX6_rowRead_77 : decode cX6_rowRead 77 = .ok (.bipush 59, 2) := by decide +kernel
theorem dX6_rowRead_79 : decode cX6_rowRead 79 = .ok (.if_icmp .eq 7, 3) := by decide +kernel
theorem dX6_rowRead_82 : decode cX6_rowRead 82 = .ok (.iconst 1, 1) := by decide +kernel
theorem dX6_rowRead_83 : decode cX6_rowRead 83 = .ok (.goto 4, 3) := by decide +kernel
theorem dX6_rowRead_86 : decode cX6_rowRead 86 = .ok (.iconst 0, 1) := by decide +kernel
theorem dX6_rowRead_87 : decode cX6_rowRead 87 = .ok (.istore 4, 2) := by decide +kernel
theorem dX6_rowRead_89 : decode cX6_rowRead 89 = .ok (.iload 4, 2) := by decide +kernel
theorem dX6_rowRead_91 : decode cX6_rowRead 91 = .ok (.ifCond .eq 56, 3) := by decide +kernel
theorem dX6_rowRead_94 : decode cX6_rowRead 94 = .ok (.aload_n 0, 1) := by decide +kernel
theorem dX6_rowRead_95 : decode cX6_rowRead 95 = .ok (.iload_n 2, 1) := by decide +kernel
theorem dX6_rowRead_96 : decode cX6_rowRead 96 = .ok (.iload_n 3, 1) := by decide +kernel
theorem dX6_rowRead_97 : decode cX6_rowRead 97 = .ok (.invokevirtual 135, 3) := by decide +kernel
theorem dX6_rowRead_100 : decode cX6_rowRead 100 = .ok (.istore_n 3, 1) := by decide +kernel
theorem dX6_rowRead_101 : decode cX6_rowRead 101 = .ok (.iload_n 3, 1) := by decide +kernel
theorem dX6_rowRead_102 : decode cX6_rowRead 102 = .ok (.bipush (-9), 2) := by decide +kernel
theorem dX6_rowRead_104 : decode cX6_rowRead 104 = .ok (.if_icmp .ne 5, 3) := by decide +kernel
theorem dX6_rowRead_107 : decode cX6_rowRead 107 = .ok (.iconst 0, 1) := by decide +kernel
theorem dX6_rowRead_108 : decode cX6_rowRead 108 = .ok (.ireturn, 1) := by decide +kernel
theorem dX6_rowRead_109 : decode cX6_rowRead 109 = .ok (.aload_n 0, 1) := by decide +kernel
theorem dX6_rowRead_110 : decode cX6_rowRead 110 = .ok (.invokevirtual 120, 3) := by decide +kernel
theorem dX6_rowRead_113 : decode cX6_rowRead 113 = .ok (.bipush 44, 2) := by decide +kernel
theorem dX6_rowRead_115 : decode cX6_rowRead 115 = .ok (.if_icmp .ne 7, 3) := by decide +kernel
theorem dX6_rowRead_118 : decode cX6_rowRead 118 = .ok (.iconst 1, 1) := by decide +kernel
theorem dX6_rowRead_119 : decode cX6_rowRead 119 = .ok (.goto 4, 3) := by decide +kernel
theorem dX6_rowRead_122 : decode cX6_rowRead 122 = .ok (.iconst 0, 1) := by decide +kernel
theorem dX6_rowRead_123 : decode cX6_rowRead 123 = .ok (.istore 4, 2) := by decide +kernel
theorem dX6_rowRead_125 : decode cX6_rowRead 125 = .ok (.aload_n 0, 1) := by decide +kernel
theorem dX6_rowRead_126 : decode cX6_rowRead 126 = .ok (.dup, 1) := by decide +kernel
theorem dX6_rowRead_127 : decode cX6_rowRead 127 = .ok (.getfield 114, 3) := by decide +kernel
theorem dX6_rowRead_130 : decode cX6_rowRead 130 = .ok (.iload 4, 2) := by decide +kernel
theorem dX6_rowRead_132 : decode cX6_rowRead 132 = .ok (.ifCond .eq 7, 3) := by decide +kernel
theorem dX6_rowRead_135 : decode cX6_rowRead 135 = .ok (.iconst 1, 1) := by decide +kernel
theorem dX6_rowRead_136 : decode cX6_rowRead 136 = .ok (.goto 4, 3) := by decide +kernel
theorem dX6_rowRead_139 : decode cX6_rowRead 139 = .ok (.iconst 0, 1) := by decide +kernel
theorem dX6_rowRead_140 : decode cX6_rowRead 140 = .ok (.iadd, 1) := by decide +kernel
theorem dX6_rowRead_141 : decode cX6_rowRead 141 = .ok (.putfield 114, 3) := by decide +kernel
theorem dX6_rowRead_144 : decode cX6_rowRead 144 = .ok (.goto (-55), 3) := by decide +kernel
theorem dX6_rowRead_147 : decode cX6_rowRead 147 = .ok (.aload_n 0, 1) := by decide +kernel
theorem dX6_rowRead_148 : decode cX6_rowRead 148 = .ok (.bipush 59, 2) := by decide +kernel
theorem dX6_rowRead_150 : decode cX6_rowRead 150 = .ok (.invokevirtual 132, 3) := by decide +kernel
theorem dX6_rowRead_153 : decode cX6_rowRead 153 = .ok (.ifCond .ne 5, 3) := by decide +kernel
theorem dX6_rowRead_156 : decode cX6_rowRead 156 = .ok (.iconst 0, 1) := by decide +kernel
theorem dX6_rowRead_157 : decode cX6_rowRead 157 = .ok (.ireturn, 1) := by decide +kernel
theorem dX6_rowRead_158 : decode cX6_rowRead 158 = .ok (.aload_n 0, 1) := by decide +kernel
theorem dX6_rowRead_159 : decode cX6_rowRead 159 = .ok (.iload_n 2, 1) := by decide +kernel
theorem dX6_rowRead_160 : decode cX6_rowRead 160 = .ok (.invokevirtual 90, 3) := by decide +kernel
theorem dX6_rowRead_163 : decode cX6_rowRead 163 = .ok (.iconst 1, 1) := by decide +kernel
theorem dX6_rowRead_164 : decode cX6_rowRead 164 = .ok (.ireturn, 1) := by decide +kernel
set_option maxRecDepth 20000 in
theorem ggX6_read_X6_copy : GoodIn wsX6_read wsX6_copy := goodIn_r _ [8, 9, 10, 83, 84, 85, 86, 87, 88, 89, 90, 91, 92, 93] (by decide +kernel) (by decide +kernel)
set_option maxRecDepth 20000 in
theorem gX6_read_X6_copy : GoodIn wsX6_read (wsV RX6 39 RX6 yX6_copy wsX6_copy) := goodIn_app (goodIn_of _ (by decide +kernel)) ggX6_read_X6_copy
set_option maxRecDepth 20000 in
theorem ggX6_read_X6_here : GoodIn wsX6_read wsX6_here := goodIn_r _ [14, 1, 3, 15, 83, 84, 85, 86, 87, 88, 89, 90, 91, 92, 93] (by decide +kernel) (by decide +kernel)
set_option maxRecDepth 20000 in
theorem gX6_read_X6_here : GoodIn wsX6_read (wsV RX6 120 RX6 yX6_here wsX6_here) := goodIn_app (goodIn_of _ (by decide +kernel)) ggX6_read_X6_here
set_option maxRecDepth 20000 in
theorem ggX6_read_X6_rowRead : GoodIn wsX6_read wsX6_rowRead := goodIn_r _ [19, 10, 1, 20, 21, 22, 7, 23, 2, 24, 25, 26, 27, 3, 15, 28, 29, 30, 31, 32, 33, 34, 11, 12, 13, 14, 35, 36, 37, 38, 39, 40, 41, 42, 43, 44, 45, 46, 47, 48, 49, 50, 51, 52, 53, 54, 55, 56, 57, 58, 59, 60, 61, 62, 63, 64, 65, 66, 67, 68, 69, 70, 71, 83, 84, 85, 86, 87, 88, 89, 90, 91, 92, 93] (by decide +kernel) (by decide +kernel)
set_option maxRecDepth 20000 in
theorem gX6_read_X6_rowRead : GoodIn wsX6_read (wsV RX6 138 RX6 yX6_rowRead wsX6_rowRead) := goodIn_app (goodIn_of _ (by decide +kernel)) ggX6_read_X6_rowRead
set_option maxRecDepth 20000 in
theorem ggX6_read_X6_back : GoodIn wsX6_read wsX6_back := goodIn_r _ [75, 10, 9, 83, 84, 85, 86, 87, 88, 89, 90, 91, 92, 93] (by decide +kernel) (by decide +kernel)
set_option maxRecDepth 20000 in
theorem gX6_read_X6_back : GoodIn wsX6_read (wsV RX6 142 RX6 yX6_back wsX6_back) := goodIn_app (goodIn_of _ (by decide +kernel)) ggX6_read_X6_back
set_option maxRecDepth 20000 in
theorem ggX6_read_X6_record : GoodIn wsX6_read wsX6_record := goodIn_r _ [79, 80, 81, 9, 82, 83, 84, 85, 86, 87, 88, 89, 90, 91, 92, 93] (by decide +kernel) (by decide +kernel)
set_option maxRecDepth 20000 in
theorem gX6_read_X6_record : GoodIn wsX6_read (wsV RX6 42 RX6 yX6_record wsX6_record) := goodIn_app (goodIn_of _ (by decide +kernel)) ggX6_read_X6_record
theorem dX6_read_0 : decode cX6_read 0 = .ok (.aload_n 0, 1) := by decide +kernel
theorem dX6_read_1 : decode cX6_read 1 = .ok (.invokevirtual 39, 3) := by decide +kernel
theorem dX6_read_4 : decode cX6_read 4 = .ok (.aload_n 0, 1) := by decide +kernel
theorem dX6_read_5 : decode cX6_read 5 = .ok (.iconst 0, 1) := by decide +kernel
theorem dX6_read_6 : decode cX6_read 6 = .ok (.putfield 114, 3) := by decide +kernel
theorem dX6_read_9 : decode cX6_read 9 = .ok (.iconst 0, 1) := by decide +kernel
theorem dX6_read_10 : decode cX6_read 10 = .ok (.istore_n 1, 1) := by decide +kernel
theorem dX6_read_11 : decode cX6_read 11 = .ok (.aload_n 0, 1) := by decide +kernel
theorem dX6_read_12 : decode cX6_read 12 = .ok (.invokevirtual 120, 3) := by decide +kernel
theorem dX6_read_15 : decode cX6_read 15 = .ok (.ifCond .eq 29, 3) := by decide +kernel
theorem dX6_read_18 : decode cX6_read 18 = .ok (.aload_n 0, 1) := by decide +kernel
theorem dX6_read_19 : decode cX6_read 19 = .ok (.invokevirtual 138, 3) := by decide +kernel
theorem dX6_read_22 : decode cX6_read 22 = .ok (.ifCond .ne 16, 3) := by decide +kernel
theorem dX6_read_25 : decode cX6_read 25 = .ok (.aload_n 0, 1) := by decide +kernel
theorem dX6_read_26 : decode cX6_read 26 = .ok (.invokevirtual 142, 3) := by decide +kernel
theorem dX6_read_29 : decode cX6_read 29 = .ok (.sipush (-1000), 3) := by decide +kernel
theorem dX6_read_32 : decode cX6_read 32 = .ok (.aload_n 0, 1) := by decide +kernel
theorem dX6_read_33 : decode cX6_read 33 = .ok (.getfield 117, 3) := by decide +kernel
theorem dX6_read_36 : decode cX6_read 36 = .ok (.isub, 1) := by decide +kernel
theorem dX6_read_37 : decode cX6_read 37 = .ok (.ireturn, 1) := by decide +kernel
theorem dX6_read_38 : decode cX6_read 38 = .ok (.iinc 1 1, 3) := by decide +kernel
theorem dX6_read_41 : decode cX6_read 41 = .ok (.goto (-30), 3) := by decide +kernel
theorem dX6_read_44 : decode cX6_read 44 = .ok (.aload_n 0, 1) := by decide +kernel
theorem dX6_read_45 : decode cX6_read 45 = .ok (.invokevirtual 42, 3) := by decide +kernel
theorem dX6_read_48 : decode cX6_read 48 = .ok (.aload_n 0, 1) := by decide +kernel
theorem dX6_read_49 : decode cX6_read 49 = .ok (.iconst 0, 1) := by decide +kernel
theorem dX6_read_50 : decode cX6_read 50 = .ok (.putfield 111, 3) := by decide +kernel
theorem dX6_read_53 : decode cX6_read 53 = .ok (.iload_n 1, 1) := by decide +kernel
theorem dX6_read_54 : decode cX6_read 54 = .ok (.ireturn, 1) := by decide +kernel
end
section
set_option maxRecDepth 20000 in
theorem ggX6_get_X6_isRow : GoodIn wsX6_get wsX6_isRow := goodIn_r _ [5, 6, 7, 8, 4, 9, 21, 22, 23, 24, 25, 26, 27, 28, 29, 30, 31] (by decide +kernel) (by decide +kernel)
set_option maxRecDepth 20000 in
theorem gX6_get_X6_isRow : GoodIn wsX6_get (wsV RX6 72 RX6 yX6_isRow wsX6_isRow) := goodIn_app (goodIn_of _ (by decide +kernel)) ggX6_get_X6_isRow
set_option maxRecDepth 20000 in
theorem ggX6_get_X6_in : GoodIn wsX6_get wsX6_in := goodIn_r _ [9] (by decide +kernel) (by decide +kernel)
set_option maxRecDepth 20000 in
theorem gX6_get_X6_in : GoodIn wsX6_get (va_wsS RX6 28 yX6_in wsX6_in) := goodIn_app (goodIn_of _ (by decide +kernel)) ggX6_get_X6_in
set_option maxRecDepth 20000 in
theorem ggX6_get_X6_valueOf : GoodIn wsX6_get wsX6_valueOf := goodIn_r _ [13, 6, 14, 15, 16, 4, 17, 18, 19, 20, 21, 22, 23, 24, 25, 26, 27, 28, 29, 30, 31] (by decide +kernel) (by decide +kernel)
set_option maxRecDepth 20000 in
theorem gX6_get_X6_valueOf : GoodIn wsX6_get (wsV RX6 76 RX6 yX6_valueOf wsX6_valueOf) := goodIn_app (goodIn_of _ (by decide +kernel)) ggX6_get_X6_valueOf
theorem dX6_get_0 : decode cX6_get 0 = .ok (.aload_n 0, 1) := by decide +kernel
theorem dX6_get_1 : decode cX6_get 1 = .ok (.iload_n 1, 1) := by decide +kernel
theorem dX6_get_2 : decode cX6_get 2 = .ok (.invokevirtual 72, 3) := by decide +kernel
theorem dX6_get_5 : decode cX6_get 5 = .ok (.ifCond .eq 22, 3) := by decide +kernel
theorem dX6_get_8 : decode cX6_get 8 = .ok (.iload_n 2, 1) := by decide +kernel
theorem dX6_get_9 : decode cX6_get 9 = .ok (.iconst 0, 1) := by decide +kernel
theorem dX6_get_10 : decode cX6_get 10 = .ok (.bipush 15, 2) := by decide +kernel
theorem dX6_get_12 : decode cX6_get 12 = .ok (.invokestatic 28, 3) := by decide +kernel
theorem dX6_get_15 : decode cX6_get 15 = .ok (.ifCond .eq 12, 3) := by decide +kernel
theorem dX6_get_18 : decode cX6_get 18 = .ok (.aload_n 0, 1) := by decide +kernel
theorem dX6_get_19 : decode cX6_get 19 = .ok (.iload_n 1, 1) := by decide +kernel
theorem dX6_get_20 : decode cX6_get 20 = .ok (.iload_n 2, 1) := by decide +kernel
theorem dX6_get_21 : decode cX6_get 21 = .ok (.invokevirtual 76, 3) := by decide +kernel
theorem dX6_get_24 : decode cX6_get 24 = .ok (.goto 4, 3) := by decide +kernel
theorem dX6_get_27 : decode cX6_get 27 = .ok (.iconst (-1), 1) := by decide +kernel
theorem dX6_get_28 : decode cX6_get 28 = .ok (.ireturn, 1) := by decide +kernel
theorem dX6_formMany_0 : decode cX6_formMany 0 = .ok (.iconst 0, 1) := by decide +kernel
theorem dX6_formMany_1 : decode cX6_formMany 1 = .ok (.istore_n 1, 1) := by decide +kernel
theorem dX6_formMany_2 : decode cX6_formMany 2 = .ok (.iconst 0, 1) := by decide +kernel
theorem dX6_formMany_3 : decode cX6_formMany 3 = .ok (.istore_n 2, 1) := by decide +kernel
theorem dX6_formMany_4 : decode cX6_formMany 4 = .ok (.iload_n 2, 1) := by decide +kernel
theorem dX6_formMany_5 : decode cX6_formMany 5 = .ok (.bipush 24, 2) := by decide +kernel
theorem dX6_formMany_7 : decode cX6_formMany 7 = .ok (.if_icmp .ge 30, 3) := by decide +kernel
theorem dX6_formMany_10 : decode cX6_formMany 10 = .ok (.iload_n 1, 1) := by decide +kernel
theorem dX6_formMany_11 : decode cX6_formMany 11 = .ok (.aload_n 0, 1) := by decide +kernel
theorem dX6_formMany_12 : decode cX6_formMany 12 = .ok (.getfield 7, 3) := by decide +kernel
theorem dX6_formMany_15 : decode cX6_formMany 15 = .ok (.sipush 457, 3) := by decide +kernel
theorem dX6_formMany_18 : decode cX6_formMany 18 = .ok (.iload_n 2, 1) := by decide +kernel
theorem dX6_formMany_19 : decode cX6_formMany 19 = .ok (.iadd, 1) := by decide +kernel
theorem dX6_formMany_20 : decode cX6_formMany 20 = .ok (.iaload, 1) := by decide +kernel
theorem dX6_formMany_21 : decode cX6_formMany 21 = .ok (.ifCond .lt 7, 3) := by decide +kernel
theorem dX6_formMany_24 : decode cX6_formMany 24 = .ok (.iconst 1, 1) := by decide +kernel
theorem dX6_formMany_25 : decode cX6_formMany 25 = .ok (.goto 4, 3) := by decide +kernel
theorem dX6_formMany_28 : decode cX6_formMany 28 = .ok (.iconst 0, 1) := by decide +kernel
theorem dX6_formMany_29 : decode cX6_formMany 29 = .ok (.iadd, 1) := by decide +kernel
theorem dX6_formMany_30 : decode cX6_formMany 30 = .ok (.istore_n 1, 1) := by decide +kernel
theorem dX6_formMany_31 : decode cX6_formMany 31 = .ok (.iinc 2 1, 3) := by decide +kernel
theorem dX6_formMany_34 : decode cX6_formMany 34 = .ok (.goto (-30), 3) := by decide +kernel
theorem dX6_formMany_37 : decode cX6_formMany 37 = .ok (.iload_n 1, 1) := by decide +kernel
theorem dX6_formMany_38 : decode cX6_formMany 38 = .ok (.ireturn, 1) := by decide +kernel
set_option maxRecDepth 20000 in
theorem ggX6_full_X6_layStore : GoodIn wsX6_full wsX6_layStore := goodIn_r _ [6, 1, 7, 8, 9, 10, 11, 5, 12, 13, 14, 15, 16, 17, 18, 19, 20, 21, 22, 23, 24, 25, 26] (by decide +kernel) (by decide +kernel)
set_option maxRecDepth 20000 in
theorem gX6_full_X6_layStore : GoodIn wsX6_full (wsV RX6 56 RX6 yX6_layStore wsX6_layStore) := goodIn_app (goodIn_of _ (by decide +kernel)) ggX6_full_X6_layStore
theorem dX6_full_0 : decode cX6_full 0 = .ok (.aload_n 0, 1) := by decide +kernel
theorem dX6_full_1 : decode cX6_full 1 = .ok (.invokevirtual 56, 3) := by decide +kernel
theorem dX6_full_4 : decode cX6_full 4 = .ok (.iconst 0, 1) := by decide +kernel
theorem dX6_full_5 : decode cX6_full 5 = .ok (.istore_n 1, 1) := by decide +kernel
theorem dX6_full_6 : decode cX6_full 6 = .ok (.iconst 0, 1) := by decide +kernel
theorem dX6_full_7 : decode cX6_full 7 = .ok (.istore_n 2, 1) := by decide +kernel
theorem dX6_full_8 : decode cX6_full 8 = .ok (.iload_n 2, 1) := by decide +kernel
theorem dX6_full_9 : decode cX6_full 9 = .ok (.sipush 800, 3) := by decide +kernel
theorem dX6_full_12 : decode cX6_full 12 = .ok (.if_icmp .ge 27, 3) := by decide +kernel
theorem dX6_full_15 : decode cX6_full 15 = .ok (.iload_n 1, 1) := by decide +kernel
theorem dX6_full_16 : decode cX6_full 16 = .ok (.aload_n 0, 1) := by decide +kernel
theorem dX6_full_17 : decode cX6_full 17 = .ok (.getfield 19, 3) := by decide +kernel
theorem dX6_full_20 : decode cX6_full 20 = .ok (.iload_n 2, 1) := by decide +kernel
theorem dX6_full_21 : decode cX6_full 21 = .ok (.iaload, 1) := by decide +kernel
theorem dX6_full_22 : decode cX6_full 22 = .ok (.iconst (-1), 1) := by decide +kernel
theorem dX6_full_23 : decode cX6_full 23 = .ok (.if_icmp .ne 7, 3) := by decide +kernel
theorem dX6_full_26 : decode cX6_full 26 = .ok (.iconst 0, 1) := by decide +kernel
theorem dX6_full_27 : decode cX6_full 27 = .ok (.goto 4, 3) := by decide +kernel
theorem dX6_full_30 : decode cX6_full 30 = .ok (.iconst 1, 1) := by decide +kernel
theorem dX6_full_31 : decode cX6_full 31 = .ok (.iadd, 1) := by decide +kernel
theorem dX6_full_32 : decode cX6_full 32 = .ok (.istore_n 1, 1) := by decide +kernel
theorem dX6_full_33 : decode cX6_full 33 = .ok (.iinc 2 1, 3) := by decide +kernel
theorem dX6_full_36 : decode cX6_full 36 = .ok (.goto (-28), 3) := by decide +kernel
theorem dX6_full_39 : decode cX6_full 39 = .ok (.iload_n 1, 1) := by decide +kernel
theorem dX6_full_40 : decode cX6_full 40 = .ok (.ireturn, 1) := by decide +kernel
set_option maxRecDepth 20000 in
theorem ggX6_strangers_X6_layStore : GoodIn wsX6_strangers wsX6_layStore := goodIn_r _ [7, 2, 1, 8, 9, 10, 11, 6, 12, 13, 14, 15, 16, 17, 18, 19, 20, 21, 22, 23, 24, 25, 26] (by decide +kernel) (by decide +kernel)
set_option maxRecDepth 20000 in
theorem gX6_strangers_X6_layStore : GoodIn wsX6_strangers (wsV RX6 56 RX6 yX6_layStore wsX6_layStore) := goodIn_app (goodIn_of _ (by decide +kernel)) ggX6_strangers_X6_layStore
theorem dX6_strangers_0 : decode cX6_strangers 0 = .ok (.aload_n 0, 1) := by decide +kernel
theorem dX6_strangers_1 : decode cX6_strangers 1 = .ok (.invokevirtual 56, 3) := by decide +kernel
theorem dX6_strangers_4 : decode cX6_strangers 4 = .ok (.iconst 0, 1) := by decide +kernel
theorem dX6_strangers_5 : decode cX6_strangers 5 = .ok (.istore_n 1, 1) := by decide +kernel
theorem dX6_strangers_6 : decode cX6_strangers 6 = .ok (.iconst 0, 1) := by decide +kernel
theorem dX6_strangers_7 : decode cX6_strangers 7 = .ok (.istore_n 2, 1) := by decide +kernel
theorem dX6_strangers_8 : decode cX6_strangers 8 = .ok (.iload_n 2, 1) := by decide +kernel
theorem dX6_strangers_9 : decode cX6_strangers 9 = .ok (.aload_n 0, 1) := by decide +kernel
theorem dX6_strangers_10 : decode cX6_strangers 10 = .ok (.getfield 7, 3) := by decide +kernel
theorem dX6_strangers_13 : decode cX6_strangers 13 = .ok (.iconst 0, 1) := by decide +kernel
theorem dX6_strangers_14 : decode cX6_strangers 14 = .ok (.iaload, 1) := by decide +kernel
theorem dX6_strangers_15 : decode cX6_strangers 15 = .ok (.if_icmp .ge 79, 3) := by decide +kernel
theorem dX6_strangers_18 : decode cX6_strangers 18 = .ok (.aload_n 0, 1) := by decide +kernel
theorem dX6_strangers_19 : decode cX6_strangers 19 = .ok (.getfield 7, 3) := by decide +kernel
theorem dX6_strangers_22 : decode cX6_strangers 22 = .ok (.bipush 49, 2) := by decide +kernel
theorem dX6_strangers_24 : decode cX6_strangers 24 = .ok (.iload_n 2, 1) := by decide +kernel
theorem dX6_strangers_25 : decode cX6_strangers 25 = .ok (.iadd, 1) := by decide +kernel
theorem dX6_strangers_26 : decode cX6_strangers 26 = .ok (.iaload, 1) := by decide +kernel
theorem dX6_strangers_27 : decode cX6_strangers 27 = .ok (.istore_n 3, 1) := by decide +kernel
theorem dX6_strangers_28 : decode cX6_strangers 28 = .ok (.iconst 0, 1) := by decide +kernel
theorem dX6_strangers_29 : decode cX6_strangers 29 = .ok (.istore 4, 2) := by decide +kernel
theorem dX6_strangers_31 : decode cX6_strangers 31 = .ok (.iload 4, 2) := by decide +kernel
theorem dX6_strangers_33 : decode cX6_strangers 33 = .ok (.bipush 16, 2) := by decide +kernel
theorem dX6_strangers_35 : decode cX6_strangers 35 = .ok (.if_icmp .ge 53, 3) := by decide +kernel
theorem dX6_strangers_38 : decode cX6_strangers 38 = .ok (.iload_n 3, 1) := by decide +kernel
theorem dX6_strangers_39 : decode cX6_strangers 39 = .ok (.ifCond .lt 49, 3) := by decide +kernel
theorem dX6_strangers_42 : decode cX6_strangers 42 = .ok (.aload_n 0, 1) := by decide +kernel
theorem dX6_strangers_43 : decode cX6_strangers 43 = .ok (.getfield 19, 3) := by decide +kernel
theorem dX6_strangers_46 : decode cX6_strangers 46 = .ok (.aload_n 0, 1) := by decide +kernel
theorem dX6_strangers_47 : decode cX6_strangers 47 = .ok (.getfield 7, 3) := by decide +kernel
theorem dX6_strangers_50 : decode cX6_strangers 50 = .ok (.sipush 457, 3) := by decide +kernel
theorem dX6_strangers_53 : decode cX6_strangers 53 = .ok (.iload_n 3, 1) := by decide +kernel
theorem dX6_strangers_54 : decode cX6_strangers 54 = .ok (.iadd, 1) := by decide +kernel
theorem dX6_strangers_55 : decode cX6_strangers 55 = .ok (.iaload, 1) := by decide +kernel
theorem dX6_strangers_56 : decode cX6_strangers 56 = .ok (.iload 4, 2) := by decide +kernel
theorem dX6_strangers_58 : decode cX6_strangers 58 = .ok (.iadd, 1) := by decide +kernel
theorem dX6_strangers_59 : decode cX6_strangers 59 = .ok (.iaload, 1) := by decide +kernel
theorem dX6_strangers_60 : decode cX6_strangers 60 = .ok (.istore 5, 2) := by decide +kernel
theorem dX6_strangers_62 : decode cX6_strangers 62 = .ok (.iload_n 1, 1) := by decide +kernel
theorem dX6_strangers_63 : decode cX6_strangers 63 = .ok (.iload 5, 2) := by decide +kernel
theorem dX6_strangers_65 : decode cX6_strangers 65 = .ok (.iconst (-1), 1) := by decide +kernel
theorem dX6_strangers_66 : decode cX6_strangers 66 = .ok (.if_icmp .eq 13, 3) := by decide +kernel
theorem dX6_strangers_69 : decode cX6_strangers 69 = .ok (.iload 5, 2) := by decide +kernel
theorem dX6_strangers_71 : decode cX6_strangers 71 = .ok (.iload_n 3, 1) := by decide +kernel
theorem dX6_strangers_72 : decode cX6_strangers 72 = .ok (.if_icmp .eq 7, 3) := by decide +kernel
theorem dX6_strangers_75 : decode cX6_strangers 75 = .ok (.iconst 1, 1) := by decide +kernel
theorem dX6_strangers_76 : decode cX6_strangers 76 = .ok (.goto 4, 3) := by decide +kernel
theorem dX6_strangers_79 : decode cX6_strangers 79 = .ok (.iconst 0, 1) := by decide +kernel
theorem dX6_strangers_80 : decode cX6_strangers 80 = .ok (.iadd, 1) := by decide +kernel
theorem dX6_strangers_81 : decode cX6_strangers 81 = .ok (.istore_n 1, 1) := by decide +kernel
theorem dX6_strangers_82 : decode cX6_strangers 82 = .ok (.iinc 4 1, 3) := by decide +kernel
theorem dX6_strangers_85 : decode cX6_strangers 85 = .ok (.goto (-54), 3) := by decide +kernel
theorem dX6_strangers_88 : decode cX6_strangers 88 = .ok (.iinc 2 1, 3) := by decide +kernel
theorem dX6_strangers_91 : decode cX6_strangers 91 = .ok (.goto (-83), 3) := by decide +kernel
theorem dX6_strangers_94 : decode cX6_strangers 94 = .ok (.iload_n 1, 1) := by decide +kernel
theorem dX6_strangers_95 : decode cX6_strangers 95 = .ok (.ireturn, 1) := by decide +kernel
set_option maxRecDepth 20000 in
theorem ggX6_count_X6_formMany : GoodIn wsX6_count wsX6_formMany := goodIn_r _ [8, 1, 37, 38, 39, 40, 41, 42, 43, 44, 45, 46, 47] (by decide +kernel) (by decide +kernel)
set_option maxRecDepth 20000 in
theorem gX6_count_X6_formMany : GoodIn wsX6_count (wsV RX6 145 RX6 yX6_formMany wsX6_formMany) := goodIn_app (goodIn_of _ (by decide +kernel)) ggX6_count_X6_formMany
set_option maxRecDepth 20000 in
theorem ggX6_count_X6_entries : GoodIn wsX6_count wsX6_entries := goodIn_r _ [12, 1, 37, 38, 39, 40, 41, 42, 43, 44, 45, 46, 47] (by decide +kernel) (by decide +kernel)
set_option maxRecDepth 20000 in
theorem gX6_count_X6_entries : GoodIn wsX6_count (wsV RX6 45 RX6 yX6_entries wsX6_entries) := goodIn_app (goodIn_of _ (by decide +kernel)) ggX6_count_X6_entries
set_option maxRecDepth 20000 in
theorem ggX6_count_X6_bits : GoodIn wsX6_count wsX6_bits := goodIn_r _ [15] (by decide +kernel) (by decide +kernel)
set_option maxRecDepth 20000 in
theorem gX6_count_X6_bits : GoodIn wsX6_count (va_wsS RX6 97 yX6_bits wsX6_bits) := goodIn_app (goodIn_of _ (by decide +kernel)) ggX6_count_X6_bits
set_option maxRecDepth 20000 in
theorem ggX6_count_X6_full : GoodIn wsX6_count wsX6_full := goodIn_r _ [19, 20, 21, 22, 23, 7, 24, 1, 25, 9, 10, 11, 12, 26, 27, 28, 37, 38, 39, 40, 41, 42, 43, 44, 45, 46, 47] (by decide +kernel) (by decide +kernel)
set_option maxRecDepth 20000 in
theorem gX6_count_X6_full : GoodIn wsX6_count (wsV RX6 148 RX6 yX6_full wsX6_full) := goodIn_app (goodIn_of _ (by decide +kernel)) ggX6_count_X6_full
set_option maxRecDepth 20000 in
theorem ggX6_count_X6_end : GoodIn wsX6_count wsX6_end := goodIn_r _ [32, 20, 21, 22, 23, 7, 24, 1, 25, 9, 10, 11, 12, 26, 27, 28, 37, 38, 39, 40, 41, 42, 43, 44, 45, 46, 47] (by decide +kernel) (by decide +kernel)
set_option maxRecDepth 20000 in
theorem gX6_count_X6_end : GoodIn wsX6_count (wsV RX6 107 RX6 yX6_end wsX6_end) := goodIn_app (goodIn_of _ (by decide +kernel)) ggX6_count_X6_end
set_option maxRecDepth 20000 in
theorem ggX6_count_X6_strangers : GoodIn wsX6_count wsX6_strangers := goodIn_r _ [36, 1, 20, 21, 22, 23, 7, 24, 25, 9, 10, 11, 12, 26, 27, 28, 37, 38, 39, 40, 41, 42, 43, 44, 45, 46, 47] (by decide +kernel) (by decide +kernel)
set_option maxRecDepth 20000 in
theorem gX6_count_X6_strangers : GoodIn wsX6_count (wsV RX6 151 RX6 yX6_strangers wsX6_strangers) := goodIn_app (goodIn_of _ (by decide +kernel)) ggX6_count_X6_strangers
theorem dX6_count_0 : decode cX6_count 0 = .ok (.iload_n 1, 1) := by decide +kernel
theorem dX6_count_1 : decode cX6_count 1 = .ok (.tableswitch 131 0 8 #[51, 58, 63, 96, 101, 106, 116, 121, 126], 51) := by decide +kernel
theorem dX6_count_52 : decode cX6_count 52 = .ok (.aload_n 0, 1) := by decide +kernel
theorem dX6_count_53 : decode cX6_count 53 = .ok (.getfield 7, 3) := by decide +kernel
theorem dX6_count_56 : decode cX6_count 56 = .ok (.iconst 0, 1) := by decide +kernel
theorem dX6_count_57 : decode cX6_count 57 = .ok (.iaload, 1) := by decide +kernel
theorem dX6_count_58 : decode cX6_count 58 = .ok (.ireturn, 1) := by decide +kernel
theorem dX6_count_59 : decode cX6_count 59 = .ok (.aload_n 0, 1) := by decide +kernel
theorem dX6_count_60 : decode cX6_count 60 = .ok (.invokevirtual 145, 3) := by decide +kernel
theorem dX6_count_63 : decode cX6_count 63 = .ok (.ireturn, 1) := by decide +kernel
theorem dX6_count_64 : decode cX6_count 64 = .ok (.iconst 0, 1) := by decide +kernel
theorem dX6_count_65 : decode cX6_count 65 = .ok (.istore_n 2, 1) := by decide +kernel
theorem dX6_count_66 : decode cX6_count 66 = .ok (.iconst 0, 1) := by decide +kernel
theorem dX6_count_67 : decode cX6_count 67 = .ok (.istore_n 3, 1) := by decide +kernel
theorem dX6_count_68 : decode cX6_count 68 = .ok (.iload_n 3, 1) := by decide +kernel
theorem dX6_count_69 : decode cX6_count 69 = .ok (.aload_n 0, 1) := by decide +kernel
theorem dX6_count_70 : decode cX6_count 70 = .ok (.getfield 7, 3) := by decide +kernel
theorem dX6_count_73 : decode cX6_count 73 = .ok (.iconst 0, 1) := by decide +kernel
theorem dX6_count_74 : decode cX6_count 74 = .ok (.iaload, 1) := by decide +kernel
theorem dX6_count_75 : decode cX6_count 75 = .ok (.if_icmp .ge 20, 3) := by decide +kernel
theorem dX6_count_78 : decode cX6_count 78 = .ok (.iload_n 2, 1) := by decide +kernel
theorem dX6_count_79 : decode cX6_count 79 = .ok (.aload_n 0, 1) := by decide +kernel
theorem dX6_count_80 : decode cX6_count 80 = .ok (.iload_n 3, 1) := by decide +kernel
theorem dX6_count_81 : decode cX6_count 81 = .ok (.invokevirtual 45, 3) := by decide +kernel
theorem dX6_count_84 : decode cX6_count 84 = .ok (.invokestatic 97, 3) := by decide +kernel
theorem dX6_count_87 : decode cX6_count 87 = .ok (.iadd, 1) := by decide +kernel
theorem dX6_count_88 : decode cX6_count 88 = .ok (.istore_n 2, 1) := by decide +kernel
theorem dX6_count_89 : decode cX6_count 89 = .ok (.iinc 3 1, 3) := by decide +kernel
theorem dX6_count_92 : decode cX6_count 92 = .ok (.goto (-24), 3) := by decide +kernel
theorem dX6_count_95 : decode cX6_count 95 = .ok (.iload_n 2, 1) := by decide +kernel
theorem dX6_count_96 : decode cX6_count 96 = .ok (.ireturn, 1) := by decide +kernel
theorem dX6_count_97 : decode cX6_count 97 = .ok (.aload_n 0, 1) := by decide +kernel
theorem dX6_count_98 : decode cX6_count 98 = .ok (.invokevirtual 148, 3) := by decide +kernel
theorem dX6_count_101 : decode cX6_count 101 = .ok (.ireturn, 1) := by decide +kernel
theorem dX6_count_102 : decode cX6_count 102 = .ok (.aload_n 0, 1) := by decide +kernel
theorem dX6_count_103 : decode cX6_count 103 = .ok (.invokevirtual 107, 3) := by decide +kernel
theorem dX6_count_106 : decode cX6_count 106 = .ok (.ireturn, 1) := by decide +kernel
theorem dX6_count_107 : decode cX6_count 107 = .ok (.aload_n 0, 1) := by decide +kernel
theorem dX6_count_108 : decode cX6_count 108 = .ok (.invokevirtual 107, 3) := by decide +kernel
theorem dX6_count_111 : decode cX6_count 111 = .ok (.aload_n 0, 1) := by decide +kernel
theorem dX6_count_112 : decode cX6_count 112 = .ok (.invokevirtual 148, 3) := by decide +kernel
theorem dX6_count_115 : decode cX6_count 115 = .ok (.isub, 1) := by decide +kernel
theorem dX6_count_116 : decode cX6_count 116 = .ok (.ireturn, 1) := by decide +kernel
theorem dX6_count_117 : decode cX6_count 117 = .ok (.aload_n 0, 1) := by decide +kernel
theorem dX6_count_118 : decode cX6_count 118 = .ok (.invokevirtual 151, 3) := by decide +kernel
theorem dX6_count_121 : decode cX6_count 121 = .ok (.ireturn, 1) := by decide +kernel
theorem dX6_count_122 : decode cX6_count 122 = .ok (.aload_n 0, 1) := by decide +kernel
theorem dX6_count_123 : decode cX6_count 123 = .ok (.getfield 36, 3) := by decide +kernel
theorem dX6_count_126 : decode cX6_count 126 = .ok (.ireturn, 1) := by decide +kernel
theorem dX6_count_127 : decode cX6_count 127 = .ok (.aload_n 0, 1) := by decide +kernel
theorem dX6_count_128 : decode cX6_count 128 = .ok (.getfield 111, 3) := by decide +kernel
theorem dX6_count_131 : decode cX6_count 131 = .ok (.ireturn, 1) := by decide +kernel
theorem dX6_count_132 : decode cX6_count 132 = .ok (.iconst (-1), 1) := by decide +kernel
theorem dX6_count_133 : decode cX6_count 133 = .ok (.ireturn, 1) := by decide +kernel
set_option maxRecDepth 20000 in
theorem ggX6_row_X6_isRow : GoodIn wsX6_row wsX6_isRow := goodIn_r _ [6, 1, 7, 8, 5, 9, 17, 18, 19, 20, 21, 22, 23, 24, 25, 26, 27] (by decide +kernel) (by decide +kernel)
set_option maxRecDepth 20000 in
theorem gX6_row_X6_isRow : GoodIn wsX6_row (wsV RX6 72 RX6 yX6_isRow wsX6_isRow) := goodIn_app (goodIn_of _ (by decide +kernel)) ggX6_row_X6_isRow
set_option maxRecDepth 20000 in
theorem ggX6_row_X6_in : GoodIn wsX6_row wsX6_in := goodIn_r _ [9] (by decide +kernel) (by decide +kernel)
set_option maxRecDepth 20000 in
theorem gX6_row_X6_in : GoodIn wsX6_row (va_wsS RX6 28 yX6_in wsX6_in) := goodIn_app (goodIn_of _ (by decide +kernel)) ggX6_row_X6_in
set_option maxRecDepth 20000 in
theorem ggX6_row_X6_entries : GoodIn wsX6_row wsX6_entries := goodIn_r _ [13, 1, 17, 18, 19, 20, 21, 22, 23, 24, 25, 26, 27] (by decide +kernel) (by decide +kernel)
set_option maxRecDepth 20000 in
theorem gX6_row_X6_entries : GoodIn wsX6_row (wsV RX6 45 RX6 yX6_entries wsX6_entries) := goodIn_app (goodIn_of _ (by decide +kernel)) ggX6_row_X6_entries
set_option maxRecDepth 20000 in
theorem ggX6_row_X6_bits : GoodIn wsX6_row wsX6_bits := goodIn_r _ [16] (by decide +kernel) (by decide +kernel)
set_option maxRecDepth 20000 in
theorem gX6_row_X6_bits : GoodIn wsX6_row (va_wsS RX6 97 yX6_bits wsX6_bits) := goodIn_app (goodIn_of _ (by decide +kernel)) ggX6_row_X6_bits
theorem dX6_row_0 : decode cX6_row 0 = .ok (.aload_n 0, 1) := by decide +kernel
theorem dX6_row_1 : decode cX6_row 1 = .ok (.iload_n 1, 1) := by decide +kernel
theorem dX6_row_2 : decode cX6_row 2 = .ok (.invokevirtual 72, 3) := by decide +kernel
theorem dX6_row_5 : decode cX6_row 5 = .ok (.ifCond .eq 12, 3) := by decide +kernel
theorem dX6_row_8 : decode cX6_row 8 = .ok (.iload_n 2, 1) := by decide +kernel
theorem dX6_row_9 : decode cX6_row 9 = .ok (.iconst 0, 1) := by decide +kernel
theorem dX6_row_10 : decode cX6_row 10 = .ok (.iconst 4, 1) := by decide +kernel
theorem dX6_row_11 : decode cX6_row 11 = .ok (.invokestatic 28, 3) := by decide +kernel
theorem dX6_row_14 : decode cX6_row 14 = .ok (.ifCond .ne 5, 3) := by decide +kernel
theorem dX6_row_17 : decode cX6_row 17 = .ok (.iconst (-1), 1) := by decide +kernel
theorem dX6_row_18 : decode cX6_row 18 = .ok (.ireturn, 1) := by decide +kernel
theorem dX6_row_19 : decode cX6_row 19 = .ok (.aload_n 0, 1) := by decide +kernel
theorem dX6_row_20 : decode cX6_row 20 = .ok (.getfield 7, 3) := by decide +kernel
theorem dX6_row_23 : decode cX6_row 23 = .ok (.bipush 49, 2) := by decide +kernel
theorem dX6_row_25 : decode cX6_row 25 = .ok (.iload_n 1, 1) := by decide +kernel
theorem dX6_row_26 : decode cX6_row 26 = .ok (.iadd, 1) := by decide +kernel
theorem dX6_row_27 : decode cX6_row 27 = .ok (.iaload, 1) := by decide +kernel
theorem dX6_row_28 : decode cX6_row 28 = .ok (.istore_n 3, 1) := by decide +kernel
theorem dX6_row_29 : decode cX6_row 29 = .ok (.iload_n 2, 1) := by decide +kernel
theorem dX6_row_30 : decode cX6_row 30 = .ok (.tableswitch 79 0 3 #[30, 39, 48, 59], 30) := by decide +kernel
theorem dX6_row_60 : decode cX6_row 60 = .ok (.aload_n 0, 1) := by decide +kernel
theorem dX6_row_61 : decode cX6_row 61 = .ok (.getfield 7, 3) := by decide +kernel
theorem dX6_row_64 : decode cX6_row 64 = .ok (.iconst 1, 1) := by decide +kernel
theorem dX6_row_65 : decode cX6_row 65 = .ok (.iload_n 1, 1) := by decide +kernel
theorem dX6_row_66 : decode cX6_row 66 = .ok (.iadd, 1) := by decide +kernel
theorem dX6_row_67 : decode cX6_row 67 = .ok (.iaload, 1) := by decide +kernel
theorem dX6_row_68 : decode cX6_row 68 = .ok (.ireturn, 1) := by decide +kernel
theorem dX6_row_69 : decode cX6_row 69 = .ok (.aload_n 0, 1) := by decide +kernel
theorem dX6_row_70 : decode cX6_row 70 = .ok (.iload_n 1, 1) := by decide +kernel
theorem dX6_row_71 : decode cX6_row 71 = .ok (.invokevirtual 45, 3) := by decide +kernel
theorem dX6_row_74 : decode cX6_row 74 = .ok (.invokestatic 97, 3) := by decide +kernel
theorem dX6_row_77 : decode cX6_row 77 = .ok (.ireturn, 1) := by decide +kernel
theorem dX6_row_78 : decode cX6_row 78 = .ok (.iload_n 3, 1) := by decide +kernel
theorem dX6_row_79 : decode cX6_row 79 = .ok (.ifCond .ge 8, 3) := by decide +kernel
theorem dX6_row_82 : decode cX6_row 82 = .ok (.bipush (-9), 2) := by decide +kernel
theorem dX6_row_84 : decode cX6_row 84 = .ok (.goto 4, 3) := by decide +kernel
theorem dX6_row_87 : decode cX6_row 87 = .ok (.iload_n 3, 1) := by decide +kernel
theorem dX6_row_88 : decode cX6_row 88 = .ok (.ireturn, 1) := by decide +kernel
theorem dX6_row_89 : decode cX6_row 89 = .ok (.iload_n 3, 1) := by decide +kernel
theorem dX6_row_90 : decode cX6_row 90 = .ok (.ifCond .ge 8, 3) := by decide +kernel
theorem dX6_row_93 : decode cX6_row 93 = .ok (.bipush (-9), 2) := by decide +kernel
theorem dX6_row_95 : decode cX6_row 95 = .ok (.goto 13, 3) := by decide +kernel
theorem dX6_row_98 : decode cX6_row 98 = .ok (.aload_n 0, 1) := by decide +kernel
theorem dX6_row_99 : decode cX6_row 99 = .ok (.getfield 7, 3) := by decide +kernel
theorem dX6_row_102 : decode cX6_row 102 = .ok (.sipush 457, 3) := by decide +kernel
theorem dX6_row_105 : decode cX6_row 105 = .ok (.iload_n 3, 1) := by decide +kernel
theorem dX6_row_106 : decode cX6_row 106 = .ok (.iadd, 1) := by decide +kernel
theorem dX6_row_107 : decode cX6_row 107 = .ok (.iaload, 1) := by decide +kernel
theorem dX6_row_108 : decode cX6_row 108 = .ok (.ireturn, 1) := by decide +kernel
theorem dX6_row_109 : decode cX6_row 109 = .ok (.aload_n 0, 1) := by decide +kernel
theorem dX6_row_110 : decode cX6_row 110 = .ok (.iload_n 1, 1) := by decide +kernel
theorem dX6_row_111 : decode cX6_row 111 = .ok (.invokevirtual 45, 3) := by decide +kernel
theorem dX6_row_114 : decode cX6_row 114 = .ok (.ireturn, 1) := by decide +kernel
set_option maxRecDepth 20000 in
theorem ggX6_form_X6_in : GoodIn wsX6_form wsX6_in := goodIn_r _ [5] (by decide +kernel) (by decide +kernel)
set_option maxRecDepth 20000 in
theorem gX6_form_X6_in : GoodIn wsX6_form (va_wsS RX6 28 yX6_in wsX6_in) := goodIn_app (goodIn_of _ (by decide +kernel)) ggX6_form_X6_in
set_option maxRecDepth 20000 in
theorem ggX6_form_X6_entries : GoodIn wsX6_form wsX6_entries := goodIn_r _ [9, 1, 17, 18, 19, 20, 21, 22, 23, 24, 25, 26, 27] (by decide +kernel) (by decide +kernel)
set_option maxRecDepth 20000 in
theorem gX6_form_X6_entries : GoodIn wsX6_form (wsV RX6 45 RX6 yX6_entries wsX6_entries) := goodIn_app (goodIn_of _ (by decide +kernel)) ggX6_form_X6_entries
set_option maxRecDepth 20000 in
theorem ggX6_form_X6_bits : GoodIn wsX6_form wsX6_bits := goodIn_r _ [12] (by decide +kernel) (by decide +kernel)
set_option maxRecDepth 20000 in
theorem gX6_form_X6_bits : GoodIn wsX6_form (va_wsS RX6 97 yX6_bits wsX6_bits) := goodIn_app (goodIn_of _ (by decide +kernel)) ggX6_form_X6_bits
set_option maxRecDepth 20000 in
theorem ggX6_form_X6_sharers : GoodIn wsX6_form wsX6_sharers := goodIn_r _ [16, 1, 17, 18, 19, 20, 21, 22, 23, 24, 25, 26, 27] (by decide +kernel) (by decide +kernel)
set_option maxRecDepth 20000 in
theorem gX6_form_X6_sharers : GoodIn wsX6_form (wsV RX6 62 RX6 yX6_sharers wsX6_sharers) := goodIn_app (goodIn_of _ (by decide +kernel)) ggX6_form_X6_sharers
theorem dX6_form_0 : decode cX6_form 0 = .ok (.iload_n 1, 1) := by decide +kernel
theorem dX6_form_1 : decode cX6_form 1 = .ok (.iconst 0, 1) := by decide +kernel
theorem dX6_form_2 : decode cX6_form 2 = .ok (.bipush 23, 2) := by decide +kernel
theorem dX6_form_4 : decode cX6_form 4 = .ok (.invokestatic 28, 3) := by decide +kernel
theorem dX6_form_7 : decode cX6_form 7 = .ok (.ifCond .eq 12, 3) := by decide +kernel
theorem dX6_form_10 : decode cX6_form 10 = .ok (.iload_n 2, 1) := by decide +kernel
theorem dX6_form_11 : decode cX6_form 11 = .ok (.iconst 0, 1) := by decide +kernel
theorem dX6_form_12 : decode cX6_form 12 = .ok (.iconst 2, 1) := by decide +kernel
theorem dX6_form_13 : decode cX6_form 13 = .ok (.invokestatic 28, 3) := by decide +kernel
theorem dX6_form_16 : decode cX6_form 16 = .ok (.ifCond .ne 5, 3) := by decide +kernel
theorem dX6_form_19 : decode cX6_form 19 = .ok (.iconst (-1), 1) := by decide +kernel
theorem dX6_form_20 : decode cX6_form 20 = .ok (.ireturn, 1) := by decide +kernel
theorem dX6_form_21 : decode cX6_form 21 = .ok (.aload_n 0, 1) := by decide +kernel
theorem dX6_form_22 : decode cX6_form 22 = .ok (.getfield 7, 3) := by decide +kernel
theorem dX6_form_25 : decode cX6_form 25 = .ok (.sipush 457, 3) := by decide +kernel
theorem dX6_form_28 : decode cX6_form 28 = .ok (.iload_n 1, 1) := by decide +kernel
theorem dX6_form_29 : decode cX6_form 29 = .ok (.iadd, 1) := by decide +kernel
theorem dX6_form_30 : decode cX6_form 30 = .ok (.iaload, 1) := by decide +kernel
theorem dX6_form_31 : decode cX6_form 31 = .ok (.ifCond .ge 6, 3) := by decide +kernel
theorem dX6_form_34 : decode cX6_form 34 = .ok (.bipush (-9), 2) := by decide +kernel
theorem dX6_form_36 : decode cX6_form 36 = .ok (.ireturn, 1) := by decide +kernel
theorem dX6_form_37 : decode cX6_form 37 = .ok (.iconst 0, 1) := by decide +kernel
theorem dX6_form_38 : decode cX6_form 38 = .ok (.istore_n 3, 1) := by decide +kernel
theorem dX6_form_39 : decode cX6_form 39 = .ok (.iconst 0, 1) := by decide +kernel
theorem dX6_form_40 : decode cX6_form 40 = .ok (.istore 4, 2) := by decide +kernel
theorem dX6_form_42 : decode cX6_form 42 = .ok (.iload 4, 2) := by decide +kernel
theorem dX6_form_44 : decode cX6_form 44 = .ok (.aload_n 0, 1) := by decide +kernel
theorem dX6_form_45 : decode cX6_form 45 = .ok (.getfield 7, 3) := by decide +kernel
theorem dX6_form_48 : decode cX6_form 48 = .ok (.iconst 0, 1) := by decide +kernel
theorem dX6_form_49 : decode cX6_form 49 = .ok (.iaload, 1) := by decide +kernel
theorem dX6_form_50 : decode cX6_form 50 = .ok (.if_icmp .ge 37, 3) := by decide +kernel
theorem dX6_form_53 : decode cX6_form 53 = .ok (.aload_n 0, 1) := by decide +kernel
theorem dX6_form_54 : decode cX6_form 54 = .ok (.getfield 7, 3) := by decide +kernel
theorem dX6_form_57 : decode cX6_form 57 = .ok (.bipush 49, 2) := by decide +kernel
theorem dX6_form_59 : decode cX6_form 59 = .ok (.iload 4, 2) := by decide +kernel
theorem dX6_form_61 : decode cX6_form 61 = .ok (.iadd, 1) := by decide +kernel
theorem dX6_form_62 : decode cX6_form 62 = .ok (.iaload, 1) := by decide +kernel
theorem dX6_form_63 : decode cX6_form 63 = .ok (.iload_n 1, 1) := by decide +kernel
theorem dX6_form_64 : decode cX6_form 64 = .ok (.if_icmp .ne 15, 3) := by decide +kernel
theorem dX6_form_67 : decode cX6_form 67 = .ok (.aload_n 0, 1) := by decide +kernel
theorem dX6_form_68 : decode cX6_form 68 = .ok (.iload 4, 2) := by decide +kernel
theorem dX6_form_70 : decode cX6_form 70 = .ok (.invokevirtual 45, 3) := by decide +kernel
theorem dX6_form_73 : decode cX6_form 73 = .ok (.invokestatic 97, 3) := by decide +kernel
theorem dX6_form_76 : decode cX6_form 76 = .ok (.goto 4, 3) := by decide +kernel
theorem dX6_form_79 : decode cX6_form 79 = .ok (.iload_n 3, 1) := by decide +kernel
theorem dX6_form_80 : decode cX6_form 80 = .ok (.istore_n 3, 1) := by decide +kernel
theorem dX6_form_81 : decode cX6_form 81 = .ok (.iinc 4 1, 3) := by decide +kernel
theorem dX6_form_84 : decode cX6_form 84 = .ok (.goto (-42), 3) := by decide +kernel
theorem dX6_form_87 : decode cX6_form 87 = .ok (.iload_n 2, 1) := by decide +kernel
theorem dX6_form_88 : decode cX6_form 88 = .ok (.ifCond .ne 16, 3) := by decide +kernel
theorem dX6_form_91 : decode cX6_form 91 = .ok (.aload_n 0, 1) := by decide +kernel
theorem dX6_form_92 : decode cX6_form 92 = .ok (.getfield 7, 3) := by decide +kernel
theorem dX6_form_95 : decode cX6_form 95 = .ok (.sipush 457, 3) := by decide +kernel
theorem dX6_form_98 : decode cX6_form 98 = .ok (.iload_n 1, 1) := by decide +kernel
theorem dX6_form_99 : decode cX6_form 99 = .ok (.iadd, 1) := by decide +kernel
theorem dX6_form_100 : decode cX6_form 100 = .ok (.iaload, 1) := by decide +kernel
theorem dX6_form_101 : decode cX6_form 101 = .ok (.goto 17, 3) := by decide +kernel
theorem dX6_form_104 : decode cX6_form 104 = .ok (.iload_n 2, 1) := by decide +kernel
theorem dX6_form_105 : decode cX6_form 105 = .ok (.iconst 1, 1) := by decide +kernel
theorem dX6_form_106 : decode cX6_form 106 = .ok (.if_icmp .ne 11, 3) := by decide +kernel
theorem dX6_form_109 : decode cX6_form 109 = .ok (.aload_n 0, 1) := by decide +kernel
theorem dX6_form_110 : decode cX6_form 110 = .ok (.iload_n 1, 1) := by decide +kernel
theorem dX6_form_111 : decode cX6_form 111 = .ok (.invokevirtual 62, 3) := by decide +kernel
theorem dX6_form_114 : decode cX6_form 114 = .ok (.goto 4, 3) := by decide +kernel
theorem dX6_form_117 : decode cX6_form 117 = .ok (.iload_n 3, 1) := by decide +kernel
theorem dX6_form_118 : decode cX6_form 118 = .ok (.ireturn, 1) := by decide +kernel
set_option maxRecDepth 20000 in
theorem ggX6_cell_X6_in : GoodIn wsX6_cell wsX6_in := goodIn_r _ [6] (by decide +kernel) (by decide +kernel)
set_option maxRecDepth 20000 in
theorem gX6_cell_X6_in : GoodIn wsX6_cell (va_wsS RX6 28 yX6_in wsX6_in) := goodIn_app (goodIn_of _ (by decide +kernel)) ggX6_cell_X6_in
set_option maxRecDepth 20000 in
theorem ggX6_cell_X6_layStore : GoodIn wsX6_cell wsX6_layStore := goodIn_r _ [10, 1, 11, 2, 12, 13, 14, 5, 15, 16, 17, 18, 19, 20, 21, 22, 23, 24, 25, 26, 27, 28, 29] (by decide +kernel) (by decide +kernel)
set_option maxRecDepth 20000 in
theorem gX6_cell_X6_layStore : GoodIn wsX6_cell (wsV RX6 56 RX6 yX6_layStore wsX6_layStore) := goodIn_app (goodIn_of _ (by decide +kernel)) ggX6_cell_X6_layStore
theorem dX6_cell_0 : decode cX6_cell 0 = .ok (.iload_n 1, 1) := by decide +kernel
theorem dX6_cell_1 : decode cX6_cell 1 = .ok (.iconst 0, 1) := by decide +kernel
theorem dX6_cell_2 : decode cX6_cell 2 = .ok (.sipush 799, 3) := by decide +kernel
theorem dX6_cell_5 : decode cX6_cell 5 = .ok (.invokestatic 28, 3) := by decide +kernel
theorem dX6_cell_8 : decode cX6_cell 8 = .ok (.ifCond .eq 12, 3) := by decide +kernel
theorem dX6_cell_11 : decode cX6_cell 11 = .ok (.iload_n 2, 1) := by decide +kernel
theorem dX6_cell_12 : decode cX6_cell 12 = .ok (.iconst 0, 1) := by decide +kernel
theorem dX6_cell_13 : decode cX6_cell 13 = .ok (.iconst 1, 1) := by decide +kernel
theorem dX6_cell_14 : decode cX6_cell 14 = .ok (.invokestatic 28, 3) := by decide +kernel
theorem dX6_cell_17 : decode cX6_cell 17 = .ok (.ifCond .ne 5, 3) := by decide +kernel
theorem dX6_cell_20 : decode cX6_cell 20 = .ok (.iconst (-1), 1) := by decide +kernel
theorem dX6_cell_21 : decode cX6_cell 21 = .ok (.ireturn, 1) := by decide +kernel
theorem dX6_cell_22 : decode cX6_cell 22 = .ok (.aload_n 0, 1) := by decide +kernel
theorem dX6_cell_23 : decode cX6_cell 23 = .ok (.invokevirtual 56, 3) := by decide +kernel
theorem dX6_cell_26 : decode cX6_cell 26 = .ok (.aload_n 0, 1) := by decide +kernel
theorem dX6_cell_27 : decode cX6_cell 27 = .ok (.getfield 19, 3) := by decide +kernel
theorem dX6_cell_30 : decode cX6_cell 30 = .ok (.iload_n 1, 1) := by decide +kernel
theorem dX6_cell_31 : decode cX6_cell 31 = .ok (.iaload, 1) := by decide +kernel
theorem dX6_cell_32 : decode cX6_cell 32 = .ok (.iconst (-1), 1) := by decide +kernel
theorem dX6_cell_33 : decode cX6_cell 33 = .ok (.if_icmp .ne 8, 3) := by decide +kernel
theorem dX6_cell_36 : decode cX6_cell 36 = .ok (.bipush (-9), 2) := by decide +kernel
theorem dX6_cell_38 : decode cX6_cell 38 = .ok (.goto 22, 3) := by decide +kernel
theorem dX6_cell_41 : decode cX6_cell 41 = .ok (.iload_n 2, 1) := by decide +kernel
theorem dX6_cell_42 : decode cX6_cell 42 = .ok (.ifCond .ne 12, 3) := by decide +kernel
theorem dX6_cell_45 : decode cX6_cell 45 = .ok (.aload_n 0, 1) := by decide +kernel
theorem dX6_cell_46 : decode cX6_cell 46 = .ok (.getfield 22, 3) := by decide +kernel
theorem dX6_cell_49 : decode cX6_cell 49 = .ok (.iload_n 1, 1) := by decide +kernel
theorem dX6_cell_50 : decode cX6_cell 50 = .ok (.iaload, 1) := by decide +kernel
theorem dX6_cell_51 : decode cX6_cell 51 = .ok (.goto 9, 3) := by decide +kernel
theorem dX6_cell_54 : decode cX6_cell 54 = .ok (.aload_n 0, 1) := by decide +kernel
theorem dX6_cell_55 : decode cX6_cell 55 = .ok (.getfield 19, 3) := by decide +kernel
theorem dX6_cell_58 : decode cX6_cell 58 = .ok (.iload_n 1, 1) := by decide +kernel
theorem dX6_cell_59 : decode cX6_cell 59 = .ok (.iaload, 1) := by decide +kernel
theorem dX6_cell_60 : decode cX6_cell 60 = .ok (.ireturn, 1) := by decide +kernel
set_option maxRecDepth 20000 in
theorem ggX6_fit_X6_in : GoodIn wsX6_fit wsX6_in := goodIn_r _ [5] (by decide +kernel) (by decide +kernel)
set_option maxRecDepth 20000 in
theorem gX6_fit_X6_in : GoodIn wsX6_fit (va_wsS RX6 28 yX6_in wsX6_in) := goodIn_app (goodIn_of _ (by decide +kernel)) ggX6_fit_X6_in
set_option maxRecDepth 20000 in
theorem ggX6_fit_X6_layStore : GoodIn wsX6_fit wsX6_layStore := goodIn_r _ [9, 10, 11, 12, 13, 14, 15, 4, 16, 17, 18, 19, 24, 25, 26, 27, 28, 29, 30, 31, 32, 33, 34] (by decide +kernel) (by decide +kernel)
set_option maxRecDepth 20000 in
theorem gX6_fit_X6_layStore : GoodIn wsX6_fit (wsV RX6 56 RX6 yX6_layStore wsX6_layStore) := goodIn_app (goodIn_of _ (by decide +kernel)) ggX6_fit_X6_layStore
set_option maxRecDepth 20000 in
theorem ggX6_fit_X6_fits : GoodIn wsX6_fit wsX6_fits := goodIn_r _ [23, 10, 17, 18, 4, 19, 24, 25, 26, 27, 28, 29, 30, 31, 32, 33, 34] (by decide +kernel) (by decide +kernel)
set_option maxRecDepth 20000 in
theorem gX6_fit_X6_fits : GoodIn wsX6_fit (wsV RX6 59 RX6 yX6_fits wsX6_fits) := goodIn_app (goodIn_of _ (by decide +kernel)) ggX6_fit_X6_fits
theorem dX6_fit_0 : decode cX6_fit 0 = .ok (.iload_n 1, 1) := by decide +kernel
theorem dX6_fit_1 : decode cX6_fit 1 = .ok (.iconst 1, 1) := by decide +kernel
theorem dX6_fit_2 : decode cX6_fit 2 = .ok (.ldc 154, 2) := by decide +kernel
theorem dX6_fit_4 : decode cX6_fit 4 = .ok (.invokestatic 28, 3) := by decide +kernel
theorem dX6_fit_7 : decode cX6_fit 7 = .ok (.ifCond .ne 5, 3) := by decide +kernel
theorem dX6_fit_10 : decode cX6_fit 10 = .ok (.iconst (-1), 1) := by decide +kernel
theorem dX6_fit_11 : decode cX6_fit 11 = .ok (.ireturn, 1) := by decide +kernel
theorem dX6_fit_12 : decode cX6_fit 12 = .ok (.aload_n 0, 1) := by decide +kernel
theorem dX6_fit_13 : decode cX6_fit 13 = .ok (.invokevirtual 56, 3) := by decide +kernel
theorem dX6_fit_16 : decode cX6_fit 16 = .ok (.aload_n 0, 1) := by decide +kernel
theorem dX6_fit_17 : decode cX6_fit 17 = .ok (.iload_n 1, 1) := by decide +kernel
theorem dX6_fit_18 : decode cX6_fit 18 = .ok (.invokevirtual 59, 3) := by decide +kernel
theorem dX6_fit_21 : decode cX6_fit 21 = .ok (.ireturn, 1) := by decide +kernel
set_option maxRecDepth 20000 in
theorem ggX6_endBy_X6_in : GoodIn wsX6_endBy wsX6_in := goodIn_r _ [4] (by decide +kernel) (by decide +kernel)
set_option maxRecDepth 20000 in
theorem gX6_endBy_X6_in : GoodIn wsX6_endBy (va_wsS RX6 28 yX6_in wsX6_in) := goodIn_app (goodIn_of _ (by decide +kernel)) ggX6_endBy_X6_in
set_option maxRecDepth 20000 in
theorem ggX6_endBy_X6_copy : GoodIn wsX6_endBy wsX6_copy := goodIn_r _ [8, 9, 10, 51, 52, 53, 54, 55, 56, 57, 58, 59, 60, 61] (by decide +kernel) (by decide +kernel)
set_option maxRecDepth 20000 in
theorem gX6_endBy_X6_copy : GoodIn wsX6_endBy (wsV RX6 39 RX6 yX6_copy wsX6_copy) := goodIn_app (goodIn_of _ (by decide +kernel)) ggX6_endBy_X6_copy
set_option maxRecDepth 20000 in
theorem ggX6_endBy_X6_pushes : GoodIn wsX6_endBy wsX6_pushes := goodIn_r _ [14, 10, 15, 16, 17, 3, 18, 19, 20, 21, 22, 23, 24, 25, 26, 27, 28, 29, 30, 31, 32, 33, 34, 35, 36, 37, 38, 39, 40, 41, 42, 51, 52, 53, 54, 55, 56, 57, 58, 59, 60, 61] (by decide +kernel) (by decide +kernel)
set_option maxRecDepth 20000 in
theorem gX6_endBy_X6_pushes : GoodIn wsX6_endBy (wsV RX6 103 RX6 yX6_pushes wsX6_pushes) := goodIn_app (goodIn_of _ (by decide +kernel)) ggX6_endBy_X6_pushes
set_option maxRecDepth 20000 in
theorem ggX6_endBy_X6_end : GoodIn wsX6_endBy wsX6_end := goodIn_r _ [46, 37, 33, 34, 35, 3, 36, 10, 38, 15, 16, 17, 18, 30, 31, 32, 51, 52, 53, 54, 55, 56, 57, 58, 59, 60, 61] (by decide +kernel) (by decide +kernel)
set_option maxRecDepth 20000 in
theorem gX6_endBy_X6_end : GoodIn wsX6_endBy (wsV RX6 107 RX6 yX6_end wsX6_end) := goodIn_app (goodIn_of _ (by decide +kernel)) ggX6_endBy_X6_end
set_option maxRecDepth 20000 in
theorem ggX6_endBy_X6_back : GoodIn wsX6_endBy wsX6_back := goodIn_r _ [50, 10, 9, 51, 52, 53, 54, 55, 56, 57, 58, 59, 60, 61] (by decide +kernel) (by decide +kernel)
set_option maxRecDepth 20000 in
theorem gX6_endBy_X6_back : GoodIn wsX6_endBy (wsV RX6 142 RX6 yX6_back wsX6_back) := goodIn_app (goodIn_of _ (by decide +kernel)) ggX6_endBy_X6_back
theorem dX6_endBy_0 : decode cX6_endBy 0 = .ok (.iload_n 1, 1) := by decide +kernel
theorem dX6_endBy_1 : decode cX6_endBy 1 = .ok (.iconst 0, 1) := by decide +kernel
theorem dX6_endBy_2 : decode cX6_endBy 2 = .ok (.iconst 1, 1) := by decide +kernel
theorem dX6_endBy_3 : decode cX6_endBy 3 = .ok (.invokestatic 28, 3) := by decide +kernel
theorem dX6_endBy_6 : decode cX6_endBy 6 = .ok (.ifCond .ne 5, 3) := by decide +kernel
theorem dX6_endBy_9 : decode cX6_endBy 9 = .ok (.iconst (-1), 1) := by decide +kernel
theorem dX6_endBy_10 : decode cX6_endBy 10 = .ok (.ireturn, 1) := by decide +kernel
theorem dX6_endBy_11 : decode cX6_endBy 11 = .ok (.aload_n 0, 1) := by decide +kernel
theorem dX6_endBy_12 : decode cX6_endBy 12 = .ok (.invokevirtual 39, 3) := by decide +kernel
theorem dX6_endBy_15 : decode cX6_endBy 15 = .ok (.aload_n 0, 1) := by decide +kernel
theorem dX6_endBy_16 : decode cX6_endBy 16 = .ok (.iload_n 1, 1) := by decide +kernel
theorem dX6_endBy_17 : decode cX6_endBy 17 = .ok (.ifCond .ne 7, 3) := by decide +kernel
theorem dX6_endBy_20 : decode cX6_endBy 20 = .ok (.iconst 1, 1) := by decide +kernel
theorem dX6_endBy_21 : decode cX6_endBy 21 = .ok (.goto 4, 3) := by decide +kernel
theorem dX6_endBy_24 : decode cX6_endBy 24 = .ok (.iconst 0, 1) := by decide +kernel
theorem dX6_endBy_25 : decode cX6_endBy 25 = .ok (.invokevirtual 103, 3) := by decide +kernel
theorem dX6_endBy_28 : decode cX6_endBy 28 = .ok (.aload_n 0, 1) := by decide +kernel
theorem dX6_endBy_29 : decode cX6_endBy 29 = .ok (.invokevirtual 107, 3) := by decide +kernel
theorem dX6_endBy_32 : decode cX6_endBy 32 = .ok (.istore_n 2, 1) := by decide +kernel
theorem dX6_endBy_33 : decode cX6_endBy 33 = .ok (.aload_n 0, 1) := by decide +kernel
theorem dX6_endBy_34 : decode cX6_endBy 34 = .ok (.invokevirtual 142, 3) := by decide +kernel
theorem dX6_endBy_37 : decode cX6_endBy 37 = .ok (.iload_n 2, 1) := by decide +kernel
theorem dX6_endBy_38 : decode cX6_endBy 38 = .ok (.ireturn, 1) := by decide +kernel
set_option maxRecDepth 20000 in
theorem ggX6_slimmer_X6_entries : GoodIn wsX6_slimmer wsX6_entries := goodIn_r _ [6, 1, 25, 26, 27, 28, 29, 30, 31, 32, 33, 34, 35] (by decide +kernel) (by decide +kernel)
set_option maxRecDepth 20000 in
theorem gX6_slimmer_X6_entries : GoodIn wsX6_slimmer (wsV RX6 45 RX6 yX6_entries wsX6_entries) := goodIn_app (goodIn_of _ (by decide +kernel)) ggX6_slimmer_X6_entries
set_option maxRecDepth 20000 in
theorem ggX6_slimmer_X6_bits : GoodIn wsX6_slimmer wsX6_bits := goodIn_r _ [9] (by decide +kernel) (by decide +kernel)
set_option maxRecDepth 20000 in
theorem gX6_slimmer_X6_bits : GoodIn wsX6_slimmer (va_wsS RX6 97 yX6_bits wsX6_bits) := goodIn_app (goodIn_of _ (by decide +kernel)) ggX6_slimmer_X6_bits
set_option maxRecDepth 20000 in
theorem ggX6_slimmer_X6_most : GoodIn wsX6_slimmer wsX6_most := goodIn_r _ [13, 14, 15, 16, 5, 17, 1, 2, 3, 4, 6, 18, 19, 20, 25, 26, 27, 28, 29, 30, 31, 32, 33, 34, 35] (by decide +kernel) (by decide +kernel)
set_option maxRecDepth 20000 in
theorem gX6_slimmer_X6_most : GoodIn wsX6_slimmer (wsV RX6 100 RX6 yX6_most wsX6_most) := goodIn_app (goodIn_of _ (by decide +kernel)) ggX6_slimmer_X6_most
set_option maxRecDepth 20000 in
theorem ggX6_slimmer_X6_entriesBy : GoodIn wsX6_slimmer wsX6_entriesBy := goodIn_r _ [24, 2, 3, 4, 5, 6, 1, 18, 19, 20, 14, 15, 16, 17, 25, 26, 27, 28, 29, 30, 31, 32, 33, 34, 35] (by decide +kernel) (by decide +kernel)
set_option maxRecDepth 20000 in
theorem gX6_slimmer_X6_entriesBy : GoodIn wsX6_slimmer (wsV RX6 93 RX6 yX6_entriesBy wsX6_entriesBy) := goodIn_app (goodIn_of _ (by decide +kernel)) ggX6_slimmer_X6_entriesBy
theorem dX6_slimmer_0 : decode cX6_slimmer 0 = .ok (.iconst 0, 1) := by decide +kernel
theorem dX6_slimmer_1 : decode cX6_slimmer 1 = .ok (.istore_n 1, 1) := by decide +kernel
theorem dX6_slimmer_2 : decode cX6_slimmer 2 = .ok (.iconst 0, 1) := by decide +kernel
theorem dX6_slimmer_3 : decode cX6_slimmer 3 = .ok (.istore_n 2, 1) := by decide +kernel
theorem dX6_slimmer_4 : decode cX6_slimmer 4 = .ok (.iload_n 2, 1) := by decide +kernel
theorem dX6_slimmer_5 : decode cX6_slimmer 5 = .ok (.aload_n 0, 1) := by decide +kernel
theorem dX6_slimmer_6 : decode cX6_slimmer 6 = .ok (.getfield 7, 3) := by decide +kernel
theorem dX6_slimmer_9 : decode cX6_slimmer 9 = .ok (.iconst 0, 1) := by decide +kernel
theorem dX6_slimmer_10 : decode cX6_slimmer 10 = .ok (.iaload, 1) := by decide +kernel
theorem dX6_slimmer_11 : decode cX6_slimmer 11 = .ok (.if_icmp .ge 35, 3) := by decide +kernel
theorem dX6_slimmer_14 : decode cX6_slimmer 14 = .ok (.iload_n 1, 1) := by decide +kernel
theorem dX6_slimmer_15 : decode cX6_slimmer 15 = .ok (.aload_n 0, 1) := by decide +kernel
theorem dX6_slimmer_16 : decode cX6_slimmer 16 = .ok (.iload_n 2, 1) := by decide +kernel
theorem dX6_slimmer_17 : decode cX6_slimmer 17 = .ok (.invokevirtual 45, 3) := by decide +kernel
theorem dX6_slimmer_20 : decode cX6_slimmer 20 = .ok (.invokestatic 97, 3) := by decide +kernel
theorem dX6_slimmer_23 : decode cX6_slimmer 23 = .ok (.aload_n 0, 1) := by decide +kernel
theorem dX6_slimmer_24 : decode cX6_slimmer 24 = .ok (.iload_n 2, 1) := by decide +kernel
theorem dX6_slimmer_25 : decode cX6_slimmer 25 = .ok (.aload_n 0, 1) := by decide +kernel
theorem dX6_slimmer_26 : decode cX6_slimmer 26 = .ok (.iload_n 2, 1) := by decide +kernel
theorem dX6_slimmer_27 : decode cX6_slimmer 27 = .ok (.invokevirtual 100, 3) := by decide +kernel
theorem dX6_slimmer_30 : decode cX6_slimmer 30 = .ok (.iconst 1, 1) := by decide +kernel
theorem dX6_slimmer_31 : decode cX6_slimmer 31 = .ok (.invokevirtual 93, 3) := by decide +kernel
theorem dX6_slimmer_34 : decode cX6_slimmer 34 = .ok (.invokestatic 97, 3) := by decide +kernel
theorem dX6_slimmer_37 : decode cX6_slimmer 37 = .ok (.isub, 1) := by decide +kernel
theorem dX6_slimmer_38 : decode cX6_slimmer 38 = .ok (.iadd, 1) := by decide +kernel
theorem dX6_slimmer_39 : decode cX6_slimmer 39 = .ok (.istore_n 1, 1) := by decide +kernel
theorem dX6_slimmer_40 : decode cX6_slimmer 40 = .ok (.iinc 2 1, 3) := by decide +kernel
theorem dX6_slimmer_43 : decode cX6_slimmer 43 = .ok (.goto (-39), 3) := by decide +kernel
theorem dX6_slimmer_46 : decode cX6_slimmer 46 = .ok (.iload_n 1, 1) := by decide +kernel
theorem dX6_slimmer_47 : decode cX6_slimmer 47 = .ok (.ireturn, 1) := by decide +kernel
set_option maxRecDepth 20000 in
theorem ggX6_like_X6_isRow : GoodIn wsX6_like wsX6_isRow := goodIn_r _ [6, 1, 7, 8, 5, 9, 21, 22, 23, 24, 25, 26, 27, 28, 29, 30, 31] (by decide +kernel) (by decide +kernel)
set_option maxRecDepth 20000 in
theorem gX6_like_X6_isRow : GoodIn wsX6_like (wsV RX6 72 RX6 yX6_isRow wsX6_isRow) := goodIn_app (goodIn_of _ (by decide +kernel)) ggX6_like_X6_isRow
set_option maxRecDepth 20000 in
theorem ggX6_like_X6_valueOf : GoodIn wsX6_like wsX6_valueOf := goodIn_r _ [13, 1, 14, 15, 16, 5, 17, 18, 19, 20, 21, 22, 23, 24, 25, 26, 27, 28, 29, 30, 31] (by decide +kernel) (by decide +kernel)
set_option maxRecDepth 20000 in
theorem gX6_like_X6_valueOf : GoodIn wsX6_like (wsV RX6 76 RX6 yX6_valueOf wsX6_valueOf) := goodIn_app (goodIn_of _ (by decide +kernel)) ggX6_like_X6_valueOf
theorem dX6_like_0 : decode cX6_like 0 = .ok (.aload_n 0, 1) := by decide +kernel
theorem dX6_like_1 : decode cX6_like 1 = .ok (.iload_n 1, 1) := by decide +kernel
theorem dX6_like_2 : decode cX6_like 2 = .ok (.invokevirtual 72, 3) := by decide +kernel
theorem dX6_like_5 : decode cX6_like 5 = .ok (.ifCond .ne 5, 3) := by decide +kernel
theorem dX6_like_8 : decode cX6_like 8 = .ok (.iconst (-1), 1) := by decide +kernel
theorem dX6_like_9 : decode cX6_like 9 = .ok (.ireturn, 1) := by decide +kernel
theorem dX6_like_10 : decode cX6_like 10 = .ok (.bipush (-9), 2) := by decide +kernel
theorem dX6_like_12 : decode cX6_like 12 = .ok (.istore_n 2, 1) := by decide +kernel
theorem dX6_like_13 : decode cX6_like 13 = .ok (.iconst (-1), 1) := by decide +kernel
theorem dX6_like_14 : decode cX6_like 14 = .ok (.istore_n 3, 1) := by decide +kernel
theorem dX6_like_15 : decode cX6_like 15 = .ok (.iconst 0, 1) := by decide +kernel
theorem dX6_like_16 : decode cX6_like 16 = .ok (.istore 4, 2) := by decide +kernel
theorem dX6_like_18 : decode cX6_like 18 = .ok (.iload 4, 2) := by decide +kernel
theorem dX6_like_20 : decode cX6_like 20 = .ok (.aload_n 0, 1) := by decide +kernel
theorem dX6_like_21 : decode cX6_like 21 = .ok (.getfield 7, 3) := by decide +kernel
theorem dX6_like_24 : decode cX6_like 24 = .ok (.iconst 0, 1) := by decide +kernel
theorem dX6_like_25 : decode cX6_like 25 = .ok (.iaload, 1) := by decide +kernel
theorem dX6_like_26 : decode cX6_like 26 = .ok (.if_icmp .ge 74, 3) := by decide +kernel
theorem dX6_like_29 : decode cX6_like 29 = .ok (.iconst 0, 1) := by decide +kernel
theorem dX6_like_30 : decode cX6_like 30 = .ok (.istore 5, 2) := by decide +kernel
theorem dX6_like_32 : decode cX6_like 32 = .ok (.iconst 0, 1) := by decide +kernel
theorem dX6_like_33 : decode cX6_like 33 = .ok (.istore 6, 2) := by decide +kernel
theorem dX6_like_35 : decode cX6_like 35 = .ok (.iload 6, 2) := by decide +kernel
theorem dX6_like_37 : decode cX6_like 37 = .ok (.bipush 16, 2) := by decide +kernel
theorem dX6_like_39 : decode cX6_like 39 = .ok (.if_icmp .ge 37, 3) := by decide +kernel
theorem dX6_like_42 : decode cX6_like 42 = .ok (.iload 5, 2) := by decide +kernel
theorem dX6_like_44 : decode cX6_like 44 = .ok (.aload_n 0, 1) := by decide +kernel
theorem dX6_like_45 : decode cX6_like 45 = .ok (.iload 4, 2) := by decide +kernel
theorem dX6_like_47 : decode cX6_like 47 = .ok (.iload 6, 2) := by decide +kernel
theorem dX6_like_49 : decode cX6_like 49 = .ok (.invokevirtual 76, 3) := by decide +kernel
theorem dX6_like_52 : decode cX6_like 52 = .ok (.aload_n 0, 1) := by decide +kernel
theorem dX6_like_53 : decode cX6_like 53 = .ok (.iload_n 1, 1) := by decide +kernel
theorem dX6_like_54 : decode cX6_like 54 = .ok (.iload 6, 2) := by decide +kernel
theorem dX6_like_56 : decode cX6_like 56 = .ok (.invokevirtual 76, 3) := by decide +kernel
theorem dX6_like_59 : decode cX6_like 59 = .ok (.if_icmp .ne 7, 3) := by decide +kernel
theorem dX6_like_62 : decode cX6_like 62 = .ok (.iconst 1, 1) := by decide +kernel
theorem dX6_like_63 : decode cX6_like 63 = .ok (.goto 4, 3) := by decide +kernel
theorem dX6_like_66 : decode cX6_like 66 = .ok (.iconst 0, 1) := by decide +kernel
theorem dX6_like_67 : decode cX6_like 67 = .ok (.iadd, 1) := by decide +kernel
theorem dX6_like_68 : decode cX6_like 68 = .ok (.istore 5, 2) := by decide +kernel
theorem dX6_like_70 : decode cX6_like 70 = .ok (.iinc 6 1, 3) := by decide +kernel
theorem dX6_like_73 : decode cX6_like 73 = .ok (.goto (-38), 3) := by decide +kernel
theorem dX6_like_76 : decode cX6_like 76 = .ok (.iload 4, 2) := by decide +kernel
theorem dX6_like_78 : decode cX6_like 78 = .ok (.iload_n 1, 1) := by decide +kernel
theorem dX6_like_79 : decode cX6_like 79 = .ok (.if_icmp .eq 15, 3) := by decide +kernel
theorem dX6_like_82 : decode cX6_like 82 = .ok (.iload 5, 2) := by decide +kernel
theorem dX6_like_84 : decode cX6_like 84 = .ok (.iload_n 3, 1) := by decide +kernel
theorem dX6_like_85 : decode cX6_like 85 = .ok (.if_icmp .le 9, 3) := by decide +kernel
theorem dX6_like_88 : decode cX6_like 88 = .ok (.iload 4, 2) := by decide +kernel
theorem dX6_like_90 : decode cX6_like 90 = .ok (.istore_n 2, 1) := by decide +kernel
theorem dX6_like_91 : decode cX6_like 91 = .ok (.iload 5, 2) := by decide +kernel
theorem dX6_like_93 : decode cX6_like 93 = .ok (.istore_n 3, 1) := by decide +kernel
theorem dX6_like_94 : decode cX6_like 94 = .ok (.iinc 4 1, 3) := by decide +kernel
theorem dX6_like_97 : decode cX6_like 97 = .ok (.goto (-79), 3) := by decide +kernel
theorem dX6_like_100 : decode cX6_like 100 = .ok (.iload_n 2, 1) := by decide +kernel
theorem dX6_like_101 : decode cX6_like 101 = .ok (.ireturn, 1) := by decide +kernel
end
section
/-! rows on bits, shifts and unsigned numbers, to paste: each family out of a closed proof of our own, whole with what it rests on; each by itself clean at Lean in its own claim (generation 39, form 5). Take a family whole -/
/-! ===== Int32 by its bits: bt x i ===== -/
def bt (x : Int32) (i : Nat) : Bool := x.toBitVec.getLsbD i
theorem b_ext {x y : Int32} (h : ∀ i, i < 32 → bt x i = bt y i) : x = y := Int32.toBitVec_inj.mp (BitVec.eq_of_getLsbD_eq (fun i hi => h i hi))
theorem b_or (x y : Int32) (i : Nat) : bt (x ||| y) i = (bt x i || bt y i) := by unfold bt; rw [Int32.toBitVec_or, BitVec.getLsbD_or]
theorem b_and (x y : Int32) (i : Nat) : bt (x &&& y) i = (bt x i && bt y i) := by unfold bt; rw [Int32.toBitVec_and, BitVec.getLsbD_and]
theorem b_xor (x y : Int32) (i : Nat) : bt (x ^^^ y) i = (bt x i ^^ bt y i) := by unfold bt; rw [Int32.toBitVec_xor, BitVec.getLsbD_xor]
theorem b_big {x : Int32} {i : Nat} (h : 32 ≤ i) : bt x i = false := BitVec.getLsbD_of_ge _ _ h
theorem b_255 (i : Nat) : bt 255 i = decide (i < 8) := by
  rcases Nat.lt_or_ge i 32 with h | h
  · exact (by decide +kernel : ∀ i, i < 32 → bt 255 i = decide (i < 8)) i h
  · rw [b_big h, decide_eq_false (by omega)]
theorem b_65535 (i : Nat) : bt 65535 i = decide (i < 16) := by
  rcases Nat.lt_or_ge i 32 with h | h
  · exact (by decide +kernel : ∀ i, i < 32 → bt 65535 i = decide (i < 16)) i h
  · rw [b_big h, decide_eq_false (by omega)]
theorem b_m1 : ∀ i, i < 32 → bt (-1) i = true := by decide +kernel
theorem b_0 (i : Nat) : bt 0 i = false := BitVec.getLsbD_zero
theorem s_l : ∀ n, n < 32 → ((nI n &&& 31).toBitVec.smod 32).toNat = n := by decide +kernel
theorem s_u : ∀ n, n < 32 → (((nI n).toUInt32 &&& Int32.toUInt32 31).toBitVec % 32).toNat = n := by decide +kernel
theorem b_shl (n : Nat) (hn : n < 32) (x : Int32) {i : Nat} (hi : i < 32) : bt (x <<< (nI n &&& 31)) i = (decide (n ≤ i) && bt x (i - n)) := by
  unfold bt
  rw [Int32.toBitVec_shiftLeft]
  show (x.toBitVec <<< ((nI n &&& 31).toBitVec.smod 32).toNat).getLsbD i = _
  rw [s_l n hn, BitVec.getLsbD_shiftLeft]
  rcases Nat.lt_or_ge i n with h | h
  · simp [h, Nat.not_le.mpr h]
  · simp [hi, h, Nat.not_lt.mpr h]
theorem b_ushr (n : Nat) (hn : n < 32) (x : Int32) (i : Nat) : bt ((x.toUInt32 >>> ((nI n).toUInt32 &&& Int32.toUInt32 31)).toInt32) i = bt x (n + i) := by
  show (x.toUInt32 >>> ((nI n).toUInt32 &&& Int32.toUInt32 31)).toBitVec.getLsbD i = x.toUInt32.toBitVec.getLsbD (n + i)
  rw [UInt32.toBitVec_shiftRight]
  show (x.toUInt32.toBitVec >>> (((nI n).toUInt32 &&& Int32.toUInt32 31).toBitVec % 32).toNat).getLsbD i = _
  rw [s_u n hn, BitVec.getLsbD_ushiftRight]
theorem b_sshr (n : Nat) (hn : n < 32) (x : Int32) {i : Nat} (hi : i < 32) : bt (x >>> (nI n &&& 31)) i = if n + i < 32 then bt x (n + i) else bt x 31 := by
  unfold bt
  rw [Int32.toBitVec_shiftRight]
  show (x.toBitVec.sshiftRight ((nI n &&& 31).toBitVec.smod 32).toNat).getLsbD i = _
  rw [s_l n hn, BitVec.getLsbD_sshiftRight, BitVec.msb_eq_getLsbD_last]
  simp [hi]
theorem b_shl8 (x : Int32) {i : Nat} (hi : i < 32) : bt (x <<< ((8 : Int32) &&& 31)) i = (decide (8 ≤ i) && bt x (i - 8)) := b_shl 8 (by omega) x hi
theorem b_shl16 (x : Int32) {i : Nat} (hi : i < 32) : bt (x <<< ((16 : Int32) &&& 31)) i = (decide (16 ≤ i) && bt x (i - 16)) := b_shl 16 (by omega) x hi
theorem b_shl24 (x : Int32) {i : Nat} (hi : i < 32) : bt (x <<< ((24 : Int32) &&& 31)) i = (decide (24 ≤ i) && bt x (i - 24)) := b_shl 24 (by omega) x hi
theorem b_sshr8 (x : Int32) {i : Nat} (hi : i < 32) : bt (x >>> ((8 : Int32) &&& 31)) i = if 8 + i < 32 then bt x (8 + i) else bt x 31 := b_sshr 8 (by omega) x hi
/-! ===== nI under and, xor, >>>, one bit, 65535 ===== -/
theorem nx_and (a b : Nat) : nI a &&& nI b = nI (a &&& b) := by
  apply Int32.toBitVec_inj.1
  show BitVec.ofNat 32 a &&& BitVec.ofNat 32 b = BitVec.ofNat 32 (a &&& b)
  apply BitVec.eq_of_getLsbD_eq
  intro i hi
  simp [hi]
theorem nx_xor (a b : Nat) : nI a ^^^ nI b = nI (a ^^^ b) := by
  apply Int32.toBitVec_inj.1
  show BitVec.ofNat 32 a ^^^ BitVec.ofNat 32 b = BitVec.ofNat 32 (a ^^^ b)
  apply BitVec.eq_of_getLsbD_eq
  intro i hi
  simp [hi]
theorem nx_cnt : ∀ j : Fin 32, (UInt32.ofNat j.val &&& Int32.toUInt32 31).toNat % 32 = j.val := by decide +kernel
theorem nx_ush {k j : Nat} (hk : k < 65536) (hj : j < 32) : ((nI k).toUInt32 >>> ((nI j).toUInt32 &&& Int32.toUInt32 31)).toInt32 = nI (k >>> j) := by
  have hs : k >>> j ≤ k := by
    rw [Nat.shiftRight_eq_div_pow]
    exact Nat.div_le_self _ _
  have e2 : UInt32.ofNat k >>> (UInt32.ofNat j &&& Int32.toUInt32 31) = UInt32.ofNat (k >>> j) := by
    apply UInt32.toNat_inj.1
    have h1 : (UInt32.ofNat k).toNat = k := Nat.mod_eq_of_lt (by omega)
    have h2 : (UInt32.ofNat (k >>> j)).toNat = k >>> j := Nat.mod_eq_of_lt (by omega)
    rw [UInt32.toNat_shiftRight, nx_cnt ⟨j, hj⟩, h1, h2]
  show (UInt32.ofNat k >>> (UInt32.ofNat j &&& Int32.toUInt32 31)).toInt32 = _
  rw [e2]
  rfl
theorem nx_bit {k j : Nat} (hk : k < 65536) (hj : j < 16) : (((nI k).toUInt32 >>> ((nI j).toUInt32 &&& Int32.toUInt32 31)).toInt32 &&& 1) = 0 ↔ k.testBit j = false := by
  rw [nx_ush hk (by omega)]
  show nI (k >>> j) &&& nI 1 = 0 ↔ _
  rw [nx_and, Nat.and_one_is_mod, ← nI_0, nI_eq (by omega) (by omega), Nat.testBit_eq_decide_div_mod_eq, Nat.shiftRight_eq_div_pow, decide_eq_false_iff_not]
  generalize k / 2 ^ j = z
  omega
theorem nx_mod (k : Nat) : nI k &&& 65535 = nI (k % 65536) := by
  show nI k &&& nI 65535 = _
  rw [nx_and, show (65535 : Nat) = 2 ^ 16 - 1 from rfl, Nat.and_two_pow_sub_one_eq_mod]
theorem nx_m16 {k : Nat} (h : k < 65536) : nI k &&& 65535 = nI k := by rw [nx_mod, Nat.mod_eq_of_lt h]
theorem nx_mask (x : Int32) : ∃ k, k < 65536 ∧ x &&& 65535 = nI k := by
  have e : x = nI x.toBitVec.toNat := by
    apply Int32.toBitVec_inj.1
    show x.toBitVec = BitVec.ofNat 32 x.toBitVec.toNat
    simp
  refine ⟨x.toBitVec.toNat % 65536, Nat.mod_lt _ (by omega), ?_⟩
  rw [← nx_mod, ← e]
/-! ===== Int32 as a set of bits: test, set ===== -/
def nf_M (m : Int32) : Nat := 4294967296 - m.toBitVec.toNat
theorem nf_sh : ∀ l, l < 32 → ((1 : Int32) <<< (nI l &&& 31)).toBitVec = BitVec.twoPow 32 l := by decide +kernel
theorem nf_sl : ∀ l, l < 32 → (((nI l).toUInt32 &&& Int32.toUInt32 31).toBitVec % 32).toNat = l := by decide +kernel
theorem nf_tp : ∀ l, l < 32 → BitVec.twoPow 32 l ≠ 0#32 := by decide +kernel
theorem nf_bit (m : Int32) (l : Nat) (hl : l < 32) : ((m.toUInt32 >>> ((nI l).toUInt32 &&& Int32.toUInt32 31)).toInt32 &&& 1) = 0 ↔ (m &&& ((1 : Int32) <<< (nI l &&& 31))) = 0 := by
  have e : ((m.toUInt32 >>> ((nI l).toUInt32 &&& Int32.toUInt32 31)).toInt32).toBitVec = m.toBitVec >>> l := by
    show m.toBitVec >>> (((nI l).toUInt32 &&& Int32.toUInt32 31).toBitVec % 32) = m.toBitVec >>> l
    rw [BitVec.ushiftRight_eq', nf_sl l hl]
  rw [← Int32.toBitVec_inj, ← Int32.toBitVec_inj, Int32.toBitVec_and, Int32.toBitVec_and, nf_sh l hl, e, BitVec.and_twoPow]
  show (m.toBitVec >>> l &&& 1#32) = 0#32 ↔ _ = 0#32
  rw [BitVec.and_one_eq_setWidth_ofBool_getLsbD, BitVec.getLsbD_ushiftRight, Nat.add_zero]
  cases hb : m.toBitVec.getLsbD l
  · exact ⟨fun _ => by simp, fun _ => by decide⟩
  · exact ⟨fun z => absurd z (by decide), fun z => absurd ((if_pos rfl).symm.trans z) (nf_tp l hl)⟩
theorem nf_gr (m k : Int32) (h : m &&& k = 0) (hk : k ≠ 0) : nf_M (m ||| k) < nf_M m := by
  have hm := m.toBitVec.isLt
  have hm' := (m ||| k).toBitVec.isLt
  have h1 : m.toBitVec.toNat ≤ (m ||| k).toBitVec.toNat := by
    rw [Int32.toBitVec_or, BitVec.toNat_or]
    exact Nat.left_le_or
  have h2 : m.toBitVec.toNat ≠ (m ||| k).toBitVec.toNat := by
    intro e
    have e2 : m = m ||| k := Int32.toBitVec_inj.mp (BitVec.eq_of_toNat_eq e)
    apply hk
    apply Int32.toBitVec_inj.mp
    show k.toBitVec = 0#32
    apply BitVec.eq_of_getLsbD_eq
    intro i hi
    have a : m.toBitVec.getLsbD i = (m.toBitVec.getLsbD i || k.toBitVec.getLsbD i) := by rw [← BitVec.getLsbD_or, ← Int32.toBitVec_or, ← e2]
    have b : (m.toBitVec.getLsbD i && k.toBitVec.getLsbD i) = false := by
      rw [← BitVec.getLsbD_and, ← Int32.toBitVec_and, h]
      exact BitVec.getLsbD_zero
    rw [BitVec.getLsbD_zero]
    revert a b
    cases m.toBitVec.getLsbD i <;> cases k.toBitVec.getLsbD i <;> simp
  unfold nf_M
  omega
/-! ===== a byte read unsigned ===== -/
theorem bp_b (x : Int32) : x.toInt8.toInt32 &&& 255 = x &&& 255 := by
  apply Int32.toBitVec_inj.mp
  rw [Int32.toBitVec_and, Int32.toBitVec_and, Int8.toBitVec_toInt32, Int32.toBitVec_toInt8]
  apply BitVec.eq_of_getLsbD_eq
  intro i hi
  rw [BitVec.getLsbD_and, BitVec.getLsbD_and]
  have hm : ∀ i < 32, 8 ≤ i → (255 : Int32).toBitVec.getLsbD i = false := by decide
  rcases Nat.lt_or_ge i 8 with z | z
  · rw [BitVec.getLsbD_signExtend, BitVec.getLsbD_signExtend, if_pos z, if_pos hi]
    simp only [z, hi, decide_true, Bool.true_and]
  · rw [hm i hi z]; simp
/-! ===== the char cast and 65535 ===== -/
/-! ===== Int64 as a set of bits: test, set, clear ===== -/
theorem ts_nf {x : Bool} (h : ¬ x = false) : x = true := by cases x <;> first | rfl | exact absurd rfl h
theorem ts_nt {x : Bool} (h : ¬ x = true) : x = false := by cases x <;> first | rfl | exact absurd rfl h
theorem ts_bit {w : Int64} {s : UInt64} {j : Nat} (hj : j < 64) (hs : s.toNat = j) : ((w.toUInt64 >>> s).toInt64 &&& 1) = 0 ↔ w.toBitVec.getLsbD j = false := by
  have e : (w.toUInt64 >>> s).toInt64.toBitVec = w.toBitVec >>> j := by
    apply BitVec.eq_of_toNat_eq
    show (w.toUInt64 >>> s).toNat = _
    rw [UInt64.toNat_shiftRight, hs, Nat.mod_eq_of_lt hj, BitVec.toNat_ushiftRight]
    rfl
  rw [← Int64.toBitVec_inj, Int64.toBitVec_and, e]
  show w.toBitVec >>> j &&& 1#64 = 0#64 ↔ _
  constructor
  · intro h
    have t := congrArg (fun x => x.getLsbD 0) h
    simpa using t
  · intro h
    apply BitVec.eq_of_getLsbD_eq
    intro i hi
    cases i with
    | zero => simp [h]
    | succ i => simp
theorem ts_or {w m : Int64} {j : Nat} (hj : j < 64) (hm : m.toBitVec = BitVec.twoPow 64 j) : (w ||| m) = w ↔ w.toBitVec.getLsbD j = true := by
  rw [← Int64.toBitVec_inj, Int64.toBitVec_or, hm]
  constructor
  · intro h
    have t := congrArg (fun x => x.getLsbD j) h
    simp only [BitVec.getLsbD_or, BitVec.getLsbD_twoPow] at t
    simpa [hj] using t.symm
  · intro h
    apply BitVec.eq_of_getLsbD_eq
    intro i hi
    rw [BitVec.getLsbD_or, BitVec.getLsbD_twoPow]
    by_cases e : j = i
    · subst e; rw [h, Bool.true_or]
    · simp [e]
theorem ts_and {w m : Int64} {j : Nat} (hj : j < 64) (hm : m.toBitVec = BitVec.twoPow 64 j) : (w &&& (m ^^^ (-1))) = w ↔ w.toBitVec.getLsbD j = false := by
  have ha : (-1 : Int64).toBitVec = BitVec.allOnes 64 := by decide
  rw [← Int64.toBitVec_inj, Int64.toBitVec_and, Int64.toBitVec_xor, hm, ha]
  constructor
  · intro h
    have t := congrArg (fun x => x.getLsbD j) h
    simp only [BitVec.getLsbD_and, BitVec.getLsbD_xor, BitVec.getLsbD_twoPow, BitVec.getLsbD_allOnes] at t
    simpa [hj] using t.symm
  · intro h
    apply BitVec.eq_of_getLsbD_eq
    intro i hi
    rw [BitVec.getLsbD_and, BitVec.getLsbD_xor, BitVec.getLsbD_twoPow, BitVec.getLsbD_allOnes]
    by_cases e : j = i
    · subst e; rw [h, Bool.false_and]
    · simp [e, hi]
/-! ===== lN n to 2^64: shifts, and, or, masks, one bit ===== -/
theorem wb_tb (n : Nat) : (lN n).toBitVec = BitVec.ofNat 64 n := rfl
theorem wb_inj {a b : Int64} (h : a.toBitVec = b.toBitVec) : a = b := Int64.toBitVec_inj.mp h
theorem wb_tn {n : Nat} (h : n < 2 ^ 64) : (lN n).toBitVec.toNat = n := by rw [wb_tb, BitVec.toNat_ofNat, Nat.mod_eq_of_lt h]
theorem wb_of (x : Int64) : ∃ n, n < 2 ^ 64 ∧ x = lN n := ⟨x.toBitVec.toNat, x.toBitVec.isLt, wb_inj (by rw [wb_tb]; simp)⟩
theorem wb_of32 (x : Int32) : ∃ n, n < 2 ^ 32 ∧ x = nI n := ⟨x.toBitVec.toNat, x.toBitVec.isLt, Int32.toBitVec_inj.mp (by show _ = BitVec.ofNat 32 _; simp)⟩
theorem wb_c : ∀ k, k < 64 → ((nI k).toInt64 &&& 63) = lN k := by decide +kernel
theorem wb_cu : ∀ k, k < 64 → ((nI k).toInt64.toUInt64 &&& Int64.toUInt64 63) = UInt64.ofNat k := by decide +kernel
theorem wb_sm : ∀ k, k < 64 → (BitVec.ofNat 64 k).smod 64 = BitVec.ofNat 64 k := by decide +kernel
theorem wb_pw {a b : Nat} (h : a ≤ b) : 2 ^ b = 2 ^ a * 2 ^ (b - a) := by rw [← Nat.pow_add]; congr 1; omega
theorem wb_lt2 {a b : Nat} (h : a < b) : 2 ^ a < 2 ^ b := Nat.pow_lt_pow_right (by decide) h
theorem wb_mod (n : Nat) : lN n = lN (n % 2 ^ 64) := wb_inj (by rw [wb_tb, wb_tb]; apply BitVec.eq_of_toNat_eq; rw [BitVec.toNat_ofNat, BitVec.toNat_ofNat, Nat.mod_mod])
theorem wb_shr {n k : Nat} (hn : n < 2 ^ 64) (hk : k < 64) : ((lN n).toUInt64 >>> ((nI k).toInt64.toUInt64 &&& Int64.toUInt64 63)).toInt64 = lN (n / 2 ^ k) := by
  rw [wb_cu k hk]
  apply wb_inj
  apply BitVec.eq_of_toNat_eq
  show ((lN n).toUInt64 >>> UInt64.ofNat k).toNat = (BitVec.ofNat 64 _).toNat
  have h1 : (UInt64.ofNat k).toNat = k := by
    show (BitVec.ofNat 64 k).toNat = k
    rw [BitVec.toNat_ofNat, Nat.mod_eq_of_lt (by omega)]
  have h2 : (lN n).toUInt64.toNat = n := wb_tn hn
  rw [UInt64.toNat_shiftRight, h1, h2, Nat.mod_eq_of_lt hk, Nat.shiftRight_eq_div_pow, BitVec.toNat_ofNat, Nat.mod_eq_of_lt (Nat.lt_of_le_of_lt (Nat.div_le_self _ _) hn)]
theorem wb_shl (n : Nat) {k : Nat} (hk : k < 64) : lN n <<< ((nI k).toInt64 &&& 63) = lN (n * 2 ^ k) := by
  rw [wb_c k hk]
  apply wb_inj
  rw [Int64.toBitVec_shiftLeft, wb_tb, wb_tb, wb_tb, wb_sm k hk]
  apply BitVec.eq_of_toNat_eq
  rw [BitVec.shiftLeft_eq', BitVec.toNat_shiftLeft, BitVec.toNat_ofNat, BitVec.toNat_ofNat, BitVec.toNat_ofNat, Nat.mod_eq_of_lt (show k < 2 ^ 64 by omega), Nat.shiftLeft_eq, Nat.mul_mod, Nat.mod_mod, ← Nat.mul_mod]
theorem wb_and {a b : Nat} (ha : a < 2 ^ 64) (hb : b < 2 ^ 64) : lN a &&& lN b = lN (a &&& b) := by
  apply wb_inj
  rw [Int64.toBitVec_and, wb_tb, wb_tb, wb_tb]
  apply BitVec.eq_of_toNat_eq
  rw [BitVec.toNat_and, BitVec.toNat_ofNat, BitVec.toNat_ofNat, BitVec.toNat_ofNat, Nat.mod_eq_of_lt ha, Nat.mod_eq_of_lt hb, Nat.mod_eq_of_lt (Nat.and_lt_two_pow _ hb)]
theorem wb_or {a b : Nat} (ha : a < 2 ^ 64) (hb : b < 2 ^ 64) : lN a ||| lN b = lN (a ||| b) := by
  apply wb_inj
  rw [Int64.toBitVec_or, wb_tb, wb_tb, wb_tb]
  apply BitVec.eq_of_toNat_eq
  rw [BitVec.toNat_or, BitVec.toNat_ofNat, BitVec.toNat_ofNat, BitVec.toNat_ofNat, Nat.mod_eq_of_lt ha, Nat.mod_eq_of_lt hb, Nat.mod_eq_of_lt (Nat.or_lt_two_pow ha hb)]
theorem wb_mask {n k : Nat} (hn : n < 2 ^ 64) (hk : k < 64) : lN n &&& lN (2 ^ k - 1) = lN (n % 2 ^ k) := by
  rw [wb_and hn (by have := wb_lt2 hk; omega), Nat.and_two_pow_sub_one_eq_mod]
theorem wb_a1 {n : Nat} (hn : n < 2 ^ 64) : lN n &&& 1 = lN (n % 2) := wb_mask (k := 1) hn (by decide)
theorem wb_bit {n k : Nat} (hn : n < 2 ^ 64) (hk : k < 64) : ((lN n).toUInt64 >>> ((nI k).toInt64.toUInt64 &&& Int64.toUInt64 63)).toInt64 &&& 1 = lN (n / 2 ^ k % 2) := by
  rw [wb_shr hn hk, wb_a1 (Nat.lt_of_le_of_lt (Nat.div_le_self _ _) hn)]
theorem wb_xor {q k : Nat} (hk : k < 63) (h : 2 ^ k ≤ q) (h2 : q < 2 ^ (k + 1)) : lN q ^^^ lN (2 ^ k) = lN (q - 2 ^ k) := by
  obtain ⟨r, rfl⟩ : ∃ r, q = 2 ^ k + r := ⟨q - 2 ^ k, by omega⟩
  have hr : r < 2 ^ k := by rw [Nat.pow_succ] at h2; omega
  have hx : (2 ^ k + r) ^^^ 2 ^ k = r := by
    apply Nat.eq_of_testBit_eq
    intro i
    rw [Nat.testBit_xor, Nat.testBit_two_pow]
    rcases Nat.lt_trichotomy i k with h | h | h
    · rw [Nat.testBit_two_pow_add_gt h]
      simp [show ¬ k = i by omega]
    · subst h
      rw [Nat.testBit_two_pow_add_eq]
      simp
    · have a1 : 2 ^ (k + 1) ≤ 2 ^ i := Nat.pow_le_pow_right (by decide) h
      rw [Nat.testBit_lt_two_pow (show 2 ^ k + r < 2 ^ i by omega), Nat.testBit_lt_two_pow (show r < 2 ^ i by omega)]
      simp [show ¬ k = i by omega]
  have b1 := wb_lt2 (show k + 1 < 64 by omega)
  have b2 := wb_lt2 (show k < 64 by omega)
  apply wb_inj
  rw [Int64.toBitVec_xor, wb_tb, wb_tb, wb_tb]
  apply BitVec.eq_of_toNat_eq
  rw [BitVec.toNat_xor, BitVec.toNat_ofNat, BitVec.toNat_ofNat, BitVec.toNat_ofNat, Nat.mod_eq_of_lt (by omega : 2 ^ k + r < 2 ^ 64), Nat.mod_eq_of_lt b2, hx, Nat.add_sub_cancel_left, Nat.mod_eq_of_lt (by omega)]
/-! ===== lN: masks, 'or' of parts that don't overlap is a sum ===== -/
theorem u_tn {n : Nat} (h : n < 2 ^ 64) : (UInt64.ofNat n).toNat = n := Nat.mod_eq_of_lt h
theorem g_and {a b c : Nat} (ha : a < 2 ^ 64) (hb : b < 2 ^ 64) (hc : a &&& b = c) : lN a &&& lN b = lN c := by
  subst hc
  have h : UInt64.ofNat a &&& UInt64.ofNat b = UInt64.ofNat (a &&& b) := UInt64.toNat_inj.mp (by rw [UInt64.toNat_and, u_tn ha, u_tn hb, u_tn (Nat.and_lt_two_pow a hb)])
  have h2 := congrArg UInt64.toInt64 h
  exact h2
theorem g_and1 {a : Nat} (ha : a < 2 ^ 64) : lN a &&& 1 = lN (a % 2) := g_and (b := 1) ha (by decide) (Nat.and_two_pow_sub_one_eq_mod a 1)
theorem g_mask {a s p : Nat} (hp : 2 ^ s = p) (hs : s < 64) (ha : a < 2 ^ 64) : lN a &&& lN (p - 1) = lN (a % p) := by
  subst hp
  have := Nat.pow_lt_pow_right (show 1 < 2 by decide) hs
  exact g_and ha (by omega) (Nat.and_two_pow_sub_one_eq_mod a s)
theorem g_or {k p a b : Nat} (hp : 2 ^ k = p) (ha : a < p) (h : b * p + a < 2 ^ 64) : lN (b * p) ||| lN a = lN (b * p + a) := by
  subst hp
  have h1 : b * 2 ^ k ||| a = b * 2 ^ k + a := by rw [← Nat.shiftLeft_eq, Nat.shiftLeft_add_eq_or_of_lt ha]
  have h3 : UInt64.ofNat (b * 2 ^ k) ||| UInt64.ofNat a = UInt64.ofNat (b * 2 ^ k + a) := UInt64.toNat_inj.mp (by rw [UInt64.toNat_or, u_tn (by omega), u_tn (by omega), u_tn h, h1])
  have h2 := congrArg UInt64.toInt64 h3
  exact h2
theorem g_or' {k p a b : Nat} (hp : 2 ^ k = p) (ha : a < p) (h : a + b * p < 2 ^ 64) : lN a ||| lN (b * p) = lN (a + b * p) := by
  rw [Int64.or_comm, g_or hp ha (by omega), Nat.add_comm]
theorem g_ushr {a k p : Nat} {y : UInt64} (hy : y = UInt64.ofNat k) (hk : k < 64) (hp : 2 ^ k = p) (ha : a < 2 ^ 64) : ((lN a).toUInt64 >>> y).toInt64 = lN (a / p) := by
  subst hy hp
  have h : UInt64.ofNat a >>> UInt64.ofNat k = UInt64.ofNat (a / 2 ^ k) := UInt64.toNat_inj.mp (by rw [UInt64.toNat_shiftRight, u_tn ha, u_tn (by omega), u_tn (Nat.lt_of_le_of_lt (Nat.div_le_self _ _) ha), Nat.mod_eq_of_lt hk, Nat.shiftRight_eq_div_pow])
  have h2 := congrArg UInt64.toInt64 h
  exact h2
theorem g_shl {a k p : Nat} {y : Int64} (hy : y.toBitVec.smod 64 = BitVec.ofNat 64 k) (hk : k < 64) (hp : 2 ^ k = p) (ha : a < 2 ^ 64) : lN a <<< y = lN (a * p) := by
  subst hp
  apply Int64.toBitVec_inj.mp
  rw [Int64.toBitVec_shiftLeft, hy]
  apply BitVec.eq_of_toNat_eq
  have hb : (lN a).toBitVec.toNat = a := Nat.mod_eq_of_lt ha
  have hk' : (BitVec.ofNat 64 k).toNat = k := Nat.mod_eq_of_lt (by omega)
  have h : ((lN a).toBitVec <<< BitVec.ofNat 64 k).toNat = (a * 2 ^ k) % 2 ^ 64 := by simp only [BitVec.shiftLeft_eq', BitVec.toNat_shiftLeft, hb, hk', Nat.shiftLeft_eq]
  exact h
/-! ===== lN to 2^62 under >> and >>> ===== -/
theorem pf_lI {a : Nat} (h : a < 2 ^ 63) : (lN a).toInt = (a : Int) := lg_ofNat_toInt h
theorem pf_shr {a d : Nat} {D : Int64} (hD : (D.toBitVec.smod 64).toNat = d) (h : a < 2 ^ 62) : lN a >>> D = lN (a / 2 ^ d) := by
  have hd : a / 2 ^ d ≤ a := Nat.div_le_self _ _
  apply Int64.toInt_inj.mp
  have e : (lN a >>> D).toInt = (lN a).toInt >>> d := by
    rw [← hD]
    exact BitVec.toInt_sshiftRight ..
  rw [e, Int.shiftRight_eq_div_pow, pf_lI (by omega), pf_lI (by omega)]
  rfl
theorem pf_ushr {a d : Nat} {D : UInt64} (hD : D.toNat % 64 = d) (h : a < 2 ^ 62) : ((lN a).toUInt64 >>> D).toInt64 = lN (a / 2 ^ d) := by
  have hd : a / 2 ^ d ≤ a := Nat.div_le_self _ _
  have e : (lN a).toUInt64 >>> D = UInt64.ofNat (a / 2 ^ d) := UInt64.toNat_inj.mp (by
    rw [UInt64.toNat_shiftRight, hD, Nat.shiftRight_eq_div_pow, UInt64.toNat_ofNat']
    show (UInt64.ofNat a).toNat / 2 ^ d = _
    rw [UInt64.toNat_ofNat', Nat.mod_eq_of_lt (by omega), Nat.mod_eq_of_lt (by omega)])
  rw [e]
  rfl
theorem pf_andw (x : Int64) : ∃ m, m < 2 ^ 32 ∧ x &&& 4294967295 = lN m := ⟨x.toBitVec.toNat % 2 ^ 32, Nat.mod_lt _ (by decide), Int64.toBitVec_inj.mp (BitVec.eq_of_toNat_eq (by
  show (x.toBitVec &&& 4294967295#64).toNat = (BitVec.ofNat 64 (x.toBitVec.toNat % 2 ^ 32)).toNat
  rw [BitVec.toNat_and, show (4294967295#64).toNat = 2 ^ 32 - 1 from by decide, Nat.and_two_pow_sub_one_eq_mod, BitVec.toNat_ofNat]
  omega))⟩
/-! ===== Int64 as an unsigned number: uN x ===== -/
def uN (x : Int64) : Nat := x.toUInt64.toNat
theorem uN_lt (x : Int64) : uN x < 18446744073709551616 := x.toUInt64.toNat_lt
theorem uN_inj {x y : Int64} (h : uN x = uN y) : x = y := congrArg UInt64.toInt64 (UInt64.toNat_inj.mp h)
theorem uN_add (x y : Int64) : uN (x + y) = (uN x + uN y) % 18446744073709551616 := by
  show (x.toUInt64 + y.toUInt64).toNat = _
  exact UInt64.toNat_add _ _
theorem uN_mul (x y : Int64) : uN (x * y) = (uN x * uN y) % 18446744073709551616 := by
  show (x.toUInt64 * y.toUInt64).toNat = _
  exact UInt64.toNat_mul _ _
theorem uN_shl (x : Int64) : uN (x <<< ((1 : Int32).toInt64 &&& 63)) = (2 * uN x) % 18446744073709551616 := by
  have h : (((1 : Int32).toInt64 &&& 63).toBitVec.smod 64).toNat = 1 := by decide
  show (x.toBitVec <<< (((1 : Int32).toInt64 &&& 63).toBitVec.smod 64).toNat).toNat = _
  rw [h, BitVec.toNat_shiftLeft, Nat.shiftLeft_eq, Nat.mul_comm]
  rfl
theorem uN_shr (x : Int64) (s : UInt64) : uN (x.toUInt64 >>> s).toInt64 = uN x / 2 ^ (s.toNat % 64) := by
  show (x.toUInt64 >>> s).toNat = _
  rw [UInt64.toNat_shiftRight, Nat.shiftRight_eq_div_pow]
  rfl
theorem uN_s32 (x : Int64) : uN (x.toUInt64 >>> ((32 : Int32).toInt64.toUInt64 &&& Int64.toUInt64 63)).toInt64 = uN x / 4294967296 := by
  have h : ((32 : Int32).toInt64.toUInt64 &&& Int64.toUInt64 63).toNat % 64 = 32 := by decide
  rw [uN_shr, h]
theorem uN_s63 (x : Int64) : uN (x.toUInt64 >>> ((63 : Int32).toInt64.toUInt64 &&& Int64.toUInt64 63)).toInt64 = uN x / 9223372036854775808 := by
  have h : ((63 : Int32).toInt64.toUInt64 &&& Int64.toUInt64 63).toNat % 64 = 63 := by decide
  rw [uN_shr, h]
theorem uN_lo (x : Int64) : uN (x &&& 4294967295) = uN x % 4294967296 := by
  show (x.toUInt64 &&& Int64.toUInt64 4294967295).toNat = _
  rw [UInt64.toNat_and]
  exact Nat.and_two_pow_sub_one_eq_mod _ 32
theorem uN_bit (x : Int64) : (x &&& 1) = 0 ↔ uN x % 2 = 0 := by
  have h : uN (x &&& 1) = uN x % 2 := by
    show (x.toUInt64 &&& Int64.toUInt64 1).toNat = _
    rw [UInt64.toNat_and]
    exact Nat.and_two_pow_sub_one_eq_mod _ 1
  rw [← h]
  exact ⟨fun z => by rw [z]; rfl, fun z => uN_inj (z.trans rfl)⟩
theorem uN_or {x y : Int64} (hy : uN y < 2) : uN ((x <<< ((1 : Int32).toInt64 &&& 63)) ||| y) = (2 * uN x) % 18446744073709551616 + uN y := by
  have h1 : uN ((x <<< ((1 : Int32).toInt64 &&& 63)) ||| y) = uN (x <<< ((1 : Int32).toInt64 &&& 63)) ||| uN y := UInt64.toNat_or _ _
  have h2 : (2 * uN x) % 18446744073709551616 = 2 ^ 1 * (uN x % 9223372036854775808) := by omega
  rw [h1, uN_shl, h2]
  exact (Nat.two_pow_add_eq_or_of_lt (i := 1) hy _).symm
theorem nat_xor {a : Nat} (h : a < 18446744073709551616) : a ^^^ 2 ^ 63 = (a + 9223372036854775808) % 18446744073709551616 := by
  have h1 : (a ^^^ 2 ^ 63) % 2 ^ 63 = a % 2 ^ 63 := by rw [Nat.xor_mod_two_pow, Nat.mod_self, Nat.xor_zero]
  have h2 : (a ^^^ 2 ^ 63) / 2 ^ 63 = (a / 2 ^ 63) ^^^ 1 := by rw [Nat.xor_div_two_pow, Nat.div_self (Nat.two_pow_pos 63)]
  have h3 : a / 2 ^ 63 = 0 ∨ a / 2 ^ 63 = 1 := by omega
  generalize a ^^^ 2 ^ 63 = t at h1 h2
  rcases h3 with h3 | h3
  · rw [h3] at h2
    have h2 : t / 2 ^ 63 = 1 := h2
    omega
  · rw [h3] at h2
    have h2 : t / 2 ^ 63 = 0 := h2
    omega
theorem uN_xor (x : Int64) : uN (x ^^^ (-9223372036854775808)) = (uN x + 9223372036854775808) % 18446744073709551616 := by
  rw [← nat_xor (uN_lt x)]
  exact UInt64.toNat_xor _ _
theorem uN_int (x : Int64) : x.toInt = if 2 * uN x < 18446744073709551616 then (uN x : Int) else (uN x : Int) - 18446744073709551616 := BitVec.toInt_eq_toNat_cond _
theorem uN_le (x y : Int64) : (x ^^^ (-9223372036854775808)) ≤ (y ^^^ (-9223372036854775808)) ↔ uN x ≤ uN y := by
  have hx := uN_lt x
  have hy := uN_lt y
  rw [Int64.le_iff_toInt_le, uN_int, uN_int, uN_xor, uN_xor]
  omega
theorem uN_sk (x : Int64) {k : Nat} (hk : k < 64) : uN (x.toUInt64 >>> ((nI k).toInt64.toUInt64 &&& Int64.toUInt64 63)).toInt64 = uN x / 2 ^ k := by
  have h : ((nI k).toInt64.toUInt64 &&& Int64.toUInt64 63).toNat % 64 = k := by
    rw [nI_l (by omega), UInt64.toNat_and]
    have e : (lN k).toUInt64.toNat = k % 2 ^ 64 := rfl
    have e2 : (Int64.toUInt64 63).toNat = 2 ^ 6 - 1 := by decide
    rw [e, e2, Nat.and_two_pow_sub_one_eq_mod]
    omega
  rw [uN_shr, h]
/-! ===== unsigned comparison by xor with the least ===== -/
theorem lN_bv (n : Nat) : (lN n).toBitVec = BitVec.ofNat 64 n := rfl
theorem lN_nat {n : Nat} (h : n < 2 ^ 64) : (lN n).toBitVec.toNat = n := by rw [lN_bv, BitVec.toNat_ofNat]; exact Nat.mod_eq_of_lt h
theorem lN_xor (a b : Nat) : lN a ^^^ lN b = lN (a ^^^ b) := by
  apply Int64.toBitVec_inj.mp; rw [Int64.toBitVec_xor, lN_bv, lN_bv, lN_bv]; apply BitVec.eq_of_getLsbD_eq; intro i hi; simp [BitVec.getLsbD_ofNat, Nat.testBit_xor, hi]
theorem lN_ti {m : Nat} (h : m < 2 ^ 64) : (lN m).toInt = if m < 2 ^ 63 then (m : Int) else (m : Int) - 2 ^ 64 := by
  have c := BitVec.toInt_eq_toNat_cond (lN m).toBitVec
  rw [lN_nat h] at c
  show (lN m).toBitVec.toInt = _
  rw [c]
  split <;> split <;> omega
theorem xor63 {x : Nat} (h : x < 2 ^ 63) : x ^^^ 2 ^ 63 = 2 ^ 63 + x := by
  apply Nat.eq_of_testBit_eq
  intro i
  rw [Nat.testBit_xor, Nat.testBit_two_pow]
  rcases Nat.lt_trichotomy i 63 with z | z | z
  · rw [Nat.testBit_two_pow_add_gt z, decide_eq_false (by omega)]; simp
  · subst z; rw [Nat.testBit_two_pow_add_eq]; simp
  · have hp : 2 ^ 64 ≤ 2 ^ i := Nat.pow_le_pow_right (by decide) z
    rw [Nat.testBit_lt_two_pow (show x < 2 ^ i by omega), Nat.testBit_lt_two_pow (show 2 ^ 63 + x < 2 ^ i by omega), decide_eq_false (by omega)]; rfl
theorem xorS {a : Nat} (h : a < 2 ^ 64) : (lN a ^^^ (-9223372036854775808)).toInt = (a : Int) - 2 ^ 63 := by
  rw [show (-9223372036854775808 : Int64) = lN (2 ^ 63) from by decide +kernel, lN_xor]
  rcases Nat.lt_or_ge a (2 ^ 63) with z | z
  · rw [xor63 z, lN_ti (by omega), if_neg (by omega)]; omega
  · obtain ⟨x, rfl⟩ : ∃ x, a = 2 ^ 63 + x := ⟨a - 2 ^ 63, by omega⟩
    rw [← xor63 (by omega), Nat.xor_assoc, Nat.xor_self, Nat.xor_zero, lN_ti (by omega), if_pos (by omega), xor63 (by omega)]; omega
theorem ultL {a b : Nat} (ha : a < 2 ^ 64) (hb : b < 2 ^ 64) : ((lN b ^^^ (-9223372036854775808)) ≤ (lN a ^^^ (-9223372036854775808))) ↔ b ≤ a := by
  rw [Int64.le_iff_toInt_le, xorS ha, xorS hb]; omega
/-! ===== Int64 masks of n low bits ===== -/
theorem cr_bits (W U M : BitVec 64) : ((W &&& U) &&& (U &&& (M ^^^ BitVec.allOnes 64))) = 0#64 ↔ (W &&& U) &&& M = W &&& U := by
  constructor
  · intro h
    apply BitVec.eq_of_getLsbD_eq
    intro i hi
    have e := congrArg (fun x => BitVec.getLsbD x i) h
    simp only [BitVec.getLsbD_and, BitVec.getLsbD_xor, BitVec.getLsbD_allOnes, BitVec.getLsbD_zero, hi, decide_true] at e ⊢
    revert e
    cases W.getLsbD i <;> cases U.getLsbD i <;> cases M.getLsbD i <;> decide
  · intro h
    apply BitVec.eq_of_getLsbD_eq
    intro i hi
    have e := congrArg (fun x => BitVec.getLsbD x i) h
    simp only [BitVec.getLsbD_and, BitVec.getLsbD_xor, BitVec.getLsbD_allOnes, BitVec.getLsbD_zero, hi, decide_true] at e ⊢
    revert e
    cases W.getLsbD i <;> cases U.getLsbD i <;> cases M.getLsbD i <;> decide
theorem cr_mask (w U m : Int64) (n : Nat) (hm : m.toBitVec.toNat = 2 ^ n - 1) : ((w &&& U) &&& (U &&& (m ^^^ (-1)))) = 0 ↔ (w &&& U).toBitVec.toNat < 2 ^ n := by
  have e0 : (-1 : Int64).toBitVec = BitVec.allOnes 64 := by decide
  have z0 : (0 : Int64).toBitVec = 0#64 := by decide
  rw [← Int64.toBitVec_inj, z0, Int64.toBitVec_and, Int64.toBitVec_and, Int64.toBitVec_and, Int64.toBitVec_xor, e0, cr_bits]
  generalize w.toBitVec &&& U.toBitVec = T
  rw [← BitVec.toNat_inj, BitVec.toNat_and, hm, Nat.and_two_pow_sub_one_eq_mod]
  constructor
  · intro h
    have t := Nat.mod_lt T.toNat (Nat.two_pow_pos n)
    rw [h] at t
    exact t
  · exact Nat.mod_eq_of_lt
theorem cr_shr (t : Int64) (x : UInt64) (n : Nat) (hx : x.toNat % 64 = n) : (t.toUInt64 >>> x).toInt64 = 0 ↔ t.toBitVec.toNat < 2 ^ n := by
  rw [← Int64.toBitVec_inj, ← BitVec.toNat_inj]
  show (t.toUInt64 >>> x).toNat = 0 ↔ t.toUInt64.toNat < 2 ^ n
  rw [UInt64.toNat_shiftRight, hx, Nat.shiftRight_eq_div_pow]
  constructor
  · intro h
    have d : t.toUInt64.toNat / 2 ^ n < 1 := by
      rw [h]
      decide
    have e := (Nat.div_lt_iff_lt_mul (Nat.two_pow_pos n)).mp d
    rw [Nat.one_mul] at e
    exact e
  · exact Nat.div_eq_of_lt
theorem cr_amt (s : Int64) : ∃ n, n < 64 ∧ s &&& 63 = lN n ∧ (s.toUInt64 &&& Int64.toUInt64 63).toNat % 64 = n := by
  have e : (s.toUInt64 &&& Int64.toUInt64 63).toNat = s.toUInt64.toNat % 2 ^ 6 := by
    rw [UInt64.toNat_and, show (Int64.toUInt64 63).toNat = 2 ^ 6 - 1 from by decide, Nat.and_two_pow_sub_one_eq_mod]
  refine ⟨s.toUInt64.toNat % 2 ^ 6, by omega, ?_, by omega⟩
  rw [← Int64.toBitVec_inj, ← BitVec.toNat_inj]
  show (s.toUInt64 &&& Int64.toUInt64 63).toNat = (BitVec.ofNat 64 (s.toUInt64.toNat % 2 ^ 6)).toNat
  rw [e, BitVec.toNat_ofNat]
  omega

/-! plain facts on numbers and arrays, to paste: each family by itself; over the kit's rows on nI and upd -/
/-! ===== order of ints, in all its forms, and through longs ===== -/
theorem fa_lt (a b : Int32) : a < b ↔ a.toInt < b.toInt := Int32.lt_iff_toInt_lt
theorem fa_le (a b : Int32) : a ≤ b ↔ a.toInt ≤ b.toInt := Int32.le_iff_toInt_le
theorem fa_eq (a b : Int32) : a = b ↔ a.toInt = b.toInt := Int32.toInt_inj.symm
theorem fa_lt64 (a b : Int64) : a < b ↔ a.toInt < b.toInt := Int64.lt_iff_toInt_lt
theorem fa_le64 (a b : Int64) : a ≤ b ↔ a.toInt ≤ b.toInt := Int64.le_iff_toInt_le
theorem fa_eq64 (a b : Int64) : a = b ↔ a.toInt = b.toInt := Int64.toInt_inj.symm
/-- a comparison of two ints taken as longs -/
theorem fa_wide_lt (a b : Int32) : a.toInt64 < b.toInt64 ↔ a < b := by rw [fa_lt64, fa_lt, Int32.toInt_toInt64, Int32.toInt_toInt64]
theorem fa_wide_le (a b : Int32) : a.toInt64 ≤ b.toInt64 ↔ a ≤ b := by rw [fa_le64, fa_le, Int32.toInt_toInt64, Int32.toInt_toInt64]
theorem fa_wide_eq (a b : Int32) : a.toInt64 = b.toInt64 ↔ a = b := by rw [fa_eq64, fa_eq, Int32.toInt_toInt64, Int32.toInt_toInt64]
/-- one strict comparison gives all the others -/
theorem fa_of_lt {a b : Int32} (h : a < b) : a ≤ b ∧ ¬ b ≤ a ∧ ¬ b < a ∧ a ≠ b ∧ b ≠ a := by
  rw [fa_lt] at h
  refine ⟨?_, ?_, ?_, ?_, ?_⟩
  · rw [fa_le]; omega
  · rw [fa_le]; omega
  · rw [fa_lt]; omega
  · intro e; rw [fa_eq] at e; omega
  · intro e; rw [fa_eq] at e; omega
theorem fa_of_nlt {a b : Int32} (h : ¬ a < b) : b ≤ a := by
  rw [fa_lt] at h
  rw [fa_le]
  omega
theorem fa_of_nle {a b : Int32} (h : ¬ a ≤ b) : b < a := by
  rw [fa_le] at h
  rw [fa_lt]
  omega
theorem fa_le_ne {a b : Int32} (h : a ≤ b) (h2 : a ≠ b) : a < b := by
  rw [fa_le] at h
  rw [fa_lt]
  have h3 : a.toInt ≠ b.toInt := fun e => h2 ((fa_eq a b).mpr e)
  omega
theorem fa_three (a b : Int32) : a < b ∨ a = b ∨ b < a := by
  rw [fa_lt, fa_lt, fa_eq]
  omega
theorem fa_trans {a b c : Int32} (h : a < b) (h2 : b ≤ c) : a < c := by
  rw [fa_lt] at *
  rw [fa_le] at h2
  omega
/-! ===== small literals as numbers ===== -/
theorem fa_lit (n : Nat) : (OfNat.ofNat n : Int32) = nI n := rfl
theorem fa_litL (n : Nat) : (OfNat.ofNat n : Int64) = lN n := rfl
/-! ===== bits of a number: 'or', masks, one bit ===== -/
theorem fa_and (a b : Nat) : nI a &&& nI b = nI (a &&& b) := by
  apply Int32.toBitVec_inj.1
  show BitVec.ofNat 32 a &&& BitVec.ofNat 32 b = BitVec.ofNat 32 (a &&& b)
  apply BitVec.eq_of_getLsbD_eq
  intro i hi
  simp [hi]
theorem fa_or (a b : Nat) : nI a ||| nI b = nI (a ||| b) := by
  apply Int32.toBitVec_inj.1
  show BitVec.ofNat 32 a ||| BitVec.ofNat 32 b = BitVec.ofNat 32 (a ||| b)
  apply BitVec.eq_of_getLsbD_eq
  intro i hi
  simp [hi]
/-- a remainder by a power of two, as a mask -/
theorem fa_mask (n k : Nat) : nI n &&& nI (2 ^ k - 1) = nI (n % 2 ^ k) := by rw [fa_and, Nat.and_two_pow_sub_one_eq_mod]
/-- 'or' of a high part and a low one that don't meet is their sum -/
theorem fa_or_sum {a k : Nat} (b : Nat) (h : a < 2 ^ k) : nI (2 ^ k * b) ||| nI a = nI (2 ^ k * b + a) := by rw [fa_or, Nat.two_pow_add_eq_or_of_lt h]
/-- one bit, by 'and' with a power of two -/
theorem fa_bit {n j : Nat} (hj : j < 31) : nI n &&& nI (2 ^ j) = 0 ↔ n.testBit j = false := by
  have h2 : (2 : Nat) ^ j < 2 ^ 31 := Nat.pow_lt_pow_right (by decide) hj
  have hle : n &&& 2 ^ j ≤ 2 ^ j := Nat.and_le_right
  have e : n &&& 2 ^ j = 0 ↔ n.testBit j = false := by
    constructor
    · intro h
      have h1 : (n &&& 2 ^ j).testBit j = false := by rw [h]; simp
      rw [Nat.testBit_and] at h1
      first | simpa using h1 | simpa [Nat.testBit_two_pow_self] using h1 | simpa [Nat.testBit_two_pow] using h1
    · intro h
      apply Nat.eq_of_testBit_eq
      intro i
      rw [Nat.testBit_and]
      by_cases hi : j = i
      · subst hi; simp [h]
      · first | (simp [Nat.testBit_two_pow, hi]; done) | (simp [Nat.testBit_two_pow_of_ne hi]; done)
  rw [fa_and]
  constructor
  · intro h
    apply e.mp
    rcases Nat.eq_zero_or_pos (n &&& 2 ^ j) with z | z
    · exact z
    · exact absurd h (nI_ne0 z (Nat.lt_of_le_of_lt hle h2))
  · intro h
    rw [e.mpr h]; exact nI_0
/-- a remainder by a power of two of a number that isn't negative, as Java divides -/
theorem fa_rem {a k : Nat} (ha : a < 2 ^ 31) (hk : k < 31) : nI a - nI a / nI (2 ^ k) * nI (2 ^ k) = nI (a % 2 ^ k) := pk_rem ha (Nat.two_pow_pos k) (Nat.pow_lt_pow_right (by decide) hk)
/-! ===== cuts to a byte, a short ===== -/
theorem fa_byte_xor (x y : Int32) : (x ^^^ y).toInt8 = x.toInt8 ^^^ y.toInt8 := by
  apply Int8.toBitVec_inj.1
  apply BitVec.eq_of_getLsbD_eq
  intro i hi
  first | (simp [hi]; done) | (simp [hi, BitVec.getLsbD_setWidth, BitVec.getLsbD_signExtend]; done)
theorem fa_short_xor (x y : Int32) : (x ^^^ y).toInt16 = x.toInt16 ^^^ y.toInt16 := by
  apply Int16.toBitVec_inj.1
  apply BitVec.eq_of_getLsbD_eq
  intro i hi
  first | (simp [hi]; done) | (simp [hi, BitVec.getLsbD_setWidth, BitVec.getLsbD_signExtend]; done)
/-- the cut to a byte sees the low byte alone -/
theorem fa_byte_low (x : Int32) : (x &&& 255).toInt8 = x.toInt8 := by
  apply Int8.toBitVec_inj.1
  apply BitVec.eq_of_getLsbD_eq
  intro i hi
  have h2 : (255 : Int32).toBitVec.getLsbD i = true := by
    have : ∀ j : Fin 8, (255 : Int32).toBitVec.getLsbD j.val = true := by decide +kernel
    exact this ⟨i, hi⟩
  have h4 : (x &&& 255).toBitVec.getLsbD i = x.toBitVec.getLsbD i := by
    show (x.toBitVec &&& (255 : Int32).toBitVec).getLsbD i = _
    rw [BitVec.getLsbD_and, h2, Bool.and_true]
  have h3 : i < 32 := by omega
  first
    | (show (((x &&& 255).toBitVec).signExtend 8).getLsbD i = (x.toBitVec.signExtend 8).getLsbD i; rw [BitVec.getLsbD_signExtend, BitVec.getLsbD_signExtend, if_pos h3, if_pos h3, h4])
    | (show (((x &&& 255).toBitVec).setWidth 8).getLsbD i = (x.toBitVec.setWidth 8).getLsbD i; rw [BitVec.getLsbD_setWidth, BitVec.getLsbD_setWidth, h4])
    | (simp [hi, h3, h4]; done)
theorem fa_short_low (x : Int32) : (x &&& 65535).toInt16 = x.toInt16 := by
  apply Int16.toBitVec_inj.1
  apply BitVec.eq_of_getLsbD_eq
  intro i hi
  have h2 : (65535 : Int32).toBitVec.getLsbD i = true := by
    have : ∀ j : Fin 16, (65535 : Int32).toBitVec.getLsbD j.val = true := by decide +kernel
    exact this ⟨i, hi⟩
  have h4 : (x &&& 65535).toBitVec.getLsbD i = x.toBitVec.getLsbD i := by
    show (x.toBitVec &&& (65535 : Int32).toBitVec).getLsbD i = _
    rw [BitVec.getLsbD_and, h2, Bool.and_true]
  have h3 : i < 32 := by omega
  first
    | (show (((x &&& 65535).toBitVec).signExtend 16).getLsbD i = (x.toBitVec.signExtend 16).getLsbD i; rw [BitVec.getLsbD_signExtend, BitVec.getLsbD_signExtend, if_pos h3, if_pos h3, h4])
    | (show (((x &&& 65535).toBitVec).setWidth 16).getLsbD i = (x.toBitVec.setWidth 16).getLsbD i; rw [BitVec.getLsbD_setWidth, BitVec.getLsbD_setWidth, h4])
    | (simp [hi, h3, h4]; done)
/-- a small number is its own byte, its own short -/
theorem fa_byte_small {n : Nat} (h : n < 128) : (nI n).toInt8.toInt32 = nI n := by
  have : ∀ j : Fin 128, (nI j.val).toInt8.toInt32 = nI j.val := by decide +kernel
  exact this ⟨n, h⟩
/-! ===== absolute difference ===== -/
theorem fa_absdiff {a b : Nat} (ha : a < 2 ^ 31) (hb : b < 2 ^ 31) : (if nI a < nI b then nI b - nI a else nI a - nI b) = nI (if a < b then b - a else a - b) := by
  by_cases h : a < b
  · rw [if_pos (nI_lt h hb), if_pos h]
    exact pk_sub (Nat.le_of_lt h)
  · rw [if_neg (nI_nlt (Nat.le_of_not_lt h) ha), if_neg h]
    exact pk_sub (Nat.le_of_not_lt h)
/-! ===== an array behind i stores, a conditional store, a row copied ===== -/
/-- f where k < i, what stood there else -/
def fa_fill {α : Type} (f g : Nat → α) (i : Nat) : Nat → α := fun k => if k < i then f k else g k
theorem fa_fill_0 {α : Type} (f g : Nat → α) : fa_fill f g 0 = g := funext fun k => if_neg (Nat.not_lt_zero k)
theorem fa_fill_in {α : Type} {f g : Nat → α} {i k : Nat} (h : k < i) : fa_fill f g i k = f k := if_pos h
theorem fa_fill_out {α : Type} {f g : Nat → α} {i k : Nat} (h : i ≤ k) : fa_fill f g i k = g k := if_neg (Nat.not_lt.mpr h)
theorem fa_fill_succ (f g : Nat → Int32) (i : Nat) : upd (fa_fill f g i) i (f i) = fa_fill f g (i + 1) := by
  funext k
  by_cases e : k = i
  · subst e
    rw [pk_us]
    exact (if_pos (Nat.lt_succ_self k)).symm
  · rw [pk_un e]
    by_cases h : k < i
    · rw [fa_fill_in h, fa_fill_in (Nat.lt_succ_of_lt h)]
    · rw [fa_fill_out (Nat.le_of_not_lt h), fa_fill_out (by omega)]
/-- a store that changes nothing -/
theorem fa_upd_same {f : Nat → Int32} {i : Nat} {x : Int32} (h : f i = x) : upd f i x = f := by
  funext k
  by_cases e : k = i
  · subst e
    rw [pk_us, h]
  · rw [pk_un e]
/-- a store under a condition, told as one -/
theorem fa_upd_if (c : Prop) [Decidable c] (f : Nat → Int32) (i : Nat) (x : Int32) : (if c then upd f i x else f) = upd f i (if c then x else f i) := by
  by_cases h : c
  · rw [if_pos h, if_pos h]
  · rw [if_neg h, if_neg h, fa_upd_same rfl]
/-- two stores at one place, at two -/
theorem fa_upd_twice (f : Nat → Int32) (i : Nat) (x y : Int32) : upd (upd f i x) i y = upd f i y := by
  funext k
  by_cases e : k = i
  · subst e
    rw [pk_us, pk_us]
  · rw [pk_un e, pk_un e, pk_un e]
theorem fa_upd_swap (f : Nat → Int32) {i j : Nat} (h : i ≠ j) (x y : Int32) : upd (upd f i x) j y = upd (upd f j y) i x := by
  funext k
  by_cases e : k = i
  · subst e
    rw [pk_un h, pk_us, pk_us]
  · by_cases e2 : k = j
    · subst e2
      rw [pk_us, pk_un e, pk_us]
    · rw [pk_un e2, pk_un e, pk_un e, pk_un e2]
/-! ===== the first index with a property; a count ===== -/
/-- the first k < n with p k, n if there is none -/
def fa_first (p : Nat → Bool) : Nat → Nat
  | 0 => 0
  | n + 1 => if fa_first p n < n then fa_first p n else if p n then n else n + 1
theorem fa_first_le (p : Nat → Bool) : ∀ n, fa_first p n ≤ n
  | 0 => Nat.le_refl 0
  | n + 1 => by
    have ih := fa_first_le p n
    unfold fa_first
    split
    · omega
    · split
      · omega
      · omega
theorem fa_first_no (p : Nat → Bool) : ∀ n k, k < fa_first p n → p k = false
  | 0, k, h => absurd h (Nat.not_lt_zero k)
  | n + 1, k, h => by
    have ih := fa_first_no p n
    have hl := fa_first_le p n
    unfold fa_first at h
    split at h
    · exact ih k h
    · rename_i h1
      split at h
      · exact ih k (by omega)
      · rename_i h2
        by_cases e : k = n
        · subst e
          exact Bool.eq_false_iff.mpr h2
        · exact ih k (by omega)
theorem fa_first_yes (p : Nat → Bool) : ∀ n, fa_first p n < n → p (fa_first p n) = true
  | 0, h => absurd h (Nat.not_lt_zero _)
  | n + 1, h => by
    have ih := fa_first_yes p n
    have hl := fa_first_le p n
    unfold fa_first at h ⊢
    split at h
    · rename_i h1
      rw [if_pos h1]
      exact ih h1
    · rename_i h1
      rw [if_neg h1]
      split at h
      · rename_i h2
        rw [if_pos h2]
        exact h2
      · omega
/-- how many k < n have p k -/
def fa_cnt (p : Nat → Bool) : Nat → Nat
  | 0 => 0
  | n + 1 => fa_cnt p n + if p n then 1 else 0
theorem fa_cnt_le (p : Nat → Bool) : ∀ n, fa_cnt p n ≤ n
  | 0 => Nat.le_refl 0
  | n + 1 => by
    have ih := fa_cnt_le p n
    unfold fa_cnt
    split
    · omega
    · omega
theorem fa_cnt_yes {p : Nat → Bool} {n : Nat} (h : p n = true) : fa_cnt p (n + 1) = fa_cnt p n + 1 := by rw [fa_cnt, if_pos h]
theorem fa_cnt_no {p : Nat → Bool} {n : Nat} (h : p n = false) : fa_cnt p (n + 1) = fa_cnt p n := by rw [fa_cnt, if_neg (by rw [h]; decide)]; rfl
theorem fa_cnt_cong {p q : Nat → Bool} : ∀ {n : Nat}, (∀ k, k < n → p k = q k) → fa_cnt p n = fa_cnt q n
  | 0, _ => rfl
  | n + 1, h => by rw [fa_cnt, fa_cnt, fa_cnt_cong (fun k hk => h k (Nat.lt_succ_of_lt hk)), h n (Nat.lt_succ_self n)]
/-! ===== an answer carried into a post; a branch on a boolean answer ===== -/
theorem fa_post {α : Type} {P : α → Prop} {x y : α} (h : x = y) (hp : P y) : P x := h ▸ hp
theorem fa_post2 {α β : Type} {P : α → β → Prop} {x y : α} {u v : β} (h : x = y) (h2 : u = v) (hp : P y v) : P x u := h ▸ h2 ▸ hp
theorem fa_bool {r : Int32} {b : Bool} (h : r = if b then 1 else 0) : (r = 0 ↔ b = false) ∧ (¬ r = 0 ↔ b = true) := by
  subst h
  cases b
  · exact ⟨⟨fun _ => rfl, fun _ => rfl⟩, ⟨fun h => absurd rfl h, fun h => absurd h (by decide)⟩⟩
  · exact ⟨⟨fun h => absurd h (by decide), fun h => absurd h (by decide)⟩, ⟨fun _ => rfl, fun _ => by decide⟩⟩
/-- a boolean's narrowing changes nothing -/
theorem fa_bool_and {r : Int32} (h : r = 0 ∨ r = 1) : r &&& 1 = r := by
  rcases h with rfl | rfl
  · decide
  · decide
theorem fa_bool_prop {c : Prop} [Decidable c] {r : Int32} (h : r = if c then 1 else 0) : (r = 0 ↔ ¬ c) ∧ (¬ r = 0 ↔ c) := by
  subst h
  by_cases hc : c
  · rw [if_pos hc]
    exact ⟨⟨fun h => absurd h (by decide), fun h => absurd hc h⟩, ⟨fun _ => hc, fun _ => by decide⟩⟩
  · rw [if_neg hc]
    exact ⟨⟨fun _ => hc, fun _ => rfl⟩, ⟨fun h => absurd rfl h, fun h => absurd h hc⟩⟩

/-! plain facts to paste, each family by itself; over the kit's nI, lN and upd -/
/-! ===== drawers: more things than places ===== -/
theorem fb_holes : ∀ (m n : Nat) (f : Nat → Nat), (∀ i, i < n → f i < m) → (∀ i j, i < j → j < n → f i ≠ f j) → n ≤ m := by
  intro m
  induction m with
  | zero =>
    intro n f h1 _
    rcases Nat.eq_zero_or_pos n with h | h
    · omega
    · exact absurd (h1 0 h) (Nat.not_lt_zero _)
  | succ m ih =>
    intro n f h1 h2
    by_cases hx : ∃ i, i < n ∧ f i = m
    · obtain ⟨a, ha, hfa⟩ := hx
      have hg := ih (n - 1) (fun i => if i < a then f i else f (i + 1)) (by
        intro i hi
        by_cases q : i < a
        · simp only [if_pos q]
          have b1 := h1 i (by omega)
          have b2 := h2 i a q ha
          omega
        · simp only [if_neg q]
          have b1 := h1 (i + 1) (by omega)
          have b2 := h2 a (i + 1) (by omega) (by omega)
          omega) (by
        intro i j hij hj
        by_cases q : i < a
        · by_cases r : j < a
          · simp only [if_pos q, if_pos r]
            exact h2 i j hij (by omega)
          · simp only [if_pos q, if_neg r]
            exact h2 i (j + 1) (by omega) (by omega)
        · have r : ¬ j < a := by omega
          simp only [if_neg q, if_neg r]
          exact h2 (i + 1) (j + 1) (by omega) (by omega))
      omega
    · have hg := ih n f (fun i hi => by
        have b1 := h1 i hi
        have b2 : f i ≠ m := fun e => hx ⟨i, hi, e⟩
        omega) h2
      omega
/-- two of them in one place -/
theorem fb_twice {m n : Nat} {f : Nat → Nat} (h : ∀ i, i < n → f i < m) (hm : m < n) : ∃ i j, i < j ∧ j < n ∧ f i = f j := by
  refine Classical.byContradiction fun hx => ?_
  have := fb_holes m n f h (fun i j hij hj e => hx ⟨i, j, hij, hj, e⟩)
  omega
/-- as many as places, none twice: each place is taken -/
theorem fb_onto {n : Nat} {f : Nat → Nat} (h : ∀ i, i < n → f i < n) (h2 : ∀ i j, i < j → j < n → f i ≠ f j) {y : Nat} (hy : y < n) : ∃ i, i < n ∧ f i = y := by
  refine Classical.byContradiction fun hx => ?_
  have hne : ∀ i, i < n → f i ≠ y := fun i hi e => hx ⟨i, hi, e⟩
  have := fb_holes (n - 1) n (fun i => if f i < y then f i else f i - 1) (by
    intro i hi
    have b1 := h i hi
    have b2 := hne i hi
    by_cases q : f i < y
    · simp only [if_pos q]; omega
    · simp only [if_neg q]; omega) (by
    intro i j hij hj
    have b1 := hne i (by omega)
    have b2 := hne j hj
    have b3 := h2 i j hij hj
    by_cases q : f i < y
    · by_cases r : f j < y
      · simp only [if_pos q, if_pos r]; exact b3
      · simp only [if_pos q, if_neg r]; omega
    · by_cases r : f j < y
      · simp only [if_neg q, if_pos r]; omega
      · simp only [if_neg q, if_neg r]; omega)
  omega
/-! ===== how many places have a property ===== -/
def fb_ct (p : Nat → Bool) : Nat → Nat
  | 0 => 0
  | n + 1 => fb_ct p n + (if p n then 1 else 0)
theorem fb_ct_succ (p : Nat → Bool) (n : Nat) : fb_ct p (n + 1) = fb_ct p n + (if p n then 1 else 0) := rfl
theorem fb_ct_le (p : Nat → Bool) : ∀ n, fb_ct p n ≤ n
  | 0 => Nat.le_refl _
  | n + 1 => by
    have h := fb_ct_le p n
    rw [fb_ct_succ]
    split <;> omega
theorem fb_ct_step (p : Nat → Bool) (m : Nat) : ∀ n, fb_ct p m ≤ fb_ct p (m + n)
  | 0 => Nat.le_refl _
  | n + 1 => by
    have h := fb_ct_step p m n
    show fb_ct p m ≤ fb_ct p (m + n + 1)
    rw [fb_ct_succ]
    omega
theorem fb_ct_mono (p : Nat → Bool) {m n : Nat} (h : m ≤ n) : fb_ct p m ≤ fb_ct p n := by
  have := fb_ct_step p m (n - m)
  rwa [Nat.add_sub_cancel' h] at this
theorem fb_ct_cong {p q : Nat → Bool} : ∀ {n : Nat}, (∀ k, k < n → p k = q k) → fb_ct p n = fb_ct q n
  | 0, _ => rfl
  | n + 1, h => by
    rw [fb_ct_succ, fb_ct_succ, fb_ct_cong (fun k hk => h k (by omega)), h n (by omega)]
/-- one place changed -/
theorem fb_ct_out (p : Nat → Bool) (b : Bool) {i n : Nat} (h : n ≤ i) : fb_ct (fun k => if k = i then b else p k) n = fb_ct p n :=
  fb_ct_cong fun k hk => if_neg (by omega)
theorem fb_ct_upd (p : Nat → Bool) (b : Bool) {i : Nat} : ∀ {n : Nat}, i < n → fb_ct (fun k => if k = i then b else p k) n + (if p i then 1 else 0) = fb_ct p n + (if b then 1 else 0)
  | 0, h => absurd h (Nat.not_lt_zero i)
  | n + 1, h => by
    rw [fb_ct_succ, fb_ct_succ]
    rcases Nat.lt_or_ge i n with q | q
    · have := fb_ct_upd p b q
      have e : (if n = i then b else p n) = p n := if_neg (by omega)
      rw [e]
      omega
    · have e : i = n := by omega
      subst e
      rw [fb_ct_out p b (Nat.le_refl _)]
      simp only [if_true]
      omega
theorem fb_ct_sub {p q : Nat → Bool} : ∀ {n : Nat}, (∀ k, k < n → p k = true → q k = true) → fb_ct p n ≤ fb_ct q n
  | 0, _ => Nat.le_refl _
  | n + 1, h => by
    have h1 := fb_ct_sub (n := n) (p := p) (q := q) (fun k hk => h k (by omega))
    have h2 := h n (by omega)
    rw [fb_ct_succ, fb_ct_succ]
    cases hp : p n <;> cases hq : q n <;> simp_all <;> omega
theorem fb_ct_or {p q : Nat → Bool} : ∀ {n : Nat}, (∀ k, k < n → ¬ (p k = true ∧ q k = true)) → fb_ct (fun k => p k || q k) n = fb_ct p n + fb_ct q n
  | 0, _ => rfl
  | n + 1, h => by
    have h1 := fb_ct_or (n := n) (p := p) (q := q) (fun k hk => h k (by omega))
    have h2 := h n (by omega)
    rw [fb_ct_succ, fb_ct_succ, fb_ct_succ, h1]
    cases hp : p n <;> cases hq : q n <;> simp_all <;> omega
theorem fb_ct_not (p : Nat → Bool) : ∀ n, fb_ct p n + fb_ct (fun k => !p k) n = n
  | 0 => rfl
  | n + 1 => by
    have h := fb_ct_not p n
    rw [fb_ct_succ, fb_ct_succ]
    cases p n <;> simp <;> omega
theorem fb_ct_split (p : Nat → Bool) (m : Nat) : ∀ n, fb_ct p (m + n) = fb_ct p m + fb_ct (fun k => p (m + k)) n
  | 0 => rfl
  | n + 1 => by
    have h := fb_ct_split p m n
    show fb_ct p (m + n + 1) = _
    rw [fb_ct_succ, fb_ct_succ, h, Nat.add_assoc]
theorem fb_ct_zero {p : Nat → Bool} : ∀ {n : Nat}, fb_ct p n = 0 ↔ ∀ k, k < n → p k = false
  | 0 => ⟨fun _ k hk => absurd hk (Nat.not_lt_zero k), fun _ => rfl⟩
  | n + 1 => by
    have h := fb_ct_zero (p := p) (n := n)
    rw [fb_ct_succ]
    constructor
    · intro e k hk
      have e1 : fb_ct p n = 0 := by omega
      rcases Nat.lt_or_ge k n with q | q
      · exact h.mp e1 k q
      · have ek : k = n := by omega
        subst ek
        cases hp : p k
        · rfl
        · simp [hp] at e
    · intro a
      rw [h.mpr (fun k hk => a k (by omega)), a n (by omega)]
      rfl
theorem fb_ct_pos {p : Nat → Bool} {n : Nat} : 0 < fb_ct p n ↔ ∃ k, k < n ∧ p k = true := by
  constructor
  · intro h
    refine Classical.byContradiction fun hx => ?_
    have := fb_ct_zero.mpr (fun k hk => by
      cases hp : p k
      · rfl
      · exact absurd ⟨k, hk, hp⟩ hx : ∀ k, k < n → p k = false)
    omega
  · rintro ⟨k, hk, hp⟩
    rcases Nat.eq_zero_or_pos (fb_ct p n) with e | e
    · have := fb_ct_zero.mp e k hk
      rw [this] at hp
      cases hp
    · exact e
theorem fb_ct_all {p : Nat → Bool} {n : Nat} : fb_ct p n = n ↔ ∀ k, k < n → p k = true := by
  have h := fb_ct_not p n
  constructor
  · intro e k hk
    have z : fb_ct (fun k => !p k) n = 0 := by omega
    have := fb_ct_zero.mp z k hk
    cases hp : p k
    · simp [hp] at this
    · rfl
  · intro a
    have z : fb_ct (fun k => !p k) n = 0 := fb_ct_zero.mpr (fun k hk => by simp [a k hk])
    omega
/-- the k-th place with the property -/
theorem fb_ct_kth {p : Nat → Bool} {k : Nat} : ∀ {n : Nat}, k < fb_ct p n → ∃ i, i < n ∧ p i = true ∧ fb_ct p i = k
  | 0, h => absurd h (Nat.not_lt_zero k)
  | n + 1, h => by
    rcases Nat.lt_or_ge k (fb_ct p n) with q | q
    · obtain ⟨i, h1, h2⟩ := fb_ct_kth q
      exact ⟨i, by omega, h2⟩
    · rw [fb_ct_succ] at h
      cases hp : p n
      · simp [hp] at h; omega
      · simp [hp] at h
        exact ⟨n, by omega, hp, by omega⟩
theorem fb_ct_kth_one {p : Nat → Bool} {i j : Nat} (hi : p i = true) (hj : p j = true) (e : fb_ct p i = fb_ct p j) : i = j := by
  have key : ∀ a b : Nat, a < b → p a = true → fb_ct p a < fb_ct p b := by
    intro a b hab ha
    have h := fb_ct_mono p (show a + 1 ≤ b from hab)
    rw [fb_ct_succ, ha] at h
    simp at h
    omega
  rcases Nat.lt_trichotomy i j with q | q | q
  · have := key i j q hi; omega
  · exact q
  · have := key j i q hj; omega
/-! ===== sums over a range: one place changed, parts, bounds ===== -/
def fb_sm (f : Nat → Nat) : Nat → Nat
  | 0 => 0
  | n + 1 => fb_sm f n + f n
theorem fb_sm_succ (f : Nat → Nat) (n : Nat) : fb_sm f (n + 1) = fb_sm f n + f n := rfl
theorem fb_sm_cong {f g : Nat → Nat} : ∀ {n : Nat}, (∀ k, k < n → f k = g k) → fb_sm f n = fb_sm g n
  | 0, _ => rfl
  | n + 1, h => by rw [fb_sm_succ, fb_sm_succ, fb_sm_cong (fun k hk => h k (by omega)), h n (by omega)]
theorem fb_sm_out (f : Nat → Nat) (v : Nat) {i n : Nat} (h : n ≤ i) : fb_sm (fun k => if k = i then v else f k) n = fb_sm f n :=
  fb_sm_cong fun k hk => if_neg (by omega)
theorem fb_sm_upd (f : Nat → Nat) (v : Nat) {i : Nat} : ∀ {n : Nat}, i < n → fb_sm (fun k => if k = i then v else f k) n + f i = fb_sm f n + v
  | 0, h => absurd h (Nat.not_lt_zero i)
  | n + 1, h => by
    rw [fb_sm_succ, fb_sm_succ]
    rcases Nat.lt_or_ge i n with q | q
    · have := fb_sm_upd f v q
      have e : (if n = i then v else f n) = f n := if_neg (by omega)
      rw [e]
      omega
    · have e : i = n := by omega
      subst e
      rw [fb_sm_out f v (Nat.le_refl _)]
      simp only [if_true]
      omega
theorem fb_sm_add (f g : Nat → Nat) : ∀ n, fb_sm (fun k => f k + g k) n = fb_sm f n + fb_sm g n
  | 0 => rfl
  | n + 1 => by
    have h := fb_sm_add f g n
    rw [fb_sm_succ, fb_sm_succ, fb_sm_succ, h]
    omega
theorem fb_sm_le {f g : Nat → Nat} : ∀ {n : Nat}, (∀ k, k < n → f k ≤ g k) → fb_sm f n ≤ fb_sm g n
  | 0, _ => Nat.le_refl _
  | n + 1, h => by
    have h1 := fb_sm_le (n := n) (f := f) (g := g) (fun k hk => h k (by omega))
    have h2 := h n (by omega)
    rw [fb_sm_succ, fb_sm_succ]
    omega
theorem fb_sm_const (c : Nat) : ∀ n, fb_sm (fun _ => c) n = n * c
  | 0 => by rw [Nat.zero_mul]; rfl
  | n + 1 => by rw [fb_sm_succ, fb_sm_const c n, Nat.succ_mul]
theorem fb_sm_bound {f : Nat → Nat} {c n : Nat} (h : ∀ k, k < n → f k ≤ c) : fb_sm f n ≤ n * c := by
  rw [← fb_sm_const c n]
  exact fb_sm_le h
theorem fb_sm_mono (f : Nat → Nat) (m : Nat) : ∀ n, fb_sm f m ≤ fb_sm f (m + n)
  | 0 => Nat.le_refl _
  | n + 1 => by
    have h := fb_sm_mono f m n
    show fb_sm f m ≤ fb_sm f (m + n + 1)
    rw [fb_sm_succ]
    omega
theorem fb_sm_part (f : Nat → Nat) {i n : Nat} (h : i < n) : fb_sm f i + f i ≤ fb_sm f n := by
  have := fb_sm_mono f (i + 1) (n - (i + 1))
  rw [fb_sm_succ, show i + 1 + (n - (i + 1)) = n by omega] at this
  exact this
theorem fb_sm_split (f : Nat → Nat) (m : Nat) : ∀ n, fb_sm f (m + n) = fb_sm f m + fb_sm (fun k => f (m + k)) n
  | 0 => rfl
  | n + 1 => by
    have h := fb_sm_split f m n
    show fb_sm f (m + n + 1) = _
    rw [fb_sm_succ, fb_sm_succ, h, Nat.add_assoc]
theorem fb_sm_zero {f : Nat → Nat} {n : Nat} (h : fb_sm f n = 0) : ∀ k, k < n → f k = 0 := fun k hk => by
  have := fb_sm_part f hk
  omega
/-- the same over whole numbers -/
def fb_si (f : Nat → Int) : Nat → Int
  | 0 => 0
  | n + 1 => fb_si f n + f n
theorem fb_si_succ (f : Nat → Int) (n : Nat) : fb_si f (n + 1) = fb_si f n + f n := rfl
theorem fb_si_cong {f g : Nat → Int} : ∀ {n : Nat}, (∀ k, k < n → f k = g k) → fb_si f n = fb_si g n
  | 0, _ => rfl
  | n + 1, h => by rw [fb_si_succ, fb_si_succ, fb_si_cong (fun k hk => h k (by omega)), h n (by omega)]
theorem fb_si_out (f : Nat → Int) (v : Int) {i n : Nat} (h : n ≤ i) : fb_si (fun k => if k = i then v else f k) n = fb_si f n :=
  fb_si_cong fun k hk => if_neg (by omega)
theorem fb_si_upd (f : Nat → Int) (v : Int) {i : Nat} : ∀ {n : Nat}, i < n → fb_si (fun k => if k = i then v else f k) n = fb_si f n - f i + v
  | 0, h => absurd h (Nat.not_lt_zero i)
  | n + 1, h => by
    rw [fb_si_succ, fb_si_succ]
    rcases Nat.lt_or_ge i n with q | q
    · have := fb_si_upd f v q
      have e : (if n = i then v else f n) = f n := if_neg (by omega)
      rw [e]
      omega
    · have e : i = n := by omega
      subst e
      rw [fb_si_out f v (Nat.le_refl _)]
      simp only [if_true]
      omega
theorem fb_si_add (f g : Nat → Int) : ∀ n, fb_si (fun k => f k + g k) n = fb_si f n + fb_si g n
  | 0 => rfl
  | n + 1 => by
    have h := fb_si_add f g n
    rw [fb_si_succ, fb_si_succ, fb_si_succ, h]
    omega
theorem fb_si_sub (f g : Nat → Int) : ∀ n, fb_si (fun k => f k - g k) n = fb_si f n - fb_si g n
  | 0 => rfl
  | n + 1 => by
    have h := fb_si_sub f g n
    rw [fb_si_succ, fb_si_succ, fb_si_succ, h]
    omega
theorem fb_si_mul (c : Int) (f : Nat → Int) : ∀ n, fb_si (fun k => c * f k) n = c * fb_si f n
  | 0 => (Int.mul_zero c).symm
  | n + 1 => by
    have h := fb_si_mul c f n
    rw [fb_si_succ, fb_si_succ, h, Int.mul_add]
theorem fb_si_split (f : Nat → Int) (m : Nat) : ∀ n, fb_si f (m + n) = fb_si f m + fb_si (fun k => f (m + k)) n
  | 0 => (Int.add_zero _).symm
  | n + 1 => by
    have h := fb_si_split f m n
    show fb_si f (m + n + 1) = _
    rw [fb_si_succ, fb_si_succ, h, Int.add_assoc]
theorem fb_si_nat (f : Nat → Nat) : ∀ n, fb_si (fun k => (f k : Int)) n = (fb_sm f n : Int)
  | 0 => rfl
  | n + 1 => by
    have h := fb_si_nat f n
    rw [fb_si_succ, fb_sm_succ, h]
    omega
theorem fb_si_bound {f : Nat → Int} {c : Int} (hc : 0 ≤ c) : ∀ {n : Nat}, (∀ k, k < n → -c ≤ f k ∧ f k ≤ c) → -(n * c) ≤ fb_si f n ∧ fb_si f n ≤ n * c
  | 0, _ => by simp [fb_si]
  | n + 1, h => by
    have h1 := fb_si_bound (n := n) (f := f) hc (fun k hk => h k (by omega))
    have h2 := h n (by omega)
    have e : ((n + 1 : Nat) : Int) * c = n * c + c := by rw [Int.natCast_add, Int.add_mul]; simp
    rw [fb_si_succ, e]
    omega
/-! ===== bits of a long that isn't negative ===== -/
theorem fb_andL (a b : Nat) : lN a &&& lN b = lN (a &&& b) := by
  apply Int64.toBitVec_inj.1
  show BitVec.ofNat 64 a &&& BitVec.ofNat 64 b = BitVec.ofNat 64 (a &&& b)
  apply BitVec.eq_of_getLsbD_eq
  intro i hi
  simp [hi]
theorem fb_orL (a b : Nat) : lN a ||| lN b = lN (a ||| b) := by
  apply Int64.toBitVec_inj.1
  show BitVec.ofNat 64 a ||| BitVec.ofNat 64 b = BitVec.ofNat 64 (a ||| b)
  apply BitVec.eq_of_getLsbD_eq
  intro i hi
  simp [hi]
theorem fb_xorL (a b : Nat) : lN a ^^^ lN b = lN (a ^^^ b) := by
  apply Int64.toBitVec_inj.1
  show BitVec.ofNat 64 a ^^^ BitVec.ofNat 64 b = BitVec.ofNat 64 (a ^^^ b)
  apply BitVec.eq_of_getLsbD_eq
  intro i hi
  simp [hi]
theorem fb_xorI (a b : Nat) : nI a ^^^ nI b = nI (a ^^^ b) := by
  apply Int32.toBitVec_inj.1
  show BitVec.ofNat 32 a ^^^ BitVec.ofNat 32 b = BitVec.ofNat 32 (a ^^^ b)
  apply BitVec.eq_of_getLsbD_eq
  intro i hi
  simp [hi]
theorem fb_maskL (n k : Nat) : lN n &&& lN (2 ^ k - 1) = lN (n % 2 ^ k) := by rw [fb_andL, Nat.and_two_pow_sub_one_eq_mod]
theorem fb_or_sumL {a k : Nat} (b : Nat) (h : a < 2 ^ k) : lN (2 ^ k * b) ||| lN a = lN (2 ^ k * b + a) := by rw [fb_orL, Nat.two_pow_add_eq_or_of_lt h]
theorem fb_lN_inj {a b : Nat} (ha : a < 2 ^ 63) (hb : b < 2 ^ 63) : lN a = lN b ↔ a = b := by
  constructor
  · intro h
    have h1 : (BitVec.ofNat 64 a).toNat = (BitVec.ofNat 64 b).toNat := congrArg (fun x : Int64 => x.toBitVec.toNat) h
    rw [BitVec.toNat_ofNat, BitVec.toNat_ofNat, Nat.mod_eq_of_lt (by omega), Nat.mod_eq_of_lt (by omega)] at h1
    exact h1
  · rintro rfl; rfl
theorem fb_bit_nat (n j : Nat) : n &&& 2 ^ j = 0 ↔ n.testBit j = false := by
  constructor
  · intro h
    have h1 : (n &&& 2 ^ j).testBit j = false := by rw [h]; simp
    rw [Nat.testBit_and] at h1
    simpa using h1
  · intro h
    apply Nat.eq_of_testBit_eq
    intro i
    rw [Nat.testBit_and]
    by_cases hi : j = i
    · subst hi; simp [h]
    · first | (simp [Nat.testBit_two_pow, hi]; done) | (simp [Nat.testBit_two_pow_of_ne hi]; done)
/-- one bit of a long -/
theorem fb_bitL {n j : Nat} (hj : j < 63) : lN n &&& lN (2 ^ j) = 0 ↔ n.testBit j = false := by
  have h2 : (2 : Nat) ^ j < 2 ^ 63 := Nat.pow_lt_pow_right (by decide) hj
  have hle : n &&& 2 ^ j ≤ 2 ^ j := Nat.and_le_right
  rw [fb_andL, ← fb_bit_nat, show (0 : Int64) = lN 0 from rfl]
  exact fb_lN_inj (by omega) (by decide)
/-- a bit set, a bit taken off -/
theorem fb_bit_set (n j i : Nat) : (n ||| 2 ^ j).testBit i = (n.testBit i || decide (i = j)) := by
  rw [Nat.testBit_or]
  by_cases h : j = i
  · subst h; simp
  · have h2 : ¬ i = j := fun e => h e.symm
    first | (simp [Nat.testBit_two_pow, h, h2]; done) | (simp [Nat.testBit_two_pow_of_ne h, h2]; done)
theorem fb_bit_flip (n j i : Nat) : (n ^^^ 2 ^ j).testBit i = (n.testBit i ^^ decide (i = j)) := by
  rw [Nat.testBit_xor]
  by_cases h : j = i
  · subst h; simp
  · have h2 : ¬ i = j := fun e => h e.symm
    first | (simp [Nat.testBit_two_pow, h, h2]; done) | (simp [Nat.testBit_two_pow_of_ne h, h2]; done)
/-! ===== a stretch of an array written over by a function ===== -/
def fb_put {α : Type} (f g : Nat → α) (a n : Nat) : Nat → α := fun k => if a ≤ k ∧ k < a + n then g (k - a) else f k
theorem fb_put_0 {α : Type} (f g : Nat → α) (a : Nat) : fb_put f g a 0 = f := funext fun k => if_neg (by omega)
theorem fb_put_in {α : Type} {f g : Nat → α} {a n k : Nat} (h1 : a ≤ k) (h2 : k < a + n) : fb_put f g a n k = g (k - a) := if_pos ⟨h1, h2⟩
theorem fb_put_out {α : Type} {f g : Nat → α} {a n k : Nat} (h : k < a ∨ a + n ≤ k) : fb_put f g a n k = f k := if_neg (by omega)
theorem fb_put_succ (f g : Nat → Int32) (a n : Nat) : upd (fb_put f g a n) (a + n) (g n) = fb_put f g a (n + 1) := by
  funext k
  by_cases h : k = a + n
  · subst h
    simp [upd, fb_put]
  · by_cases h1 : a ≤ k ∧ k < a + n
    · have h2 : a ≤ k ∧ k < a + (n + 1) := by omega
      simp only [upd, fb_put, if_neg h, if_pos h1, if_pos h2]
    · have h2 : ¬ (a ≤ k ∧ k < a + (n + 1)) := by omega
      simp only [upd, fb_put, if_neg h, if_neg h1, if_neg h2]
/-- .. from the far end down -/
theorem fb_put_down (f g : Nat → Int32) {a n m : Nat} (h : m < n) : upd (fb_put f (fun k => g (k + (m + 1))) (a + (m + 1)) (n - (m + 1))) (a + m) (g m) = fb_put f (fun k => g (k + m)) (a + m) (n - m) := by
  funext k
  by_cases h0 : k = a + m
  · subst h0
    simp only [upd, if_true]
    rw [fb_put_in (by omega) (by omega)]
    exact congrArg g (by omega)
  · simp only [upd, if_neg h0]
    by_cases h1 : a + (m + 1) ≤ k ∧ k < a + (m + 1) + (n - (m + 1))
    · rw [fb_put_in h1.1 h1.2, fb_put_in (by omega) (by omega)]
      exact congrArg g (by omega)
    · rw [fb_put_out (by omega), fb_put_out (by omega)]
theorem fb_put_cong {α : Type} {f f2 g g2 : Nat → α} {a n : Nat} (hf : ∀ k, (k < a ∨ a + n ≤ k) → f k = f2 k) (hg : ∀ k, k < n → g k = g2 k) : fb_put f g a n = fb_put f2 g2 a n := by
  funext k
  by_cases h : a ≤ k ∧ k < a + n
  · rw [fb_put_in h.1 h.2, fb_put_in h.1 h.2, hg _ (by omega)]
  · rw [fb_put_out (by omega), fb_put_out (by omega), hf _ (by omega)]
/-! ===== the least, the first, the best so far; that there is one alone ===== -/
theorem fb_first {p : Nat → Prop} [DecidablePred p] : ∀ {n : Nat}, (∃ i, i < n ∧ p i) → ∃ i, i < n ∧ p i ∧ ∀ j, j < i → ¬ p j
  | 0, h => by obtain ⟨i, hi, -⟩ := h; exact absurd hi (Nat.not_lt_zero i)
  | n + 1, h => by
    by_cases q : ∃ i, i < n ∧ p i
    · obtain ⟨i, h1, h2⟩ := fb_first q
      exact ⟨i, by omega, h2⟩
    · obtain ⟨i, h1, h2⟩ := h
      have e : i = n := by
        rcases Nat.lt_or_ge i n with r | r
        · exact absurd ⟨i, r, h2⟩ q
        · omega
      subst e
      exact ⟨i, by omega, h2, fun j hj hp => q ⟨j, hj, hp⟩⟩
theorem fb_first_one {p : Nat → Prop} {i j : Nat} (hi : p i) (hi2 : ∀ k, k < i → ¬ p k) (hj : p j) (hj2 : ∀ k, k < j → ¬ p k) : i = j := by
  rcases Nat.lt_trichotomy i j with q | q | q
  · exact absurd hi (hj2 i q)
  · exact q
  · exact absurd hj (hi2 j q)
theorem fb_last {p : Nat → Prop} [DecidablePred p] : ∀ {n : Nat}, (∃ i, i < n ∧ p i) → ∃ i, i < n ∧ p i ∧ ∀ j, i < j → j < n → ¬ p j
  | 0, h => by obtain ⟨i, hi, -⟩ := h; exact absurd hi (Nat.not_lt_zero i)
  | n + 1, h => by
    by_cases q : p n
    · exact ⟨n, by omega, q, fun j h1 h2 => by omega⟩
    · obtain ⟨i, h1, h2⟩ := h
      have hi : i < n := by
        rcases Nat.lt_or_ge i n with r | r
        · exact r
        · have e : i = n := by omega
          subst e
          exact absurd h2 q
      obtain ⟨i2, a1, a2, a3⟩ := fb_last (n := n) ⟨i, hi, h2⟩
      refine ⟨i2, by omega, a2, fun j b1 b2 => ?_⟩
      rcases Nat.lt_or_ge j n with r | r
      · exact a3 j b1 r
      · have e : j = n := by omega
        subst e
        exact q
/-- the first greatest -/
theorem fb_best (f : Nat → Int) : ∀ {n : Nat}, 0 < n → ∃ i, i < n ∧ (∀ j, j < n → f j ≤ f i) ∧ ∀ j, j < i → f j < f i
  | 0, h => absurd h (Nat.lt_irrefl 0)
  | 1, _ => ⟨0, by omega, fun j hj => by have e : j = 0 := by omega
                                         subst e; exact Int.le_refl _, fun j hj => absurd hj (Nat.not_lt_zero j)⟩
  | n + 2, _ => by
    obtain ⟨i, h1, h2, h3⟩ := fb_best f (n := n + 1) (by omega)
    by_cases q : f i < f (n + 1)
    · refine ⟨n + 1, by omega, fun j hj => ?_, fun j hj => ?_⟩
      · rcases Nat.lt_or_ge j (n + 1) with r | r
        · have := h2 j r; omega
        · have e : j = n + 1 := by omega
          subst e; exact Int.le_refl _
      · have := h2 j hj; omega
    · refine ⟨i, by omega, fun j hj => ?_, h3⟩
      rcases Nat.lt_or_ge j (n + 1) with r | r
      · exact h2 j r
      · have e : j = n + 1 := by omega
        subst e; omega
theorem fb_best_one {f : Nat → Int} {n i j : Nat} (hi : i < n) (hi2 : ∀ k, k < n → f k ≤ f i) (hi3 : ∀ k, k < i → f k < f i) (hj : j < n) (hj2 : ∀ k, k < n → f k ≤ f j) (hj3 : ∀ k, k < j → f k < f j) : i = j := by
  rcases Nat.lt_trichotomy i j with q | q | q
  · have a := hj3 i q
    have b := hi2 j hj
    omega
  · exact q
  · have a := hi3 j q
    have b := hj2 i hi
    omega
/-- the first least -/
theorem fb_low (f : Nat → Int) {n : Nat} (h : 0 < n) : ∃ i, i < n ∧ (∀ j, j < n → f i ≤ f j) ∧ ∀ j, j < i → f i < f j := by
  obtain ⟨i, h1, h2, h3⟩ := fb_best (fun k => -f k) h
  exact ⟨i, h1, fun j hj => by have := h2 j hj; omega, fun j hj => by have := h3 j hj; omega⟩
/-! ===== signed ints as whole numbers, within bounds ===== -/
theorem fb_rng (x : Int32) : -2147483648 ≤ x.toInt ∧ x.toInt < 2147483648 := by
  have h1 := Int32.le_toInt x
  have h2 := Int32.toInt_lt x
  omega
theorem fb_bmod {z : Int} (h1 : -2147483648 ≤ z) (h2 : z < 2147483648) : z.bmod (2 ^ 32) = z := by
  rw [Int.bmod_eq_of_le (by omega) (by omega)]
theorem fb_addI {x y : Int32} (h1 : -2147483648 ≤ x.toInt + y.toInt) (h2 : x.toInt + y.toInt < 2147483648) : (x + y).toInt = x.toInt + y.toInt := by
  rw [Int32.toInt_add, fb_bmod h1 h2]
theorem fb_subI {x y : Int32} (h1 : -2147483648 ≤ x.toInt - y.toInt) (h2 : x.toInt - y.toInt < 2147483648) : (x - y).toInt = x.toInt - y.toInt := by
  rw [Int32.toInt_sub, fb_bmod h1 h2]
theorem fb_mulI {x y : Int32} (h1 : -2147483648 ≤ x.toInt * y.toInt) (h2 : x.toInt * y.toInt < 2147483648) : (x * y).toInt = x.toInt * y.toInt := by
  rw [Int32.toInt_mul, fb_bmod h1 h2]
theorem fb_negI {x : Int32} (h : x.toInt ≠ -2147483648) : (-x).toInt = -x.toInt := by
  have := fb_rng x
  rw [Int32.toInt_neg, fb_bmod (by omega) (by omega)]
theorem fb_ofI {z : Int} (h1 : -2147483648 ≤ z) (h2 : z < 2147483648) : (Int32.ofInt z).toInt = z := by
  rw [Int32.toInt_ofInt, fb_bmod h1 h2]
theorem fb_asI (x : Int32) : Int32.ofInt x.toInt = x := Int32.ofInt_toInt x
theorem fb_rngL (x : Int64) : -9223372036854775808 ≤ x.toInt ∧ x.toInt < 9223372036854775808 := by
  have h1 := Int64.le_toInt x
  have h2 := Int64.toInt_lt x
  omega
theorem fb_bmodL {z : Int} (h1 : -9223372036854775808 ≤ z) (h2 : z < 9223372036854775808) : z.bmod (2 ^ 64) = z := by
  rw [Int.bmod_eq_of_le (by omega) (by omega)]
theorem fb_addL {x y : Int64} (h1 : -9223372036854775808 ≤ x.toInt + y.toInt) (h2 : x.toInt + y.toInt < 9223372036854775808) : (x + y).toInt = x.toInt + y.toInt := by
  rw [Int64.toInt_add, fb_bmodL h1 h2]
theorem fb_subL {x y : Int64} (h1 : -9223372036854775808 ≤ x.toInt - y.toInt) (h2 : x.toInt - y.toInt < 9223372036854775808) : (x - y).toInt = x.toInt - y.toInt := by
  rw [Int64.toInt_sub, fb_bmodL h1 h2]
theorem fb_mulL {x y : Int64} (h1 : -9223372036854775808 ≤ x.toInt * y.toInt) (h2 : x.toInt * y.toInt < 9223372036854775808) : (x * y).toInt = x.toInt * y.toInt := by
  rw [Int64.toInt_mul, fb_bmodL h1 h2]
/-! ===== cuts of what is narrow already ===== -/
theorem fb_byte {x : Int32} (h1 : -128 ≤ x.toInt) (h2 : x.toInt < 128) : x.toInt8.toInt32 = x := by
  apply Int32.toInt_inj.1
  rw [Int8.toInt_toInt32, Int32.toInt_toInt8, Int.bmod_eq_of_le (by omega) (by omega)]
theorem fb_short {x : Int32} (h1 : -32768 ≤ x.toInt) (h2 : x.toInt < 32768) : x.toInt16.toInt32 = x := by
  apply Int32.toInt_inj.1
  rw [Int16.toInt_toInt32, Int32.toInt_toInt16, Int.bmod_eq_of_le (by omega) (by omega)]
theorem fb_byte_rng (x : Int32) : -128 ≤ x.toInt8.toInt32.toInt ∧ x.toInt8.toInt32.toInt < 128 := by
  rw [Int8.toInt_toInt32]
  have h1 := Int8.le_toInt x.toInt8
  have h2 := Int8.toInt_lt x.toInt8
  omega
theorem fb_short_rng (x : Int32) : -32768 ≤ x.toInt16.toInt32.toInt ∧ x.toInt16.toInt32.toInt < 32768 := by
  rw [Int16.toInt_toInt32]
  have h1 := Int16.le_toInt x.toInt16
  have h2 := Int16.toInt_lt x.toInt16
  omega
theorem fb_byte_twice (x : Int32) : x.toInt8.toInt32.toInt8.toInt32 = x.toInt8.toInt32 := fb_byte (fb_byte_rng x).1 (fb_byte_rng x).2
theorem fb_short_twice (x : Int32) : x.toInt16.toInt32.toInt16.toInt32 = x.toInt16.toInt32 := fb_short (fb_short_rng x).1 (fb_short_rng x).2
theorem fb_char {n : Nat} (h : n < 65536) : (nI n).toUInt32.toUInt16.toUInt32.toInt32 = nI n := by
  apply Int32.toBitVec_inj.1
  apply BitVec.eq_of_toNat_eq
  have e1 : (nI n).toBitVec.toNat = n := by
    show (BitVec.ofNat 32 n).toNat = n
    rw [BitVec.toNat_ofNat, Nat.mod_eq_of_lt (by omega)]
  have e2 : ((nI n).toUInt32.toUInt16.toUInt32).toNat = n := by
    rw [UInt16.toNat_toUInt32, UInt32.toNat_toUInt16]
    show (nI n).toBitVec.toNat % 2 ^ 16 = n
    rw [e1, Nat.mod_eq_of_lt (by omega)]
  rw [e1]
  exact e2
end
section
/-! rows of this claim: encodings, contracts' forms, instructions over numbers, calls in place -/
def e9 (x : Nat) : Int32 := if x = 1000 then (-9) else nI x
def e1 (x : Nat) : Int32 := if x = 1000 then (-1) else nI x
def bI (b : Bool) : Int32 := if b then 1 else 0
theorem i_eq {a b : Int32} : a = b ↔ a.toInt = b.toInt := ⟨fun h => by rw [h], fun h => Int32.toInt_inj.mp h⟩
theorem i_le {a b : Int32} : a ≤ b ↔ a.toInt ≤ b.toInt := Int32.le_iff_toInt_le
theorem i_lt {a b : Int32} : a < b ↔ a.toInt < b.toInt := Int32.lt_iff_toInt_lt
theorem e9_toInt {x : Nat} (h : x ≤ 1000) : (e9 x).toInt = if x = 1000 then (-9 : Int) else (x : Int) := by
  unfold e9
  split
  · rfl
  · exact nI_toInt (by omega)
theorem e1_toInt {x : Nat} (h : x ≤ 1000) : (e1 x).toInt = if x = 1000 then (-1 : Int) else (x : Int) := by
  unfold e1
  split
  · rfl
  · exact nI_toInt (by omega)
theorem e9_n {x : Nat} (h : x ≠ 1000) : e9 x = nI x := if_neg h
theorem e1_n {x : Nat} (h : x ≠ 1000) : e1 x = nI x := if_neg h
theorem e9_inj {x y : Nat} (hx : x ≤ 1000) (hy : y ≤ 1000) : e9 x = e9 y ↔ x = y := by
  rw [i_eq, e9_toInt hx, e9_toInt hy]
  split <;> split <;> omega
theorem e1_inj {x y : Nat} (hx : x ≤ 1000) (hy : y ≤ 1000) : e1 x = e1 y ↔ x = y := by
  rw [i_eq, e1_toInt hx, e1_toInt hy]
  split <;> split <;> omega
theorem e9_nI {x y : Nat} (hx : x ≤ 1000) (hy : y < 1000) : e9 x = nI y ↔ x = y := by
  rw [i_eq, e9_toInt hx, nI_toInt (by omega)]
  split <;> omega
theorem e1_nI {x y : Nat} (hx : x ≤ 1000) (hy : y < 1000) : e1 x = nI y ↔ x = y := by
  rw [i_eq, e1_toInt hx, nI_toInt (by omega)]
  split <;> omega
theorem nI_e9 {x y : Nat} (hx : x ≤ 1000) (hy : y < 1000) : nI y = e9 x ↔ x = y := ⟨fun h => (e9_nI hx hy).mp h.symm, fun h => ((e9_nI hx hy).mpr h).symm⟩
theorem nI_e1 {x y : Nat} (hx : x ≤ 1000) (hy : y < 1000) : nI y = e1 x ↔ x = y := ⟨fun h => (e1_nI hx hy).mp h.symm, fun h => ((e1_nI hx hy).mpr h).symm⟩
theorem t0 : (0 : Int32).toInt = 0 := rfl
theorem e9_ge0 {x : Nat} (hx : x ≤ 1000) : 0 ≤ e9 x ↔ x ≠ 1000 := by
  rw [i_le, e9_toInt hx, t0]
  split <;> omega
theorem e1_ge0 {x : Nat} (hx : x ≤ 1000) : 0 ≤ e1 x ↔ x ≠ 1000 := by
  rw [i_le, e1_toInt hx, t0]
  split <;> omega
theorem e9_lt0 {x : Nat} (hx : x ≤ 1000) : e9 x < 0 ↔ x = 1000 := by
  rw [i_lt, e9_toInt hx, t0]
  split <;> omega
theorem e1_lt0 {x : Nat} (hx : x ≤ 1000) : e1 x < 0 ↔ x = 1000 := by
  rw [i_lt, e1_toInt hx, t0]
  split <;> omega
theorem nI_ge0 {x : Nat} (hx : x < 2 ^ 31) : 0 ≤ nI x ↔ True := by
  rw [i_le, nI_toInt hx, t0]
  exact ⟨fun _ => trivial, fun _ => by omega⟩
theorem nI_lt0 {x : Nat} (hx : x < 2 ^ 31) : nI x < 0 ↔ False := by
  rw [i_lt, nI_toInt hx, t0]
  exact ⟨fun h => by omega, fun h => h.elim⟩
theorem nI_eq0 {x : Nat} (hx : x < 2 ^ 31) : nI x = 0 ↔ x = 0 := by
  rw [i_eq, nI_toInt hx, t0]
  omega
theorem nI_le0 {x : Nat} (hx : x < 2 ^ 31) : nI x ≤ 0 ↔ x = 0 := by
  rw [i_le, nI_toInt hx, t0]
  omega
theorem nI_gt0 {x : Nat} (hx : x < 2 ^ 31) : 0 < nI x ↔ 0 < x := by
  rw [i_lt, nI_toInt hx, t0]
  omega
theorem bI_eq0 {b : Bool} : bI b = 0 ↔ b = false := by cases b <;> decide
theorem bI_nar (b : Bool) : narrow .boolean (.int (bI b)) = .int (bI b) := by cases b <;> rfl
theorem bI_fit (b : Bool) : fits .boolean (.int (bI b)) = true := by cases b <;> rfl
theorem up_nI (V : Nat → Nat) (k y : Nat) : upd (fun j => nI (V j)) k (nI y) = fun j => nI (va_up V k y j) := by
  funext j; unfold upd va_up; split <;> rfl
theorem up_e9 (V : Nat → Nat) (k y : Nat) : upd (fun j => e9 (V j)) k (e9 y) = fun j => e9 (va_up V k y j) := by
  funext j; unfold upd va_up; split <;> rfl
theorem up_e9n (V : Nat → Nat) (k y : Nat) (h : y ≠ 1000) : upd (fun j => e9 (V j)) k (nI y) = fun j => e9 (va_up V k y j) := by
  rw [← e9_n h]; exact up_e9 V k y
/-! worlds -/
abbrev kG : Type := va_G × ClassId × ClassId × ClassId
abbrev ar (G : kG) (a n : Nat) (f : Nat → Int32) : Nat × va_E := (a, .inl (G.2.1, n, .inl f))
abbrev arC (G : kG) (a n : Nat) (f : Nat → Int32) : Nat × va_E := (a, .inl (G.2.2.1, n, .inl f))
abbrev arS (G : kG) (a n : Nat) (f : Nat → Option Nat) : Nat × va_E := (a, .inl (G.2.2.2, n, .inr (.inr (.inr (.inr f)))))
abbrev ob (a ci : Nat) (fs : List Value) : Nat × va_E := (a, .inr (ci, fs))
def NW (U : State) : Prop := va_Nw (.methodLinkNest RX5 11 yX3_init RX5) U ∧ va_Nw (.methodLinkNest RX5 28 yX4_init RX5) U ∧ va_Nw (.methodLinkNest RX3 107 yX1_forgetForms RX5) U ∧ va_Nw (.methodLinkNest RX4 65 yX5_isColumn RX5) U
abbrev kT (G : kG) : List (ClassId × FieldType) := [(G.2.1, .int), (G.2.2.1, .char), (G.2.2.2, .object RX1)]
def KK (G : kG) (U : State) : Prop := va_K G.1 vwCl (kT G) U ∧ NW U
theorem KK.warm {G : kG} {s U : State} (hW : s.WarmedH U.vm) (h : KK G s) : KK G U := ⟨va_K.moved hW.alike h.1, va_Nw.warmM hW h.2.1, va_Nw.warmM hW h.2.2.1, va_Nw.warmM hW h.2.2.2.1, va_Nw.warmM hW h.2.2.2.2⟩
theorem KK.call {G : kG} {U : State} {g : JFrame} {mk : MethodId} {a : Array Value} (h : KK G U) : KK G (U.calling g mk a) :=
  ⟨va_K.moved (u := U) (U := U.calling g mk a) (Vm.Alike.refl U.vm) h.1, va_Nw.same (u := U) (U := U.calling g mk a) rfl rfl h.2.1, va_Nw.same (u := U) (U := U.calling g mk a) rfl rfl h.2.2.1, va_Nw.same (u := U) (U := U.calling g mk a) rfl rfl h.2.2.2.1, va_Nw.same (u := U) (U := U.calling g mk a) rfl rfl h.2.2.2.2⟩
/-! contracts' forms -/
def mA (ws : va_W) : Nat → Prop := fun q => ∃ (k : Nat) (e : va_E), ws[k]? = some (q, e)
def cP (G : kG) (av : List Value) (ws : va_W) : Array Value → State → Prop := va_Pc av (fun U => va_P G.1 vwCl ws U.heap ∧ KK G U ∧ va_D (fun _ => True) ws)
theorem cP_blind {G : kG} {av : List Value} {ws : va_W} : FrameBlind (cP G av ws) := fun _ _ _ _ q => ⟨q.1, q.2.1, q.2.2.1.call, q.2.2.2⟩
def qV (B : Heap → Prop) (A : Nat → Prop) : Array Value → State → Outcome → State → Prop := fun _ st oc t => (oc = .returned none ∧ B t.heap) ∧ va_F A st t
def qI (B : Int32 → Heap → Prop) (A : Nat → Prop) : Array Value → State → Outcome → State → Prop := fun _ st oc t => (∃ r : Int32, oc = .returned (some (.int r)) ∧ B r t.heap) ∧ va_F A st t
def qR (B : Nat → Heap → Prop) (A : Nat → Prop) : Array Value → State → Outcome → State → Prop := fun _ st oc t => (∃ r : Nat, oc = .returned (some (.ref r)) ∧ B r t.heap) ∧ va_F A st t
theorem met_ro {l : Launch} {y : MethodName} {wsm ws' : List Cond} {rm : Room} {G : kG} {av : List Value} {ws : va_W} {post : Int32 → Prop} {cc : ByteArray} {maxL : Nat} {ty : FieldType} {own : String} (hy : plainName y.cls = true) (hw : wsm = Cond.code y cc maxL (some ty) :: ws') (hown : y.cls = own) (hn : ∀ v, post v → narrow ty (.int v) = .int v) (hlen : (lg_sl av).length ≤ maxL)
    (body : ∀ (p : Program) (e : Env) (s : State) (m : MethodId) (args : Array Value) (below : List Frame) (meth : Method) (c : Code) (Q : State → Prop), p.tables.exec = Jvm.exec → c.code = cc → c.maxLocals = maxL → s.vm.findClass own = some m.cls → (∀ w ∈ wsm, w.before args s = true) → KK G s → va_P G.1 vwCl ws s.heap → va_D (fun _ => True) ws →
      (∀ (v : Int32) (pc : Nat) (ls : Array Slot), decode cc pc = .ok (.ireturn, 1) → post v → W p l e rm s m args below meth c s.heap [] 0 0 Q (F0 m pc ls [.int v])) → ∀ ls : Array Slot, lv_has ls maxL (lv_args 0 av) → W p l e rm s m args below meth c s.heap [] 0 0 Q (F0 m 0 ls [])) :
    Met l y wsm rm (cP G av ws) (vp_Si post) 0 0 (fun _ => False) := by
  refine Met.ofW (cc := cc) (maxL := maxL) (ret := some ty) hy hw ?_
  intro p e s m args below meth c s₁ B hml hv
  obtain ⟨rfl, hP, hK, hD⟩ := hv
  rw [lg_entry_eq]
  exact body p e s m _ below meth c _ B.exec B.bytes hml (hown ▸ findClass_of_methodNamed B.named) (atoms_spec (ws := wsm) B.pre) hK hP hD (fun v pc ls hd hp => W.zret B.exec B.bytes B.returns (hn v hp) (fun t ht hW => ⟨v, rfl, hp, ht⟩) (fun q h => by cases h) hd (hlocks := B.notSynchronized)) _ (lv_entry av hlen)
theorem mD {ws : va_W} {A : Nat → Prop} (h : va_D A ws) : va_D (mA ws) ws := ⟨h.1, fun k q hk => ⟨k, q.2, hk⟩⟩
theorem met_muV {l : Launch} {y : MethodName} {wsm ws' : List Cond} {rm : Room} {G : kG} {av : List Value} {ws : va_W} {B : Heap → Prop} {cc : ByteArray} {maxL : Nat} {own : String} (hy : plainName y.cls = true) (hw : wsm = Cond.code y cc maxL none :: ws') (hown : y.cls = own) (hlen : (lg_sl av).length ≤ maxL)
    (body : ∀ (p : Program) (e : Env) (s : State) (m : MethodId) (args : Array Value) (below : List Frame) (meth : Method) (c : Code) (Q : State → Prop) (A : Nat → Prop), p.tables.exec = Jvm.exec → c.code = cc → c.maxLocals = maxL → s.vm.findClass own = some m.cls → (∀ w ∈ wsm, w.before args s = true) → KK G s → va_P G.1 vwCl ws s.heap → va_D A ws → va_S A s.heap s.heap [] →
      (∀ (H : Heap) (locs : List Loc) (pc : Nat) (ls : Array Slot), va_S A s.heap H locs → decode cc pc = .ok (.return_, 1) → B H → W p l e rm s m args below meth c H locs 0 0 Q (F0 m pc ls [])) → ∀ ls : Array Slot, lv_has ls maxL (lv_args 0 av) → W p l e rm s m args below meth c s.heap [] 0 0 Q (F0 m 0 ls [])) :
    Met l y wsm rm (cP G av ws) (qV B (mA ws)) 0 0 (mA ws) := by
  refine Met.ofW (cc := cc) (maxL := maxL) (ret := none) hy hw ?_
  intro p e s m args below meth c s₁ X hml hv
  obtain ⟨rfl, hP, hK, hD⟩ := hv
  rw [lg_entry_eq]
  exact body p e s m _ below meth c _ (mA ws) X.exec X.bytes hml (hown ▸ findClass_of_methodNamed X.named) (atoms_spec (ws := wsm) X.pre) hK hP (mD hD) va_S.rf (fun H locs pc ls hS hd hB => W.vret X.exec X.bytes X.returns (fun t ht hW => ⟨⟨rfl, by rw [ht]; exact hB⟩, hS.F ht⟩) hS.2.2 hd (hlocks := X.notSynchronized)) _ (lv_entry av hlen)
theorem met_muI {l : Launch} {y : MethodName} {wsm ws' : List Cond} {rm : Room} {G : kG} {av : List Value} {ws : va_W} {B : Int32 → Heap → Prop} {cc : ByteArray} {maxL : Nat} {ty : FieldType} {own : String} (hy : plainName y.cls = true) (hw : wsm = Cond.code y cc maxL (some ty) :: ws') (hown : y.cls = own) (hn : ∀ v H, B v H → narrow ty (.int v) = .int v) (hlen : (lg_sl av).length ≤ maxL)
    (body : ∀ (p : Program) (e : Env) (s : State) (m : MethodId) (args : Array Value) (below : List Frame) (meth : Method) (c : Code) (Q : State → Prop) (A : Nat → Prop), p.tables.exec = Jvm.exec → c.code = cc → c.maxLocals = maxL → s.vm.findClass own = some m.cls → (∀ w ∈ wsm, w.before args s = true) → KK G s → va_P G.1 vwCl ws s.heap → va_D A ws → va_S A s.heap s.heap [] →
      (∀ (H : Heap) (locs : List Loc) (v : Int32) (pc : Nat) (ls : Array Slot), va_S A s.heap H locs → decode cc pc = .ok (.ireturn, 1) → B v H → W p l e rm s m args below meth c H locs 0 0 Q (F0 m pc ls [.int v])) → ∀ ls : Array Slot, lv_has ls maxL (lv_args 0 av) → W p l e rm s m args below meth c s.heap [] 0 0 Q (F0 m 0 ls [])) :
    Met l y wsm rm (cP G av ws) (qI B (mA ws)) 0 0 (mA ws) := by
  refine Met.ofW (cc := cc) (maxL := maxL) (ret := some ty) hy hw ?_
  intro p e s m args below meth c s₁ X hml hv
  obtain ⟨rfl, hP, hK, hD⟩ := hv
  rw [lg_entry_eq]
  exact body p e s m _ below meth c _ (mA ws) X.exec X.bytes hml (hown ▸ findClass_of_methodNamed X.named) (atoms_spec (ws := wsm) X.pre) hK hP (mD hD) va_S.rf (fun H locs v pc ls hS hd hB => W.zret X.exec X.bytes X.returns (hn v H hB) (fun t ht hW => ⟨⟨v, rfl, by rw [ht]; exact hB⟩, hS.F ht⟩) hS.2.2 hd (hlocks := X.notSynchronized)) _ (lv_entry av hlen)
theorem met_muR {l : Launch} {y : MethodName} {wsm ws' : List Cond} {rm : Room} {G : kG} {av : List Value} {ws : va_W} {B : Nat → Heap → Prop} {cc : ByteArray} {maxL : Nat} {C : String} {own : String} (hy : plainName y.cls = true) (hw : wsm = Cond.code y cc maxL (some (.object C)) :: ws') (hown : y.cls = own) (hlen : (lg_sl av).length ≤ maxL)
    (body : ∀ (p : Program) (e : Env) (s : State) (m : MethodId) (args : Array Value) (below : List Frame) (meth : Method) (c : Code) (Q : State → Prop) (A : Nat → Prop), p.tables.exec = Jvm.exec → c.code = cc → c.maxLocals = maxL → s.vm.findClass own = some m.cls → (∀ w ∈ wsm, w.before args s = true) → KK G s → va_P G.1 vwCl ws s.heap → va_D A ws → va_S A s.heap s.heap [] →
      (∀ (H : Heap) (locs : List Loc) (v : Nat) (pc : Nat) (ls : Array Slot), va_S A s.heap H locs → decode cc pc = .ok (.areturn, 1) → B v H → W p l e rm s m args below meth c H locs 0 0 Q (F0 m pc ls [.ref v])) → ∀ ls : Array Slot, lv_has ls maxL (lv_args 0 av) → W p l e rm s m args below meth c s.heap [] 0 0 Q (F0 m 0 ls [])) :
    Met l y wsm rm (cP G av ws) (qR B (mA ws)) 0 0 (mA ws) := by
  refine Met.ofW (cc := cc) (maxL := maxL) (ret := some (.object C)) hy hw ?_
  intro p e s m args below meth c s₁ X hml hv
  obtain ⟨rfl, hP, hK, hD⟩ := hv
  rw [lg_entry_eq]
  exact body p e s m _ below meth c _ (mA ws) X.exec X.bytes hml (hown ▸ findClass_of_methodNamed X.named) (atoms_spec (ws := wsm) X.pre) hK hP (mD hD) va_S.rf (fun H locs v pc ls hS hd hB => W.aret X.exec X.bytes X.returns (Or.inl ⟨_, rfl⟩) (Or.inr ⟨_, rfl⟩) (fun t ht hW => ⟨⟨v, rfl, by rw [ht]; exact hB⟩, hS.F ht⟩) hS.2.2 hd (hlocks := X.notSynchronized)) _ (lv_entry av hlen)
/-! a world with some of its cells put anew -/
def mrg : va_W → List Nat → va_W → va_W
  | ws, i :: is, x :: xs => mrg (ws.set i x) is xs
  | ws, _, _ => ws
theorem mrg_at : ∀ (is : List Nat) (w1 ws : va_W) (k : Nat) (q : Nat × va_E), is.length = w1.length → (mrg ws is w1)[k]? = some q → (∃ j : Nat, is[j]? = some k ∧ w1[j]? = some q) ∨ (k ∉ is ∧ ws[k]? = some q)
  | [], w1, ws, k, q, _, h => by
    refine Or.inr ⟨List.not_mem_nil, ?_⟩
    simpa [mrg] using h
  | i :: is, [], ws, k, q, hl, h => by simp at hl
  | i :: is, x :: xs, ws, k, q, hl, h => by
    have h' : (mrg (ws.set i x) is xs)[k]? = some q := h
    rcases mrg_at is xs (ws.set i x) k q (by simpa using hl) h' with ⟨j, h1, h2⟩ | ⟨h1, h2⟩
    · exact Or.inl ⟨j + 1, by simpa using h1, by simpa using h2⟩
    · by_cases hk : i = k
      · subst hk
        have hlt : i < ws.length := by
          have := (List.getElem?_eq_some_iff.mp h2).1
          simpa using this
        rw [List.getElem?_set_self hlt] at h2
        exact Or.inl ⟨0, by simp, by simpa using h2⟩
      · rw [List.getElem?_set_ne hk] at h2
        exact Or.inr ⟨by simp only [List.mem_cons, not_or]; exact ⟨fun e => hk e.symm, h1⟩, h2⟩
theorem pl_at {α β : Type} {f : α → Option β} {is : List α} {w : List β} (hs : is.map f = w.map some) {k : Nat} {q : β} (hq : w[k]? = some q) : ∃ i, is[k]? = some i ∧ f i = some q := by
  have h1 : (is.map f)[k]? = some (some q) := by rw [hs, List.getElem?_map, hq]; rfl
  rw [List.getElem?_map] at h1
  cases hi : is[k]? with
  | none => rw [hi] at h1; cases h1
  | some i => rw [hi] at h1; exact ⟨i, rfl, Option.some.inj h1⟩
theorem pl_at' {α β : Type} {f : α → Option β} {is : List α} {w : List β} (hs : is.map f = w.map some) {k : Nat} {i : α} (hi : is[k]? = some i) : ∃ q, w[k]? = some q ∧ f i = some q := by
  have h1 : (w.map some)[k]? = some (f i) := by rw [← hs, List.getElem?_map, hi]; rfl
  rw [List.getElem?_map] at h1
  cases hq : w[k]? with
  | none => rw [hq] at h1; cases h1
  | some q => rw [hq] at h1; exact ⟨q, rfl, (Option.some.inj h1).symm⟩
theorem pl_P {D : va_G} {cl : List vw_C} {ws wc : va_W} {H : Heap} (h : va_P D cl ws H) {is : List Nat} (hs : is.map (fun i => ws[i]?) = wc.map some) : va_P D cl wc H := by
  intro k q hq
  obtain ⟨i, -, h2⟩ := pl_at hs hq
  exact h i q h2
theorem mA_sub {A : Nat → Prop} {ws wc : va_W} (hD : va_D A ws) {is : List Nat} (hs : is.map (fun i => ws[i]?) = wc.map some) : ∀ q, mA wc q → A q := by
  rintro q ⟨k, e, hk⟩
  obtain ⟨i, -, h2⟩ := pl_at hs hk
  exact hD.2 i _ h2
theorem mrg_D {A : Nat → Prop} {ws wc w1 : va_W} (hD : va_D A ws) {is : List Nat} (hs : is.map (fun i => ws[i]?) = wc.map some) (ha : w1.map (·.1) = wc.map (·.1)) : va_D A (mrg ws is w1) := by
  have hlen : is.length = w1.length := by
    have h1 := congrArg List.length hs
    have h2 := congrArg List.length ha
    simp only [List.length_map] at h1 h2
    omega
  have key : ∀ (k : Nat) (q : Nat × va_E), (mrg ws is w1)[k]? = some q → ∃ q0, ws[k]? = some q0 ∧ q0.1 = q.1 := by
    intro k q hq
    rcases mrg_at is w1 ws k q hlen hq with ⟨j, h1, h2⟩ | ⟨-, h2⟩
    · obtain ⟨q0, h3, h4⟩ := pl_at' hs h1
      refine ⟨q0, h4, ?_⟩
      have e1 : (w1.map (·.1))[j]? = some q.1 := by rw [List.getElem?_map, h2]; rfl
      rw [ha, List.getElem?_map, h3] at e1
      exact Option.some.inj e1
    · exact ⟨q, h2, rfl⟩
  refine ⟨fun i j x y hi hj hxy => ?_, fun k q hk => ?_⟩
  · obtain ⟨x0, h1, h2⟩ := key i x hi
    obtain ⟨y0, h3, h4⟩ := key j y hj
    exact hD.1 i j x0 y0 h1 h3 (h2.trans (hxy.trans h4.symm))
  · obtain ⟨q0, h1, h2⟩ := key k q hk
    rw [← h2]
    exact hD.2 k q0 h1
theorem mrg_P {A : Nat → Prop} {D : va_G} {cl : List vw_C} {ws wc w1 : va_W} {H H1 : Heap} (hP : va_P D cl ws H) (hD : va_D A ws) {is : List Nat} (hs : is.map (fun i => ws[i]?) = wc.map some) (ha : w1.map (·.1) = wc.map (·.1)) (hk : ∀ q : Nat, q < H.size → ¬ mA wc q → H1[q]? = H[q]?) (hP1 : va_P D cl w1 H1) : va_P D cl (mrg ws is w1) H1 := by
  have hlen : is.length = w1.length := by
    have h1 := congrArg List.length hs
    have h2 := congrArg List.length ha
    simp only [List.length_map] at h1 h2
    omega
  intro k q hq
  rcases mrg_at is w1 ws k q hlen hq with ⟨j, -, h2⟩ | ⟨h1, h2⟩
  · exact hP1 j q h2
  · refine (hP k q h2).kept (hk q.1 (hP k q h2).lt ?_)
    rintro ⟨j, e, hj⟩
    obtain ⟨i, h3, h4⟩ := pl_at hs hj
    have := hD.1 k i q _ h2 h4 rfl
    subst this
    exact h1 (List.mem_of_getElem? h3)
/-- the contents of a row, said otherwise -/
theorem P_ext {D : va_G} {cl : List vw_C} {ws : va_W} {H : Heap} (h : va_P D cl ws H) (k : Nat) {a n : Nat} {cA : ClassId} {f : Nat → Int32} (g : Nat → Int32) (hk : ws[k]? = some (a, .inl (cA, n, .inl f))) (hfg : ∀ j, j < n → f j = g j) : va_P D cl (ws.set k (a, .inl (cA, n, .inl g))) H := by
  have hl := (List.getElem?_eq_some_iff.mp hk).1
  intro i q hi
  by_cases e : k = i
  · subst e
    rw [List.getElem?_set_self hl] at hi
    cases hi
    have h1 := h k _ hk
    show H[a]? = some (vp_cell cA (n, .inl g))
    have h2 : H[a]? = some (vp_cell cA (n, .inl f)) := h1
    rw [h2, vp_cell_i, vp_cell_i]
    unfold arrV
    congr 2
    apply congrArg
    funext j
    exact congrArg Value.int (hfg j.val j.isLt)
  · rw [List.getElem?_set_ne e] at hi
    exact h i q hi
theorem D_ext {A : Nat → Prop} {ws : va_W} (h : va_D A ws) (k : Nat) {a : Nat} {e e' : va_E} (hk : ws[k]? = some (a, e)) : va_D A (ws.set k (a, e')) := h.set hk
end
section
/-! instructions over numbers -/
section RIN
variable {p : Program} {l : Launch} {e : Env} {R : Room} {s : State} {m : MethodId} {args : Array Value} {below : List Frame} {meth : Method} {c : Code} {H : Heap} {locs : List Loc} {cells slots : Nat} {Q : State → Prop} {cc : ByteArray} {pc : Nat} {ls : Array Slot} {rest : List Value}
theorem r_iadd (hx : p.tables.exec = Jvm.exec) (hb : c.code = cc) {a b v : Nat} (hdg : decode cc pc = .ok (.iadd, 1)) (hv : a + b = v) (k : W p l e R s m args below meth c H locs cells slots Q (F0 m (pc + 1) ls (.int (nI v) :: rest))) : W p l e R s m args below meth c H locs cells slots Q (F0 m pc ls (.int (nI b) :: .int (nI a) :: rest)) :=
  lv_iadd hx hb hdg (by rw [nI_add, hv]; exact k)
theorem r_imul (hx : p.tables.exec = Jvm.exec) (hb : c.code = cc) {a b v : Nat} (hdg : decode cc pc = .ok (.imul, 1)) (hv : a * b = v) (k : W p l e R s m args below meth c H locs cells slots Q (F0 m (pc + 1) ls (.int (nI v) :: rest))) : W p l e R s m args below meth c H locs cells slots Q (F0 m pc ls (.int (nI b) :: .int (nI a) :: rest)) :=
  lv_imul hx hb hdg (by rw [pk_mul, hv]; exact k)
theorem r_isub (hx : p.tables.exec = Jvm.exec) (hb : c.code = cc) {a b v : Nat} (hdg : decode cc pc = .ok (.isub, 1)) (hle : b ≤ a) (hv : a - b = v) (k : W p l e R s m args below meth c H locs cells slots Q (F0 m (pc + 1) ls (.int (nI v) :: rest))) : W p l e R s m args below meth c H locs cells slots Q (F0 m pc ls (.int (nI b) :: .int (nI a) :: rest)) :=
  lv_isub hx hb hdg (by rw [pk_sub hle, hv]; exact k)
theorem r_irem (hx : p.tables.exec = Jvm.exec) (hb : c.code = cc) {a b v : Nat} (hdg : decode cc pc = .ok (.irem, 1)) (ha : a < 2 ^ 31) (h0 : 0 < b) (hb2 : b < 2 ^ 31) (hv : a % b = v) (k : W p l e R s m args below meth c H locs cells slots Q (F0 m (pc + 1) ls (.int (nI v) :: rest))) : W p l e R s m args below meth c H locs cells slots Q (F0 m pc ls (.int (nI b) :: .int (nI a) :: rest)) :=
  lv_irem hx hb hdg (nI_ne0 h0 hb2) (by rw [pk_rem ha h0 hb2, hv]; exact k)
/-- a number on the stack, said otherwise -/
theorem r_top {x y : Int32} (h : x = y) (k : W p l e R s m args below meth c H locs cells slots Q (F0 m pc ls (.int y :: rest))) : W p l e R s m args below meth c H locs cells slots Q (F0 m pc ls (.int x :: rest)) := by rw [h]; exact k
theorem r_iinc (hx : p.tables.exec = Jvm.exec) (hb : c.code = cc) {i nL k : Nat} {n : Int} {x v : Nat} {lv lv' : List (Nat × Value)} (hdg : decode cc pc = .ok (.iinc i n, 3)) (h : lv_has ls nL lv) (hk : lv[k]? = some (i, .int (nI x))) (hv : nI x + Int32.ofInt n = nI v) (hn : i < nL) (hl : (i, Value.int (nI v)) :: lv.filter (fun q => !(q.1 == i) && !(q.1 + 1 == i && q.2.category == 2)) = lv')
    (kk : ∀ ls' : Array Slot, lv_has ls' nL lv' → W p l e R s m args below meth c H locs cells slots Q (F0 m (pc + 3) ls' rest)) : W p l e R s m args below meth c H locs cells slots Q (F0 m pc ls rest) :=
  lv_iinc hx hb hdg h hk hv hn hl kk
theorem r_icmp_eq {P : Prop} (hx : p.tables.exec = Jvm.exec) (hb : c.code = cc) {x y : Int32} {off : Int} {tgt : Nat} (hdg : decode cc pc = .ok (.if_icmp .eq off, 3)) (ht : (pc : Int) + off = (tgt : Int)) (hi : x = y ↔ P)
    (kt : P → W p l e R s m args below meth c H locs cells slots Q (F0 m tgt ls rest)) (kf : ¬ P → W p l e R s m args below meth c H locs cells slots Q (F0 m (pc + 3) ls rest)) : W p l e R s m args below meth c H locs cells slots Q (F0 m pc ls (.int y :: .int x :: rest)) :=
  lv_icmp_eq hx hb hdg ht (fun h => kt (hi.mp h)) (fun h => kf (fun q => h (hi.mpr q)))
theorem r_if_eq {P : Prop} (hx : p.tables.exec = Jvm.exec) (hb : c.code = cc) {x : Int32} {off : Int} {tgt : Nat} (hdg : decode cc pc = .ok (.ifCond .eq off, 3)) (ht : (pc : Int) + off = (tgt : Int)) (hi : x = 0 ↔ P)
    (kt : P → W p l e R s m args below meth c H locs cells slots Q (F0 m tgt ls rest)) (kf : ¬ P → W p l e R s m args below meth c H locs cells slots Q (F0 m (pc + 3) ls rest)) : W p l e R s m args below meth c H locs cells slots Q (F0 m pc ls (.int x :: rest)) :=
  lv_if_eq hx hb hdg ht (fun h => kt (hi.mp h)) (fun h => kf (fun q => h (hi.mpr q)))
theorem r_icmp_ne {P : Prop} (hx : p.tables.exec = Jvm.exec) (hb : c.code = cc) {x y : Int32} {off : Int} {tgt : Nat} (hdg : decode cc pc = .ok (.if_icmp .ne off, 3)) (ht : (pc : Int) + off = (tgt : Int)) (hi : x = y ↔ P)
    (kt : ¬ P → W p l e R s m args below meth c H locs cells slots Q (F0 m tgt ls rest)) (kf : P → W p l e R s m args below meth c H locs cells slots Q (F0 m (pc + 3) ls rest)) : W p l e R s m args below meth c H locs cells slots Q (F0 m pc ls (.int y :: .int x :: rest)) :=
  lv_icmp_ne hx hb hdg ht (fun h => kt (fun q => h (hi.mpr q))) (fun h => kf (hi.mp h))
theorem r_if_ne {P : Prop} (hx : p.tables.exec = Jvm.exec) (hb : c.code = cc) {x : Int32} {off : Int} {tgt : Nat} (hdg : decode cc pc = .ok (.ifCond .ne off, 3)) (ht : (pc : Int) + off = (tgt : Int)) (hi : x = 0 ↔ P)
    (kt : ¬ P → W p l e R s m args below meth c H locs cells slots Q (F0 m tgt ls rest)) (kf : P → W p l e R s m args below meth c H locs cells slots Q (F0 m (pc + 3) ls rest)) : W p l e R s m args below meth c H locs cells slots Q (F0 m pc ls (.int x :: rest)) :=
  lv_if_ne hx hb hdg ht (fun h => kt (fun q => h (hi.mpr q))) (fun h => kf (hi.mp h))
theorem r_icmp_lt {P : Prop} (hx : p.tables.exec = Jvm.exec) (hb : c.code = cc) {x y : Int32} {off : Int} {tgt : Nat} (hdg : decode cc pc = .ok (.if_icmp .lt off, 3)) (ht : (pc : Int) + off = (tgt : Int)) (hi : x < y ↔ P)
    (kt : P → W p l e R s m args below meth c H locs cells slots Q (F0 m tgt ls rest)) (kf : ¬ P → W p l e R s m args below meth c H locs cells slots Q (F0 m (pc + 3) ls rest)) : W p l e R s m args below meth c H locs cells slots Q (F0 m pc ls (.int y :: .int x :: rest)) :=
  lv_icmp_lt hx hb hdg ht (fun h => kt (hi.mp h)) (fun h => kf (fun q => h (hi.mpr q)))
theorem r_if_lt {P : Prop} (hx : p.tables.exec = Jvm.exec) (hb : c.code = cc) {x : Int32} {off : Int} {tgt : Nat} (hdg : decode cc pc = .ok (.ifCond .lt off, 3)) (ht : (pc : Int) + off = (tgt : Int)) (hi : x < 0 ↔ P)
    (kt : P → W p l e R s m args below meth c H locs cells slots Q (F0 m tgt ls rest)) (kf : ¬ P → W p l e R s m args below meth c H locs cells slots Q (F0 m (pc + 3) ls rest)) : W p l e R s m args below meth c H locs cells slots Q (F0 m pc ls (.int x :: rest)) :=
  lv_if_lt hx hb hdg ht (fun h => kt (hi.mp h)) (fun h => kf (fun q => h (hi.mpr q)))
theorem r_icmp_ge {P : Prop} (hx : p.tables.exec = Jvm.exec) (hb : c.code = cc) {x y : Int32} {off : Int} {tgt : Nat} (hdg : decode cc pc = .ok (.if_icmp .ge off, 3)) (ht : (pc : Int) + off = (tgt : Int)) (hi : y ≤ x ↔ P)
    (kt : P → W p l e R s m args below meth c H locs cells slots Q (F0 m tgt ls rest)) (kf : ¬ P → W p l e R s m args below meth c H locs cells slots Q (F0 m (pc + 3) ls rest)) : W p l e R s m args below meth c H locs cells slots Q (F0 m pc ls (.int y :: .int x :: rest)) :=
  lv_icmp_ge hx hb hdg ht (fun h => kt (hi.mp h)) (fun h => kf (fun q => h (hi.mpr q)))
theorem r_if_ge {P : Prop} (hx : p.tables.exec = Jvm.exec) (hb : c.code = cc) {x : Int32} {off : Int} {tgt : Nat} (hdg : decode cc pc = .ok (.ifCond .ge off, 3)) (ht : (pc : Int) + off = (tgt : Int)) (hi : 0 ≤ x ↔ P)
    (kt : P → W p l e R s m args below meth c H locs cells slots Q (F0 m tgt ls rest)) (kf : ¬ P → W p l e R s m args below meth c H locs cells slots Q (F0 m (pc + 3) ls rest)) : W p l e R s m args below meth c H locs cells slots Q (F0 m pc ls (.int x :: rest)) :=
  lv_if_ge hx hb hdg ht (fun h => kt (hi.mp h)) (fun h => kf (fun q => h (hi.mpr q)))
theorem r_icmp_gt {P : Prop} (hx : p.tables.exec = Jvm.exec) (hb : c.code = cc) {x y : Int32} {off : Int} {tgt : Nat} (hdg : decode cc pc = .ok (.if_icmp .gt off, 3)) (ht : (pc : Int) + off = (tgt : Int)) (hi : y < x ↔ P)
    (kt : P → W p l e R s m args below meth c H locs cells slots Q (F0 m tgt ls rest)) (kf : ¬ P → W p l e R s m args below meth c H locs cells slots Q (F0 m (pc + 3) ls rest)) : W p l e R s m args below meth c H locs cells slots Q (F0 m pc ls (.int y :: .int x :: rest)) :=
  lv_icmp_gt hx hb hdg ht (fun h => kt (hi.mp h)) (fun h => kf (fun q => h (hi.mpr q)))
theorem r_if_gt {P : Prop} (hx : p.tables.exec = Jvm.exec) (hb : c.code = cc) {x : Int32} {off : Int} {tgt : Nat} (hdg : decode cc pc = .ok (.ifCond .gt off, 3)) (ht : (pc : Int) + off = (tgt : Int)) (hi : 0 < x ↔ P)
    (kt : P → W p l e R s m args below meth c H locs cells slots Q (F0 m tgt ls rest)) (kf : ¬ P → W p l e R s m args below meth c H locs cells slots Q (F0 m (pc + 3) ls rest)) : W p l e R s m args below meth c H locs cells slots Q (F0 m pc ls (.int x :: rest)) :=
  lv_if_gt hx hb hdg ht (fun h => kt (hi.mp h)) (fun h => kf (fun q => h (hi.mpr q)))
theorem r_icmp_le {P : Prop} (hx : p.tables.exec = Jvm.exec) (hb : c.code = cc) {x y : Int32} {off : Int} {tgt : Nat} (hdg : decode cc pc = .ok (.if_icmp .le off, 3)) (ht : (pc : Int) + off = (tgt : Int)) (hi : x ≤ y ↔ P)
    (kt : P → W p l e R s m args below meth c H locs cells slots Q (F0 m tgt ls rest)) (kf : ¬ P → W p l e R s m args below meth c H locs cells slots Q (F0 m (pc + 3) ls rest)) : W p l e R s m args below meth c H locs cells slots Q (F0 m pc ls (.int y :: .int x :: rest)) :=
  lv_icmp_le hx hb hdg ht (fun h => kt (hi.mp h)) (fun h => kf (fun q => h (hi.mpr q)))
theorem r_if_le {P : Prop} (hx : p.tables.exec = Jvm.exec) (hb : c.code = cc) {x : Int32} {off : Int} {tgt : Nat} (hdg : decode cc pc = .ok (.ifCond .le off, 3)) (ht : (pc : Int) + off = (tgt : Int)) (hi : x ≤ 0 ↔ P)
    (kt : P → W p l e R s m args below meth c H locs cells slots Q (F0 m tgt ls rest)) (kf : ¬ P → W p l e R s m args below meth c H locs cells slots Q (F0 m (pc + 3) ls rest)) : W p l e R s m args below meth c H locs cells slots Q (F0 m pc ls (.int x :: rest)) :=
  lv_if_le hx hb hdg ht (fun h => kt (hi.mp h)) (fun h => kf (fun q => h (hi.mpr q)))
/-! rows of cells -/
variable {D : va_G} {cl : List vw_C} {tys : List (ClassId × FieldType)} {ws : va_W} {A : Nat → Prop} {H0 : Heap} {a : Nat}
theorem r_iald (hx : p.tables.exec = Jvm.exec) (hb : c.code = cc) (hK : va_K D cl tys s) (hP : va_P D cl ws H) (q0 t0 : Nat) {cA : ClassId} {n e1 : Nat} {f : Nat → Int32} {v : Int32} (ha : ws[q0]? = some (a, .inl (cA, n, .inl f))) (ht : tys[t0]? = some (cA, .int)) (hlt : e1 < n) (hn : n < 2 ^ 31) (hv : f e1 = v) (hdg : decode cc pc = .ok (.iaload, 1))
    (kk : W p l e R s m args below meth c H locs cells slots Q (F0 m (pc + 1) ls (.int v :: rest))) : W p l e R s m args below meth c H locs cells slots Q (F0 m pc ls (.int (nI e1) :: .ref a :: rest)) :=
  va_iald hx hb hK hP q0 t0 ha ht (vp_in_nI hlt hn) hdg (by rw [nI_clamp (by omega), hv]; exact kk)
theorem r_cald (hx : p.tables.exec = Jvm.exec) (hb : c.code = cc) (hK : va_K D cl tys s) (hP : va_P D cl ws H) (q0 t0 : Nat) {cA : ClassId} {n e1 : Nat} {f : Nat → Int32} {v : Int32} (ha : ws[q0]? = some (a, .inl (cA, n, .inl f))) (ht : tys[t0]? = some (cA, .char)) (hlt : e1 < n) (hn : n < 2 ^ 31) (hv : f e1 = v) (hdg : decode cc pc = .ok (.caload, 1))
    (kk : W p l e R s m args below meth c H locs cells slots Q (F0 m (pc + 1) ls (.int v :: rest))) : W p l e R s m args below meth c H locs cells slots Q (F0 m pc ls (.int (nI e1) :: .ref a :: rest)) :=
  va_cald hx hb hK hP q0 t0 ha ht (vp_in_nI hlt hn) hdg (by rw [nI_clamp (by omega), hv]; exact kk)
theorem r_aald (hx : p.tables.exec = Jvm.exec) (hb : c.code = cc) (hK : va_K D cl tys s) (hP : va_P D cl ws H) (q0 t0 : Nat) {cA : ClassId} {C : String} {n e1 v : Nat} {f : Nat → Option Nat} (ha : ws[q0]? = some (a, .inl (cA, n, .inr (.inr (.inr (.inr f)))))) (ht : tys[t0]? = some (cA, .object C)) (hlt : e1 < n) (hn : n < 2 ^ 31) (hv : f e1 = some v) (hdg : decode cc pc = .ok (.aaload, 1))
    (kk : W p l e R s m args below meth c H locs cells slots Q (F0 m (pc + 1) ls (.ref v :: rest))) : W p l e R s m args below meth c H locs cells slots Q (F0 m pc ls (.int (nI e1) :: .ref a :: rest)) :=
  va_aldq hx hb hK hP q0 t0 ha ht (vp_in_nI hlt hn) hdg (by rw [nI_clamp (by omega), hv]; exact kk)
theorem r_iast (hx : p.tables.exec = Jvm.exec) (hb : c.code = cc) (hK : va_K D cl tys s) (hP : va_P D cl ws H) (hD : va_D A ws) (hS : va_S A H0 H locs) (q0 t0 : Nat) {cA : ClassId} {n e1 : Nat} {f : Nat → Int32} {x : Int32} (g : Nat → Int32) (ha : ws[q0]? = some (a, .inl (cA, n, .inl f))) (ht : tys[t0]? = some (cA, .int)) (hlt : e1 < n) (hn : n < 2 ^ 31) (hg : upd f e1 x = g) (hdg : decode cc pc = .ok (.iastore, 1))
    (kk : ∀ (H1 : Heap) (locs1 : List Loc), va_P D cl (ws.set q0 (a, .inl (cA, n, .inl g))) H1 → va_D A (ws.set q0 (a, .inl (cA, n, .inl g))) → va_S A H0 H1 locs1 → W p l e R s m args below meth c H1 locs1 cells slots Q (F0 m (pc + 1) ls rest)) : W p l e R s m args below meth c H locs cells slots Q (F0 m pc ls (.int x :: .int (nI e1) :: .ref a :: rest)) :=
  va_iast hx hb hK hP hD hS q0 t0 ha ht (vp_in_nI hlt hn) hdg (by rw [nI_clamp (by omega), hg]; exact kk)
theorem r_cast (hx : p.tables.exec = Jvm.exec) (hb : c.code = cc) (hK : va_K D cl tys s) (hP : va_P D cl ws H) (hD : va_D A ws) (hS : va_S A H0 H locs) (q0 t0 : Nat) {cA : ClassId} {n e1 : Nat} {f : Nat → Int32} {x : Int32} (g : Nat → Int32) (ha : ws[q0]? = some (a, .inl (cA, n, .inl f))) (ht : tys[t0]? = some (cA, .char)) (hlt : e1 < n) (hn : n < 2 ^ 31) (hg : upd f e1 (vp_nar .char x) = g) (hdg : decode cc pc = .ok (.castore, 1))
    (kk : ∀ (H1 : Heap) (locs1 : List Loc), va_P D cl (ws.set q0 (a, .inl (cA, n, .inl g))) H1 → va_D A (ws.set q0 (a, .inl (cA, n, .inl g))) → va_S A H0 H1 locs1 → W p l e R s m args below meth c H1 locs1 cells slots Q (F0 m (pc + 1) ls rest)) : W p l e R s m args below meth c H locs cells slots Q (F0 m pc ls (.int x :: .int (nI e1) :: .ref a :: rest)) :=
  va_cast hx hb hK hP hD hS q0 t0 ha ht (vp_in_nI hlt hn) hdg (by rw [nI_clamp (by omega), hg]; exact kk)
/-! calls in place -/
variable {y : MethodName} {bytes : ByteArray} {maxL nL n index ci q0 : Nat} {ret : Option FieldType} {wsm ws' : List Cond} {rm : Room} {Ts : List Cond} {own C host : String} {b : Addr} {As st0 : List Value} {G : kG} {wc : va_W} {free : Addr → Prop} {Qc : Array Value → State → Outcome → State → Prop} {mc ms : Nat}
theorem k_pre {st : List Value} {A0 : Nat → Prop} (hK : KK G s) (hP : va_P G.1 vwCl ws H) (hD : va_D A0 ws) {is : List Nat} (hC : is.map (fun i => ws[i]?) = wc.map some) (hnd : va_nd is = true) : PreS s H (cP G st wc) st :=
  ⟨cP_blind, fun U hU hW => ⟨rfl, by rw [hU]; exact pl_P hP hC, hK.warm hW, (hD.sub is hnd hC).weaken (fun _ _ _ _ => trivial)⟩⟩
theorem k_recv {fs : List Value} {r : vw_C} (hK : KK G s) (hP : va_P G.1 vwCl ws H) (he : ws[q0]? = some (b, .inr (ci, fs))) (hc : vwCl[ci]? = some r) (hrC : r.1 = C) : ∃ cell : Cell, H[b]? = some cell ∧ cell.vm.isStatics = false ∧ s.vm.findClass C = some cell.cls := by
  subst hrC
  exact va_recv hK.1 hP hc he
/-- a method of an object: the run of its call -/
theorem k_V (hx : p.tables.exec = Jvm.exec) (hb : c.code = cc) (hml : c.maxLocals = nL) (hown : s.vm.findClass own = some m.cls) (hts : ∀ w ∈ Ts, w.before args s = true) (hM : Met l y wsm rm (cP G (.ref b :: As) wc) Qc mc ms free) (hG : GoodIn Ts (wsV own index C y wsm)) (hw : wsm = Cond.code y bytes maxL ret :: ws') (hrc : rm.cells = mc) (hrs : rm.slots = ms)
    (hd : y.cls = C ∧ y.cls ≠ "java/lang/invoke/MethodHandle" ∧ y.cls ≠ "java/lang/invoke/VarHandle" ∧ (parseMethodDescriptor y.desc).map (fun d => d.parameters.length) = some n) (hR : rm.frames + 1 ≤ R.frames ∧ 8 + (maxL + 11) + rm.locals ≤ R.locals) (hn : As.length = n)
    (hK : KK G s) (hP : va_P G.1 vwCl ws H) (hD : va_D A ws) (is : List Nat) (hC : is.map (fun i => ws[i]?) = wc.map some) (hnd : va_nd is = true) {fs : List Value} {r : vw_C} (he : ws[q0]? = some (b, .inr (ci, fs))) (hc : vwCl[ci]? = some r) (hrC : r.1 = C) (hsz : ls.size = nL) (hst : st0 = As.reverse ++ .ref b :: rest) (hroom : (rest.map fun v => v.category).sum ≤ 8) (hdg : decode cc pc = .ok (.invokevirtual index, 3)) (hcs : cells + mc ≤ R.cells ∧ slots + ms ≤ R.slots) :
    va_Run p l e R s m args below meth c H locs cells slots mc ms (F0 m pc ls st0) rest (Qc (Value.ref b :: As).toArray) free :=
  va_runV (As := As) (rest := rest) ⟨hx, hb, hml, hown, hts⟩ hM (cwV n hts hG hw hrc hrs hd hR) ⟨cP_blind, k_recv hK hP he hc hrC, (k_pre hK hP hD hC hnd).2⟩ rfl hn hsz hst (lv_room hroom) hdg hcs
/-- a static method -/
theorem k_S (hx : p.tables.exec = Jvm.exec) (hb : c.code = cc) (hml : c.maxLocals = nL) (hown : s.vm.findClass own = some m.cls) (hts : ∀ w ∈ Ts, w.before args s = true) (hM : Met l y wsm rm (cP G As wc) Qc mc ms free) (hG : GoodIn Ts (va_wsS own index y wsm)) (hw : wsm = Cond.code y bytes maxL ret :: ws') (hrc : rm.cells = mc) (hrs : rm.slots = ms)
    (hd : y.cls ≠ "java/lang/invoke/MethodHandle" ∧ y.cls ≠ "java/lang/invoke/VarHandle" ∧ (parseMethodDescriptor y.desc).map (fun d => d.parameters.length) = some n) (hR : rm.frames + 1 ≤ R.frames ∧ 8 + (maxL + 11) + rm.locals ≤ R.locals) (hn : As.length = n)
    (hK : KK G s) (hP : va_P G.1 vwCl ws H) (hD : va_D A ws) (is : List Nat) (hC : is.map (fun i => ws[i]?) = wc.map some) (hnd : va_nd is = true) (hsz : ls.size = nL) (hst : st0 = As.reverse ++ rest) (hroom : (rest.map fun v => v.category).sum ≤ 8) (hdg : decode cc pc = .ok (.invokestatic index, 3)) (hcs : cells + mc ≤ R.cells ∧ slots + ms ≤ R.slots) :
    va_Run p l e R s m args below meth c H locs cells slots mc ms (F0 m pc ls st0) rest (Qc As.toArray) free :=
  va_runS (As := As) (rest := rest) ⟨hx, hb, hml, hown, hts⟩ hM (va_cwS n hts hG hw hrc hrs hd hR) (k_pre hK hP hD hC hnd) rfl hn hsz hst (lv_room hroom) hdg hcs
/-- a private method of a nest mate -/
theorem k_VN (hx : p.tables.exec = Jvm.exec) (hb : c.code = cc) (hml : c.maxLocals = nL) (hown : s.vm.findClass own = some m.cls) (hts : ∀ w ∈ Ts, w.before args s = true) (hM : Met l y wsm rm (cP G (.ref b :: As) wc) Qc mc ms free) (hG : GoodIn Ts wsm) (hl : va_Nw (.methodLinkNest own index y host) s) (hini : (Cond.initialized y.cls).before args s = true) (hin : (Cond.instanceMethod y).before args s = true) (hse : (Cond.selects C y y).before args s = true) (hw : wsm = Cond.code y bytes maxL ret :: ws') (hrc : rm.cells = mc) (hrs : rm.slots = ms)
    (hd : y.cls ≠ "java/lang/invoke/MethodHandle" ∧ y.cls ≠ "java/lang/invoke/VarHandle" ∧ (parseMethodDescriptor y.desc).map (fun d => d.parameters.length) = some n) (hR : rm.frames + 1 ≤ R.frames ∧ 8 + (maxL + 11) + rm.locals ≤ R.locals) (hn : As.length = n)
    (hK : KK G s) (hP : va_P G.1 vwCl ws H) (hD : va_D A ws) (is : List Nat) (hC : is.map (fun i => ws[i]?) = wc.map some) (hnd : va_nd is = true) {fs : List Value} {r : vw_C} (he : ws[q0]? = some (b, .inr (ci, fs))) (hc : vwCl[ci]? = some r) (hrC : r.1 = C) (hsz : ls.size = nL) (hst : st0 = As.reverse ++ .ref b :: rest) (hroom : (rest.map fun v => v.category).sum ≤ 8) (hdg : decode cc pc = .ok (.invokevirtual index, 3)) (hcs : cells + mc ≤ R.cells ∧ slots + ms ≤ R.slots) :
    va_Run p l e R s m args below meth c H locs cells slots mc ms (F0 m pc ls st0) rest (Qc (Value.ref b :: As).toArray) free :=
  va_runVN (As := As) (rest := rest) ⟨hx, hb, hml, hown, hts⟩ hM ⟨va_cnB n hts hG hw hrc hrs hl hini hd hR, hin, hse⟩ ⟨cP_blind, k_recv hK hP he hc hrC, (k_pre hK hP hD hC hnd).2⟩ rfl hn hsz hst (lv_room hroom) hdg hcs
theorem k_SN (hx : p.tables.exec = Jvm.exec) (hb : c.code = cc) (hml : c.maxLocals = nL) (hown : s.vm.findClass own = some m.cls) (hts : ∀ w ∈ Ts, w.before args s = true) (hM : Met l y wsm rm (cP G As wc) Qc mc ms free) (hG : GoodIn Ts wsm) (hl : va_Nw (.methodLinkNest own index y host) s) (hini : (Cond.initialized y.cls).before args s = true) (hstt : (Cond.static y).before args s = true) (hw : wsm = Cond.code y bytes maxL ret :: ws') (hrc : rm.cells = mc) (hrs : rm.slots = ms)
    (hd : y.cls ≠ "java/lang/invoke/MethodHandle" ∧ y.cls ≠ "java/lang/invoke/VarHandle" ∧ (parseMethodDescriptor y.desc).map (fun d => d.parameters.length) = some n) (hR : rm.frames + 1 ≤ R.frames ∧ 8 + (maxL + 11) + rm.locals ≤ R.locals) (hn : As.length = n)
    (hK : KK G s) (hP : va_P G.1 vwCl ws H) (hD : va_D A ws) (is : List Nat) (hC : is.map (fun i => ws[i]?) = wc.map some) (hnd : va_nd is = true) (hsz : ls.size = nL) (hst : st0 = As.reverse ++ rest) (hroom : (rest.map fun v => v.category).sum ≤ 8) (hdg : decode cc pc = .ok (.invokestatic index, 3)) (hcs : cells + mc ≤ R.cells ∧ slots + ms ≤ R.slots) :
    va_Run p l e R s m args below meth c H locs cells slots mc ms (F0 m pc ls st0) rest (Qc As.toArray) free :=
  va_runSN (As := As) (rest := rest) ⟨hx, hb, hml, hown, hts⟩ hM ⟨va_cnB n hts hG hw hrc hrs hl hini hd hR, hstt, trivial⟩ (k_pre hK hP hD hC hnd) rfl hn hsz hst (lv_room hroom) hdg hcs
/-- behind a call that only reads -/
theorem g_ro {post : Int32 → Prop} {av : Array Value} (hr : va_Run p l e R s m args below meth c H locs cells slots 0 0 (F0 m pc ls st0) rest (vp_Si post av) (fun _ => False)) (kk : ∀ r : Int32, post r → W p l e R s m args below meth c H locs cells slots Q (F0 m (pc + 3) ls (.int r :: rest))) : W p l e R s m args below meth c H locs cells slots Q (F0 m pc ls st0) := vp_callSi hr.run kk
/-- behind a call that changes its cells in place -/
theorem g_S {A1 : Nat → Prop} {H1 : Heap} {L : List Loc} (hS : va_S A H0 H locs) (hA : ∀ q, A1 q → A q) (hz : H.size ≤ H1.size) (hk : ∀ q : Nat, q < H.size → ¬ A1 q → H1[q]? = H[q]?) (hL : ∀ q ∈ L, A1 q.base) : va_S A H0 H1 (locs ++ L) :=
  ⟨Nat.le_trans hS.1 hz, fun q h1 h2 => by rw [hk q (Nat.lt_of_lt_of_le h1 hS.1) (fun z => h2 (hA q z))]; exact hS.2.1 q h1 h2, fun q hq => (List.mem_append.mp hq).elim (hS.2.2 q) (fun h => hA _ (hL q h))⟩
theorem g_V {B : Heap → Prop} {av : Array Value} (hr : va_Run p l e R s m args below meth c H locs cells slots 0 0 (F0 m pc ls st0) rest (qV B (mA wc) av) (mA wc)) (hP : va_P D cl ws H) (hD : va_D A ws) (hS : va_S A H0 H locs) (is : List Nat) (hC : is.map (fun i => ws[i]?) = wc.map some)
    (kk : ∀ (H1 : Heap) (locs1 : List Loc), B H1 → (∀ w1 : va_W, w1.map (·.1) = wc.map (·.1) → va_P D cl w1 H1 → va_P D cl (mrg ws is w1) H1 ∧ va_D A (mrg ws is w1)) → va_S A H0 H1 locs1 → W p l e R s m args below meth c H1 locs1 cells slots Q (F0 m (pc + 3) ls rest)) : W p l e R s m args below meth c H locs cells slots Q (F0 m pc ls st0) := by
  intro T hT X
  obtain ⟨v, st₀, t, T', L, h0, X', hL, e1, e2, ⟨⟨hv, hb⟩, hz, hk⟩, st⟩ := hr T hT X
  cases hv
  rw [h0] at hz hk
  rw [← e1] at hz hk hb
  obtain ⟨t2, a1, b1⟩ := kk T'.heap (locs ++ L) hb (fun w1 ha hP1 => ⟨mrg_P hP hD hC ha hk hP1, mrg_D hD hC ha⟩) (g_S hS (mA_sub hD hC) hz hk hL) T' rfl X'
  exact ⟨t2, st t2 a1, b1⟩
theorem g_I {B : Int32 → Heap → Prop} {av : Array Value} (hr : va_Run p l e R s m args below meth c H locs cells slots 0 0 (F0 m pc ls st0) rest (qI B (mA wc) av) (mA wc)) (hP : va_P D cl ws H) (hD : va_D A ws) (hS : va_S A H0 H locs) (is : List Nat) (hC : is.map (fun i => ws[i]?) = wc.map some)
    (kk : ∀ (r : Int32) (H1 : Heap) (locs1 : List Loc), B r H1 → (∀ w1 : va_W, w1.map (·.1) = wc.map (·.1) → va_P D cl w1 H1 → va_P D cl (mrg ws is w1) H1 ∧ va_D A (mrg ws is w1)) → va_S A H0 H1 locs1 → W p l e R s m args below meth c H1 locs1 cells slots Q (F0 m (pc + 3) ls (.int r :: rest))) : W p l e R s m args below meth c H locs cells slots Q (F0 m pc ls st0) := by
  intro T hT X
  obtain ⟨v, st₀, t, T', L, h0, X', hL, e1, e2, ⟨⟨r, hv, hb⟩, hz, hk⟩, st⟩ := hr T hT X
  cases hv
  rw [h0] at hz hk
  rw [← e1] at hz hk hb
  obtain ⟨t2, a1, b1⟩ := kk r T'.heap (locs ++ L) hb (fun w1 ha hP1 => ⟨mrg_P hP hD hC ha hk hP1, mrg_D hD hC ha⟩) (g_S hS (mA_sub hD hC) hz hk hL) T' rfl X'
  exact ⟨t2, st t2 a1, b1⟩
theorem g_R {B : Nat → Heap → Prop} {av : Array Value} (hr : va_Run p l e R s m args below meth c H locs cells slots 0 0 (F0 m pc ls st0) rest (qR B (mA wc) av) (mA wc)) (hP : va_P D cl ws H) (hD : va_D A ws) (hS : va_S A H0 H locs) (is : List Nat) (hC : is.map (fun i => ws[i]?) = wc.map some)
    (kk : ∀ (r : Nat) (H1 : Heap) (locs1 : List Loc), B r H1 → (∀ w1 : va_W, w1.map (·.1) = wc.map (·.1) → va_P D cl w1 H1 → va_P D cl (mrg ws is w1) H1 ∧ va_D A (mrg ws is w1)) → va_S A H0 H1 locs1 → W p l e R s m args below meth c H1 locs1 cells slots Q (F0 m (pc + 3) ls (.ref r :: rest))) : W p l e R s m args below meth c H locs cells slots Q (F0 m pc ls st0) := by
  intro T hT X
  obtain ⟨v, st₀, t, T', L, h0, X', hL, e1, e2, ⟨⟨r, hv, hb⟩, hz, hk⟩, st⟩ := hr T hT X
  cases hv
  rw [h0] at hz hk
  rw [← e1] at hz hk hb
  obtain ⟨t2, a1, b1⟩ := kk r T'.heap (locs ++ L) hb (fun w1 ha hP1 => ⟨mrg_P hP hD hC ha hk hP1, mrg_D hD hC ha⟩) (g_S hS (mA_sub hD hC) hz hk hL) T' rfl X'
  exact ⟨t2, st t2 a1, b1⟩
theorem r_copy (hx : p.tables.exec = Jvm.exec) (hb : c.code = cc) (hml : c.maxLocals = ls.size) {index : Nat} (hown : s.vm.findClass own = some m.cls) (hlink : (Cond.methodLink own index arraycopyName).before args s = true) (hnat : (Cond.native arraycopyName).before args s = true) (hstat : (Cond.static arraycopyName).before args s = true) (hini : (Cond.initialized "java/lang/System").before args s = true)
    (hK : va_K D cl tys s) (hP : va_P D cl ws H) (hD : va_D A ws) (hS : va_S A H0 H locs) (q0 q1 t0 t1 : Nat) {a0 N : Nat} {c0 c1 : ClassId} {f g : Nat → Int32} (ha0 : ws[q0]? = some (a0, .inl (c0, N, .inl f))) (ha1 : ws[q1]? = some (a, .inl (c1, N, .inl g))) (ht0 : tys[t0]? = some (c0, .int)) (ht1 : tys[t1]? = some (c1, .int)) (hN : N < 2 ^ 31) (hR : 1 ≤ R.frames ∧ 18 ≤ R.locals) (hdg : decode cc pc = .ok (.invokestatic index, 3))
    (kk : ∀ (H1 : Heap) (locs1 : List Loc), va_P D cl (ws.set q1 (a, .inl (c1, N, .inl f))) H1 → va_D A (ws.set q1 (a, .inl (c1, N, .inl f))) → va_S A H0 H1 locs1 → W p l e R s m args below meth c H1 locs1 cells slots Q (F0 m (pc + 3) ls [])) : W p l e R s m args below meth c H locs cells slots Q (F0 m pc ls [.int (nI N), .int (nI 0), .ref a, .int (nI 0), .ref a0]) := by
  have hc : (nI N).toNatClampNeg = N := nI_clamp hN
  have h0 : (nI 0).toNatClampNeg = 0 := rfl
  refine va_copyi hx hb hml hown hlink hnat hstat hini hK hP hD hS q0 q1 t0 t1 ha0 ha1 ht0 ht1 rfl (nI_pos (by decide)) (nI_pos (by decide)) (nI_pos hN) (by rw [hc, h0]; omega) (by rw [hc, h0]; omega) (fun _ _ => rfl) hR.1 (by have h := hR.2; show 0 + (7 + 11) ≤ R.locals; exact h) hdg (fun H1 locs1 hP1 hD1 hS1 => ?_)
  rw [hc, h0] at hP1 hD1
  have hl := (List.getElem?_eq_some_iff.mp ha1).1
  have hP2 := P_ext hP1 q1 f (List.getElem?_set_self hl) (fun j hj => by unfold va_cpy; rw [if_pos ⟨Nat.zero_le j, by omega⟩, Nat.zero_add, Nat.sub_zero])
  rw [List.set_set] at hP2
  exact kk H1 locs1 hP2 (hD.set ha1) hS1
end RIN
end
section
/-! what a state is, and what is read off it -/
abbrev Sg : Type := Nat × (Nat → Nat) × (Nat → Nat) × (Nat → Nat) × (Nat → Nat)
abbrev nn (σ : Sg) : Nat := σ.1
abbrev dd (σ : Sg) : Nat → Nat := σ.2.1
abbrev vv (σ : Sg) : Nat → Nat := σ.2.2.1
abbrev ff (σ : Sg) : Nat → Nat := σ.2.2.2.1
abbrev ss (σ : Sg) : Nat → Nat := σ.2.2.2.2
def Bd (σ : Sg) : Prop := nn σ ≤ 24 ∧ (∀ k, dd σ k < 100) ∧ (∀ k, vv σ k < 100) ∧ (∀ k, ff σ k < 24 ∨ ff σ k = 1000) ∧ (∀ k, ss σ k ≤ 784 ∨ ss σ k = 1000)
theorem Bd.n {σ : Sg} (h : Bd σ) : nn σ ≤ 24 := h.1
theorem Bd.d {σ : Sg} (h : Bd σ) (k : Nat) : dd σ k < 100 := h.2.1 k
theorem Bd.v {σ : Sg} (h : Bd σ) (k : Nat) : vv σ k < 100 := h.2.2.1 k
theorem Bd.f {σ : Sg} (h : Bd σ) (k : Nat) : ff σ k < 24 ∨ ff σ k = 1000 := h.2.2.2.1 k
theorem Bd.s {σ : Sg} (h : Bd σ) (k : Nat) : ss σ k ≤ 784 ∨ ss σ k = 1000 := h.2.2.2.2 k
/-- a cell of the store: empty, or a small number -/
def Bc (n : Nat) (g : Nat → Nat) : Prop := ∀ k, g k < n ∨ g k = 1000
theorem Bc.at {n : Nat} {g : Nat → Nat} (h : Bc n g) (k : Nat) : g k < n ∨ g k = 1000 := h k
/-! small rows -/
theorem r_dec {x : Nat} (h : 1 ≤ x) : nI x + Int32.ofInt (-1) = nI (x - 1) := by
  obtain ⟨y, rfl⟩ : ∃ y, x = y + 1 := ⟨x - 1, by omega⟩
  exact pk_m1 y
theorem r_shl1 {k : Nat} (h : k < 31) : nI 1 <<< (nI k &&& 31) = nI (2 ^ k) := by
  have := pk_shlN (n := 1) (nI k &&& 31) k (s_l k (by omega)) (by
    rw [Nat.one_mul]
    exact Nat.pow_lt_pow_right (by omega) (by omega))
  rw [this, Nat.one_mul]
theorem r_shr {n k : Nat} (hn : n < 2 ^ 31) (hk : k < 32) : nI n >>> (nI k &&& 31) = nI (n / 2 ^ k) := pk_shrN hn _ k (s_l k hk)
theorem ct_t {p : Nat → Bool} {n k : Nat} (h : p n = true) (hk : k = fb_ct p n) : k + 1 = fb_ct p (n + 1) := by rw [fb_ct_succ, h, hk]; rfl
theorem ct_f {p : Nat → Bool} {n k : Nat} (h : p n = false) (hk : k = fb_ct p n) : k = fb_ct p (n + 1) := by rw [fb_ct_succ, h, hk]; rfl
theorem bIt {b : Bool} (h : b = true) : nI 1 = bI b := by rw [h]; rfl
theorem bIf {b : Bool} (h : b = false) : nI 0 = bI b := by rw [h]; rfl
/-! sets of columns as numbers -/
def msk (p : Nat → Bool) : Nat → Nat
  | 0 => 0
  | k + 1 => msk p k + (if p k then 2 ^ k else 0)
theorem msk_succ (p : Nat → Bool) (k : Nat) : msk p (k + 1) = msk p k + (if p k then 2 ^ k else 0) := rfl
theorem msk_lt (p : Nat → Bool) : ∀ k, msk p k < 2 ^ k
  | 0 => by simp [msk]
  | k + 1 => by
    have h := msk_lt p k
    rw [msk_succ, Nat.pow_succ]
    split <;> omega
theorem msk_16 (p : Nat → Bool) : msk p 16 < 65536 := msk_lt p 16
theorem msk_lt31 (p : Nat → Bool) {k : Nat} (h : k ≤ 16) : msk p k < 2 ^ 31 := Nat.lt_of_lt_of_le (msk_lt p k) (Nat.pow_le_pow_right (by omega) (by omega))
theorem msk_cong {p q : Nat → Bool} : ∀ {n : Nat}, (∀ k, k < n → p k = q k) → msk p n = msk q n
  | 0, _ => rfl
  | n + 1, h => by rw [msk_succ, msk_succ, msk_cong (fun k hk => h k (by omega)), h n (by omega)]
theorem msk_bit (p : Nat → Bool) : ∀ (n i : Nat), i < n → (msk p n).testBit i = p i
  | 0, i, h => absurd h (Nat.not_lt_zero i)
  | n + 1, i, h => by
    have hl := msk_lt p n
    rw [msk_succ]
    by_cases hp : p n = true
    · rw [if_pos hp, Nat.add_comm]
      by_cases hi : i = n
      · subst hi
        rw [Nat.testBit_two_pow_add_eq, Nat.testBit_lt_two_pow hl, hp]; rfl
      · rw [Nat.testBit_two_pow_add_gt (by omega)]
        exact msk_bit p n i (by omega)
    · rw [if_neg hp, Nat.add_zero]
      by_cases hi : i = n
      · subst hi
        rw [Nat.testBit_lt_two_pow hl]
        cases h2 : p i with
        | true => exact absurd h2 hp
        | false => rfl
      · exact msk_bit p n i (by omega)
theorem msk_0 {p : Nat → Bool} {n : Nat} (h : msk p n = 0) {k : Nat} (hk : k < n) : p k = false := by
  rw [← msk_bit p n k hk, h, Nat.zero_testBit]
theorem msk_t {p : Nat → Bool} {n m : Nat} (h : p n = true) (hm : m = msk p n) : m ||| 2 ^ n = msk p (n + 1) := by
  have e := Nat.two_pow_add_eq_or_of_lt (msk_lt p n) 1
  rw [Nat.mul_one] at e
  rw [msk_succ, h, hm, if_pos rfl, Nat.or_comm, ← e, Nat.add_comm]
theorem msk_f {p : Nat → Bool} {n m : Nat} (h : p n = false) (hm : m = msk p n) : m = msk p (n + 1) := by
  rw [msk_succ, h, hm]; simp
/-! how many columns a number has -/
def pop (k : Nat) : Nat := fb_ct (fun i => k.testBit i) 16
theorem pop_le (k : Nat) : pop k ≤ 16 := fb_ct_le _ _
theorem pop_msk (p : Nat → Bool) : pop (msk p 16) = fb_ct p 16 := fb_ct_cong (fun i hi => msk_bit p 16 i hi)
/-! rows -/
def ent (σ : Sg) (r c : Nat) : Bool := decide (vv σ (r * 16 + c) ≠ dd σ r)
theorem ent_t {σ : Sg} {r c : Nat} : ent σ r c = true ↔ vv σ (r * 16 + c) ≠ dd σ r := decide_eq_true_iff
theorem ent_f {σ : Sg} {r c : Nat} : ent σ r c = false ↔ vv σ (r * 16 + c) = dd σ r := by
  unfold ent; rw [decide_eq_false_iff_not, Classical.not_not]
def cols (σ : Sg) (r : Nat) : Nat := msk (ent σ r) 16
def wt (σ : Sg) (r : Nat) : Nat := fb_ct (ent σ r) 16
theorem wt_le (σ : Sg) (r : Nat) : wt σ r ≤ 16 := fb_ct_le _ _
theorem pop_cols (σ : Sg) (r : Nat) : pop (cols σ r) = wt σ r := pop_msk _
theorem cols_lt (σ : Sg) (r : Nat) : cols σ r < 65536 := msk_16 _
def cw (σ : Sg) (r v : Nat) : Nat := fb_ct (fun c => decide (vv σ (r * 16 + c) = v)) 16
theorem cw_le (σ : Sg) (r v : Nat) : cw σ r v ≤ 16 := fb_ct_le _ _
def eqc (σ : Sg) (r q : Nat) : Nat := fb_ct (fun c => decide (vv σ (r * 16 + c) = vv σ (q * 16 + c))) 16
theorem eqc_le (σ : Sg) (r q : Nat) : eqc σ r q ≤ 16 := fb_ct_le _ _
/-- the greatest, the first of several -/
def mvB (f : Nat → Nat) : Nat → Nat × Nat
  | 0 => (0, 0)
  | k + 1 => if (mvB f k).2 < f k then (k, f k) else mvB f k
def mv (σ : Sg) (r : Nat) : Nat := (mvB (cw σ r) 100).1
theorem mvB_ok (f : Nat → Nat) : ∀ n, (∀ u, u < n → f u ≤ (mvB f n).2) ∧ (((mvB f n).1 = 0 ∧ (mvB f n).2 = 0) ∨ ((mvB f n).1 < n ∧ f (mvB f n).1 = (mvB f n).2 ∧ ∀ u, u < (mvB f n).1 → f u < (mvB f n).2))
  | 0 => ⟨fun _ h => absurd h (Nat.not_lt_zero _), Or.inl ⟨rfl, rfl⟩⟩
  | n + 1 => by
    obtain ⟨h1, h2⟩ := mvB_ok f n
    unfold mvB
    split
    · rename_i h
      refine ⟨fun u hu => ?_, Or.inr ⟨Nat.lt_succ_self n, rfl, fun u hu => Nat.lt_of_le_of_lt (h1 u hu) h⟩⟩
      rcases Nat.lt_or_ge u n with q | q
      · exact Nat.le_of_lt (Nat.lt_of_le_of_lt (h1 u q) h)
      · have : u = n := by omega
        subst this; exact Nat.le_refl _
    · rename_i h
      refine ⟨fun u hu => ?_, ?_⟩
      · rcases Nat.lt_or_ge u n with q | q
        · exact h1 u q
        · have : u = n := by omega
          subst this; omega
      · rcases h2 with h2 | ⟨a, b, c⟩
        · exact Or.inl h2
        · exact Or.inr ⟨Nat.lt_succ_of_lt a, b, c⟩
theorem mv_of {σ : Sg} {r v : Nat} (hv : v < 100) (h0 : 0 < cw σ r v) (h1 : ∀ u, u < 100 → cw σ r u ≤ cw σ r v) (h2 : ∀ u, u < v → cw σ r u < cw σ r v) : mv σ r = v ∧ (mvB (cw σ r) 100).2 = cw σ r v := by
  obtain ⟨a, b⟩ := mvB_ok (cw σ r) 100
  have a1 := a v hv
  rcases b with ⟨b1, b2⟩ | ⟨b1, b2, b3⟩
  · omega
  · have e1 := h1 _ b1
    have : (mvB (cw σ r) 100).1 = v := by
      rcases Nat.lt_trichotomy (mvB (cw σ r) 100).1 v with q | q | q
      · have := h2 _ q
        omega
      · exact q
      · have := b3 _ q
        omega
    refine ⟨this, ?_⟩
    rw [this] at b2
    exact b2.symm
theorem mv_lt (σ : Sg) (r : Nat) : mv σ r < 100 := by
  obtain ⟨-, b⟩ := mvB_ok (cw σ r) 100
  rcases b with ⟨b1, -⟩ | ⟨b1, -⟩
  · unfold mv; omega
  · exact b1
/-- the row that is most like a row -/
def lkB (f : Nat → Nat) (q : Nat) : Nat → Nat × Nat
  | 0 => (1000, 1000)
  | k + 1 => if k ≠ q ∧ ((lkB f q k).2 = 1000 ∨ (lkB f q k).2 < f k) then (k, f k) else lkB f q k
theorem lkB_succ (f : Nat → Nat) (q k : Nat) : lkB f q (k + 1) = if k ≠ q ∧ ((lkB f q k).2 = 1000 ∨ (lkB f q k).2 < f k) then (k, f k) else lkB f q k := rfl
theorem lkB_le {f : Nat → Nat} {q : Nat} (hf : ∀ k, f k ≤ 16) : ∀ n, n ≤ 24 → ((lkB f q n).1 < 24 ∨ (lkB f q n).1 = 1000) ∧ ((lkB f q n).2 ≤ 16 ∨ (lkB f q n).2 = 1000)
  | 0, _ => ⟨Or.inr rfl, Or.inr rfl⟩
  | n + 1, h => by
    unfold lkB
    split
    · exact ⟨Or.inl (by show n < 24; omega), Or.inl (hf n)⟩
    · exact lkB_le hf n (by omega)
theorem e1_ltn {m c : Nat} (hm : m ≤ 1000) (hc : c < 1000) : nI c ≤ e1 m ↔ ¬ (m = 1000 ∨ m < c) := by
  rw [i_le, e1_toInt hm, nI_toInt (by omega)]
  split <;> omega
/-- the sum of weights -/
def wsum (σ : Sg) : Nat → Nat := fb_sm (wt σ)
theorem wsum_le (σ : Sg) (n : Nat) : wsum σ n ≤ n * 16 := fb_sm_bound (fun k _ => wt_le σ k)
def fcnt (σ : Sg) : Nat := fb_ct (fun f => decide (ss σ f ≠ 1000)) 24
theorem fcnt_le (σ : Sg) : fcnt σ ≤ 24 := fb_ct_le _ _
def shr (σ : Sg) (f : Nat) : Nat := fb_ct (fun r => decide (ff σ r = f)) (nn σ)
theorem shr_le {σ : Sg} (h : Bd σ) (f : Nat) : shr σ f ≤ 24 := Nat.le_trans (fb_ct_le _ _) h.1
def shf (σ : Sg) (f : Nat) : Nat := if f < 24 then ss σ f else 1000
theorem shf_le {σ : Sg} (h : Bd σ) (f : Nat) : shf σ f ≤ 784 ∨ shf σ f = 1000 := by
  unfold shf; split
  · exact h.s f
  · exact Or.inr rfl
/-- the first place under n of a kind; 1000 if there is none -/
def fst? (p : Nat → Bool) (n : Nat) : Nat := if fa_first p n < n then fa_first p n else 1000
theorem fst?_none {p : Nat → Bool} {n : Nat} (h : ∀ k, k < n → p k = false) : fst? p n = 1000 := by
  unfold fst?
  rw [if_neg]
  intro q
  have := fa_first_yes p n q
  rw [h _ q] at this
  cases this
theorem fst?_some {p : Nat → Bool} {n k : Nat} (hk : k < n) (h : p k = true) (hb : ∀ j, j < k → p j = false) : fst? p n = k := by
  have h1 : fa_first p n < n := by
    rcases Nat.lt_or_ge (fa_first p n) n with q | q
    · exact q
    · have := fa_first_no p n k (by omega)
      rw [h] at this; cases this
  have h2 := fa_first_yes p n h1
  unfold fst?
  rw [if_pos h1]
  rcases Nat.lt_trichotomy (fa_first p n) k with q | q | q
  · rw [hb _ q] at h2; cases h2
  · exact q
  · have := fa_first_no p n k q
    rw [h] at this; cases this
theorem fst?_le (p : Nat → Bool) (n : Nat) : fst? p n < n ∨ fst? p n = 1000 := by
  unfold fst?; split
  · exact Or.inl (by assumption)
  · exact Or.inr rfl
theorem fst?_yes {p : Nat → Bool} {n : Nat} (h : fst? p n ≠ 1000) : fst? p n < n ∧ p (fst? p n) = true ∧ ∀ j, j < fst? p n → p j = false := by
  unfold fst? at h ⊢
  split at h
  · rename_i q
    rw [if_pos q]
    exact ⟨q, fa_first_yes p n q, fun j hj => fa_first_no p n j hj⟩
  · exact absurd rfl h
theorem fst?_no {p : Nat → Bool} {n : Nat} (hn : n ≤ 1000) (h : fst? p n = 1000) {k : Nat} (hk : k < n) : p k = false := by
  unfold fst? at h
  split at h
  · rename_i q; omega
  · rename_i q
    exact fa_first_no p n k (by omega)
theorem fst?_cong {p q : Nat → Bool} {n : Nat} (hn : n ≤ 1000) (h : ∀ k, k < n → p k = q k) : fst? p n = fst? q n := by
  by_cases e : fst? p n = 1000
  · rw [e, fst?_none (fun k hk => by rw [← h k hk]; exact fst?_no hn e hk)]
  · obtain ⟨a, b, c⟩ := fst?_yes e
    exact (fst?_some (p := q) a (by rw [← h _ a]; exact b) (fun j hj => by rw [← h j (by omega)]; exact c j hj)).symm
def frf (σ : Sg) : Nat := fst? (fun f => decide (ss σ f = 1000)) 24
theorem frf_le (σ : Sg) : frf σ < 24 ∨ frf σ = 1000 := fst?_le _ _
/-- the last place of a kind, and one more -/
def lst (p : Nat → Bool) : Nat → Nat
  | 0 => 0
  | k + 1 => if p k then k + 1 else lst p k
theorem lst_le (p : Nat → Bool) : ∀ n, lst p n ≤ n
  | 0 => Nat.le_refl 0
  | n + 1 => by
    have := lst_le p n
    unfold lst; split <;> omega
/-! the store -/
def emp (cm : Nat → Nat) (k : Nat) : Bool := decide (cm k = 1000)
def nem (cm : Nat → Nat) (k : Nat) : Bool := decide (cm k ≠ 1000)
def fitb (cm : Nat → Nat) (m s : Nat) : Bool := decide (fb_ct (fun c => m.testBit c && nem cm (s + c)) 16 = 0)
theorem fitb_t {cm : Nat → Nat} {m s : Nat} : fitb cm m s = true ↔ ∀ c, c < 16 → m.testBit c = true → cm (s + c) = 1000 := by
  unfold fitb
  rw [decide_eq_true_iff, fb_ct_zero]
  constructor
  · intro h c hc hb
    have h1 := h c hc
    rw [hb, Bool.true_and] at h1
    exact Classical.not_not.mp (of_decide_eq_false h1)
  · intro h c hc
    cases hb : m.testBit c with
    | false => rfl
    | true => exact decide_eq_false (fun z => z (h c hc hb))
theorem fitb_f {cm : Nat → Nat} {m s : Nat} : fitb cm m s = false ↔ ∃ c, c < 16 ∧ m.testBit c = true ∧ cm (s + c) ≠ 1000 := by
  rw [← Bool.not_eq_true, fitb_t]
  constructor
  · intro h
    by_cases q : ∃ c, c < 16 ∧ m.testBit c = true ∧ cm (s + c) ≠ 1000
    · exact q
    · exact absurd (fun c hc hb => Classical.not_not.mp (fun z => q ⟨c, hc, hb, z⟩)) h
  · rintro ⟨c, h1, h2, h3⟩ h
    exact h3 (h c h1 h2)
def ffit (cm : Nat → Nat) (m : Nat) : Nat := fst? (fitb cm m) 785
theorem ffit_le (cm : Nat → Nat) (m : Nat) : ffit cm m ≤ 784 ∨ ffit cm m = 1000 := by
  rcases fst?_le (fitb cm m) 785 with h | h
  · exact Or.inl (by unfold ffit; omega)
  · exact Or.inr h
def endc (cm : Nat → Nat) : Nat := lst (nem cm) 800
theorem endc_le (cm : Nat → Nat) : endc cm ≤ 800 := lst_le _ _
def fil (cm : Nat → Nat) : Nat := fb_ct (nem cm) 800
theorem fil_le (cm : Nat → Nat) : fil cm ≤ 800 := fb_ct_le _ _
/-- cells between s and h that bear the mark f are emptied -/
def tkF (g cm : Nat → Nat) (f s h : Nat) : Nat → Nat := fun k => if s ≤ k ∧ k < h ∧ cm k = f then 1000 else g k
theorem tkF_0 (g cm : Nat → Nat) (f s : Nat) : tkF g cm f s s = g := by
  funext k; unfold tkF; rw [if_neg]; omega
theorem tkF_t {g cm : Nat → Nat} {f s h : Nat} (hs : s ≤ h) (hk : cm h = f) : va_up (tkF g cm f s h) h 1000 = tkF g cm f s (h + 1) := by
  funext k; unfold va_up tkF
  by_cases e : k = h
  · subst e; rw [if_pos rfl, if_pos ⟨hs, by omega, hk⟩]
  · rw [if_neg e]
    by_cases q : s ≤ k ∧ k < h ∧ cm k = f
    · rw [if_pos q, if_pos ⟨q.1, by omega, q.2.2⟩]
    · rw [if_neg q, if_neg (fun z => q ⟨z.1, by omega, z.2.2⟩)]
theorem tkF_f {g cm : Nat → Nat} {f s h : Nat} (hk : cm h ≠ f) : tkF g cm f s h = tkF g cm f s (h + 1) := by
  funext k; unfold tkF
  by_cases q : s ≤ k ∧ k < h ∧ cm k = f
  · rw [if_pos q, if_pos ⟨q.1, by omega, q.2.2⟩]
  · rw [if_neg q, if_neg]
    intro z
    rcases Nat.lt_or_ge k h with w | w
    · exact q ⟨z.1, w, z.2.2⟩
    · have : k = h := by omega
      subst this; exact hk z.2.2
theorem tkF_at {g cm : Nat → Nat} {f s h : Nat} : tkF g cm f s h h = g h := by
  unfold tkF; rw [if_neg]; omega
theorem tkF_Bc {n : Nat} {g cm : Nat → Nat} {f s h : Nat} (hg : Bc n g) : Bc n (tkF g cm f s h) := fun k => by
  unfold tkF; split
  · exact Or.inr rfl
  · exact hg k
theorem up_Bc {n : Nat} {g : Nat → Nat} (hg : Bc n g) {k x : Nat} (hx : x < n ∨ x = 1000) : Bc n (va_up g k x) := fun j => by
  unfold va_up; split
  · exact hx
  · exact hg j
theorem up_s {α : Type} {f : Nat → α} {k : Nat} {x : α} : va_up f k x k = x := if_pos rfl
theorem up_n {α : Type} {f : Nat → α} {k j : Nat} {x : α} (h : j ≠ k) : va_up f k x j = f j := if_neg h
def wcnt (cm : Nat → Nat) (f s : Nat) : Nat := fb_ct (fun c => decide (cm (s + c) = f)) 16
theorem wcnt_le (cm : Nat → Nat) (f s : Nat) : wcnt cm f s ≤ 16 := fb_ct_le _ _
end
section
set_option maxHeartbeats 4000000 in
set_option maxRecDepth 100000 in
/-- the bounds are right: nothing happens -/
theorem c_J7_rangeCheck_23922 (l : Launch) (G : kG) (a f t : Nat) (h1 : f ≤ t) (h2 : t ≤ a) (h3 : a < 2 ^ 31) : Met l yJ7_rangeCheck_23922 wsJ7_rangeCheck_23922 ({ frames := 0, cells := 0, slots := 0, locals := 0 } : Room) (cP G [.int (nI a), .int (nI f), .int (nI t)] []) (qV (fun H => va_P G.1 vwCl [] H) (mA [])) 0 0 (mA []) := by
  refine met_muV (cc := cJ7_rangeCheck_23922) (maxL := 3) (own := RJ7) (by decide) rfl rfl (Nat.le_of_ble_eq_true rfl) ?_
  intro p e s m args below meth cod Q A hx hb hml hown hts hK hP hD hS hret ls hl
  have hl : lv_has ls 3 [(0, .int (nI a)), (1, .int (nI f)), (2, .int (nI t))] := hl
  refine lv_iload_n hx hb dJ7_rangeCheck_23922_0 rfl (lv_at hl 1 rfl) ?_
  refine lv_iload_n hx hb dJ7_rangeCheck_23922_1 rfl (lv_at hl 2 rfl) ?_
  refine r_icmp_le (P := f ≤ t) (tgt := 46) hx hb dJ7_rangeCheck_23922_2 (by decide) (nI_leI (by omega) (by omega)) (fun c2 => ?_) (fun c2 => ?_)
  · refine lv_iload_n hx hb dJ7_rangeCheck_23922_46 rfl (lv_at hl 1 rfl) ?_
    refine r_if_ge (P := True) (tgt := 59) hx hb dJ7_rangeCheck_23922_47 (by decide) (nI_ge0 (by omega)) (fun c47 => ?_) (fun c47 => ?_)
    · refine lv_iload_n hx hb dJ7_rangeCheck_23922_59 rfl (lv_at hl 2 rfl) ?_
      refine lv_iload_n hx hb dJ7_rangeCheck_23922_60 rfl (lv_at hl 0 rfl) ?_
      refine r_icmp_le (P := t ≤ a) (tgt := 73) hx hb dJ7_rangeCheck_23922_61 (by decide) (nI_leI (by omega) (by omega)) (fun c61 => ?_) (fun c61 => ?_)
      · exact hret _ _ _ _ hS dJ7_rangeCheck_23922_73 (hP)
      · exact absurd h2 c61
    · exact absurd trivial c47
  · exact absurd h1 c2

set_option maxHeartbeats 4000000 in
set_option maxRecDepth 100000 in
/-- a row is filled -/
theorem c_J7_fill_53178 (l : Launch) (G : kG) (a N : Nat) (f : Nat → Int32) (v : Int32) (hN : N < 2 ^ 31) : Met l yJ7_fill_53178 wsJ7_fill_53178 ({ frames := 0, cells := 0, slots := 0, locals := 0 } : Room) (cP G [.ref a, .int v] [ar G a N f]) (qV (fun H => va_P G.1 vwCl [ar G a N (fun _ => v)] H) (mA [ar G a N f])) 0 0 (mA [ar G a N f]) := by
  refine met_muV (cc := cJ7_fill_53178) (maxL := 4) (own := RJ7) (by decide) rfl rfl (Nat.le_of_ble_eq_true rfl) ?_
  intro p e s m args below meth cod Q A hx hb hml hown hts hK hP hD hS hret ls hl
  have hl : lv_has ls 4 [(0, .ref a), (1, .int v)] := hl
  refine lv_iconst (v := (nI 0)) hx hb dJ7_fill_53178_0 (by decide) ?_
  refine lv_istore_n (lv' := [(2, .int (nI 0)), (0, .ref a), (1, .int v)]) hx hb dJ7_fill_53178_1 rfl hl (by decide) rfl (fun ls hl => ?_)
  refine lv_aload_n hx hb dJ7_fill_53178_2 rfl (lv_at hl 1 rfl) ?_
  refine va_alen (v := (nI N)) hx hb hK.1 hP 0 0 rfl rfl rfl dJ7_fill_53178_3 ?_
  refine lv_istore_n (lv' := [(3, .int (nI N)), (2, .int (nI 0)), (0, .ref a), (1, .int v)]) hx hb dJ7_fill_53178_4 rfl hl (by decide) rfl (fun ls hl => ?_)
  have L5 : ∀ (fu : Nat) (i : Nat) (g : Nat → Int32), N + 1 - i < fu → i ≤ N → (∀ j, j < i → g j = v) → ∀ (H : Heap) (locs : List Loc), va_P G.1 vwCl [ar G a N g] H → va_D A [ar G a N g] → va_S A s.heap H locs → ∀ (ls : Array Slot), lv_has ls 4 [(0, .ref a), (1, .int v), (2, .int (nI i)), (3, .int (nI N))] → W p l e ({ frames := 0, cells := 0, slots := 0, locals := 0 } : Room) s m args below meth cod H locs 0 0 Q (F0 m 5 ls []) := by
    intro fu
    induction fu with
    | zero => intro i g hm; exact absurd hm (Nat.not_lt_zero _)
    | succ fu ih5 =>
      intro i g hm5 hi hg H locs hP hD hS ls hl
      have hP : va_P G.1 vwCl [ar G a N g] H := hP
      have hD : va_D A [ar G a N g] := hD
      refine lv_iload_n hx hb dJ7_fill_53178_5 rfl (lv_at hl 2 rfl) ?_
      refine lv_iload_n hx hb dJ7_fill_53178_6 rfl (lv_at hl 3 rfl) ?_
      refine r_icmp_ge (P := N ≤ i) (tgt := 20) hx hb dJ7_fill_53178_7 (by decide) (nI_leI (by omega) (by omega)) (fun c7 => ?_) (fun c7 => ?_)
      · have hP := P_ext hP 0 (fun _ => v) rfl (fun j hj => hg j (by omega))
        exact hret _ _ _ _ hS dJ7_fill_53178_20 (hP)
      · refine lv_aload_n hx hb dJ7_fill_53178_10 rfl (lv_at hl 0 rfl) ?_
        refine lv_iload_n hx hb dJ7_fill_53178_11 rfl (lv_at hl 2 rfl) ?_
        refine lv_iload_n hx hb dJ7_fill_53178_12 rfl (lv_at hl 1 rfl) ?_
        refine r_iast (e1 := i) (x := v) (g := upd g i v) hx hb hK.1 hP hD hS 0 0 rfl rfl (by omega) (by first | decide | assumption) (rfl) dJ7_fill_53178_13 (fun H locs hP hD hS => ?_)
        have hP : va_P G.1 vwCl [ar G a N (upd g i v)] H := hP
        have hD : va_D A [ar G a N (upd g i v)] := hD
        refine r_iinc (v := i + 1) (lv' := [(2, .int (nI (i + 1))), (0, .ref a), (1, .int v), (3, .int (nI N))]) hx hb dJ7_fill_53178_14 hl (k := 2) rfl (nI_1 _) (by decide) rfl (fun ls hl => ?_)
        refine lv_goto (tgt := 5) hx hb dJ7_fill_53178_17 (by decide) ?_
        exact ih5 (i + 1) (upd g i v) (by omega) (by omega) (fun j hj => by unfold upd; split; exact rfl; exact hg j (by omega)) _ _ hP hD hS ls (lv_sub hl [1, 2, 0, 3] rfl)
  exact L5 ((N + 1 - 0) + 1) 0 f (Nat.lt_succ_self _) (by omega) (fun j hj => absurd hj (Nat.not_lt_zero j)) _ _ hP hD hS ls (lv_sub hl [2, 3, 1, 0] rfl)

theorem r_fill {lo i : Nat} {g f : Nat → Int32} {v : Int32} (hl : lo ≤ i) (hg : ∀ j, g j = if lo ≤ j ∧ j < i then v else f j) : ∀ j, upd g i v j = if lo ≤ j ∧ j < i + 1 then v else f j := by
  intro j
  unfold upd
  by_cases e : j = i
  · subst e; rw [if_pos rfl, if_pos ⟨hl, by omega⟩]
  · rw [if_neg e, hg]
    by_cases q : lo ≤ j ∧ j < i
    · rw [if_pos q, if_pos ⟨q.1, by omega⟩]
    · rw [if_neg q, if_neg (fun z => q ⟨z.1, by omega⟩)]
set_option maxHeartbeats 4000000 in
set_option maxRecDepth 100000 in
/-- a part of a row is filled -/
theorem c_J7_fill_fda19 (l : Launch) (G : kG) (a N lo hi : Nat) (f : Nat → Int32) (v : Int32) (hN : N < 2 ^ 31) (h1 : lo ≤ hi) (h2 : hi ≤ N) : Met l yJ7_fill_fda19 wsJ7_fill_fda19 ({ frames := 1, cells := 0, slots := 0, locals := 22 } : Room) (cP G [.ref a, .int (nI lo), .int (nI hi), .int v] [ar G a N f]) (qV (fun H => va_P G.1 vwCl [ar G a N (fun j => if lo ≤ j ∧ j < hi then v else f j)] H) (mA [ar G a N f])) 0 0 (mA [ar G a N f]) := by
  refine met_muV (cc := cJ7_fill_fda19) (maxL := 5) (own := RJ7) (by decide) rfl rfl (Nat.le_of_ble_eq_true rfl) ?_
  intro p e s m args below meth cod Q A hx hb hml hown hts hK hP hD hS hret ls hl
  have hl : lv_has ls 5 [(0, .ref a), (1, .int (nI lo)), (2, .int (nI hi)), (3, .int v)] := hl
  refine lv_aload_n hx hb dJ7_fill_fda19_0 rfl (lv_at hl 0 rfl) ?_
  refine va_alen (v := (nI N)) hx hb hK.1 hP 0 0 rfl rfl rfl dJ7_fill_fda19_1 ?_
  refine lv_iload_n hx hb dJ7_fill_fda19_2 rfl (lv_at hl 1 rfl) ?_
  refine lv_iload_n hx hb dJ7_fill_fda19_3 rfl (lv_at hl 2 rfl) ?_
  refine g_V (k_S (n := 3) (As := [.int (nI N), .int (nI lo), .int (nI hi)]) (rest := []) (wc := []) hx hb hml hown hts (c_J7_rangeCheck_23922 (l := l) (G := G) (a := N) (f := lo) (t := hi) (h1 := by first | assumption | omega) (h2 := by first | assumption | omega) (h3 := by first | assumption | omega))  gJ7_fill_fda19_J7_rangeCheck_23922 rfl rfl rfl (by decide +kernel) ⟨Nat.le_of_ble_eq_true rfl, Nat.le_of_ble_eq_true rfl⟩ rfl hK hP hD [] rfl (by decide)  hl.1 rfl (Nat.le_of_ble_eq_true rfl) dJ7_fill_fda19_4 ⟨Nat.le_of_ble_eq_true rfl, Nat.le_of_ble_eq_true rfl⟩) hP hD hS [] rfl (fun H locs hB4 back hS => ?_)
  have hP1 := hB4
  obtain ⟨hP, hD⟩ := back [] rfl hP1
  have hP : va_P G.1 vwCl [ar G a N f] H := hP
  have hD : va_D A [ar G a N f] := hD
  refine lv_iload_n hx hb dJ7_fill_fda19_7 rfl (lv_at hl 1 rfl) ?_
  refine lv_istore (lv' := [(4, .int (nI lo)), (0, .ref a), (1, .int (nI lo)), (2, .int (nI hi)), (3, .int v)]) hx hb dJ7_fill_fda19_8 hl (by decide) rfl (fun ls hl => ?_)
  have L10 : ∀ (fu : Nat) (i : Nat) (g : Nat → Int32), hi + 1 - i < fu → lo ≤ i → i ≤ hi → (∀ j, g j = if lo ≤ j ∧ j < i then v else f j) → ∀ (H : Heap) (locs : List Loc), va_P G.1 vwCl [ar G a N g] H → va_D A [ar G a N g] → va_S A s.heap H locs → ∀ (ls : Array Slot), lv_has ls 5 [(0, .ref a), (1, .int (nI lo)), (2, .int (nI hi)), (3, .int v), (4, .int (nI i))] → W p l e ({ frames := 1, cells := 0, slots := 0, locals := 22 } : Room) s m args below meth cod H locs 0 0 Q (F0 m 10 ls []) := by
    intro fu
    induction fu with
    | zero => intro i g hm; exact absurd hm (Nat.not_lt_zero _)
    | succ fu ih10 =>
      intro i g hm10 hlo hi2 hg H locs hP hD hS ls hl
      have hP : va_P G.1 vwCl [ar G a N g] H := hP
      have hD : va_D A [ar G a N g] := hD
      refine lv_iload hx hb dJ7_fill_fda19_10 (lv_at hl 4 rfl) ?_
      refine lv_iload_n hx hb dJ7_fill_fda19_12 rfl (lv_at hl 2 rfl) ?_
      refine r_icmp_ge (P := hi ≤ i) (tgt := 27) hx hb dJ7_fill_fda19_13 (by decide) (nI_leI (by omega) (by omega)) (fun c13 => ?_) (fun c13 => ?_)
      · obtain rfl : i = hi := by omega
        obtain rfl : g = fun j => if lo ≤ j ∧ j < i then v else f j := funext hg
        exact hret _ _ _ _ hS dJ7_fill_fda19_27 (hP)
      · refine lv_aload_n hx hb dJ7_fill_fda19_16 rfl (lv_at hl 0 rfl) ?_
        refine lv_iload hx hb dJ7_fill_fda19_17 (lv_at hl 4 rfl) ?_
        refine lv_iload_n hx hb dJ7_fill_fda19_19 rfl (lv_at hl 3 rfl) ?_
        refine r_iast (e1 := i) (x := v) (g := upd g i v) hx hb hK.1 hP hD hS 0 0 rfl rfl (by omega) (by first | decide | assumption) (rfl) dJ7_fill_fda19_20 (fun H locs hP hD hS => ?_)
        have hP : va_P G.1 vwCl [ar G a N (upd g i v)] H := hP
        have hD : va_D A [ar G a N (upd g i v)] := hD
        refine r_iinc (v := i + 1) (lv' := [(4, .int (nI (i + 1))), (0, .ref a), (1, .int (nI lo)), (2, .int (nI hi)), (3, .int v)]) hx hb dJ7_fill_fda19_21 hl (k := 4) rfl (nI_1 _) (by decide) rfl (fun ls hl => ?_)
        refine lv_goto (tgt := 10) hx hb dJ7_fill_fda19_24 (by decide) ?_
        exact ih10 (i + 1) (upd g i v) (by omega) (by omega) (by omega) (r_fill hlo hg) _ _ hP hD hS ls (lv_sub hl [1, 2, 3, 4, 0] rfl)
  exact L10 ((hi + 1 - lo) + 1) lo f (Nat.lt_succ_self _) (by omega) (by omega) (fun j => by rw [if_neg]; omega) _ _ hP hD hS ls (lv_sub hl [1, 2, 3, 4, 0] rfl)

def bc_a (k : Nat) : Nat :=
  let v1 := Nat.sub k (Nat.land (Nat.div k 2) 1431655765)
  let v2 := Nat.add (Nat.land v1 858993459) (Nat.land (Nat.div v1 4) 858993459)
  let v3 := Nat.land (Nat.add v2 (Nat.div v2 16)) 252645135
  let v4 := Nat.add v3 (Nat.div v3 256)
  let v5 := Nat.add v4 (Nat.div v4 65536)
  Nat.land v5 63
def bc_p : Nat → Nat → Nat
  | 0, _ => 0
  | d + 1, k => Nat.add (bc_p d (Nat.div k 2)) (Nat.mod k 2)
def bc_all (f : Nat → Bool) : Nat → Nat → Bool
  | 0, a => f a
  | d + 1, a => bc_all f d (Nat.mul a 2) && bc_all f d (Nat.add (Nat.mul a 2) 1)
theorem bc_all_at (f : Nat → Bool) : ∀ (d a : Nat), bc_all f d a = true → ∀ k, k / 2 ^ d = a → f k = true
  | 0, a, h, k, hk => by
    rw [Nat.pow_zero, Nat.div_one] at hk
    subst hk; exact h
  | d + 1, a, h, k, hk => by
    have h' : bc_all f d (a * 2) = true ∧ bc_all f d (a * 2 + 1) = true := by
      have : (bc_all f d (a * 2) && bc_all f d (a * 2 + 1)) = true := h
      simpa using this
    rw [Nat.pow_succ, ← Nat.div_div_eq_div_mul] at hk
    rcases Nat.mod_two_eq_zero_or_one (k / 2 ^ d) with q | q
    · exact bc_all_at f d _ h'.1 k (by omega)
    · exact bc_all_at f d _ h'.2 k (by omega)
theorem bc_pop : ∀ (d k : Nat), bc_p d k = fb_ct (fun i => k.testBit i) d
  | 0, _ => rfl
  | d + 1, k => by
    have h := fb_ct_split (fun i => k.testBit i) 1 d
    rw [Nat.add_comm 1 d] at h
    rw [h]
    have e1 : fb_ct (fun i => k.testBit i) 1 = k % 2 := by
      rw [fb_ct_succ, Nat.testBit_zero]
      show 0 + _ = _
      rcases Nat.mod_two_eq_zero_or_one k with q | q <;> simp [q]
    have e2 : fb_ct (fun i => k.testBit (1 + i)) d = bc_p d (k / 2) := by
      rw [bc_pop d (k / 2)]
      refine fb_ct_cong (fun i _ => ?_)
      rw [Nat.add_comm 1 i, Nat.testBit_succ]
    rw [e1, e2]
    show bc_p d (k / 2) + k % 2 = _
    omega
theorem bc_chk : bc_all (fun k => Nat.beq (bc_a k) (bc_p 16 k)) 16 0 = true := by decide +kernel
theorem bc_ok (k : Nat) (hk : k < 65536) : ((((((k - (k / 2 ^ 1 &&& 1431655765)) &&& 858993459) + ((k - (k / 2 ^ 1 &&& 1431655765)) / 2 ^ 2 &&& 858993459)) + (((k - (k / 2 ^ 1 &&& 1431655765)) &&& 858993459) + ((k - (k / 2 ^ 1 &&& 1431655765)) / 2 ^ 2 &&& 858993459)) / 2 ^ 4 &&& 252645135) + ((((k - (k / 2 ^ 1 &&& 1431655765)) &&& 858993459) + ((k - (k / 2 ^ 1 &&& 1431655765)) / 2 ^ 2 &&& 858993459)) + (((k - (k / 2 ^ 1 &&& 1431655765)) &&& 858993459) + ((k - (k / 2 ^ 1 &&& 1431655765)) / 2 ^ 2 &&& 858993459)) / 2 ^ 4 &&& 252645135) / 2 ^ 8) + (((((k - (k / 2 ^ 1 &&& 1431655765)) &&& 858993459) + ((k - (k / 2 ^ 1 &&& 1431655765)) / 2 ^ 2 &&& 858993459)) + (((k - (k / 2 ^ 1 &&& 1431655765)) &&& 858993459) + ((k - (k / 2 ^ 1 &&& 1431655765)) / 2 ^ 2 &&& 858993459)) / 2 ^ 4 &&& 252645135) + ((((k - (k / 2 ^ 1 &&& 1431655765)) &&& 858993459) + ((k - (k / 2 ^ 1 &&& 1431655765)) / 2 ^ 2 &&& 858993459)) + (((k - (k / 2 ^ 1 &&& 1431655765)) &&& 858993459) + ((k - (k / 2 ^ 1 &&& 1431655765)) / 2 ^ 2 &&& 858993459)) / 2 ^ 4 &&& 252645135) / 2 ^ 8) / 2 ^ 16) &&& 63 = pop k := by
  have h := Nat.eq_of_beq_eq_true (bc_all_at _ 16 0 bc_chk k (by omega))
  have h2 : bc_a k = pop k := h.trans (bc_pop 16 k)
  exact h2
set_option maxHeartbeats 4000000 in
set_option maxRecDepth 100000 in
/-- how many bits of a small number are set -/
theorem c_J6_bitCount_0f7a4 (l : Launch) (G : kG) (k : Nat) (hk : k < 65536) : Met l yJ6_bitCount_0f7a4 wsJ6_bitCount_0f7a4 ({ frames := 0, cells := 0, slots := 0, locals := 0 } : Room) (cP G [.int (nI k)] []) (vp_Si (fun x => x = (nI (pop k)))) 0 0 (fun _ => False) := by
  refine met_ro (cc := cJ6_bitCount_0f7a4) (maxL := 1) (ty := .int) (own := RJ6) (by decide) rfl rfl (fun _ _ => rfl) (Nat.le_of_ble_eq_true rfl) ?_
  intro p e s m args below meth cod Q hx hb hml hown hts hK hP hD hret ls hl
  have hl : lv_has ls 1 [(0, .int (nI k))] := hl
  obtain ⟨p1, hp1⟩ : ∃ y, y = k / 2 ^ 1 &&& 1431655765 := ⟨_, rfl⟩
  have q1 : p1 ≤ k := by rw [hp1]; exact Nat.le_trans Nat.and_le_left (Nat.div_le_self _ _)
  obtain ⟨v1, hv1⟩ : ∃ y, y = k - p1 := ⟨_, rfl⟩
  have u1 : v1 < 2 ^ 16 := by omega
  obtain ⟨v2, hv2⟩ : ∃ y, y = (v1 &&& 858993459) + (v1 / 2 ^ 2 &&& 858993459) := ⟨_, rfl⟩
  have u2 : v2 < 2 ^ 18 := by have h1 := @Nat.and_le_left v1 858993459; have h2 := @Nat.and_le_left (v1 / 2 ^ 2) 858993459; omega
  obtain ⟨v3, hv3⟩ : ∃ y, y = v2 + v2 / 2 ^ 4 &&& 252645135 := ⟨_, rfl⟩
  have u3 : v3 < 2 ^ 20 := by have h1 := @Nat.and_le_left (v2 + v2 / 2 ^ 4) 252645135; omega
  obtain ⟨v4, hv4⟩ : ∃ y, y = v3 + v3 / 2 ^ 8 := ⟨_, rfl⟩
  obtain ⟨v5, hv5⟩ : ∃ y, y = v4 + v4 / 2 ^ 16 := ⟨_, rfl⟩
  have hr : v5 &&& 63 = pop k := by rw [hv5, hv4, hv3, hv2, hv1, hp1]; exact bc_ok k hk
  refine lv_iload_n hx hb dJ6_bitCount_0f7a4_0 rfl (lv_at hl 0 rfl) ?_
  refine lv_iload_n hx hb dJ6_bitCount_0f7a4_1 rfl (lv_at hl 0 rfl) ?_
  refine lv_iconst (v := (nI 1)) hx hb dJ6_bitCount_0f7a4_2 (by decide) ?_
  refine lv_iushr (v := (nI (k / 2 ^ 1))) hx hb dJ6_bitCount_0f7a4_3 (pk_ushrN (by omega) _ 1 (by decide)) ?_
  refine lv_ldcw (v := (nI 1431655765)) hx hb hown (hts (.constant RJ6 265 (nI 1431655765)) (List.mem_of_getElem? (i := 1) rfl)) dJ6_bitCount_0f7a4_4 ?_
  refine lv_iand hx hb dJ6_bitCount_0f7a4_7 ?_
  refine r_top (y := (nI p1)) (by rw [hp1]; exact fa_and _ _) ?_
  refine lv_isub hx hb dJ6_bitCount_0f7a4_8 ?_
  refine r_top (y := (nI v1)) (by rw [hv1]; exact pk_sub q1) ?_
  refine lv_istore_n (lv' := [(0, .int (nI v1))]) hx hb dJ6_bitCount_0f7a4_9 rfl hl (by decide) rfl (fun ls hl => ?_)
  refine lv_iload_n hx hb dJ6_bitCount_0f7a4_10 rfl (lv_at hl 0 rfl) ?_
  refine lv_ldcw (v := (nI 858993459)) hx hb hown (hts (.constant RJ6 266 (nI 858993459)) (List.mem_of_getElem? (i := 2) rfl)) dJ6_bitCount_0f7a4_11 ?_
  refine lv_iand hx hb dJ6_bitCount_0f7a4_14 ?_
  refine r_top (y := (nI (v1 &&& 858993459))) (fa_and _ _) ?_
  refine lv_iload_n hx hb dJ6_bitCount_0f7a4_15 rfl (lv_at hl 0 rfl) ?_
  refine lv_iconst (v := (nI 2)) hx hb dJ6_bitCount_0f7a4_16 (by decide) ?_
  refine lv_iushr (v := (nI (v1 / 2 ^ 2))) hx hb dJ6_bitCount_0f7a4_17 (pk_ushrN (by omega) _ 2 (by decide)) ?_
  refine lv_ldcw (v := (nI 858993459)) hx hb hown (hts (.constant RJ6 266 (nI 858993459)) (List.mem_of_getElem? (i := 2) rfl)) dJ6_bitCount_0f7a4_18 ?_
  refine lv_iand hx hb dJ6_bitCount_0f7a4_21 ?_
  refine r_top (y := (nI (v1 / 2 ^ 2 &&& 858993459))) (fa_and _ _) ?_
  refine lv_iadd hx hb dJ6_bitCount_0f7a4_22 ?_
  refine r_top (y := (nI v2)) (by rw [hv2]; exact nI_add _ _) ?_
  refine lv_istore_n (lv' := [(0, .int (nI v2))]) hx hb dJ6_bitCount_0f7a4_23 rfl hl (by decide) rfl (fun ls hl => ?_)
  refine lv_iload_n hx hb dJ6_bitCount_0f7a4_24 rfl (lv_at hl 0 rfl) ?_
  refine lv_iload_n hx hb dJ6_bitCount_0f7a4_25 rfl (lv_at hl 0 rfl) ?_
  refine lv_iconst (v := (nI 4)) hx hb dJ6_bitCount_0f7a4_26 (by decide) ?_
  refine lv_iushr (v := (nI (v2 / 2 ^ 4))) hx hb dJ6_bitCount_0f7a4_27 (pk_ushrN (by omega) _ 4 (by decide)) ?_
  refine r_iadd (v := v2 + (v2 / 2 ^ 4)) hx hb dJ6_bitCount_0f7a4_28 rfl ?_
  refine lv_ldcw (v := (nI 252645135)) hx hb hown (hts (.constant RJ6 267 (nI 252645135)) (List.mem_of_getElem? (i := 3) rfl)) dJ6_bitCount_0f7a4_29 ?_
  refine lv_iand hx hb dJ6_bitCount_0f7a4_32 ?_
  refine r_top (y := (nI v3)) (by rw [hv3]; exact fa_and _ _) ?_
  refine lv_istore_n (lv' := [(0, .int (nI v3))]) hx hb dJ6_bitCount_0f7a4_33 rfl hl (by decide) rfl (fun ls hl => ?_)
  refine lv_iload_n hx hb dJ6_bitCount_0f7a4_34 rfl (lv_at hl 0 rfl) ?_
  refine lv_iload_n hx hb dJ6_bitCount_0f7a4_35 rfl (lv_at hl 0 rfl) ?_
  refine lv_bipush (v := (nI 8)) hx hb dJ6_bitCount_0f7a4_36 (by decide) ?_
  refine lv_iushr (v := (nI (v3 / 2 ^ 8))) hx hb dJ6_bitCount_0f7a4_38 (pk_ushrN (by omega) _ 8 (by decide)) ?_
  refine lv_iadd hx hb dJ6_bitCount_0f7a4_39 ?_
  refine r_top (y := (nI v4)) (by rw [hv4]; exact nI_add _ _) ?_
  refine lv_istore_n (lv' := [(0, .int (nI v4))]) hx hb dJ6_bitCount_0f7a4_40 rfl hl (by decide) rfl (fun ls hl => ?_)
  refine lv_iload_n hx hb dJ6_bitCount_0f7a4_41 rfl (lv_at hl 0 rfl) ?_
  refine lv_iload_n hx hb dJ6_bitCount_0f7a4_42 rfl (lv_at hl 0 rfl) ?_
  refine lv_bipush (v := (nI 16)) hx hb dJ6_bitCount_0f7a4_43 (by decide) ?_
  refine lv_iushr (v := (nI (v4 / 2 ^ 16))) hx hb dJ6_bitCount_0f7a4_45 (pk_ushrN (by omega) _ 16 (by decide)) ?_
  refine lv_iadd hx hb dJ6_bitCount_0f7a4_46 ?_
  refine r_top (y := (nI v5)) (by rw [hv5]; exact nI_add _ _) ?_
  refine lv_istore_n (lv' := [(0, .int (nI v5))]) hx hb dJ6_bitCount_0f7a4_47 rfl hl (by decide) rfl (fun ls hl => ?_)
  refine lv_iload_n hx hb dJ6_bitCount_0f7a4_48 rfl (lv_at hl 0 rfl) ?_
  refine lv_bipush (v := (nI 63)) hx hb dJ6_bitCount_0f7a4_49 (by decide) ?_
  refine lv_iand hx hb dJ6_bitCount_0f7a4_51 ?_
  refine r_top (y := (nI (pop k))) (by rw [fa_and, hr]) ?_
  exact hret _ _ _ dJ6_bitCount_0f7a4_52 (rfl)

theorem iqX1_valueAt_X1 : ∀ w ∈ u_ws RX1 TX1 5, w ∈ wsX1_valueAt := by decide +kernel
set_option maxHeartbeats 4000000 in
set_option maxRecDepth 100000 in
theorem c_X1_valueAt (l : Launch) (G : kG) (o a1 a2 a3 a4 : Nat) (σ : Sg) (r c : Nat) (hB : Bd σ) (hr : r < 24) (hc : c < 16) : Met l yX1_valueAt wsX1_valueAt ({ frames := 0, cells := 0, slots := 0, locals := 0 } : Room) (cP G [.ref o, .int (nI r), .int (nI c)] [ob o 1 [.int (nI (nn σ)), .ref a1, .ref a2, .ref a3, .ref a4], ar G a1 24 (fun j => nI ((dd σ) j)), ar G a2 384 (fun j => nI ((vv σ) j)), ar G a3 24 (fun j => e9 ((ff σ) j)), ar G a4 24 (fun j => e9 ((ss σ) j))]) (vp_Si (fun x => x = (nI (vv σ (r * 16 + c))))) 0 0 (fun _ => False) := by
  refine met_ro (cc := cX1_valueAt) (maxL := 3) (ty := .int) (own := RX1) (by decide) rfl rfl (fun _ _ => rfl) (Nat.le_of_ble_eq_true rfl) ?_
  intro p e s m args below meth cod Q hx hb hml hown hts hK hP hD hret ls hl
  have hl : lv_has ls 3 [(0, .ref o), (1, .int (nI r)), (2, .int (nI c))] := hl
  refine lv_aload_n hx hb dX1_valueAt_0 rfl (lv_at hl 0 rfl) ?_
  refine va_get (D := G.1) (ci := 1) (v := .ref a2) (C := RX1) (T := TX1) (N := 5) hx hb hts iqX1_valueAt_X1 hown hK.1 hP 0 rfl rfl 2 (by decide) (hts (.fieldLink RX1 19 "PushedTables$State" "values" "[I") (List.mem_of_getElem? (i := 1) rfl)) (fun _ h9 => h9) rfl dX1_valueAt_1 ?_
  refine lv_iload_n hx hb dX1_valueAt_4 rfl (lv_at hl 1 rfl) ?_
  refine lv_bipush (v := (nI 16)) hx hb dX1_valueAt_5 (by decide) ?_
  refine r_imul (v := r * 16) hx hb dX1_valueAt_7 rfl ?_
  refine lv_iload_n hx hb dX1_valueAt_8 rfl (lv_at hl 2 rfl) ?_
  refine r_iadd (v := (r * 16) + c) hx hb dX1_valueAt_9 rfl ?_
  refine r_iald (e1 := (r * 16) + c) (v := (nI ((vv σ) ((r * 16) + c)))) hx hb hK.1 hP 2 0 rfl rfl (by omega) (by decide) (rfl) dX1_valueAt_10 ?_
  have b10 := Bd.v (σ := σ) (by assumption) ((r * 16) + c)
  exact hret _ _ _ dX1_valueAt_11 (rfl)

theorem iqX1_isEntry_X1 : ∀ w ∈ u_ws RX1 TX1 5, w ∈ wsX1_isEntry := by decide +kernel
set_option maxHeartbeats 4000000 in
set_option maxRecDepth 100000 in
theorem c_X1_isEntry (l : Launch) (G : kG) (o a1 a2 a3 a4 : Nat) (σ : Sg) (r c : Nat) (hB : Bd σ) (hr : r < 24) (hc : c < 16) : Met l yX1_isEntry wsX1_isEntry ({ frames := 1, cells := 0, slots := 0, locals := 22 } : Room) (cP G [.ref o, .int (nI r), .int (nI c)] [ob o 1 [.int (nI (nn σ)), .ref a1, .ref a2, .ref a3, .ref a4], ar G a1 24 (fun j => nI ((dd σ) j)), ar G a2 384 (fun j => nI ((vv σ) j)), ar G a3 24 (fun j => e9 ((ff σ) j)), ar G a4 24 (fun j => e9 ((ss σ) j))]) (vp_Si (fun x => x = (bI (ent σ r c)))) 0 0 (fun _ => False) := by
  refine met_ro (cc := cX1_isEntry) (maxL := 3) (ty := .boolean) (own := RX1) (by decide) rfl rfl (fun _ h => by rw [h]; exact bI_nar _) (Nat.le_of_ble_eq_true rfl) ?_
  intro p e s m args below meth cod Q hx hb hml hown hts hK hP hD hret ls hl
  have hl : lv_has ls 3 [(0, .ref o), (1, .int (nI r)), (2, .int (nI c))] := hl
  refine lv_aload_n hx hb dX1_isEntry_0 rfl (lv_at hl 0 rfl) ?_
  refine lv_iload_n hx hb dX1_isEntry_1 rfl (lv_at hl 1 rfl) ?_
  refine lv_iload_n hx hb dX1_isEntry_2 rfl (lv_at hl 2 rfl) ?_
  refine g_ro (k_V (q0 := 0) (ci := 1) (n := 2) (As := [.int (nI r), .int (nI c)]) (rest := []) (wc := [ob o 1 [.int (nI (nn σ)), .ref a1, .ref a2, .ref a3, .ref a4], ar G a1 24 (fun j => nI ((dd σ) j)), ar G a2 384 (fun j => nI ((vv σ) j)), ar G a3 24 (fun j => e9 ((ff σ) j)), ar G a4 24 (fun j => e9 ((ss σ) j))]) hx hb hml hown hts (c_X1_valueAt (l := l) (G := G) (o := o) (a1 := a1) (a2 := a2) (a3 := a3) (a4 := a4) (σ := σ) (r := r) (c := c) (hB := by first | assumption | omega) (hr := by first | assumption | omega) (hc := by first | assumption | omega))  gX1_isEntry_X1_valueAt rfl rfl rfl (by decide +kernel) ⟨Nat.le_of_ble_eq_true rfl, Nat.le_of_ble_eq_true rfl⟩ rfl hK hP hD [0, 1, 2, 3, 4] rfl (by decide)  rfl rfl rfl hl.1 rfl (Nat.le_of_ble_eq_true rfl) dX1_isEntry_3 ⟨Nat.le_of_ble_eq_true rfl, Nat.le_of_ble_eq_true rfl⟩) (fun r3 h3 => ?_)
  obtain rfl : r3 = (nI (vv σ (r * 16 + c))) := h3
  have b3 := Bd.v (σ := σ) (by assumption) (r * 16 + c)
  refine lv_aload_n hx hb dX1_isEntry_6 rfl (lv_at hl 0 rfl) ?_
  refine va_get (D := G.1) (ci := 1) (v := .ref a1) (C := RX1) (T := TX1) (N := 5) hx hb hts iqX1_isEntry_X1 hown hK.1 hP 0 rfl rfl 1 (by decide) (hts (.fieldLink RX1 15 "PushedTables$State" "defaults" "[I") (List.mem_of_getElem? (i := 1) rfl)) (fun _ h9 => h9) rfl dX1_isEntry_7 ?_
  refine lv_iload_n hx hb dX1_isEntry_10 rfl (lv_at hl 1 rfl) ?_
  refine r_iald (e1 := r) (v := (nI ((dd σ) r))) hx hb hK.1 hP 1 0 rfl rfl (by omega) (by decide) (rfl) dX1_isEntry_11 ?_
  have b11 := Bd.d (σ := σ) (by assumption) r
  refine r_icmp_eq (P := (vv σ (r * 16 + c)) = ((dd σ) r)) (tgt := 19) hx hb dX1_isEntry_12 (by decide) (nI_eq (by omega) (by omega)) (fun c12 => ?_) (fun c12 => ?_)
  · refine lv_iconst (v := (nI 0)) hx hb dX1_isEntry_19 (by decide) ?_
    exact hret _ _ _ dX1_isEntry_20 (bIf (ent_f.mpr c12))
  · refine lv_iconst (v := (nI 1)) hx hb dX1_isEntry_15 (by decide) ?_
    refine lv_goto (tgt := 20) hx hb dX1_isEntry_16 (by decide) ?_
    exact hret _ _ _ dX1_isEntry_20 (bIt (ent_t.mpr c12))

set_option maxHeartbeats 4000000 in
set_option maxRecDepth 100000 in
theorem c_X1_columnsOf (l : Launch) (G : kG) (o a1 a2 a3 a4 : Nat) (σ : Sg) (r : Nat) (hB : Bd σ) (hr : r < 24) : Met l yX1_columnsOf wsX1_columnsOf ({ frames := 2, cells := 0, slots := 0, locals := 44 } : Room) (cP G [.ref o, .int (nI r)] [ob o 1 [.int (nI (nn σ)), .ref a1, .ref a2, .ref a3, .ref a4], ar G a1 24 (fun j => nI ((dd σ) j)), ar G a2 384 (fun j => nI ((vv σ) j)), ar G a3 24 (fun j => e9 ((ff σ) j)), ar G a4 24 (fun j => e9 ((ss σ) j))]) (vp_Si (fun x => x = (nI (cols σ r)))) 0 0 (fun _ => False) := by
  refine met_ro (cc := cX1_columnsOf) (maxL := 4) (ty := .int) (own := RX1) (by decide) rfl rfl (fun _ _ => rfl) (Nat.le_of_ble_eq_true rfl) ?_
  intro p e s m args below meth cod Q hx hb hml hown hts hK hP hD hret ls hl
  have hl : lv_has ls 4 [(0, .ref o), (1, .int (nI r))] := hl
  refine lv_iconst (v := (nI 0)) hx hb dX1_columnsOf_0 (by decide) ?_
  refine lv_istore_n (lv' := [(2, .int (nI 0)), (0, .ref o), (1, .int (nI r))]) hx hb dX1_columnsOf_1 rfl hl (by decide) rfl (fun ls hl => ?_)
  refine lv_iconst (v := (nI 0)) hx hb dX1_columnsOf_2 (by decide) ?_
  refine lv_istore_n (lv' := [(3, .int (nI 0)), (2, .int (nI 0)), (0, .ref o), (1, .int (nI r))]) hx hb dX1_columnsOf_3 rfl hl (by decide) rfl (fun ls hl => ?_)
  have L4 : ∀ (fu : Nat) (k : Nat) (c : Nat), 17 - c < fu → c ≤ 16 → k = msk (ent σ r) c → ∀ (ls : Array Slot), lv_has ls 4 [(0, .ref o), (1, .int (nI r)), (2, .int (nI k)), (3, .int (nI c))] → W p l e ({ frames := 2, cells := 0, slots := 0, locals := 44 } : Room) s m args below meth cod s.heap [] 0 0 Q (F0 m 4 ls []) := by
    intro fu
    induction fu with
    | zero => intro k c hm; exact absurd hm (Nat.not_lt_zero _)
    | succ fu ih4 =>
      intro k c hm4 hc hk ls hl
      refine lv_iload_n hx hb dX1_columnsOf_4 rfl (lv_at hl 3 rfl) ?_
      refine lv_bipush (v := (nI 16)) hx hb dX1_columnsOf_5 (by decide) ?_
      refine r_icmp_ge (P := 16 ≤ c) (tgt := 31) hx hb dX1_columnsOf_7 (by decide) (nI_leI (by omega) (by omega)) (fun c7 => ?_) (fun c7 => ?_)
      · refine lv_iload_n hx hb dX1_columnsOf_31 rfl (lv_at hl 2 rfl) ?_
        exact hret _ _ _ dX1_columnsOf_32 (by have e : c = 16 := (by omega); rw [hk, e]; rfl)
      · refine lv_aload_n hx hb dX1_columnsOf_10 rfl (lv_at hl 0 rfl) ?_
        refine lv_iload_n hx hb dX1_columnsOf_11 rfl (lv_at hl 1 rfl) ?_
        refine lv_iload_n hx hb dX1_columnsOf_12 rfl (lv_at hl 3 rfl) ?_
        refine g_ro (k_V (q0 := 0) (ci := 1) (n := 2) (As := [.int (nI r), .int (nI c)]) (rest := []) (wc := [ob o 1 [.int (nI (nn σ)), .ref a1, .ref a2, .ref a3, .ref a4], ar G a1 24 (fun j => nI ((dd σ) j)), ar G a2 384 (fun j => nI ((vv σ) j)), ar G a3 24 (fun j => e9 ((ff σ) j)), ar G a4 24 (fun j => e9 ((ss σ) j))]) hx hb hml hown hts (c_X1_isEntry (l := l) (G := G) (o := o) (a1 := a1) (a2 := a2) (a3 := a3) (a4 := a4) (σ := σ) (r := r) (c := c) (hB := by first | assumption | omega) (hr := by first | assumption | omega) (hc := by first | assumption | omega))  gX1_columnsOf_X1_isEntry rfl rfl rfl (by decide +kernel) ⟨Nat.le_of_ble_eq_true rfl, Nat.le_of_ble_eq_true rfl⟩ rfl hK hP hD [0, 1, 2, 3, 4] rfl (by decide)  rfl rfl rfl hl.1 rfl (Nat.le_of_ble_eq_true rfl) dX1_columnsOf_13 ⟨Nat.le_of_ble_eq_true rfl, Nat.le_of_ble_eq_true rfl⟩) (fun r13 h13 => ?_)
        obtain rfl : r13 = (bI (ent σ r c)) := h13
        refine r_if_eq (P := (ent σ r c) = false) (tgt := 25) hx hb dX1_columnsOf_16 (by decide) (bI_eq0) (fun c16 => ?_) (fun c16 => ?_)
        · refine r_iinc (v := c + 1) (lv' := [(3, .int (nI (c + 1))), (0, .ref o), (1, .int (nI r)), (2, .int (nI k))]) hx hb dX1_columnsOf_25 hl (k := 3) rfl (nI_1 _) (by decide) rfl (fun ls hl => ?_)
          refine lv_goto (tgt := 4) hx hb dX1_columnsOf_28 (by decide) ?_
          exact ih4 k (c + 1) (by omega) (by omega) (msk_f c16 hk) ls (lv_sub hl [1, 2, 3, 0] rfl)
        · refine lv_iload_n hx hb dX1_columnsOf_19 rfl (lv_at hl 2 rfl) ?_
          refine lv_iconst (v := (nI 1)) hx hb dX1_columnsOf_20 (by decide) ?_
          refine lv_iload_n hx hb dX1_columnsOf_21 rfl (lv_at hl 3 rfl) ?_
          refine lv_ishl hx hb dX1_columnsOf_22 ?_
          refine r_top (y := (nI (2 ^ c))) (r_shl1 (by omega)) ?_
          refine lv_ior hx hb dX1_columnsOf_23 ?_
          refine r_top (y := (nI (k ||| (2 ^ c)))) (fa_or _ _) ?_
          refine lv_istore_n (lv' := [(2, .int (nI (k ||| (2 ^ c)))), (0, .ref o), (1, .int (nI r)), (3, .int (nI c))]) hx hb dX1_columnsOf_24 rfl hl (by decide) rfl (fun ls hl => ?_)
          refine r_iinc (v := c + 1) (lv' := [(3, .int (nI (c + 1))), (2, .int (nI (k ||| (2 ^ c)))), (0, .ref o), (1, .int (nI r))]) hx hb dX1_columnsOf_25 hl (k := 3) rfl (nI_1 _) (by decide) rfl (fun ls hl => ?_)
          refine lv_goto (tgt := 4) hx hb dX1_columnsOf_28 (by decide) ?_
          exact ih4 (k ||| (2 ^ c)) (c + 1) (by omega) (by omega) (msk_t (Bool.of_not_eq_false c16) hk) ls (lv_sub hl [2, 3, 1, 0] rfl)
  exact L4 ((17 - 0) + 1) 0 0 (Nat.lt_succ_self _) (by omega) (rfl) ls (lv_sub hl [2, 3, 1, 0] rfl)

set_option maxHeartbeats 4000000 in
set_option maxRecDepth 100000 in
theorem c_X1_weightOf (l : Launch) (G : kG) (o a1 a2 a3 a4 : Nat) (σ : Sg) (r : Nat) (hB : Bd σ) (hr : r < 24) : Met l yX1_weightOf wsX1_weightOf ({ frames := 3, cells := 0, slots := 0, locals := 67 } : Room) (cP G [.ref o, .int (nI r)] [ob o 1 [.int (nI (nn σ)), .ref a1, .ref a2, .ref a3, .ref a4], ar G a1 24 (fun j => nI ((dd σ) j)), ar G a2 384 (fun j => nI ((vv σ) j)), ar G a3 24 (fun j => e9 ((ff σ) j)), ar G a4 24 (fun j => e9 ((ss σ) j))]) (vp_Si (fun x => x = (nI (wt σ r)))) 0 0 (fun _ => False) := by
  refine met_ro (cc := cX1_weightOf) (maxL := 2) (ty := .int) (own := RX1) (by decide) rfl rfl (fun _ _ => rfl) (Nat.le_of_ble_eq_true rfl) ?_
  intro p e s m args below meth cod Q hx hb hml hown hts hK hP hD hret ls hl
  have hl : lv_has ls 2 [(0, .ref o), (1, .int (nI r))] := hl
  refine lv_aload_n hx hb dX1_weightOf_0 rfl (lv_at hl 0 rfl) ?_
  refine lv_iload_n hx hb dX1_weightOf_1 rfl (lv_at hl 1 rfl) ?_
  refine g_ro (k_V (q0 := 0) (ci := 1) (n := 1) (As := [.int (nI r)]) (rest := []) (wc := [ob o 1 [.int (nI (nn σ)), .ref a1, .ref a2, .ref a3, .ref a4], ar G a1 24 (fun j => nI ((dd σ) j)), ar G a2 384 (fun j => nI ((vv σ) j)), ar G a3 24 (fun j => e9 ((ff σ) j)), ar G a4 24 (fun j => e9 ((ss σ) j))]) hx hb hml hown hts (c_X1_columnsOf (l := l) (G := G) (o := o) (a1 := a1) (a2 := a2) (a3 := a3) (a4 := a4) (σ := σ) (r := r) (hB := by first | assumption | omega) (hr := by first | assumption | omega))  gX1_weightOf_X1_columnsOf rfl rfl rfl (by decide +kernel) ⟨Nat.le_of_ble_eq_true rfl, Nat.le_of_ble_eq_true rfl⟩ rfl hK hP hD [0, 1, 2, 3, 4] rfl (by decide)  rfl rfl rfl hl.1 rfl (Nat.le_of_ble_eq_true rfl) dX1_weightOf_2 ⟨Nat.le_of_ble_eq_true rfl, Nat.le_of_ble_eq_true rfl⟩) (fun r2 h2 => ?_)
  obtain rfl : r2 = (nI (cols σ r)) := h2
  have b2 := cols_lt σ r
  refine g_ro (k_S (n := 1) (As := [.int (nI (cols σ r))]) (rest := []) (wc := []) hx hb hml hown hts (c_J6_bitCount_0f7a4 (l := l) (G := G) (k := cols σ r) (hk := cols_lt σ r))  gX1_weightOf_J6_bitCount_0f7a4 rfl rfl rfl (by decide +kernel) ⟨Nat.le_of_ble_eq_true rfl, Nat.le_of_ble_eq_true rfl⟩ rfl hK hP hD [] rfl (by decide)  hl.1 rfl (Nat.le_of_ble_eq_true rfl) dX1_weightOf_5 ⟨Nat.le_of_ble_eq_true rfl, Nat.le_of_ble_eq_true rfl⟩) (fun r5 h5 => ?_)
  obtain rfl : r5 = (nI (pop (cols σ r))) := h5
  have b5 := pop_le (cols σ r)
  exact hret _ _ _ dX1_weightOf_8 (by rw [pop_cols])

set_option maxHeartbeats 4000000 in
set_option maxRecDepth 100000 in
theorem c_X1_cellsWith (l : Launch) (G : kG) (o a1 a2 a3 a4 : Nat) (σ : Sg) (r v : Nat) (hB : Bd σ) (hr : r < 24) (hv : v < 100) : Met l yX1_cellsWith wsX1_cellsWith ({ frames := 1, cells := 0, slots := 0, locals := 22 } : Room) (cP G [.ref o, .int (nI r), .int (nI v)] [ob o 1 [.int (nI (nn σ)), .ref a1, .ref a2, .ref a3, .ref a4], ar G a1 24 (fun j => nI ((dd σ) j)), ar G a2 384 (fun j => nI ((vv σ) j)), ar G a3 24 (fun j => e9 ((ff σ) j)), ar G a4 24 (fun j => e9 ((ss σ) j))]) (vp_Si (fun x => x = (nI (cw σ r v)))) 0 0 (fun _ => False) := by
  refine met_ro (cc := cX1_cellsWith) (maxL := 5) (ty := .int) (own := RX1) (by decide) rfl rfl (fun _ _ => rfl) (Nat.le_of_ble_eq_true rfl) ?_
  intro p e s m args below meth cod Q hx hb hml hown hts hK hP hD hret ls hl
  have hl : lv_has ls 5 [(0, .ref o), (1, .int (nI r)), (2, .int (nI v))] := hl
  refine lv_iconst (v := (nI 0)) hx hb dX1_cellsWith_0 (by decide) ?_
  refine lv_istore_n (lv' := [(3, .int (nI 0)), (0, .ref o), (1, .int (nI r)), (2, .int (nI v))]) hx hb dX1_cellsWith_1 rfl hl (by decide) rfl (fun ls hl => ?_)
  refine lv_iconst (v := (nI 0)) hx hb dX1_cellsWith_2 (by decide) ?_
  refine lv_istore (lv' := [(4, .int (nI 0)), (3, .int (nI 0)), (0, .ref o), (1, .int (nI r)), (2, .int (nI v))]) hx hb dX1_cellsWith_3 hl (by decide) rfl (fun ls hl => ?_)
  have L5 : ∀ (fu : Nat) (c : Nat) (k : Nat), 16 + 1 - c < fu → c ≤ 16 → k = fb_ct (fun c => decide (vv σ (r * 16 + c) = v)) c → k ≤ c → ∀ (ls : Array Slot), lv_has ls 5 [(0, .ref o), (1, .int (nI r)), (2, .int (nI v)), (3, .int (nI k)), (4, .int (nI c))] → W p l e ({ frames := 1, cells := 0, slots := 0, locals := 22 } : Room) s m args below meth cod s.heap [] 0 0 Q (F0 m 5 ls []) := by
    intro fu
    induction fu with
    | zero => intro c k hm; exact absurd hm (Nat.not_lt_zero _)
    | succ fu ih5 =>
      intro c k hm5 hc hk hkc ls hl
      refine lv_iload hx hb dX1_cellsWith_5 (lv_at hl 4 rfl) ?_
      refine lv_bipush (v := (nI 16)) hx hb dX1_cellsWith_7 (by decide) ?_
      refine r_icmp_ge (P := 16 ≤ c) (tgt := 32) hx hb dX1_cellsWith_9 (by decide) (nI_leI (by omega) (by omega)) (fun c9 => ?_) (fun c9 => ?_)
      · refine lv_iload_n hx hb dX1_cellsWith_32 rfl (lv_at hl 3 rfl) ?_
        exact hret _ _ _ dX1_cellsWith_33 (by have e : c = 16 := (by omega); rw [hk, e]; rfl)
      · refine lv_aload_n hx hb dX1_cellsWith_12 rfl (lv_at hl 0 rfl) ?_
        refine lv_iload_n hx hb dX1_cellsWith_13 rfl (lv_at hl 1 rfl) ?_
        refine lv_iload hx hb dX1_cellsWith_14 (lv_at hl 4 rfl) ?_
        refine g_ro (k_V (q0 := 0) (ci := 1) (n := 2) (As := [.int (nI r), .int (nI c)]) (rest := []) (wc := [ob o 1 [.int (nI (nn σ)), .ref a1, .ref a2, .ref a3, .ref a4], ar G a1 24 (fun j => nI ((dd σ) j)), ar G a2 384 (fun j => nI ((vv σ) j)), ar G a3 24 (fun j => e9 ((ff σ) j)), ar G a4 24 (fun j => e9 ((ss σ) j))]) hx hb hml hown hts (c_X1_valueAt (l := l) (G := G) (o := o) (a1 := a1) (a2 := a2) (a3 := a3) (a4 := a4) (σ := σ) (r := r) (c := c) (hB := by first | assumption | omega) (hr := by first | assumption | omega) (hc := by first | assumption | omega))  gX1_cellsWith_X1_valueAt rfl rfl rfl (by decide +kernel) ⟨Nat.le_of_ble_eq_true rfl, Nat.le_of_ble_eq_true rfl⟩ rfl hK hP hD [0, 1, 2, 3, 4] rfl (by decide)  rfl rfl rfl hl.1 rfl (Nat.le_of_ble_eq_true rfl) dX1_cellsWith_16 ⟨Nat.le_of_ble_eq_true rfl, Nat.le_of_ble_eq_true rfl⟩) (fun r16 h16 => ?_)
        obtain rfl : r16 = (nI (vv σ (r * 16 + c))) := h16
        have b16 := Bd.v (σ := σ) (by assumption) (r * 16 + c)
        refine lv_iload_n hx hb dX1_cellsWith_19 rfl (lv_at hl 2 rfl) ?_
        refine r_icmp_ne (P := (vv σ (r * 16 + c)) = v) (tgt := 26) hx hb dX1_cellsWith_20 (by decide) (nI_eq (by omega) (by omega)) (fun c20 => ?_) (fun c20 => ?_)
        · refine r_iinc (v := c + 1) (lv' := [(4, .int (nI (c + 1))), (0, .ref o), (1, .int (nI r)), (2, .int (nI v)), (3, .int (nI k))]) hx hb dX1_cellsWith_26 hl (k := 4) rfl (nI_1 _) (by decide) rfl (fun ls hl => ?_)
          refine lv_goto (tgt := 5) hx hb dX1_cellsWith_29 (by decide) ?_
          exact ih5 (c + 1) k (by omega) (by omega) (ct_f (decide_eq_false c20) hk) (by omega) ls (lv_sub hl [1, 2, 3, 4, 0] rfl)
        · refine r_iinc (v := k + 1) (lv' := [(3, .int (nI (k + 1))), (0, .ref o), (1, .int (nI r)), (2, .int (nI v)), (4, .int (nI c))]) hx hb dX1_cellsWith_23 hl (k := 3) rfl (nI_1 _) (by decide) rfl (fun ls hl => ?_)
          refine r_iinc (v := c + 1) (lv' := [(4, .int (nI (c + 1))), (3, .int (nI (k + 1))), (0, .ref o), (1, .int (nI r)), (2, .int (nI v))]) hx hb dX1_cellsWith_26 hl (k := 4) rfl (nI_1 _) (by decide) rfl (fun ls hl => ?_)
          refine lv_goto (tgt := 5) hx hb dX1_cellsWith_29 (by decide) ?_
          exact ih5 (c + 1) (k + 1) (by omega) (by omega) (ct_t (decide_eq_true c20) hk) (by omega) ls (lv_sub hl [2, 3, 4, 1, 0] rfl)
  exact L5 ((16 + 1 - 0) + 1) 0 0 (Nat.lt_succ_self _) (by omega) (rfl) (Nat.le_refl _) ls (lv_sub hl [2, 3, 4, 1, 0] rfl)

set_option maxHeartbeats 4000000 in
set_option maxRecDepth 100000 in
theorem c_X1_equalCells (l : Launch) (G : kG) (o a1 a2 a3 a4 : Nat) (σ : Sg) (r t : Nat) (hB : Bd σ) (hr : r < 24) (ht : t < 24) : Met l yX1_equalCells wsX1_equalCells ({ frames := 1, cells := 0, slots := 0, locals := 22 } : Room) (cP G [.ref o, .int (nI r), .int (nI t)] [ob o 1 [.int (nI (nn σ)), .ref a1, .ref a2, .ref a3, .ref a4], ar G a1 24 (fun j => nI ((dd σ) j)), ar G a2 384 (fun j => nI ((vv σ) j)), ar G a3 24 (fun j => e9 ((ff σ) j)), ar G a4 24 (fun j => e9 ((ss σ) j))]) (vp_Si (fun x => x = (nI (eqc σ r t)))) 0 0 (fun _ => False) := by
  refine met_ro (cc := cX1_equalCells) (maxL := 5) (ty := .int) (own := RX1) (by decide) rfl rfl (fun _ _ => rfl) (Nat.le_of_ble_eq_true rfl) ?_
  intro p e s m args below meth cod Q hx hb hml hown hts hK hP hD hret ls hl
  have hl : lv_has ls 5 [(0, .ref o), (1, .int (nI r)), (2, .int (nI t))] := hl
  refine lv_iconst (v := (nI 0)) hx hb dX1_equalCells_0 (by decide) ?_
  refine lv_istore_n (lv' := [(3, .int (nI 0)), (0, .ref o), (1, .int (nI r)), (2, .int (nI t))]) hx hb dX1_equalCells_1 rfl hl (by decide) rfl (fun ls hl => ?_)
  refine lv_iconst (v := (nI 0)) hx hb dX1_equalCells_2 (by decide) ?_
  refine lv_istore (lv' := [(4, .int (nI 0)), (3, .int (nI 0)), (0, .ref o), (1, .int (nI r)), (2, .int (nI t))]) hx hb dX1_equalCells_3 hl (by decide) rfl (fun ls hl => ?_)
  have L5 : ∀ (fu : Nat) (c : Nat) (k : Nat), 16 + 1 - c < fu → c ≤ 16 → k = fb_ct (fun c => decide (vv σ (r * 16 + c) = vv σ (t * 16 + c))) c → k ≤ c → ∀ (ls : Array Slot), lv_has ls 5 [(0, .ref o), (1, .int (nI r)), (2, .int (nI t)), (3, .int (nI k)), (4, .int (nI c))] → W p l e ({ frames := 1, cells := 0, slots := 0, locals := 22 } : Room) s m args below meth cod s.heap [] 0 0 Q (F0 m 5 ls []) := by
    intro fu
    induction fu with
    | zero => intro c k hm; exact absurd hm (Nat.not_lt_zero _)
    | succ fu ih5 =>
      intro c k hm5 hc hk hkc ls hl
      refine lv_iload hx hb dX1_equalCells_5 (lv_at hl 4 rfl) ?_
      refine lv_bipush (v := (nI 16)) hx hb dX1_equalCells_7 (by decide) ?_
      refine r_icmp_ge (P := 16 ≤ c) (tgt := 38) hx hb dX1_equalCells_9 (by decide) (nI_leI (by omega) (by omega)) (fun c9 => ?_) (fun c9 => ?_)
      · refine lv_iload_n hx hb dX1_equalCells_38 rfl (lv_at hl 3 rfl) ?_
        exact hret _ _ _ dX1_equalCells_39 (by have e : c = 16 := (by omega); rw [hk, e]; rfl)
      · refine lv_aload_n hx hb dX1_equalCells_12 rfl (lv_at hl 0 rfl) ?_
        refine lv_iload_n hx hb dX1_equalCells_13 rfl (lv_at hl 1 rfl) ?_
        refine lv_iload hx hb dX1_equalCells_14 (lv_at hl 4 rfl) ?_
        refine g_ro (k_V (q0 := 0) (ci := 1) (n := 2) (As := [.int (nI r), .int (nI c)]) (rest := []) (wc := [ob o 1 [.int (nI (nn σ)), .ref a1, .ref a2, .ref a3, .ref a4], ar G a1 24 (fun j => nI ((dd σ) j)), ar G a2 384 (fun j => nI ((vv σ) j)), ar G a3 24 (fun j => e9 ((ff σ) j)), ar G a4 24 (fun j => e9 ((ss σ) j))]) hx hb hml hown hts (c_X1_valueAt (l := l) (G := G) (o := o) (a1 := a1) (a2 := a2) (a3 := a3) (a4 := a4) (σ := σ) (r := r) (c := c) (hB := by first | assumption | omega) (hr := by first | assumption | omega) (hc := by first | assumption | omega))  gX1_equalCells_X1_valueAt rfl rfl rfl (by decide +kernel) ⟨Nat.le_of_ble_eq_true rfl, Nat.le_of_ble_eq_true rfl⟩ rfl hK hP hD [0, 1, 2, 3, 4] rfl (by decide)  rfl rfl rfl hl.1 rfl (Nat.le_of_ble_eq_true rfl) dX1_equalCells_16 ⟨Nat.le_of_ble_eq_true rfl, Nat.le_of_ble_eq_true rfl⟩) (fun r16 h16 => ?_)
        obtain rfl : r16 = (nI (vv σ (r * 16 + c))) := h16
        have b16 := Bd.v (σ := σ) (by assumption) (r * 16 + c)
        refine lv_aload_n hx hb dX1_equalCells_19 rfl (lv_at hl 0 rfl) ?_
        refine lv_iload_n hx hb dX1_equalCells_20 rfl (lv_at hl 2 rfl) ?_
        refine lv_iload hx hb dX1_equalCells_21 (lv_at hl 4 rfl) ?_
        refine g_ro (k_V (q0 := 0) (ci := 1) (n := 2) (As := [.int (nI t), .int (nI c)]) (rest := [.int (nI (vv σ (r * 16 + c)))]) (wc := [ob o 1 [.int (nI (nn σ)), .ref a1, .ref a2, .ref a3, .ref a4], ar G a1 24 (fun j => nI ((dd σ) j)), ar G a2 384 (fun j => nI ((vv σ) j)), ar G a3 24 (fun j => e9 ((ff σ) j)), ar G a4 24 (fun j => e9 ((ss σ) j))]) hx hb hml hown hts (c_X1_valueAt (l := l) (G := G) (o := o) (a1 := a1) (a2 := a2) (a3 := a3) (a4 := a4) (σ := σ) (r := t) (c := c) (hB := by first | assumption | omega) (hr := by first | assumption | omega) (hc := by first | assumption | omega))  gX1_equalCells_X1_valueAt rfl rfl rfl (by decide +kernel) ⟨Nat.le_of_ble_eq_true rfl, Nat.le_of_ble_eq_true rfl⟩ rfl hK hP hD [0, 1, 2, 3, 4] rfl (by decide)  rfl rfl rfl hl.1 rfl (Nat.le_of_ble_eq_true rfl) dX1_equalCells_23 ⟨Nat.le_of_ble_eq_true rfl, Nat.le_of_ble_eq_true rfl⟩) (fun r23 h23 => ?_)
        obtain rfl : r23 = (nI (vv σ (t * 16 + c))) := h23
        have b23 := Bd.v (σ := σ) (by assumption) (t * 16 + c)
        refine r_icmp_ne (P := (vv σ (r * 16 + c)) = (vv σ (t * 16 + c))) (tgt := 32) hx hb dX1_equalCells_26 (by decide) (nI_eq (by omega) (by omega)) (fun c26 => ?_) (fun c26 => ?_)
        · refine r_iinc (v := c + 1) (lv' := [(4, .int (nI (c + 1))), (0, .ref o), (1, .int (nI r)), (2, .int (nI t)), (3, .int (nI k))]) hx hb dX1_equalCells_32 hl (k := 4) rfl (nI_1 _) (by decide) rfl (fun ls hl => ?_)
          refine lv_goto (tgt := 5) hx hb dX1_equalCells_35 (by decide) ?_
          exact ih5 (c + 1) k (by omega) (by omega) (ct_f (decide_eq_false c26) hk) (by omega) ls (lv_sub hl [1, 2, 3, 4, 0] rfl)
        · refine r_iinc (v := k + 1) (lv' := [(3, .int (nI (k + 1))), (0, .ref o), (1, .int (nI r)), (2, .int (nI t)), (4, .int (nI c))]) hx hb dX1_equalCells_29 hl (k := 3) rfl (nI_1 _) (by decide) rfl (fun ls hl => ?_)
          refine r_iinc (v := c + 1) (lv' := [(4, .int (nI (c + 1))), (3, .int (nI (k + 1))), (0, .ref o), (1, .int (nI r)), (2, .int (nI t))]) hx hb dX1_equalCells_32 hl (k := 4) rfl (nI_1 _) (by decide) rfl (fun ls hl => ?_)
          refine lv_goto (tgt := 5) hx hb dX1_equalCells_35 (by decide) ?_
          exact ih5 (c + 1) (k + 1) (by omega) (by omega) (ct_t (decide_eq_true c26) hk) (by omega) ls (lv_sub hl [2, 3, 4, 1, 0] rfl)
  exact L5 ((16 + 1 - 0) + 1) 0 0 (Nat.lt_succ_self _) (by omega) (rfl) (Nat.le_refl _) ls (lv_sub hl [2, 3, 4, 1, 0] rfl)

theorem iqX1_formCount_X1 : ∀ w ∈ u_ws RX1 TX1 5, w ∈ wsX1_formCount := by decide +kernel
set_option maxHeartbeats 4000000 in
set_option maxRecDepth 100000 in
theorem c_X1_formCount (l : Launch) (G : kG) (o a1 a2 a3 a4 : Nat) (σ : Sg) (hB : Bd σ) : Met l yX1_formCount wsX1_formCount ({ frames := 0, cells := 0, slots := 0, locals := 0 } : Room) (cP G [.ref o] [ob o 1 [.int (nI (nn σ)), .ref a1, .ref a2, .ref a3, .ref a4], ar G a1 24 (fun j => nI ((dd σ) j)), ar G a2 384 (fun j => nI ((vv σ) j)), ar G a3 24 (fun j => e9 ((ff σ) j)), ar G a4 24 (fun j => e9 ((ss σ) j))]) (vp_Si (fun x => x = (nI (fcnt σ)))) 0 0 (fun _ => False) := by
  refine met_ro (cc := cX1_formCount) (maxL := 3) (ty := .int) (own := RX1) (by decide) rfl rfl (fun _ _ => rfl) (Nat.le_of_ble_eq_true rfl) ?_
  intro p e s m args below meth cod Q hx hb hml hown hts hK hP hD hret ls hl
  have hl : lv_has ls 3 [(0, .ref o)] := hl
  refine lv_iconst (v := (nI 0)) hx hb dX1_formCount_0 (by decide) ?_
  refine lv_istore_n (lv' := [(1, .int (nI 0)), (0, .ref o)]) hx hb dX1_formCount_1 rfl hl (by decide) rfl (fun ls hl => ?_)
  refine lv_iconst (v := (nI 0)) hx hb dX1_formCount_2 (by decide) ?_
  refine lv_istore_n (lv' := [(2, .int (nI 0)), (1, .int (nI 0)), (0, .ref o)]) hx hb dX1_formCount_3 rfl hl (by decide) rfl (fun ls hl => ?_)
  have L4 : ∀ (fu : Nat) (c : Nat) (k : Nat), 24 + 1 - c < fu → c ≤ 24 → k = fb_ct (fun f => decide (ss σ f ≠ 1000)) c → k ≤ c → ∀ (ls : Array Slot), lv_has ls 3 [(0, .ref o), (1, .int (nI k)), (2, .int (nI c))] → W p l e ({ frames := 0, cells := 0, slots := 0, locals := 0 } : Room) s m args below meth cod s.heap [] 0 0 Q (F0 m 4 ls []) := by
    intro fu
    induction fu with
    | zero => intro c k hm; exact absurd hm (Nat.not_lt_zero _)
    | succ fu ih4 =>
      intro c k hm4 hc hk hkc ls hl
      refine lv_iload_n hx hb dX1_formCount_4 rfl (lv_at hl 2 rfl) ?_
      refine lv_bipush (v := (nI 24)) hx hb dX1_formCount_5 (by decide) ?_
      refine r_icmp_ge (P := 24 ≤ c) (tgt := 30) hx hb dX1_formCount_7 (by decide) (nI_leI (by omega) (by omega)) (fun c7 => ?_) (fun c7 => ?_)
      · refine lv_iload_n hx hb dX1_formCount_30 rfl (lv_at hl 1 rfl) ?_
        exact hret _ _ _ dX1_formCount_31 (by have e : c = 24 := (by omega); rw [hk, e]; rfl)
      · refine lv_aload_n hx hb dX1_formCount_10 rfl (lv_at hl 0 rfl) ?_
        refine va_get (D := G.1) (ci := 1) (v := .ref a4) (C := RX1) (T := TX1) (N := 5) hx hb hts iqX1_formCount_X1 hown hK.1 hP 0 rfl rfl 4 (by decide) (hts (.fieldLink RX1 25 "PushedTables$State" "shifts" "[I") (List.mem_of_getElem? (i := 1) rfl)) (fun _ h9 => h9) rfl dX1_formCount_11 ?_
        refine lv_iload_n hx hb dX1_formCount_14 rfl (lv_at hl 2 rfl) ?_
        refine r_iald (e1 := c) (v := (e9 ((ss σ) c))) hx hb hK.1 hP 4 0 rfl rfl (by omega) (by decide) (rfl) dX1_formCount_15 ?_
        have b15 := Bd.s (σ := σ) (by assumption) c
        refine lv_bipush (v := (e9 1000)) hx hb dX1_formCount_16 (by decide) ?_
        refine r_icmp_eq (P := ((ss σ) c) = 1000) (tgt := 24) hx hb dX1_formCount_18 (by decide) (e9_inj (by omega) (by omega)) (fun c18 => ?_) (fun c18 => ?_)
        · refine r_iinc (v := c + 1) (lv' := [(2, .int (nI (c + 1))), (0, .ref o), (1, .int (nI k))]) hx hb dX1_formCount_24 hl (k := 2) rfl (nI_1 _) (by decide) rfl (fun ls hl => ?_)
          refine lv_goto (tgt := 4) hx hb dX1_formCount_27 (by decide) ?_
          exact ih4 (c + 1) k (by omega) (by omega) (ct_f (decide_eq_false (fun z => z c18)) hk) (by omega) ls (lv_sub hl [1, 2, 0] rfl)
        · refine r_iinc (v := k + 1) (lv' := [(1, .int (nI (k + 1))), (0, .ref o), (2, .int (nI c))]) hx hb dX1_formCount_21 hl (k := 1) rfl (nI_1 _) (by decide) rfl (fun ls hl => ?_)
          refine r_iinc (v := c + 1) (lv' := [(2, .int (nI (c + 1))), (1, .int (nI (k + 1))), (0, .ref o)]) hx hb dX1_formCount_24 hl (k := 2) rfl (nI_1 _) (by decide) rfl (fun ls hl => ?_)
          refine lv_goto (tgt := 4) hx hb dX1_formCount_27 (by decide) ?_
          exact ih4 (c + 1) (k + 1) (by omega) (by omega) (ct_t (decide_eq_true c18) hk) (by omega) ls (lv_sub hl [2, 1, 0] rfl)
  exact L4 ((24 + 1 - 0) + 1) 0 0 (Nat.lt_succ_self _) (by omega) (rfl) (Nat.le_refl _) ls (lv_sub hl [2, 1, 0] rfl)

theorem iqX1_sharersOf_X1 : ∀ w ∈ u_ws RX1 TX1 5, w ∈ wsX1_sharersOf := by decide +kernel
set_option maxHeartbeats 4000000 in
set_option maxRecDepth 100000 in
theorem c_X1_sharersOf (l : Launch) (G : kG) (o a1 a2 a3 a4 : Nat) (σ : Sg) (f : Nat) (xf : Int32) (hxf : xf = e9 f) (hB : Bd σ) (hf : f < 24 ∨ f = 1000) : Met l yX1_sharersOf wsX1_sharersOf ({ frames := 0, cells := 0, slots := 0, locals := 0 } : Room) (cP G [.ref o, .int xf] [ob o 1 [.int (nI (nn σ)), .ref a1, .ref a2, .ref a3, .ref a4], ar G a1 24 (fun j => nI ((dd σ) j)), ar G a2 384 (fun j => nI ((vv σ) j)), ar G a3 24 (fun j => e9 ((ff σ) j)), ar G a4 24 (fun j => e9 ((ss σ) j))]) (vp_Si (fun x => x = (nI (shr σ f)))) 0 0 (fun _ => False) := by
  subst hxf
  refine met_ro (cc := cX1_sharersOf) (maxL := 4) (ty := .int) (own := RX1) (by decide) rfl rfl (fun _ _ => rfl) (Nat.le_of_ble_eq_true rfl) ?_
  intro p e s m args below meth cod Q hx hb hml hown hts hK hP hD hret ls hl
  have hl : lv_has ls 4 [(0, .ref o), (1, .int (e9 f))] := hl
  have h24 := hB.n
  refine lv_iconst (v := (nI 0)) hx hb dX1_sharersOf_0 (by decide) ?_
  refine lv_istore_n (lv' := [(2, .int (nI 0)), (0, .ref o), (1, .int (e9 f))]) hx hb dX1_sharersOf_1 rfl hl (by decide) rfl (fun ls hl => ?_)
  refine lv_iconst (v := (nI 0)) hx hb dX1_sharersOf_2 (by decide) ?_
  refine lv_istore_n (lv' := [(3, .int (nI 0)), (2, .int (nI 0)), (0, .ref o), (1, .int (e9 f))]) hx hb dX1_sharersOf_3 rfl hl (by decide) rfl (fun ls hl => ?_)
  have L4 : ∀ (fu : Nat) (c : Nat) (k : Nat), nn σ + 1 - c < fu → c ≤ nn σ → k = fb_ct (fun r => decide (ff σ r = f)) c → k ≤ c → ∀ (ls : Array Slot), lv_has ls 4 [(0, .ref o), (1, .int (e9 f)), (2, .int (nI k)), (3, .int (nI c))] → W p l e ({ frames := 0, cells := 0, slots := 0, locals := 0 } : Room) s m args below meth cod s.heap [] 0 0 Q (F0 m 4 ls []) := by
    intro fu
    induction fu with
    | zero => intro c k hm; exact absurd hm (Nat.not_lt_zero _)
    | succ fu ih4 =>
      intro c k hm4 hc hk hkc ls hl
      refine lv_iload_n hx hb dX1_sharersOf_4 rfl (lv_at hl 3 rfl) ?_
      refine lv_aload_n hx hb dX1_sharersOf_5 rfl (lv_at hl 0 rfl) ?_
      refine va_get (D := G.1) (ci := 1) (v := .int (nI (nn σ))) (C := RX1) (T := TX1) (N := 5) hx hb hts iqX1_sharersOf_X1 hown hK.1 hP 0 rfl rfl 0 (by decide) (hts (.fieldLink RX1 9 "PushedTables$State" "rowCount" "I") (List.mem_of_getElem? (i := 1) rfl)) (fun _ h9 => h9) rfl dX1_sharersOf_6 ?_
      refine r_icmp_ge (P := (nn σ) ≤ c) (tgt := 31) hx hb dX1_sharersOf_9 (by decide) (nI_leI (by omega) (by omega)) (fun c9 => ?_) (fun c9 => ?_)
      · refine lv_iload_n hx hb dX1_sharersOf_31 rfl (lv_at hl 2 rfl) ?_
        exact hret _ _ _ dX1_sharersOf_32 (by have e : c = nn σ := (by omega); rw [hk, e]; rfl)
      · refine lv_aload_n hx hb dX1_sharersOf_12 rfl (lv_at hl 0 rfl) ?_
        refine va_get (D := G.1) (ci := 1) (v := .ref a3) (C := RX1) (T := TX1) (N := 5) hx hb hts iqX1_sharersOf_X1 hown hK.1 hP 0 rfl rfl 3 (by decide) (hts (.fieldLink RX1 22 "PushedTables$State" "forms" "[I") (List.mem_of_getElem? (i := 2) rfl)) (fun _ h9 => h9) rfl dX1_sharersOf_13 ?_
        refine lv_iload_n hx hb dX1_sharersOf_16 rfl (lv_at hl 3 rfl) ?_
        refine r_iald (e1 := c) (v := (e9 ((ff σ) c))) hx hb hK.1 hP 3 0 rfl rfl (by omega) (by decide) (rfl) dX1_sharersOf_17 ?_
        have b17 := Bd.f (σ := σ) (by assumption) c
        refine lv_iload_n hx hb dX1_sharersOf_18 rfl (lv_at hl 1 rfl) ?_
        refine r_icmp_ne (P := ((ff σ) c) = f) (tgt := 25) hx hb dX1_sharersOf_19 (by decide) (e9_inj (by omega) (by omega)) (fun c19 => ?_) (fun c19 => ?_)
        · refine r_iinc (v := c + 1) (lv' := [(3, .int (nI (c + 1))), (0, .ref o), (1, .int (e9 f)), (2, .int (nI k))]) hx hb dX1_sharersOf_25 hl (k := 3) rfl (nI_1 _) (by decide) rfl (fun ls hl => ?_)
          refine lv_goto (tgt := 4) hx hb dX1_sharersOf_28 (by decide) ?_
          exact ih4 (c + 1) k (by omega) (by omega) (ct_f (decide_eq_false c19) hk) (by omega) ls (lv_sub hl [1, 2, 3, 0] rfl)
        · refine r_iinc (v := k + 1) (lv' := [(2, .int (nI (k + 1))), (0, .ref o), (1, .int (e9 f)), (3, .int (nI c))]) hx hb dX1_sharersOf_22 hl (k := 2) rfl (nI_1 _) (by decide) rfl (fun ls hl => ?_)
          refine r_iinc (v := c + 1) (lv' := [(3, .int (nI (c + 1))), (2, .int (nI (k + 1))), (0, .ref o), (1, .int (e9 f))]) hx hb dX1_sharersOf_25 hl (k := 3) rfl (nI_1 _) (by decide) rfl (fun ls hl => ?_)
          refine lv_goto (tgt := 4) hx hb dX1_sharersOf_28 (by decide) ?_
          exact ih4 (c + 1) (k + 1) (by omega) (by omega) (ct_t (decide_eq_true c19) hk) (by omega) ls (lv_sub hl [2, 3, 1, 0] rfl)
  exact L4 ((nn σ + 1 - 0) + 1) 0 0 (Nat.lt_succ_self _) (by omega) (rfl) (Nat.le_refl _) ls (lv_sub hl [2, 3, 1, 0] rfl)

theorem iqX1_shiftOf_X1 : ∀ w ∈ u_ws RX1 TX1 5, w ∈ wsX1_shiftOf := by decide +kernel
set_option maxHeartbeats 4000000 in
set_option maxRecDepth 100000 in
theorem c_X1_shiftOf (l : Launch) (G : kG) (o a1 a2 a3 a4 : Nat) (σ : Sg) (f : Nat) (xf : Int32) (hxf : xf = e9 f) (hB : Bd σ) (hf : f < 24 ∨ f = 1000) : Met l yX1_shiftOf wsX1_shiftOf ({ frames := 0, cells := 0, slots := 0, locals := 0 } : Room) (cP G [.ref o, .int xf] [ob o 1 [.int (nI (nn σ)), .ref a1, .ref a2, .ref a3, .ref a4], ar G a1 24 (fun j => nI ((dd σ) j)), ar G a2 384 (fun j => nI ((vv σ) j)), ar G a3 24 (fun j => e9 ((ff σ) j)), ar G a4 24 (fun j => e9 ((ss σ) j))]) (vp_Si (fun x => x = (e9 (shf σ f)))) 0 0 (fun _ => False) := by
  subst hxf
  refine met_ro (cc := cX1_shiftOf) (maxL := 2) (ty := .int) (own := RX1) (by decide) rfl rfl (fun _ _ => rfl) (Nat.le_of_ble_eq_true rfl) ?_
  intro p e s m args below meth cod Q hx hb hml hown hts hK hP hD hret ls hl
  have hl : lv_has ls 2 [(0, .ref o), (1, .int (e9 f))] := hl
  refine lv_iload_n hx hb dX1_shiftOf_0 rfl (lv_at hl 1 rfl) ?_
  refine r_if_lt (P := f = 1000) (tgt := 19) hx hb dX1_shiftOf_1 (by decide) (e9_lt0 (by omega)) (fun c1 => ?_) (fun c1 => ?_)
  · refine lv_bipush (v := (e9 1000)) hx hb dX1_shiftOf_19 (by decide) ?_
    exact hret _ _ _ dX1_shiftOf_21 (by rw [c1]; rfl)
  · refine lv_iload_n hx hb dX1_shiftOf_4 rfl (lv_at hl 1 rfl) ?_
    refine r_top (y := (nI f)) (e9_n (by omega)) ?_
    refine lv_bipush (v := (nI 24)) hx hb dX1_shiftOf_5 (by decide) ?_
    refine r_icmp_ge (P := 24 ≤ f) (tgt := 19) hx hb dX1_shiftOf_7 (by decide) (nI_leI (by omega) (by omega)) (fun c7 => ?_) (fun c7 => ?_)
    · refine lv_bipush (v := (e9 1000)) hx hb dX1_shiftOf_19 (by decide) ?_
      exact hret _ _ _ dX1_shiftOf_21 (by unfold shf; rw [if_neg (by omega)])
    · refine lv_aload_n hx hb dX1_shiftOf_10 rfl (lv_at hl 0 rfl) ?_
      refine va_get (D := G.1) (ci := 1) (v := .ref a4) (C := RX1) (T := TX1) (N := 5) hx hb hts iqX1_shiftOf_X1 hown hK.1 hP 0 rfl rfl 4 (by decide) (hts (.fieldLink RX1 25 "PushedTables$State" "shifts" "[I") (List.mem_of_getElem? (i := 1) rfl)) (fun _ h9 => h9) rfl dX1_shiftOf_11 ?_
      refine lv_iload_n hx hb dX1_shiftOf_14 rfl (lv_at hl 1 rfl) ?_
      refine r_top (y := (nI f)) (e9_n (by omega)) ?_
      refine r_iald (e1 := f) (v := (e9 ((ss σ) f))) hx hb hK.1 hP 4 0 rfl rfl (by omega) (by decide) (rfl) dX1_shiftOf_15 ?_
      have b15 := Bd.s (σ := σ) (by assumption) f
      refine lv_goto (tgt := 21) hx hb dX1_shiftOf_16 (by decide) ?_
      exact hret _ _ _ dX1_shiftOf_21 (by unfold shf; rw [if_pos (by omega)])

theorem iqX1_freeForm_X1 : ∀ w ∈ u_ws RX1 TX1 5, w ∈ wsX1_freeForm := by decide +kernel
set_option maxHeartbeats 4000000 in
set_option maxRecDepth 100000 in
theorem c_X1_freeForm (l : Launch) (G : kG) (o a1 a2 a3 a4 : Nat) (σ : Sg) (hB : Bd σ) : Met l yX1_freeForm wsX1_freeForm ({ frames := 0, cells := 0, slots := 0, locals := 0 } : Room) (cP G [.ref o] [ob o 1 [.int (nI (nn σ)), .ref a1, .ref a2, .ref a3, .ref a4], ar G a1 24 (fun j => nI ((dd σ) j)), ar G a2 384 (fun j => nI ((vv σ) j)), ar G a3 24 (fun j => e9 ((ff σ) j)), ar G a4 24 (fun j => e9 ((ss σ) j))]) (vp_Si (fun x => x = (e9 (frf σ)))) 0 0 (fun _ => False) := by
  refine met_ro (cc := cX1_freeForm) (maxL := 2) (ty := .int) (own := RX1) (by decide) rfl rfl (fun _ _ => rfl) (Nat.le_of_ble_eq_true rfl) ?_
  intro p e s m args below meth cod Q hx hb hml hown hts hK hP hD hret ls hl
  have hl : lv_has ls 2 [(0, .ref o)] := hl
  refine lv_iconst (v := (nI 0)) hx hb dX1_freeForm_0 (by decide) ?_
  refine lv_istore_n (lv' := [(1, .int (nI 0)), (0, .ref o)]) hx hb dX1_freeForm_1 rfl hl (by decide) rfl (fun ls hl => ?_)
  have L2 : ∀ (fu : Nat) (f : Nat), 25 - f < fu → f ≤ 24 → (∀ j, j < f → decide (ss σ j = 1000) = false) → ∀ (ls : Array Slot), lv_has ls 2 [(0, .ref o), (1, .int (nI f))] → W p l e ({ frames := 0, cells := 0, slots := 0, locals := 0 } : Room) s m args below meth cod s.heap [] 0 0 Q (F0 m 2 ls []) := by
    intro fu
    induction fu with
    | zero => intro f hm; exact absurd hm (Nat.not_lt_zero _)
    | succ fu ih2 =>
      intro f hm2 hf hn ls hl
      refine lv_iload_n hx hb dX1_freeForm_2 rfl (lv_at hl 1 rfl) ?_
      refine lv_bipush (v := (nI 24)) hx hb dX1_freeForm_3 (by decide) ?_
      refine r_icmp_ge (P := 24 ≤ f) (tgt := 27) hx hb dX1_freeForm_5 (by decide) (nI_leI (by omega) (by omega)) (fun c5 => ?_) (fun c5 => ?_)
      · refine lv_bipush (v := (e9 1000)) hx hb dX1_freeForm_27 (by decide) ?_
        exact hret _ _ _ dX1_freeForm_29 (by unfold frf; rw [fst?_none (fun k hk => hn k (by omega))])
      · refine lv_aload_n hx hb dX1_freeForm_8 rfl (lv_at hl 0 rfl) ?_
        refine va_get (D := G.1) (ci := 1) (v := .ref a4) (C := RX1) (T := TX1) (N := 5) hx hb hts iqX1_freeForm_X1 hown hK.1 hP 0 rfl rfl 4 (by decide) (hts (.fieldLink RX1 25 "PushedTables$State" "shifts" "[I") (List.mem_of_getElem? (i := 1) rfl)) (fun _ h9 => h9) rfl dX1_freeForm_9 ?_
        refine lv_iload_n hx hb dX1_freeForm_12 rfl (lv_at hl 1 rfl) ?_
        refine r_iald (e1 := f) (v := (e9 ((ss σ) f))) hx hb hK.1 hP 4 0 rfl rfl (by omega) (by decide) (rfl) dX1_freeForm_13 ?_
        have b13 := Bd.s (σ := σ) (by assumption) f
        refine lv_bipush (v := (e9 1000)) hx hb dX1_freeForm_14 (by decide) ?_
        refine r_icmp_ne (P := ((ss σ) f) = 1000) (tgt := 21) hx hb dX1_freeForm_16 (by decide) (e9_inj (by omega) (by omega)) (fun c16 => ?_) (fun c16 => ?_)
        · refine r_iinc (v := f + 1) (lv' := [(1, .int (nI (f + 1))), (0, .ref o)]) hx hb dX1_freeForm_21 hl (k := 1) rfl (nI_1 _) (by decide) rfl (fun ls hl => ?_)
          refine lv_goto (tgt := 2) hx hb dX1_freeForm_24 (by decide) ?_
          exact ih2 (f + 1) (by omega) (by omega) (lt_s hn (decide_eq_false c16)) ls (lv_sub hl [1, 0] rfl)
        · refine lv_iload_n hx hb dX1_freeForm_19 rfl (lv_at hl 1 rfl) ?_
          exact hret _ _ _ dX1_freeForm_20 (by unfold frf; rw [fst?_some (k := f) (by omega) (decide_eq_true c16) hn]; exact (e9_n (by omega)).symm)
  exact L2 ((25 - 0) + 1) 0 (Nat.lt_succ_self _) (by omega) (fun j hj => absurd hj (Nat.not_lt_zero j)) ls (lv_sub hl [1, 0] rfl)

theorem iqX1_weightSum_X1 : ∀ w ∈ u_ws RX1 TX1 5, w ∈ wsX1_weightSum := by decide +kernel
set_option maxHeartbeats 4000000 in
set_option maxRecDepth 100000 in
theorem c_X1_weightSum (l : Launch) (G : kG) (o a1 a2 a3 a4 : Nat) (σ : Sg) (hB : Bd σ) : Met l yX1_weightSum wsX1_weightSum ({ frames := 4, cells := 0, slots := 0, locals := 88 } : Room) (cP G [.ref o] [ob o 1 [.int (nI (nn σ)), .ref a1, .ref a2, .ref a3, .ref a4], ar G a1 24 (fun j => nI ((dd σ) j)), ar G a2 384 (fun j => nI ((vv σ) j)), ar G a3 24 (fun j => e9 ((ff σ) j)), ar G a4 24 (fun j => e9 ((ss σ) j))]) (vp_Si (fun x => x = (nI (wsum σ (nn σ))))) 0 0 (fun _ => False) := by
  refine met_ro (cc := cX1_weightSum) (maxL := 3) (ty := .int) (own := RX1) (by decide) rfl rfl (fun _ _ => rfl) (Nat.le_of_ble_eq_true rfl) ?_
  intro p e s m args below meth cod Q hx hb hml hown hts hK hP hD hret ls hl
  have hl : lv_has ls 3 [(0, .ref o)] := hl
  have h24 := hB.n
  refine lv_iconst (v := (nI 0)) hx hb dX1_weightSum_0 (by decide) ?_
  refine lv_istore_n (lv' := [(1, .int (nI 0)), (0, .ref o)]) hx hb dX1_weightSum_1 rfl hl (by decide) rfl (fun ls hl => ?_)
  refine lv_iconst (v := (nI 0)) hx hb dX1_weightSum_2 (by decide) ?_
  refine lv_istore_n (lv' := [(2, .int (nI 0)), (1, .int (nI 0)), (0, .ref o)]) hx hb dX1_weightSum_3 rfl hl (by decide) rfl (fun ls hl => ?_)
  have L4 : ∀ (fu : Nat) (k : Nat) (r : Nat), nn σ + 1 - r < fu → r ≤ nn σ → k = wsum σ r → k ≤ r * 16 → ∀ (ls : Array Slot), lv_has ls 3 [(0, .ref o), (1, .int (nI k)), (2, .int (nI r))] → W p l e ({ frames := 4, cells := 0, slots := 0, locals := 88 } : Room) s m args below meth cod s.heap [] 0 0 Q (F0 m 4 ls []) := by
    intro fu
    induction fu with
    | zero => intro k r hm; exact absurd hm (Nat.not_lt_zero _)
    | succ fu ih4 =>
      intro k r hm4 hr hk hk2 ls hl
      refine lv_iload_n hx hb dX1_weightSum_4 rfl (lv_at hl 2 rfl) ?_
      refine lv_aload_n hx hb dX1_weightSum_5 rfl (lv_at hl 0 rfl) ?_
      refine va_get (D := G.1) (ci := 1) (v := .int (nI (nn σ))) (C := RX1) (T := TX1) (N := 5) hx hb hts iqX1_weightSum_X1 hown hK.1 hP 0 rfl rfl 0 (by decide) (hts (.fieldLink RX1 9 "PushedTables$State" "rowCount" "I") (List.mem_of_getElem? (i := 1) rfl)) (fun _ h9 => h9) rfl dX1_weightSum_6 ?_
      refine r_icmp_ge (P := (nn σ) ≤ r) (tgt := 26) hx hb dX1_weightSum_9 (by decide) (nI_leI (by omega) (by omega)) (fun c9 => ?_) (fun c9 => ?_)
      · refine lv_iload_n hx hb dX1_weightSum_26 rfl (lv_at hl 1 rfl) ?_
        exact hret _ _ _ dX1_weightSum_27 (by have e : r = nn σ := (by omega); rw [hk, e])
      · refine lv_iload_n hx hb dX1_weightSum_12 rfl (lv_at hl 1 rfl) ?_
        refine lv_aload_n hx hb dX1_weightSum_13 rfl (lv_at hl 0 rfl) ?_
        refine lv_iload_n hx hb dX1_weightSum_14 rfl (lv_at hl 2 rfl) ?_
        refine g_ro (k_V (q0 := 0) (ci := 1) (n := 1) (As := [.int (nI r)]) (rest := [.int (nI k)]) (wc := [ob o 1 [.int (nI (nn σ)), .ref a1, .ref a2, .ref a3, .ref a4], ar G a1 24 (fun j => nI ((dd σ) j)), ar G a2 384 (fun j => nI ((vv σ) j)), ar G a3 24 (fun j => e9 ((ff σ) j)), ar G a4 24 (fun j => e9 ((ss σ) j))]) hx hb hml hown hts (c_X1_weightOf (l := l) (G := G) (o := o) (a1 := a1) (a2 := a2) (a3 := a3) (a4 := a4) (σ := σ) (r := r) (hB := by first | assumption | omega) (hr := by first | assumption | omega))  gX1_weightSum_X1_weightOf rfl rfl rfl (by decide +kernel) ⟨Nat.le_of_ble_eq_true rfl, Nat.le_of_ble_eq_true rfl⟩ rfl hK hP hD [0, 1, 2, 3, 4] rfl (by decide)  rfl rfl rfl hl.1 rfl (Nat.le_of_ble_eq_true rfl) dX1_weightSum_15 ⟨Nat.le_of_ble_eq_true rfl, Nat.le_of_ble_eq_true rfl⟩) (fun r15 h15 => ?_)
        obtain rfl : r15 = (nI (wt σ r)) := h15
        have b15 := wt_le σ r
        refine r_iadd (v := k + (wt σ r)) hx hb dX1_weightSum_18 rfl ?_
        refine lv_istore_n (lv' := [(1, .int (nI (k + (wt σ r)))), (0, .ref o), (2, .int (nI r))]) hx hb dX1_weightSum_19 rfl hl (by decide) rfl (fun ls hl => ?_)
        refine r_iinc (v := r + 1) (lv' := [(2, .int (nI (r + 1))), (1, .int (nI (k + (wt σ r)))), (0, .ref o)]) hx hb dX1_weightSum_20 hl (k := 2) rfl (nI_1 _) (by decide) rfl (fun ls hl => ?_)
        refine lv_goto (tgt := 4) hx hb dX1_weightSum_23 (by decide) ?_
        exact ih4 (k + (wt σ r)) (r + 1) (by omega) (by omega) (by rw [hk]; rfl) (by omega) ls (lv_sub hl [2, 1, 0] rfl)
  exact L4 ((nn σ + 1 - 0) + 1) 0 0 (Nat.lt_succ_self _) (by omega) (rfl) (by omega) ls (lv_sub hl [2, 1, 0] rfl)

theorem cw_pos {σ : Sg} {r v : Nat} : 0 < cw σ r v ↔ ∃ c, c < 16 ∧ vv σ (r * 16 + c) = v := by
  unfold cw; rw [fb_ct_pos]
  exact ⟨fun ⟨c, h1, h2⟩ => ⟨c, h1, of_decide_eq_true h2⟩, fun ⟨c, h1, h2⟩ => ⟨c, h1, decide_eq_true h2⟩⟩
theorem mv_end {σ : Sg} {r b k c : Nat} (hc : 16 ≤ c) (hb : b < 100) (hk : k = cw σ r b) (hx : ∃ c, c < 16 ∧ vv σ (r * 16 + c) = b) (hm : ∀ j, j < c → cw σ r (vv σ (r * 16 + j)) < k ∨ (cw σ r (vv σ (r * 16 + j)) = k ∧ b ≤ vv σ (r * 16 + j))) : nI b = nI (mv σ r) := by
  have key : ∀ u, cw σ r u < cw σ r b ∨ (cw σ r u = cw σ r b ∧ b ≤ u) ∨ cw σ r u = 0 := by
    intro u
    rcases Nat.eq_zero_or_pos (cw σ r u) with q | q
    · exact Or.inr (Or.inr q)
    · obtain ⟨j, h1, h2⟩ := cw_pos.mp q
      have := hm j (by omega)
      rw [h2, hk] at this
      rcases this with h | h
      · exact Or.inl h
      · exact Or.inr (Or.inl h)
  have h0 : 0 < cw σ r b := cw_pos.mpr hx
  rw [(mv_of hb h0 (fun u _ => by have := key u; omega) (fun u hu => by have := key u; omega)).1]
set_option maxHeartbeats 4000000 in
set_option maxRecDepth 100000 in
theorem c_X1_commonestValue (l : Launch) (G : kG) (o a1 a2 a3 a4 : Nat) (σ : Sg) (r : Nat) (hB : Bd σ) (hr : r < 24) : Met l yX1_commonestValue wsX1_commonestValue ({ frames := 2, cells := 0, slots := 0, locals := 46 } : Room) (cP G [.ref o, .int (nI r)] [ob o 1 [.int (nI (nn σ)), .ref a1, .ref a2, .ref a3, .ref a4], ar G a1 24 (fun j => nI ((dd σ) j)), ar G a2 384 (fun j => nI ((vv σ) j)), ar G a3 24 (fun j => e9 ((ff σ) j)), ar G a4 24 (fun j => e9 ((ss σ) j))]) (vp_Si (fun x => x = (nI (mv σ r)))) 0 0 (fun _ => False) := by
  refine met_ro (cc := cX1_commonestValue) (maxL := 7) (ty := .int) (own := RX1) (by decide) rfl rfl (fun _ _ => rfl) (Nat.le_of_ble_eq_true rfl) ?_
  intro p e s m args below meth cod Q hx hb hml hown hts hK hP hD hret ls hl
  have hl : lv_has ls 7 [(0, .ref o), (1, .int (nI r))] := hl
  refine lv_aload_n hx hb dX1_commonestValue_0 rfl (lv_at hl 0 rfl) ?_
  refine lv_iload_n hx hb dX1_commonestValue_1 rfl (lv_at hl 1 rfl) ?_
  refine lv_iconst (v := (nI 0)) hx hb dX1_commonestValue_2 (by decide) ?_
  refine g_ro (k_V (q0 := 0) (ci := 1) (n := 2) (As := [.int (nI r), .int (nI 0)]) (rest := []) (wc := [ob o 1 [.int (nI (nn σ)), .ref a1, .ref a2, .ref a3, .ref a4], ar G a1 24 (fun j => nI ((dd σ) j)), ar G a2 384 (fun j => nI ((vv σ) j)), ar G a3 24 (fun j => e9 ((ff σ) j)), ar G a4 24 (fun j => e9 ((ss σ) j))]) hx hb hml hown hts (c_X1_valueAt (l := l) (G := G) (o := o) (a1 := a1) (a2 := a2) (a3 := a3) (a4 := a4) (σ := σ) (r := r) (c := 0) (hB := by first | assumption | omega) (hr := by first | assumption | omega) (hc := by first | assumption | omega))  gX1_commonestValue_X1_valueAt rfl rfl rfl (by decide +kernel) ⟨Nat.le_of_ble_eq_true rfl, Nat.le_of_ble_eq_true rfl⟩ rfl hK hP hD [0, 1, 2, 3, 4] rfl (by decide)  rfl rfl rfl hl.1 rfl (Nat.le_of_ble_eq_true rfl) dX1_commonestValue_3 ⟨Nat.le_of_ble_eq_true rfl, Nat.le_of_ble_eq_true rfl⟩) (fun r3 h3 => ?_)
  obtain rfl : r3 = (nI (vv σ (r * 16 + 0))) := h3
  have b3 := Bd.v (σ := σ) (by assumption) (r * 16 + 0)
  refine lv_istore_n (lv' := [(2, .int (nI (vv σ (r * 16 + 0)))), (0, .ref o), (1, .int (nI r))]) hx hb dX1_commonestValue_6 rfl hl (by decide) rfl (fun ls hl => ?_)
  refine lv_aload_n hx hb dX1_commonestValue_7 rfl (lv_at hl 1 rfl) ?_
  refine lv_iload_n hx hb dX1_commonestValue_8 rfl (lv_at hl 2 rfl) ?_
  refine lv_iload_n hx hb dX1_commonestValue_9 rfl (lv_at hl 0 rfl) ?_
  refine g_ro (k_V (q0 := 0) (ci := 1) (n := 2) (As := [.int (nI r), .int (nI (vv σ (r * 16 + 0)))]) (rest := []) (wc := [ob o 1 [.int (nI (nn σ)), .ref a1, .ref a2, .ref a3, .ref a4], ar G a1 24 (fun j => nI ((dd σ) j)), ar G a2 384 (fun j => nI ((vv σ) j)), ar G a3 24 (fun j => e9 ((ff σ) j)), ar G a4 24 (fun j => e9 ((ss σ) j))]) hx hb hml hown hts (c_X1_cellsWith (l := l) (G := G) (o := o) (a1 := a1) (a2 := a2) (a3 := a3) (a4 := a4) (σ := σ) (r := r) (v := vv σ (r * 16 + 0)) (hB := by first | assumption | omega) (hr := by first | assumption | omega) (hv := by first | assumption | omega))  gX1_commonestValue_X1_cellsWith rfl rfl rfl (by decide +kernel) ⟨Nat.le_of_ble_eq_true rfl, Nat.le_of_ble_eq_true rfl⟩ rfl hK hP hD [0, 1, 2, 3, 4] rfl (by decide)  rfl rfl rfl hl.1 rfl (Nat.le_of_ble_eq_true rfl) dX1_commonestValue_10 ⟨Nat.le_of_ble_eq_true rfl, Nat.le_of_ble_eq_true rfl⟩) (fun r10 h10 => ?_)
  obtain rfl : r10 = (nI (cw σ r (vv σ (r * 16 + 0)))) := h10
  have b10 := cw_le σ r (vv σ (r * 16 + 0))
  refine lv_istore_n (lv' := [(3, .int (nI (cw σ r (vv σ (r * 16 + 0))))), (2, .int (nI (vv σ (r * 16 + 0)))), (0, .ref o), (1, .int (nI r))]) hx hb dX1_commonestValue_13 rfl hl (by decide) rfl (fun ls hl => ?_)
  refine lv_iconst (v := (nI 1)) hx hb dX1_commonestValue_14 (by decide) ?_
  refine lv_istore (lv' := [(4, .int (nI 1)), (3, .int (nI (cw σ r (vv σ (r * 16 + 0))))), (2, .int (nI (vv σ (r * 16 + 0)))), (0, .ref o), (1, .int (nI r))]) hx hb dX1_commonestValue_15 hl (by decide) rfl (fun ls hl => ?_)
  have L17 : ∀ (fu : Nat) (b : Nat) (k : Nat) (c : Nat), 17 - c < fu → c ≤ 16 → b < 100 → k = cw σ r b → k ≤ 16 → (∃ c, c < 16 ∧ vv σ (r * 16 + c) = b) → (∀ j, j < c → cw σ r (vv σ (r * 16 + j)) < k ∨ (cw σ r (vv σ (r * 16 + j)) = k ∧ b ≤ vv σ (r * 16 + j))) → ∀ (ls : Array Slot), lv_has ls 7 [(0, .ref o), (1, .int (nI r)), (2, .int (nI b)), (3, .int (nI k)), (4, .int (nI c))] → W p l e ({ frames := 2, cells := 0, slots := 0, locals := 46 } : Room) s m args below meth cod s.heap [] 0 0 Q (F0 m 17 ls []) := by
    intro fu
    induction fu with
    | zero => intro b k c hm; exact absurd hm (Nat.not_lt_zero _)
    | succ fu ih17 =>
      intro b k c hm17 hc hbb hk hk2 hex hm ls hl
      refine lv_iload hx hb dX1_commonestValue_17 (lv_at hl 4 rfl) ?_
      refine lv_bipush (v := (nI 16)) hx hb dX1_commonestValue_19 (by decide) ?_
      refine r_icmp_ge (P := 16 ≤ c) (tgt := 72) hx hb dX1_commonestValue_21 (by decide) (nI_leI (by omega) (by omega)) (fun c21 => ?_) (fun c21 => ?_)
      · refine lv_iload_n hx hb dX1_commonestValue_72 rfl (lv_at hl 2 rfl) ?_
        exact hret _ _ _ dX1_commonestValue_73 (mv_end (by omega) hbb hk hex hm)
      · refine lv_aload_n hx hb dX1_commonestValue_24 rfl (lv_at hl 0 rfl) ?_
        refine lv_iload_n hx hb dX1_commonestValue_25 rfl (lv_at hl 1 rfl) ?_
        refine lv_iload hx hb dX1_commonestValue_26 (lv_at hl 4 rfl) ?_
        refine g_ro (k_V (q0 := 0) (ci := 1) (n := 2) (As := [.int (nI r), .int (nI c)]) (rest := []) (wc := [ob o 1 [.int (nI (nn σ)), .ref a1, .ref a2, .ref a3, .ref a4], ar G a1 24 (fun j => nI ((dd σ) j)), ar G a2 384 (fun j => nI ((vv σ) j)), ar G a3 24 (fun j => e9 ((ff σ) j)), ar G a4 24 (fun j => e9 ((ss σ) j))]) hx hb hml hown hts (c_X1_valueAt (l := l) (G := G) (o := o) (a1 := a1) (a2 := a2) (a3 := a3) (a4 := a4) (σ := σ) (r := r) (c := c) (hB := by first | assumption | omega) (hr := by first | assumption | omega) (hc := by first | assumption | omega))  gX1_commonestValue_X1_valueAt rfl rfl rfl (by decide +kernel) ⟨Nat.le_of_ble_eq_true rfl, Nat.le_of_ble_eq_true rfl⟩ rfl hK hP hD [0, 1, 2, 3, 4] rfl (by decide)  rfl rfl rfl hl.1 rfl (Nat.le_of_ble_eq_true rfl) dX1_commonestValue_28 ⟨Nat.le_of_ble_eq_true rfl, Nat.le_of_ble_eq_true rfl⟩) (fun r28 h28 => ?_)
        obtain rfl : r28 = (nI (vv σ (r * 16 + c))) := h28
        have b28 := Bd.v (σ := σ) (by assumption) (r * 16 + c)
        refine lv_istore (lv' := [(5, .int (nI (vv σ (r * 16 + c)))), (0, .ref o), (1, .int (nI r)), (2, .int (nI b)), (3, .int (nI k)), (4, .int (nI c))]) hx hb dX1_commonestValue_31 hl (by decide) rfl (fun ls hl => ?_)
        refine lv_aload_n hx hb dX1_commonestValue_33 rfl (lv_at hl 1 rfl) ?_
        refine lv_iload_n hx hb dX1_commonestValue_34 rfl (lv_at hl 2 rfl) ?_
        refine lv_iload hx hb dX1_commonestValue_35 (lv_at hl 0 rfl) ?_
        refine g_ro (k_V (q0 := 0) (ci := 1) (n := 2) (As := [.int (nI r), .int (nI (vv σ (r * 16 + c)))]) (rest := []) (wc := [ob o 1 [.int (nI (nn σ)), .ref a1, .ref a2, .ref a3, .ref a4], ar G a1 24 (fun j => nI ((dd σ) j)), ar G a2 384 (fun j => nI ((vv σ) j)), ar G a3 24 (fun j => e9 ((ff σ) j)), ar G a4 24 (fun j => e9 ((ss σ) j))]) hx hb hml hown hts (c_X1_cellsWith (l := l) (G := G) (o := o) (a1 := a1) (a2 := a2) (a3 := a3) (a4 := a4) (σ := σ) (r := r) (v := vv σ (r * 16 + c)) (hB := by first | assumption | omega) (hr := by first | assumption | omega) (hv := by first | assumption | omega))  gX1_commonestValue_X1_cellsWith rfl rfl rfl (by decide +kernel) ⟨Nat.le_of_ble_eq_true rfl, Nat.le_of_ble_eq_true rfl⟩ rfl hK hP hD [0, 1, 2, 3, 4] rfl (by decide)  rfl rfl rfl hl.1 rfl (Nat.le_of_ble_eq_true rfl) dX1_commonestValue_37 ⟨Nat.le_of_ble_eq_true rfl, Nat.le_of_ble_eq_true rfl⟩) (fun r37 h37 => ?_)
        obtain rfl : r37 = (nI (cw σ r (vv σ (r * 16 + c)))) := h37
        have b37 := cw_le σ r (vv σ (r * 16 + c))
        refine lv_istore (lv' := [(6, .int (nI (cw σ r (vv σ (r * 16 + c))))), (5, .int (nI (vv σ (r * 16 + c)))), (0, .ref o), (1, .int (nI r)), (2, .int (nI b)), (3, .int (nI k)), (4, .int (nI c))]) hx hb dX1_commonestValue_40 hl (by decide) rfl (fun ls hl => ?_)
        refine lv_iload hx hb dX1_commonestValue_42 (lv_at hl 0 rfl) ?_
        refine lv_iload_n hx hb dX1_commonestValue_44 rfl (lv_at hl 5 rfl) ?_
        refine r_icmp_gt (P := k < (cw σ r (vv σ (r * 16 + c)))) (tgt := 60) hx hb dX1_commonestValue_45 (by decide) (nI_ltI (by omega) (by omega)) (fun c45 => ?_) (fun c45 => ?_)
        · refine lv_iload hx hb dX1_commonestValue_60 (lv_at hl 1 rfl) ?_
          refine lv_istore_n (lv' := [(2, .int (nI (vv σ (r * 16 + c)))), (6, .int (nI (cw σ r (vv σ (r * 16 + c))))), (5, .int (nI (vv σ (r * 16 + c)))), (0, .ref o), (1, .int (nI r)), (3, .int (nI k)), (4, .int (nI c))]) hx hb dX1_commonestValue_62 rfl hl (by decide) rfl (fun ls hl => ?_)
          refine lv_iload hx hb dX1_commonestValue_63 (lv_at hl 1 rfl) ?_
          refine lv_istore_n (lv' := [(3, .int (nI (cw σ r (vv σ (r * 16 + c))))), (2, .int (nI (vv σ (r * 16 + c)))), (6, .int (nI (cw σ r (vv σ (r * 16 + c))))), (5, .int (nI (vv σ (r * 16 + c)))), (0, .ref o), (1, .int (nI r)), (4, .int (nI c))]) hx hb dX1_commonestValue_65 rfl hl (by decide) rfl (fun ls hl => ?_)
          refine r_iinc (v := c + 1) (lv' := [(4, .int (nI (c + 1))), (3, .int (nI (cw σ r (vv σ (r * 16 + c))))), (2, .int (nI (vv σ (r * 16 + c)))), (6, .int (nI (cw σ r (vv σ (r * 16 + c))))), (5, .int (nI (vv σ (r * 16 + c)))), (0, .ref o), (1, .int (nI r))]) hx hb dX1_commonestValue_66 hl (k := 6) rfl (nI_1 _) (by decide) rfl (fun ls hl => ?_)
          refine lv_goto (tgt := 17) hx hb dX1_commonestValue_69 (by decide) ?_
          exact ih17 (vv σ (r * 16 + c)) (cw σ r (vv σ (r * 16 + c))) (c + 1) (by omega) (by omega) (by omega) (rfl) (cw_le _ _ _) (⟨c, by omega, rfl⟩) (lt_s (fun j hj => by have := hm j hj; omega) (Or.inr ⟨rfl, Nat.le_refl _⟩)) ls (lv_sub hl [5, 6, 2, 1, 0] rfl)
        · refine lv_iload hx hb dX1_commonestValue_48 (lv_at hl 0 rfl) ?_
          refine lv_iload_n hx hb dX1_commonestValue_50 rfl (lv_at hl 5 rfl) ?_
          refine r_icmp_ne (P := (cw σ r (vv σ (r * 16 + c))) = k) (tgt := 66) hx hb dX1_commonestValue_51 (by decide) (nI_eq (by omega) (by omega)) (fun c51 => ?_) (fun c51 => ?_)
          · refine r_iinc (v := c + 1) (lv' := [(4, .int (nI (c + 1))), (6, .int (nI (cw σ r (vv σ (r * 16 + c))))), (5, .int (nI (vv σ (r * 16 + c)))), (0, .ref o), (1, .int (nI r)), (2, .int (nI b)), (3, .int (nI k))]) hx hb dX1_commonestValue_66 hl (k := 6) rfl (nI_1 _) (by decide) rfl (fun ls hl => ?_)
            refine lv_goto (tgt := 17) hx hb dX1_commonestValue_69 (by decide) ?_
            exact ih17 b k (c + 1) (by omega) (by omega) (by omega) (hk) (hk2) (hex) (lt_s hm (by omega)) ls (lv_sub hl [3, 4, 5, 6, 0] rfl)
          · refine lv_iload hx hb dX1_commonestValue_54 (lv_at hl 1 rfl) ?_
            refine lv_iload_n hx hb dX1_commonestValue_56 rfl (lv_at hl 4 rfl) ?_
            refine r_icmp_ge (P := b ≤ (vv σ (r * 16 + c))) (tgt := 66) hx hb dX1_commonestValue_57 (by decide) (nI_leI (by omega) (by omega)) (fun c57 => ?_) (fun c57 => ?_)
            · refine r_iinc (v := c + 1) (lv' := [(4, .int (nI (c + 1))), (6, .int (nI (cw σ r (vv σ (r * 16 + c))))), (5, .int (nI (vv σ (r * 16 + c)))), (0, .ref o), (1, .int (nI r)), (2, .int (nI b)), (3, .int (nI k))]) hx hb dX1_commonestValue_66 hl (k := 6) rfl (nI_1 _) (by decide) rfl (fun ls hl => ?_)
              refine lv_goto (tgt := 17) hx hb dX1_commonestValue_69 (by decide) ?_
              exact ih17 b k (c + 1) (by omega) (by omega) (by omega) (hk) (hk2) (hex) (lt_s hm (by omega)) ls (lv_sub hl [3, 4, 5, 6, 0] rfl)
            · refine lv_iload hx hb dX1_commonestValue_60 (lv_at hl 1 rfl) ?_
              refine lv_istore_n (lv' := [(2, .int (nI (vv σ (r * 16 + c)))), (6, .int (nI (cw σ r (vv σ (r * 16 + c))))), (5, .int (nI (vv σ (r * 16 + c)))), (0, .ref o), (1, .int (nI r)), (3, .int (nI k)), (4, .int (nI c))]) hx hb dX1_commonestValue_62 rfl hl (by decide) rfl (fun ls hl => ?_)
              refine lv_iload hx hb dX1_commonestValue_63 (lv_at hl 1 rfl) ?_
              refine lv_istore_n (lv' := [(3, .int (nI (cw σ r (vv σ (r * 16 + c))))), (2, .int (nI (vv σ (r * 16 + c)))), (6, .int (nI (cw σ r (vv σ (r * 16 + c))))), (5, .int (nI (vv σ (r * 16 + c)))), (0, .ref o), (1, .int (nI r)), (4, .int (nI c))]) hx hb dX1_commonestValue_65 rfl hl (by decide) rfl (fun ls hl => ?_)
              refine r_iinc (v := c + 1) (lv' := [(4, .int (nI (c + 1))), (3, .int (nI (cw σ r (vv σ (r * 16 + c))))), (2, .int (nI (vv σ (r * 16 + c)))), (6, .int (nI (cw σ r (vv σ (r * 16 + c))))), (5, .int (nI (vv σ (r * 16 + c)))), (0, .ref o), (1, .int (nI r))]) hx hb dX1_commonestValue_66 hl (k := 6) rfl (nI_1 _) (by decide) rfl (fun ls hl => ?_)
              refine lv_goto (tgt := 17) hx hb dX1_commonestValue_69 (by decide) ?_
              exact ih17 (vv σ (r * 16 + c)) (cw σ r (vv σ (r * 16 + c))) (c + 1) (by omega) (by omega) (by omega) (rfl) (cw_le _ _ _) (⟨c, by omega, rfl⟩) (lt_s (fun j hj => by have := hm j hj; omega) (Or.inr ⟨rfl, Nat.le_refl _⟩)) ls (lv_sub hl [5, 6, 2, 1, 0] rfl)
  exact L17 ((17 - 1) + 1) (vv σ (r * 16 + 0)) (cw σ r (vv σ (r * 16 + 0))) 1 (Nat.lt_succ_self _) (by omega) (by omega) (rfl) (cw_le _ _ _) (⟨0, by omega, rfl⟩) (lt_s lt_0 (Or.inr ⟨rfl, Nat.le_refl _⟩)) ls (lv_sub hl [3, 4, 2, 1, 0] rfl)

theorem mv_cw {σ : Sg} (h : Bd σ) (r : Nat) : cw σ r (dd σ r) ≤ cw σ r (mv σ r) := by
  obtain ⟨a, b⟩ := mvB_ok (cw σ r) 100
  have h1 := a _ (h.d r)
  rcases b with ⟨b1, b2⟩ | ⟨b1, b2, -⟩
  · omega
  · have : cw σ r (mv σ r) = (mvB (cw σ r) 100).2 := b2
    omega
theorem wt_cw (σ : Sg) (r : Nat) : wt σ r + cw σ r (dd σ r) = 16 := by
  have h := fb_ct_not (ent σ r) 16
  have e : fb_ct (fun k => !ent σ r k) 16 = cw σ r (dd σ r) := fb_ct_cong (fun c _ => by unfold ent; by_cases q : vv σ (r * 16 + c) = dd σ r <;> simp [q])
  unfold wt; omega
def slmB (σ : Sg) (r : Nat) : Nat := cw σ r (mv σ r) - cw σ r (dd σ r)
theorem slmB_le (σ : Sg) (r : Nat) : slmB σ r ≤ 16 := by
  have := cw_le σ r (mv σ r)
  unfold slmB; omega
set_option maxHeartbeats 4000000 in
set_option maxRecDepth 100000 in
theorem c_X1_slimmerBy (l : Launch) (G : kG) (o a1 a2 a3 a4 : Nat) (σ : Sg) (r : Nat) (hB : Bd σ) (hr : r < 24) : Met l yX1_slimmerBy wsX1_slimmerBy ({ frames := 4, cells := 0, slots := 0, locals := 88 } : Room) (cP G [.ref o, .int (nI r)] [ob o 1 [.int (nI (nn σ)), .ref a1, .ref a2, .ref a3, .ref a4], ar G a1 24 (fun j => nI ((dd σ) j)), ar G a2 384 (fun j => nI ((vv σ) j)), ar G a3 24 (fun j => e9 ((ff σ) j)), ar G a4 24 (fun j => e9 ((ss σ) j))]) (vp_Si (fun x => x = (nI (slmB σ r)))) 0 0 (fun _ => False) := by
  refine met_ro (cc := cX1_slimmerBy) (maxL := 3) (ty := .int) (own := RX1) (by decide) rfl rfl (fun _ _ => rfl) (Nat.le_of_ble_eq_true rfl) ?_
  intro p e s m args below meth cod Q hx hb hml hown hts hK hP hD hret ls hl
  have hl : lv_has ls 3 [(0, .ref o), (1, .int (nI r))] := hl
  have w1 := wt_cw σ r
  have w2 := mv_cw hB r
  have w3 := cw_le σ r (mv σ r)
  refine lv_bipush (v := (nI 16)) hx hb dX1_slimmerBy_0 (by decide) ?_
  refine lv_aload_n hx hb dX1_slimmerBy_2 rfl (lv_at hl 0 rfl) ?_
  refine lv_iload_n hx hb dX1_slimmerBy_3 rfl (lv_at hl 1 rfl) ?_
  refine lv_aload_n hx hb dX1_slimmerBy_4 rfl (lv_at hl 0 rfl) ?_
  refine lv_iload_n hx hb dX1_slimmerBy_5 rfl (lv_at hl 1 rfl) ?_
  refine g_ro (k_V (q0 := 0) (ci := 1) (n := 1) (As := [.int (nI r)]) (rest := [.int (nI r), .ref o, .int (nI 16)]) (wc := [ob o 1 [.int (nI (nn σ)), .ref a1, .ref a2, .ref a3, .ref a4], ar G a1 24 (fun j => nI ((dd σ) j)), ar G a2 384 (fun j => nI ((vv σ) j)), ar G a3 24 (fun j => e9 ((ff σ) j)), ar G a4 24 (fun j => e9 ((ss σ) j))]) hx hb hml hown hts (c_X1_commonestValue (l := l) (G := G) (o := o) (a1 := a1) (a2 := a2) (a3 := a3) (a4 := a4) (σ := σ) (r := r) (hB := by first | assumption | omega) (hr := by first | assumption | omega))  gX1_slimmerBy_X1_commonestValue rfl rfl rfl (by decide +kernel) ⟨Nat.le_of_ble_eq_true rfl, Nat.le_of_ble_eq_true rfl⟩ rfl hK hP hD [0, 1, 2, 3, 4] rfl (by decide)  rfl rfl rfl hl.1 rfl (Nat.le_of_ble_eq_true rfl) dX1_slimmerBy_6 ⟨Nat.le_of_ble_eq_true rfl, Nat.le_of_ble_eq_true rfl⟩) (fun r6 h6 => ?_)
  obtain rfl : r6 = (nI (mv σ r)) := h6
  have b6 := mv_lt σ r
  refine g_ro (k_V (q0 := 0) (ci := 1) (n := 2) (As := [.int (nI r), .int (nI (mv σ r))]) (rest := [.int (nI 16)]) (wc := [ob o 1 [.int (nI (nn σ)), .ref a1, .ref a2, .ref a3, .ref a4], ar G a1 24 (fun j => nI ((dd σ) j)), ar G a2 384 (fun j => nI ((vv σ) j)), ar G a3 24 (fun j => e9 ((ff σ) j)), ar G a4 24 (fun j => e9 ((ss σ) j))]) hx hb hml hown hts (c_X1_cellsWith (l := l) (G := G) (o := o) (a1 := a1) (a2 := a2) (a3 := a3) (a4 := a4) (σ := σ) (r := r) (v := mv σ r) (hB := by first | assumption | omega) (hr := by first | assumption | omega) (hv := by first | assumption | omega))  gX1_slimmerBy_X1_cellsWith rfl rfl rfl (by decide +kernel) ⟨Nat.le_of_ble_eq_true rfl, Nat.le_of_ble_eq_true rfl⟩ rfl hK hP hD [0, 1, 2, 3, 4] rfl (by decide)  rfl rfl rfl hl.1 rfl (Nat.le_of_ble_eq_true rfl) dX1_slimmerBy_9 ⟨Nat.le_of_ble_eq_true rfl, Nat.le_of_ble_eq_true rfl⟩) (fun r9 h9 => ?_)
  obtain rfl : r9 = (nI (cw σ r (mv σ r))) := h9
  have b9 := cw_le σ r (mv σ r)
  refine r_isub (v := 16 - (cw σ r (mv σ r))) hx hb dX1_slimmerBy_12 (by omega) rfl ?_
  refine lv_istore_n (lv' := [(2, .int (nI (16 - (cw σ r (mv σ r))))), (0, .ref o), (1, .int (nI r))]) hx hb dX1_slimmerBy_13 rfl hl (by decide) rfl (fun ls hl => ?_)
  refine lv_aload_n hx hb dX1_slimmerBy_14 rfl (lv_at hl 1 rfl) ?_
  refine lv_iload_n hx hb dX1_slimmerBy_15 rfl (lv_at hl 2 rfl) ?_
  refine g_ro (k_V (q0 := 0) (ci := 1) (n := 1) (As := [.int (nI r)]) (rest := []) (wc := [ob o 1 [.int (nI (nn σ)), .ref a1, .ref a2, .ref a3, .ref a4], ar G a1 24 (fun j => nI ((dd σ) j)), ar G a2 384 (fun j => nI ((vv σ) j)), ar G a3 24 (fun j => e9 ((ff σ) j)), ar G a4 24 (fun j => e9 ((ss σ) j))]) hx hb hml hown hts (c_X1_weightOf (l := l) (G := G) (o := o) (a1 := a1) (a2 := a2) (a3 := a3) (a4 := a4) (σ := σ) (r := r) (hB := by first | assumption | omega) (hr := by first | assumption | omega))  gX1_slimmerBy_X1_weightOf rfl rfl rfl (by decide +kernel) ⟨Nat.le_of_ble_eq_true rfl, Nat.le_of_ble_eq_true rfl⟩ rfl hK hP hD [0, 1, 2, 3, 4] rfl (by decide)  rfl rfl rfl hl.1 rfl (Nat.le_of_ble_eq_true rfl) dX1_slimmerBy_16 ⟨Nat.le_of_ble_eq_true rfl, Nat.le_of_ble_eq_true rfl⟩) (fun r16 h16 => ?_)
  obtain rfl : r16 = (nI (wt σ r)) := h16
  have b16 := wt_le σ r
  refine lv_iload_n hx hb dX1_slimmerBy_19 rfl (lv_at hl 0 rfl) ?_
  refine r_isub (v := (wt σ r) - (16 - (cw σ r (mv σ r)))) hx hb dX1_slimmerBy_20 (by omega) rfl ?_
  exact hret _ _ _ dX1_slimmerBy_21 (by congr 1; unfold slmB; omega)

theorem iqX1_mostLike_X1 : ∀ w ∈ u_ws RX1 TX1 5, w ∈ wsX1_mostLike := by decide +kernel
set_option maxHeartbeats 4000000 in
set_option maxRecDepth 100000 in
theorem c_X1_mostLike (l : Launch) (G : kG) (o a1 a2 a3 a4 : Nat) (σ : Sg) (r : Nat) (hB : Bd σ) (hr : r < 24) : Met l yX1_mostLike wsX1_mostLike ({ frames := 2, cells := 0, slots := 0, locals := 46 } : Room) (cP G [.ref o, .int (nI r)] [ob o 1 [.int (nI (nn σ)), .ref a1, .ref a2, .ref a3, .ref a4], ar G a1 24 (fun j => nI ((dd σ) j)), ar G a2 384 (fun j => nI ((vv σ) j)), ar G a3 24 (fun j => e9 ((ff σ) j)), ar G a4 24 (fun j => e9 ((ss σ) j))]) (vp_Si (fun x => x = (e9 ((lkB (eqc σ r) r (nn σ)).1)))) 0 0 (fun _ => False) := by
  refine met_ro (cc := cX1_mostLike) (maxL := 6) (ty := .int) (own := RX1) (by decide) rfl rfl (fun _ _ => rfl) (Nat.le_of_ble_eq_true rfl) ?_
  intro p e s m args below meth cod Q hx hb hml hown hts hK hP hD hret ls hl
  have hl : lv_has ls 6 [(0, .ref o), (1, .int (nI r))] := hl
  have h24 := hB.n
  refine lv_bipush (v := (e9 1000)) hx hb dX1_mostLike_0 (by decide) ?_
  refine lv_istore_n (lv' := [(2, .int (e9 1000)), (0, .ref o), (1, .int (nI r))]) hx hb dX1_mostLike_2 rfl hl (by decide) rfl (fun ls hl => ?_)
  refine lv_iconst (v := (e1 1000)) hx hb dX1_mostLike_3 (by decide) ?_
  refine lv_istore_n (lv' := [(3, .int (e1 1000)), (2, .int (e9 1000)), (0, .ref o), (1, .int (nI r))]) hx hb dX1_mostLike_4 rfl hl (by decide) rfl (fun ls hl => ?_)
  refine lv_iconst (v := (nI 0)) hx hb dX1_mostLike_5 (by decide) ?_
  refine lv_istore (lv' := [(4, .int (nI 0)), (3, .int (e1 1000)), (2, .int (e9 1000)), (0, .ref o), (1, .int (nI r))]) hx hb dX1_mostLike_6 hl (by decide) rfl (fun ls hl => ?_)
  have L8 : ∀ (fu : Nat) (b : Nat) (m2 : Nat) (k : Nat), nn σ + 1 - k < fu → k ≤ nn σ → (b, m2) = lkB (eqc σ r) r k → m2 ≤ 16 ∨ m2 = 1000 → ∀ (ls : Array Slot), lv_has ls 6 [(0, .ref o), (1, .int (nI r)), (2, .int (e9 b)), (3, .int (e1 m2)), (4, .int (nI k))] → W p l e ({ frames := 2, cells := 0, slots := 0, locals := 46 } : Room) s m args below meth cod s.heap [] 0 0 Q (F0 m 8 ls []) := by
    intro fu
    induction fu with
    | zero => intro b m2 k hm; exact absurd hm (Nat.not_lt_zero _)
    | succ fu ih8 =>
      intro b m2 k hm8 hk hm hm2 ls hl
      refine lv_iload hx hb dX1_mostLike_8 (lv_at hl 4 rfl) ?_
      refine lv_aload_n hx hb dX1_mostLike_10 rfl (lv_at hl 0 rfl) ?_
      refine va_get (D := G.1) (ci := 1) (v := .int (nI (nn σ))) (C := RX1) (T := TX1) (N := 5) hx hb hts iqX1_mostLike_X1 hown hK.1 hP 0 rfl rfl 0 (by decide) (hts (.fieldLink RX1 9 "PushedTables$State" "rowCount" "I") (List.mem_of_getElem? (i := 1) rfl)) (fun _ h9 => h9) rfl dX1_mostLike_11 ?_
      refine r_icmp_ge (P := (nn σ) ≤ k) (tgt := 50) hx hb dX1_mostLike_14 (by decide) (nI_leI (by omega) (by omega)) (fun c14 => ?_) (fun c14 => ?_)
      · refine lv_iload_n hx hb dX1_mostLike_50 rfl (lv_at hl 2 rfl) ?_
        exact hret _ _ _ dX1_mostLike_51 (by have e : k = nn σ := (by omega); rw [← e, ← hm])
      · refine lv_aload_n hx hb dX1_mostLike_17 rfl (lv_at hl 0 rfl) ?_
        refine lv_iload_n hx hb dX1_mostLike_18 rfl (lv_at hl 1 rfl) ?_
        refine lv_iload hx hb dX1_mostLike_19 (lv_at hl 4 rfl) ?_
        refine g_ro (k_V (q0 := 0) (ci := 1) (n := 2) (As := [.int (nI r), .int (nI k)]) (rest := []) (wc := [ob o 1 [.int (nI (nn σ)), .ref a1, .ref a2, .ref a3, .ref a4], ar G a1 24 (fun j => nI ((dd σ) j)), ar G a2 384 (fun j => nI ((vv σ) j)), ar G a3 24 (fun j => e9 ((ff σ) j)), ar G a4 24 (fun j => e9 ((ss σ) j))]) hx hb hml hown hts (c_X1_equalCells (l := l) (G := G) (o := o) (a1 := a1) (a2 := a2) (a3 := a3) (a4 := a4) (σ := σ) (r := r) (t := k) (hB := by first | assumption | omega) (hr := by first | assumption | omega) (ht := by first | assumption | omega))  gX1_mostLike_X1_equalCells rfl rfl rfl (by decide +kernel) ⟨Nat.le_of_ble_eq_true rfl, Nat.le_of_ble_eq_true rfl⟩ rfl hK hP hD [0, 1, 2, 3, 4] rfl (by decide)  rfl rfl rfl hl.1 rfl (Nat.le_of_ble_eq_true rfl) dX1_mostLike_21 ⟨Nat.le_of_ble_eq_true rfl, Nat.le_of_ble_eq_true rfl⟩) (fun r21 h21 => ?_)
        obtain rfl : r21 = (nI (eqc σ r k)) := h21
        have b21 := eqc_le σ r k
        refine lv_istore (lv' := [(5, .int (nI (eqc σ r k))), (0, .ref o), (1, .int (nI r)), (2, .int (e9 b)), (3, .int (e1 m2)), (4, .int (nI k))]) hx hb dX1_mostLike_24 hl (by decide) rfl (fun ls hl => ?_)
        refine lv_iload hx hb dX1_mostLike_26 (lv_at hl 5 rfl) ?_
        refine lv_iload_n hx hb dX1_mostLike_28 rfl (lv_at hl 2 rfl) ?_
        refine r_icmp_eq (P := k = r) (tgt := 44) hx hb dX1_mostLike_29 (by decide) (nI_eq (by omega) (by omega)) (fun c29 => ?_) (fun c29 => ?_)
        · refine r_iinc (v := k + 1) (lv' := [(4, .int (nI (k + 1))), (5, .int (nI (eqc σ r k))), (0, .ref o), (1, .int (nI r)), (2, .int (e9 b)), (3, .int (e1 m2))]) hx hb dX1_mostLike_44 hl (k := 5) rfl (nI_1 _) (by decide) rfl (fun ls hl => ?_)
          refine lv_goto (tgt := 8) hx hb dX1_mostLike_47 (by decide) ?_
          exact ih8 b m2 (k + 1) (by omega) (by omega) (by rw [lkB_succ, if_neg (fun z => z.1 c29)]; exact hm) (hm2) ls (lv_sub hl [2, 3, 4, 5, 0] rfl)
        · refine lv_iload hx hb dX1_mostLike_32 (lv_at hl 0 rfl) ?_
          refine lv_iload_n hx hb dX1_mostLike_34 rfl (lv_at hl 4 rfl) ?_
          refine r_icmp_le (P := ¬ (m2 = 1000 ∨ m2 < eqc σ r k)) (tgt := 44) hx hb dX1_mostLike_35 (by decide) (e1_ltn (by omega) (by omega)) (fun c35 => ?_) (fun c35 => ?_)
          · refine r_iinc (v := k + 1) (lv' := [(4, .int (nI (k + 1))), (5, .int (nI (eqc σ r k))), (0, .ref o), (1, .int (nI r)), (2, .int (e9 b)), (3, .int (e1 m2))]) hx hb dX1_mostLike_44 hl (k := 5) rfl (nI_1 _) (by decide) rfl (fun ls hl => ?_)
            refine lv_goto (tgt := 8) hx hb dX1_mostLike_47 (by decide) ?_
            exact ih8 b m2 (k + 1) (by omega) (by omega) (by rw [lkB_succ, ← hm, if_neg (fun z => c35 z.2)]) (hm2) ls (lv_sub hl [2, 3, 4, 5, 0] rfl)
          · refine lv_iload hx hb dX1_mostLike_38 (lv_at hl 5 rfl) ?_
            refine r_top (y := (e9 k)) ((e9_n (by omega)).symm) ?_
            refine lv_istore_n (lv' := [(2, .int (e9 k)), (5, .int (nI (eqc σ r k))), (0, .ref o), (1, .int (nI r)), (3, .int (e1 m2)), (4, .int (nI k))]) hx hb dX1_mostLike_40 rfl hl (by decide) rfl (fun ls hl => ?_)
            refine lv_iload hx hb dX1_mostLike_41 (lv_at hl 1 rfl) ?_
            refine r_top (y := (e1 (eqc σ r k))) ((e1_n (by omega)).symm) ?_
            refine lv_istore_n (lv' := [(3, .int (e1 (eqc σ r k))), (2, .int (e9 k)), (5, .int (nI (eqc σ r k))), (0, .ref o), (1, .int (nI r)), (4, .int (nI k))]) hx hb dX1_mostLike_43 rfl hl (by decide) rfl (fun ls hl => ?_)
            refine r_iinc (v := k + 1) (lv' := [(4, .int (nI (k + 1))), (3, .int (e1 (eqc σ r k))), (2, .int (e9 k)), (5, .int (nI (eqc σ r k))), (0, .ref o), (1, .int (nI r))]) hx hb dX1_mostLike_44 hl (k := 5) rfl (nI_1 _) (by decide) rfl (fun ls hl => ?_)
            refine lv_goto (tgt := 8) hx hb dX1_mostLike_47 (by decide) ?_
            exact ih8 k (eqc σ r k) (k + 1) (by omega) (by omega) (by rw [lkB_succ, ← hm, if_pos ⟨c29, Classical.not_not.mp c35⟩]) (Or.inl b21) ls (lv_sub hl [4, 5, 2, 1, 0] rfl)
  exact L8 ((nn σ + 1 - 0) + 1) 1000 1000 0 (Nat.lt_succ_self _) (by omega) (rfl) (Or.inr rfl) ls (lv_sub hl [3, 4, 2, 1, 0] rfl)
end
section
theorem iqX1_forgetForms_X1 : ∀ w ∈ u_ws RX1 TX1 5, w ∈ wsX1_forgetForms := by decide +kernel
set_option maxHeartbeats 4000000 in
set_option maxRecDepth 100000 in
theorem c_X1_forgetForms (l : Launch) (G : kG) (o a1 a2 a3 a4 : Nat) (σ : Sg) : Met l yX1_forgetForms wsX1_forgetForms ({ frames := 1, cells := 0, slots := 0, locals := 23 } : Room) (cP G [.ref o] [ob o 1 [.int (nI (nn σ)), .ref a1, .ref a2, .ref a3, .ref a4], ar G a1 24 (fun j => nI ((dd σ) j)), ar G a2 384 (fun j => nI ((vv σ) j)), ar G a3 24 (fun j => e9 ((ff σ) j)), ar G a4 24 (fun j => e9 ((ss σ) j))]) (qV (fun H => va_P G.1 vwCl [ob o 1 [.int (nI (nn σ)), .ref a1, .ref a2, .ref a3, .ref a4], ar G a1 24 (fun j => nI ((dd σ) j)), ar G a2 384 (fun j => nI ((vv σ) j)), ar G a3 24 (fun j => e9 ((fun _ => 1000) j)), ar G a4 24 (fun j => e9 ((fun _ => 1000) j))] H) (mA [ob o 1 [.int (nI (nn σ)), .ref a1, .ref a2, .ref a3, .ref a4], ar G a1 24 (fun j => nI ((dd σ) j)), ar G a2 384 (fun j => nI ((vv σ) j)), ar G a3 24 (fun j => e9 ((ff σ) j)), ar G a4 24 (fun j => e9 ((ss σ) j))])) 0 0 (mA [ob o 1 [.int (nI (nn σ)), .ref a1, .ref a2, .ref a3, .ref a4], ar G a1 24 (fun j => nI ((dd σ) j)), ar G a2 384 (fun j => nI ((vv σ) j)), ar G a3 24 (fun j => e9 ((ff σ) j)), ar G a4 24 (fun j => e9 ((ss σ) j))]) := by
  refine met_muV (cc := cX1_forgetForms) (maxL := 1) (own := RX1) (by decide) rfl rfl (Nat.le_of_ble_eq_true rfl) ?_
  intro p e s m args below meth cod Q A hx hb hml hown hts hK hP hD hS hret ls hl
  have hl : lv_has ls 1 [(0, .ref o)] := hl
  refine lv_aload_n hx hb dX1_forgetForms_0 rfl (lv_at hl 0 rfl) ?_
  refine va_get (D := G.1) (ci := 1) (v := .ref a3) (C := RX1) (T := TX1) (N := 5) hx hb hts iqX1_forgetForms_X1 hown hK.1 hP 0 rfl rfl 3 (by decide) (hts (.fieldLink RX1 22 "PushedTables$State" "forms" "[I") (List.mem_of_getElem? (i := 1) rfl)) (fun _ h9 => h9) rfl dX1_forgetForms_1 ?_
  refine lv_bipush (v := (e9 1000)) hx hb dX1_forgetForms_4 (by decide) ?_
  refine g_V (k_S (n := 2) (As := [.ref a3, .int (e9 1000)]) (rest := []) (wc := [ar G a3 24 (fun j => e9 ((ff σ) j))]) hx hb hml hown hts (c_J7_fill_53178 (l := l) (G := G) (a := a3) (N := 24) (f := (fun j => e9 ((ff σ) j))) (v := e9 1000) (hN := by decide))  gX1_forgetForms_J7_fill_53178 rfl rfl rfl (by decide +kernel) ⟨Nat.le_of_ble_eq_true rfl, Nat.le_of_ble_eq_true rfl⟩ rfl hK hP hD [3] rfl (by decide)  hl.1 rfl (Nat.le_of_ble_eq_true rfl) dX1_forgetForms_6 ⟨Nat.le_of_ble_eq_true rfl, Nat.le_of_ble_eq_true rfl⟩) hP hD hS [3] rfl (fun H locs hB6 back hS => ?_)
  have hP1 := hB6
  obtain ⟨hP, hD⟩ := back [ar G a3 24 (fun _ => (e9 1000))] rfl hP1
  have hP : va_P G.1 vwCl [ob o 1 [.int (nI (nn σ)), .ref a1, .ref a2, .ref a3, .ref a4], ar G a1 24 (fun j => nI ((dd σ) j)), ar G a2 384 (fun j => nI ((vv σ) j)), ar G a3 24 (fun _ => (e9 1000)), ar G a4 24 (fun j => e9 ((ss σ) j))] H := hP
  have hD : va_D A [ob o 1 [.int (nI (nn σ)), .ref a1, .ref a2, .ref a3, .ref a4], ar G a1 24 (fun j => nI ((dd σ) j)), ar G a2 384 (fun j => nI ((vv σ) j)), ar G a3 24 (fun _ => (e9 1000)), ar G a4 24 (fun j => e9 ((ss σ) j))] := hD
  have hP : va_P G.1 vwCl [ob o 1 [.int (nI (nn σ)), .ref a1, .ref a2, .ref a3, .ref a4], ar G a1 24 (fun j => nI ((dd σ) j)), ar G a2 384 (fun j => nI ((vv σ) j)), ar G a3 24 (fun j => e9 ((fun _ => 1000) j)), ar G a4 24 (fun j => e9 ((ss σ) j))] H := hP
  have hD : va_D A [ob o 1 [.int (nI (nn σ)), .ref a1, .ref a2, .ref a3, .ref a4], ar G a1 24 (fun j => nI ((dd σ) j)), ar G a2 384 (fun j => nI ((vv σ) j)), ar G a3 24 (fun j => e9 ((fun _ => 1000) j)), ar G a4 24 (fun j => e9 ((ss σ) j))] := hD
  refine lv_aload_n hx hb dX1_forgetForms_9 rfl (lv_at hl 0 rfl) ?_
  refine va_get (D := G.1) (ci := 1) (v := .ref a4) (C := RX1) (T := TX1) (N := 5) hx hb hts iqX1_forgetForms_X1 hown hK.1 hP 0 rfl rfl 4 (by decide) (hts (.fieldLink RX1 25 "PushedTables$State" "shifts" "[I") (List.mem_of_getElem? (i := 2) rfl)) (fun _ h9 => h9) rfl dX1_forgetForms_10 ?_
  refine lv_bipush (v := (e9 1000)) hx hb dX1_forgetForms_13 (by decide) ?_
  refine g_V (k_S (n := 2) (As := [.ref a4, .int (e9 1000)]) (rest := []) (wc := [ar G a4 24 (fun j => e9 ((ss σ) j))]) hx hb hml hown hts (c_J7_fill_53178 (l := l) (G := G) (a := a4) (N := 24) (f := (fun j => e9 ((ss σ) j))) (v := e9 1000) (hN := by decide))  gX1_forgetForms_J7_fill_53178 rfl rfl rfl (by decide +kernel) ⟨Nat.le_of_ble_eq_true rfl, Nat.le_of_ble_eq_true rfl⟩ rfl hK hP hD [4] rfl (by decide)  hl.1 rfl (Nat.le_of_ble_eq_true rfl) dX1_forgetForms_15 ⟨Nat.le_of_ble_eq_true rfl, Nat.le_of_ble_eq_true rfl⟩) hP hD hS [4] rfl (fun H locs hB15 back hS => ?_)
  have hP1 := hB15
  obtain ⟨hP, hD⟩ := back [ar G a4 24 (fun _ => (e9 1000))] rfl hP1
  have hP : va_P G.1 vwCl [ob o 1 [.int (nI (nn σ)), .ref a1, .ref a2, .ref a3, .ref a4], ar G a1 24 (fun j => nI ((dd σ) j)), ar G a2 384 (fun j => nI ((vv σ) j)), ar G a3 24 (fun j => e9 ((fun _ => 1000) j)), ar G a4 24 (fun _ => (e9 1000))] H := hP
  have hD : va_D A [ob o 1 [.int (nI (nn σ)), .ref a1, .ref a2, .ref a3, .ref a4], ar G a1 24 (fun j => nI ((dd σ) j)), ar G a2 384 (fun j => nI ((vv σ) j)), ar G a3 24 (fun j => e9 ((fun _ => 1000) j)), ar G a4 24 (fun _ => (e9 1000))] := hD
  have hP : va_P G.1 vwCl [ob o 1 [.int (nI (nn σ)), .ref a1, .ref a2, .ref a3, .ref a4], ar G a1 24 (fun j => nI ((dd σ) j)), ar G a2 384 (fun j => nI ((vv σ) j)), ar G a3 24 (fun j => e9 ((fun _ => 1000) j)), ar G a4 24 (fun j => e9 ((fun _ => 1000) j))] H := hP
  have hD : va_D A [ob o 1 [.int (nI (nn σ)), .ref a1, .ref a2, .ref a3, .ref a4], ar G a1 24 (fun j => nI ((dd σ) j)), ar G a2 384 (fun j => nI ((vv σ) j)), ar G a3 24 (fun j => e9 ((fun _ => 1000) j)), ar G a4 24 (fun j => e9 ((fun _ => 1000) j))] := hD
  exact hret _ _ _ _ hS dX1_forgetForms_18 (hP)

theorem iqX2_emptyAll_X2 : ∀ w ∈ u_ws RX2 TX2 2, w ∈ wsX2_emptyAll := by decide +kernel
set_option maxHeartbeats 4000000 in
set_option maxRecDepth 100000 in
theorem c_X2_emptyAll (l : Launch) (G : kG) (q b1 b2 : Nat) (cv cm : Nat → Nat) : Met l yX2_emptyAll wsX2_emptyAll ({ frames := 1, cells := 0, slots := 0, locals := 23 } : Room) (cP G [.ref q] [ob q 2 [.ref b1, .ref b2], ar G b1 800 (fun j => e9 (cv j)), ar G b2 800 (fun j => e9 (cm j))]) (qV (fun H => va_P G.1 vwCl [ob q 2 [.ref b1, .ref b2], ar G b1 800 (fun j => e9 ((fun _ => 1000) j)), ar G b2 800 (fun j => e9 ((fun _ => 1000) j))] H) (mA [ob q 2 [.ref b1, .ref b2], ar G b1 800 (fun j => e9 (cv j)), ar G b2 800 (fun j => e9 (cm j))])) 0 0 (mA [ob q 2 [.ref b1, .ref b2], ar G b1 800 (fun j => e9 (cv j)), ar G b2 800 (fun j => e9 (cm j))]) := by
  refine met_muV (cc := cX2_emptyAll) (maxL := 1) (own := RX2) (by decide) rfl rfl (Nat.le_of_ble_eq_true rfl) ?_
  intro p e s m args below meth cod Q A hx hb hml hown hts hK hP hD hS hret ls hl
  have hl : lv_has ls 1 [(0, .ref q)] := hl
  refine lv_aload_n hx hb dX2_emptyAll_0 rfl (lv_at hl 0 rfl) ?_
  refine va_get (D := G.1) (ci := 2) (v := .ref b1) (C := RX2) (T := TX2) (N := 2) hx hb hts iqX2_emptyAll_X2 hown hK.1 hP 0 rfl rfl 0 (by decide) (hts (.fieldLink RX2 9 "PushedTables$Store" "values" "[I") (List.mem_of_getElem? (i := 1) rfl)) (fun _ h9 => h9) rfl dX2_emptyAll_1 ?_
  refine lv_bipush (v := (e9 1000)) hx hb dX2_emptyAll_4 (by decide) ?_
  refine g_V (k_S (n := 2) (As := [.ref b1, .int (e9 1000)]) (rest := []) (wc := [ar G b1 800 (fun j => e9 (cv j))]) hx hb hml hown hts (c_J7_fill_53178 (l := l) (G := G) (a := b1) (N := 800) (f := (fun j => e9 (cv j))) (v := e9 1000) (hN := by decide))  gX2_emptyAll_J7_fill_53178 rfl rfl rfl (by decide +kernel) ⟨Nat.le_of_ble_eq_true rfl, Nat.le_of_ble_eq_true rfl⟩ rfl hK hP hD [1] rfl (by decide)  hl.1 rfl (Nat.le_of_ble_eq_true rfl) dX2_emptyAll_6 ⟨Nat.le_of_ble_eq_true rfl, Nat.le_of_ble_eq_true rfl⟩) hP hD hS [1] rfl (fun H locs hB6 back hS => ?_)
  have hP1 := hB6
  obtain ⟨hP, hD⟩ := back [ar G b1 800 (fun _ => (e9 1000))] rfl hP1
  have hP : va_P G.1 vwCl [ob q 2 [.ref b1, .ref b2], ar G b1 800 (fun _ => (e9 1000)), ar G b2 800 (fun j => e9 (cm j))] H := hP
  have hD : va_D A [ob q 2 [.ref b1, .ref b2], ar G b1 800 (fun _ => (e9 1000)), ar G b2 800 (fun j => e9 (cm j))] := hD
  have hP : va_P G.1 vwCl [ob q 2 [.ref b1, .ref b2], ar G b1 800 (fun j => e9 ((fun _ => 1000) j)), ar G b2 800 (fun j => e9 (cm j))] H := hP
  have hD : va_D A [ob q 2 [.ref b1, .ref b2], ar G b1 800 (fun j => e9 ((fun _ => 1000) j)), ar G b2 800 (fun j => e9 (cm j))] := hD
  refine lv_aload_n hx hb dX2_emptyAll_9 rfl (lv_at hl 0 rfl) ?_
  refine va_get (D := G.1) (ci := 2) (v := .ref b2) (C := RX2) (T := TX2) (N := 2) hx hb hts iqX2_emptyAll_X2 hown hK.1 hP 0 rfl rfl 1 (by decide) (hts (.fieldLink RX2 15 "PushedTables$Store" "marks" "[I") (List.mem_of_getElem? (i := 2) rfl)) (fun _ h9 => h9) rfl dX2_emptyAll_10 ?_
  refine lv_bipush (v := (e9 1000)) hx hb dX2_emptyAll_13 (by decide) ?_
  refine g_V (k_S (n := 2) (As := [.ref b2, .int (e9 1000)]) (rest := []) (wc := [ar G b2 800 (fun j => e9 (cm j))]) hx hb hml hown hts (c_J7_fill_53178 (l := l) (G := G) (a := b2) (N := 800) (f := (fun j => e9 (cm j))) (v := e9 1000) (hN := by decide))  gX2_emptyAll_J7_fill_53178 rfl rfl rfl (by decide +kernel) ⟨Nat.le_of_ble_eq_true rfl, Nat.le_of_ble_eq_true rfl⟩ rfl hK hP hD [2] rfl (by decide)  hl.1 rfl (Nat.le_of_ble_eq_true rfl) dX2_emptyAll_15 ⟨Nat.le_of_ble_eq_true rfl, Nat.le_of_ble_eq_true rfl⟩) hP hD hS [2] rfl (fun H locs hB15 back hS => ?_)
  have hP1 := hB15
  obtain ⟨hP, hD⟩ := back [ar G b2 800 (fun _ => (e9 1000))] rfl hP1
  have hP : va_P G.1 vwCl [ob q 2 [.ref b1, .ref b2], ar G b1 800 (fun j => e9 ((fun _ => 1000) j)), ar G b2 800 (fun _ => (e9 1000))] H := hP
  have hD : va_D A [ob q 2 [.ref b1, .ref b2], ar G b1 800 (fun j => e9 ((fun _ => 1000) j)), ar G b2 800 (fun _ => (e9 1000))] := hD
  have hP : va_P G.1 vwCl [ob q 2 [.ref b1, .ref b2], ar G b1 800 (fun j => e9 ((fun _ => 1000) j)), ar G b2 800 (fun j => e9 ((fun _ => 1000) j))] H := hP
  have hD : va_D A [ob q 2 [.ref b1, .ref b2], ar G b1 800 (fun j => e9 ((fun _ => 1000) j)), ar G b2 800 (fun j => e9 ((fun _ => 1000) j))] := hD
  exact hret _ _ _ _ hS dX2_emptyAll_18 (hP)

theorem iqX2_fillCell_X2 : ∀ w ∈ u_ws RX2 TX2 2, w ∈ wsX2_fillCell := by decide +kernel
set_option maxHeartbeats 4000000 in
set_option maxRecDepth 100000 in
theorem c_X2_fillCell (l : Launch) (G : kG) (q b1 b2 : Nat) (cv cm : Nat → Nat) (k x f : Nat) (xx xf : Int32) (hxx : xx = e9 x) (hxf : xf = e9 f) (hk : k < 800) : Met l yX2_fillCell wsX2_fillCell ({ frames := 0, cells := 0, slots := 0, locals := 0 } : Room) (cP G [.ref q, .int (nI k), .int xx, .int xf] [ob q 2 [.ref b1, .ref b2], ar G b1 800 (fun j => e9 (cv j)), ar G b2 800 (fun j => e9 (cm j))]) (qV (fun H => va_P G.1 vwCl [ob q 2 [.ref b1, .ref b2], ar G b1 800 (fun j => e9 ((va_up cv k x) j)), ar G b2 800 (fun j => e9 ((va_up cm k f) j))] H) (mA [ob q 2 [.ref b1, .ref b2], ar G b1 800 (fun j => e9 (cv j)), ar G b2 800 (fun j => e9 (cm j))])) 0 0 (mA [ob q 2 [.ref b1, .ref b2], ar G b1 800 (fun j => e9 (cv j)), ar G b2 800 (fun j => e9 (cm j))]) := by
  subst hxx
  subst hxf
  refine met_muV (cc := cX2_fillCell) (maxL := 4) (own := RX2) (by decide) rfl rfl (Nat.le_of_ble_eq_true rfl) ?_
  intro p e s m args below meth cod Q A hx hb hml hown hts hK hP hD hS hret ls hl
  have hl : lv_has ls 4 [(0, .ref q), (1, .int (nI k)), (2, .int (e9 x)), (3, .int (e9 f))] := hl
  refine lv_aload_n hx hb dX2_fillCell_0 rfl (lv_at hl 0 rfl) ?_
  refine va_get (D := G.1) (ci := 2) (v := .ref b1) (C := RX2) (T := TX2) (N := 2) hx hb hts iqX2_fillCell_X2 hown hK.1 hP 0 rfl rfl 0 (by decide) (hts (.fieldLink RX2 9 "PushedTables$Store" "values" "[I") (List.mem_of_getElem? (i := 1) rfl)) (fun _ h9 => h9) rfl dX2_fillCell_1 ?_
  refine lv_iload_n hx hb dX2_fillCell_4 rfl (lv_at hl 1 rfl) ?_
  refine lv_iload_n hx hb dX2_fillCell_5 rfl (lv_at hl 2 rfl) ?_
  refine r_iast (e1 := k) (x := (e9 x)) (g := (fun j => e9 ((va_up cv k x) j))) hx hb hK.1 hP hD hS 1 0 rfl rfl (by omega) (by first | decide | assumption) (up_e9 _ _ _) dX2_fillCell_6 (fun H locs hP hD hS => ?_)
  have hP : va_P G.1 vwCl [ob q 2 [.ref b1, .ref b2], ar G b1 800 (fun j => e9 ((va_up cv k x) j)), ar G b2 800 (fun j => e9 (cm j))] H := hP
  have hD : va_D A [ob q 2 [.ref b1, .ref b2], ar G b1 800 (fun j => e9 ((va_up cv k x) j)), ar G b2 800 (fun j => e9 (cm j))] := hD
  refine lv_aload_n hx hb dX2_fillCell_7 rfl (lv_at hl 0 rfl) ?_
  refine va_get (D := G.1) (ci := 2) (v := .ref b2) (C := RX2) (T := TX2) (N := 2) hx hb hts iqX2_fillCell_X2 hown hK.1 hP 0 rfl rfl 1 (by decide) (hts (.fieldLink RX2 15 "PushedTables$Store" "marks" "[I") (List.mem_of_getElem? (i := 2) rfl)) (fun _ h9 => h9) rfl dX2_fillCell_8 ?_
  refine lv_iload_n hx hb dX2_fillCell_11 rfl (lv_at hl 1 rfl) ?_
  refine lv_iload_n hx hb dX2_fillCell_12 rfl (lv_at hl 3 rfl) ?_
  refine r_iast (e1 := k) (x := (e9 f)) (g := (fun j => e9 ((va_up cm k f) j))) hx hb hK.1 hP hD hS 2 0 rfl rfl (by omega) (by first | decide | assumption) (up_e9 _ _ _) dX2_fillCell_13 (fun H locs hP hD hS => ?_)
  have hP : va_P G.1 vwCl [ob q 2 [.ref b1, .ref b2], ar G b1 800 (fun j => e9 ((va_up cv k x) j)), ar G b2 800 (fun j => e9 ((va_up cm k f) j))] H := hP
  have hD : va_D A [ob q 2 [.ref b1, .ref b2], ar G b1 800 (fun j => e9 ((va_up cv k x) j)), ar G b2 800 (fun j => e9 ((va_up cm k f) j))] := hD
  exact hret _ _ _ _ hS dX2_fillCell_14 (hP)

theorem iqX2_isEmptyAt_X2 : ∀ w ∈ u_ws RX2 TX2 2, w ∈ wsX2_isEmptyAt := by decide +kernel
set_option maxHeartbeats 4000000 in
set_option maxRecDepth 100000 in
theorem c_X2_isEmptyAt (l : Launch) (G : kG) (q b1 b2 : Nat) (cv cm : Nat → Nat) (k : Nat) (hv : Bc 100 cv) (hm : Bc 24 cm) (hk : k < 800) : Met l yX2_isEmptyAt wsX2_isEmptyAt ({ frames := 0, cells := 0, slots := 0, locals := 0 } : Room) (cP G [.ref q, .int (nI k)] [ob q 2 [.ref b1, .ref b2], ar G b1 800 (fun j => e9 (cv j)), ar G b2 800 (fun j => e9 (cm j))]) (vp_Si (fun x => x = (bI (emp cm k)))) 0 0 (fun _ => False) := by
  refine met_ro (cc := cX2_isEmptyAt) (maxL := 2) (ty := .boolean) (own := RX2) (by decide) rfl rfl (fun _ h => by rw [h]; exact bI_nar _) (Nat.le_of_ble_eq_true rfl) ?_
  intro p e s m args below meth cod Q hx hb hml hown hts hK hP hD hret ls hl
  have hl : lv_has ls 2 [(0, .ref q), (1, .int (nI k))] := hl
  refine lv_aload_n hx hb dX2_isEmptyAt_0 rfl (lv_at hl 0 rfl) ?_
  refine va_get (D := G.1) (ci := 2) (v := .ref b2) (C := RX2) (T := TX2) (N := 2) hx hb hts iqX2_isEmptyAt_X2 hown hK.1 hP 0 rfl rfl 1 (by decide) (hts (.fieldLink RX2 15 "PushedTables$Store" "marks" "[I") (List.mem_of_getElem? (i := 1) rfl)) (fun _ h9 => h9) rfl dX2_isEmptyAt_1 ?_
  refine lv_iload_n hx hb dX2_isEmptyAt_4 rfl (lv_at hl 1 rfl) ?_
  refine r_iald (e1 := k) (v := (e9 (cm k))) hx hb hK.1 hP 2 0 rfl rfl (by omega) (by decide) (rfl) dX2_isEmptyAt_5 ?_
  have b5 := Bc.at (n := 24) (g := cm) (by assumption) k
  refine lv_bipush (v := (e9 1000)) hx hb dX2_isEmptyAt_6 (by decide) ?_
  refine r_icmp_ne (P := (cm k) = 1000) (tgt := 15) hx hb dX2_isEmptyAt_8 (by decide) (e9_inj (by omega) (by omega)) (fun c8 => ?_) (fun c8 => ?_)
  · refine lv_iconst (v := (nI 0)) hx hb dX2_isEmptyAt_15 (by decide) ?_
    exact hret _ _ _ dX2_isEmptyAt_16 (bIf (decide_eq_false c8))
  · refine lv_iconst (v := (nI 1)) hx hb dX2_isEmptyAt_11 (by decide) ?_
    refine lv_goto (tgt := 16) hx hb dX2_isEmptyAt_12 (by decide) ?_
    exact hret _ _ _ dX2_isEmptyAt_16 (bIt (decide_eq_true c8))

theorem iqX2_takeOut_X2 : ∀ w ∈ u_ws RX2 TX2 2, w ∈ wsX2_takeOut := by decide +kernel
set_option maxHeartbeats 4000000 in
set_option maxRecDepth 100000 in
theorem c_X2_takeOut (l : Launch) (G : kG) (q b1 b2 : Nat) (cv cm : Nat → Nat) (f s1 : Nat) (xf xs1 : Int32) (hxf : xf = e9 f) (hxs1 : xs1 = nI s1) (hv : Bc 100 cv) (hm : Bc 24 cm) (hf : f < 24 ∨ f = 1000) (hs : s1 ≤ 784) : Met l yX2_takeOut wsX2_takeOut ({ frames := 1, cells := 0, slots := 0, locals := 23 } : Room) (cP G [.ref q, .int xf, .int xs1] [ob q 2 [.ref b1, .ref b2], ar G b1 800 (fun j => e9 (cv j)), ar G b2 800 (fun j => e9 (cm j))]) (qV (fun H => va_P G.1 vwCl [ob q 2 [.ref b1, .ref b2], ar G b1 800 (fun j => e9 ((tkF cv cm f s1 (s1 + 16)) j)), ar G b2 800 (fun j => e9 ((tkF cm cm f s1 (s1 + 16)) j))] H) (mA [ob q 2 [.ref b1, .ref b2], ar G b1 800 (fun j => e9 (cv j)), ar G b2 800 (fun j => e9 (cm j))])) 0 0 (mA [ob q 2 [.ref b1, .ref b2], ar G b1 800 (fun j => e9 (cv j)), ar G b2 800 (fun j => e9 (cm j))]) := by
  subst hxf
  subst hxs1
  refine met_muV (cc := cX2_takeOut) (maxL := 4) (own := RX2) (by decide) rfl rfl (Nat.le_of_ble_eq_true rfl) ?_
  intro p e s m args below meth cod Q A hx hb hml hown hts hK hP hD hS hret ls hl
  have hl : lv_has ls 4 [(0, .ref q), (1, .int (e9 f)), (2, .int (nI s1))] := hl
  refine lv_iload_n hx hb dX2_takeOut_0 rfl (lv_at hl 2 rfl) ?_
  refine lv_istore_n (lv' := [(3, .int (nI s1)), (0, .ref q), (1, .int (e9 f)), (2, .int (nI s1))]) hx hb dX2_takeOut_1 rfl hl (by decide) rfl (fun ls hl => ?_)
  have L2 : ∀ (fu : Nat) (k : Nat) (gv : Nat → Nat) (gm : Nat → Nat), s1 + 17 - k < fu → s1 ≤ k → k ≤ s1 + 16 → Bc 24 gm → gv = tkF cv cm f s1 k → gm = tkF cm cm f s1 k → ∀ (H : Heap) (locs : List Loc), va_P G.1 vwCl [ob q 2 [.ref b1, .ref b2], ar G b1 800 (fun j => e9 (gv j)), ar G b2 800 (fun j => e9 (gm j))] H → va_D A [ob q 2 [.ref b1, .ref b2], ar G b1 800 (fun j => e9 (gv j)), ar G b2 800 (fun j => e9 (gm j))] → va_S A s.heap H locs → ∀ (ls : Array Slot), lv_has ls 4 [(0, .ref q), (1, .int (e9 f)), (2, .int (nI s1)), (3, .int (nI k))] → W p l e ({ frames := 1, cells := 0, slots := 0, locals := 23 } : Room) s m args below meth cod H locs 0 0 Q (F0 m 2 ls []) := by
    intro fu
    induction fu with
    | zero => intro k gv gm hm; exact absurd hm (Nat.not_lt_zero _)
    | succ fu ih2 =>
      intro k gv gm hm2 hk1 hk2 hgm e1 e2 H locs hP hD hS ls hl
      have hP : va_P G.1 vwCl [ob q 2 [.ref b1, .ref b2], ar G b1 800 (fun j => e9 (gv j)), ar G b2 800 (fun j => e9 (gm j))] H := hP
      have hD : va_D A [ob q 2 [.ref b1, .ref b2], ar G b1 800 (fun j => e9 (gv j)), ar G b2 800 (fun j => e9 (gm j))] := hD
      refine lv_iload_n hx hb dX2_takeOut_2 rfl (lv_at hl 3 rfl) ?_
      refine lv_iload_n hx hb dX2_takeOut_3 rfl (lv_at hl 2 rfl) ?_
      refine lv_bipush (v := (nI 16)) hx hb dX2_takeOut_4 (by decide) ?_
      refine r_iadd (v := s1 + 16) hx hb dX2_takeOut_6 rfl ?_
      refine r_icmp_ge (P := (s1 + 16) ≤ k) (tgt := 35) hx hb dX2_takeOut_7 (by decide) (nI_leI (by omega) (by omega)) (fun c7 => ?_) (fun c7 => ?_)
      · obtain rfl : k = s1 + 16 := by omega
        subst e1 e2
        exact hret _ _ _ _ hS dX2_takeOut_35 (hP)
      · refine lv_aload_n hx hb dX2_takeOut_10 rfl (lv_at hl 0 rfl) ?_
        refine va_get (D := G.1) (ci := 2) (v := .ref b2) (C := RX2) (T := TX2) (N := 2) hx hb hts iqX2_takeOut_X2 hown hK.1 hP 0 rfl rfl 1 (by decide) (hts (.fieldLink RX2 15 "PushedTables$Store" "marks" "[I") (List.mem_of_getElem? (i := 1) rfl)) (fun _ h9 => h9) rfl dX2_takeOut_11 ?_
        refine lv_iload_n hx hb dX2_takeOut_14 rfl (lv_at hl 3 rfl) ?_
        refine r_iald (e1 := k) (v := (e9 (gm k))) hx hb hK.1 hP 2 0 rfl rfl (by omega) (by decide) (rfl) dX2_takeOut_15 ?_
        have b15 := Bc.at (n := 24) (g := gm) (by assumption) k
        refine lv_iload_n hx hb dX2_takeOut_16 rfl (lv_at hl 1 rfl) ?_
        refine r_icmp_ne (P := (gm k) = f) (tgt := 29) hx hb dX2_takeOut_17 (by decide) (e9_inj (by omega) (by omega)) (fun c17 => ?_) (fun c17 => ?_)
        · refine r_iinc (v := k + 1) (lv' := [(3, .int (nI (k + 1))), (0, .ref q), (1, .int (e9 f)), (2, .int (nI s1))]) hx hb dX2_takeOut_29 hl (k := 3) rfl (nI_1 _) (by decide) rfl (fun ls hl => ?_)
          refine lv_goto (tgt := 2) hx hb dX2_takeOut_32 (by decide) ?_
          exact ih2 (k + 1) gv gm (by omega) (by omega) (by omega) (hgm) (by rw [e1]; exact tkF_f (by rw [e2, tkF_at] at c17; exact c17)) (by rw [e2]; exact tkF_f (by rw [e2, tkF_at] at c17; exact c17)) _ _ hP hD hS ls (lv_sub hl [1, 2, 3, 0] rfl)
        · refine lv_aload_n hx hb dX2_takeOut_20 rfl (lv_at hl 0 rfl) ?_
          refine lv_iload_n hx hb dX2_takeOut_21 rfl (lv_at hl 3 rfl) ?_
          refine lv_bipush (v := (e9 1000)) hx hb dX2_takeOut_22 (by decide) ?_
          refine lv_bipush (v := (e9 1000)) hx hb dX2_takeOut_24 (by decide) ?_
          refine g_V (k_V (q0 := 0) (ci := 2) (n := 3) (As := [.int (nI k), .int (e9 1000), .int (e9 1000)]) (rest := []) (wc := [ob q 2 [.ref b1, .ref b2], ar G b1 800 (fun j => e9 (gv j)), ar G b2 800 (fun j => e9 (gm j))]) hx hb hml hown hts (c_X2_fillCell (l := l) (G := G) (q := q) (b1 := b1) (b2 := b2) (cv := gv) (cm := gm) (k := k) (x := 1000) (f := 1000) (xx := (e9 1000)) (xf := (e9 1000)) (hxx := rfl) (hxf := rfl) (hk := by first | assumption | omega))  gX2_takeOut_X2_fillCell rfl rfl rfl (by decide +kernel) ⟨Nat.le_of_ble_eq_true rfl, Nat.le_of_ble_eq_true rfl⟩ rfl hK hP hD [0, 1, 2] rfl (by decide)  rfl rfl rfl hl.1 rfl (Nat.le_of_ble_eq_true rfl) dX2_takeOut_26 ⟨Nat.le_of_ble_eq_true rfl, Nat.le_of_ble_eq_true rfl⟩) hP hD hS [0, 1, 2] rfl (fun H locs hB26 back hS => ?_)
          have hP1 := hB26
          obtain ⟨hP, hD⟩ := back [ob q 2 [.ref b1, .ref b2], ar G b1 800 (fun j => e9 ((va_up gv k 1000) j)), ar G b2 800 (fun j => e9 ((va_up gm k 1000) j))] rfl hP1
          have hP : va_P G.1 vwCl [ob q 2 [.ref b1, .ref b2], ar G b1 800 (fun j => e9 ((va_up gv k 1000) j)), ar G b2 800 (fun j => e9 ((va_up gm k 1000) j))] H := hP
          have hD : va_D A [ob q 2 [.ref b1, .ref b2], ar G b1 800 (fun j => e9 ((va_up gv k 1000) j)), ar G b2 800 (fun j => e9 ((va_up gm k 1000) j))] := hD
          refine r_iinc (v := k + 1) (lv' := [(3, .int (nI (k + 1))), (0, .ref q), (1, .int (e9 f)), (2, .int (nI s1))]) hx hb dX2_takeOut_29 hl (k := 3) rfl (nI_1 _) (by decide) rfl (fun ls hl => ?_)
          refine lv_goto (tgt := 2) hx hb dX2_takeOut_32 (by decide) ?_
          exact ih2 (k + 1) (va_up gv k 1000) (va_up gm k 1000) (by omega) (by omega) (by omega) (up_Bc hgm (Or.inr rfl)) (by rw [e1]; exact tkF_t hk1 (by rw [e2, tkF_at] at c17; exact c17)) (by rw [e2]; exact tkF_t hk1 (by rw [e2, tkF_at] at c17; exact c17)) _ _ hP hD hS ls (lv_sub hl [1, 2, 3, 0] rfl)
  exact L2 ((s1 + 17 - s1) + 1) s1 cv cm (Nat.lt_succ_self _) (by omega) (by omega) (hm) ((tkF_0 _ _ _ _).symm) ((tkF_0 _ _ _ _).symm) _ _ hP hD hS ls (lv_sub hl [1, 2, 3, 0] rfl)

theorem win_e {s1 c : Nat} (h : s1 ≤ c) : s1 + (c - s1) = c := by omega
theorem win_f {p : Nat → Bool} {s1 c k : Nat} (h : s1 ≤ c) (hk : k = fb_ct p (c - s1)) (hp : p (c - s1) = false) : k = fb_ct p (c + 1 - s1) := by
  rw [show c + 1 - s1 = c - s1 + 1 by omega]; exact ct_f hp hk
theorem win_t {p : Nat → Bool} {s1 c k : Nat} (h : s1 ≤ c) (hk : k = fb_ct p (c - s1)) (hp : p (c - s1) = true) : k + 1 = fb_ct p (c + 1 - s1) := by
  rw [show c + 1 - s1 = c - s1 + 1 by omega]; exact ct_t hp hk
theorem iqX2_filledOf_X2 : ∀ w ∈ u_ws RX2 TX2 2, w ∈ wsX2_filledOf := by decide +kernel
set_option maxHeartbeats 4000000 in
set_option maxRecDepth 100000 in
theorem c_X2_filledOf (l : Launch) (G : kG) (q b1 b2 : Nat) (cv cm : Nat → Nat) (f s1 : Nat) (xf xs1 : Int32) (hxf : xf = e9 f) (hxs1 : xs1 = nI s1) (hv : Bc 100 cv) (hm : Bc 24 cm) (hf : f < 24 ∨ f = 1000) (hs : s1 ≤ 784) : Met l yX2_filledOf wsX2_filledOf ({ frames := 0, cells := 0, slots := 0, locals := 0 } : Room) (cP G [.ref q, .int xf, .int xs1] [ob q 2 [.ref b1, .ref b2], ar G b1 800 (fun j => e9 (cv j)), ar G b2 800 (fun j => e9 (cm j))]) (vp_Si (fun x => x = (nI (wcnt cm f s1)))) 0 0 (fun _ => False) := by
  subst hxf
  subst hxs1
  refine met_ro (cc := cX2_filledOf) (maxL := 5) (ty := .int) (own := RX2) (by decide) rfl rfl (fun _ _ => rfl) (Nat.le_of_ble_eq_true rfl) ?_
  intro p e s m args below meth cod Q hx hb hml hown hts hK hP hD hret ls hl
  have hl : lv_has ls 5 [(0, .ref q), (1, .int (e9 f)), (2, .int (nI s1))] := hl
  refine lv_iconst (v := (nI 0)) hx hb dX2_filledOf_0 (by decide) ?_
  refine lv_istore_n (lv' := [(3, .int (nI 0)), (0, .ref q), (1, .int (e9 f)), (2, .int (nI s1))]) hx hb dX2_filledOf_1 rfl hl (by decide) rfl (fun ls hl => ?_)
  refine lv_iload_n hx hb dX2_filledOf_2 rfl (lv_at hl 3 rfl) ?_
  refine lv_istore (lv' := [(4, .int (nI s1)), (3, .int (nI 0)), (0, .ref q), (1, .int (e9 f)), (2, .int (nI s1))]) hx hb dX2_filledOf_3 hl (by decide) rfl (fun ls hl => ?_)
  have L5 : ∀ (fu : Nat) (k : Nat) (c : Nat), s1 + 17 - c < fu → s1 ≤ c → c ≤ s1 + 16 → k = fb_ct (fun c => decide (cm (s1 + c) = f)) (c - s1) → k + s1 ≤ c → ∀ (ls : Array Slot), lv_has ls 5 [(0, .ref q), (1, .int (e9 f)), (2, .int (nI s1)), (3, .int (nI k)), (4, .int (nI c))] → W p l e ({ frames := 0, cells := 0, slots := 0, locals := 0 } : Room) s m args below meth cod s.heap [] 0 0 Q (F0 m 5 ls []) := by
    intro fu
    induction fu with
    | zero => intro k c hm; exact absurd hm (Nat.not_lt_zero _)
    | succ fu ih5 =>
      intro k c hm5 hc1 hc hk hkc ls hl
      refine lv_iload hx hb dX2_filledOf_5 (lv_at hl 4 rfl) ?_
      refine lv_iload_n hx hb dX2_filledOf_7 rfl (lv_at hl 2 rfl) ?_
      refine lv_bipush (v := (nI 16)) hx hb dX2_filledOf_8 (by decide) ?_
      refine r_iadd (v := s1 + 16) hx hb dX2_filledOf_10 rfl ?_
      refine r_icmp_ge (P := (s1 + 16) ≤ c) (tgt := 34) hx hb dX2_filledOf_11 (by decide) (nI_leI (by omega) (by omega)) (fun c11 => ?_) (fun c11 => ?_)
      · refine lv_iload_n hx hb dX2_filledOf_34 rfl (lv_at hl 3 rfl) ?_
        exact hret _ _ _ dX2_filledOf_35 (by have e : c - s1 = 16 := (by omega); rw [hk, e]; rfl)
      · refine lv_aload_n hx hb dX2_filledOf_14 rfl (lv_at hl 0 rfl) ?_
        refine va_get (D := G.1) (ci := 2) (v := .ref b2) (C := RX2) (T := TX2) (N := 2) hx hb hts iqX2_filledOf_X2 hown hK.1 hP 0 rfl rfl 1 (by decide) (hts (.fieldLink RX2 15 "PushedTables$Store" "marks" "[I") (List.mem_of_getElem? (i := 1) rfl)) (fun _ h9 => h9) rfl dX2_filledOf_15 ?_
        refine lv_iload hx hb dX2_filledOf_18 (lv_at hl 4 rfl) ?_
        refine r_iald (e1 := c) (v := (e9 (cm c))) hx hb hK.1 hP 2 0 rfl rfl (by omega) (by decide) (rfl) dX2_filledOf_20 ?_
        have b20 := Bc.at (n := 24) (g := cm) (by assumption) c
        refine lv_iload_n hx hb dX2_filledOf_21 rfl (lv_at hl 1 rfl) ?_
        refine r_icmp_ne (P := (cm c) = f) (tgt := 28) hx hb dX2_filledOf_22 (by decide) (e9_inj (by omega) (by omega)) (fun c22 => ?_) (fun c22 => ?_)
        · refine r_iinc (v := c + 1) (lv' := [(4, .int (nI (c + 1))), (0, .ref q), (1, .int (e9 f)), (2, .int (nI s1)), (3, .int (nI k))]) hx hb dX2_filledOf_28 hl (k := 4) rfl (nI_1 _) (by decide) rfl (fun ls hl => ?_)
          refine lv_goto (tgt := 5) hx hb dX2_filledOf_31 (by decide) ?_
          exact ih5 k (c + 1) (by omega) (by omega) (by omega) (win_f hc1 hk (decide_eq_false (by rw [win_e hc1]; exact c22))) (by omega) ls (lv_sub hl [1, 2, 3, 4, 0] rfl)
        · refine r_iinc (v := k + 1) (lv' := [(3, .int (nI (k + 1))), (0, .ref q), (1, .int (e9 f)), (2, .int (nI s1)), (4, .int (nI c))]) hx hb dX2_filledOf_25 hl (k := 3) rfl (nI_1 _) (by decide) rfl (fun ls hl => ?_)
          refine r_iinc (v := c + 1) (lv' := [(4, .int (nI (c + 1))), (3, .int (nI (k + 1))), (0, .ref q), (1, .int (e9 f)), (2, .int (nI s1))]) hx hb dX2_filledOf_28 hl (k := 4) rfl (nI_1 _) (by decide) rfl (fun ls hl => ?_)
          refine lv_goto (tgt := 5) hx hb dX2_filledOf_31 (by decide) ?_
          exact ih5 (k + 1) (c + 1) (by omega) (by omega) (by omega) (win_t hc1 hk (decide_eq_true (by rw [win_e hc1]; exact c22))) (by omega) ls (lv_sub hl [2, 3, 4, 1, 0] rfl)
  exact L5 ((s1 + 17 - s1) + 1) 0 s1 (Nat.lt_succ_self _) (by omega) (by omega) (by rw [Nat.sub_self]; rfl) (by omega) ls (lv_sub hl [2, 3, 4, 1, 0] rfl)

theorem bit_t {m c : Nat} : (m / 2 ^ c &&& 1) = 1 ↔ m.testBit c = true := by
  rw [Nat.testBit_eq_decide_div_mod_eq, decide_eq_true_iff, Nat.and_one_is_mod]
theorem bit_le (m c : Nat) : (m / 2 ^ c &&& 1) ≤ 1 := Nat.and_le_right
set_option maxHeartbeats 4000000 in
set_option maxRecDepth 100000 in
theorem c_X2_fitsAt (l : Launch) (G : kG) (q b1 b2 : Nat) (cv cm : Nat → Nat) (s1 m2 : Nat) (hv : Bc 100 cv) (hm : Bc 24 cm) (hs : s1 ≤ 784) (hm2 : m2 < 65536) : Met l yX2_fitsAt wsX2_fitsAt ({ frames := 1, cells := 0, slots := 0, locals := 21 } : Room) (cP G [.ref q, .int (nI s1), .int (nI m2)] [ob q 2 [.ref b1, .ref b2], ar G b1 800 (fun j => e9 (cv j)), ar G b2 800 (fun j => e9 (cm j))]) (vp_Si (fun x => x = (bI (fitb cm m2 s1)))) 0 0 (fun _ => False) := by
  refine met_ro (cc := cX2_fitsAt) (maxL := 4) (ty := .boolean) (own := RX2) (by decide) rfl rfl (fun _ h => by rw [h]; exact bI_nar _) (Nat.le_of_ble_eq_true rfl) ?_
  intro p e s m args below meth cod Q hx hb hml hown hts hK hP hD hret ls hl
  have hl : lv_has ls 4 [(0, .ref q), (1, .int (nI s1)), (2, .int (nI m2))] := hl
  refine lv_iconst (v := (nI 0)) hx hb dX2_fitsAt_0 (by decide) ?_
  refine lv_istore_n (lv' := [(3, .int (nI 0)), (0, .ref q), (1, .int (nI s1)), (2, .int (nI m2))]) hx hb dX2_fitsAt_1 rfl hl (by decide) rfl (fun ls hl => ?_)
  have L2 : ∀ (fu : Nat) (c : Nat), 17 - c < fu → c ≤ 16 → (∀ j, j < c → m2.testBit j = true → cm (s1 + j) = 1000) → ∀ (ls : Array Slot), lv_has ls 4 [(0, .ref q), (1, .int (nI s1)), (2, .int (nI m2)), (3, .int (nI c))] → W p l e ({ frames := 1, cells := 0, slots := 0, locals := 21 } : Room) s m args below meth cod s.heap [] 0 0 Q (F0 m 2 ls []) := by
    intro fu
    induction fu with
    | zero => intro c hm; exact absurd hm (Nat.not_lt_zero _)
    | succ fu ih2 =>
      intro c hm2 hc hn ls hl
      refine lv_iload_n hx hb dX2_fitsAt_2 rfl (lv_at hl 3 rfl) ?_
      refine lv_bipush (v := (nI 16)) hx hb dX2_fitsAt_3 (by decide) ?_
      refine r_icmp_ge (P := 16 ≤ c) (tgt := 35) hx hb dX2_fitsAt_5 (by decide) (nI_leI (by omega) (by omega)) (fun c5 => ?_) (fun c5 => ?_)
      · refine lv_iconst (v := (nI 1)) hx hb dX2_fitsAt_35 (by decide) ?_
        exact hret _ _ _ dX2_fitsAt_36 (bIt (fitb_t.mpr (fun j hj => hn j (by omega))))
      · refine lv_iload_n hx hb dX2_fitsAt_8 rfl (lv_at hl 2 rfl) ?_
        refine lv_iload_n hx hb dX2_fitsAt_9 rfl (lv_at hl 3 rfl) ?_
        have b10 : m2 / 2 ^ c ≤ m2 := Nat.div_le_self _ _
        refine lv_ishr hx hb dX2_fitsAt_10 ?_
        refine r_top (y := (nI (m2 / 2 ^ c))) (r_shr (by omega) (by omega)) ?_
        refine lv_iconst (v := (nI 1)) hx hb dX2_fitsAt_11 (by decide) ?_
        refine lv_iand hx hb dX2_fitsAt_12 ?_
        refine r_top (y := (nI ((m2 / 2 ^ c) &&& 1))) (fa_and _ _) ?_
        have b12 := bit_le m2 c
        refine lv_iconst (v := (nI 1)) hx hb dX2_fitsAt_13 (by decide) ?_
        refine r_icmp_ne (P := ((m2 / 2 ^ c) &&& 1) = 1) (tgt := 29) hx hb dX2_fitsAt_14 (by decide) (nI_eq (by omega) (by omega)) (fun c14 => ?_) (fun c14 => ?_)
        · refine r_iinc (v := c + 1) (lv' := [(3, .int (nI (c + 1))), (0, .ref q), (1, .int (nI s1)), (2, .int (nI m2))]) hx hb dX2_fitsAt_29 hl (k := 3) rfl (nI_1 _) (by decide) rfl (fun ls hl => ?_)
          refine lv_goto (tgt := 2) hx hb dX2_fitsAt_32 (by decide) ?_
          exact ih2 (c + 1) (by omega) (by omega) (lt_s hn (fun z => absurd (bit_t.mpr z) c14)) ls (lv_sub hl [1, 2, 3, 0] rfl)
        · refine lv_aload_n hx hb dX2_fitsAt_17 rfl (lv_at hl 0 rfl) ?_
          refine lv_iload_n hx hb dX2_fitsAt_18 rfl (lv_at hl 1 rfl) ?_
          refine lv_iload_n hx hb dX2_fitsAt_19 rfl (lv_at hl 3 rfl) ?_
          refine r_iadd (v := s1 + c) hx hb dX2_fitsAt_20 rfl ?_
          refine g_ro (k_V (q0 := 0) (ci := 2) (n := 1) (As := [.int (nI (s1 + c))]) (rest := []) (wc := [ob q 2 [.ref b1, .ref b2], ar G b1 800 (fun j => e9 (cv j)), ar G b2 800 (fun j => e9 (cm j))]) hx hb hml hown hts (c_X2_isEmptyAt (l := l) (G := G) (q := q) (b1 := b1) (b2 := b2) (cv := cv) (cm := cm) (k := s1 + c) (hv := by first | assumption | omega) (hm := by first | assumption | omega) (hk := by first | assumption | omega))  gX2_fitsAt_X2_isEmptyAt rfl rfl rfl (by decide +kernel) ⟨Nat.le_of_ble_eq_true rfl, Nat.le_of_ble_eq_true rfl⟩ rfl hK hP hD [0, 1, 2] rfl (by decide)  rfl rfl rfl hl.1 rfl (Nat.le_of_ble_eq_true rfl) dX2_fitsAt_21 ⟨Nat.le_of_ble_eq_true rfl, Nat.le_of_ble_eq_true rfl⟩) (fun r21 h21 => ?_)
          obtain rfl : r21 = (bI (emp cm (s1 + c))) := h21
          refine r_if_ne (P := (emp cm (s1 + c)) = false) (tgt := 29) hx hb dX2_fitsAt_24 (by decide) (bI_eq0) (fun c24 => ?_) (fun c24 => ?_)
          · refine r_iinc (v := c + 1) (lv' := [(3, .int (nI (c + 1))), (0, .ref q), (1, .int (nI s1)), (2, .int (nI m2))]) hx hb dX2_fitsAt_29 hl (k := 3) rfl (nI_1 _) (by decide) rfl (fun ls hl => ?_)
            refine lv_goto (tgt := 2) hx hb dX2_fitsAt_32 (by decide) ?_
            exact ih2 (c + 1) (by omega) (by omega) (lt_s hn (fun _ => of_decide_eq_true (Bool.of_not_eq_false c24))) ls (lv_sub hl [1, 2, 3, 0] rfl)
          · refine lv_iconst (v := (nI 0)) hx hb dX2_fitsAt_27 (by decide) ?_
            exact hret _ _ _ dX2_fitsAt_28 (bIf (fitb_f.mpr ⟨c, by omega, bit_t.mp c14, of_decide_eq_false c24⟩))
  exact L2 ((17 - 0) + 1) 0 (Nat.lt_succ_self _) (by omega) (fun j hj => absurd hj (Nat.not_lt_zero j)) ls (lv_sub hl [1, 2, 3, 0] rfl)

set_option maxHeartbeats 4000000 in
set_option maxRecDepth 100000 in
theorem c_X2_firstFit (l : Launch) (G : kG) (q b1 b2 : Nat) (cv cm : Nat → Nat) (m2 : Nat) (hv : Bc 100 cv) (hm : Bc 24 cm) (hm2 : m2 < 65536) : Met l yX2_firstFit wsX2_firstFit ({ frames := 2, cells := 0, slots := 0, locals := 44 } : Room) (cP G [.ref q, .int (nI m2)] [ob q 2 [.ref b1, .ref b2], ar G b1 800 (fun j => e9 (cv j)), ar G b2 800 (fun j => e9 (cm j))]) (vp_Si (fun x => x = (e9 (ffit cm m2)))) 0 0 (fun _ => False) := by
  refine met_ro (cc := cX2_firstFit) (maxL := 3) (ty := .int) (own := RX2) (by decide) rfl rfl (fun _ _ => rfl) (Nat.le_of_ble_eq_true rfl) ?_
  intro p e s m args below meth cod Q hx hb hml hown hts hK hP hD hret ls hl
  have hl : lv_has ls 3 [(0, .ref q), (1, .int (nI m2))] := hl
  refine lv_iconst (v := (nI 0)) hx hb dX2_firstFit_0 (by decide) ?_
  refine lv_istore_n (lv' := [(2, .int (nI 0)), (0, .ref q), (1, .int (nI m2))]) hx hb dX2_firstFit_1 rfl hl (by decide) rfl (fun ls hl => ?_)
  have L2 : ∀ (fu : Nat) (k : Nat), 786 - k < fu → k ≤ 785 → (∀ j, j < k → fitb cm m2 j = false) → ∀ (ls : Array Slot), lv_has ls 3 [(0, .ref q), (1, .int (nI m2)), (2, .int (nI k))] → W p l e ({ frames := 2, cells := 0, slots := 0, locals := 44 } : Room) s m args below meth cod s.heap [] 0 0 Q (F0 m 2 ls []) := by
    intro fu
    induction fu with
    | zero => intro k hm; exact absurd hm (Nat.not_lt_zero _)
    | succ fu ih2 =>
      intro k hm2 hk hn ls hl
      refine lv_iload_n hx hb dX2_firstFit_2 rfl (lv_at hl 2 rfl) ?_
      refine lv_sipush (v := (nI 784)) hx hb dX2_firstFit_3 (by decide) ?_
      refine r_icmp_gt (P := 784 < k) (tgt := 26) hx hb dX2_firstFit_6 (by decide) (nI_ltI (by omega) (by omega)) (fun c6 => ?_) (fun c6 => ?_)
      · refine lv_bipush (v := (e9 1000)) hx hb dX2_firstFit_26 (by decide) ?_
        exact hret _ _ _ dX2_firstFit_28 (by unfold ffit; rw [fst?_none (fun j hj => hn j (by omega))])
      · refine lv_aload_n hx hb dX2_firstFit_9 rfl (lv_at hl 0 rfl) ?_
        refine lv_iload_n hx hb dX2_firstFit_10 rfl (lv_at hl 2 rfl) ?_
        refine lv_iload_n hx hb dX2_firstFit_11 rfl (lv_at hl 1 rfl) ?_
        refine g_ro (k_V (q0 := 0) (ci := 2) (n := 2) (As := [.int (nI k), .int (nI m2)]) (rest := []) (wc := [ob q 2 [.ref b1, .ref b2], ar G b1 800 (fun j => e9 (cv j)), ar G b2 800 (fun j => e9 (cm j))]) hx hb hml hown hts (c_X2_fitsAt (l := l) (G := G) (q := q) (b1 := b1) (b2 := b2) (cv := cv) (cm := cm) (s1 := k) (m2 := m2) (hv := by first | assumption | omega) (hm := by first | assumption | omega) (hs := by first | assumption | omega) (hm2 := by first | assumption | omega))  gX2_firstFit_X2_fitsAt rfl rfl rfl (by decide +kernel) ⟨Nat.le_of_ble_eq_true rfl, Nat.le_of_ble_eq_true rfl⟩ rfl hK hP hD [0, 1, 2] rfl (by decide)  rfl rfl rfl hl.1 rfl (Nat.le_of_ble_eq_true rfl) dX2_firstFit_12 ⟨Nat.le_of_ble_eq_true rfl, Nat.le_of_ble_eq_true rfl⟩) (fun r12 h12 => ?_)
        obtain rfl : r12 = (bI (fitb cm m2 k)) := h12
        refine r_if_eq (P := (fitb cm m2 k) = false) (tgt := 20) hx hb dX2_firstFit_15 (by decide) (bI_eq0) (fun c15 => ?_) (fun c15 => ?_)
        · refine r_iinc (v := k + 1) (lv' := [(2, .int (nI (k + 1))), (0, .ref q), (1, .int (nI m2))]) hx hb dX2_firstFit_20 hl (k := 2) rfl (nI_1 _) (by decide) rfl (fun ls hl => ?_)
          refine lv_goto (tgt := 2) hx hb dX2_firstFit_23 (by decide) ?_
          exact ih2 (k + 1) (by omega) (by omega) (lt_s hn c15) ls (lv_sub hl [1, 2, 0] rfl)
        · refine lv_iload_n hx hb dX2_firstFit_18 rfl (lv_at hl 2 rfl) ?_
          exact hret _ _ _ dX2_firstFit_19 (by unfold ffit; rw [fst?_some (k := k) (by omega) (Bool.of_not_eq_false c15) hn]; exact (e9_n (by omega)).symm)
  exact L2 ((786 - 0) + 1) 0 (Nat.lt_succ_self _) (by omega) (fun j hj => absurd hj (Nat.not_lt_zero j)) ls (lv_sub hl [1, 2, 0] rfl)

theorem lst_t {p : Nat → Bool} {n : Nat} (h : p n = true) : lst p (n + 1) = n + 1 := by unfold lst; rw [if_pos h]
theorem lst_f {p : Nat → Bool} {n : Nat} (h : p n = false) : lst p (n + 1) = lst p n := by
  show (if p n then n + 1 else lst p n) = _
  rw [h]; rfl
theorem nem_t {cm : Nat → Nat} {k : Nat} (h : emp cm k = false) : nem cm k = true := by
  unfold emp at h; unfold nem
  exact decide_eq_true (of_decide_eq_false h)
theorem nem_f {cm : Nat → Nat} {k : Nat} (h : ¬ emp cm k = false) : nem cm k = false := by
  have h := Bool.of_not_eq_false h
  unfold emp at h; unfold nem
  exact decide_eq_false (fun z => z (of_decide_eq_true h))
def up1 (y : Nat) : Nat := if y = 1000 then 0 else y + 1
def dn (y : Nat) : Nat := if y = 0 then 1000 else y - 1
theorem up1_n {y : Nat} (h : ¬ y = 1000) : up1 y = y + 1 := if_neg h
theorem dn_up {y : Nat} (h : y < 1000) : up1 (dn y) = y := by
  unfold up1 dn
  by_cases e : y = 0
  · rw [if_pos e, if_pos rfl, e]
  · rw [if_neg e, if_neg (by omega)]; omega
theorem dn_le {y n : Nat} (h : y < n) : dn y < n ∨ dn y = 1000 := by
  unfold dn; split
  · exact Or.inr rfl
  · exact Or.inl (by omega)
theorem dn_ok {y : Nat} (h : y < 1000) : e1 y + Int32.ofInt (-1) = e1 (dn y) := by
  unfold dn
  by_cases e : y = 0
  · subst e; rfl
  · rw [if_neg e, e1_n (by omega), e1_n (by omega)]; exact r_dec (by omega)
set_option maxHeartbeats 4000000 in
set_option maxRecDepth 100000 in
theorem c_X2_endOfCells (l : Launch) (G : kG) (q b1 b2 : Nat) (cv cm : Nat → Nat) (hv : Bc 100 cv) (hm : Bc 24 cm) : Met l yX2_endOfCells wsX2_endOfCells ({ frames := 1, cells := 0, slots := 0, locals := 21 } : Room) (cP G [.ref q] [ob q 2 [.ref b1, .ref b2], ar G b1 800 (fun j => e9 (cv j)), ar G b2 800 (fun j => e9 (cm j))]) (vp_Si (fun x => x = (nI (endc cm)))) 0 0 (fun _ => False) := by
  refine met_ro (cc := cX2_endOfCells) (maxL := 2) (ty := .int) (own := RX2) (by decide) rfl rfl (fun _ _ => rfl) (Nat.le_of_ble_eq_true rfl) ?_
  intro p e s m args below meth cod Q hx hb hml hown hts hK hP hD hret ls hl
  have hl : lv_has ls 2 [(0, .ref q)] := hl
  refine lv_sipush (v := (e1 799)) hx hb dX2_endOfCells_0 (by decide) ?_
  refine lv_istore_n (lv' := [(1, .int (e1 799)), (0, .ref q)]) hx hb dX2_endOfCells_3 rfl hl (by decide) rfl (fun ls hl => ?_)
  have L4 : ∀ (fu : Nat) (y : Nat), up1 y < fu → y < 800 ∨ y = 1000 → endc cm = lst (nem cm) (up1 y) → ∀ (ls : Array Slot), lv_has ls 2 [(0, .ref q), (1, .int (e1 y))] → W p l e ({ frames := 1, cells := 0, slots := 0, locals := 21 } : Room) s m args below meth cod s.heap [] 0 0 Q (F0 m 4 ls []) := by
    intro fu
    induction fu with
    | zero => intro y hm; exact absurd hm (Nat.not_lt_zero _)
    | succ fu ih4 =>
      intro y hm4 hy he ls hl
      refine lv_iload_n hx hb dX2_endOfCells_4 rfl (lv_at hl 1 rfl) ?_
      refine r_if_lt (P := y = 1000) (tgt := 26) hx hb dX2_endOfCells_5 (by decide) (e1_lt0 (by omega)) (fun c5 => ?_) (fun c5 => ?_)
      · refine lv_iconst (v := (nI 0)) hx hb dX2_endOfCells_26 (by decide) ?_
        exact hret _ _ _ dX2_endOfCells_27 (by rw [he, c5]; rfl)
      · refine lv_aload_n hx hb dX2_endOfCells_8 rfl (lv_at hl 0 rfl) ?_
        refine lv_iload_n hx hb dX2_endOfCells_9 rfl (lv_at hl 1 rfl) ?_
        refine r_top (y := (nI y)) (e1_n c5) ?_
        refine g_ro (k_V (q0 := 0) (ci := 2) (n := 1) (As := [.int (nI y)]) (rest := []) (wc := [ob q 2 [.ref b1, .ref b2], ar G b1 800 (fun j => e9 (cv j)), ar G b2 800 (fun j => e9 (cm j))]) hx hb hml hown hts (c_X2_isEmptyAt (l := l) (G := G) (q := q) (b1 := b1) (b2 := b2) (cv := cv) (cm := cm) (k := y) (hv := by first | assumption | omega) (hm := by first | assumption | omega) (hk := by first | assumption | omega))  gX2_endOfCells_X2_isEmptyAt rfl rfl rfl (by decide +kernel) ⟨Nat.le_of_ble_eq_true rfl, Nat.le_of_ble_eq_true rfl⟩ rfl hK hP hD [0, 1, 2] rfl (by decide)  rfl rfl rfl hl.1 rfl (Nat.le_of_ble_eq_true rfl) dX2_endOfCells_10 ⟨Nat.le_of_ble_eq_true rfl, Nat.le_of_ble_eq_true rfl⟩) (fun r10 h10 => ?_)
        obtain rfl : r10 = (bI (emp cm y)) := h10
        refine r_if_ne (P := (emp cm y) = false) (tgt := 20) hx hb dX2_endOfCells_13 (by decide) (bI_eq0) (fun c13 => ?_) (fun c13 => ?_)
        · refine lv_iinc (v := (e1 (dn y))) (lv' := [(1, .int (e1 (dn y))), (0, .ref q)]) hx hb dX2_endOfCells_20 hl (k := 1) rfl (dn_ok (by omega)) (by decide) rfl (fun ls hl => ?_)
          refine lv_goto (tgt := 4) hx hb dX2_endOfCells_23 (by decide) ?_
          exact ih4 (dn y) (by rw [dn_up (by omega)]; rw [up1_n c5] at hm4; omega) (dn_le (by omega)) (by rw [he, up1_n c5, dn_up (by omega)]; exact lst_f (nem_f c13)) ls (lv_sub hl [1, 0] rfl)
        · refine lv_iload_n hx hb dX2_endOfCells_16 rfl (lv_at hl 1 rfl) ?_
          refine r_top (y := (nI y)) (e1_n c5) ?_
          refine lv_iconst (v := (nI 1)) hx hb dX2_endOfCells_17 (by decide) ?_
          refine r_iadd (v := y + 1) hx hb dX2_endOfCells_18 rfl ?_
          exact hret _ _ _ dX2_endOfCells_19 (by rw [he, up1_n c5, lst_t (nem_t c13)])
  exact L4 ((up1 799) + 1) 799 (Nat.lt_succ_self _) (Or.inl (by decide)) (rfl) ls (lv_sub hl [1, 0] rfl)

set_option maxHeartbeats 4000000 in
set_option maxRecDepth 100000 in
theorem c_X2_filledCells (l : Launch) (G : kG) (q b1 b2 : Nat) (cv cm : Nat → Nat) (hv : Bc 100 cv) (hm : Bc 24 cm) : Met l yX2_filledCells wsX2_filledCells ({ frames := 1, cells := 0, slots := 0, locals := 21 } : Room) (cP G [.ref q] [ob q 2 [.ref b1, .ref b2], ar G b1 800 (fun j => e9 (cv j)), ar G b2 800 (fun j => e9 (cm j))]) (vp_Si (fun x => x = (nI (fil cm)))) 0 0 (fun _ => False) := by
  refine met_ro (cc := cX2_filledCells) (maxL := 3) (ty := .int) (own := RX2) (by decide) rfl rfl (fun _ _ => rfl) (Nat.le_of_ble_eq_true rfl) ?_
  intro p e s m args below meth cod Q hx hb hml hown hts hK hP hD hret ls hl
  have hl : lv_has ls 3 [(0, .ref q)] := hl
  refine lv_iconst (v := (nI 0)) hx hb dX2_filledCells_0 (by decide) ?_
  refine lv_istore_n (lv' := [(1, .int (nI 0)), (0, .ref q)]) hx hb dX2_filledCells_1 rfl hl (by decide) rfl (fun ls hl => ?_)
  refine lv_iconst (v := (nI 0)) hx hb dX2_filledCells_2 (by decide) ?_
  refine lv_istore_n (lv' := [(2, .int (nI 0)), (1, .int (nI 0)), (0, .ref q)]) hx hb dX2_filledCells_3 rfl hl (by decide) rfl (fun ls hl => ?_)
  have L4 : ∀ (fu : Nat) (c : Nat) (k : Nat), 801 - c < fu → c ≤ 800 → k = fb_ct (nem cm) c → k ≤ c → ∀ (ls : Array Slot), lv_has ls 3 [(0, .ref q), (1, .int (nI k)), (2, .int (nI c))] → W p l e ({ frames := 1, cells := 0, slots := 0, locals := 21 } : Room) s m args below meth cod s.heap [] 0 0 Q (F0 m 4 ls []) := by
    intro fu
    induction fu with
    | zero => intro c k hm; exact absurd hm (Nat.not_lt_zero _)
    | succ fu ih4 =>
      intro c k hm4 hc hk hkc ls hl
      refine lv_iload_n hx hb dX2_filledCells_4 rfl (lv_at hl 2 rfl) ?_
      refine lv_sipush (v := (nI 800)) hx hb dX2_filledCells_5 (by decide) ?_
      refine r_icmp_ge (P := 800 ≤ c) (tgt := 28) hx hb dX2_filledCells_8 (by decide) (nI_leI (by omega) (by omega)) (fun c8 => ?_) (fun c8 => ?_)
      · refine lv_iload_n hx hb dX2_filledCells_28 rfl (lv_at hl 1 rfl) ?_
        exact hret _ _ _ dX2_filledCells_29 (by have e : c = 800 := (by omega); rw [hk, e]; rfl)
      · refine lv_aload_n hx hb dX2_filledCells_11 rfl (lv_at hl 0 rfl) ?_
        refine lv_iload_n hx hb dX2_filledCells_12 rfl (lv_at hl 2 rfl) ?_
        refine g_ro (k_V (q0 := 0) (ci := 2) (n := 1) (As := [.int (nI c)]) (rest := []) (wc := [ob q 2 [.ref b1, .ref b2], ar G b1 800 (fun j => e9 (cv j)), ar G b2 800 (fun j => e9 (cm j))]) hx hb hml hown hts (c_X2_isEmptyAt (l := l) (G := G) (q := q) (b1 := b1) (b2 := b2) (cv := cv) (cm := cm) (k := c) (hv := by first | assumption | omega) (hm := by first | assumption | omega) (hk := by first | assumption | omega))  gX2_filledCells_X2_isEmptyAt rfl rfl rfl (by decide +kernel) ⟨Nat.le_of_ble_eq_true rfl, Nat.le_of_ble_eq_true rfl⟩ rfl hK hP hD [0, 1, 2] rfl (by decide)  rfl rfl rfl hl.1 rfl (Nat.le_of_ble_eq_true rfl) dX2_filledCells_13 ⟨Nat.le_of_ble_eq_true rfl, Nat.le_of_ble_eq_true rfl⟩) (fun r13 h13 => ?_)
        obtain rfl : r13 = (bI (emp cm c)) := h13
        refine r_if_ne (P := (emp cm c) = false) (tgt := 22) hx hb dX2_filledCells_16 (by decide) (bI_eq0) (fun c16 => ?_) (fun c16 => ?_)
        · refine r_iinc (v := c + 1) (lv' := [(2, .int (nI (c + 1))), (0, .ref q), (1, .int (nI k))]) hx hb dX2_filledCells_22 hl (k := 2) rfl (nI_1 _) (by decide) rfl (fun ls hl => ?_)
          refine lv_goto (tgt := 4) hx hb dX2_filledCells_25 (by decide) ?_
          exact ih4 (c + 1) k (by omega) (by omega) (ct_f (nem_f c16) hk) (by omega) ls (lv_sub hl [1, 2, 0] rfl)
        · refine r_iinc (v := k + 1) (lv' := [(1, .int (nI (k + 1))), (0, .ref q), (2, .int (nI c))]) hx hb dX2_filledCells_19 hl (k := 1) rfl (nI_1 _) (by decide) rfl (fun ls hl => ?_)
          refine r_iinc (v := c + 1) (lv' := [(2, .int (nI (c + 1))), (1, .int (nI (k + 1))), (0, .ref q)]) hx hb dX2_filledCells_22 hl (k := 2) rfl (nI_1 _) (by decide) rfl (fun ls hl => ?_)
          refine lv_goto (tgt := 4) hx hb dX2_filledCells_25 (by decide) ?_
          exact ih4 (c + 1) (k + 1) (by omega) (by omega) (ct_t (nem_t c16) hk) (by omega) ls (lv_sub hl [2, 1, 0] rfl)
  exact L4 ((801 - 0) + 1) 0 0 (Nat.lt_succ_self _) (by omega) (rfl) (Nat.le_refl _) ls (lv_sub hl [2, 1, 0] rfl)
end
section
/-! what the table's methods do, as functions -/
noncomputable def dcd (P : Prop) : Bool := @decide P (Classical.propDecidable P)
theorem dcd_t {P : Prop} : dcd P = true ↔ P := @decide_eq_true_iff P (Classical.propDecidable P)
theorem dcd_f {P : Prop} : dcd P = false ↔ ¬ P := @decide_eq_false_iff_not P (Classical.propDecidable P)
abbrev Tb : Type := Sg × (Nat → Nat) × (Nat → Nat)
abbrev setF (σ : Sg) (r f : Nat) : Sg := (nn σ, dd σ, vv σ, va_up (ff σ) r f, ss σ)
abbrev setS (σ : Sg) (f s : Nat) : Sg := (nn σ, dd σ, vv σ, ff σ, va_up (ss σ) f s)
theorem up_all {P : Nat → Prop} {g : Nat → Nat} (h : ∀ k, P (g k)) {k x : Nat} (hx : P x) : ∀ j, P (va_up g k x j) := fun j => by
  unfold va_up; split
  · exact hx
  · exact h j
theorem Bd_setF {σ : Sg} (h : Bd σ) {r f : Nat} (hf : f < 24 ∨ f = 1000) : Bd (setF σ r f) := ⟨h.1, h.2.1, h.2.2.1, up_all (P := fun x => x < 24 ∨ x = 1000) h.2.2.2.1 hf, h.2.2.2.2⟩
theorem Bd_setS {σ : Sg} (h : Bd σ) {f s : Nat} (hf : s ≤ 784 ∨ s = 1000) : Bd (setS σ f s) := ⟨h.1, h.2.1, h.2.2.1, h.2.2.2.1, up_all (P := fun x => x ≤ 784 ∨ x = 1000) h.2.2.2.2 hf⟩
def lvT (σ : Sg) (cv cm : Nat → Nat) (r : Nat) : Tb :=
  if shf σ (ff σ r) ≠ 1000 ∧ shr (setF σ r 1000) (ff σ r) = 0 then (setS (setF σ r 1000) (ff σ r) 1000, tkF cv cm (ff σ r) (shf σ (ff σ r)) (shf σ (ff σ r) + 16), tkF cm cm (ff σ r) (shf σ (ff σ r)) (shf σ (ff σ r) + 16))
  else (setF σ r 1000, cv, cm)
/-- a form has the entries of a row -/
noncomputable def hasE (σ : Sg) (cv cm : Nat → Nat) (f r : Nat) : Bool := dcd (shf σ f ≠ 1000 ∧ ∀ c, c < 16 → (cm (shf σ f + c) = f ↔ ent σ r c = true) ∧ (cm (shf σ f + c) = f → cv (shf σ f + c) = vv σ (r * 16 + c)))
noncomputable def fwe (σ : Sg) (cv cm : Nat → Nat) (r : Nat) : Nat := fst? (fun f => hasE σ cv cm f r) 24
theorem fwe_le (σ : Sg) (cv cm : Nat → Nat) (r : Nat) : fwe σ cv cm r < 24 ∨ fwe σ cv cm r = 1000 := fst?_le _ _
/-- a row's cells are filled, h columns -/
def flV (σ : Sg) (g : Nat → Nat) (r s h : Nat) : Nat → Nat := fun k => if s ≤ k ∧ k < s + h ∧ ent σ r (k - s) = true then vv σ (r * 16 + (k - s)) else g k
def flM (σ : Sg) (g : Nat → Nat) (r s h : Nat) : Nat → Nat := fun k => if s ≤ k ∧ k < s + h ∧ ent σ r (k - s) = true then ff σ r else g k
theorem fl_0 {σ : Sg} {g : Nat → Nat} {r s : Nat} : flV σ g r s 0 = g ∧ flM σ g r s 0 = g := by
  constructor <;> (funext k; first | unfold flV | unfold flM) <;> (rw [if_neg]; omega)
theorem flV_t {σ : Sg} {g : Nat → Nat} {r s h : Nat} (he : ent σ r h = true) : va_up (flV σ g r s h) (s + h) (vv σ (r * 16 + h)) = flV σ g r s (h + 1) := by
  funext k; unfold va_up flV
  by_cases e : k = s + h
  · subst e
    rw [if_pos rfl, Nat.add_sub_cancel_left, if_pos ⟨by omega, by omega, he⟩]
  · rw [if_neg e]
    by_cases q : s ≤ k ∧ k < s + h ∧ ent σ r (k - s) = true
    · rw [if_pos q, if_pos ⟨q.1, by omega, q.2.2⟩]
    · rw [if_neg q, if_neg (fun z => q ⟨z.1, by omega, z.2.2⟩)]
theorem flM_t {σ : Sg} {g : Nat → Nat} {r s h : Nat} (he : ent σ r h = true) : va_up (flM σ g r s h) (s + h) (ff σ r) = flM σ g r s (h + 1) := by
  funext k; unfold va_up flM
  by_cases e : k = s + h
  · subst e
    rw [if_pos rfl, Nat.add_sub_cancel_left, if_pos ⟨by omega, by omega, he⟩]
  · rw [if_neg e]
    by_cases q : s ≤ k ∧ k < s + h ∧ ent σ r (k - s) = true
    · rw [if_pos q, if_pos ⟨q.1, by omega, q.2.2⟩]
    · rw [if_neg q, if_neg (fun z => q ⟨z.1, by omega, z.2.2⟩)]
theorem fl_f {σ : Sg} {g : Nat → Nat} {r s h : Nat} (he : ent σ r h = false) : flV σ g r s h = flV σ g r s (h + 1) ∧ flM σ g r s h = flM σ g r s (h + 1) := by
  have key : ∀ k, (s ≤ k ∧ k < s + h ∧ ent σ r (k - s) = true) ↔ (s ≤ k ∧ k < s + (h + 1) ∧ ent σ r (k - s) = true) := by
    intro k
    constructor
    · rintro ⟨a, b, c⟩; exact ⟨a, by omega, c⟩
    · rintro ⟨a, b, c⟩
      refine ⟨a, ?_, c⟩
      rcases Nat.lt_or_ge k (s + h) with q | q
      · exact q
      · have : k - s = h := by omega
        rw [this, he] at c; cases c
  constructor <;> (funext k; first | unfold flV | unfold flM) <;> (by_cases q : s ≤ k ∧ k < s + h ∧ ent σ r (k - s) = true)
  · rw [if_pos q, if_pos ((key k).mp q)]
  · rw [if_neg q, if_neg (fun z => q ((key k).mpr z))]
  · rw [if_pos q, if_pos ((key k).mp q)]
  · rw [if_neg q, if_neg (fun z => q ((key k).mpr z))]
theorem flV_Bc {σ : Sg} (h : Bd σ) {g : Nat → Nat} (hg : Bc 100 g) {r s n : Nat} : Bc 100 (flV σ g r s n) := fun k => by
  unfold flV; split
  · exact Or.inl (h.v _)
  · exact hg k
theorem flM_Bc {σ : Sg} (h : Bd σ) {g : Nat → Nat} (hg : Bc 24 g) {r s n : Nat} : Bc 24 (flM σ g r s n) := fun k => by
  unfold flM; split
  · exact h.f r
  · exact hg k
def fcT (σ : Sg) (cv cm : Nat → Nat) (r : Nat) : Tb := if shf σ (ff σ r) = 1000 then (σ, cv, cm) else (σ, flV σ cv r (shf σ (ff σ r)) 16, flM σ cm r (shf σ (ff σ r)) 16)
def pnT (σ : Sg) (cv cm : Nat → Nat) (r m2 : Nat) : Tb :=
  if frf σ = 1000 ∨ ffit cm m2 = 1000 then (σ, cv, cm) else fcT (setS (setF σ r (frf σ)) (frf σ) (ffit cm m2)) cv cm r
noncomputable def stT (σ : Sg) (cv cm : Nat → Nat) (r : Nat) : Tb :=
  if hasE σ cv cm (ff σ r) r = true then (σ, cv, cm)
  else if cols (lvT σ cv cm r).1 r = 0 then lvT σ cv cm r
  else if fwe (lvT σ cv cm r).1 (lvT σ cv cm r).2.1 (lvT σ cv cm r).2.2 r = 1000 then pnT (setF (lvT σ cv cm r).1 r 1000) (lvT σ cv cm r).2.1 (lvT σ cv cm r).2.2 r (cols (lvT σ cv cm r).1 r)
  else (setF (lvT σ cv cm r).1 r (fwe (lvT σ cv cm r).1 (lvT σ cv cm r).2.1 (lvT σ cv cm r).2.2 r), (lvT σ cv cm r).2)
noncomputable def stU (t : Tb) (r : Nat) : Tb := stT t.1 t.2.1 t.2.2 r
noncomputable def pwI (w : Nat) (t : Tb) : Nat → Tb
  | 0 => t
  | k + 1 => if wt (pwI w t k).1 k = w then stU (pwI w t k) k else pwI w t k
theorem pwI_t {w : Nat} {t : Tb} {k : Nat} (h : wt (pwI w t k).1 k = w) : pwI w t (k + 1) = stU (pwI w t k) k := if_pos h
theorem pwI_f {w : Nat} {t : Tb} {k : Nat} (h : ¬ wt (pwI w t k).1 k = w) : pwI w t (k + 1) = pwI w t k := if_neg h
noncomputable def pwO (n : Nat) (t : Tb) : Nat → Tb
  | 0 => t
  | j + 1 => pwI (16 - j) (pwO n t j) n
noncomputable def pnN (t : Tb) : Nat → Tb
  | 0 => t
  | k + 1 => stU (pnN t k) k
abbrev bare (σ : Sg) : Tb := ((nn σ, dd σ, vv σ, fun _ => 1000, fun _ => 1000), fun _ => 1000, fun _ => 1000)
noncomputable def paw (σ : Sg) : Tb := pwO (nn σ) (bare σ) 16
noncomputable def pan (σ : Sg) : Tb := pnN (bare σ) (nn σ)
def rsT (σ : Sg) : Nat → Tb
  | 0 => (σ, fun _ => 1000, fun _ => 1000)
  | k + 1 => fcT σ (rsT σ k).2.1 (rsT σ k).2.2 k
def luk (σ : Sg) (cv cm : Nat → Nat) (r c : Nat) : Nat := if shf σ (ff σ r) ≠ 1000 ∧ cm (shf σ (ff σ r) + c) = ff σ r then cv (shf σ (ff σ r) + c) else dd σ r
def rfP (σ : Sg) (cm : Nat → Nat) (r : Nat) : Nat → Bool := fun c => nem cm (shf σ (ff σ r) + c) && decide (cm (shf σ (ff σ r) + c) ≠ ff σ r)
def rfo (σ : Sg) (cm : Nat → Nat) (r : Nat) : Nat := if shf σ (ff σ r) = 1000 then 0 else fb_ct (rfP σ cm r) 16
theorem rfo_le (σ : Sg) (cm : Nat → Nat) (r : Nat) : rfo σ cm r ≤ 16 := by
  unfold rfo; split
  · omega
  · exact fb_ct_le _ _
def rfs (σ : Sg) (cm : Nat → Nat) : Nat → Nat := fb_sm (rfo σ cm)
theorem rfs_le (σ : Sg) (cm : Nat → Nat) (n : Nat) : rfs σ cm n ≤ n * 16 := fb_sm_bound (fun k _ => rfo_le σ cm k)
theorem Bd_bare {σ : Sg} (h : Bd σ) : Bd (nn σ, dd σ, vv σ, fun _ => 1000, fun _ => 1000) := ⟨h.1, h.2.1, h.2.2.1, fun _ => Or.inr rfl, fun _ => Or.inr rfl⟩
theorem Bc_none {n : Nat} : Bc n (fun _ => 1000) := fun _ => Or.inr rfl
theorem hasE_f {σ : Sg} {cv cm : Nat → Nat} {f r : Nat} (h : ¬ (shf σ f ≠ 1000 ∧ ∀ c, c < 16 → (cm (shf σ f + c) = f ↔ ent σ r c = true) ∧ (cm (shf σ f + c) = f → cv (shf σ f + c) = vv σ (r * 16 + c)))) : hasE σ cv cm f r = false := dcd_f.mpr h
theorem stT_1 {σ : Sg} {cv cm : Nat → Nat} {r : Nat} (h : hasE σ cv cm (ff σ r) r = true) : stT σ cv cm r = (σ, cv, cm) := if_pos h
theorem stT_2 {σ σ1 : Sg} {cv cm cv1 cm1 : Nat → Nat} {r : Nat} (h : hasE σ cv cm (ff σ r) r = false) (e : (σ1, cv1, cm1) = lvT σ cv cm r) (hc : cols σ1 r = 0) : stT σ cv cm r = (σ1, cv1, cm1) := by
  unfold stT; rw [if_neg (by rw [h]; exact Bool.false_ne_true), ← e, if_pos hc]
theorem stT_3 {σ σ1 : Sg} {cv cm cv1 cm1 : Nat → Nat} {r : Nat} (h : hasE σ cv cm (ff σ r) r = false) (e : (σ1, cv1, cm1) = lvT σ cv cm r) (hc : ¬ cols σ1 r = 0) (hf : fwe σ1 cv1 cm1 r = 1000) : stT σ cv cm r = pnT (setF σ1 r 1000) cv1 cm1 r (cols σ1 r) := by
  unfold stT; rw [if_neg (by rw [h]; exact Bool.false_ne_true), ← e, if_neg hc, if_pos hf]
theorem stT_4 {σ σ1 : Sg} {cv cm cv1 cm1 : Nat → Nat} {r : Nat} (h : hasE σ cv cm (ff σ r) r = false) (e : (σ1, cv1, cm1) = lvT σ cv cm r) (hc : ¬ cols σ1 r = 0) (hf : ¬ fwe σ1 cv1 cm1 r = 1000) : stT σ cv cm r = (setF σ1 r (fwe σ1 cv1 cm1 r), cv1, cm1) := by
  unfold stT; rw [if_neg (by rw [h]; exact Bool.false_ne_true), ← e, if_neg hc, if_neg hf]
theorem bI_inj {a b : Bool} : bI a = bI b ↔ a = b := by cases a <;> cases b <;> decide
theorem shf_ne {σ : Sg} {f : Nat} (h : ¬ shf σ f = 1000) : f < 24 := by
  rcases Nat.lt_or_ge f 24 with q | q
  · exact q
  · exact absurd (by unfold shf; rw [if_neg (by omega)]) h
theorem nn_lvT (σ : Sg) (cv cm : Nat → Nat) (r : Nat) : nn (lvT σ cv cm r).1 = nn σ := by unfold lvT; split <;> rfl
theorem nn_fcT (σ : Sg) (cv cm : Nat → Nat) (r : Nat) : (fcT σ cv cm r).1 = σ := by unfold fcT; split <;> rfl
theorem nn_pnT (σ : Sg) (cv cm : Nat → Nat) (r m2 : Nat) : nn (pnT σ cv cm r m2).1 = nn σ := by
  unfold pnT; split
  · rfl
  · rw [nn_fcT]
theorem nn_stT (σ : Sg) (cv cm : Nat → Nat) (r : Nat) : nn (stT σ cv cm r).1 = nn σ := by
  unfold stT
  split
  · rfl
  · split
    · exact nn_lvT _ _ _ _
    · split
      · rw [nn_pnT]; exact nn_lvT _ _ _ _
      · exact nn_lvT _ _ _ _
theorem nn_of {σ σ1 : Sg} {cv cm cv1 cm1 : Nat → Nat} {r : Nat} (h : (σ1, cv1, cm1) = stT σ cv cm r) : nn σ1 = nn σ := by
  rw [← nn_stT σ cv cm r, ← h]
end
section
theorem rfP_e {σ : Sg} {cm : Nat → Nat} {r s1 c : Nat} (hs : s1 = shf σ (ff σ r)) (hc : s1 ≤ c) : rfP σ cm r (c - s1) = (nem cm c && decide (cm c ≠ ff σ r)) := sorry
end
