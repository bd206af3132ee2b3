section
/-! ===== BEGIN words of one list among another's, by their places ===== -/
theorem goodIn_r {big : List Cond} (ws : List Cond) (ps : List Nat) (hp : ws = ps.filterMap (fun i => big[i]?)) (h : ws.all goodWord = true) : GoodIn big ws := by
  intro w hw
  have h1 := List.all_eq_true.mp h w hw
  rw [hp] at hw
  obtain ⟨i, -, hi⟩ := List.mem_filterMap.mp hw
  have hm : w ∈ big := by first | exact List.mem_of_getElem? hi | exact List.getElem?_mem hi
  exact ⟨hm, good_of_word h1⟩
theorem goodIn_app {big a b : List Cond} (ha : GoodIn big a) (hb : GoodIn big b) : GoodIn big (a ++ b) := fun w h => (List.mem_append.mp h).elim (ha w) (hb w)
theorem goodIn_ca {big a b : List Cond} {c : Cond} (ha : GoodIn big (c :: a)) (hb : GoodIn big b) : GoodIn big (c :: (a ++ b)) := fun w h => (List.mem_cons.mp h).elim (fun e => ha w (List.mem_cons.mpr (Or.inl e))) (fun h => (List.mem_append.mp h).elim (fun h => ha w (List.mem_cons.mpr (Or.inr h))) (hb w))
theorem goodIn_sub {big ws : List Cond} (hm : ∀ w ∈ ws, w ∈ big) (h : ws.all goodWord = true) : GoodIn big ws := fun w hw => ⟨hm w hw, good_of_word (List.all_eq_true.mp h w hw)⟩
/-! ===== END ===== -/

/-! ===== BEGIN printed: names, fields, word lists, decode rows ===== -/
def RX0 : String := "PushedTables$History"
def TX0 : u_T := fun k => match k with
  | 0 => ("PushedTables$History", "size", "I", false)
  | _ => ("PushedTables$History", "states", "[LPushedTables$State;", true)
def tyX0 : Nat → FieldType := fun k => match k with
  | 0 => .int
  | _ => .array (.object "PushedTables$State")
abbrev wsX00 : List Cond := u_ws RX0 TX0 2
theorem nmX0 : ∀ a, a < 2 → ∀ b, b < 2 → a ≠ b → (TX0 a).2.1 ≠ (TX0 b).2.1 := by decide +kernel
theorem tyX0_ok : ∀ k, k < 2 → parseFieldDescriptor (TX0 k).2.2.1 = some (tyX0 k) := by decide +kernel
abbrev cX0_init : ByteArray := prog_2_method_1_code
def yX0_init : MethodName := ⟨RX0, "<init>", "()V"⟩
abbrev cX0_remember : ByteArray := prog_2_method_2_code
def yX0_remember : MethodName := ⟨RX0, "remember", "(LPushedTables$State;)V"⟩
abbrev cX0_dropOldest : ByteArray := prog_2_method_3_code
def yX0_dropOldest : MethodName := ⟨RX0, "dropOldest", "()V"⟩
abbrev cX0_takeLatest : ByteArray := prog_2_method_4_code
def yX0_takeLatest : MethodName := ⟨RX0, "takeLatest", "()LPushedTables$State;"⟩
def RX1 : String := "PushedTables$State"
def TX1 : u_T := fun k => match k with
  | 0 => ("PushedTables$State", "rowCount", "I", false)
  | 1 => ("PushedTables$State", "defaults", "[I", true)
  | 2 => ("PushedTables$State", "values", "[I", true)
  | 3 => ("PushedTables$State", "forms", "[I", true)
  | _ => ("PushedTables$State", "shifts", "[I", true)
def tyX1 : Nat → FieldType := fun k => match k with
  | 0 => .int
  | 1 => .array .int
  | 2 => .array .int
  | 3 => .array .int
  | _ => .array .int
abbrev wsX10 : List Cond := u_ws RX1 TX1 5
theorem nmX1 : ∀ a, a < 5 → ∀ b, b < 5 → a ≠ b → (TX1 a).2.1 ≠ (TX1 b).2.1 := by decide +kernel
theorem tyX1_ok : ∀ k, k < 5 → parseFieldDescriptor (TX1 k).2.2.1 = some (tyX1 k) := by decide +kernel
abbrev cX1_init : ByteArray := prog_3_method_1_code
def yX1_init : MethodName := ⟨RX1, "<init>", "()V"⟩
abbrev cX1_copyFrom : ByteArray := prog_3_method_2_code
def yX1_copyFrom : MethodName := ⟨RX1, "copyFrom", "(LPushedTables$State;)V"⟩
abbrev cX1_forgetForms : ByteArray := prog_3_method_3_code
def yX1_forgetForms : MethodName := ⟨RX1, "forgetForms", "()V"⟩
abbrev cX1_addRow : ByteArray := prog_3_method_4_code
def yX1_addRow : MethodName := ⟨RX1, "addRow", "(I)I"⟩
abbrev cX1_valueAt : ByteArray := prog_3_method_5_code
def yX1_valueAt : MethodName := ⟨RX1, "valueAt", "(II)I"⟩
abbrev cX1_changeValue : ByteArray := prog_3_method_6_code
def yX1_changeValue : MethodName := ⟨RX1, "changeValue", "(III)V"⟩
abbrev cX1_changeDefault : ByteArray := prog_3_method_7_code
def yX1_changeDefault : MethodName := ⟨RX1, "changeDefault", "(II)V"⟩
abbrev cX1_isEntry : ByteArray := prog_3_method_8_code
def yX1_isEntry : MethodName := ⟨RX1, "isEntry", "(II)Z"⟩
abbrev cX1_columnsOf : ByteArray := prog_3_method_9_code
def yX1_columnsOf : MethodName := ⟨RX1, "columnsOf", "(I)I"⟩
abbrev cX1_weightOf : ByteArray := prog_3_method_10_code
def yX1_weightOf : MethodName := ⟨RX1, "weightOf", "(I)I"⟩
abbrev cX1_weightSum : ByteArray := prog_3_method_11_code
def yX1_weightSum : MethodName := ⟨RX1, "weightSum", "()I"⟩
abbrev cX1_commonestValue : ByteArray := prog_3_method_12_code
def yX1_commonestValue : MethodName := ⟨RX1, "commonestValue", "(I)I"⟩
abbrev cX1_slimmerBy : ByteArray := prog_3_method_13_code
def yX1_slimmerBy : MethodName := ⟨RX1, "slimmerBy", "(I)I"⟩
abbrev cX1_cellsWith : ByteArray := prog_3_method_14_code
def yX1_cellsWith : MethodName := ⟨RX1, "cellsWith", "(II)I"⟩
abbrev cX1_mostLike : ByteArray := prog_3_method_15_code
def yX1_mostLike : MethodName := ⟨RX1, "mostLike", "(I)I"⟩
abbrev cX1_equalCells : ByteArray := prog_3_method_16_code
def yX1_equalCells : MethodName := ⟨RX1, "equalCells", "(II)I"⟩
abbrev cX1_shiftOf : ByteArray := prog_3_method_17_code
def yX1_shiftOf : MethodName := ⟨RX1, "shiftOf", "(I)I"⟩
abbrev cX1_formCount : ByteArray := prog_3_method_18_code
def yX1_formCount : MethodName := ⟨RX1, "formCount", "()I"⟩
abbrev cX1_sharersOf : ByteArray := prog_3_method_19_code
def yX1_sharersOf : MethodName := ⟨RX1, "sharersOf", "(I)I"⟩
abbrev cX1_freeForm : ByteArray := prog_3_method_20_code
def yX1_freeForm : MethodName := ⟨RX1, "freeForm", "()I"⟩
def RX2 : String := "PushedTables$Store"
def TX2 : u_T := fun k => match k with
  | 0 => ("PushedTables$Store", "values", "[I", true)
  | _ => ("PushedTables$Store", "marks", "[I", true)
def tyX2 : Nat → FieldType := fun k => match k with
  | 0 => .array .int
  | _ => .array .int
abbrev wsX20 : List Cond := u_ws RX2 TX2 2
theorem nmX2 : ∀ a, a < 2 → ∀ b, b < 2 → a ≠ b → (TX2 a).2.1 ≠ (TX2 b).2.1 := by decide +kernel
theorem tyX2_ok : ∀ k, k < 2 → parseFieldDescriptor (TX2 k).2.2.1 = some (tyX2 k) := by decide +kernel
abbrev cX2_init : ByteArray := prog_4_method_1_code
def yX2_init : MethodName := ⟨RX2, "<init>", "()V"⟩
abbrev cX2_emptyAll : ByteArray := prog_4_method_2_code
def yX2_emptyAll : MethodName := ⟨RX2, "emptyAll", "()V"⟩
abbrev cX2_fillCell : ByteArray := prog_4_method_3_code
def yX2_fillCell : MethodName := ⟨RX2, "fillCell", "(III)V"⟩
abbrev cX2_isEmptyAt : ByteArray := prog_4_method_4_code
def yX2_isEmptyAt : MethodName := ⟨RX2, "isEmptyAt", "(I)Z"⟩
abbrev cX2_takeOut : ByteArray := prog_4_method_5_code
def yX2_takeOut : MethodName := ⟨RX2, "takeOut", "(II)V"⟩
abbrev cX2_filledOf : ByteArray := prog_4_method_6_code
def yX2_filledOf : MethodName := ⟨RX2, "filledOf", "(II)I"⟩
abbrev cX2_firstFit : ByteArray := prog_4_method_7_code
def yX2_firstFit : MethodName := ⟨RX2, "firstFit", "(I)I"⟩
abbrev cX2_fitsAt : ByteArray := prog_4_method_8_code
def yX2_fitsAt : MethodName := ⟨RX2, "fitsAt", "(II)Z"⟩
abbrev cX2_endOfCells : ByteArray := prog_4_method_9_code
def yX2_endOfCells : MethodName := ⟨RX2, "endOfCells", "()I"⟩
abbrev cX2_filledCells : ByteArray := prog_4_method_10_code
def yX2_filledCells : MethodName := ⟨RX2, "filledCells", "()I"⟩
def RX3 : String := "PushedTables$Table"
def TX3 : u_T := fun k => match k with
  | 0 => ("PushedTables$Table", "state", "LPushedTables$State;", true)
  | _ => ("PushedTables$Table", "store", "LPushedTables$Store;", true)
def tyX3 : Nat → FieldType := fun k => match k with
  | 0 => .object "PushedTables$State"
  | _ => .object "PushedTables$Store"
abbrev wsX30 : List Cond := u_ws RX3 TX3 2
theorem nmX3 : ∀ a, a < 2 → ∀ b, b < 2 → a ≠ b → (TX3 a).2.1 ≠ (TX3 b).2.1 := by decide +kernel
theorem tyX3_ok : ∀ k, k < 2 → parseFieldDescriptor (TX3 k).2.2.1 = some (tyX3 k) := by decide +kernel
abbrev cX3_init : ByteArray := prog_5_method_1_code
def yX3_init : MethodName := ⟨RX3, "<init>", "()V"⟩
abbrev cX3_restore : ByteArray := prog_5_method_2_code
def yX3_restore : MethodName := ⟨RX3, "restore", "(LPushedTables$State;)V"⟩
abbrev cX3_fillCellsOf : ByteArray := prog_5_method_3_code
def yX3_fillCellsOf : MethodName := ⟨RX3, "fillCellsOf", "(I)V"⟩
abbrev cX3_settle : ByteArray := prog_5_method_4_code
def yX3_settle : MethodName := ⟨RX3, "settle", "(I)V"⟩
abbrev cX3_leaveForm : ByteArray := prog_5_method_5_code
def yX3_leaveForm : MethodName := ⟨RX3, "leaveForm", "(I)V"⟩
abbrev cX3_formWithEntriesOf : ByteArray := prog_5_method_6_code
def yX3_formWithEntriesOf : MethodName := ⟨RX3, "formWithEntriesOf", "(I)I"⟩
abbrev cX3_hasEntriesOf : ByteArray := prog_5_method_7_code
def yX3_hasEntriesOf : MethodName := ⟨RX3, "hasEntriesOf", "(II)Z"⟩
abbrev cX3_pushNewForm : ByteArray := prog_5_method_8_code
def yX3_pushNewForm : MethodName := ⟨RX3, "pushNewForm", "(II)V"⟩
abbrev cX3_pushAnewByWeights : ByteArray := prog_5_method_9_code
def yX3_pushAnewByWeights : MethodName := ⟨RX3, "pushAnewByWeights", "()V"⟩
abbrev cX3_pushAnewByNumbers : ByteArray := prog_5_method_10_code
def yX3_pushAnewByNumbers : MethodName := ⟨RX3, "pushAnewByNumbers", "()V"⟩
abbrev cX3_takeOutAll : ByteArray := prog_5_method_11_code
def yX3_takeOutAll : MethodName := ⟨RX3, "takeOutAll", "()V"⟩
abbrev cX3_lookUp : ByteArray := prog_5_method_12_code
def yX3_lookUp : MethodName := ⟨RX3, "lookUp", "(II)I"⟩
abbrev cX3_refusals : ByteArray := prog_5_method_13_code
def yX3_refusals : MethodName := ⟨RX3, "refusals", "()I"⟩
abbrev cX3_refusalsOf : ByteArray := prog_5_method_14_code
def yX3_refusalsOf : MethodName := ⟨RX3, "refusalsOf", "(I)I"⟩
def RX4 : String := "PushedTables$Text"
def TX4 : u_T := fun k => match k with
  | 0 => ("PushedTables$Text", "length", "I", false)
  | 1 => ("PushedTables$Text", "signs", "[C", true)
  | 2 => ("PushedTables$Text", "place", "I", false)
  | 3 => ("PushedTables$Text", "number", "I", false)
  | 4 => ("PushedTables$Text", "numberPlace", "I", false)
  | 5 => ("PushedTables$Text", "rowsRead", "I", false)
  | 6 => ("PushedTables$Text", "defaults", "[I", true)
  | _ => ("PushedTables$Text", "values", "[I", true)
def tyX4 : Nat → FieldType := fun k => match k with
  | 0 => .int
  | 1 => .array .char
  | 2 => .int
  | 3 => .int
  | 4 => .int
  | 5 => .int
  | 6 => .array .int
  | _ => .array .int
abbrev wsX40 : List Cond := u_ws RX4 TX4 8
theorem nmX4 : ∀ a, a < 8 → ∀ b, b < 8 → a ≠ b → (TX4 a).2.1 ≠ (TX4 b).2.1 := by decide +kernel
theorem tyX4_ok : ∀ k, k < 8 → parseFieldDescriptor (TX4 k).2.2.1 = some (tyX4 k) := by decide +kernel
abbrev cX4_init : ByteArray := prog_6_method_1_code
def yX4_init : MethodName := ⟨RX4, "<init>", "()V"⟩
abbrev cX4_appendSign : ByteArray := prog_6_method_2_code
def yX4_appendSign : MethodName := ⟨RX4, "appendSign", "(C)V"⟩
abbrev cX4_valueRead : ByteArray := prog_6_method_3_code
def yX4_valueRead : MethodName := ⟨RX4, "valueRead", "(II)I"⟩
abbrev cX4_readTable : ByteArray := prog_6_method_4_code
def yX4_readTable : MethodName := ⟨RX4, "readTable", "(I)Z"⟩
abbrev cX4_readRow : ByteArray := prog_6_method_5_code
def yX4_readRow : MethodName := ⟨RX4, "readRow", "(I)Z"⟩
abbrev cX4_readEntries : ByteArray := prog_6_method_6_code
def yX4_readEntries : MethodName := ⟨RX4, "readEntries", "(I)Z"⟩
abbrev cX4_allowNumber : ByteArray := prog_6_method_7_code
def yX4_allowNumber : MethodName := ⟨RX4, "allowNumber", "(Z)Z"⟩
abbrev cX4_readNumber : ByteArray := prog_6_method_8_code
def yX4_readNumber : MethodName := ⟨RX4, "readNumber", "()Z"⟩
abbrev cX4_takeDigit : ByteArray := prog_6_method_9_code
def yX4_takeDigit : MethodName := ⟨RX4, "takeDigit", "()I"⟩
abbrev cX4_takeSign : ByteArray := prog_6_method_10_code
def yX4_takeSign : MethodName := ⟨RX4, "takeSign", "(C)Z"⟩
abbrev cX4_skipSpaces : ByteArray := prog_6_method_11_code
def yX4_skipSpaces : MethodName := ⟨RX4, "skipSpaces", "()V"⟩
abbrev cX4_isDigitHere : ByteArray := prog_6_method_12_code
def yX4_isDigitHere : MethodName := ⟨RX4, "isDigitHere", "()Z"⟩
abbrev cX4_signHere : ByteArray := prog_6_method_13_code
def yX4_signHere : MethodName := ⟨RX4, "signHere", "()C"⟩
def RX5 : String := "PushedTables"
def TX5 : u_T := fun k => match k with
  | 0 => ("PushedTables", "table", "LPushedTables$Table;", true)
  | 1 => ("PushedTables", "forecast", "LPushedTables$Table;", true)
  | 2 => ("PushedTables", "history", "LPushedTables$History;", true)
  | _ => ("PushedTables", "text", "LPushedTables$Text;", true)
def tyX5 : Nat → FieldType := fun k => match k with
  | 0 => .object "PushedTables$Table"
  | 1 => .object "PushedTables$Table"
  | 2 => .object "PushedTables$History"
  | _ => .object "PushedTables$Text"
abbrev wsX50 : List Cond := u_ws RX5 TX5 4
theorem nmX5 : ∀ a, a < 4 → ∀ b, b < 4 → a ≠ b → (TX5 a).2.1 ≠ (TX5 b).2.1 := by decide +kernel
theorem tyX5_ok : ∀ k, k < 4 → parseFieldDescriptor (TX5 k).2.2.1 = some (tyX5 k) := by decide +kernel
abbrev cX5_init : ByteArray := prog_1_method_1_code
def yX5_init : MethodName := ⟨RX5, "<init>", "()V"⟩
abbrev cX5_add : ByteArray := prog_1_method_2_code
def yX5_add : MethodName := ⟨RX5, "add", "(I)I"⟩
abbrev cX5_set : ByteArray := prog_1_method_3_code
def yX5_set : MethodName := ⟨RX5, "set", "(III)I"⟩
abbrev cX5_setDefault : ByteArray := prog_1_method_4_code
def yX5_setDefault : MethodName := ⟨RX5, "setDefault", "(II)I"⟩
abbrev cX5_removeLast : ByteArray := prog_1_method_5_code
def yX5_removeLast : MethodName := ⟨RX5, "removeLast", "()I"⟩
abbrev cX5_slim : ByteArray := prog_1_method_6_code
def yX5_slim : MethodName := ⟨RX5, "slim", "(I)I"⟩
abbrev cX5_push : ByteArray := prog_1_method_7_code
def yX5_push : MethodName := ⟨RX5, "push", "()I"⟩
abbrev cX5_undo : ByteArray := prog_1_method_8_code
def yX5_undo : MethodName := ⟨RX5, "undo", "()I"⟩
abbrev cX5_append : ByteArray := prog_1_method_9_code
def yX5_append : MethodName := ⟨RX5, "append", "(I)I"⟩
abbrev cX5_clearText : ByteArray := prog_1_method_10_code
def yX5_clearText : MethodName := ⟨RX5, "clearText", "()I"⟩
abbrev cX5_read : ByteArray := prog_1_method_11_code
def yX5_read : MethodName := ⟨RX5, "read", "()I"⟩
abbrev cX5_get : ByteArray := prog_1_method_12_code
def yX5_get : MethodName := ⟨RX5, "get", "(II)I"⟩
abbrev cX5_count : ByteArray := prog_1_method_13_code
def yX5_count : MethodName := ⟨RX5, "count", "(I)I"⟩
abbrev cX5_row : ByteArray := prog_1_method_14_code
def yX5_row : MethodName := ⟨RX5, "row", "(II)I"⟩
abbrev cX5_form : ByteArray := prog_1_method_15_code
def yX5_form : MethodName := ⟨RX5, "form", "(II)I"⟩
abbrev cX5_cell : ByteArray := prog_1_method_16_code
def yX5_cell : MethodName := ⟨RX5, "cell", "(II)I"⟩
abbrev cX5_fit : ByteArray := prog_1_method_17_code
def yX5_fit : MethodName := ⟨RX5, "fit", "(I)I"⟩
abbrev cX5_endBy : ByteArray := prog_1_method_18_code
def yX5_endBy : MethodName := ⟨RX5, "endBy", "(I)I"⟩
abbrev cX5_slimmer : ByteArray := prog_1_method_19_code
def yX5_slimmer : MethodName := ⟨RX5, "slimmer", "()I"⟩
abbrev cX5_like : ByteArray := prog_1_method_20_code
def yX5_like : MethodName := ⟨RX5, "like", "(I)I"⟩
abbrev cX5_addRowOfText : ByteArray := prog_1_method_21_code
def yX5_addRowOfText : MethodName := ⟨RX5, "addRowOfText", "(I)V"⟩
abbrev cX5_isRow : ByteArray := prog_1_method_22_code
def yX5_isRow : MethodName := ⟨RX5, "isRow", "(I)Z"⟩
abbrev cX5_isColumn : ByteArray := prog_1_method_23_code
def yX5_isColumn : MethodName := ⟨RX5, "isColumn", "(I)Z"⟩
abbrev cX5_isValue : ByteArray := prog_1_method_24_code
def yX5_isValue : MethodName := ⟨RX5, "isValue", "(I)Z"⟩
def RX6 : String := "PushedTablesModel"
def TX6 : u_T := fun k => match k with
  | 0 => ("PushedTablesModel", "now", "[I", true)
  | 1 => ("PushedTablesModel", "before", "[I", true)
  | 2 => ("PushedTablesModel", "states", "[I", true)
  | 3 => ("PushedTablesModel", "marks", "[I", true)
  | 4 => ("PushedTablesModel", "values", "[I", true)
  | 5 => ("PushedTablesModel", "text", "[I", true)
  | 6 => ("PushedTablesModel", "stateMany", "I", false)
  | 7 => ("PushedTablesModel", "stateAt", "I", false)
  | 8 => ("PushedTablesModel", "letters", "I", false)
  | 9 => ("PushedTablesModel", "readAt", "I", false)
  | _ => ("PushedTablesModel", "failure", "I", false)
def tyX6 : Nat → FieldType := fun k => match k with
  | 0 => .array .int
  | 1 => .array .int
  | 2 => .array .int
  | 3 => .array .int
  | 4 => .array .int
  | 5 => .array .int
  | 6 => .int
  | 7 => .int
  | 8 => .int
  | 9 => .int
  | _ => .int
abbrev wsX60 : List Cond := u_ws RX6 TX6 11
theorem nmX6 : ∀ a, a < 11 → ∀ b, b < 11 → a ≠ b → (TX6 a).2.1 ≠ (TX6 b).2.1 := by decide +kernel
theorem tyX6_ok : ∀ k, k < 11 → parseFieldDescriptor (TX6 k).2.2.1 = some (tyX6 k) := by decide +kernel
abbrev cX6_init : ByteArray := prog_8_method_1_code
def yX6_init : MethodName := ⟨RX6, "<init>", "()V"⟩
abbrev cX6_in : ByteArray := prog_8_method_2_code
def yX6_in : MethodName := ⟨RX6, "in", "(III)Z"⟩
abbrev cX6_bits : ByteArray := prog_8_method_3_code
def yX6_bits : MethodName := ⟨RX6, "bits", "(I)I"⟩
abbrev cX6_has : ByteArray := prog_8_method_4_code
def yX6_has : MethodName := ⟨RX6, "has", "(II)Z"⟩
abbrev cX6_isRow : ByteArray := prog_8_method_5_code
def yX6_isRow : MethodName := ⟨RX6, "isRow", "(I)Z"⟩
abbrev cX6_copy : ByteArray := prog_8_method_6_code
def yX6_copy : MethodName := ⟨RX6, "copy", "()V"⟩
abbrev cX6_back : ByteArray := prog_8_method_7_code
def yX6_back : MethodName := ⟨RX6, "back", "()V"⟩
abbrev cX6_record : ByteArray := prog_8_method_8_code
def yX6_record : MethodName := ⟨RX6, "record", "()V"⟩
abbrev cX6_remember : ByteArray := prog_8_method_9_code
def yX6_remember : MethodName := ⟨RX6, "remember", "()V"⟩
abbrev cX6_undo : ByteArray := prog_8_method_10_code
def yX6_undo : MethodName := ⟨RX6, "undo", "()I"⟩
abbrev cX6_entries : ByteArray := prog_8_method_11_code
def yX6_entries : MethodName := ⟨RX6, "entries", "(I)I"⟩
abbrev cX6_valueOf : ByteArray := prog_8_method_12_code
def yX6_valueOf : MethodName := ⟨RX6, "valueOf", "(II)I"⟩
abbrev cX6_areAlike : ByteArray := prog_8_method_13_code
def yX6_areAlike : MethodName := ⟨RX6, "areAlike", "(II)Z"⟩
abbrev cX6_sharers : ByteArray := prog_8_method_14_code
def yX6_sharers : MethodName := ⟨RX6, "sharers", "(I)I"⟩
abbrev cX6_layStore : ByteArray := prog_8_method_15_code
def yX6_layStore : MethodName := ⟨RX6, "layStore", "()V"⟩
abbrev cX6_fits : ByteArray := prog_8_method_16_code
def yX6_fits : MethodName := ⟨RX6, "fits", "(I)I"⟩
abbrev cX6_forms : ByteArray := prog_8_method_17_code
def yX6_forms : MethodName := ⟨RX6, "forms", "(I)V"⟩
abbrev cX6_leaves : ByteArray := prog_8_method_18_code
def yX6_leaves : MethodName := ⟨RX6, "leaves", "(I)V"⟩
abbrev cX6_adds : ByteArray := prog_8_method_19_code
def yX6_adds : MethodName := ⟨RX6, "adds", "(I)V"⟩
abbrev cX6_add : ByteArray := prog_8_method_20_code
def yX6_add : MethodName := ⟨RX6, "add", "(I)I"⟩
abbrev cX6_set : ByteArray := prog_8_method_21_code
def yX6_set : MethodName := ⟨RX6, "set", "(III)I"⟩
abbrev cX6_leavesFor : ByteArray := prog_8_method_22_code
def yX6_leavesFor : MethodName := ⟨RX6, "leavesFor", "(IZ)V"⟩
abbrev cX6_formsFor : ByteArray := prog_8_method_23_code
def yX6_formsFor : MethodName := ⟨RX6, "formsFor", "(IZ)V"⟩
abbrev cX6_entriesBy : ByteArray := prog_8_method_24_code
def yX6_entriesBy : MethodName := ⟨RX6, "entriesBy", "(IIZ)I"⟩
abbrev cX6_setDefault : ByteArray := prog_8_method_25_code
def yX6_setDefault : MethodName := ⟨RX6, "setDefault", "(II)I"⟩
abbrev cX6_removeLast : ByteArray := prog_8_method_26_code
def yX6_removeLast : MethodName := ⟨RX6, "removeLast", "()I"⟩
abbrev cX6_most : ByteArray := prog_8_method_27_code
def yX6_most : MethodName := ⟨RX6, "most", "(I)I"⟩
abbrev cX6_slim : ByteArray := prog_8_method_28_code
def yX6_slim : MethodName := ⟨RX6, "slim", "(I)I"⟩
abbrev cX6_pushes : ByteArray := prog_8_method_29_code
def yX6_pushes : MethodName := ⟨RX6, "pushes", "(Z)V"⟩
abbrev cX6_end : ByteArray := prog_8_method_30_code
def yX6_end : MethodName := ⟨RX6, "end", "()I"⟩
abbrev cX6_push : ByteArray := prog_8_method_31_code
def yX6_push : MethodName := ⟨RX6, "push", "()I"⟩
abbrev cX6_append : ByteArray := prog_8_method_32_code
def yX6_append : MethodName := ⟨RX6, "append", "(I)I"⟩
abbrev cX6_clearText : ByteArray := prog_8_method_33_code
def yX6_clearText : MethodName := ⟨RX6, "clearText", "()I"⟩
abbrev cX6_here : ByteArray := prog_8_method_34_code
def yX6_here : MethodName := ⟨RX6, "here", "()I"⟩
abbrev cX6_isDigit : ByteArray := prog_8_method_35_code
def yX6_isDigit : MethodName := ⟨RX6, "isDigit", "(I)Z"⟩
abbrev cX6_fails : ByteArray := prog_8_method_36_code
def yX6_fails : MethodName := ⟨RX6, "fails", "(I)I"⟩
abbrev cX6_number : ByteArray := prog_8_method_37_code
def yX6_number : MethodName := ⟨RX6, "number", "()I"⟩
abbrev cX6_sign : ByteArray := prog_8_method_38_code
def yX6_sign : MethodName := ⟨RX6, "sign", "(I)Z"⟩
abbrev cX6_entry : ByteArray := prog_8_method_39_code
def yX6_entry : MethodName := ⟨RX6, "entry", "(II)I"⟩
abbrev cX6_rowRead : ByteArray := prog_8_method_40_code
def yX6_rowRead : MethodName := ⟨RX6, "rowRead", "()Z"⟩
abbrev cX6_read : ByteArray := prog_8_method_41_code
def yX6_read : MethodName := ⟨RX6, "read", "()I"⟩
abbrev cX6_get : ByteArray := prog_8_method_42_code
def yX6_get : MethodName := ⟨RX6, "get", "(II)I"⟩
abbrev cX6_formMany : ByteArray := prog_8_method_43_code
def yX6_formMany : MethodName := ⟨RX6, "formMany", "()I"⟩
abbrev cX6_full : ByteArray := prog_8_method_44_code
def yX6_full : MethodName := ⟨RX6, "full", "()I"⟩
abbrev cX6_strangers : ByteArray := prog_8_method_45_code
def yX6_strangers : MethodName := ⟨RX6, "strangers", "()I"⟩
abbrev cX6_count : ByteArray := prog_8_method_46_code
def yX6_count : MethodName := ⟨RX6, "count", "(I)I"⟩
abbrev cX6_row : ByteArray := prog_8_method_47_code
def yX6_row : MethodName := ⟨RX6, "row", "(II)I"⟩
abbrev cX6_form : ByteArray := prog_8_method_48_code
def yX6_form : MethodName := ⟨RX6, "form", "(II)I"⟩
abbrev cX6_cell : ByteArray := prog_8_method_49_code
def yX6_cell : MethodName := ⟨RX6, "cell", "(II)I"⟩
abbrev cX6_fit : ByteArray := prog_8_method_50_code
def yX6_fit : MethodName := ⟨RX6, "fit", "(I)I"⟩
abbrev cX6_endBy : ByteArray := prog_8_method_51_code
def yX6_endBy : MethodName := ⟨RX6, "endBy", "(I)I"⟩
abbrev cX6_slimmer : ByteArray := prog_8_method_52_code
def yX6_slimmer : MethodName := ⟨RX6, "slimmer", "()I"⟩
abbrev cX6_like : ByteArray := prog_8_method_53_code
def yX6_like : MethodName := ⟨RX6, "like", "(I)I"⟩
def RJ6 : String := "java/lang/Integer"
def TJ6 : u_T := fun k => match k with
  | _ => ("", "", "", false)
def tyJ6 : Nat → FieldType := fun k => match k with
  | _ => .int
abbrev wsJ60 : List Cond := u_ws RJ6 TJ6 0
theorem nmJ6 : ∀ a, a < 0 → ∀ b, b < 0 → a ≠ b → (TJ6 a).2.1 ≠ (TJ6 b).2.1 := by decide +kernel
theorem tyJ6_ok : ∀ k, k < 0 → parseFieldDescriptor (TJ6 k).2.2.1 = some (tyJ6 k) := by decide +kernel
abbrev cJ6_bitCount_0f7a4 : ByteArray := prog_9_method_49_code
def yJ6_bitCount_0f7a4 : MethodName := ⟨RJ6, "bitCount", "(I)I"⟩
def RJ10 : String := "java/lang/System"
def TJ10 : u_T := fun k => match k with
  | _ => ("", "", "", false)
def tyJ10 : Nat → FieldType := fun k => match k with
  | _ => .int
abbrev wsJ100 : List Cond := u_ws RJ10 TJ10 0
theorem nmJ10 : ∀ a, a < 0 → ∀ b, b < 0 → a ≠ b → (TJ10 a).2.1 ≠ (TJ10 b).2.1 := by decide +kernel
theorem tyJ10_ok : ∀ k, k < 0 → parseFieldDescriptor (TJ10 k).2.2.1 = some (tyJ10 k) := by decide +kernel
def RJ7 : String := "java/util/Arrays"
def TJ7 : u_T := fun k => match k with
  | _ => ("", "", "", false)
def tyJ7 : Nat → FieldType := fun k => match k with
  | _ => .int
abbrev wsJ70 : List Cond := u_ws RJ7 TJ7 0
theorem nmJ7 : ∀ a, a < 0 → ∀ b, b < 0 → a ≠ b → (TJ7 a).2.1 ≠ (TJ7 b).2.1 := by decide +kernel
theorem tyJ7_ok : ∀ k, k < 0 → parseFieldDescriptor (TJ7 k).2.2.1 = some (tyJ7 k) := by decide +kernel
abbrev cJ7_rangeCheck_23922 : ByteArray := prog_11_method_30_code
def yJ7_rangeCheck_23922 : MethodName := ⟨RJ7, "rangeCheck", "(III)V"⟩
abbrev cJ7_fill_53178 : ByteArray := prog_11_method_103_code
def yJ7_fill_53178 : MethodName := ⟨RJ7, "fill", "([II)V"⟩
abbrev cJ7_fill_fda19 : ByteArray := prog_11_method_104_code
def yJ7_fill_fda19 : MethodName := ⟨RJ7, "fill", "([IIII)V"⟩
def RL : String := "PushedTablesLaw"
abbrev cL_law : ByteArray := code
def yL_law : MethodName := ⟨RL, "law", "([I)Z"⟩
def wsJ7_fill_53178 : List Cond := .code yJ7_fill_53178 cJ7_fill_53178 4 none :: ([])
def wsX1_forgetForms : List Cond := .code yX1_forgetForms cX1_forgetForms 1 none :: ([.fieldLink RX1 22 "PushedTables$State" "forms" "[I", .fieldLink RX1 25 "PushedTables$State" "shifts" "[I", .methodLink RX1 37 yJ7_fill_53178, .static yJ7_fill_53178, .initialized RJ7, .code yJ7_fill_53178 cJ7_fill_53178 4 none] ++ wsX10)
def wsX1_init : List Cond := .code yX1_init cX1_init 1 none :: ([.methodLink RX1 3 objectInit, .instanceMethod objectInit, .code objectInit ⟨#[0xb1]⟩ 1 none, .fieldLink RX1 9 "PushedTables$State" "rowCount" "I", .arrayClass .int, .fieldLink RX1 15 "PushedTables$State" "defaults" "[I", .fieldLink RX1 19 "PushedTables$State" "values" "[I", .fieldLink RX1 22 "PushedTables$State" "forms" "[I", .fieldLink RX1 25 "PushedTables$State" "shifts" "[I", .methodLink RX1 28 yX1_forgetForms, .instanceMethod yX1_forgetForms, .selects RX1 yX1_forgetForms yX1_forgetForms, .initialized RX1, .code yX1_forgetForms cX1_forgetForms 1 none, .methodLink RX1 37 yJ7_fill_53178, .static yJ7_fill_53178, .initialized RJ7, .code yJ7_fill_53178 cJ7_fill_53178 4 none] ++ wsX10)
def wsX0_init_r1 : List Cond := [Cond.methodLink RX0 3 objectInit, Cond.instanceMethod objectInit, Cond.code objectInit ⟨#[0xb1]⟩ 1 none, Cond.fieldLink RX0 9 "PushedTables$History" "size" "I", Cond.classLink RX0 15 RX1, Cond.fieldLink RX0 17 "PushedTables$History" "states" "[LPushedTables$State;", Cond.instantiable RX1 5, Cond.initialized RX1, Cond.methodLink RX0 21 yX1_init, Cond.instanceMethod yX1_init, Cond.code yX1_init cX1_init 1 none, Cond.methodLink RX1 3 objectInit, Cond.fieldLink RX1 9 "PushedTables$State" "rowCount" "I", Cond.arrayClass .int, Cond.fieldLink RX1 15 "PushedTables$State" "defaults" "[I", Cond.fieldLink RX1 19 "PushedTables$State" "values" "[I", Cond.fieldLink RX1 22 "PushedTables$State" "forms" "[I", Cond.fieldLink RX1 25 "PushedTables$State" "shifts" "[I", Cond.methodLink RX1 28 yX1_forgetForms, Cond.instanceMethod yX1_forgetForms, Cond.selects RX1 yX1_forgetForms yX1_forgetForms, Cond.code yX1_forgetForms cX1_forgetForms 1 none, Cond.methodLink RX1 37 yJ7_fill_53178, Cond.static yJ7_fill_53178]
def wsX0_init_r2 : List Cond := [Cond.initialized RJ7, Cond.code yJ7_fill_53178 cJ7_fill_53178 4 none]
def wsX0_init : List Cond := .code yX0_init cX0_init 2 none :: ((wsX0_init_r1 ++ wsX0_init_r2) ++ wsX00 ++ wsX10)
def wsX0_dropOldest : List Cond := .code yX0_dropOldest cX0_dropOldest 3 none :: ([.fieldLink RX0 17 "PushedTables$History" "states" "[LPushedTables$State;", .fieldLink RX0 9 "PushedTables$History" "size" "I"] ++ wsX00)
def wsX1_copyFrom : List Cond := .code yX1_copyFrom cX1_copyFrom 2 none :: ([.fieldLink RX1 9 "PushedTables$State" "rowCount" "I", .fieldLink RX1 15 "PushedTables$State" "defaults" "[I", .methodLink RX1 31 arraycopyName, .native arraycopyName, .static arraycopyName, .initialized "java/lang/System", .fieldLink RX1 19 "PushedTables$State" "values" "[I", .fieldLink RX1 22 "PushedTables$State" "forms" "[I", .fieldLink RX1 25 "PushedTables$State" "shifts" "[I"] ++ wsX10)
def wsX0_remember : List Cond := .code yX0_remember cX0_remember 2 none :: ([.fieldLink RX0 9 "PushedTables$History" "size" "I", .fieldLink RX0 17 "PushedTables$History" "states" "[LPushedTables$State;", .methodLink RX0 22 yX0_dropOldest, .instanceMethod yX0_dropOldest, .selects RX0 yX0_dropOldest yX0_dropOldest, .initialized RX0, .code yX0_dropOldest cX0_dropOldest 3 none, .methodLink RX0 25 yX1_copyFrom, .instanceMethod yX1_copyFrom, .selects RX1 yX1_copyFrom yX1_copyFrom, .initialized RX1, .code yX1_copyFrom cX1_copyFrom 2 none, .fieldLink RX1 9 "PushedTables$State" "rowCount" "I", .fieldLink RX1 15 "PushedTables$State" "defaults" "[I", .methodLink RX1 31 arraycopyName, .native arraycopyName, .static arraycopyName, .initialized "java/lang/System", .fieldLink RX1 19 "PushedTables$State" "values" "[I", .fieldLink RX1 22 "PushedTables$State" "forms" "[I", .fieldLink RX1 25 "PushedTables$State" "shifts" "[I"] ++ wsX00 ++ wsX10)
def wsX0_takeLatest : List Cond := .code yX0_takeLatest cX0_takeLatest 1 (some (.object "PushedTables$State")) :: ([.fieldLink RX0 9 "PushedTables$History" "size" "I", .fieldLink RX0 17 "PushedTables$History" "states" "[LPushedTables$State;"] ++ wsX00)
def wsJ7_rangeCheck_23922 : List Cond := .code yJ7_rangeCheck_23922 cJ7_rangeCheck_23922 3 none :: ([])
def wsJ7_fill_fda19 : List Cond := .code yJ7_fill_fda19 cJ7_fill_fda19 5 none :: ([.methodLink RJ7 13 yJ7_rangeCheck_23922, .static yJ7_rangeCheck_23922, .initialized RJ7, .code yJ7_rangeCheck_23922 cJ7_rangeCheck_23922 3 none])
def wsX1_addRow : List Cond := .code yX1_addRow cX1_addRow 3 (some .int) :: ([.fieldLink RX1 9 "PushedTables$State" "rowCount" "I", .fieldLink RX1 15 "PushedTables$State" "defaults" "[I", .fieldLink RX1 19 "PushedTables$State" "values" "[I", .fieldLink RX1 22 "PushedTables$State" "forms" "[I", .methodLink RX1 43 yJ7_fill_fda19, .static yJ7_fill_fda19, .initialized RJ7, .code yJ7_fill_fda19 cJ7_fill_fda19 5 none, .methodLink RJ7 13 yJ7_rangeCheck_23922, .static yJ7_rangeCheck_23922, .code yJ7_rangeCheck_23922 cJ7_rangeCheck_23922 3 none] ++ wsX10)
def wsX1_valueAt : List Cond := .code yX1_valueAt cX1_valueAt 3 (some .int) :: ([.fieldLink RX1 19 "PushedTables$State" "values" "[I"] ++ wsX10)
def wsX1_changeValue : List Cond := .code yX1_changeValue cX1_changeValue 4 none :: ([.fieldLink RX1 19 "PushedTables$State" "values" "[I"] ++ wsX10)
def wsX1_isEntry : List Cond := .code yX1_isEntry cX1_isEntry 3 (some .boolean) :: ([.fieldLink RX1 15 "PushedTables$State" "defaults" "[I", .methodLink RX1 54 yX1_valueAt, .instanceMethod yX1_valueAt, .selects RX1 yX1_valueAt yX1_valueAt, .initialized RX1, .code yX1_valueAt cX1_valueAt 3 (some .int), .fieldLink RX1 19 "PushedTables$State" "values" "[I"] ++ wsX10)
def wsX1_changeDefault : List Cond := .code yX1_changeDefault cX1_changeDefault 4 none :: ([.fieldLink RX1 15 "PushedTables$State" "defaults" "[I", .methodLink RX1 46 yX1_isEntry, .instanceMethod yX1_isEntry, .selects RX1 yX1_isEntry yX1_isEntry, .initialized RX1, .code yX1_isEntry cX1_isEntry 3 (some .boolean), .methodLink RX1 54 yX1_valueAt, .instanceMethod yX1_valueAt, .selects RX1 yX1_valueAt yX1_valueAt, .code yX1_valueAt cX1_valueAt 3 (some .int), .fieldLink RX1 19 "PushedTables$State" "values" "[I", .methodLink RX1 50 yX1_changeValue, .instanceMethod yX1_changeValue, .selects RX1 yX1_changeValue yX1_changeValue, .code yX1_changeValue cX1_changeValue 4 none] ++ wsX10)
def wsX1_columnsOf : List Cond := .code yX1_columnsOf cX1_columnsOf 4 (some .int) :: ([.methodLink RX1 46 yX1_isEntry, .instanceMethod yX1_isEntry, .selects RX1 yX1_isEntry yX1_isEntry, .initialized RX1, .code yX1_isEntry cX1_isEntry 3 (some .boolean), .fieldLink RX1 15 "PushedTables$State" "defaults" "[I", .methodLink RX1 54 yX1_valueAt, .instanceMethod yX1_valueAt, .selects RX1 yX1_valueAt yX1_valueAt, .code yX1_valueAt cX1_valueAt 3 (some .int), .fieldLink RX1 19 "PushedTables$State" "values" "[I"] ++ wsX10)
def wsJ6_bitCount_0f7a4 : List Cond := .code yJ6_bitCount_0f7a4 cJ6_bitCount_0f7a4 1 (some .int) :: ([.constant RJ6 265 (1431655765), .constant RJ6 266 (858993459), .constant RJ6 267 (252645135)])
def wsX1_weightOf : List Cond := .code yX1_weightOf cX1_weightOf 2 (some .int) :: ([.methodLink RX1 58 yX1_columnsOf, .instanceMethod yX1_columnsOf, .selects RX1 yX1_columnsOf yX1_columnsOf, .initialized RX1, .code yX1_columnsOf cX1_columnsOf 4 (some .int), .methodLink RX1 46 yX1_isEntry, .instanceMethod yX1_isEntry, .selects RX1 yX1_isEntry yX1_isEntry, .code yX1_isEntry cX1_isEntry 3 (some .boolean), .fieldLink RX1 15 "PushedTables$State" "defaults" "[I", .methodLink RX1 54 yX1_valueAt, .instanceMethod yX1_valueAt, .selects RX1 yX1_valueAt yX1_valueAt, .code yX1_valueAt cX1_valueAt 3 (some .int), .fieldLink RX1 19 "PushedTables$State" "values" "[I", .methodLink RX1 62 yJ6_bitCount_0f7a4, .static yJ6_bitCount_0f7a4, .initialized RJ6, .code yJ6_bitCount_0f7a4 cJ6_bitCount_0f7a4 1 (some .int), .constant RJ6 265 (1431655765), .constant RJ6 266 (858993459), .constant RJ6 267 (252645135)] ++ wsX10)
def wsX1_weightSum_r1 : List Cond := [Cond.fieldLink RX1 9 "PushedTables$State" "rowCount" "I", Cond.methodLink RX1 67 yX1_weightOf, Cond.instanceMethod yX1_weightOf, Cond.selects RX1 yX1_weightOf yX1_weightOf, Cond.initialized RX1, Cond.code yX1_weightOf cX1_weightOf 2 (some .int), Cond.methodLink RX1 58 yX1_columnsOf, Cond.instanceMethod yX1_columnsOf, Cond.selects RX1 yX1_columnsOf yX1_columnsOf, Cond.code yX1_columnsOf cX1_columnsOf 4 (some .int), Cond.methodLink RX1 46 yX1_isEntry, Cond.instanceMethod yX1_isEntry, Cond.selects RX1 yX1_isEntry yX1_isEntry, Cond.code yX1_isEntry cX1_isEntry 3 (some .boolean), Cond.fieldLink RX1 15 "PushedTables$State" "defaults" "[I", Cond.methodLink RX1 54 yX1_valueAt, Cond.instanceMethod yX1_valueAt, Cond.selects RX1 yX1_valueAt yX1_valueAt, Cond.code yX1_valueAt cX1_valueAt 3 (some .int), Cond.fieldLink RX1 19 "PushedTables$State" "values" "[I", Cond.methodLink RX1 62 yJ6_bitCount_0f7a4, Cond.static yJ6_bitCount_0f7a4, Cond.initialized RJ6, Cond.code yJ6_bitCount_0f7a4 cJ6_bitCount_0f7a4 1 (some .int)]
def wsX1_weightSum_r2 : List Cond := [Cond.constant RJ6 265 (1431655765), Cond.constant RJ6 266 (858993459), Cond.constant RJ6 267 (252645135)]
def wsX1_weightSum : List Cond := .code yX1_weightSum cX1_weightSum 3 (some .int) :: ((wsX1_weightSum_r1 ++ wsX1_weightSum_r2) ++ wsX10)
def wsX1_cellsWith : List Cond := .code yX1_cellsWith cX1_cellsWith 5 (some .int) :: ([.methodLink RX1 54 yX1_valueAt, .instanceMethod yX1_valueAt, .selects RX1 yX1_valueAt yX1_valueAt, .initialized RX1, .code yX1_valueAt cX1_valueAt 3 (some .int), .fieldLink RX1 19 "PushedTables$State" "values" "[I"] ++ wsX10)
def wsX1_commonestValue : List Cond := .code yX1_commonestValue cX1_commonestValue 7 (some .int) :: ([.methodLink RX1 54 yX1_valueAt, .instanceMethod yX1_valueAt, .selects RX1 yX1_valueAt yX1_valueAt, .initialized RX1, .code yX1_valueAt cX1_valueAt 3 (some .int), .fieldLink RX1 19 "PushedTables$State" "values" "[I", .methodLink RX1 70 yX1_cellsWith, .instanceMethod yX1_cellsWith, .selects RX1 yX1_cellsWith yX1_cellsWith, .code yX1_cellsWith cX1_cellsWith 5 (some .int)] ++ wsX10)
def wsX1_slimmerBy_r1 : List Cond := [Cond.methodLink RX1 73 yX1_commonestValue, Cond.instanceMethod yX1_commonestValue, Cond.selects RX1 yX1_commonestValue yX1_commonestValue, Cond.initialized RX1, Cond.code yX1_commonestValue cX1_commonestValue 7 (some .int), Cond.methodLink RX1 54 yX1_valueAt, Cond.instanceMethod yX1_valueAt, Cond.selects RX1 yX1_valueAt yX1_valueAt, Cond.code yX1_valueAt cX1_valueAt 3 (some .int), Cond.fieldLink RX1 19 "PushedTables$State" "values" "[I", Cond.methodLink RX1 70 yX1_cellsWith, Cond.instanceMethod yX1_cellsWith, Cond.selects RX1 yX1_cellsWith yX1_cellsWith, Cond.code yX1_cellsWith cX1_cellsWith 5 (some .int), Cond.methodLink RX1 67 yX1_weightOf, Cond.instanceMethod yX1_weightOf, Cond.selects RX1 yX1_weightOf yX1_weightOf, Cond.code yX1_weightOf cX1_weightOf 2 (some .int), Cond.methodLink RX1 58 yX1_columnsOf, Cond.instanceMethod yX1_columnsOf, Cond.selects RX1 yX1_columnsOf yX1_columnsOf, Cond.code yX1_columnsOf cX1_columnsOf 4 (some .int), Cond.methodLink RX1 46 yX1_isEntry, Cond.instanceMethod yX1_isEntry]
def wsX1_slimmerBy_r2 : List Cond := [Cond.selects RX1 yX1_isEntry yX1_isEntry, Cond.code yX1_isEntry cX1_isEntry 3 (some .boolean), Cond.fieldLink RX1 15 "PushedTables$State" "defaults" "[I", Cond.methodLink RX1 62 yJ6_bitCount_0f7a4, Cond.static yJ6_bitCount_0f7a4, Cond.initialized RJ6, Cond.code yJ6_bitCount_0f7a4 cJ6_bitCount_0f7a4 1 (some .int), Cond.constant RJ6 265 (1431655765), Cond.constant RJ6 266 (858993459), Cond.constant RJ6 267 (252645135)]
def wsX1_slimmerBy : List Cond := .code yX1_slimmerBy cX1_slimmerBy 3 (some .int) :: ((wsX1_slimmerBy_r1 ++ wsX1_slimmerBy_r2) ++ wsX10)
def wsX1_equalCells : List Cond := .code yX1_equalCells cX1_equalCells 5 (some .int) :: ([.methodLink RX1 54 yX1_valueAt, .instanceMethod yX1_valueAt, .selects RX1 yX1_valueAt yX1_valueAt, .initialized RX1, .code yX1_valueAt cX1_valueAt 3 (some .int), .fieldLink RX1 19 "PushedTables$State" "values" "[I"] ++ wsX10)
def wsX1_mostLike : List Cond := .code yX1_mostLike cX1_mostLike 6 (some .int) :: ([.fieldLink RX1 9 "PushedTables$State" "rowCount" "I", .methodLink RX1 76 yX1_equalCells, .instanceMethod yX1_equalCells, .selects RX1 yX1_equalCells yX1_equalCells, .initialized RX1, .code yX1_equalCells cX1_equalCells 5 (some .int), .methodLink RX1 54 yX1_valueAt, .instanceMethod yX1_valueAt, .selects RX1 yX1_valueAt yX1_valueAt, .code yX1_valueAt cX1_valueAt 3 (some .int), .fieldLink RX1 19 "PushedTables$State" "values" "[I"] ++ wsX10)
def wsX1_shiftOf : List Cond := .code yX1_shiftOf cX1_shiftOf 2 (some .int) :: ([.fieldLink RX1 25 "PushedTables$State" "shifts" "[I"] ++ wsX10)
def wsX1_formCount : List Cond := .code yX1_formCount cX1_formCount 3 (some .int) :: ([.fieldLink RX1 25 "PushedTables$State" "shifts" "[I"] ++ wsX10)
def wsX1_sharersOf : List Cond := .code yX1_sharersOf cX1_sharersOf 4 (some .int) :: ([.fieldLink RX1 9 "PushedTables$State" "rowCount" "I", .fieldLink RX1 22 "PushedTables$State" "forms" "[I"] ++ wsX10)
def wsX1_freeForm : List Cond := .code yX1_freeForm cX1_freeForm 2 (some .int) :: ([.fieldLink RX1 25 "PushedTables$State" "shifts" "[I"] ++ wsX10)
def wsX2_emptyAll : List Cond := .code yX2_emptyAll cX2_emptyAll 1 none :: ([.fieldLink RX2 9 "PushedTables$Store" "values" "[I", .fieldLink RX2 15 "PushedTables$Store" "marks" "[I", .methodLink RX2 21 yJ7_fill_53178, .static yJ7_fill_53178, .initialized RJ7, .code yJ7_fill_53178 cJ7_fill_53178 4 none] ++ wsX20)
def wsX2_init : List Cond := .code yX2_init cX2_init 1 none :: ([.methodLink RX2 3 objectInit, .instanceMethod objectInit, .code objectInit ⟨#[0xb1]⟩ 1 none, .arrayClass .int, .fieldLink RX2 9 "PushedTables$Store" "values" "[I", .fieldLink RX2 15 "PushedTables$Store" "marks" "[I", .methodLink RX2 18 yX2_emptyAll, .instanceMethod yX2_emptyAll, .selects RX2 yX2_emptyAll yX2_emptyAll, .initialized RX2, .code yX2_emptyAll cX2_emptyAll 1 none, .methodLink RX2 21 yJ7_fill_53178, .static yJ7_fill_53178, .initialized RJ7, .code yJ7_fill_53178 cJ7_fill_53178 4 none] ++ wsX20)
def wsX2_fillCell : List Cond := .code yX2_fillCell cX2_fillCell 4 none :: ([.fieldLink RX2 9 "PushedTables$Store" "values" "[I", .fieldLink RX2 15 "PushedTables$Store" "marks" "[I"] ++ wsX20)
def wsX2_isEmptyAt : List Cond := .code yX2_isEmptyAt cX2_isEmptyAt 2 (some .boolean) :: ([.fieldLink RX2 15 "PushedTables$Store" "marks" "[I"] ++ wsX20)
def wsX2_takeOut : List Cond := .code yX2_takeOut cX2_takeOut 4 none :: ([.fieldLink RX2 15 "PushedTables$Store" "marks" "[I", .methodLink RX2 27 yX2_fillCell, .instanceMethod yX2_fillCell, .selects RX2 yX2_fillCell yX2_fillCell, .initialized RX2, .code yX2_fillCell cX2_fillCell 4 none, .fieldLink RX2 9 "PushedTables$Store" "values" "[I"] ++ wsX20)
def wsX2_filledOf : List Cond := .code yX2_filledOf cX2_filledOf 5 (some .int) :: ([.fieldLink RX2 15 "PushedTables$Store" "marks" "[I"] ++ wsX20)
def wsX2_fitsAt : List Cond := .code yX2_fitsAt cX2_fitsAt 4 (some .boolean) :: ([.methodLink RX2 35 yX2_isEmptyAt, .instanceMethod yX2_isEmptyAt, .selects RX2 yX2_isEmptyAt yX2_isEmptyAt, .initialized RX2, .code yX2_isEmptyAt cX2_isEmptyAt 2 (some .boolean), .fieldLink RX2 15 "PushedTables$Store" "marks" "[I"] ++ wsX20)
def wsX2_firstFit : List Cond := .code yX2_firstFit cX2_firstFit 3 (some .int) :: ([.methodLink RX2 31 yX2_fitsAt, .instanceMethod yX2_fitsAt, .selects RX2 yX2_fitsAt yX2_fitsAt, .initialized RX2, .code yX2_fitsAt cX2_fitsAt 4 (some .boolean), .methodLink RX2 35 yX2_isEmptyAt, .instanceMethod yX2_isEmptyAt, .selects RX2 yX2_isEmptyAt yX2_isEmptyAt, .code yX2_isEmptyAt cX2_isEmptyAt 2 (some .boolean), .fieldLink RX2 15 "PushedTables$Store" "marks" "[I"] ++ wsX20)
def wsX2_endOfCells : List Cond := .code yX2_endOfCells cX2_endOfCells 2 (some .int) :: ([.methodLink RX2 35 yX2_isEmptyAt, .instanceMethod yX2_isEmptyAt, .selects RX2 yX2_isEmptyAt yX2_isEmptyAt, .initialized RX2, .code yX2_isEmptyAt cX2_isEmptyAt 2 (some .boolean), .fieldLink RX2 15 "PushedTables$Store" "marks" "[I"] ++ wsX20)
def wsX2_filledCells : List Cond := .code yX2_filledCells cX2_filledCells 3 (some .int) :: ([.methodLink RX2 35 yX2_isEmptyAt, .instanceMethod yX2_isEmptyAt, .selects RX2 yX2_isEmptyAt yX2_isEmptyAt, .initialized RX2, .code yX2_isEmptyAt cX2_isEmptyAt 2 (some .boolean), .fieldLink RX2 15 "PushedTables$Store" "marks" "[I"] ++ wsX20)
def wsX3_init_r1 : List Cond := [Cond.methodLink RX3 3 objectInit, Cond.instanceMethod objectInit, Cond.code objectInit ⟨#[0xb1]⟩ 1 none, Cond.classLink RX3 9 RX1, Cond.instantiable RX1 5, Cond.initialized RX1, Cond.fieldLink RX3 12 "PushedTables$Table" "state" "LPushedTables$State;", Cond.classLink RX3 18 RX2, Cond.instantiable RX2 2, Cond.initialized RX2, Cond.fieldLink RX3 21 "PushedTables$Table" "store" "LPushedTables$Store;", Cond.methodLink RX3 11 yX1_init, Cond.instanceMethod yX1_init, Cond.code yX1_init cX1_init 1 none, Cond.methodLink RX1 3 objectInit, Cond.fieldLink RX1 9 "PushedTables$State" "rowCount" "I", Cond.arrayClass .int, Cond.fieldLink RX1 15 "PushedTables$State" "defaults" "[I", Cond.fieldLink RX1 19 "PushedTables$State" "values" "[I", Cond.fieldLink RX1 22 "PushedTables$State" "forms" "[I", Cond.fieldLink RX1 25 "PushedTables$State" "shifts" "[I", Cond.methodLink RX1 28 yX1_forgetForms, Cond.instanceMethod yX1_forgetForms, Cond.selects RX1 yX1_forgetForms yX1_forgetForms]
def wsX3_init_r2 : List Cond := [Cond.code yX1_forgetForms cX1_forgetForms 1 none, Cond.methodLink RX1 37 yJ7_fill_53178, Cond.static yJ7_fill_53178, Cond.initialized RJ7, Cond.code yJ7_fill_53178 cJ7_fill_53178 4 none, Cond.methodLink RX3 20 yX2_init, Cond.instanceMethod yX2_init, Cond.code yX2_init cX2_init 1 none, Cond.methodLink RX2 3 objectInit, Cond.fieldLink RX2 9 "PushedTables$Store" "values" "[I", Cond.fieldLink RX2 15 "PushedTables$Store" "marks" "[I", Cond.methodLink RX2 18 yX2_emptyAll, Cond.instanceMethod yX2_emptyAll, Cond.selects RX2 yX2_emptyAll yX2_emptyAll, Cond.code yX2_emptyAll cX2_emptyAll 1 none, Cond.methodLink RX2 21 yJ7_fill_53178]
def wsX3_init : List Cond := .code yX3_init cX3_init 1 none :: ((wsX3_init_r1 ++ wsX3_init_r2) ++ wsX10 ++ wsX30 ++ wsX20)
def wsX3_fillCellsOf_r1 : List Cond := [Cond.fieldLink RX3 12 "PushedTables$Table" "state" "LPushedTables$State;", Cond.fieldLink RX3 40 "PushedTables$State" "forms" "[I", Cond.fieldLink RX3 21 "PushedTables$Table" "store" "LPushedTables$Store;", Cond.methodLink RX3 44 yX1_shiftOf, Cond.instanceMethod yX1_shiftOf, Cond.selects RX1 yX1_shiftOf yX1_shiftOf, Cond.initialized RX1, Cond.code yX1_shiftOf cX1_shiftOf 2 (some .int), Cond.fieldLink RX1 25 "PushedTables$State" "shifts" "[I", Cond.methodLink RX3 48 yX1_isEntry, Cond.instanceMethod yX1_isEntry, Cond.selects RX1 yX1_isEntry yX1_isEntry, Cond.code yX1_isEntry cX1_isEntry 3 (some .boolean), Cond.fieldLink RX1 15 "PushedTables$State" "defaults" "[I", Cond.methodLink RX1 54 yX1_valueAt, Cond.instanceMethod yX1_valueAt, Cond.selects RX1 yX1_valueAt yX1_valueAt, Cond.code yX1_valueAt cX1_valueAt 3 (some .int), Cond.fieldLink RX1 19 "PushedTables$State" "values" "[I", Cond.methodLink RX3 52 yX1_valueAt, Cond.methodLink RX3 56 yX2_fillCell, Cond.instanceMethod yX2_fillCell, Cond.selects RX2 yX2_fillCell yX2_fillCell, Cond.initialized RX2]
def wsX3_fillCellsOf_r2 : List Cond := [Cond.code yX2_fillCell cX2_fillCell 4 none, Cond.fieldLink RX2 9 "PushedTables$Store" "values" "[I", Cond.fieldLink RX2 15 "PushedTables$Store" "marks" "[I"]
def wsX3_fillCellsOf : List Cond := .code yX3_fillCellsOf cX3_fillCellsOf 5 none :: ((wsX3_fillCellsOf_r1 ++ wsX3_fillCellsOf_r2) ++ wsX30 ++ wsX10 ++ wsX20)
def wsX3_restore_r1 : List Cond := [Cond.fieldLink RX3 12 "PushedTables$Table" "state" "LPushedTables$State;", Cond.fieldLink RX3 21 "PushedTables$Table" "store" "LPushedTables$Store;", Cond.fieldLink RX3 32 "PushedTables$State" "rowCount" "I", Cond.methodLink RX3 25 yX1_copyFrom, Cond.instanceMethod yX1_copyFrom, Cond.selects RX1 yX1_copyFrom yX1_copyFrom, Cond.initialized RX1, Cond.code yX1_copyFrom cX1_copyFrom 2 none, Cond.fieldLink RX1 9 "PushedTables$State" "rowCount" "I", Cond.fieldLink RX1 15 "PushedTables$State" "defaults" "[I", Cond.methodLink RX1 31 arraycopyName, Cond.native arraycopyName, Cond.static arraycopyName, Cond.initialized "java/lang/System", Cond.fieldLink RX1 19 "PushedTables$State" "values" "[I", Cond.fieldLink RX1 22 "PushedTables$State" "forms" "[I", Cond.fieldLink RX1 25 "PushedTables$State" "shifts" "[I", Cond.methodLink RX3 29 yX2_emptyAll, Cond.instanceMethod yX2_emptyAll, Cond.selects RX2 yX2_emptyAll yX2_emptyAll, Cond.initialized RX2, Cond.code yX2_emptyAll cX2_emptyAll 1 none, Cond.fieldLink RX2 9 "PushedTables$Store" "values" "[I", Cond.fieldLink RX2 15 "PushedTables$Store" "marks" "[I"]
def wsX3_restore_r2 : List Cond := [Cond.methodLink RX2 21 yJ7_fill_53178, Cond.static yJ7_fill_53178, Cond.initialized RJ7, Cond.code yJ7_fill_53178 cJ7_fill_53178 4 none, Cond.methodLink RX3 36 yX3_fillCellsOf, Cond.instanceMethod yX3_fillCellsOf, Cond.selects RX3 yX3_fillCellsOf yX3_fillCellsOf, Cond.initialized RX3, Cond.code yX3_fillCellsOf cX3_fillCellsOf 5 none, Cond.fieldLink RX3 40 "PushedTables$State" "forms" "[I", Cond.methodLink RX3 44 yX1_shiftOf, Cond.instanceMethod yX1_shiftOf, Cond.selects RX1 yX1_shiftOf yX1_shiftOf, Cond.code yX1_shiftOf cX1_shiftOf 2 (some .int), Cond.methodLink RX3 48 yX1_isEntry, Cond.instanceMethod yX1_isEntry, Cond.selects RX1 yX1_isEntry yX1_isEntry, Cond.code yX1_isEntry cX1_isEntry 3 (some .boolean), Cond.methodLink RX1 54 yX1_valueAt, Cond.instanceMethod yX1_valueAt, Cond.selects RX1 yX1_valueAt yX1_valueAt, Cond.code yX1_valueAt cX1_valueAt 3 (some .int), Cond.methodLink RX3 52 yX1_valueAt, Cond.methodLink RX3 56 yX2_fillCell]
def wsX3_restore_r3 : List Cond := [Cond.instanceMethod yX2_fillCell, Cond.selects RX2 yX2_fillCell yX2_fillCell, Cond.code yX2_fillCell cX2_fillCell 4 none]
def wsX3_restore : List Cond := .code yX3_restore cX3_restore 3 none :: ((wsX3_restore_r1 ++ (wsX3_restore_r2 ++ wsX3_restore_r3)) ++ wsX30 ++ wsX10 ++ wsX20)
def wsX3_hasEntriesOf : List Cond := .code yX3_hasEntriesOf cX3_hasEntriesOf 6 (some .boolean) :: ([.fieldLink RX3 12 "PushedTables$Table" "state" "LPushedTables$State;", .fieldLink RX3 21 "PushedTables$Table" "store" "LPushedTables$Store;", .fieldLink RX3 85 "PushedTables$Store" "marks" "[I", .fieldLink RX3 88 "PushedTables$Store" "values" "[I", .methodLink RX3 44 yX1_shiftOf, .instanceMethod yX1_shiftOf, .selects RX1 yX1_shiftOf yX1_shiftOf, .initialized RX1, .code yX1_shiftOf cX1_shiftOf 2 (some .int), .fieldLink RX1 25 "PushedTables$State" "shifts" "[I", .methodLink RX3 48 yX1_isEntry, .instanceMethod yX1_isEntry, .selects RX1 yX1_isEntry yX1_isEntry, .code yX1_isEntry cX1_isEntry 3 (some .boolean), .fieldLink RX1 15 "PushedTables$State" "defaults" "[I", .methodLink RX1 54 yX1_valueAt, .instanceMethod yX1_valueAt, .selects RX1 yX1_valueAt yX1_valueAt, .code yX1_valueAt cX1_valueAt 3 (some .int), .fieldLink RX1 19 "PushedTables$State" "values" "[I", .methodLink RX3 52 yX1_valueAt] ++ wsX30 ++ wsX20 ++ wsX10)
def wsX3_leaveForm_r1 : List Cond := [Cond.fieldLink RX3 12 "PushedTables$Table" "state" "LPushedTables$State;", Cond.fieldLink RX3 40 "PushedTables$State" "forms" "[I", Cond.fieldLink RX3 21 "PushedTables$Table" "store" "LPushedTables$Store;", Cond.fieldLink RX3 82 "PushedTables$State" "shifts" "[I", Cond.methodLink RX3 44 yX1_shiftOf, Cond.instanceMethod yX1_shiftOf, Cond.selects RX1 yX1_shiftOf yX1_shiftOf, Cond.initialized RX1, Cond.code yX1_shiftOf cX1_shiftOf 2 (some .int), Cond.fieldLink RX1 25 "PushedTables$State" "shifts" "[I", Cond.methodLink RX3 76 yX1_sharersOf, Cond.instanceMethod yX1_sharersOf, Cond.selects RX1 yX1_sharersOf yX1_sharersOf, Cond.code yX1_sharersOf cX1_sharersOf 4 (some .int), Cond.fieldLink RX1 9 "PushedTables$State" "rowCount" "I", Cond.fieldLink RX1 22 "PushedTables$State" "forms" "[I", Cond.methodLink RX3 79 yX2_takeOut, Cond.instanceMethod yX2_takeOut, Cond.selects RX2 yX2_takeOut yX2_takeOut, Cond.initialized RX2, Cond.code yX2_takeOut cX2_takeOut 4 none, Cond.fieldLink RX2 15 "PushedTables$Store" "marks" "[I", Cond.methodLink RX2 27 yX2_fillCell, Cond.instanceMethod yX2_fillCell]
def wsX3_leaveForm_r2 : List Cond := [Cond.selects RX2 yX2_fillCell yX2_fillCell, Cond.code yX2_fillCell cX2_fillCell 4 none, Cond.fieldLink RX2 9 "PushedTables$Store" "values" "[I"]
def wsX3_leaveForm : List Cond := .code yX3_leaveForm cX3_leaveForm 4 none :: ((wsX3_leaveForm_r1 ++ wsX3_leaveForm_r2) ++ wsX30 ++ wsX10 ++ wsX20)
def wsX3_formWithEntriesOf_r1 : List Cond := [Cond.methodLink RX3 60 yX3_hasEntriesOf, Cond.instanceMethod yX3_hasEntriesOf, Cond.selects RX3 yX3_hasEntriesOf yX3_hasEntriesOf, Cond.initialized RX3, Cond.code yX3_hasEntriesOf cX3_hasEntriesOf 6 (some .boolean), Cond.fieldLink RX3 12 "PushedTables$Table" "state" "LPushedTables$State;", Cond.fieldLink RX3 21 "PushedTables$Table" "store" "LPushedTables$Store;", Cond.fieldLink RX3 85 "PushedTables$Store" "marks" "[I", Cond.fieldLink RX3 88 "PushedTables$Store" "values" "[I", Cond.methodLink RX3 44 yX1_shiftOf, Cond.instanceMethod yX1_shiftOf, Cond.selects RX1 yX1_shiftOf yX1_shiftOf, Cond.initialized RX1, Cond.code yX1_shiftOf cX1_shiftOf 2 (some .int), Cond.fieldLink RX1 25 "PushedTables$State" "shifts" "[I", Cond.methodLink RX3 48 yX1_isEntry, Cond.instanceMethod yX1_isEntry, Cond.selects RX1 yX1_isEntry yX1_isEntry, Cond.code yX1_isEntry cX1_isEntry 3 (some .boolean), Cond.fieldLink RX1 15 "PushedTables$State" "defaults" "[I", Cond.methodLink RX1 54 yX1_valueAt, Cond.instanceMethod yX1_valueAt, Cond.selects RX1 yX1_valueAt yX1_valueAt, Cond.code yX1_valueAt cX1_valueAt 3 (some .int)]
def wsX3_formWithEntriesOf_r2 : List Cond := [Cond.fieldLink RX1 19 "PushedTables$State" "values" "[I", Cond.methodLink RX3 52 yX1_valueAt]
def wsX3_formWithEntriesOf : List Cond := .code yX3_formWithEntriesOf cX3_formWithEntriesOf 3 (some .int) :: ((wsX3_formWithEntriesOf_r1 ++ wsX3_formWithEntriesOf_r2) ++ wsX30 ++ wsX20 ++ wsX10)
def wsX3_pushNewForm_r1 : List Cond := [Cond.fieldLink RX3 12 "PushedTables$Table" "state" "LPushedTables$State;", Cond.fieldLink RX3 21 "PushedTables$Table" "store" "LPushedTables$Store;", Cond.fieldLink RX3 40 "PushedTables$State" "forms" "[I", Cond.fieldLink RX3 82 "PushedTables$State" "shifts" "[I", Cond.methodLink RX3 91 yX1_freeForm, Cond.instanceMethod yX1_freeForm, Cond.selects RX1 yX1_freeForm yX1_freeForm, Cond.initialized RX1, Cond.code yX1_freeForm cX1_freeForm 2 (some .int), Cond.fieldLink RX1 25 "PushedTables$State" "shifts" "[I", Cond.methodLink RX3 95 yX2_firstFit, Cond.instanceMethod yX2_firstFit, Cond.selects RX2 yX2_firstFit yX2_firstFit, Cond.initialized RX2, Cond.code yX2_firstFit cX2_firstFit 3 (some .int), Cond.methodLink RX2 31 yX2_fitsAt, Cond.instanceMethod yX2_fitsAt, Cond.selects RX2 yX2_fitsAt yX2_fitsAt, Cond.code yX2_fitsAt cX2_fitsAt 4 (some .boolean), Cond.methodLink RX2 35 yX2_isEmptyAt, Cond.instanceMethod yX2_isEmptyAt, Cond.selects RX2 yX2_isEmptyAt yX2_isEmptyAt, Cond.code yX2_isEmptyAt cX2_isEmptyAt 2 (some .boolean), Cond.fieldLink RX2 15 "PushedTables$Store" "marks" "[I"]
def wsX3_pushNewForm_r2 : List Cond := [Cond.methodLink RX3 36 yX3_fillCellsOf, Cond.instanceMethod yX3_fillCellsOf, Cond.selects RX3 yX3_fillCellsOf yX3_fillCellsOf, Cond.initialized RX3, Cond.code yX3_fillCellsOf cX3_fillCellsOf 5 none, Cond.methodLink RX3 44 yX1_shiftOf, Cond.instanceMethod yX1_shiftOf, Cond.selects RX1 yX1_shiftOf yX1_shiftOf, Cond.code yX1_shiftOf cX1_shiftOf 2 (some .int), Cond.methodLink RX3 48 yX1_isEntry, Cond.instanceMethod yX1_isEntry, Cond.selects RX1 yX1_isEntry yX1_isEntry, Cond.code yX1_isEntry cX1_isEntry 3 (some .boolean), Cond.fieldLink RX1 15 "PushedTables$State" "defaults" "[I", Cond.methodLink RX1 54 yX1_valueAt, Cond.instanceMethod yX1_valueAt, Cond.selects RX1 yX1_valueAt yX1_valueAt, Cond.code yX1_valueAt cX1_valueAt 3 (some .int), Cond.fieldLink RX1 19 "PushedTables$State" "values" "[I", Cond.methodLink RX3 52 yX1_valueAt, Cond.methodLink RX3 56 yX2_fillCell, Cond.instanceMethod yX2_fillCell, Cond.selects RX2 yX2_fillCell yX2_fillCell, Cond.code yX2_fillCell cX2_fillCell 4 none]
def wsX3_pushNewForm_r3 : List Cond := [Cond.fieldLink RX2 9 "PushedTables$Store" "values" "[I"]
def wsX3_pushNewForm : List Cond := .code yX3_pushNewForm cX3_pushNewForm 5 none :: ((wsX3_pushNewForm_r1 ++ (wsX3_pushNewForm_r2 ++ wsX3_pushNewForm_r3)) ++ wsX30 ++ wsX10 ++ wsX20)
def wsX3_settle_r1 : List Cond := [Cond.fieldLink RX3 12 "PushedTables$Table" "state" "LPushedTables$State;", Cond.fieldLink RX3 40 "PushedTables$State" "forms" "[I", Cond.methodLink RX3 60 yX3_hasEntriesOf, Cond.instanceMethod yX3_hasEntriesOf, Cond.selects RX3 yX3_hasEntriesOf yX3_hasEntriesOf, Cond.initialized RX3, Cond.code yX3_hasEntriesOf cX3_hasEntriesOf 6 (some .boolean), Cond.fieldLink RX3 21 "PushedTables$Table" "store" "LPushedTables$Store;", Cond.fieldLink RX3 85 "PushedTables$Store" "marks" "[I", Cond.fieldLink RX3 88 "PushedTables$Store" "values" "[I", Cond.methodLink RX3 44 yX1_shiftOf, Cond.instanceMethod yX1_shiftOf, Cond.selects RX1 yX1_shiftOf yX1_shiftOf, Cond.initialized RX1, Cond.code yX1_shiftOf cX1_shiftOf 2 (some .int), Cond.fieldLink RX1 25 "PushedTables$State" "shifts" "[I", Cond.methodLink RX3 48 yX1_isEntry, Cond.instanceMethod yX1_isEntry, Cond.selects RX1 yX1_isEntry yX1_isEntry, Cond.code yX1_isEntry cX1_isEntry 3 (some .boolean), Cond.fieldLink RX1 15 "PushedTables$State" "defaults" "[I", Cond.methodLink RX1 54 yX1_valueAt, Cond.instanceMethod yX1_valueAt, Cond.selects RX1 yX1_valueAt yX1_valueAt]
def wsX3_settle_r2 : List Cond := [Cond.code yX1_valueAt cX1_valueAt 3 (some .int), Cond.fieldLink RX1 19 "PushedTables$State" "values" "[I", Cond.methodLink RX3 52 yX1_valueAt, Cond.methodLink RX3 63 yX3_leaveForm, Cond.instanceMethod yX3_leaveForm, Cond.selects RX3 yX3_leaveForm yX3_leaveForm, Cond.code yX3_leaveForm cX3_leaveForm 4 none, Cond.fieldLink RX3 82 "PushedTables$State" "shifts" "[I", Cond.methodLink RX3 76 yX1_sharersOf, Cond.instanceMethod yX1_sharersOf, Cond.selects RX1 yX1_sharersOf yX1_sharersOf, Cond.code yX1_sharersOf cX1_sharersOf 4 (some .int), Cond.fieldLink RX1 9 "PushedTables$State" "rowCount" "I", Cond.fieldLink RX1 22 "PushedTables$State" "forms" "[I", Cond.methodLink RX3 79 yX2_takeOut, Cond.instanceMethod yX2_takeOut, Cond.selects RX2 yX2_takeOut yX2_takeOut, Cond.initialized RX2, Cond.code yX2_takeOut cX2_takeOut 4 none, Cond.fieldLink RX2 15 "PushedTables$Store" "marks" "[I", Cond.methodLink RX2 27 yX2_fillCell, Cond.instanceMethod yX2_fillCell, Cond.selects RX2 yX2_fillCell yX2_fillCell, Cond.code yX2_fillCell cX2_fillCell 4 none]
def wsX3_settle_r3 : List Cond := [Cond.fieldLink RX2 9 "PushedTables$Store" "values" "[I", Cond.methodLink RX3 66 yX1_columnsOf, Cond.instanceMethod yX1_columnsOf, Cond.selects RX1 yX1_columnsOf yX1_columnsOf, Cond.code yX1_columnsOf cX1_columnsOf 4 (some .int), Cond.methodLink RX1 46 yX1_isEntry, Cond.methodLink RX3 69 yX3_formWithEntriesOf, Cond.instanceMethod yX3_formWithEntriesOf, Cond.selects RX3 yX3_formWithEntriesOf yX3_formWithEntriesOf, Cond.code yX3_formWithEntriesOf cX3_formWithEntriesOf 3 (some .int), Cond.methodLink RX3 72 yX3_pushNewForm, Cond.instanceMethod yX3_pushNewForm, Cond.selects RX3 yX3_pushNewForm yX3_pushNewForm, Cond.code yX3_pushNewForm cX3_pushNewForm 5 none, Cond.methodLink RX3 91 yX1_freeForm, Cond.instanceMethod yX1_freeForm, Cond.selects RX1 yX1_freeForm yX1_freeForm, Cond.code yX1_freeForm cX1_freeForm 2 (some .int), Cond.methodLink RX3 95 yX2_firstFit, Cond.instanceMethod yX2_firstFit, Cond.selects RX2 yX2_firstFit yX2_firstFit, Cond.code yX2_firstFit cX2_firstFit 3 (some .int), Cond.methodLink RX2 31 yX2_fitsAt, Cond.instanceMethod yX2_fitsAt]
def wsX3_settle_r4 : List Cond := [Cond.selects RX2 yX2_fitsAt yX2_fitsAt, Cond.code yX2_fitsAt cX2_fitsAt 4 (some .boolean), Cond.methodLink RX2 35 yX2_isEmptyAt, Cond.instanceMethod yX2_isEmptyAt, Cond.selects RX2 yX2_isEmptyAt yX2_isEmptyAt, Cond.code yX2_isEmptyAt cX2_isEmptyAt 2 (some .boolean), Cond.methodLink RX3 36 yX3_fillCellsOf, Cond.instanceMethod yX3_fillCellsOf, Cond.selects RX3 yX3_fillCellsOf yX3_fillCellsOf, Cond.code yX3_fillCellsOf cX3_fillCellsOf 5 none, Cond.methodLink RX3 56 yX2_fillCell]
def wsX3_settle : List Cond := .code yX3_settle cX3_settle 3 none :: ((wsX3_settle_r1 ++ (wsX3_settle_r2 ++ (wsX3_settle_r3 ++ wsX3_settle_r4))) ++ wsX30 ++ wsX10 ++ wsX20)
def wsX3_takeOutAll : List Cond := .code yX3_takeOutAll cX3_takeOutAll 1 none :: ([.fieldLink RX3 12 "PushedTables$Table" "state" "LPushedTables$State;", .fieldLink RX3 21 "PushedTables$Table" "store" "LPushedTables$Store;", .instanceMethod yX1_forgetForms, .initialized RX1, .selects RX1 yX1_forgetForms yX1_forgetForms, .code yX1_forgetForms cX1_forgetForms 1 none, .fieldLink RX1 22 "PushedTables$State" "forms" "[I", .fieldLink RX1 25 "PushedTables$State" "shifts" "[I", .methodLink RX1 37 yJ7_fill_53178, .static yJ7_fill_53178, .initialized RJ7, .code yJ7_fill_53178 cJ7_fill_53178 4 none, .methodLink RX3 29 yX2_emptyAll, .instanceMethod yX2_emptyAll, .selects RX2 yX2_emptyAll yX2_emptyAll, .initialized RX2, .code yX2_emptyAll cX2_emptyAll 1 none, .fieldLink RX2 9 "PushedTables$Store" "values" "[I", .fieldLink RX2 15 "PushedTables$Store" "marks" "[I", .methodLink RX2 21 yJ7_fill_53178] ++ wsX30 ++ wsX10 ++ wsX20)
def wsX3_pushAnewByWeights_r1 : List Cond := [Cond.fieldLink RX3 12 "PushedTables$Table" "state" "LPushedTables$State;", Cond.fieldLink RX3 32 "PushedTables$State" "rowCount" "I", Cond.methodLink RX3 98 yX3_takeOutAll, Cond.instanceMethod yX3_takeOutAll, Cond.selects RX3 yX3_takeOutAll yX3_takeOutAll, Cond.initialized RX3, Cond.code yX3_takeOutAll cX3_takeOutAll 1 none, Cond.fieldLink RX3 21 "PushedTables$Table" "store" "LPushedTables$Store;", Cond.instanceMethod yX1_forgetForms, Cond.initialized RX1, Cond.selects RX1 yX1_forgetForms yX1_forgetForms, Cond.code yX1_forgetForms cX1_forgetForms 1 none, Cond.fieldLink RX1 22 "PushedTables$State" "forms" "[I", Cond.fieldLink RX1 25 "PushedTables$State" "shifts" "[I", Cond.methodLink RX1 37 yJ7_fill_53178, Cond.static yJ7_fill_53178, Cond.initialized RJ7, Cond.code yJ7_fill_53178 cJ7_fill_53178 4 none, Cond.methodLink RX3 29 yX2_emptyAll, Cond.instanceMethod yX2_emptyAll, Cond.selects RX2 yX2_emptyAll yX2_emptyAll, Cond.initialized RX2, Cond.code yX2_emptyAll cX2_emptyAll 1 none, Cond.fieldLink RX2 9 "PushedTables$Store" "values" "[I"]
def wsX3_pushAnewByWeights_r2 : List Cond := [Cond.fieldLink RX2 15 "PushedTables$Store" "marks" "[I", Cond.methodLink RX2 21 yJ7_fill_53178, Cond.methodLink RX3 101 yX1_weightOf, Cond.instanceMethod yX1_weightOf, Cond.selects RX1 yX1_weightOf yX1_weightOf, Cond.code yX1_weightOf cX1_weightOf 2 (some .int), Cond.methodLink RX1 58 yX1_columnsOf, Cond.instanceMethod yX1_columnsOf, Cond.selects RX1 yX1_columnsOf yX1_columnsOf, Cond.code yX1_columnsOf cX1_columnsOf 4 (some .int), Cond.methodLink RX1 46 yX1_isEntry, Cond.instanceMethod yX1_isEntry, Cond.selects RX1 yX1_isEntry yX1_isEntry, Cond.code yX1_isEntry cX1_isEntry 3 (some .boolean), Cond.fieldLink RX1 15 "PushedTables$State" "defaults" "[I", Cond.methodLink RX1 54 yX1_valueAt, Cond.instanceMethod yX1_valueAt, Cond.selects RX1 yX1_valueAt yX1_valueAt, Cond.code yX1_valueAt cX1_valueAt 3 (some .int), Cond.fieldLink RX1 19 "PushedTables$State" "values" "[I", Cond.methodLink RX1 62 yJ6_bitCount_0f7a4, Cond.static yJ6_bitCount_0f7a4, Cond.initialized RJ6, Cond.code yJ6_bitCount_0f7a4 cJ6_bitCount_0f7a4 1 (some .int)]
def wsX3_pushAnewByWeights_r3 : List Cond := [Cond.constant RJ6 265 (1431655765), Cond.constant RJ6 266 (858993459), Cond.constant RJ6 267 (252645135), Cond.methodLink RX3 104 yX3_settle, Cond.instanceMethod yX3_settle, Cond.selects RX3 yX3_settle yX3_settle, Cond.code yX3_settle cX3_settle 3 none, Cond.fieldLink RX3 40 "PushedTables$State" "forms" "[I", Cond.methodLink RX3 60 yX3_hasEntriesOf, Cond.instanceMethod yX3_hasEntriesOf, Cond.selects RX3 yX3_hasEntriesOf yX3_hasEntriesOf, Cond.code yX3_hasEntriesOf cX3_hasEntriesOf 6 (some .boolean), Cond.fieldLink RX3 85 "PushedTables$Store" "marks" "[I", Cond.fieldLink RX3 88 "PushedTables$Store" "values" "[I", Cond.methodLink RX3 44 yX1_shiftOf, Cond.instanceMethod yX1_shiftOf, Cond.selects RX1 yX1_shiftOf yX1_shiftOf, Cond.code yX1_shiftOf cX1_shiftOf 2 (some .int), Cond.methodLink RX3 48 yX1_isEntry, Cond.methodLink RX3 52 yX1_valueAt, Cond.methodLink RX3 63 yX3_leaveForm, Cond.instanceMethod yX3_leaveForm, Cond.selects RX3 yX3_leaveForm yX3_leaveForm, Cond.code yX3_leaveForm cX3_leaveForm 4 none]
def wsX3_pushAnewByWeights_r4 : List Cond := [Cond.fieldLink RX3 82 "PushedTables$State" "shifts" "[I", Cond.methodLink RX3 76 yX1_sharersOf, Cond.instanceMethod yX1_sharersOf, Cond.selects RX1 yX1_sharersOf yX1_sharersOf, Cond.code yX1_sharersOf cX1_sharersOf 4 (some .int), Cond.fieldLink RX1 9 "PushedTables$State" "rowCount" "I", Cond.methodLink RX3 79 yX2_takeOut, Cond.instanceMethod yX2_takeOut, Cond.selects RX2 yX2_takeOut yX2_takeOut, Cond.code yX2_takeOut cX2_takeOut 4 none, Cond.methodLink RX2 27 yX2_fillCell, Cond.instanceMethod yX2_fillCell, Cond.selects RX2 yX2_fillCell yX2_fillCell, Cond.code yX2_fillCell cX2_fillCell 4 none, Cond.methodLink RX3 66 yX1_columnsOf, Cond.methodLink RX3 69 yX3_formWithEntriesOf, Cond.instanceMethod yX3_formWithEntriesOf, Cond.selects RX3 yX3_formWithEntriesOf yX3_formWithEntriesOf, Cond.code yX3_formWithEntriesOf cX3_formWithEntriesOf 3 (some .int), Cond.methodLink RX3 72 yX3_pushNewForm, Cond.instanceMethod yX3_pushNewForm, Cond.selects RX3 yX3_pushNewForm yX3_pushNewForm, Cond.code yX3_pushNewForm cX3_pushNewForm 5 none, Cond.methodLink RX3 91 yX1_freeForm]
def wsX3_pushAnewByWeights_r5 : List Cond := [Cond.instanceMethod yX1_freeForm, Cond.selects RX1 yX1_freeForm yX1_freeForm, Cond.code yX1_freeForm cX1_freeForm 2 (some .int), Cond.methodLink RX3 95 yX2_firstFit, Cond.instanceMethod yX2_firstFit, Cond.selects RX2 yX2_firstFit yX2_firstFit, Cond.code yX2_firstFit cX2_firstFit 3 (some .int), Cond.methodLink RX2 31 yX2_fitsAt, Cond.instanceMethod yX2_fitsAt, Cond.selects RX2 yX2_fitsAt yX2_fitsAt, Cond.code yX2_fitsAt cX2_fitsAt 4 (some .boolean), Cond.methodLink RX2 35 yX2_isEmptyAt, Cond.instanceMethod yX2_isEmptyAt, Cond.selects RX2 yX2_isEmptyAt yX2_isEmptyAt, Cond.code yX2_isEmptyAt cX2_isEmptyAt 2 (some .boolean), Cond.methodLink RX3 36 yX3_fillCellsOf, Cond.instanceMethod yX3_fillCellsOf, Cond.selects RX3 yX3_fillCellsOf yX3_fillCellsOf, Cond.code yX3_fillCellsOf cX3_fillCellsOf 5 none, Cond.methodLink RX3 56 yX2_fillCell]
def wsX3_pushAnewByWeights : List Cond := .code yX3_pushAnewByWeights cX3_pushAnewByWeights 3 none :: ((wsX3_pushAnewByWeights_r1 ++ (wsX3_pushAnewByWeights_r2 ++ (wsX3_pushAnewByWeights_r3 ++ (wsX3_pushAnewByWeights_r4 ++ wsX3_pushAnewByWeights_r5)))) ++ wsX30 ++ wsX10 ++ wsX20)
def wsX3_pushAnewByNumbers_r1 : List Cond := [Cond.fieldLink RX3 12 "PushedTables$Table" "state" "LPushedTables$State;", Cond.fieldLink RX3 32 "PushedTables$State" "rowCount" "I", Cond.methodLink RX3 98 yX3_takeOutAll, Cond.instanceMethod yX3_takeOutAll, Cond.selects RX3 yX3_takeOutAll yX3_takeOutAll, Cond.initialized RX3, Cond.code yX3_takeOutAll cX3_takeOutAll 1 none, Cond.fieldLink RX3 21 "PushedTables$Table" "store" "LPushedTables$Store;", Cond.instanceMethod yX1_forgetForms, Cond.initialized RX1, Cond.selects RX1 yX1_forgetForms yX1_forgetForms, Cond.code yX1_forgetForms cX1_forgetForms 1 none, Cond.fieldLink RX1 22 "PushedTables$State" "forms" "[I", Cond.fieldLink RX1 25 "PushedTables$State" "shifts" "[I", Cond.methodLink RX1 37 yJ7_fill_53178, Cond.static yJ7_fill_53178, Cond.initialized RJ7, Cond.code yJ7_fill_53178 cJ7_fill_53178 4 none, Cond.methodLink RX3 29 yX2_emptyAll, Cond.instanceMethod yX2_emptyAll, Cond.selects RX2 yX2_emptyAll yX2_emptyAll, Cond.initialized RX2, Cond.code yX2_emptyAll cX2_emptyAll 1 none, Cond.fieldLink RX2 9 "PushedTables$Store" "values" "[I"]
def wsX3_pushAnewByNumbers_r2 : List Cond := [Cond.fieldLink RX2 15 "PushedTables$Store" "marks" "[I", Cond.methodLink RX2 21 yJ7_fill_53178, Cond.methodLink RX3 104 yX3_settle, Cond.instanceMethod yX3_settle, Cond.selects RX3 yX3_settle yX3_settle, Cond.code yX3_settle cX3_settle 3 none, Cond.fieldLink RX3 40 "PushedTables$State" "forms" "[I", Cond.methodLink RX3 60 yX3_hasEntriesOf, Cond.instanceMethod yX3_hasEntriesOf, Cond.selects RX3 yX3_hasEntriesOf yX3_hasEntriesOf, Cond.code yX3_hasEntriesOf cX3_hasEntriesOf 6 (some .boolean), Cond.fieldLink RX3 85 "PushedTables$Store" "marks" "[I", Cond.fieldLink RX3 88 "PushedTables$Store" "values" "[I", Cond.methodLink RX3 44 yX1_shiftOf, Cond.instanceMethod yX1_shiftOf, Cond.selects RX1 yX1_shiftOf yX1_shiftOf, Cond.code yX1_shiftOf cX1_shiftOf 2 (some .int), Cond.methodLink RX3 48 yX1_isEntry, Cond.instanceMethod yX1_isEntry, Cond.selects RX1 yX1_isEntry yX1_isEntry, Cond.code yX1_isEntry cX1_isEntry 3 (some .boolean), Cond.fieldLink RX1 15 "PushedTables$State" "defaults" "[I", Cond.methodLink RX1 54 yX1_valueAt, Cond.instanceMethod yX1_valueAt]
def wsX3_pushAnewByNumbers_r3 : List Cond := [Cond.selects RX1 yX1_valueAt yX1_valueAt, Cond.code yX1_valueAt cX1_valueAt 3 (some .int), Cond.fieldLink RX1 19 "PushedTables$State" "values" "[I", Cond.methodLink RX3 52 yX1_valueAt, Cond.methodLink RX3 63 yX3_leaveForm, Cond.instanceMethod yX3_leaveForm, Cond.selects RX3 yX3_leaveForm yX3_leaveForm, Cond.code yX3_leaveForm cX3_leaveForm 4 none, Cond.fieldLink RX3 82 "PushedTables$State" "shifts" "[I", Cond.methodLink RX3 76 yX1_sharersOf, Cond.instanceMethod yX1_sharersOf, Cond.selects RX1 yX1_sharersOf yX1_sharersOf, Cond.code yX1_sharersOf cX1_sharersOf 4 (some .int), Cond.fieldLink RX1 9 "PushedTables$State" "rowCount" "I", Cond.methodLink RX3 79 yX2_takeOut, Cond.instanceMethod yX2_takeOut, Cond.selects RX2 yX2_takeOut yX2_takeOut, Cond.code yX2_takeOut cX2_takeOut 4 none, Cond.methodLink RX2 27 yX2_fillCell, Cond.instanceMethod yX2_fillCell, Cond.selects RX2 yX2_fillCell yX2_fillCell, Cond.code yX2_fillCell cX2_fillCell 4 none, Cond.methodLink RX3 66 yX1_columnsOf, Cond.instanceMethod yX1_columnsOf]
def wsX3_pushAnewByNumbers_r4 : List Cond := [Cond.selects RX1 yX1_columnsOf yX1_columnsOf, Cond.code yX1_columnsOf cX1_columnsOf 4 (some .int), Cond.methodLink RX1 46 yX1_isEntry, Cond.methodLink RX3 69 yX3_formWithEntriesOf, Cond.instanceMethod yX3_formWithEntriesOf, Cond.selects RX3 yX3_formWithEntriesOf yX3_formWithEntriesOf, Cond.code yX3_formWithEntriesOf cX3_formWithEntriesOf 3 (some .int), Cond.methodLink RX3 72 yX3_pushNewForm, Cond.instanceMethod yX3_pushNewForm, Cond.selects RX3 yX3_pushNewForm yX3_pushNewForm, Cond.code yX3_pushNewForm cX3_pushNewForm 5 none, Cond.methodLink RX3 91 yX1_freeForm, Cond.instanceMethod yX1_freeForm, Cond.selects RX1 yX1_freeForm yX1_freeForm, Cond.code yX1_freeForm cX1_freeForm 2 (some .int), Cond.methodLink RX3 95 yX2_firstFit, Cond.instanceMethod yX2_firstFit, Cond.selects RX2 yX2_firstFit yX2_firstFit, Cond.code yX2_firstFit cX2_firstFit 3 (some .int), Cond.methodLink RX2 31 yX2_fitsAt, Cond.instanceMethod yX2_fitsAt, Cond.selects RX2 yX2_fitsAt yX2_fitsAt, Cond.code yX2_fitsAt cX2_fitsAt 4 (some .boolean), Cond.methodLink RX2 35 yX2_isEmptyAt]
def wsX3_pushAnewByNumbers_r5 : List Cond := [Cond.instanceMethod yX2_isEmptyAt, Cond.selects RX2 yX2_isEmptyAt yX2_isEmptyAt, Cond.code yX2_isEmptyAt cX2_isEmptyAt 2 (some .boolean), Cond.methodLink RX3 36 yX3_fillCellsOf, Cond.instanceMethod yX3_fillCellsOf, Cond.selects RX3 yX3_fillCellsOf yX3_fillCellsOf, Cond.code yX3_fillCellsOf cX3_fillCellsOf 5 none, Cond.methodLink RX3 56 yX2_fillCell]
def wsX3_pushAnewByNumbers : List Cond := .code yX3_pushAnewByNumbers cX3_pushAnewByNumbers 2 none :: ((wsX3_pushAnewByNumbers_r1 ++ (wsX3_pushAnewByNumbers_r2 ++ (wsX3_pushAnewByNumbers_r3 ++ (wsX3_pushAnewByNumbers_r4 ++ wsX3_pushAnewByNumbers_r5)))) ++ wsX30 ++ wsX10 ++ wsX20)
def wsX3_lookUp : List Cond := .code yX3_lookUp cX3_lookUp 5 (some .int) :: ([.fieldLink RX3 12 "PushedTables$Table" "state" "LPushedTables$State;", .fieldLink RX3 40 "PushedTables$State" "forms" "[I", .fieldLink RX3 21 "PushedTables$Table" "store" "LPushedTables$Store;", .fieldLink RX3 85 "PushedTables$Store" "marks" "[I", .fieldLink RX3 88 "PushedTables$Store" "values" "[I", .fieldLink RX3 110 "PushedTables$State" "defaults" "[I", .methodLink RX3 44 yX1_shiftOf, .instanceMethod yX1_shiftOf, .selects RX1 yX1_shiftOf yX1_shiftOf, .initialized RX1, .code yX1_shiftOf cX1_shiftOf 2 (some .int), .fieldLink RX1 25 "PushedTables$State" "shifts" "[I"] ++ wsX30 ++ wsX10 ++ wsX20)
def wsX3_refusalsOf : List Cond := .code yX3_refusalsOf cX3_refusalsOf 6 (some .int) :: ([.fieldLink RX3 12 "PushedTables$Table" "state" "LPushedTables$State;", .fieldLink RX3 40 "PushedTables$State" "forms" "[I", .fieldLink RX3 21 "PushedTables$Table" "store" "LPushedTables$Store;", .fieldLink RX3 85 "PushedTables$Store" "marks" "[I", .methodLink RX3 44 yX1_shiftOf, .instanceMethod yX1_shiftOf, .selects RX1 yX1_shiftOf yX1_shiftOf, .initialized RX1, .code yX1_shiftOf cX1_shiftOf 2 (some .int), .fieldLink RX1 25 "PushedTables$State" "shifts" "[I", .methodLink RX3 116 yX2_isEmptyAt, .instanceMethod yX2_isEmptyAt, .selects RX2 yX2_isEmptyAt yX2_isEmptyAt, .initialized RX2, .code yX2_isEmptyAt cX2_isEmptyAt 2 (some .boolean), .fieldLink RX2 15 "PushedTables$Store" "marks" "[I"] ++ wsX30 ++ wsX10 ++ wsX20)
def wsX3_refusals : List Cond := .code yX3_refusals cX3_refusals 3 (some .int) :: ([.fieldLink RX3 12 "PushedTables$Table" "state" "LPushedTables$State;", .fieldLink RX3 32 "PushedTables$State" "rowCount" "I", .methodLink RX3 113 yX3_refusalsOf, .instanceMethod yX3_refusalsOf, .selects RX3 yX3_refusalsOf yX3_refusalsOf, .initialized RX3, .code yX3_refusalsOf cX3_refusalsOf 6 (some .int), .fieldLink RX3 40 "PushedTables$State" "forms" "[I", .fieldLink RX3 21 "PushedTables$Table" "store" "LPushedTables$Store;", .fieldLink RX3 85 "PushedTables$Store" "marks" "[I", .methodLink RX3 44 yX1_shiftOf, .instanceMethod yX1_shiftOf, .selects RX1 yX1_shiftOf yX1_shiftOf, .initialized RX1, .code yX1_shiftOf cX1_shiftOf 2 (some .int), .fieldLink RX1 25 "PushedTables$State" "shifts" "[I", .methodLink RX3 116 yX2_isEmptyAt, .instanceMethod yX2_isEmptyAt, .selects RX2 yX2_isEmptyAt yX2_isEmptyAt, .initialized RX2, .code yX2_isEmptyAt cX2_isEmptyAt 2 (some .boolean), .fieldLink RX2 15 "PushedTables$Store" "marks" "[I"] ++ wsX30 ++ wsX10 ++ wsX20)
def wsX4_init : List Cond := .code yX4_init cX4_init 1 none :: ([.methodLink RX4 3 objectInit, .instanceMethod objectInit, .code objectInit ⟨#[0xb1]⟩ 1 none, .fieldLink RX4 9 "PushedTables$Text" "length" "I", .arrayClass .char, .fieldLink RX4 15 "PushedTables$Text" "signs" "[C", .fieldLink RX4 19 "PushedTables$Text" "place" "I", .fieldLink RX4 22 "PushedTables$Text" "number" "I", .fieldLink RX4 25 "PushedTables$Text" "numberPlace" "I", .fieldLink RX4 28 "PushedTables$Text" "rowsRead" "I", .arrayClass .int, .fieldLink RX4 31 "PushedTables$Text" "defaults" "[I", .fieldLink RX4 35 "PushedTables$Text" "values" "[I"] ++ wsX40)
def wsX4_appendSign : List Cond := .code yX4_appendSign cX4_appendSign 2 none :: ([.fieldLink RX4 9 "PushedTables$Text" "length" "I", .fieldLink RX4 15 "PushedTables$Text" "signs" "[C"] ++ wsX40)
def wsX4_valueRead : List Cond := .code yX4_valueRead cX4_valueRead 3 (some .int) :: ([.fieldLink RX4 35 "PushedTables$Text" "values" "[I"] ++ wsX40)
def wsX4_signHere : List Cond := .code yX4_signHere cX4_signHere 1 (some .char) :: ([.fieldLink RX4 19 "PushedTables$Text" "place" "I", .fieldLink RX4 9 "PushedTables$Text" "length" "I", .fieldLink RX4 15 "PushedTables$Text" "signs" "[C"] ++ wsX40)
def wsX4_skipSpaces : List Cond := .code yX4_skipSpaces cX4_skipSpaces 1 none :: ([.fieldLink RX4 19 "PushedTables$Text" "place" "I", .fieldLink RX4 9 "PushedTables$Text" "length" "I", .methodLink RX4 76 yX4_signHere, .instanceMethod yX4_signHere, .selects RX4 yX4_signHere yX4_signHere, .initialized RX4, .code yX4_signHere cX4_signHere 1 (some .char), .fieldLink RX4 15 "PushedTables$Text" "signs" "[C"] ++ wsX40)
def wsX4_isDigitHere : List Cond := .code yX4_isDigitHere cX4_isDigitHere 1 (some .boolean) :: ([.methodLink RX4 76 yX4_signHere, .instanceMethod yX4_signHere, .selects RX4 yX4_signHere yX4_signHere, .initialized RX4, .code yX4_signHere cX4_signHere 1 (some .char), .fieldLink RX4 19 "PushedTables$Text" "place" "I", .fieldLink RX4 9 "PushedTables$Text" "length" "I", .fieldLink RX4 15 "PushedTables$Text" "signs" "[C"] ++ wsX40)
def wsX4_takeDigit : List Cond := .code yX4_takeDigit cX4_takeDigit 2 (some .int) :: ([.fieldLink RX4 19 "PushedTables$Text" "place" "I", .methodLink RX4 76 yX4_signHere, .instanceMethod yX4_signHere, .selects RX4 yX4_signHere yX4_signHere, .initialized RX4, .code yX4_signHere cX4_signHere 1 (some .char), .fieldLink RX4 9 "PushedTables$Text" "length" "I", .fieldLink RX4 15 "PushedTables$Text" "signs" "[C"] ++ wsX40)
def wsX4_readNumber : List Cond := .code yX4_readNumber cX4_readNumber 1 (some .boolean) :: ([.fieldLink RX4 19 "PushedTables$Text" "place" "I", .fieldLink RX4 25 "PushedTables$Text" "numberPlace" "I", .fieldLink RX4 22 "PushedTables$Text" "number" "I", .methodLink RX4 38 yX4_skipSpaces, .instanceMethod yX4_skipSpaces, .selects RX4 yX4_skipSpaces yX4_skipSpaces, .initialized RX4, .code yX4_skipSpaces cX4_skipSpaces 1 none, .fieldLink RX4 9 "PushedTables$Text" "length" "I", .methodLink RX4 76 yX4_signHere, .instanceMethod yX4_signHere, .selects RX4 yX4_signHere yX4_signHere, .code yX4_signHere cX4_signHere 1 (some .char), .fieldLink RX4 15 "PushedTables$Text" "signs" "[C", .methodLink RX4 45 yX4_isDigitHere, .instanceMethod yX4_isDigitHere, .selects RX4 yX4_isDigitHere yX4_isDigitHere, .code yX4_isDigitHere cX4_isDigitHere 1 (some .boolean), .methodLink RX4 72 yX4_takeDigit, .instanceMethod yX4_takeDigit, .selects RX4 yX4_takeDigit yX4_takeDigit, .code yX4_takeDigit cX4_takeDigit 2 (some .int)] ++ wsX40)
def wsX4_takeSign : List Cond := .code yX4_takeSign cX4_takeSign 2 (some .boolean) :: ([.fieldLink RX4 19 "PushedTables$Text" "place" "I", .methodLink RX4 38 yX4_skipSpaces, .instanceMethod yX4_skipSpaces, .selects RX4 yX4_skipSpaces yX4_skipSpaces, .initialized RX4, .code yX4_skipSpaces cX4_skipSpaces 1 none, .fieldLink RX4 9 "PushedTables$Text" "length" "I", .methodLink RX4 76 yX4_signHere, .instanceMethod yX4_signHere, .selects RX4 yX4_signHere yX4_signHere, .code yX4_signHere cX4_signHere 1 (some .char), .fieldLink RX4 15 "PushedTables$Text" "signs" "[C"] ++ wsX40)
def wsX5_isColumn : List Cond := .code yX5_isColumn cX5_isColumn 1 (some .boolean) :: ([])
def wsX4_allowNumber : List Cond := .code yX4_allowNumber cX4_allowNumber 2 (some .boolean) :: ([.fieldLink RX4 25 "PushedTables$Text" "numberPlace" "I", .fieldLink RX4 19 "PushedTables$Text" "place" "I"] ++ wsX40)
def wsX4_readEntries_r1 : List Cond := [Cond.fieldLink RX4 22 "PushedTables$Text" "number" "I", Cond.fieldLink RX4 31 "PushedTables$Text" "defaults" "[I", Cond.fieldLink RX4 35 "PushedTables$Text" "values" "[I", Cond.methodLink RX4 58 yX4_takeSign, Cond.instanceMethod yX4_takeSign, Cond.selects RX4 yX4_takeSign yX4_takeSign, Cond.initialized RX4, Cond.code yX4_takeSign cX4_takeSign 2 (some .boolean), Cond.fieldLink RX4 19 "PushedTables$Text" "place" "I", Cond.methodLink RX4 38 yX4_skipSpaces, Cond.instanceMethod yX4_skipSpaces, Cond.selects RX4 yX4_skipSpaces yX4_skipSpaces, Cond.code yX4_skipSpaces cX4_skipSpaces 1 none, Cond.fieldLink RX4 9 "PushedTables$Text" "length" "I", Cond.methodLink RX4 76 yX4_signHere, Cond.instanceMethod yX4_signHere, Cond.selects RX4 yX4_signHere yX4_signHere, Cond.code yX4_signHere cX4_signHere 1 (some .char), Cond.fieldLink RX4 15 "PushedTables$Text" "signs" "[C", Cond.methodLink RX4 49 yX4_readNumber, Cond.instanceMethod yX4_readNumber, Cond.selects RX4 yX4_readNumber yX4_readNumber, Cond.code yX4_readNumber cX4_readNumber 1 (some .boolean), Cond.fieldLink RX4 25 "PushedTables$Text" "numberPlace" "I"]
def wsX4_readEntries_r2 : List Cond := [Cond.methodLink RX4 45 yX4_isDigitHere, Cond.instanceMethod yX4_isDigitHere, Cond.selects RX4 yX4_isDigitHere yX4_isDigitHere, Cond.code yX4_isDigitHere cX4_isDigitHere 1 (some .boolean), Cond.methodLink RX4 72 yX4_takeDigit, Cond.instanceMethod yX4_takeDigit, Cond.selects RX4 yX4_takeDigit yX4_takeDigit, Cond.code yX4_takeDigit cX4_takeDigit 2 (some .int), Cond.static yX5_isColumn, Cond.initialized RX5, Cond.code yX5_isColumn cX5_isColumn 1 (some .boolean), Cond.methodLink RX4 68 yX4_allowNumber, Cond.instanceMethod yX4_allowNumber, Cond.selects RX4 yX4_allowNumber yX4_allowNumber, Cond.code yX4_allowNumber cX4_allowNumber 2 (some .boolean)]
def wsX4_readEntries : List Cond := .code yX4_readEntries cX4_readEntries 5 (some .boolean) :: ((wsX4_readEntries_r1 ++ wsX4_readEntries_r2) ++ wsX40)
def wsX4_readRow_r1 : List Cond := [Cond.fieldLink RX4 31 "PushedTables$Text" "defaults" "[I", Cond.fieldLink RX4 22 "PushedTables$Text" "number" "I", Cond.fieldLink RX4 35 "PushedTables$Text" "values" "[I", Cond.methodLink RX4 45 yX4_isDigitHere, Cond.instanceMethod yX4_isDigitHere, Cond.selects RX4 yX4_isDigitHere yX4_isDigitHere, Cond.initialized RX4, Cond.code yX4_isDigitHere cX4_isDigitHere 1 (some .boolean), Cond.methodLink RX4 76 yX4_signHere, Cond.instanceMethod yX4_signHere, Cond.selects RX4 yX4_signHere yX4_signHere, Cond.code yX4_signHere cX4_signHere 1 (some .char), Cond.fieldLink RX4 19 "PushedTables$Text" "place" "I", Cond.fieldLink RX4 9 "PushedTables$Text" "length" "I", Cond.fieldLink RX4 15 "PushedTables$Text" "signs" "[C", Cond.methodLink RX4 49 yX4_readNumber, Cond.instanceMethod yX4_readNumber, Cond.selects RX4 yX4_readNumber yX4_readNumber, Cond.code yX4_readNumber cX4_readNumber 1 (some .boolean), Cond.fieldLink RX4 25 "PushedTables$Text" "numberPlace" "I", Cond.methodLink RX4 38 yX4_skipSpaces, Cond.instanceMethod yX4_skipSpaces, Cond.selects RX4 yX4_skipSpaces yX4_skipSpaces, Cond.code yX4_skipSpaces cX4_skipSpaces 1 none]
def wsX4_readRow_r2 : List Cond := [Cond.methodLink RX4 72 yX4_takeDigit, Cond.instanceMethod yX4_takeDigit, Cond.selects RX4 yX4_takeDigit yX4_takeDigit, Cond.code yX4_takeDigit cX4_takeDigit 2 (some .int), Cond.methodLink RX4 52 yJ7_fill_fda19, Cond.static yJ7_fill_fda19, Cond.initialized RJ7, Cond.code yJ7_fill_fda19 cJ7_fill_fda19 5 none, Cond.methodLink RJ7 13 yJ7_rangeCheck_23922, Cond.static yJ7_rangeCheck_23922, Cond.code yJ7_rangeCheck_23922 cJ7_rangeCheck_23922 3 none, Cond.methodLink RX4 58 yX4_takeSign, Cond.instanceMethod yX4_takeSign, Cond.selects RX4 yX4_takeSign yX4_takeSign, Cond.code yX4_takeSign cX4_takeSign 2 (some .boolean), Cond.methodLink RX4 62 yX4_readEntries, Cond.instanceMethod yX4_readEntries, Cond.selects RX4 yX4_readEntries yX4_readEntries, Cond.code yX4_readEntries cX4_readEntries 5 (some .boolean), Cond.static yX5_isColumn, Cond.initialized RX5, Cond.code yX5_isColumn cX5_isColumn 1 (some .boolean), Cond.methodLink RX4 68 yX4_allowNumber, Cond.instanceMethod yX4_allowNumber]
def wsX4_readRow_r3 : List Cond := [Cond.selects RX4 yX4_allowNumber yX4_allowNumber, Cond.code yX4_allowNumber cX4_allowNumber 2 (some .boolean)]
def wsX4_readRow : List Cond := .code yX4_readRow cX4_readRow 2 (some .boolean) :: ((wsX4_readRow_r1 ++ (wsX4_readRow_r2 ++ wsX4_readRow_r3)) ++ wsX40)
def wsX4_readTable_r1 : List Cond := [Cond.fieldLink RX4 19 "PushedTables$Text" "place" "I", Cond.fieldLink RX4 9 "PushedTables$Text" "length" "I", Cond.fieldLink RX4 28 "PushedTables$Text" "rowsRead" "I", Cond.methodLink RX4 38 yX4_skipSpaces, Cond.instanceMethod yX4_skipSpaces, Cond.selects RX4 yX4_skipSpaces yX4_skipSpaces, Cond.initialized RX4, Cond.code yX4_skipSpaces cX4_skipSpaces 1 none, Cond.methodLink RX4 76 yX4_signHere, Cond.instanceMethod yX4_signHere, Cond.selects RX4 yX4_signHere yX4_signHere, Cond.code yX4_signHere cX4_signHere 1 (some .char), Cond.fieldLink RX4 15 "PushedTables$Text" "signs" "[C", Cond.methodLink RX4 41 yX4_readRow, Cond.instanceMethod yX4_readRow, Cond.selects RX4 yX4_readRow yX4_readRow, Cond.code yX4_readRow cX4_readRow 2 (some .boolean), Cond.fieldLink RX4 31 "PushedTables$Text" "defaults" "[I", Cond.fieldLink RX4 22 "PushedTables$Text" "number" "I", Cond.fieldLink RX4 35 "PushedTables$Text" "values" "[I", Cond.methodLink RX4 45 yX4_isDigitHere, Cond.instanceMethod yX4_isDigitHere, Cond.selects RX4 yX4_isDigitHere yX4_isDigitHere, Cond.code yX4_isDigitHere cX4_isDigitHere 1 (some .boolean)]
def wsX4_readTable_r2 : List Cond := [Cond.methodLink RX4 49 yX4_readNumber, Cond.instanceMethod yX4_readNumber, Cond.selects RX4 yX4_readNumber yX4_readNumber, Cond.code yX4_readNumber cX4_readNumber 1 (some .boolean), Cond.fieldLink RX4 25 "PushedTables$Text" "numberPlace" "I", Cond.methodLink RX4 72 yX4_takeDigit, Cond.instanceMethod yX4_takeDigit, Cond.selects RX4 yX4_takeDigit yX4_takeDigit, Cond.code yX4_takeDigit cX4_takeDigit 2 (some .int), Cond.methodLink RX4 52 yJ7_fill_fda19, Cond.static yJ7_fill_fda19, Cond.initialized RJ7, Cond.code yJ7_fill_fda19 cJ7_fill_fda19 5 none, Cond.methodLink RJ7 13 yJ7_rangeCheck_23922, Cond.static yJ7_rangeCheck_23922, Cond.code yJ7_rangeCheck_23922 cJ7_rangeCheck_23922 3 none, Cond.methodLink RX4 58 yX4_takeSign, Cond.instanceMethod yX4_takeSign, Cond.selects RX4 yX4_takeSign yX4_takeSign, Cond.code yX4_takeSign cX4_takeSign 2 (some .boolean), Cond.methodLink RX4 62 yX4_readEntries, Cond.instanceMethod yX4_readEntries, Cond.selects RX4 yX4_readEntries yX4_readEntries, Cond.code yX4_readEntries cX4_readEntries 5 (some .boolean)]
def wsX4_readTable_r3 : List Cond := [Cond.static yX5_isColumn, Cond.initialized RX5, Cond.code yX5_isColumn cX5_isColumn 1 (some .boolean), Cond.methodLink RX4 68 yX4_allowNumber, Cond.instanceMethod yX4_allowNumber, Cond.selects RX4 yX4_allowNumber yX4_allowNumber, Cond.code yX4_allowNumber cX4_allowNumber 2 (some .boolean)]
def wsX4_readTable : List Cond := .code yX4_readTable cX4_readTable 3 (some .boolean) :: ((wsX4_readTable_r1 ++ (wsX4_readTable_r2 ++ wsX4_readTable_r3)) ++ wsX40)
def wsX5_init_r1 : List Cond := [Cond.methodLink RX5 3 objectInit, Cond.instanceMethod objectInit, Cond.code objectInit ⟨#[0xb1]⟩ 1 none, Cond.classLink RX5 9 RX3, Cond.instantiable RX3 2, Cond.initialized RX3, Cond.fieldLink RX5 12 "PushedTables" "table" "LPushedTables$Table;", Cond.fieldLink RX5 16 "PushedTables" "forecast" "LPushedTables$Table;", Cond.classLink RX5 19 RX0, Cond.instantiable RX0 2, Cond.initialized RX0, Cond.fieldLink RX5 22 "PushedTables" "history" "LPushedTables$History;", Cond.classLink RX5 26 RX4, Cond.instantiable RX4 8, Cond.initialized RX4, Cond.fieldLink RX5 29 "PushedTables" "text" "LPushedTables$Text;", Cond.instanceMethod yX3_init, Cond.code yX3_init cX3_init 1 none, Cond.methodLink RX3 3 objectInit, Cond.classLink RX3 9 RX1, Cond.instantiable RX1 5, Cond.initialized RX1, Cond.fieldLink RX3 12 "PushedTables$Table" "state" "LPushedTables$State;", Cond.classLink RX3 18 RX2]
def wsX5_init_r2 : List Cond := [Cond.instantiable RX2 2, Cond.initialized RX2, Cond.fieldLink RX3 21 "PushedTables$Table" "store" "LPushedTables$Store;", Cond.methodLink RX3 11 yX1_init, Cond.instanceMethod yX1_init, Cond.code yX1_init cX1_init 1 none, Cond.methodLink RX1 3 objectInit, Cond.fieldLink RX1 9 "PushedTables$State" "rowCount" "I", Cond.arrayClass .int, Cond.fieldLink RX1 15 "PushedTables$State" "defaults" "[I", Cond.fieldLink RX1 19 "PushedTables$State" "values" "[I", Cond.fieldLink RX1 22 "PushedTables$State" "forms" "[I", Cond.fieldLink RX1 25 "PushedTables$State" "shifts" "[I", Cond.methodLink RX1 28 yX1_forgetForms, Cond.instanceMethod yX1_forgetForms, Cond.selects RX1 yX1_forgetForms yX1_forgetForms, Cond.code yX1_forgetForms cX1_forgetForms 1 none, Cond.methodLink RX1 37 yJ7_fill_53178, Cond.static yJ7_fill_53178, Cond.initialized RJ7, Cond.code yJ7_fill_53178 cJ7_fill_53178 4 none, Cond.methodLink RX3 20 yX2_init, Cond.instanceMethod yX2_init, Cond.code yX2_init cX2_init 1 none]
def wsX5_init_r3 : List Cond := [Cond.methodLink RX2 3 objectInit, Cond.fieldLink RX2 9 "PushedTables$Store" "values" "[I", Cond.fieldLink RX2 15 "PushedTables$Store" "marks" "[I", Cond.methodLink RX2 18 yX2_emptyAll, Cond.instanceMethod yX2_emptyAll, Cond.selects RX2 yX2_emptyAll yX2_emptyAll, Cond.code yX2_emptyAll cX2_emptyAll 1 none, Cond.methodLink RX2 21 yJ7_fill_53178, Cond.methodLink RX5 21 yX0_init, Cond.instanceMethod yX0_init, Cond.code yX0_init cX0_init 2 none, Cond.methodLink RX0 3 objectInit, Cond.fieldLink RX0 9 "PushedTables$History" "size" "I", Cond.classLink RX0 15 RX1, Cond.fieldLink RX0 17 "PushedTables$History" "states" "[LPushedTables$State;", Cond.methodLink RX0 21 yX1_init, Cond.instanceMethod yX4_init, Cond.code yX4_init cX4_init 1 none, Cond.methodLink RX4 3 objectInit, Cond.fieldLink RX4 9 "PushedTables$Text" "length" "I", Cond.arrayClass .char, Cond.fieldLink RX4 15 "PushedTables$Text" "signs" "[C", Cond.fieldLink RX4 19 "PushedTables$Text" "place" "I", Cond.fieldLink RX4 22 "PushedTables$Text" "number" "I"]
def wsX5_init_r4 : List Cond := [Cond.fieldLink RX4 25 "PushedTables$Text" "numberPlace" "I", Cond.fieldLink RX4 28 "PushedTables$Text" "rowsRead" "I", Cond.fieldLink RX4 31 "PushedTables$Text" "defaults" "[I", Cond.fieldLink RX4 35 "PushedTables$Text" "values" "[I"]
def wsX5_init : List Cond := .code yX5_init cX5_init 1 none :: ((wsX5_init_r1 ++ (wsX5_init_r2 ++ (wsX5_init_r3 ++ wsX5_init_r4))) ++ wsX30 ++ wsX50 ++ wsX00 ++ wsX40 ++ wsX10 ++ wsX20)
def wsX5_isValue : List Cond := .code yX5_isValue cX5_isValue 1 (some .boolean) :: ([])
def wsX5_add_r1 : List Cond := [Cond.fieldLink RX5 12 "PushedTables" "table" "LPushedTables$Table;", Cond.fieldLink RX5 37 "PushedTables$Table" "state" "LPushedTables$State;", Cond.fieldLink RX5 41 "PushedTables$State" "rowCount" "I", Cond.fieldLink RX5 22 "PushedTables" "history" "LPushedTables$History;", Cond.methodLink RX5 33 yX5_isValue, Cond.static yX5_isValue, Cond.initialized RX5, Cond.code yX5_isValue cX5_isValue 1 (some .boolean), Cond.methodLink RX5 47 yX0_remember, Cond.instanceMethod yX0_remember, Cond.selects RX0 yX0_remember yX0_remember, Cond.initialized RX0, Cond.code yX0_remember cX0_remember 2 none, Cond.fieldLink RX0 9 "PushedTables$History" "size" "I", Cond.fieldLink RX0 17 "PushedTables$History" "states" "[LPushedTables$State;", Cond.methodLink RX0 22 yX0_dropOldest, Cond.instanceMethod yX0_dropOldest, Cond.selects RX0 yX0_dropOldest yX0_dropOldest, Cond.code yX0_dropOldest cX0_dropOldest 3 none, Cond.methodLink RX0 25 yX1_copyFrom, Cond.instanceMethod yX1_copyFrom, Cond.selects RX1 yX1_copyFrom yX1_copyFrom, Cond.initialized RX1, Cond.code yX1_copyFrom cX1_copyFrom 2 none]
def wsX5_add_r2 : List Cond := [Cond.fieldLink RX1 9 "PushedTables$State" "rowCount" "I", Cond.fieldLink RX1 15 "PushedTables$State" "defaults" "[I", Cond.methodLink RX1 31 arraycopyName, Cond.native arraycopyName, Cond.static arraycopyName, Cond.initialized "java/lang/System", Cond.fieldLink RX1 19 "PushedTables$State" "values" "[I", Cond.fieldLink RX1 22 "PushedTables$State" "forms" "[I", Cond.fieldLink RX1 25 "PushedTables$State" "shifts" "[I", Cond.methodLink RX5 51 yX1_addRow, Cond.instanceMethod yX1_addRow, Cond.selects RX1 yX1_addRow yX1_addRow, Cond.code yX1_addRow cX1_addRow 3 (some .int), Cond.methodLink RX1 43 yJ7_fill_fda19, Cond.static yJ7_fill_fda19, Cond.initialized RJ7, Cond.code yJ7_fill_fda19 cJ7_fill_fda19 5 none, Cond.methodLink RJ7 13 yJ7_rangeCheck_23922, Cond.static yJ7_rangeCheck_23922, Cond.code yJ7_rangeCheck_23922 cJ7_rangeCheck_23922 3 none]
def wsX5_add : List Cond := .code yX5_add cX5_add 2 (some .int) :: ((wsX5_add_r1 ++ wsX5_add_r2) ++ wsX50 ++ wsX30 ++ wsX10 ++ wsX00)
def wsX5_isRow : List Cond := .code yX5_isRow cX5_isRow 2 (some .boolean) :: ([.fieldLink RX5 12 "PushedTables" "table" "LPushedTables$Table;", .fieldLink RX5 37 "PushedTables$Table" "state" "LPushedTables$State;", .fieldLink RX5 41 "PushedTables$State" "rowCount" "I"] ++ wsX50 ++ wsX30 ++ wsX10)
def wsX5_set_r1 : List Cond := [Cond.fieldLink RX5 22 "PushedTables" "history" "LPushedTables$History;", Cond.fieldLink RX5 12 "PushedTables" "table" "LPushedTables$Table;", Cond.fieldLink RX5 37 "PushedTables$Table" "state" "LPushedTables$State;", Cond.methodLink RX5 55 yX5_isRow, Cond.instanceMethod yX5_isRow, Cond.selects RX5 yX5_isRow yX5_isRow, Cond.initialized RX5, Cond.code yX5_isRow cX5_isRow 2 (some .boolean), Cond.fieldLink RX5 41 "PushedTables$State" "rowCount" "I", Cond.methodLink RX5 58 yX5_isColumn, Cond.static yX5_isColumn, Cond.code yX5_isColumn cX5_isColumn 1 (some .boolean), Cond.methodLink RX5 33 yX5_isValue, Cond.static yX5_isValue, Cond.code yX5_isValue cX5_isValue 1 (some .boolean), Cond.methodLink RX5 47 yX0_remember, Cond.instanceMethod yX0_remember, Cond.selects RX0 yX0_remember yX0_remember, Cond.initialized RX0, Cond.code yX0_remember cX0_remember 2 none, Cond.fieldLink RX0 9 "PushedTables$History" "size" "I", Cond.fieldLink RX0 17 "PushedTables$History" "states" "[LPushedTables$State;", Cond.methodLink RX0 22 yX0_dropOldest, Cond.instanceMethod yX0_dropOldest]
def wsX5_set_r2 : List Cond := [Cond.selects RX0 yX0_dropOldest yX0_dropOldest, Cond.code yX0_dropOldest cX0_dropOldest 3 none, Cond.methodLink RX0 25 yX1_copyFrom, Cond.instanceMethod yX1_copyFrom, Cond.selects RX1 yX1_copyFrom yX1_copyFrom, Cond.initialized RX1, Cond.code yX1_copyFrom cX1_copyFrom 2 none, Cond.fieldLink RX1 9 "PushedTables$State" "rowCount" "I", Cond.fieldLink RX1 15 "PushedTables$State" "defaults" "[I", Cond.methodLink RX1 31 arraycopyName, Cond.native arraycopyName, Cond.static arraycopyName, Cond.initialized "java/lang/System", Cond.fieldLink RX1 19 "PushedTables$State" "values" "[I", Cond.fieldLink RX1 22 "PushedTables$State" "forms" "[I", Cond.fieldLink RX1 25 "PushedTables$State" "shifts" "[I", Cond.methodLink RX5 61 yX1_valueAt, Cond.instanceMethod yX1_valueAt, Cond.selects RX1 yX1_valueAt yX1_valueAt, Cond.code yX1_valueAt cX1_valueAt 3 (some .int), Cond.methodLink RX5 65 yX1_changeValue, Cond.instanceMethod yX1_changeValue, Cond.selects RX1 yX1_changeValue yX1_changeValue, Cond.code yX1_changeValue cX1_changeValue 4 none]
def wsX5_set_r3 : List Cond := [Cond.methodLink RX5 69 yX3_settle, Cond.instanceMethod yX3_settle, Cond.selects RX3 yX3_settle yX3_settle, Cond.initialized RX3, Cond.code yX3_settle cX3_settle 3 none, Cond.fieldLink RX3 12 "PushedTables$Table" "state" "LPushedTables$State;", Cond.fieldLink RX3 40 "PushedTables$State" "forms" "[I", Cond.methodLink RX3 60 yX3_hasEntriesOf, Cond.instanceMethod yX3_hasEntriesOf, Cond.selects RX3 yX3_hasEntriesOf yX3_hasEntriesOf, Cond.code yX3_hasEntriesOf cX3_hasEntriesOf 6 (some .boolean), Cond.fieldLink RX3 21 "PushedTables$Table" "store" "LPushedTables$Store;", Cond.fieldLink RX3 85 "PushedTables$Store" "marks" "[I", Cond.fieldLink RX3 88 "PushedTables$Store" "values" "[I", Cond.methodLink RX3 44 yX1_shiftOf, Cond.instanceMethod yX1_shiftOf, Cond.selects RX1 yX1_shiftOf yX1_shiftOf, Cond.code yX1_shiftOf cX1_shiftOf 2 (some .int), Cond.methodLink RX3 48 yX1_isEntry, Cond.instanceMethod yX1_isEntry, Cond.selects RX1 yX1_isEntry yX1_isEntry, Cond.code yX1_isEntry cX1_isEntry 3 (some .boolean), Cond.methodLink RX1 54 yX1_valueAt, Cond.methodLink RX3 52 yX1_valueAt]
def wsX5_set_r4 : List Cond := [Cond.methodLink RX3 63 yX3_leaveForm, Cond.instanceMethod yX3_leaveForm, Cond.selects RX3 yX3_leaveForm yX3_leaveForm, Cond.code yX3_leaveForm cX3_leaveForm 4 none, Cond.fieldLink RX3 82 "PushedTables$State" "shifts" "[I", Cond.methodLink RX3 76 yX1_sharersOf, Cond.instanceMethod yX1_sharersOf, Cond.selects RX1 yX1_sharersOf yX1_sharersOf, Cond.code yX1_sharersOf cX1_sharersOf 4 (some .int), Cond.methodLink RX3 79 yX2_takeOut, Cond.instanceMethod yX2_takeOut, Cond.selects RX2 yX2_takeOut yX2_takeOut, Cond.initialized RX2, Cond.code yX2_takeOut cX2_takeOut 4 none, Cond.fieldLink RX2 15 "PushedTables$Store" "marks" "[I", Cond.methodLink RX2 27 yX2_fillCell, Cond.instanceMethod yX2_fillCell, Cond.selects RX2 yX2_fillCell yX2_fillCell, Cond.code yX2_fillCell cX2_fillCell 4 none, Cond.fieldLink RX2 9 "PushedTables$Store" "values" "[I", Cond.methodLink RX3 66 yX1_columnsOf, Cond.instanceMethod yX1_columnsOf, Cond.selects RX1 yX1_columnsOf yX1_columnsOf, Cond.code yX1_columnsOf cX1_columnsOf 4 (some .int)]
def wsX5_set_r5 : List Cond := [Cond.methodLink RX1 46 yX1_isEntry, Cond.methodLink RX3 69 yX3_formWithEntriesOf, Cond.instanceMethod yX3_formWithEntriesOf, Cond.selects RX3 yX3_formWithEntriesOf yX3_formWithEntriesOf, Cond.code yX3_formWithEntriesOf cX3_formWithEntriesOf 3 (some .int), Cond.methodLink RX3 72 yX3_pushNewForm, Cond.instanceMethod yX3_pushNewForm, Cond.selects RX3 yX3_pushNewForm yX3_pushNewForm, Cond.code yX3_pushNewForm cX3_pushNewForm 5 none, Cond.methodLink RX3 91 yX1_freeForm, Cond.instanceMethod yX1_freeForm, Cond.selects RX1 yX1_freeForm yX1_freeForm, Cond.code yX1_freeForm cX1_freeForm 2 (some .int), Cond.methodLink RX3 95 yX2_firstFit, Cond.instanceMethod yX2_firstFit, Cond.selects RX2 yX2_firstFit yX2_firstFit, Cond.code yX2_firstFit cX2_firstFit 3 (some .int), Cond.methodLink RX2 31 yX2_fitsAt, Cond.instanceMethod yX2_fitsAt, Cond.selects RX2 yX2_fitsAt yX2_fitsAt, Cond.code yX2_fitsAt cX2_fitsAt 4 (some .boolean), Cond.methodLink RX2 35 yX2_isEmptyAt, Cond.instanceMethod yX2_isEmptyAt, Cond.selects RX2 yX2_isEmptyAt yX2_isEmptyAt]
def wsX5_set_r6 : List Cond := [Cond.code yX2_isEmptyAt cX2_isEmptyAt 2 (some .boolean), Cond.methodLink RX3 36 yX3_fillCellsOf, Cond.instanceMethod yX3_fillCellsOf, Cond.selects RX3 yX3_fillCellsOf yX3_fillCellsOf, Cond.code yX3_fillCellsOf cX3_fillCellsOf 5 none, Cond.methodLink RX3 56 yX2_fillCell]
def wsX5_set : List Cond := .code yX5_set cX5_set 5 (some .int) :: ((wsX5_set_r1 ++ (wsX5_set_r2 ++ (wsX5_set_r3 ++ (wsX5_set_r4 ++ (wsX5_set_r5 ++ wsX5_set_r6))))) ++ wsX50 ++ wsX30 ++ wsX10 ++ wsX00 ++ wsX20)
def wsX5_setDefault_r1 : List Cond := [Cond.fieldLink RX5 22 "PushedTables" "history" "LPushedTables$History;", Cond.fieldLink RX5 12 "PushedTables" "table" "LPushedTables$Table;", Cond.fieldLink RX5 37 "PushedTables$Table" "state" "LPushedTables$State;", Cond.methodLink RX5 55 yX5_isRow, Cond.instanceMethod yX5_isRow, Cond.selects RX5 yX5_isRow yX5_isRow, Cond.initialized RX5, Cond.code yX5_isRow cX5_isRow 2 (some .boolean), Cond.fieldLink RX5 41 "PushedTables$State" "rowCount" "I", Cond.methodLink RX5 33 yX5_isValue, Cond.static yX5_isValue, Cond.code yX5_isValue cX5_isValue 1 (some .boolean), Cond.methodLink RX5 47 yX0_remember, Cond.instanceMethod yX0_remember, Cond.selects RX0 yX0_remember yX0_remember, Cond.initialized RX0, Cond.code yX0_remember cX0_remember 2 none, Cond.fieldLink RX0 9 "PushedTables$History" "size" "I", Cond.fieldLink RX0 17 "PushedTables$History" "states" "[LPushedTables$State;", Cond.methodLink RX0 22 yX0_dropOldest, Cond.instanceMethod yX0_dropOldest, Cond.selects RX0 yX0_dropOldest yX0_dropOldest, Cond.code yX0_dropOldest cX0_dropOldest 3 none, Cond.methodLink RX0 25 yX1_copyFrom]
def wsX5_setDefault_r2 : List Cond := [Cond.instanceMethod yX1_copyFrom, Cond.selects RX1 yX1_copyFrom yX1_copyFrom, Cond.initialized RX1, Cond.code yX1_copyFrom cX1_copyFrom 2 none, Cond.fieldLink RX1 9 "PushedTables$State" "rowCount" "I", Cond.fieldLink RX1 15 "PushedTables$State" "defaults" "[I", Cond.methodLink RX1 31 arraycopyName, Cond.native arraycopyName, Cond.static arraycopyName, Cond.initialized "java/lang/System", Cond.fieldLink RX1 19 "PushedTables$State" "values" "[I", Cond.fieldLink RX1 22 "PushedTables$State" "forms" "[I", Cond.fieldLink RX1 25 "PushedTables$State" "shifts" "[I", Cond.methodLink RX5 73 yX1_changeDefault, Cond.instanceMethod yX1_changeDefault, Cond.selects RX1 yX1_changeDefault yX1_changeDefault, Cond.code yX1_changeDefault cX1_changeDefault 4 none, Cond.methodLink RX1 46 yX1_isEntry, Cond.instanceMethod yX1_isEntry, Cond.selects RX1 yX1_isEntry yX1_isEntry, Cond.code yX1_isEntry cX1_isEntry 3 (some .boolean), Cond.methodLink RX1 54 yX1_valueAt, Cond.instanceMethod yX1_valueAt, Cond.selects RX1 yX1_valueAt yX1_valueAt]
def wsX5_setDefault_r3 : List Cond := [Cond.code yX1_valueAt cX1_valueAt 3 (some .int), Cond.methodLink RX1 50 yX1_changeValue, Cond.instanceMethod yX1_changeValue, Cond.selects RX1 yX1_changeValue yX1_changeValue, Cond.code yX1_changeValue cX1_changeValue 4 none, Cond.methodLink RX5 69 yX3_settle, Cond.instanceMethod yX3_settle, Cond.selects RX3 yX3_settle yX3_settle, Cond.initialized RX3, Cond.code yX3_settle cX3_settle 3 none, Cond.fieldLink RX3 12 "PushedTables$Table" "state" "LPushedTables$State;", Cond.fieldLink RX3 40 "PushedTables$State" "forms" "[I", Cond.methodLink RX3 60 yX3_hasEntriesOf, Cond.instanceMethod yX3_hasEntriesOf, Cond.selects RX3 yX3_hasEntriesOf yX3_hasEntriesOf, Cond.code yX3_hasEntriesOf cX3_hasEntriesOf 6 (some .boolean), Cond.fieldLink RX3 21 "PushedTables$Table" "store" "LPushedTables$Store;", Cond.fieldLink RX3 85 "PushedTables$Store" "marks" "[I", Cond.fieldLink RX3 88 "PushedTables$Store" "values" "[I", Cond.methodLink RX3 44 yX1_shiftOf, Cond.instanceMethod yX1_shiftOf, Cond.selects RX1 yX1_shiftOf yX1_shiftOf, Cond.code yX1_shiftOf cX1_shiftOf 2 (some .int), Cond.methodLink RX3 48 yX1_isEntry]
def wsX5_setDefault_r4 : List Cond := [Cond.methodLink RX3 52 yX1_valueAt, Cond.methodLink RX3 63 yX3_leaveForm, Cond.instanceMethod yX3_leaveForm, Cond.selects RX3 yX3_leaveForm yX3_leaveForm, Cond.code yX3_leaveForm cX3_leaveForm 4 none, Cond.fieldLink RX3 82 "PushedTables$State" "shifts" "[I", Cond.methodLink RX3 76 yX1_sharersOf, Cond.instanceMethod yX1_sharersOf, Cond.selects RX1 yX1_sharersOf yX1_sharersOf, Cond.code yX1_sharersOf cX1_sharersOf 4 (some .int), Cond.methodLink RX3 79 yX2_takeOut, Cond.instanceMethod yX2_takeOut, Cond.selects RX2 yX2_takeOut yX2_takeOut, Cond.initialized RX2, Cond.code yX2_takeOut cX2_takeOut 4 none, Cond.fieldLink RX2 15 "PushedTables$Store" "marks" "[I", Cond.methodLink RX2 27 yX2_fillCell, Cond.instanceMethod yX2_fillCell, Cond.selects RX2 yX2_fillCell yX2_fillCell, Cond.code yX2_fillCell cX2_fillCell 4 none, Cond.fieldLink RX2 9 "PushedTables$Store" "values" "[I", Cond.methodLink RX3 66 yX1_columnsOf, Cond.instanceMethod yX1_columnsOf, Cond.selects RX1 yX1_columnsOf yX1_columnsOf]
def wsX5_setDefault_r5 : List Cond := [Cond.code yX1_columnsOf cX1_columnsOf 4 (some .int), Cond.methodLink RX3 69 yX3_formWithEntriesOf, Cond.instanceMethod yX3_formWithEntriesOf, Cond.selects RX3 yX3_formWithEntriesOf yX3_formWithEntriesOf, Cond.code yX3_formWithEntriesOf cX3_formWithEntriesOf 3 (some .int), Cond.methodLink RX3 72 yX3_pushNewForm, Cond.instanceMethod yX3_pushNewForm, Cond.selects RX3 yX3_pushNewForm yX3_pushNewForm, Cond.code yX3_pushNewForm cX3_pushNewForm 5 none, Cond.methodLink RX3 91 yX1_freeForm, Cond.instanceMethod yX1_freeForm, Cond.selects RX1 yX1_freeForm yX1_freeForm, Cond.code yX1_freeForm cX1_freeForm 2 (some .int), Cond.methodLink RX3 95 yX2_firstFit, Cond.instanceMethod yX2_firstFit, Cond.selects RX2 yX2_firstFit yX2_firstFit, Cond.code yX2_firstFit cX2_firstFit 3 (some .int), Cond.methodLink RX2 31 yX2_fitsAt, Cond.instanceMethod yX2_fitsAt, Cond.selects RX2 yX2_fitsAt yX2_fitsAt, Cond.code yX2_fitsAt cX2_fitsAt 4 (some .boolean), Cond.methodLink RX2 35 yX2_isEmptyAt, Cond.instanceMethod yX2_isEmptyAt, Cond.selects RX2 yX2_isEmptyAt yX2_isEmptyAt]
def wsX5_setDefault_r6 : List Cond := [Cond.code yX2_isEmptyAt cX2_isEmptyAt 2 (some .boolean), Cond.methodLink RX3 36 yX3_fillCellsOf, Cond.instanceMethod yX3_fillCellsOf, Cond.selects RX3 yX3_fillCellsOf yX3_fillCellsOf, Cond.code yX3_fillCellsOf cX3_fillCellsOf 5 none, Cond.methodLink RX3 56 yX2_fillCell, Cond.methodLink RX5 77 yX1_weightOf, Cond.instanceMethod yX1_weightOf, Cond.selects RX1 yX1_weightOf yX1_weightOf, Cond.code yX1_weightOf cX1_weightOf 2 (some .int), Cond.methodLink RX1 58 yX1_columnsOf, Cond.methodLink RX1 62 yJ6_bitCount_0f7a4, Cond.static yJ6_bitCount_0f7a4, Cond.initialized RJ6, Cond.code yJ6_bitCount_0f7a4 cJ6_bitCount_0f7a4 1 (some .int), Cond.constant RJ6 265 (1431655765), Cond.constant RJ6 266 (858993459), Cond.constant RJ6 267 (252645135)]
def wsX5_setDefault : List Cond := .code yX5_setDefault cX5_setDefault 3 (some .int) :: ((wsX5_setDefault_r1 ++ (wsX5_setDefault_r2 ++ (wsX5_setDefault_r3 ++ (wsX5_setDefault_r4 ++ (wsX5_setDefault_r5 ++ wsX5_setDefault_r6))))) ++ wsX50 ++ wsX30 ++ wsX10 ++ wsX00 ++ wsX20)
def wsX5_removeLast_r1 : List Cond := [Cond.fieldLink RX5 12 "PushedTables" "table" "LPushedTables$Table;", Cond.fieldLink RX5 37 "PushedTables$Table" "state" "LPushedTables$State;", Cond.fieldLink RX5 41 "PushedTables$State" "rowCount" "I", Cond.fieldLink RX5 22 "PushedTables" "history" "LPushedTables$History;", Cond.methodLink RX5 47 yX0_remember, Cond.instanceMethod yX0_remember, Cond.selects RX0 yX0_remember yX0_remember, Cond.initialized RX0, Cond.code yX0_remember cX0_remember 2 none, Cond.fieldLink RX0 9 "PushedTables$History" "size" "I", Cond.fieldLink RX0 17 "PushedTables$History" "states" "[LPushedTables$State;", Cond.methodLink RX0 22 yX0_dropOldest, Cond.instanceMethod yX0_dropOldest, Cond.selects RX0 yX0_dropOldest yX0_dropOldest, Cond.code yX0_dropOldest cX0_dropOldest 3 none, Cond.methodLink RX0 25 yX1_copyFrom, Cond.instanceMethod yX1_copyFrom, Cond.selects RX1 yX1_copyFrom yX1_copyFrom, Cond.initialized RX1, Cond.code yX1_copyFrom cX1_copyFrom 2 none, Cond.fieldLink RX1 9 "PushedTables$State" "rowCount" "I", Cond.fieldLink RX1 15 "PushedTables$State" "defaults" "[I", Cond.methodLink RX1 31 arraycopyName, Cond.native arraycopyName]
def wsX5_removeLast_r2 : List Cond := [Cond.static arraycopyName, Cond.initialized "java/lang/System", Cond.fieldLink RX1 19 "PushedTables$State" "values" "[I", Cond.fieldLink RX1 22 "PushedTables$State" "forms" "[I", Cond.fieldLink RX1 25 "PushedTables$State" "shifts" "[I", Cond.methodLink RX5 80 yX3_leaveForm, Cond.instanceMethod yX3_leaveForm, Cond.selects RX3 yX3_leaveForm yX3_leaveForm, Cond.initialized RX3, Cond.code yX3_leaveForm cX3_leaveForm 4 none, Cond.fieldLink RX3 12 "PushedTables$Table" "state" "LPushedTables$State;", Cond.fieldLink RX3 40 "PushedTables$State" "forms" "[I", Cond.fieldLink RX3 21 "PushedTables$Table" "store" "LPushedTables$Store;", Cond.fieldLink RX3 82 "PushedTables$State" "shifts" "[I", Cond.methodLink RX3 44 yX1_shiftOf, Cond.instanceMethod yX1_shiftOf, Cond.selects RX1 yX1_shiftOf yX1_shiftOf, Cond.code yX1_shiftOf cX1_shiftOf 2 (some .int), Cond.methodLink RX3 76 yX1_sharersOf, Cond.instanceMethod yX1_sharersOf, Cond.selects RX1 yX1_sharersOf yX1_sharersOf, Cond.code yX1_sharersOf cX1_sharersOf 4 (some .int), Cond.methodLink RX3 79 yX2_takeOut, Cond.instanceMethod yX2_takeOut]
def wsX5_removeLast_r3 : List Cond := [Cond.selects RX2 yX2_takeOut yX2_takeOut, Cond.initialized RX2, Cond.code yX2_takeOut cX2_takeOut 4 none, Cond.fieldLink RX2 15 "PushedTables$Store" "marks" "[I", Cond.methodLink RX2 27 yX2_fillCell, Cond.instanceMethod yX2_fillCell, Cond.selects RX2 yX2_fillCell yX2_fillCell, Cond.code yX2_fillCell cX2_fillCell 4 none, Cond.fieldLink RX2 9 "PushedTables$Store" "values" "[I"]
def wsX5_removeLast : List Cond := .code yX5_removeLast cX5_removeLast 1 (some .int) :: ((wsX5_removeLast_r1 ++ (wsX5_removeLast_r2 ++ wsX5_removeLast_r3)) ++ wsX50 ++ wsX30 ++ wsX10 ++ wsX00 ++ wsX20)
def wsX5_slim_r1 : List Cond := [Cond.fieldLink RX5 22 "PushedTables" "history" "LPushedTables$History;", Cond.fieldLink RX5 12 "PushedTables" "table" "LPushedTables$Table;", Cond.fieldLink RX5 37 "PushedTables$Table" "state" "LPushedTables$State;", Cond.fieldLink RX5 83 "PushedTables$State" "defaults" "[I", Cond.methodLink RX5 55 yX5_isRow, Cond.instanceMethod yX5_isRow, Cond.selects RX5 yX5_isRow yX5_isRow, Cond.initialized RX5, Cond.code yX5_isRow cX5_isRow 2 (some .boolean), Cond.fieldLink RX5 41 "PushedTables$State" "rowCount" "I", Cond.methodLink RX5 47 yX0_remember, Cond.instanceMethod yX0_remember, Cond.selects RX0 yX0_remember yX0_remember, Cond.initialized RX0, Cond.code yX0_remember cX0_remember 2 none, Cond.fieldLink RX0 9 "PushedTables$History" "size" "I", Cond.fieldLink RX0 17 "PushedTables$History" "states" "[LPushedTables$State;", Cond.methodLink RX0 22 yX0_dropOldest, Cond.instanceMethod yX0_dropOldest, Cond.selects RX0 yX0_dropOldest yX0_dropOldest, Cond.code yX0_dropOldest cX0_dropOldest 3 none, Cond.methodLink RX0 25 yX1_copyFrom, Cond.instanceMethod yX1_copyFrom, Cond.selects RX1 yX1_copyFrom yX1_copyFrom]
def wsX5_slim_r2 : List Cond := [Cond.initialized RX1, Cond.code yX1_copyFrom cX1_copyFrom 2 none, Cond.fieldLink RX1 9 "PushedTables$State" "rowCount" "I", Cond.fieldLink RX1 15 "PushedTables$State" "defaults" "[I", Cond.methodLink RX1 31 arraycopyName, Cond.native arraycopyName, Cond.static arraycopyName, Cond.initialized "java/lang/System", Cond.fieldLink RX1 19 "PushedTables$State" "values" "[I", Cond.fieldLink RX1 22 "PushedTables$State" "forms" "[I", Cond.fieldLink RX1 25 "PushedTables$State" "shifts" "[I", Cond.methodLink RX5 87 yX1_commonestValue, Cond.instanceMethod yX1_commonestValue, Cond.selects RX1 yX1_commonestValue yX1_commonestValue, Cond.code yX1_commonestValue cX1_commonestValue 7 (some .int), Cond.methodLink RX1 54 yX1_valueAt, Cond.instanceMethod yX1_valueAt, Cond.selects RX1 yX1_valueAt yX1_valueAt, Cond.code yX1_valueAt cX1_valueAt 3 (some .int), Cond.methodLink RX1 70 yX1_cellsWith, Cond.instanceMethod yX1_cellsWith, Cond.selects RX1 yX1_cellsWith yX1_cellsWith, Cond.code yX1_cellsWith cX1_cellsWith 5 (some .int), Cond.methodLink RX5 69 yX3_settle]
def wsX5_slim_r3 : List Cond := [Cond.instanceMethod yX3_settle, Cond.selects RX3 yX3_settle yX3_settle, Cond.initialized RX3, Cond.code yX3_settle cX3_settle 3 none, Cond.fieldLink RX3 12 "PushedTables$Table" "state" "LPushedTables$State;", Cond.fieldLink RX3 40 "PushedTables$State" "forms" "[I", Cond.methodLink RX3 60 yX3_hasEntriesOf, Cond.instanceMethod yX3_hasEntriesOf, Cond.selects RX3 yX3_hasEntriesOf yX3_hasEntriesOf, Cond.code yX3_hasEntriesOf cX3_hasEntriesOf 6 (some .boolean), Cond.fieldLink RX3 21 "PushedTables$Table" "store" "LPushedTables$Store;", Cond.fieldLink RX3 85 "PushedTables$Store" "marks" "[I", Cond.fieldLink RX3 88 "PushedTables$Store" "values" "[I", Cond.methodLink RX3 44 yX1_shiftOf, Cond.instanceMethod yX1_shiftOf, Cond.selects RX1 yX1_shiftOf yX1_shiftOf, Cond.code yX1_shiftOf cX1_shiftOf 2 (some .int), Cond.methodLink RX3 48 yX1_isEntry, Cond.instanceMethod yX1_isEntry, Cond.selects RX1 yX1_isEntry yX1_isEntry, Cond.code yX1_isEntry cX1_isEntry 3 (some .boolean), Cond.methodLink RX3 52 yX1_valueAt, Cond.methodLink RX3 63 yX3_leaveForm, Cond.instanceMethod yX3_leaveForm]
def wsX5_slim_r4 : List Cond := [Cond.selects RX3 yX3_leaveForm yX3_leaveForm, Cond.code yX3_leaveForm cX3_leaveForm 4 none, Cond.fieldLink RX3 82 "PushedTables$State" "shifts" "[I", Cond.methodLink RX3 76 yX1_sharersOf, Cond.instanceMethod yX1_sharersOf, Cond.selects RX1 yX1_sharersOf yX1_sharersOf, Cond.code yX1_sharersOf cX1_sharersOf 4 (some .int), Cond.methodLink RX3 79 yX2_takeOut, Cond.instanceMethod yX2_takeOut, Cond.selects RX2 yX2_takeOut yX2_takeOut, Cond.initialized RX2, Cond.code yX2_takeOut cX2_takeOut 4 none, Cond.fieldLink RX2 15 "PushedTables$Store" "marks" "[I", Cond.methodLink RX2 27 yX2_fillCell, Cond.instanceMethod yX2_fillCell, Cond.selects RX2 yX2_fillCell yX2_fillCell, Cond.code yX2_fillCell cX2_fillCell 4 none, Cond.fieldLink RX2 9 "PushedTables$Store" "values" "[I", Cond.methodLink RX3 66 yX1_columnsOf, Cond.instanceMethod yX1_columnsOf, Cond.selects RX1 yX1_columnsOf yX1_columnsOf, Cond.code yX1_columnsOf cX1_columnsOf 4 (some .int), Cond.methodLink RX1 46 yX1_isEntry, Cond.methodLink RX3 69 yX3_formWithEntriesOf]
def wsX5_slim_r5 : List Cond := [Cond.instanceMethod yX3_formWithEntriesOf, Cond.selects RX3 yX3_formWithEntriesOf yX3_formWithEntriesOf, Cond.code yX3_formWithEntriesOf cX3_formWithEntriesOf 3 (some .int), Cond.methodLink RX3 72 yX3_pushNewForm, Cond.instanceMethod yX3_pushNewForm, Cond.selects RX3 yX3_pushNewForm yX3_pushNewForm, Cond.code yX3_pushNewForm cX3_pushNewForm 5 none, Cond.methodLink RX3 91 yX1_freeForm, Cond.instanceMethod yX1_freeForm, Cond.selects RX1 yX1_freeForm yX1_freeForm, Cond.code yX1_freeForm cX1_freeForm 2 (some .int), Cond.methodLink RX3 95 yX2_firstFit, Cond.instanceMethod yX2_firstFit, Cond.selects RX2 yX2_firstFit yX2_firstFit, Cond.code yX2_firstFit cX2_firstFit 3 (some .int), Cond.methodLink RX2 31 yX2_fitsAt, Cond.instanceMethod yX2_fitsAt, Cond.selects RX2 yX2_fitsAt yX2_fitsAt, Cond.code yX2_fitsAt cX2_fitsAt 4 (some .boolean), Cond.methodLink RX2 35 yX2_isEmptyAt, Cond.instanceMethod yX2_isEmptyAt, Cond.selects RX2 yX2_isEmptyAt yX2_isEmptyAt, Cond.code yX2_isEmptyAt cX2_isEmptyAt 2 (some .boolean), Cond.methodLink RX3 36 yX3_fillCellsOf]
def wsX5_slim_r6 : List Cond := [Cond.instanceMethod yX3_fillCellsOf, Cond.selects RX3 yX3_fillCellsOf yX3_fillCellsOf, Cond.code yX3_fillCellsOf cX3_fillCellsOf 5 none, Cond.methodLink RX3 56 yX2_fillCell]
def wsX5_slim : List Cond := .code yX5_slim cX5_slim 2 (some .int) :: ((wsX5_slim_r1 ++ (wsX5_slim_r2 ++ (wsX5_slim_r3 ++ (wsX5_slim_r4 ++ (wsX5_slim_r5 ++ wsX5_slim_r6))))) ++ wsX50 ++ wsX30 ++ wsX10 ++ wsX00 ++ wsX20)
def wsX5_push_r1 : List Cond := [Cond.fieldLink RX5 22 "PushedTables" "history" "LPushedTables$History;", Cond.fieldLink RX5 12 "PushedTables" "table" "LPushedTables$Table;", Cond.fieldLink RX5 37 "PushedTables$Table" "state" "LPushedTables$State;", Cond.fieldLink RX5 93 "PushedTables$Table" "store" "LPushedTables$Store;", Cond.methodLink RX5 47 yX0_remember, Cond.instanceMethod yX0_remember, Cond.selects RX0 yX0_remember yX0_remember, Cond.initialized RX0, Cond.code yX0_remember cX0_remember 2 none, Cond.fieldLink RX0 9 "PushedTables$History" "size" "I", Cond.fieldLink RX0 17 "PushedTables$History" "states" "[LPushedTables$State;", Cond.methodLink RX0 22 yX0_dropOldest, Cond.instanceMethod yX0_dropOldest, Cond.selects RX0 yX0_dropOldest yX0_dropOldest, Cond.code yX0_dropOldest cX0_dropOldest 3 none, Cond.methodLink RX0 25 yX1_copyFrom, Cond.instanceMethod yX1_copyFrom, Cond.selects RX1 yX1_copyFrom yX1_copyFrom, Cond.initialized RX1, Cond.code yX1_copyFrom cX1_copyFrom 2 none, Cond.fieldLink RX1 9 "PushedTables$State" "rowCount" "I", Cond.fieldLink RX1 15 "PushedTables$State" "defaults" "[I", Cond.methodLink RX1 31 arraycopyName, Cond.native arraycopyName]
def wsX5_push_r2 : List Cond := [Cond.static arraycopyName, Cond.initialized "java/lang/System", Cond.fieldLink RX1 19 "PushedTables$State" "values" "[I", Cond.fieldLink RX1 22 "PushedTables$State" "forms" "[I", Cond.fieldLink RX1 25 "PushedTables$State" "shifts" "[I", Cond.methodLink RX5 90 yX3_pushAnewByWeights, Cond.instanceMethod yX3_pushAnewByWeights, Cond.selects RX3 yX3_pushAnewByWeights yX3_pushAnewByWeights, Cond.initialized RX3, Cond.code yX3_pushAnewByWeights cX3_pushAnewByWeights 3 none, Cond.fieldLink RX3 12 "PushedTables$Table" "state" "LPushedTables$State;", Cond.fieldLink RX3 32 "PushedTables$State" "rowCount" "I", Cond.methodLink RX3 98 yX3_takeOutAll, Cond.instanceMethod yX3_takeOutAll, Cond.selects RX3 yX3_takeOutAll yX3_takeOutAll, Cond.code yX3_takeOutAll cX3_takeOutAll 1 none, Cond.fieldLink RX3 21 "PushedTables$Table" "store" "LPushedTables$Store;", Cond.instanceMethod yX1_forgetForms, Cond.selects RX1 yX1_forgetForms yX1_forgetForms, Cond.code yX1_forgetForms cX1_forgetForms 1 none, Cond.methodLink RX1 37 yJ7_fill_53178, Cond.static yJ7_fill_53178, Cond.initialized RJ7, Cond.code yJ7_fill_53178 cJ7_fill_53178 4 none]
def wsX5_push_r3 : List Cond := [Cond.methodLink RX3 29 yX2_emptyAll, Cond.instanceMethod yX2_emptyAll, Cond.selects RX2 yX2_emptyAll yX2_emptyAll, Cond.initialized RX2, Cond.code yX2_emptyAll cX2_emptyAll 1 none, Cond.fieldLink RX2 9 "PushedTables$Store" "values" "[I", Cond.fieldLink RX2 15 "PushedTables$Store" "marks" "[I", Cond.methodLink RX2 21 yJ7_fill_53178, Cond.methodLink RX3 101 yX1_weightOf, Cond.instanceMethod yX1_weightOf, Cond.selects RX1 yX1_weightOf yX1_weightOf, Cond.code yX1_weightOf cX1_weightOf 2 (some .int), Cond.methodLink RX1 58 yX1_columnsOf, Cond.instanceMethod yX1_columnsOf, Cond.selects RX1 yX1_columnsOf yX1_columnsOf, Cond.code yX1_columnsOf cX1_columnsOf 4 (some .int), Cond.methodLink RX1 46 yX1_isEntry, Cond.instanceMethod yX1_isEntry, Cond.selects RX1 yX1_isEntry yX1_isEntry, Cond.code yX1_isEntry cX1_isEntry 3 (some .boolean), Cond.methodLink RX1 54 yX1_valueAt, Cond.instanceMethod yX1_valueAt, Cond.selects RX1 yX1_valueAt yX1_valueAt, Cond.code yX1_valueAt cX1_valueAt 3 (some .int)]
def wsX5_push_r4 : List Cond := [Cond.methodLink RX1 62 yJ6_bitCount_0f7a4, Cond.static yJ6_bitCount_0f7a4, Cond.initialized RJ6, Cond.code yJ6_bitCount_0f7a4 cJ6_bitCount_0f7a4 1 (some .int), Cond.constant RJ6 265 (1431655765), Cond.constant RJ6 266 (858993459), Cond.constant RJ6 267 (252645135), Cond.methodLink RX3 104 yX3_settle, Cond.instanceMethod yX3_settle, Cond.selects RX3 yX3_settle yX3_settle, Cond.code yX3_settle cX3_settle 3 none, Cond.fieldLink RX3 40 "PushedTables$State" "forms" "[I", Cond.methodLink RX3 60 yX3_hasEntriesOf, Cond.instanceMethod yX3_hasEntriesOf, Cond.selects RX3 yX3_hasEntriesOf yX3_hasEntriesOf, Cond.code yX3_hasEntriesOf cX3_hasEntriesOf 6 (some .boolean), Cond.fieldLink RX3 85 "PushedTables$Store" "marks" "[I", Cond.fieldLink RX3 88 "PushedTables$Store" "values" "[I", Cond.methodLink RX3 44 yX1_shiftOf, Cond.instanceMethod yX1_shiftOf, Cond.selects RX1 yX1_shiftOf yX1_shiftOf, Cond.code yX1_shiftOf cX1_shiftOf 2 (some .int), Cond.methodLink RX3 48 yX1_isEntry, Cond.methodLink RX3 52 yX1_valueAt]
def wsX5_push_r5 : List Cond := [Cond.methodLink RX3 63 yX3_leaveForm, Cond.instanceMethod yX3_leaveForm, Cond.selects RX3 yX3_leaveForm yX3_leaveForm, Cond.code yX3_leaveForm cX3_leaveForm 4 none, Cond.fieldLink RX3 82 "PushedTables$State" "shifts" "[I", Cond.methodLink RX3 76 yX1_sharersOf, Cond.instanceMethod yX1_sharersOf, Cond.selects RX1 yX1_sharersOf yX1_sharersOf, Cond.code yX1_sharersOf cX1_sharersOf 4 (some .int), Cond.methodLink RX3 79 yX2_takeOut, Cond.instanceMethod yX2_takeOut, Cond.selects RX2 yX2_takeOut yX2_takeOut, Cond.code yX2_takeOut cX2_takeOut 4 none, Cond.methodLink RX2 27 yX2_fillCell, Cond.instanceMethod yX2_fillCell, Cond.selects RX2 yX2_fillCell yX2_fillCell, Cond.code yX2_fillCell cX2_fillCell 4 none, Cond.methodLink RX3 66 yX1_columnsOf, Cond.methodLink RX3 69 yX3_formWithEntriesOf, Cond.instanceMethod yX3_formWithEntriesOf, Cond.selects RX3 yX3_formWithEntriesOf yX3_formWithEntriesOf, Cond.code yX3_formWithEntriesOf cX3_formWithEntriesOf 3 (some .int), Cond.methodLink RX3 72 yX3_pushNewForm, Cond.instanceMethod yX3_pushNewForm]
def wsX5_push_r6 : List Cond := [Cond.selects RX3 yX3_pushNewForm yX3_pushNewForm, Cond.code yX3_pushNewForm cX3_pushNewForm 5 none, Cond.methodLink RX3 91 yX1_freeForm, Cond.instanceMethod yX1_freeForm, Cond.selects RX1 yX1_freeForm yX1_freeForm, Cond.code yX1_freeForm cX1_freeForm 2 (some .int), Cond.methodLink RX3 95 yX2_firstFit, Cond.instanceMethod yX2_firstFit, Cond.selects RX2 yX2_firstFit yX2_firstFit, Cond.code yX2_firstFit cX2_firstFit 3 (some .int), Cond.methodLink RX2 31 yX2_fitsAt, Cond.instanceMethod yX2_fitsAt, Cond.selects RX2 yX2_fitsAt yX2_fitsAt, Cond.code yX2_fitsAt cX2_fitsAt 4 (some .boolean), Cond.methodLink RX2 35 yX2_isEmptyAt, Cond.instanceMethod yX2_isEmptyAt, Cond.selects RX2 yX2_isEmptyAt yX2_isEmptyAt, Cond.code yX2_isEmptyAt cX2_isEmptyAt 2 (some .boolean), Cond.methodLink RX3 36 yX3_fillCellsOf, Cond.instanceMethod yX3_fillCellsOf, Cond.selects RX3 yX3_fillCellsOf yX3_fillCellsOf, Cond.code yX3_fillCellsOf cX3_fillCellsOf 5 none, Cond.methodLink RX3 56 yX2_fillCell, Cond.methodLink RX5 97 yX2_endOfCells]
def wsX5_push_r7 : List Cond := [Cond.instanceMethod yX2_endOfCells, Cond.selects RX2 yX2_endOfCells yX2_endOfCells, Cond.code yX2_endOfCells cX2_endOfCells 2 (some .int)]
def wsX5_push : List Cond := .code yX5_push cX5_push 1 (some .int) :: ((wsX5_push_r1 ++ (wsX5_push_r2 ++ (wsX5_push_r3 ++ (wsX5_push_r4 ++ (wsX5_push_r5 ++ (wsX5_push_r6 ++ wsX5_push_r7)))))) ++ wsX50 ++ wsX30 ++ wsX00 ++ wsX10 ++ wsX20)
def wsX5_undo_r1 : List Cond := [Cond.fieldLink RX5 22 "PushedTables" "history" "LPushedTables$History;", Cond.fieldLink RX5 103 "PushedTables$History" "size" "I", Cond.fieldLink RX5 12 "PushedTables" "table" "LPushedTables$Table;", Cond.methodLink RX5 106 yX0_takeLatest, Cond.instanceMethod yX0_takeLatest, Cond.selects RX0 yX0_takeLatest yX0_takeLatest, Cond.initialized RX0, Cond.code yX0_takeLatest cX0_takeLatest 1 (some (.object "PushedTables$State")), Cond.fieldLink RX0 9 "PushedTables$History" "size" "I", Cond.fieldLink RX0 17 "PushedTables$History" "states" "[LPushedTables$State;", Cond.methodLink RX5 110 yX3_restore, Cond.instanceMethod yX3_restore, Cond.selects RX3 yX3_restore yX3_restore, Cond.initialized RX3, Cond.code yX3_restore cX3_restore 3 none, Cond.fieldLink RX3 12 "PushedTables$Table" "state" "LPushedTables$State;", Cond.fieldLink RX3 21 "PushedTables$Table" "store" "LPushedTables$Store;", Cond.fieldLink RX3 32 "PushedTables$State" "rowCount" "I", Cond.methodLink RX3 25 yX1_copyFrom, Cond.instanceMethod yX1_copyFrom, Cond.selects RX1 yX1_copyFrom yX1_copyFrom, Cond.initialized RX1, Cond.code yX1_copyFrom cX1_copyFrom 2 none, Cond.fieldLink RX1 9 "PushedTables$State" "rowCount" "I"]
def wsX5_undo_r2 : List Cond := [Cond.fieldLink RX1 15 "PushedTables$State" "defaults" "[I", Cond.methodLink RX1 31 arraycopyName, Cond.native arraycopyName, Cond.static arraycopyName, Cond.initialized "java/lang/System", Cond.fieldLink RX1 19 "PushedTables$State" "values" "[I", Cond.fieldLink RX1 22 "PushedTables$State" "forms" "[I", Cond.fieldLink RX1 25 "PushedTables$State" "shifts" "[I", Cond.methodLink RX3 29 yX2_emptyAll, Cond.instanceMethod yX2_emptyAll, Cond.selects RX2 yX2_emptyAll yX2_emptyAll, Cond.initialized RX2, Cond.code yX2_emptyAll cX2_emptyAll 1 none, Cond.fieldLink RX2 9 "PushedTables$Store" "values" "[I", Cond.fieldLink RX2 15 "PushedTables$Store" "marks" "[I", Cond.methodLink RX2 21 yJ7_fill_53178, Cond.static yJ7_fill_53178, Cond.initialized RJ7, Cond.code yJ7_fill_53178 cJ7_fill_53178 4 none, Cond.methodLink RX3 36 yX3_fillCellsOf, Cond.instanceMethod yX3_fillCellsOf, Cond.selects RX3 yX3_fillCellsOf yX3_fillCellsOf, Cond.code yX3_fillCellsOf cX3_fillCellsOf 5 none, Cond.fieldLink RX3 40 "PushedTables$State" "forms" "[I"]
def wsX5_undo_r3 : List Cond := [Cond.methodLink RX3 44 yX1_shiftOf, Cond.instanceMethod yX1_shiftOf, Cond.selects RX1 yX1_shiftOf yX1_shiftOf, Cond.code yX1_shiftOf cX1_shiftOf 2 (some .int), Cond.methodLink RX3 48 yX1_isEntry, Cond.instanceMethod yX1_isEntry, Cond.selects RX1 yX1_isEntry yX1_isEntry, Cond.code yX1_isEntry cX1_isEntry 3 (some .boolean), Cond.methodLink RX1 54 yX1_valueAt, Cond.instanceMethod yX1_valueAt, Cond.selects RX1 yX1_valueAt yX1_valueAt, Cond.code yX1_valueAt cX1_valueAt 3 (some .int), Cond.methodLink RX3 52 yX1_valueAt, Cond.methodLink RX3 56 yX2_fillCell, Cond.instanceMethod yX2_fillCell, Cond.selects RX2 yX2_fillCell yX2_fillCell, Cond.code yX2_fillCell cX2_fillCell 4 none]
def wsX5_undo : List Cond := .code yX5_undo cX5_undo 1 (some .int) :: ((wsX5_undo_r1 ++ (wsX5_undo_r2 ++ wsX5_undo_r3)) ++ wsX50 ++ wsX00 ++ wsX30 ++ wsX10 ++ wsX20)
def wsX5_append : List Cond := .code yX5_append cX5_append 2 (some .int) :: ([.fieldLink RX5 29 "PushedTables" "text" "LPushedTables$Text;", .fieldLink RX5 113 "PushedTables$Text" "length" "I", .methodLink RX5 116 yX4_appendSign, .instanceMethod yX4_appendSign, .selects RX4 yX4_appendSign yX4_appendSign, .initialized RX4, .code yX4_appendSign cX4_appendSign 2 none, .fieldLink RX4 9 "PushedTables$Text" "length" "I", .fieldLink RX4 15 "PushedTables$Text" "signs" "[C"] ++ wsX50 ++ wsX40)
def wsX5_clearText : List Cond := .code yX5_clearText cX5_clearText 2 (some .int) :: ([.fieldLink RX5 29 "PushedTables" "text" "LPushedTables$Text;", .fieldLink RX5 113 "PushedTables$Text" "length" "I"] ++ wsX50 ++ wsX40)
def wsX5_addRowOfText_r1 : List Cond := [Cond.fieldLink RX5 12 "PushedTables" "table" "LPushedTables$Table;", Cond.fieldLink RX5 37 "PushedTables$Table" "state" "LPushedTables$State;", Cond.fieldLink RX5 29 "PushedTables" "text" "LPushedTables$Text;", Cond.fieldLink RX5 184 "PushedTables$Text" "defaults" "[I", Cond.methodLink RX5 51 yX1_addRow, Cond.instanceMethod yX1_addRow, Cond.selects RX1 yX1_addRow yX1_addRow, Cond.initialized RX1, Cond.code yX1_addRow cX1_addRow 3 (some .int), Cond.fieldLink RX1 9 "PushedTables$State" "rowCount" "I", Cond.fieldLink RX1 15 "PushedTables$State" "defaults" "[I", Cond.fieldLink RX1 19 "PushedTables$State" "values" "[I", Cond.fieldLink RX1 22 "PushedTables$State" "forms" "[I", Cond.methodLink RX1 43 yJ7_fill_fda19, Cond.static yJ7_fill_fda19, Cond.initialized RJ7, Cond.code yJ7_fill_fda19 cJ7_fill_fda19 5 none, Cond.methodLink RJ7 13 yJ7_rangeCheck_23922, Cond.static yJ7_rangeCheck_23922, Cond.code yJ7_rangeCheck_23922 cJ7_rangeCheck_23922 3 none, Cond.methodLink RX5 185 yX4_valueRead, Cond.instanceMethod yX4_valueRead, Cond.selects RX4 yX4_valueRead yX4_valueRead, Cond.initialized RX4]
def wsX5_addRowOfText_r2 : List Cond := [Cond.code yX4_valueRead cX4_valueRead 3 (some .int), Cond.fieldLink RX4 35 "PushedTables$Text" "values" "[I", Cond.methodLink RX5 65 yX1_changeValue, Cond.instanceMethod yX1_changeValue, Cond.selects RX1 yX1_changeValue yX1_changeValue, Cond.code yX1_changeValue cX1_changeValue 4 none, Cond.methodLink RX5 69 yX3_settle, Cond.instanceMethod yX3_settle, Cond.selects RX3 yX3_settle yX3_settle, Cond.initialized RX3, Cond.code yX3_settle cX3_settle 3 none, Cond.fieldLink RX3 12 "PushedTables$Table" "state" "LPushedTables$State;", Cond.fieldLink RX3 40 "PushedTables$State" "forms" "[I", Cond.methodLink RX3 60 yX3_hasEntriesOf, Cond.instanceMethod yX3_hasEntriesOf, Cond.selects RX3 yX3_hasEntriesOf yX3_hasEntriesOf, Cond.code yX3_hasEntriesOf cX3_hasEntriesOf 6 (some .boolean), Cond.fieldLink RX3 21 "PushedTables$Table" "store" "LPushedTables$Store;", Cond.fieldLink RX3 85 "PushedTables$Store" "marks" "[I", Cond.fieldLink RX3 88 "PushedTables$Store" "values" "[I", Cond.methodLink RX3 44 yX1_shiftOf, Cond.instanceMethod yX1_shiftOf, Cond.selects RX1 yX1_shiftOf yX1_shiftOf, Cond.code yX1_shiftOf cX1_shiftOf 2 (some .int)]
def wsX5_addRowOfText_r3 : List Cond := [Cond.fieldLink RX1 25 "PushedTables$State" "shifts" "[I", Cond.methodLink RX3 48 yX1_isEntry, Cond.instanceMethod yX1_isEntry, Cond.selects RX1 yX1_isEntry yX1_isEntry, Cond.code yX1_isEntry cX1_isEntry 3 (some .boolean), Cond.methodLink RX1 54 yX1_valueAt, Cond.instanceMethod yX1_valueAt, Cond.selects RX1 yX1_valueAt yX1_valueAt, Cond.code yX1_valueAt cX1_valueAt 3 (some .int), Cond.methodLink RX3 52 yX1_valueAt, Cond.methodLink RX3 63 yX3_leaveForm, Cond.instanceMethod yX3_leaveForm, Cond.selects RX3 yX3_leaveForm yX3_leaveForm, Cond.code yX3_leaveForm cX3_leaveForm 4 none, Cond.fieldLink RX3 82 "PushedTables$State" "shifts" "[I", Cond.methodLink RX3 76 yX1_sharersOf, Cond.instanceMethod yX1_sharersOf, Cond.selects RX1 yX1_sharersOf yX1_sharersOf, Cond.code yX1_sharersOf cX1_sharersOf 4 (some .int), Cond.methodLink RX3 79 yX2_takeOut, Cond.instanceMethod yX2_takeOut, Cond.selects RX2 yX2_takeOut yX2_takeOut, Cond.initialized RX2, Cond.code yX2_takeOut cX2_takeOut 4 none]
def wsX5_addRowOfText_r4 : List Cond := [Cond.fieldLink RX2 15 "PushedTables$Store" "marks" "[I", Cond.methodLink RX2 27 yX2_fillCell, Cond.instanceMethod yX2_fillCell, Cond.selects RX2 yX2_fillCell yX2_fillCell, Cond.code yX2_fillCell cX2_fillCell 4 none, Cond.fieldLink RX2 9 "PushedTables$Store" "values" "[I", Cond.methodLink RX3 66 yX1_columnsOf, Cond.instanceMethod yX1_columnsOf, Cond.selects RX1 yX1_columnsOf yX1_columnsOf, Cond.code yX1_columnsOf cX1_columnsOf 4 (some .int), Cond.methodLink RX1 46 yX1_isEntry, Cond.methodLink RX3 69 yX3_formWithEntriesOf, Cond.instanceMethod yX3_formWithEntriesOf, Cond.selects RX3 yX3_formWithEntriesOf yX3_formWithEntriesOf, Cond.code yX3_formWithEntriesOf cX3_formWithEntriesOf 3 (some .int), Cond.methodLink RX3 72 yX3_pushNewForm, Cond.instanceMethod yX3_pushNewForm, Cond.selects RX3 yX3_pushNewForm yX3_pushNewForm, Cond.code yX3_pushNewForm cX3_pushNewForm 5 none, Cond.methodLink RX3 91 yX1_freeForm, Cond.instanceMethod yX1_freeForm, Cond.selects RX1 yX1_freeForm yX1_freeForm, Cond.code yX1_freeForm cX1_freeForm 2 (some .int), Cond.methodLink RX3 95 yX2_firstFit]
def wsX5_addRowOfText_r5 : List Cond := [Cond.instanceMethod yX2_firstFit, Cond.selects RX2 yX2_firstFit yX2_firstFit, Cond.code yX2_firstFit cX2_firstFit 3 (some .int), Cond.methodLink RX2 31 yX2_fitsAt, Cond.instanceMethod yX2_fitsAt, Cond.selects RX2 yX2_fitsAt yX2_fitsAt, Cond.code yX2_fitsAt cX2_fitsAt 4 (some .boolean), Cond.methodLink RX2 35 yX2_isEmptyAt, Cond.instanceMethod yX2_isEmptyAt, Cond.selects RX2 yX2_isEmptyAt yX2_isEmptyAt, Cond.code yX2_isEmptyAt cX2_isEmptyAt 2 (some .boolean), Cond.methodLink RX3 36 yX3_fillCellsOf, Cond.instanceMethod yX3_fillCellsOf, Cond.selects RX3 yX3_fillCellsOf yX3_fillCellsOf, Cond.code yX3_fillCellsOf cX3_fillCellsOf 5 none, Cond.methodLink RX3 56 yX2_fillCell]
def wsX5_addRowOfText : List Cond := .code yX5_addRowOfText cX5_addRowOfText 4 none :: ((wsX5_addRowOfText_r1 ++ (wsX5_addRowOfText_r2 ++ (wsX5_addRowOfText_r3 ++ (wsX5_addRowOfText_r4 ++ wsX5_addRowOfText_r5)))) ++ wsX50 ++ wsX30 ++ wsX40 ++ wsX10 ++ wsX20)
def wsX5_read_r1 : List Cond := [Cond.fieldLink RX5 29 "PushedTables" "text" "LPushedTables$Text;", Cond.fieldLink RX5 12 "PushedTables" "table" "LPushedTables$Table;", Cond.fieldLink RX5 37 "PushedTables$Table" "state" "LPushedTables$State;", Cond.fieldLink RX5 41 "PushedTables$State" "rowCount" "I", Cond.fieldLink RX5 123 "PushedTables$Text" "place" "I", Cond.fieldLink RX5 22 "PushedTables" "history" "LPushedTables$History;", Cond.fieldLink RX5 126 "PushedTables$Text" "rowsRead" "I", Cond.fieldLink RX5 113 "PushedTables$Text" "length" "I", Cond.methodLink RX5 120 yX4_readTable, Cond.instanceMethod yX4_readTable, Cond.selects RX4 yX4_readTable yX4_readTable, Cond.initialized RX4, Cond.code yX4_readTable cX4_readTable 3 (some .boolean), Cond.fieldLink RX4 19 "PushedTables$Text" "place" "I", Cond.fieldLink RX4 9 "PushedTables$Text" "length" "I", Cond.fieldLink RX4 28 "PushedTables$Text" "rowsRead" "I", Cond.methodLink RX4 38 yX4_skipSpaces, Cond.instanceMethod yX4_skipSpaces, Cond.selects RX4 yX4_skipSpaces yX4_skipSpaces, Cond.code yX4_skipSpaces cX4_skipSpaces 1 none, Cond.methodLink RX4 76 yX4_signHere, Cond.instanceMethod yX4_signHere, Cond.selects RX4 yX4_signHere yX4_signHere, Cond.code yX4_signHere cX4_signHere 1 (some .char)]
def wsX5_read_r2 : List Cond := [Cond.fieldLink RX4 15 "PushedTables$Text" "signs" "[C", Cond.methodLink RX4 41 yX4_readRow, Cond.instanceMethod yX4_readRow, Cond.selects RX4 yX4_readRow yX4_readRow, Cond.code yX4_readRow cX4_readRow 2 (some .boolean), Cond.fieldLink RX4 31 "PushedTables$Text" "defaults" "[I", Cond.fieldLink RX4 22 "PushedTables$Text" "number" "I", Cond.fieldLink RX4 35 "PushedTables$Text" "values" "[I", Cond.methodLink RX4 45 yX4_isDigitHere, Cond.instanceMethod yX4_isDigitHere, Cond.selects RX4 yX4_isDigitHere yX4_isDigitHere, Cond.code yX4_isDigitHere cX4_isDigitHere 1 (some .boolean), Cond.methodLink RX4 49 yX4_readNumber, Cond.instanceMethod yX4_readNumber, Cond.selects RX4 yX4_readNumber yX4_readNumber, Cond.code yX4_readNumber cX4_readNumber 1 (some .boolean), Cond.fieldLink RX4 25 "PushedTables$Text" "numberPlace" "I", Cond.methodLink RX4 72 yX4_takeDigit, Cond.instanceMethod yX4_takeDigit, Cond.selects RX4 yX4_takeDigit yX4_takeDigit, Cond.code yX4_takeDigit cX4_takeDigit 2 (some .int), Cond.methodLink RX4 52 yJ7_fill_fda19, Cond.static yJ7_fill_fda19, Cond.initialized RJ7]
def wsX5_read_r3 : List Cond := [Cond.code yJ7_fill_fda19 cJ7_fill_fda19 5 none, Cond.methodLink RJ7 13 yJ7_rangeCheck_23922, Cond.static yJ7_rangeCheck_23922, Cond.code yJ7_rangeCheck_23922 cJ7_rangeCheck_23922 3 none, Cond.methodLink RX4 58 yX4_takeSign, Cond.instanceMethod yX4_takeSign, Cond.selects RX4 yX4_takeSign yX4_takeSign, Cond.code yX4_takeSign cX4_takeSign 2 (some .boolean), Cond.methodLink RX4 62 yX4_readEntries, Cond.instanceMethod yX4_readEntries, Cond.selects RX4 yX4_readEntries yX4_readEntries, Cond.code yX4_readEntries cX4_readEntries 5 (some .boolean), Cond.static yX5_isColumn, Cond.initialized RX5, Cond.code yX5_isColumn cX5_isColumn 1 (some .boolean), Cond.methodLink RX4 68 yX4_allowNumber, Cond.instanceMethod yX4_allowNumber, Cond.selects RX4 yX4_allowNumber yX4_allowNumber, Cond.code yX4_allowNumber cX4_allowNumber 2 (some .boolean), Cond.methodLink RX5 47 yX0_remember, Cond.instanceMethod yX0_remember, Cond.selects RX0 yX0_remember yX0_remember, Cond.initialized RX0, Cond.code yX0_remember cX0_remember 2 none]
def wsX5_read_r4 : List Cond := [Cond.fieldLink RX0 9 "PushedTables$History" "size" "I", Cond.fieldLink RX0 17 "PushedTables$History" "states" "[LPushedTables$State;", Cond.methodLink RX0 22 yX0_dropOldest, Cond.instanceMethod yX0_dropOldest, Cond.selects RX0 yX0_dropOldest yX0_dropOldest, Cond.code yX0_dropOldest cX0_dropOldest 3 none, Cond.methodLink RX0 25 yX1_copyFrom, Cond.instanceMethod yX1_copyFrom, Cond.selects RX1 yX1_copyFrom yX1_copyFrom, Cond.initialized RX1, Cond.code yX1_copyFrom cX1_copyFrom 2 none, Cond.fieldLink RX1 9 "PushedTables$State" "rowCount" "I", Cond.fieldLink RX1 15 "PushedTables$State" "defaults" "[I", Cond.methodLink RX1 31 arraycopyName, Cond.native arraycopyName, Cond.static arraycopyName, Cond.initialized "java/lang/System", Cond.fieldLink RX1 19 "PushedTables$State" "values" "[I", Cond.fieldLink RX1 22 "PushedTables$State" "forms" "[I", Cond.fieldLink RX1 25 "PushedTables$State" "shifts" "[I", Cond.methodLink RX5 129 yX5_addRowOfText, Cond.instanceMethod yX5_addRowOfText, Cond.selects RX5 yX5_addRowOfText yX5_addRowOfText, Cond.code yX5_addRowOfText cX5_addRowOfText 4 none]
def wsX5_read_r5 : List Cond := [Cond.fieldLink RX5 184 "PushedTables$Text" "defaults" "[I", Cond.methodLink RX5 51 yX1_addRow, Cond.instanceMethod yX1_addRow, Cond.selects RX1 yX1_addRow yX1_addRow, Cond.code yX1_addRow cX1_addRow 3 (some .int), Cond.methodLink RX1 43 yJ7_fill_fda19, Cond.methodLink RX5 185 yX4_valueRead, Cond.instanceMethod yX4_valueRead, Cond.selects RX4 yX4_valueRead yX4_valueRead, Cond.code yX4_valueRead cX4_valueRead 3 (some .int), Cond.methodLink RX5 65 yX1_changeValue, Cond.instanceMethod yX1_changeValue, Cond.selects RX1 yX1_changeValue yX1_changeValue, Cond.code yX1_changeValue cX1_changeValue 4 none, Cond.methodLink RX5 69 yX3_settle, Cond.instanceMethod yX3_settle, Cond.selects RX3 yX3_settle yX3_settle, Cond.initialized RX3, Cond.code yX3_settle cX3_settle 3 none, Cond.fieldLink RX3 12 "PushedTables$Table" "state" "LPushedTables$State;", Cond.fieldLink RX3 40 "PushedTables$State" "forms" "[I", Cond.methodLink RX3 60 yX3_hasEntriesOf, Cond.instanceMethod yX3_hasEntriesOf, Cond.selects RX3 yX3_hasEntriesOf yX3_hasEntriesOf]
def wsX5_read_r6 : List Cond := [Cond.code yX3_hasEntriesOf cX3_hasEntriesOf 6 (some .boolean), Cond.fieldLink RX3 21 "PushedTables$Table" "store" "LPushedTables$Store;", Cond.fieldLink RX3 85 "PushedTables$Store" "marks" "[I", Cond.fieldLink RX3 88 "PushedTables$Store" "values" "[I", Cond.methodLink RX3 44 yX1_shiftOf, Cond.instanceMethod yX1_shiftOf, Cond.selects RX1 yX1_shiftOf yX1_shiftOf, Cond.code yX1_shiftOf cX1_shiftOf 2 (some .int), Cond.methodLink RX3 48 yX1_isEntry, Cond.instanceMethod yX1_isEntry, Cond.selects RX1 yX1_isEntry yX1_isEntry, Cond.code yX1_isEntry cX1_isEntry 3 (some .boolean), Cond.methodLink RX1 54 yX1_valueAt, Cond.instanceMethod yX1_valueAt, Cond.selects RX1 yX1_valueAt yX1_valueAt, Cond.code yX1_valueAt cX1_valueAt 3 (some .int), Cond.methodLink RX3 52 yX1_valueAt, Cond.methodLink RX3 63 yX3_leaveForm, Cond.instanceMethod yX3_leaveForm, Cond.selects RX3 yX3_leaveForm yX3_leaveForm, Cond.code yX3_leaveForm cX3_leaveForm 4 none, Cond.fieldLink RX3 82 "PushedTables$State" "shifts" "[I", Cond.methodLink RX3 76 yX1_sharersOf, Cond.instanceMethod yX1_sharersOf]
def wsX5_read_r7 : List Cond := [Cond.selects RX1 yX1_sharersOf yX1_sharersOf, Cond.code yX1_sharersOf cX1_sharersOf 4 (some .int), Cond.methodLink RX3 79 yX2_takeOut, Cond.instanceMethod yX2_takeOut, Cond.selects RX2 yX2_takeOut yX2_takeOut, Cond.initialized RX2, Cond.code yX2_takeOut cX2_takeOut 4 none, Cond.fieldLink RX2 15 "PushedTables$Store" "marks" "[I", Cond.methodLink RX2 27 yX2_fillCell, Cond.instanceMethod yX2_fillCell, Cond.selects RX2 yX2_fillCell yX2_fillCell, Cond.code yX2_fillCell cX2_fillCell 4 none, Cond.fieldLink RX2 9 "PushedTables$Store" "values" "[I", Cond.methodLink RX3 66 yX1_columnsOf, Cond.instanceMethod yX1_columnsOf, Cond.selects RX1 yX1_columnsOf yX1_columnsOf, Cond.code yX1_columnsOf cX1_columnsOf 4 (some .int), Cond.methodLink RX1 46 yX1_isEntry, Cond.methodLink RX3 69 yX3_formWithEntriesOf, Cond.instanceMethod yX3_formWithEntriesOf, Cond.selects RX3 yX3_formWithEntriesOf yX3_formWithEntriesOf, Cond.code yX3_formWithEntriesOf cX3_formWithEntriesOf 3 (some .int), Cond.methodLink RX3 72 yX3_pushNewForm, Cond.instanceMethod yX3_pushNewForm]
def wsX5_read_r8 : List Cond := [Cond.selects RX3 yX3_pushNewForm yX3_pushNewForm, Cond.code yX3_pushNewForm cX3_pushNewForm 5 none, Cond.methodLink RX3 91 yX1_freeForm, Cond.instanceMethod yX1_freeForm, Cond.selects RX1 yX1_freeForm yX1_freeForm, Cond.code yX1_freeForm cX1_freeForm 2 (some .int), Cond.methodLink RX3 95 yX2_firstFit, Cond.instanceMethod yX2_firstFit, Cond.selects RX2 yX2_firstFit yX2_firstFit, Cond.code yX2_firstFit cX2_firstFit 3 (some .int), Cond.methodLink RX2 31 yX2_fitsAt, Cond.instanceMethod yX2_fitsAt, Cond.selects RX2 yX2_fitsAt yX2_fitsAt, Cond.code yX2_fitsAt cX2_fitsAt 4 (some .boolean), Cond.methodLink RX2 35 yX2_isEmptyAt, Cond.instanceMethod yX2_isEmptyAt, Cond.selects RX2 yX2_isEmptyAt yX2_isEmptyAt, Cond.code yX2_isEmptyAt cX2_isEmptyAt 2 (some .boolean), Cond.methodLink RX3 36 yX3_fillCellsOf, Cond.instanceMethod yX3_fillCellsOf, Cond.selects RX3 yX3_fillCellsOf yX3_fillCellsOf, Cond.code yX3_fillCellsOf cX3_fillCellsOf 5 none, Cond.methodLink RX3 56 yX2_fillCell]
def wsX5_read : List Cond := .code yX5_read cX5_read 2 (some .int) :: ((wsX5_read_r1 ++ (wsX5_read_r2 ++ (wsX5_read_r3 ++ (wsX5_read_r4 ++ (wsX5_read_r5 ++ (wsX5_read_r6 ++ (wsX5_read_r7 ++ wsX5_read_r8))))))) ++ wsX50 ++ wsX30 ++ wsX10 ++ wsX40 ++ wsX00 ++ wsX20)
def wsX5_get_r1 : List Cond := [Cond.fieldLink RX5 12 "PushedTables" "table" "LPushedTables$Table;", Cond.methodLink RX5 55 yX5_isRow, Cond.instanceMethod yX5_isRow, Cond.selects RX5 yX5_isRow yX5_isRow, Cond.initialized RX5, Cond.code yX5_isRow cX5_isRow 2 (some .boolean), Cond.fieldLink RX5 37 "PushedTables$Table" "state" "LPushedTables$State;", Cond.fieldLink RX5 41 "PushedTables$State" "rowCount" "I", Cond.methodLink RX5 58 yX5_isColumn, Cond.static yX5_isColumn, Cond.code yX5_isColumn cX5_isColumn 1 (some .boolean), Cond.methodLink RX5 132 yX3_lookUp, Cond.instanceMethod yX3_lookUp, Cond.selects RX3 yX3_lookUp yX3_lookUp, Cond.initialized RX3, Cond.code yX3_lookUp cX3_lookUp 5 (some .int), Cond.fieldLink RX3 12 "PushedTables$Table" "state" "LPushedTables$State;", Cond.fieldLink RX3 40 "PushedTables$State" "forms" "[I", Cond.fieldLink RX3 21 "PushedTables$Table" "store" "LPushedTables$Store;", Cond.fieldLink RX3 85 "PushedTables$Store" "marks" "[I", Cond.fieldLink RX3 88 "PushedTables$Store" "values" "[I", Cond.fieldLink RX3 110 "PushedTables$State" "defaults" "[I", Cond.methodLink RX3 44 yX1_shiftOf, Cond.instanceMethod yX1_shiftOf]
def wsX5_get_r2 : List Cond := [Cond.selects RX1 yX1_shiftOf yX1_shiftOf, Cond.initialized RX1, Cond.code yX1_shiftOf cX1_shiftOf 2 (some .int), Cond.fieldLink RX1 25 "PushedTables$State" "shifts" "[I"]
def wsX5_get : List Cond := .code yX5_get cX5_get 3 (some .int) :: ((wsX5_get_r1 ++ wsX5_get_r2) ++ wsX50 ++ wsX30 ++ wsX10 ++ wsX20)
def wsX5_count_r1 : List Cond := [Cond.fieldLink RX5 12 "PushedTables" "table" "LPushedTables$Table;", Cond.fieldLink RX5 37 "PushedTables$Table" "state" "LPushedTables$State;", Cond.fieldLink RX5 41 "PushedTables$State" "rowCount" "I", Cond.fieldLink RX5 93 "PushedTables$Table" "store" "LPushedTables$Store;", Cond.fieldLink RX5 22 "PushedTables" "history" "LPushedTables$History;", Cond.fieldLink RX5 103 "PushedTables$History" "size" "I", Cond.fieldLink RX5 29 "PushedTables" "text" "LPushedTables$Text;", Cond.fieldLink RX5 113 "PushedTables$Text" "length" "I", Cond.methodLink RX5 135 yX1_formCount, Cond.instanceMethod yX1_formCount, Cond.selects RX1 yX1_formCount yX1_formCount, Cond.initialized RX1, Cond.code yX1_formCount cX1_formCount 3 (some .int), Cond.fieldLink RX1 25 "PushedTables$State" "shifts" "[I", Cond.methodLink RX5 138 yX1_weightSum, Cond.instanceMethod yX1_weightSum, Cond.selects RX1 yX1_weightSum yX1_weightSum, Cond.code yX1_weightSum cX1_weightSum 3 (some .int), Cond.fieldLink RX1 9 "PushedTables$State" "rowCount" "I", Cond.methodLink RX1 67 yX1_weightOf, Cond.instanceMethod yX1_weightOf, Cond.selects RX1 yX1_weightOf yX1_weightOf, Cond.code yX1_weightOf cX1_weightOf 2 (some .int), Cond.methodLink RX1 58 yX1_columnsOf]
def wsX5_count_r2 : List Cond := [Cond.instanceMethod yX1_columnsOf, Cond.selects RX1 yX1_columnsOf yX1_columnsOf, Cond.code yX1_columnsOf cX1_columnsOf 4 (some .int), Cond.methodLink RX1 46 yX1_isEntry, Cond.instanceMethod yX1_isEntry, Cond.selects RX1 yX1_isEntry yX1_isEntry, Cond.code yX1_isEntry cX1_isEntry 3 (some .boolean), Cond.fieldLink RX1 15 "PushedTables$State" "defaults" "[I", Cond.methodLink RX1 54 yX1_valueAt, Cond.instanceMethod yX1_valueAt, Cond.selects RX1 yX1_valueAt yX1_valueAt, Cond.code yX1_valueAt cX1_valueAt 3 (some .int), Cond.fieldLink RX1 19 "PushedTables$State" "values" "[I", Cond.methodLink RX1 62 yJ6_bitCount_0f7a4, Cond.static yJ6_bitCount_0f7a4, Cond.initialized RJ6, Cond.code yJ6_bitCount_0f7a4 cJ6_bitCount_0f7a4 1 (some .int), Cond.constant RJ6 265 (1431655765), Cond.constant RJ6 266 (858993459), Cond.constant RJ6 267 (252645135), Cond.methodLink RX5 141 yX2_filledCells, Cond.instanceMethod yX2_filledCells, Cond.selects RX2 yX2_filledCells yX2_filledCells, Cond.initialized RX2]
def wsX5_count_r3 : List Cond := [Cond.code yX2_filledCells cX2_filledCells 3 (some .int), Cond.methodLink RX2 35 yX2_isEmptyAt, Cond.instanceMethod yX2_isEmptyAt, Cond.selects RX2 yX2_isEmptyAt yX2_isEmptyAt, Cond.code yX2_isEmptyAt cX2_isEmptyAt 2 (some .boolean), Cond.fieldLink RX2 15 "PushedTables$Store" "marks" "[I", Cond.methodLink RX5 97 yX2_endOfCells, Cond.instanceMethod yX2_endOfCells, Cond.selects RX2 yX2_endOfCells yX2_endOfCells, Cond.code yX2_endOfCells cX2_endOfCells 2 (some .int), Cond.methodLink RX5 144 yX3_refusals, Cond.instanceMethod yX3_refusals, Cond.selects RX3 yX3_refusals yX3_refusals, Cond.initialized RX3, Cond.code yX3_refusals cX3_refusals 3 (some .int), Cond.fieldLink RX3 12 "PushedTables$Table" "state" "LPushedTables$State;", Cond.fieldLink RX3 32 "PushedTables$State" "rowCount" "I", Cond.methodLink RX3 113 yX3_refusalsOf, Cond.instanceMethod yX3_refusalsOf, Cond.selects RX3 yX3_refusalsOf yX3_refusalsOf, Cond.code yX3_refusalsOf cX3_refusalsOf 6 (some .int), Cond.fieldLink RX3 40 "PushedTables$State" "forms" "[I", Cond.fieldLink RX3 21 "PushedTables$Table" "store" "LPushedTables$Store;", Cond.fieldLink RX3 85 "PushedTables$Store" "marks" "[I"]
def wsX5_count_r4 : List Cond := [Cond.methodLink RX3 44 yX1_shiftOf, Cond.instanceMethod yX1_shiftOf, Cond.selects RX1 yX1_shiftOf yX1_shiftOf, Cond.code yX1_shiftOf cX1_shiftOf 2 (some .int), Cond.methodLink RX3 116 yX2_isEmptyAt]
def wsX5_count : List Cond := .code yX5_count cX5_count 2 (some .int) :: ((wsX5_count_r1 ++ (wsX5_count_r2 ++ (wsX5_count_r3 ++ wsX5_count_r4))) ++ wsX50 ++ wsX30 ++ wsX10 ++ wsX00 ++ wsX40 ++ wsX20)
def wsX5_row_r1 : List Cond := [Cond.fieldLink RX5 12 "PushedTables" "table" "LPushedTables$Table;", Cond.fieldLink RX5 37 "PushedTables$Table" "state" "LPushedTables$State;", Cond.fieldLink RX5 83 "PushedTables$State" "defaults" "[I", Cond.fieldLink RX5 147 "PushedTables$State" "forms" "[I", Cond.methodLink RX5 55 yX5_isRow, Cond.instanceMethod yX5_isRow, Cond.selects RX5 yX5_isRow yX5_isRow, Cond.initialized RX5, Cond.code yX5_isRow cX5_isRow 2 (some .boolean), Cond.fieldLink RX5 41 "PushedTables$State" "rowCount" "I", Cond.methodLink RX5 77 yX1_weightOf, Cond.instanceMethod yX1_weightOf, Cond.selects RX1 yX1_weightOf yX1_weightOf, Cond.initialized RX1, Cond.code yX1_weightOf cX1_weightOf 2 (some .int), Cond.methodLink RX1 58 yX1_columnsOf, Cond.instanceMethod yX1_columnsOf, Cond.selects RX1 yX1_columnsOf yX1_columnsOf, Cond.code yX1_columnsOf cX1_columnsOf 4 (some .int), Cond.methodLink RX1 46 yX1_isEntry, Cond.instanceMethod yX1_isEntry, Cond.selects RX1 yX1_isEntry yX1_isEntry, Cond.code yX1_isEntry cX1_isEntry 3 (some .boolean), Cond.fieldLink RX1 15 "PushedTables$State" "defaults" "[I"]
def wsX5_row_r2 : List Cond := [Cond.methodLink RX1 54 yX1_valueAt, Cond.instanceMethod yX1_valueAt, Cond.selects RX1 yX1_valueAt yX1_valueAt, Cond.code yX1_valueAt cX1_valueAt 3 (some .int), Cond.fieldLink RX1 19 "PushedTables$State" "values" "[I", Cond.methodLink RX1 62 yJ6_bitCount_0f7a4, Cond.static yJ6_bitCount_0f7a4, Cond.initialized RJ6, Cond.code yJ6_bitCount_0f7a4 cJ6_bitCount_0f7a4 1 (some .int), Cond.constant RJ6 265 (1431655765), Cond.constant RJ6 266 (858993459), Cond.constant RJ6 267 (252645135), Cond.methodLink RX5 150 yX1_shiftOf, Cond.instanceMethod yX1_shiftOf, Cond.selects RX1 yX1_shiftOf yX1_shiftOf, Cond.code yX1_shiftOf cX1_shiftOf 2 (some .int), Cond.fieldLink RX1 25 "PushedTables$State" "shifts" "[I", Cond.methodLink RX5 153 yX1_columnsOf]
def wsX5_row : List Cond := .code yX5_row cX5_row 3 (some .int) :: ((wsX5_row_r1 ++ wsX5_row_r2) ++ wsX50 ++ wsX30 ++ wsX10)
def wsX5_form : List Cond := .code yX5_form cX5_form 4 (some .int) :: ([.fieldLink RX5 12 "PushedTables" "table" "LPushedTables$Table;", .fieldLink RX5 37 "PushedTables$Table" "state" "LPushedTables$State;", .fieldLink RX5 93 "PushedTables$Table" "store" "LPushedTables$Store;", .methodLink RX5 150 yX1_shiftOf, .instanceMethod yX1_shiftOf, .selects RX1 yX1_shiftOf yX1_shiftOf, .initialized RX1, .code yX1_shiftOf cX1_shiftOf 2 (some .int), .fieldLink RX1 25 "PushedTables$State" "shifts" "[I", .methodLink RX5 156 yX1_sharersOf, .instanceMethod yX1_sharersOf, .selects RX1 yX1_sharersOf yX1_sharersOf, .code yX1_sharersOf cX1_sharersOf 4 (some .int), .fieldLink RX1 9 "PushedTables$State" "rowCount" "I", .fieldLink RX1 22 "PushedTables$State" "forms" "[I", .methodLink RX5 159 yX2_filledOf, .instanceMethod yX2_filledOf, .selects RX2 yX2_filledOf yX2_filledOf, .initialized RX2, .code yX2_filledOf cX2_filledOf 5 (some .int), .fieldLink RX2 15 "PushedTables$Store" "marks" "[I"] ++ wsX50 ++ wsX30 ++ wsX10 ++ wsX20)
def wsX5_cell : List Cond := .code yX5_cell cX5_cell 3 (some .int) :: ([.fieldLink RX5 12 "PushedTables" "table" "LPushedTables$Table;", .fieldLink RX5 93 "PushedTables$Table" "store" "LPushedTables$Store;", .fieldLink RX5 162 "PushedTables$Store" "values" "[I", .fieldLink RX5 165 "PushedTables$Store" "marks" "[I"] ++ wsX50 ++ wsX30 ++ wsX20)
def wsX5_fit : List Cond := .code yX5_fit cX5_fit 2 (some .int) :: ([.constant RX5 168 (65535), .fieldLink RX5 12 "PushedTables" "table" "LPushedTables$Table;", .fieldLink RX5 93 "PushedTables$Table" "store" "LPushedTables$Store;", .methodLink RX5 169 yX2_firstFit, .instanceMethod yX2_firstFit, .selects RX2 yX2_firstFit yX2_firstFit, .initialized RX2, .code yX2_firstFit cX2_firstFit 3 (some .int), .methodLink RX2 31 yX2_fitsAt, .instanceMethod yX2_fitsAt, .selects RX2 yX2_fitsAt yX2_fitsAt, .code yX2_fitsAt cX2_fitsAt 4 (some .boolean), .methodLink RX2 35 yX2_isEmptyAt, .instanceMethod yX2_isEmptyAt, .selects RX2 yX2_isEmptyAt yX2_isEmptyAt, .code yX2_isEmptyAt cX2_isEmptyAt 2 (some .boolean), .fieldLink RX2 15 "PushedTables$Store" "marks" "[I"] ++ wsX50 ++ wsX30 ++ wsX20)
def wsX5_endBy_r1 : List Cond := [Cond.fieldLink RX5 16 "PushedTables" "forecast" "LPushedTables$Table;", Cond.fieldLink RX5 37 "PushedTables$Table" "state" "LPushedTables$State;", Cond.fieldLink RX5 12 "PushedTables" "table" "LPushedTables$Table;", Cond.fieldLink RX5 93 "PushedTables$Table" "store" "LPushedTables$Store;", Cond.methodLink RX5 172 yX1_copyFrom, Cond.instanceMethod yX1_copyFrom, Cond.selects RX1 yX1_copyFrom yX1_copyFrom, Cond.initialized RX1, Cond.code yX1_copyFrom cX1_copyFrom 2 none, Cond.fieldLink RX1 9 "PushedTables$State" "rowCount" "I", Cond.fieldLink RX1 15 "PushedTables$State" "defaults" "[I", Cond.methodLink RX1 31 arraycopyName, Cond.native arraycopyName, Cond.static arraycopyName, Cond.initialized "java/lang/System", Cond.fieldLink RX1 19 "PushedTables$State" "values" "[I", Cond.fieldLink RX1 22 "PushedTables$State" "forms" "[I", Cond.fieldLink RX1 25 "PushedTables$State" "shifts" "[I", Cond.methodLink RX5 90 yX3_pushAnewByWeights, Cond.instanceMethod yX3_pushAnewByWeights, Cond.selects RX3 yX3_pushAnewByWeights yX3_pushAnewByWeights, Cond.initialized RX3, Cond.code yX3_pushAnewByWeights cX3_pushAnewByWeights 3 none, Cond.fieldLink RX3 12 "PushedTables$Table" "state" "LPushedTables$State;"]
def wsX5_endBy_r2 : List Cond := [Cond.fieldLink RX3 32 "PushedTables$State" "rowCount" "I", Cond.methodLink RX3 98 yX3_takeOutAll, Cond.instanceMethod yX3_takeOutAll, Cond.selects RX3 yX3_takeOutAll yX3_takeOutAll, Cond.code yX3_takeOutAll cX3_takeOutAll 1 none, Cond.fieldLink RX3 21 "PushedTables$Table" "store" "LPushedTables$Store;", Cond.instanceMethod yX1_forgetForms, Cond.selects RX1 yX1_forgetForms yX1_forgetForms, Cond.code yX1_forgetForms cX1_forgetForms 1 none, Cond.methodLink RX1 37 yJ7_fill_53178, Cond.static yJ7_fill_53178, Cond.initialized RJ7, Cond.code yJ7_fill_53178 cJ7_fill_53178 4 none, Cond.methodLink RX3 29 yX2_emptyAll, Cond.instanceMethod yX2_emptyAll, Cond.selects RX2 yX2_emptyAll yX2_emptyAll, Cond.initialized RX2, Cond.code yX2_emptyAll cX2_emptyAll 1 none, Cond.fieldLink RX2 9 "PushedTables$Store" "values" "[I", Cond.fieldLink RX2 15 "PushedTables$Store" "marks" "[I", Cond.methodLink RX2 21 yJ7_fill_53178, Cond.methodLink RX3 101 yX1_weightOf, Cond.instanceMethod yX1_weightOf, Cond.selects RX1 yX1_weightOf yX1_weightOf]
def wsX5_endBy_r3 : List Cond := [Cond.code yX1_weightOf cX1_weightOf 2 (some .int), Cond.methodLink RX1 58 yX1_columnsOf, Cond.instanceMethod yX1_columnsOf, Cond.selects RX1 yX1_columnsOf yX1_columnsOf, Cond.code yX1_columnsOf cX1_columnsOf 4 (some .int), Cond.methodLink RX1 46 yX1_isEntry, Cond.instanceMethod yX1_isEntry, Cond.selects RX1 yX1_isEntry yX1_isEntry, Cond.code yX1_isEntry cX1_isEntry 3 (some .boolean), Cond.methodLink RX1 54 yX1_valueAt, Cond.instanceMethod yX1_valueAt, Cond.selects RX1 yX1_valueAt yX1_valueAt, Cond.code yX1_valueAt cX1_valueAt 3 (some .int), Cond.methodLink RX1 62 yJ6_bitCount_0f7a4, Cond.static yJ6_bitCount_0f7a4, Cond.initialized RJ6, Cond.code yJ6_bitCount_0f7a4 cJ6_bitCount_0f7a4 1 (some .int), Cond.constant RJ6 265 (1431655765), Cond.constant RJ6 266 (858993459), Cond.constant RJ6 267 (252645135), Cond.methodLink RX3 104 yX3_settle, Cond.instanceMethod yX3_settle, Cond.selects RX3 yX3_settle yX3_settle, Cond.code yX3_settle cX3_settle 3 none]
def wsX5_endBy_r4 : List Cond := [Cond.fieldLink RX3 40 "PushedTables$State" "forms" "[I", Cond.methodLink RX3 60 yX3_hasEntriesOf, Cond.instanceMethod yX3_hasEntriesOf, Cond.selects RX3 yX3_hasEntriesOf yX3_hasEntriesOf, Cond.code yX3_hasEntriesOf cX3_hasEntriesOf 6 (some .boolean), Cond.fieldLink RX3 85 "PushedTables$Store" "marks" "[I", Cond.fieldLink RX3 88 "PushedTables$Store" "values" "[I", Cond.methodLink RX3 44 yX1_shiftOf, Cond.instanceMethod yX1_shiftOf, Cond.selects RX1 yX1_shiftOf yX1_shiftOf, Cond.code yX1_shiftOf cX1_shiftOf 2 (some .int), Cond.methodLink RX3 48 yX1_isEntry, Cond.methodLink RX3 52 yX1_valueAt, Cond.methodLink RX3 63 yX3_leaveForm, Cond.instanceMethod yX3_leaveForm, Cond.selects RX3 yX3_leaveForm yX3_leaveForm, Cond.code yX3_leaveForm cX3_leaveForm 4 none, Cond.fieldLink RX3 82 "PushedTables$State" "shifts" "[I", Cond.methodLink RX3 76 yX1_sharersOf, Cond.instanceMethod yX1_sharersOf, Cond.selects RX1 yX1_sharersOf yX1_sharersOf, Cond.code yX1_sharersOf cX1_sharersOf 4 (some .int), Cond.methodLink RX3 79 yX2_takeOut, Cond.instanceMethod yX2_takeOut]
def wsX5_endBy_r5 : List Cond := [Cond.selects RX2 yX2_takeOut yX2_takeOut, Cond.code yX2_takeOut cX2_takeOut 4 none, Cond.methodLink RX2 27 yX2_fillCell, Cond.instanceMethod yX2_fillCell, Cond.selects RX2 yX2_fillCell yX2_fillCell, Cond.code yX2_fillCell cX2_fillCell 4 none, Cond.methodLink RX3 66 yX1_columnsOf, Cond.methodLink RX3 69 yX3_formWithEntriesOf, Cond.instanceMethod yX3_formWithEntriesOf, Cond.selects RX3 yX3_formWithEntriesOf yX3_formWithEntriesOf, Cond.code yX3_formWithEntriesOf cX3_formWithEntriesOf 3 (some .int), Cond.methodLink RX3 72 yX3_pushNewForm, Cond.instanceMethod yX3_pushNewForm, Cond.selects RX3 yX3_pushNewForm yX3_pushNewForm, Cond.code yX3_pushNewForm cX3_pushNewForm 5 none, Cond.methodLink RX3 91 yX1_freeForm, Cond.instanceMethod yX1_freeForm, Cond.selects RX1 yX1_freeForm yX1_freeForm, Cond.code yX1_freeForm cX1_freeForm 2 (some .int), Cond.methodLink RX3 95 yX2_firstFit, Cond.instanceMethod yX2_firstFit, Cond.selects RX2 yX2_firstFit yX2_firstFit, Cond.code yX2_firstFit cX2_firstFit 3 (some .int), Cond.methodLink RX2 31 yX2_fitsAt]
def wsX5_endBy_r6 : List Cond := [Cond.instanceMethod yX2_fitsAt, Cond.selects RX2 yX2_fitsAt yX2_fitsAt, Cond.code yX2_fitsAt cX2_fitsAt 4 (some .boolean), Cond.methodLink RX2 35 yX2_isEmptyAt, Cond.instanceMethod yX2_isEmptyAt, Cond.selects RX2 yX2_isEmptyAt yX2_isEmptyAt, Cond.code yX2_isEmptyAt cX2_isEmptyAt 2 (some .boolean), Cond.methodLink RX3 36 yX3_fillCellsOf, Cond.instanceMethod yX3_fillCellsOf, Cond.selects RX3 yX3_fillCellsOf yX3_fillCellsOf, Cond.code yX3_fillCellsOf cX3_fillCellsOf 5 none, Cond.methodLink RX3 56 yX2_fillCell, Cond.methodLink RX5 175 yX3_pushAnewByNumbers, Cond.instanceMethod yX3_pushAnewByNumbers, Cond.selects RX3 yX3_pushAnewByNumbers yX3_pushAnewByNumbers, Cond.code yX3_pushAnewByNumbers cX3_pushAnewByNumbers 2 none, Cond.methodLink RX5 97 yX2_endOfCells, Cond.instanceMethod yX2_endOfCells, Cond.selects RX2 yX2_endOfCells yX2_endOfCells, Cond.code yX2_endOfCells cX2_endOfCells 2 (some .int)]
def wsX5_endBy : List Cond := .code yX5_endBy cX5_endBy 2 (some .int) :: ((wsX5_endBy_r1 ++ (wsX5_endBy_r2 ++ (wsX5_endBy_r3 ++ (wsX5_endBy_r4 ++ (wsX5_endBy_r5 ++ wsX5_endBy_r6))))) ++ wsX50 ++ wsX30 ++ wsX10 ++ wsX20)
def wsX5_slimmer_r1 : List Cond := [Cond.fieldLink RX5 12 "PushedTables" "table" "LPushedTables$Table;", Cond.fieldLink RX5 37 "PushedTables$Table" "state" "LPushedTables$State;", Cond.fieldLink RX5 41 "PushedTables$State" "rowCount" "I", Cond.methodLink RX5 178 yX1_slimmerBy, Cond.instanceMethod yX1_slimmerBy, Cond.selects RX1 yX1_slimmerBy yX1_slimmerBy, Cond.initialized RX1, Cond.code yX1_slimmerBy cX1_slimmerBy 3 (some .int), Cond.methodLink RX1 73 yX1_commonestValue, Cond.instanceMethod yX1_commonestValue, Cond.selects RX1 yX1_commonestValue yX1_commonestValue, Cond.code yX1_commonestValue cX1_commonestValue 7 (some .int), Cond.methodLink RX1 54 yX1_valueAt, Cond.instanceMethod yX1_valueAt, Cond.selects RX1 yX1_valueAt yX1_valueAt, Cond.code yX1_valueAt cX1_valueAt 3 (some .int), Cond.fieldLink RX1 19 "PushedTables$State" "values" "[I", Cond.methodLink RX1 70 yX1_cellsWith, Cond.instanceMethod yX1_cellsWith, Cond.selects RX1 yX1_cellsWith yX1_cellsWith, Cond.code yX1_cellsWith cX1_cellsWith 5 (some .int), Cond.methodLink RX1 67 yX1_weightOf, Cond.instanceMethod yX1_weightOf, Cond.selects RX1 yX1_weightOf yX1_weightOf]
def wsX5_slimmer_r2 : List Cond := [Cond.code yX1_weightOf cX1_weightOf 2 (some .int), Cond.methodLink RX1 58 yX1_columnsOf, Cond.instanceMethod yX1_columnsOf, Cond.selects RX1 yX1_columnsOf yX1_columnsOf, Cond.code yX1_columnsOf cX1_columnsOf 4 (some .int), Cond.methodLink RX1 46 yX1_isEntry, Cond.instanceMethod yX1_isEntry, Cond.selects RX1 yX1_isEntry yX1_isEntry, Cond.code yX1_isEntry cX1_isEntry 3 (some .boolean), Cond.fieldLink RX1 15 "PushedTables$State" "defaults" "[I", Cond.methodLink RX1 62 yJ6_bitCount_0f7a4, Cond.static yJ6_bitCount_0f7a4, Cond.initialized RJ6, Cond.code yJ6_bitCount_0f7a4 cJ6_bitCount_0f7a4 1 (some .int), Cond.constant RJ6 265 (1431655765), Cond.constant RJ6 266 (858993459), Cond.constant RJ6 267 (252645135)]
def wsX5_slimmer : List Cond := .code yX5_slimmer cX5_slimmer 3 (some .int) :: ((wsX5_slimmer_r1 ++ wsX5_slimmer_r2) ++ wsX50 ++ wsX30 ++ wsX10)
def wsX5_like : List Cond := .code yX5_like cX5_like 2 (some .int) :: ([.fieldLink RX5 12 "PushedTables" "table" "LPushedTables$Table;", .fieldLink RX5 37 "PushedTables$Table" "state" "LPushedTables$State;", .methodLink RX5 55 yX5_isRow, .instanceMethod yX5_isRow, .selects RX5 yX5_isRow yX5_isRow, .initialized RX5, .code yX5_isRow cX5_isRow 2 (some .boolean), .fieldLink RX5 41 "PushedTables$State" "rowCount" "I", .methodLink RX5 181 yX1_mostLike, .instanceMethod yX1_mostLike, .selects RX1 yX1_mostLike yX1_mostLike, .initialized RX1, .code yX1_mostLike cX1_mostLike 6 (some .int), .fieldLink RX1 9 "PushedTables$State" "rowCount" "I", .methodLink RX1 76 yX1_equalCells, .instanceMethod yX1_equalCells, .selects RX1 yX1_equalCells yX1_equalCells, .code yX1_equalCells cX1_equalCells 5 (some .int), .methodLink RX1 54 yX1_valueAt, .instanceMethod yX1_valueAt, .selects RX1 yX1_valueAt yX1_valueAt, .code yX1_valueAt cX1_valueAt 3 (some .int), .fieldLink RX1 19 "PushedTables$State" "values" "[I"] ++ wsX50 ++ wsX30 ++ wsX10)
def wsX6_init : List Cond := .code yX6_init cX6_init 2 none :: ([.methodLink RX6 1 objectInit, .instanceMethod objectInit, .code objectInit ⟨#[0xb1]⟩ 1 none, .arrayClass .int, .fieldLink RX6 7 "PushedTablesModel" "now" "[I", .fieldLink RX6 13 "PushedTablesModel" "before" "[I", .fieldLink RX6 16 "PushedTablesModel" "states" "[I", .fieldLink RX6 19 "PushedTablesModel" "marks" "[I", .fieldLink RX6 22 "PushedTablesModel" "values" "[I", .fieldLink RX6 25 "PushedTablesModel" "text" "[I"] ++ wsX60)
def wsX6_in : List Cond := .code yX6_in cX6_in 3 (some .boolean) :: ([])
def wsX6_bits : List Cond := .code yX6_bits cX6_bits 3 (some .int) :: ([])
def wsX6_has : List Cond := .code yX6_has cX6_has 2 (some .boolean) :: ([])
def wsX6_isRow : List Cond := .code yX6_isRow cX6_isRow 2 (some .boolean) :: ([.fieldLink RX6 7 "PushedTablesModel" "now" "[I", .methodLink RX6 28 yX6_in, .static yX6_in, .initialized RX6, .code yX6_in cX6_in 3 (some .boolean)] ++ wsX60)
def wsX6_copy : List Cond := .code yX6_copy cX6_copy 2 none :: ([.fieldLink RX6 13 "PushedTablesModel" "before" "[I", .fieldLink RX6 7 "PushedTablesModel" "now" "[I"] ++ wsX60)
def wsX6_back : List Cond := .code yX6_back cX6_back 2 none :: ([.fieldLink RX6 7 "PushedTablesModel" "now" "[I", .fieldLink RX6 13 "PushedTablesModel" "before" "[I"] ++ wsX60)
def wsX6_record : List Cond := .code yX6_record cX6_record 2 none :: ([.fieldLink RX6 16 "PushedTablesModel" "states" "[I", .fieldLink RX6 32 "PushedTablesModel" "stateAt" "I", .fieldLink RX6 13 "PushedTablesModel" "before" "[I", .fieldLink RX6 36 "PushedTablesModel" "stateMany" "I"] ++ wsX60)
def wsX6_remember : List Cond := .code yX6_remember cX6_remember 1 none :: ([.methodLink RX6 39 yX6_copy, .instanceMethod yX6_copy, .selects RX6 yX6_copy yX6_copy, .initialized RX6, .code yX6_copy cX6_copy 2 none, .fieldLink RX6 13 "PushedTablesModel" "before" "[I", .fieldLink RX6 7 "PushedTablesModel" "now" "[I", .methodLink RX6 42 yX6_record, .instanceMethod yX6_record, .selects RX6 yX6_record yX6_record, .code yX6_record cX6_record 2 none, .fieldLink RX6 16 "PushedTablesModel" "states" "[I", .fieldLink RX6 32 "PushedTablesModel" "stateAt" "I", .fieldLink RX6 36 "PushedTablesModel" "stateMany" "I"] ++ wsX60)
def wsX6_undo : List Cond := .code yX6_undo cX6_undo 2 (some .int) :: ([.fieldLink RX6 36 "PushedTablesModel" "stateMany" "I", .fieldLink RX6 32 "PushedTablesModel" "stateAt" "I", .fieldLink RX6 7 "PushedTablesModel" "now" "[I", .fieldLink RX6 16 "PushedTablesModel" "states" "[I"] ++ wsX60)
def wsX6_entries : List Cond := .code yX6_entries cX6_entries 2 (some .int) :: ([.fieldLink RX6 7 "PushedTablesModel" "now" "[I"] ++ wsX60)
def wsX6_valueOf : List Cond := .code yX6_valueOf cX6_valueOf 3 (some .int) :: ([.fieldLink RX6 7 "PushedTablesModel" "now" "[I", .methodLink RX6 45 yX6_entries, .instanceMethod yX6_entries, .selects RX6 yX6_entries yX6_entries, .initialized RX6, .code yX6_entries cX6_entries 2 (some .int), .methodLink RX6 49 yX6_has, .static yX6_has, .code yX6_has cX6_has 2 (some .boolean)] ++ wsX60)
def wsX6_areAlike : List Cond := .code yX6_areAlike cX6_areAlike 5 (some .boolean) :: ([.fieldLink RX6 7 "PushedTablesModel" "now" "[I", .methodLink RX6 45 yX6_entries, .instanceMethod yX6_entries, .selects RX6 yX6_entries yX6_entries, .initialized RX6, .code yX6_entries cX6_entries 2 (some .int), .methodLink RX6 49 yX6_has, .static yX6_has, .code yX6_has cX6_has 2 (some .boolean)] ++ wsX60)
def wsX6_sharers : List Cond := .code yX6_sharers cX6_sharers 4 (some .int) :: ([.fieldLink RX6 7 "PushedTablesModel" "now" "[I"] ++ wsX60)
def wsX6_layStore : List Cond := .code yX6_layStore cX6_layStore 4 none :: ([.fieldLink RX6 19 "PushedTablesModel" "marks" "[I", .fieldLink RX6 7 "PushedTablesModel" "now" "[I", .fieldLink RX6 22 "PushedTablesModel" "values" "[I", .methodLink RX6 45 yX6_entries, .instanceMethod yX6_entries, .selects RX6 yX6_entries yX6_entries, .initialized RX6, .code yX6_entries cX6_entries 2 (some .int), .methodLink RX6 49 yX6_has, .static yX6_has, .code yX6_has cX6_has 2 (some .boolean)] ++ wsX60)
def wsX6_fits : List Cond := .code yX6_fits cX6_fits 5 (some .int) :: ([.fieldLink RX6 19 "PushedTablesModel" "marks" "[I", .methodLink RX6 49 yX6_has, .static yX6_has, .initialized RX6, .code yX6_has cX6_has 2 (some .boolean)] ++ wsX60)
def wsX6_forms : List Cond := .code yX6_forms cX6_forms 5 none :: ([.fieldLink RX6 7 "PushedTablesModel" "now" "[I", .methodLink RX6 53 yX6_areAlike, .instanceMethod yX6_areAlike, .selects RX6 yX6_areAlike yX6_areAlike, .initialized RX6, .code yX6_areAlike cX6_areAlike 5 (some .boolean), .methodLink RX6 45 yX6_entries, .instanceMethod yX6_entries, .selects RX6 yX6_entries yX6_entries, .code yX6_entries cX6_entries 2 (some .int), .methodLink RX6 49 yX6_has, .static yX6_has, .code yX6_has cX6_has 2 (some .boolean), .methodLink RX6 56 yX6_layStore, .instanceMethod yX6_layStore, .selects RX6 yX6_layStore yX6_layStore, .code yX6_layStore cX6_layStore 4 none, .fieldLink RX6 19 "PushedTablesModel" "marks" "[I", .fieldLink RX6 22 "PushedTablesModel" "values" "[I", .methodLink RX6 59 yX6_fits, .instanceMethod yX6_fits, .selects RX6 yX6_fits yX6_fits, .code yX6_fits cX6_fits 5 (some .int)] ++ wsX60)
def wsX6_leaves : List Cond := .code yX6_leaves cX6_leaves 3 none :: ([.fieldLink RX6 7 "PushedTablesModel" "now" "[I", .methodLink RX6 62 yX6_sharers, .instanceMethod yX6_sharers, .selects RX6 yX6_sharers yX6_sharers, .initialized RX6, .code yX6_sharers cX6_sharers 4 (some .int)] ++ wsX60)
def wsX6_adds : List Cond := .code yX6_adds cX6_adds 3 none :: ([.fieldLink RX6 7 "PushedTablesModel" "now" "[I"] ++ wsX60)
def wsX6_add_r1 : List Cond := [Cond.fieldLink RX6 7 "PushedTablesModel" "now" "[I", Cond.methodLink RX6 28 yX6_in, Cond.static yX6_in, Cond.initialized RX6, Cond.code yX6_in cX6_in 3 (some .boolean), Cond.methodLink RX6 65 yX6_remember, Cond.instanceMethod yX6_remember, Cond.selects RX6 yX6_remember yX6_remember, Cond.code yX6_remember cX6_remember 1 none, Cond.methodLink RX6 39 yX6_copy, Cond.instanceMethod yX6_copy, Cond.selects RX6 yX6_copy yX6_copy, Cond.code yX6_copy cX6_copy 2 none, Cond.fieldLink RX6 13 "PushedTablesModel" "before" "[I", Cond.methodLink RX6 42 yX6_record, Cond.instanceMethod yX6_record, Cond.selects RX6 yX6_record yX6_record, Cond.code yX6_record cX6_record 2 none, Cond.fieldLink RX6 16 "PushedTablesModel" "states" "[I", Cond.fieldLink RX6 32 "PushedTablesModel" "stateAt" "I", Cond.fieldLink RX6 36 "PushedTablesModel" "stateMany" "I", Cond.methodLink RX6 68 yX6_adds, Cond.instanceMethod yX6_adds, Cond.selects RX6 yX6_adds yX6_adds]
def wsX6_add_r2 : List Cond := [Cond.code yX6_adds cX6_adds 3 none]
def wsX6_add : List Cond := .code yX6_add cX6_add 2 (some .int) :: ((wsX6_add_r1 ++ wsX6_add_r2) ++ wsX60)
def wsX6_leavesFor : List Cond := .code yX6_leavesFor cX6_leavesFor 3 none :: ([.methodLink RX6 87 yX6_leaves, .instanceMethod yX6_leaves, .selects RX6 yX6_leaves yX6_leaves, .initialized RX6, .code yX6_leaves cX6_leaves 3 none, .fieldLink RX6 7 "PushedTablesModel" "now" "[I", .methodLink RX6 62 yX6_sharers, .instanceMethod yX6_sharers, .selects RX6 yX6_sharers yX6_sharers, .code yX6_sharers cX6_sharers 4 (some .int)] ++ wsX60)
def wsX6_formsFor_r1 : List Cond := [Cond.methodLink RX6 90 yX6_forms, Cond.instanceMethod yX6_forms, Cond.selects RX6 yX6_forms yX6_forms, Cond.initialized RX6, Cond.code yX6_forms cX6_forms 5 none, Cond.fieldLink RX6 7 "PushedTablesModel" "now" "[I", Cond.methodLink RX6 53 yX6_areAlike, Cond.instanceMethod yX6_areAlike, Cond.selects RX6 yX6_areAlike yX6_areAlike, Cond.code yX6_areAlike cX6_areAlike 5 (some .boolean), Cond.methodLink RX6 45 yX6_entries, Cond.instanceMethod yX6_entries, Cond.selects RX6 yX6_entries yX6_entries, Cond.code yX6_entries cX6_entries 2 (some .int), Cond.methodLink RX6 49 yX6_has, Cond.static yX6_has, Cond.code yX6_has cX6_has 2 (some .boolean), Cond.methodLink RX6 56 yX6_layStore, Cond.instanceMethod yX6_layStore, Cond.selects RX6 yX6_layStore yX6_layStore, Cond.code yX6_layStore cX6_layStore 4 none, Cond.fieldLink RX6 19 "PushedTablesModel" "marks" "[I", Cond.fieldLink RX6 22 "PushedTablesModel" "values" "[I", Cond.methodLink RX6 59 yX6_fits]
def wsX6_formsFor_r2 : List Cond := [Cond.instanceMethod yX6_fits, Cond.selects RX6 yX6_fits yX6_fits, Cond.code yX6_fits cX6_fits 5 (some .int)]
def wsX6_formsFor : List Cond := .code yX6_formsFor cX6_formsFor 3 none :: ((wsX6_formsFor_r1 ++ wsX6_formsFor_r2) ++ wsX60)
def wsX6_set_r1 : List Cond := [Cond.fieldLink RX6 7 "PushedTablesModel" "now" "[I", Cond.methodLink RX6 72 yX6_isRow, Cond.instanceMethod yX6_isRow, Cond.selects RX6 yX6_isRow yX6_isRow, Cond.initialized RX6, Cond.code yX6_isRow cX6_isRow 2 (some .boolean), Cond.methodLink RX6 28 yX6_in, Cond.static yX6_in, Cond.code yX6_in cX6_in 3 (some .boolean), Cond.methodLink RX6 65 yX6_remember, Cond.instanceMethod yX6_remember, Cond.selects RX6 yX6_remember yX6_remember, Cond.code yX6_remember cX6_remember 1 none, Cond.methodLink RX6 39 yX6_copy, Cond.instanceMethod yX6_copy, Cond.selects RX6 yX6_copy yX6_copy, Cond.code yX6_copy cX6_copy 2 none, Cond.fieldLink RX6 13 "PushedTablesModel" "before" "[I", Cond.methodLink RX6 42 yX6_record, Cond.instanceMethod yX6_record, Cond.selects RX6 yX6_record yX6_record, Cond.code yX6_record cX6_record 2 none, Cond.fieldLink RX6 16 "PushedTablesModel" "states" "[I", Cond.fieldLink RX6 32 "PushedTablesModel" "stateAt" "I"]
def wsX6_set_r2 : List Cond := [Cond.fieldLink RX6 36 "PushedTablesModel" "stateMany" "I", Cond.methodLink RX6 76 yX6_valueOf, Cond.instanceMethod yX6_valueOf, Cond.selects RX6 yX6_valueOf yX6_valueOf, Cond.code yX6_valueOf cX6_valueOf 3 (some .int), Cond.methodLink RX6 45 yX6_entries, Cond.instanceMethod yX6_entries, Cond.selects RX6 yX6_entries yX6_entries, Cond.code yX6_entries cX6_entries 2 (some .int), Cond.methodLink RX6 49 yX6_has, Cond.static yX6_has, Cond.code yX6_has cX6_has 2 (some .boolean), Cond.methodLink RX6 80 yX6_leavesFor, Cond.instanceMethod yX6_leavesFor, Cond.selects RX6 yX6_leavesFor yX6_leavesFor, Cond.code yX6_leavesFor cX6_leavesFor 3 none, Cond.methodLink RX6 87 yX6_leaves, Cond.instanceMethod yX6_leaves, Cond.selects RX6 yX6_leaves yX6_leaves, Cond.code yX6_leaves cX6_leaves 3 none, Cond.methodLink RX6 62 yX6_sharers, Cond.instanceMethod yX6_sharers, Cond.selects RX6 yX6_sharers yX6_sharers, Cond.code yX6_sharers cX6_sharers 4 (some .int)]
def wsX6_set_r3 : List Cond := [Cond.methodLink RX6 84 yX6_formsFor, Cond.instanceMethod yX6_formsFor, Cond.selects RX6 yX6_formsFor yX6_formsFor, Cond.code yX6_formsFor cX6_formsFor 3 none, Cond.methodLink RX6 90 yX6_forms, Cond.instanceMethod yX6_forms, Cond.selects RX6 yX6_forms yX6_forms, Cond.code yX6_forms cX6_forms 5 none, Cond.methodLink RX6 53 yX6_areAlike, Cond.instanceMethod yX6_areAlike, Cond.selects RX6 yX6_areAlike yX6_areAlike, Cond.code yX6_areAlike cX6_areAlike 5 (some .boolean), Cond.methodLink RX6 56 yX6_layStore, Cond.instanceMethod yX6_layStore, Cond.selects RX6 yX6_layStore yX6_layStore, Cond.code yX6_layStore cX6_layStore 4 none, Cond.fieldLink RX6 19 "PushedTablesModel" "marks" "[I", Cond.fieldLink RX6 22 "PushedTablesModel" "values" "[I", Cond.methodLink RX6 59 yX6_fits, Cond.instanceMethod yX6_fits, Cond.selects RX6 yX6_fits yX6_fits, Cond.code yX6_fits cX6_fits 5 (some .int)]
def wsX6_set : List Cond := .code yX6_set cX6_set 5 (some .int) :: ((wsX6_set_r1 ++ (wsX6_set_r2 ++ wsX6_set_r3)) ++ wsX60)
def wsX6_entriesBy : List Cond := .code yX6_entriesBy cX6_entriesBy 6 (some .int) :: ([.methodLink RX6 45 yX6_entries, .instanceMethod yX6_entries, .selects RX6 yX6_entries yX6_entries, .initialized RX6, .code yX6_entries cX6_entries 2 (some .int), .fieldLink RX6 7 "PushedTablesModel" "now" "[I", .methodLink RX6 49 yX6_has, .static yX6_has, .code yX6_has cX6_has 2 (some .boolean), .methodLink RX6 76 yX6_valueOf, .instanceMethod yX6_valueOf, .selects RX6 yX6_valueOf yX6_valueOf, .code yX6_valueOf cX6_valueOf 3 (some .int)] ++ wsX60)
def wsX6_setDefault_r1 : List Cond := [Cond.fieldLink RX6 7 "PushedTablesModel" "now" "[I", Cond.methodLink RX6 72 yX6_isRow, Cond.instanceMethod yX6_isRow, Cond.selects RX6 yX6_isRow yX6_isRow, Cond.initialized RX6, Cond.code yX6_isRow cX6_isRow 2 (some .boolean), Cond.methodLink RX6 28 yX6_in, Cond.static yX6_in, Cond.code yX6_in cX6_in 3 (some .boolean), Cond.methodLink RX6 65 yX6_remember, Cond.instanceMethod yX6_remember, Cond.selects RX6 yX6_remember yX6_remember, Cond.code yX6_remember cX6_remember 1 none, Cond.methodLink RX6 39 yX6_copy, Cond.instanceMethod yX6_copy, Cond.selects RX6 yX6_copy yX6_copy, Cond.code yX6_copy cX6_copy 2 none, Cond.fieldLink RX6 13 "PushedTablesModel" "before" "[I", Cond.methodLink RX6 42 yX6_record, Cond.instanceMethod yX6_record, Cond.selects RX6 yX6_record yX6_record, Cond.code yX6_record cX6_record 2 none, Cond.fieldLink RX6 16 "PushedTablesModel" "states" "[I", Cond.fieldLink RX6 32 "PushedTablesModel" "stateAt" "I"]
def wsX6_setDefault_r2 : List Cond := [Cond.fieldLink RX6 36 "PushedTablesModel" "stateMany" "I", Cond.methodLink RX6 93 yX6_entriesBy, Cond.instanceMethod yX6_entriesBy, Cond.selects RX6 yX6_entriesBy yX6_entriesBy, Cond.code yX6_entriesBy cX6_entriesBy 6 (some .int), Cond.methodLink RX6 45 yX6_entries, Cond.instanceMethod yX6_entries, Cond.selects RX6 yX6_entries yX6_entries, Cond.code yX6_entries cX6_entries 2 (some .int), Cond.methodLink RX6 49 yX6_has, Cond.static yX6_has, Cond.code yX6_has cX6_has 2 (some .boolean), Cond.methodLink RX6 76 yX6_valueOf, Cond.instanceMethod yX6_valueOf, Cond.selects RX6 yX6_valueOf yX6_valueOf, Cond.code yX6_valueOf cX6_valueOf 3 (some .int), Cond.methodLink RX6 80 yX6_leavesFor, Cond.instanceMethod yX6_leavesFor, Cond.selects RX6 yX6_leavesFor yX6_leavesFor, Cond.code yX6_leavesFor cX6_leavesFor 3 none, Cond.methodLink RX6 87 yX6_leaves, Cond.instanceMethod yX6_leaves, Cond.selects RX6 yX6_leaves yX6_leaves, Cond.code yX6_leaves cX6_leaves 3 none]
def wsX6_setDefault_r3 : List Cond := [Cond.methodLink RX6 62 yX6_sharers, Cond.instanceMethod yX6_sharers, Cond.selects RX6 yX6_sharers yX6_sharers, Cond.code yX6_sharers cX6_sharers 4 (some .int), Cond.methodLink RX6 84 yX6_formsFor, Cond.instanceMethod yX6_formsFor, Cond.selects RX6 yX6_formsFor yX6_formsFor, Cond.code yX6_formsFor cX6_formsFor 3 none, Cond.methodLink RX6 90 yX6_forms, Cond.instanceMethod yX6_forms, Cond.selects RX6 yX6_forms yX6_forms, Cond.code yX6_forms cX6_forms 5 none, Cond.methodLink RX6 53 yX6_areAlike, Cond.instanceMethod yX6_areAlike, Cond.selects RX6 yX6_areAlike yX6_areAlike, Cond.code yX6_areAlike cX6_areAlike 5 (some .boolean), Cond.methodLink RX6 56 yX6_layStore, Cond.instanceMethod yX6_layStore, Cond.selects RX6 yX6_layStore yX6_layStore, Cond.code yX6_layStore cX6_layStore 4 none, Cond.fieldLink RX6 19 "PushedTablesModel" "marks" "[I", Cond.fieldLink RX6 22 "PushedTablesModel" "values" "[I", Cond.methodLink RX6 59 yX6_fits, Cond.instanceMethod yX6_fits]
def wsX6_setDefault_r4 : List Cond := [Cond.selects RX6 yX6_fits yX6_fits, Cond.code yX6_fits cX6_fits 5 (some .int), Cond.methodLink RX6 97 yX6_bits, Cond.static yX6_bits, Cond.code yX6_bits cX6_bits 3 (some .int)]
def wsX6_setDefault : List Cond := .code yX6_setDefault cX6_setDefault 5 (some .int) :: ((wsX6_setDefault_r1 ++ (wsX6_setDefault_r2 ++ (wsX6_setDefault_r3 ++ wsX6_setDefault_r4))) ++ wsX60)
def wsX6_removeLast_r1 : List Cond := [Cond.fieldLink RX6 7 "PushedTablesModel" "now" "[I", Cond.methodLink RX6 65 yX6_remember, Cond.instanceMethod yX6_remember, Cond.selects RX6 yX6_remember yX6_remember, Cond.initialized RX6, Cond.code yX6_remember cX6_remember 1 none, Cond.methodLink RX6 39 yX6_copy, Cond.instanceMethod yX6_copy, Cond.selects RX6 yX6_copy yX6_copy, Cond.code yX6_copy cX6_copy 2 none, Cond.fieldLink RX6 13 "PushedTablesModel" "before" "[I", Cond.methodLink RX6 42 yX6_record, Cond.instanceMethod yX6_record, Cond.selects RX6 yX6_record yX6_record, Cond.code yX6_record cX6_record 2 none, Cond.fieldLink RX6 16 "PushedTablesModel" "states" "[I", Cond.fieldLink RX6 32 "PushedTablesModel" "stateAt" "I", Cond.fieldLink RX6 36 "PushedTablesModel" "stateMany" "I", Cond.methodLink RX6 87 yX6_leaves, Cond.instanceMethod yX6_leaves, Cond.selects RX6 yX6_leaves yX6_leaves, Cond.code yX6_leaves cX6_leaves 3 none, Cond.methodLink RX6 62 yX6_sharers, Cond.instanceMethod yX6_sharers]
def wsX6_removeLast_r2 : List Cond := [Cond.selects RX6 yX6_sharers yX6_sharers, Cond.code yX6_sharers cX6_sharers 4 (some .int)]
def wsX6_removeLast : List Cond := .code yX6_removeLast cX6_removeLast 1 (some .int) :: ((wsX6_removeLast_r1 ++ wsX6_removeLast_r2) ++ wsX60)
def wsX6_most : List Cond := .code yX6_most cX6_most 7 (some .int) :: ([.methodLink RX6 76 yX6_valueOf, .instanceMethod yX6_valueOf, .selects RX6 yX6_valueOf yX6_valueOf, .initialized RX6, .code yX6_valueOf cX6_valueOf 3 (some .int), .fieldLink RX6 7 "PushedTablesModel" "now" "[I", .methodLink RX6 45 yX6_entries, .instanceMethod yX6_entries, .selects RX6 yX6_entries yX6_entries, .code yX6_entries cX6_entries 2 (some .int), .methodLink RX6 49 yX6_has, .static yX6_has, .code yX6_has cX6_has 2 (some .boolean)] ++ wsX60)
def wsX6_slim_r1 : List Cond := [Cond.fieldLink RX6 7 "PushedTablesModel" "now" "[I", Cond.methodLink RX6 72 yX6_isRow, Cond.instanceMethod yX6_isRow, Cond.selects RX6 yX6_isRow yX6_isRow, Cond.initialized RX6, Cond.code yX6_isRow cX6_isRow 2 (some .boolean), Cond.methodLink RX6 28 yX6_in, Cond.static yX6_in, Cond.code yX6_in cX6_in 3 (some .boolean), Cond.methodLink RX6 65 yX6_remember, Cond.instanceMethod yX6_remember, Cond.selects RX6 yX6_remember yX6_remember, Cond.code yX6_remember cX6_remember 1 none, Cond.methodLink RX6 39 yX6_copy, Cond.instanceMethod yX6_copy, Cond.selects RX6 yX6_copy yX6_copy, Cond.code yX6_copy cX6_copy 2 none, Cond.fieldLink RX6 13 "PushedTablesModel" "before" "[I", Cond.methodLink RX6 42 yX6_record, Cond.instanceMethod yX6_record, Cond.selects RX6 yX6_record yX6_record, Cond.code yX6_record cX6_record 2 none, Cond.fieldLink RX6 16 "PushedTablesModel" "states" "[I", Cond.fieldLink RX6 32 "PushedTablesModel" "stateAt" "I"]
def wsX6_slim_r2 : List Cond := [Cond.fieldLink RX6 36 "PushedTablesModel" "stateMany" "I", Cond.methodLink RX6 100 yX6_most, Cond.instanceMethod yX6_most, Cond.selects RX6 yX6_most yX6_most, Cond.code yX6_most cX6_most 7 (some .int), Cond.methodLink RX6 76 yX6_valueOf, Cond.instanceMethod yX6_valueOf, Cond.selects RX6 yX6_valueOf yX6_valueOf, Cond.code yX6_valueOf cX6_valueOf 3 (some .int), Cond.methodLink RX6 45 yX6_entries, Cond.instanceMethod yX6_entries, Cond.selects RX6 yX6_entries yX6_entries, Cond.code yX6_entries cX6_entries 2 (some .int), Cond.methodLink RX6 49 yX6_has, Cond.static yX6_has, Cond.code yX6_has cX6_has 2 (some .boolean), Cond.methodLink RX6 93 yX6_entriesBy, Cond.instanceMethod yX6_entriesBy, Cond.selects RX6 yX6_entriesBy yX6_entriesBy, Cond.code yX6_entriesBy cX6_entriesBy 6 (some .int), Cond.methodLink RX6 80 yX6_leavesFor, Cond.instanceMethod yX6_leavesFor, Cond.selects RX6 yX6_leavesFor yX6_leavesFor, Cond.code yX6_leavesFor cX6_leavesFor 3 none]
def wsX6_slim_r3 : List Cond := [Cond.methodLink RX6 87 yX6_leaves, Cond.instanceMethod yX6_leaves, Cond.selects RX6 yX6_leaves yX6_leaves, Cond.code yX6_leaves cX6_leaves 3 none, Cond.methodLink RX6 62 yX6_sharers, Cond.instanceMethod yX6_sharers, Cond.selects RX6 yX6_sharers yX6_sharers, Cond.code yX6_sharers cX6_sharers 4 (some .int), Cond.methodLink RX6 84 yX6_formsFor, Cond.instanceMethod yX6_formsFor, Cond.selects RX6 yX6_formsFor yX6_formsFor, Cond.code yX6_formsFor cX6_formsFor 3 none, Cond.methodLink RX6 90 yX6_forms, Cond.instanceMethod yX6_forms, Cond.selects RX6 yX6_forms yX6_forms, Cond.code yX6_forms cX6_forms 5 none, Cond.methodLink RX6 53 yX6_areAlike, Cond.instanceMethod yX6_areAlike, Cond.selects RX6 yX6_areAlike yX6_areAlike, Cond.code yX6_areAlike cX6_areAlike 5 (some .boolean), Cond.methodLink RX6 56 yX6_layStore, Cond.instanceMethod yX6_layStore, Cond.selects RX6 yX6_layStore yX6_layStore, Cond.code yX6_layStore cX6_layStore 4 none]
def wsX6_slim_r4 : List Cond := [Cond.fieldLink RX6 19 "PushedTablesModel" "marks" "[I", Cond.fieldLink RX6 22 "PushedTablesModel" "values" "[I", Cond.methodLink RX6 59 yX6_fits, Cond.instanceMethod yX6_fits, Cond.selects RX6 yX6_fits yX6_fits, Cond.code yX6_fits cX6_fits 5 (some .int)]
def wsX6_slim : List Cond := .code yX6_slim cX6_slim 6 (some .int) :: ((wsX6_slim_r1 ++ (wsX6_slim_r2 ++ (wsX6_slim_r3 ++ wsX6_slim_r4))) ++ wsX60)
def wsX6_pushes_r1 : List Cond := [Cond.fieldLink RX6 7 "PushedTablesModel" "now" "[I", Cond.methodLink RX6 45 yX6_entries, Cond.instanceMethod yX6_entries, Cond.selects RX6 yX6_entries yX6_entries, Cond.initialized RX6, Cond.code yX6_entries cX6_entries 2 (some .int), Cond.methodLink RX6 97 yX6_bits, Cond.static yX6_bits, Cond.code yX6_bits cX6_bits 3 (some .int), Cond.methodLink RX6 90 yX6_forms, Cond.instanceMethod yX6_forms, Cond.selects RX6 yX6_forms yX6_forms, Cond.code yX6_forms cX6_forms 5 none, Cond.methodLink RX6 53 yX6_areAlike, Cond.instanceMethod yX6_areAlike, Cond.selects RX6 yX6_areAlike yX6_areAlike, Cond.code yX6_areAlike cX6_areAlike 5 (some .boolean), Cond.methodLink RX6 49 yX6_has, Cond.static yX6_has, Cond.code yX6_has cX6_has 2 (some .boolean), Cond.methodLink RX6 56 yX6_layStore, Cond.instanceMethod yX6_layStore, Cond.selects RX6 yX6_layStore yX6_layStore, Cond.code yX6_layStore cX6_layStore 4 none]
def wsX6_pushes_r2 : List Cond := [Cond.fieldLink RX6 19 "PushedTablesModel" "marks" "[I", Cond.fieldLink RX6 22 "PushedTablesModel" "values" "[I", Cond.methodLink RX6 59 yX6_fits, Cond.instanceMethod yX6_fits, Cond.selects RX6 yX6_fits yX6_fits, Cond.code yX6_fits cX6_fits 5 (some .int)]
def wsX6_pushes : List Cond := .code yX6_pushes cX6_pushes 4 none :: ((wsX6_pushes_r1 ++ wsX6_pushes_r2) ++ wsX60)
def wsX6_end : List Cond := .code yX6_end cX6_end 3 (some .int) :: ([.fieldLink RX6 19 "PushedTablesModel" "marks" "[I", .methodLink RX6 56 yX6_layStore, .instanceMethod yX6_layStore, .selects RX6 yX6_layStore yX6_layStore, .initialized RX6, .code yX6_layStore cX6_layStore 4 none, .fieldLink RX6 7 "PushedTablesModel" "now" "[I", .fieldLink RX6 22 "PushedTablesModel" "values" "[I", .methodLink RX6 45 yX6_entries, .instanceMethod yX6_entries, .selects RX6 yX6_entries yX6_entries, .code yX6_entries cX6_entries 2 (some .int), .methodLink RX6 49 yX6_has, .static yX6_has, .code yX6_has cX6_has 2 (some .boolean)] ++ wsX60)
def wsX6_push_r1 : List Cond := [Cond.methodLink RX6 65 yX6_remember, Cond.instanceMethod yX6_remember, Cond.selects RX6 yX6_remember yX6_remember, Cond.initialized RX6, Cond.code yX6_remember cX6_remember 1 none, Cond.methodLink RX6 39 yX6_copy, Cond.instanceMethod yX6_copy, Cond.selects RX6 yX6_copy yX6_copy, Cond.code yX6_copy cX6_copy 2 none, Cond.fieldLink RX6 13 "PushedTablesModel" "before" "[I", Cond.fieldLink RX6 7 "PushedTablesModel" "now" "[I", Cond.methodLink RX6 42 yX6_record, Cond.instanceMethod yX6_record, Cond.selects RX6 yX6_record yX6_record, Cond.code yX6_record cX6_record 2 none, Cond.fieldLink RX6 16 "PushedTablesModel" "states" "[I", Cond.fieldLink RX6 32 "PushedTablesModel" "stateAt" "I", Cond.fieldLink RX6 36 "PushedTablesModel" "stateMany" "I", Cond.methodLink RX6 103 yX6_pushes, Cond.instanceMethod yX6_pushes, Cond.selects RX6 yX6_pushes yX6_pushes, Cond.code yX6_pushes cX6_pushes 4 none, Cond.methodLink RX6 45 yX6_entries, Cond.instanceMethod yX6_entries]
def wsX6_push_r2 : List Cond := [Cond.selects RX6 yX6_entries yX6_entries, Cond.code yX6_entries cX6_entries 2 (some .int), Cond.methodLink RX6 97 yX6_bits, Cond.static yX6_bits, Cond.code yX6_bits cX6_bits 3 (some .int), Cond.methodLink RX6 90 yX6_forms, Cond.instanceMethod yX6_forms, Cond.selects RX6 yX6_forms yX6_forms, Cond.code yX6_forms cX6_forms 5 none, Cond.methodLink RX6 53 yX6_areAlike, Cond.instanceMethod yX6_areAlike, Cond.selects RX6 yX6_areAlike yX6_areAlike, Cond.code yX6_areAlike cX6_areAlike 5 (some .boolean), Cond.methodLink RX6 49 yX6_has, Cond.static yX6_has, Cond.code yX6_has cX6_has 2 (some .boolean), Cond.methodLink RX6 56 yX6_layStore, Cond.instanceMethod yX6_layStore, Cond.selects RX6 yX6_layStore yX6_layStore, Cond.code yX6_layStore cX6_layStore 4 none, Cond.fieldLink RX6 19 "PushedTablesModel" "marks" "[I", Cond.fieldLink RX6 22 "PushedTablesModel" "values" "[I", Cond.methodLink RX6 59 yX6_fits, Cond.instanceMethod yX6_fits]
def wsX6_push_r3 : List Cond := [Cond.selects RX6 yX6_fits yX6_fits, Cond.code yX6_fits cX6_fits 5 (some .int), Cond.methodLink RX6 107 yX6_end, Cond.instanceMethod yX6_end, Cond.selects RX6 yX6_end yX6_end, Cond.code yX6_end cX6_end 3 (some .int)]
def wsX6_push : List Cond := .code yX6_push cX6_push 1 (some .int) :: ((wsX6_push_r1 ++ (wsX6_push_r2 ++ wsX6_push_r3)) ++ wsX60)
def wsX6_append : List Cond := .code yX6_append cX6_append 2 (some .int) :: ([.fieldLink RX6 111 "PushedTablesModel" "letters" "I", .fieldLink RX6 25 "PushedTablesModel" "text" "[I", .methodLink RX6 28 yX6_in, .static yX6_in, .initialized RX6, .code yX6_in cX6_in 3 (some .boolean)] ++ wsX60)
def wsX6_clearText : List Cond := .code yX6_clearText cX6_clearText 2 (some .int) :: ([.fieldLink RX6 111 "PushedTablesModel" "letters" "I"] ++ wsX60)
def wsX6_here : List Cond := .code yX6_here cX6_here 1 (some .int) :: ([.fieldLink RX6 114 "PushedTablesModel" "readAt" "I", .fieldLink RX6 111 "PushedTablesModel" "letters" "I", .fieldLink RX6 25 "PushedTablesModel" "text" "[I"] ++ wsX60)
def wsX6_isDigit : List Cond := .code yX6_isDigit cX6_isDigit 2 (some .boolean) :: ([.fieldLink RX6 111 "PushedTablesModel" "letters" "I", .fieldLink RX6 25 "PushedTablesModel" "text" "[I", .methodLink RX6 28 yX6_in, .static yX6_in, .initialized RX6, .code yX6_in cX6_in 3 (some .boolean)] ++ wsX60)
def wsX6_fails : List Cond := .code yX6_fails cX6_fails 2 (some .int) :: ([.fieldLink RX6 117 "PushedTablesModel" "failure" "I"] ++ wsX60)
def wsX6_number : List Cond := .code yX6_number cX6_number 2 (some .int) :: ([.fieldLink RX6 114 "PushedTablesModel" "readAt" "I", .fieldLink RX6 25 "PushedTablesModel" "text" "[I", .methodLink RX6 120 yX6_here, .instanceMethod yX6_here, .selects RX6 yX6_here yX6_here, .initialized RX6, .code yX6_here cX6_here 1 (some .int), .fieldLink RX6 111 "PushedTablesModel" "letters" "I", .methodLink RX6 123 yX6_isDigit, .instanceMethod yX6_isDigit, .selects RX6 yX6_isDigit yX6_isDigit, .code yX6_isDigit cX6_isDigit 2 (some .boolean), .methodLink RX6 28 yX6_in, .static yX6_in, .code yX6_in cX6_in 3 (some .boolean), .methodLink RX6 126 yX6_fails, .instanceMethod yX6_fails, .selects RX6 yX6_fails yX6_fails, .code yX6_fails cX6_fails 2 (some .int), .fieldLink RX6 117 "PushedTablesModel" "failure" "I"] ++ wsX60)
def wsX6_sign : List Cond := .code yX6_sign cX6_sign 2 (some .boolean) :: ([.fieldLink RX6 114 "PushedTablesModel" "readAt" "I", .methodLink RX6 120 yX6_here, .instanceMethod yX6_here, .selects RX6 yX6_here yX6_here, .initialized RX6, .code yX6_here cX6_here 1 (some .int), .fieldLink RX6 111 "PushedTablesModel" "letters" "I", .fieldLink RX6 25 "PushedTablesModel" "text" "[I", .methodLink RX6 126 yX6_fails, .instanceMethod yX6_fails, .selects RX6 yX6_fails yX6_fails, .code yX6_fails cX6_fails 2 (some .int), .fieldLink RX6 117 "PushedTablesModel" "failure" "I"] ++ wsX60)
def wsX6_entry_r1 : List Cond := [Cond.fieldLink RX6 114 "PushedTablesModel" "readAt" "I", Cond.fieldLink RX6 7 "PushedTablesModel" "now" "[I", Cond.methodLink RX6 120 yX6_here, Cond.instanceMethod yX6_here, Cond.selects RX6 yX6_here yX6_here, Cond.initialized RX6, Cond.code yX6_here cX6_here 1 (some .int), Cond.fieldLink RX6 111 "PushedTablesModel" "letters" "I", Cond.fieldLink RX6 25 "PushedTablesModel" "text" "[I", Cond.methodLink RX6 129 yX6_number, Cond.instanceMethod yX6_number, Cond.selects RX6 yX6_number yX6_number, Cond.code yX6_number cX6_number 2 (some .int), Cond.methodLink RX6 123 yX6_isDigit, Cond.instanceMethod yX6_isDigit, Cond.selects RX6 yX6_isDigit yX6_isDigit, Cond.code yX6_isDigit cX6_isDigit 2 (some .boolean), Cond.methodLink RX6 28 yX6_in, Cond.static yX6_in, Cond.code yX6_in cX6_in 3 (some .boolean), Cond.methodLink RX6 126 yX6_fails, Cond.instanceMethod yX6_fails, Cond.selects RX6 yX6_fails yX6_fails, Cond.code yX6_fails cX6_fails 2 (some .int)]
def wsX6_entry_r2 : List Cond := [Cond.fieldLink RX6 117 "PushedTablesModel" "failure" "I", Cond.methodLink RX6 132 yX6_sign, Cond.instanceMethod yX6_sign, Cond.selects RX6 yX6_sign yX6_sign, Cond.code yX6_sign cX6_sign 2 (some .boolean)]
def wsX6_entry : List Cond := .code yX6_entry cX6_entry 6 (some .int) :: ((wsX6_entry_r1 ++ wsX6_entry_r2) ++ wsX60)
def wsX6_rowRead_r1 : List Cond := [Cond.fieldLink RX6 7 "PushedTablesModel" "now" "[I", Cond.fieldLink RX6 114 "PushedTablesModel" "readAt" "I", Cond.methodLink RX6 126 yX6_fails, Cond.instanceMethod yX6_fails, Cond.selects RX6 yX6_fails yX6_fails, Cond.initialized RX6, Cond.code yX6_fails cX6_fails 2 (some .int), Cond.fieldLink RX6 117 "PushedTablesModel" "failure" "I", Cond.methodLink RX6 123 yX6_isDigit, Cond.instanceMethod yX6_isDigit, Cond.selects RX6 yX6_isDigit yX6_isDigit, Cond.code yX6_isDigit cX6_isDigit 2 (some .boolean), Cond.fieldLink RX6 111 "PushedTablesModel" "letters" "I", Cond.fieldLink RX6 25 "PushedTablesModel" "text" "[I", Cond.methodLink RX6 28 yX6_in, Cond.static yX6_in, Cond.code yX6_in cX6_in 3 (some .boolean), Cond.methodLink RX6 129 yX6_number, Cond.instanceMethod yX6_number, Cond.selects RX6 yX6_number yX6_number, Cond.code yX6_number cX6_number 2 (some .int), Cond.methodLink RX6 120 yX6_here, Cond.instanceMethod yX6_here, Cond.selects RX6 yX6_here yX6_here]
def wsX6_rowRead_r2 : List Cond := [Cond.code yX6_here cX6_here 1 (some .int), Cond.methodLink RX6 132 yX6_sign, Cond.instanceMethod yX6_sign, Cond.selects RX6 yX6_sign yX6_sign, Cond.code yX6_sign cX6_sign 2 (some .boolean), Cond.methodLink RX6 68 yX6_adds, Cond.instanceMethod yX6_adds, Cond.selects RX6 yX6_adds yX6_adds, Cond.code yX6_adds cX6_adds 3 none, Cond.methodLink RX6 135 yX6_entry, Cond.instanceMethod yX6_entry, Cond.selects RX6 yX6_entry yX6_entry, Cond.code yX6_entry cX6_entry 6 (some .int), Cond.methodLink RX6 90 yX6_forms, Cond.instanceMethod yX6_forms, Cond.selects RX6 yX6_forms yX6_forms, Cond.code yX6_forms cX6_forms 5 none, Cond.methodLink RX6 53 yX6_areAlike, Cond.instanceMethod yX6_areAlike, Cond.selects RX6 yX6_areAlike yX6_areAlike, Cond.code yX6_areAlike cX6_areAlike 5 (some .boolean), Cond.methodLink RX6 45 yX6_entries, Cond.instanceMethod yX6_entries, Cond.selects RX6 yX6_entries yX6_entries]
def wsX6_rowRead_r3 : List Cond := [Cond.code yX6_entries cX6_entries 2 (some .int), Cond.methodLink RX6 49 yX6_has, Cond.static yX6_has, Cond.code yX6_has cX6_has 2 (some .boolean), Cond.methodLink RX6 56 yX6_layStore, Cond.instanceMethod yX6_layStore, Cond.selects RX6 yX6_layStore yX6_layStore, Cond.code yX6_layStore cX6_layStore 4 none, Cond.fieldLink RX6 19 "PushedTablesModel" "marks" "[I", Cond.fieldLink RX6 22 "PushedTablesModel" "values" "[I", Cond.methodLink RX6 59 yX6_fits, Cond.instanceMethod yX6_fits, Cond.selects RX6 yX6_fits yX6_fits, Cond.code yX6_fits cX6_fits 5 (some .int)]
def wsX6_rowRead : List Cond := .code yX6_rowRead cX6_rowRead 5 (some .boolean) :: ((wsX6_rowRead_r1 ++ (wsX6_rowRead_r2 ++ wsX6_rowRead_r3)) ++ wsX60)
def wsX6_read_r1 : List Cond := [Cond.fieldLink RX6 114 "PushedTablesModel" "readAt" "I", Cond.fieldLink RX6 117 "PushedTablesModel" "failure" "I", Cond.fieldLink RX6 111 "PushedTablesModel" "letters" "I", Cond.methodLink RX6 39 yX6_copy, Cond.instanceMethod yX6_copy, Cond.selects RX6 yX6_copy yX6_copy, Cond.initialized RX6, Cond.code yX6_copy cX6_copy 2 none, Cond.fieldLink RX6 13 "PushedTablesModel" "before" "[I", Cond.fieldLink RX6 7 "PushedTablesModel" "now" "[I", Cond.methodLink RX6 120 yX6_here, Cond.instanceMethod yX6_here, Cond.selects RX6 yX6_here yX6_here, Cond.code yX6_here cX6_here 1 (some .int), Cond.fieldLink RX6 25 "PushedTablesModel" "text" "[I", Cond.methodLink RX6 138 yX6_rowRead, Cond.instanceMethod yX6_rowRead, Cond.selects RX6 yX6_rowRead yX6_rowRead, Cond.code yX6_rowRead cX6_rowRead 5 (some .boolean), Cond.methodLink RX6 126 yX6_fails, Cond.instanceMethod yX6_fails, Cond.selects RX6 yX6_fails yX6_fails, Cond.code yX6_fails cX6_fails 2 (some .int), Cond.methodLink RX6 123 yX6_isDigit]
def wsX6_read_r2 : List Cond := [Cond.instanceMethod yX6_isDigit, Cond.selects RX6 yX6_isDigit yX6_isDigit, Cond.code yX6_isDigit cX6_isDigit 2 (some .boolean), Cond.methodLink RX6 28 yX6_in, Cond.static yX6_in, Cond.code yX6_in cX6_in 3 (some .boolean), Cond.methodLink RX6 129 yX6_number, Cond.instanceMethod yX6_number, Cond.selects RX6 yX6_number yX6_number, Cond.code yX6_number cX6_number 2 (some .int), Cond.methodLink RX6 132 yX6_sign, Cond.instanceMethod yX6_sign, Cond.selects RX6 yX6_sign yX6_sign, Cond.code yX6_sign cX6_sign 2 (some .boolean), Cond.methodLink RX6 68 yX6_adds, Cond.instanceMethod yX6_adds, Cond.selects RX6 yX6_adds yX6_adds, Cond.code yX6_adds cX6_adds 3 none, Cond.methodLink RX6 135 yX6_entry, Cond.instanceMethod yX6_entry, Cond.selects RX6 yX6_entry yX6_entry, Cond.code yX6_entry cX6_entry 6 (some .int), Cond.methodLink RX6 90 yX6_forms, Cond.instanceMethod yX6_forms]
def wsX6_read_r3 : List Cond := [Cond.selects RX6 yX6_forms yX6_forms, Cond.code yX6_forms cX6_forms 5 none, Cond.methodLink RX6 53 yX6_areAlike, Cond.instanceMethod yX6_areAlike, Cond.selects RX6 yX6_areAlike yX6_areAlike, Cond.code yX6_areAlike cX6_areAlike 5 (some .boolean), Cond.methodLink RX6 45 yX6_entries, Cond.instanceMethod yX6_entries, Cond.selects RX6 yX6_entries yX6_entries, Cond.code yX6_entries cX6_entries 2 (some .int), Cond.methodLink RX6 49 yX6_has, Cond.static yX6_has, Cond.code yX6_has cX6_has 2 (some .boolean), Cond.methodLink RX6 56 yX6_layStore, Cond.instanceMethod yX6_layStore, Cond.selects RX6 yX6_layStore yX6_layStore, Cond.code yX6_layStore cX6_layStore 4 none, Cond.fieldLink RX6 19 "PushedTablesModel" "marks" "[I", Cond.fieldLink RX6 22 "PushedTablesModel" "values" "[I", Cond.methodLink RX6 59 yX6_fits, Cond.instanceMethod yX6_fits, Cond.selects RX6 yX6_fits yX6_fits, Cond.code yX6_fits cX6_fits 5 (some .int), Cond.methodLink RX6 142 yX6_back]
def wsX6_read_r4 : List Cond := [Cond.instanceMethod yX6_back, Cond.selects RX6 yX6_back yX6_back, Cond.code yX6_back cX6_back 2 none, Cond.methodLink RX6 42 yX6_record, Cond.instanceMethod yX6_record, Cond.selects RX6 yX6_record yX6_record, Cond.code yX6_record cX6_record 2 none, Cond.fieldLink RX6 16 "PushedTablesModel" "states" "[I", Cond.fieldLink RX6 32 "PushedTablesModel" "stateAt" "I", Cond.fieldLink RX6 36 "PushedTablesModel" "stateMany" "I"]
def wsX6_read : List Cond := .code yX6_read cX6_read 2 (some .int) :: ((wsX6_read_r1 ++ (wsX6_read_r2 ++ (wsX6_read_r3 ++ wsX6_read_r4))) ++ wsX60)
def wsX6_get : List Cond := .code yX6_get cX6_get 3 (some .int) :: ([.methodLink RX6 72 yX6_isRow, .instanceMethod yX6_isRow, .selects RX6 yX6_isRow yX6_isRow, .initialized RX6, .code yX6_isRow cX6_isRow 2 (some .boolean), .fieldLink RX6 7 "PushedTablesModel" "now" "[I", .methodLink RX6 28 yX6_in, .static yX6_in, .code yX6_in cX6_in 3 (some .boolean), .methodLink RX6 76 yX6_valueOf, .instanceMethod yX6_valueOf, .selects RX6 yX6_valueOf yX6_valueOf, .code yX6_valueOf cX6_valueOf 3 (some .int), .methodLink RX6 45 yX6_entries, .instanceMethod yX6_entries, .selects RX6 yX6_entries yX6_entries, .code yX6_entries cX6_entries 2 (some .int), .methodLink RX6 49 yX6_has, .static yX6_has, .code yX6_has cX6_has 2 (some .boolean)] ++ wsX60)
def wsX6_formMany : List Cond := .code yX6_formMany cX6_formMany 3 (some .int) :: ([.fieldLink RX6 7 "PushedTablesModel" "now" "[I"] ++ wsX60)
def wsX6_full : List Cond := .code yX6_full cX6_full 3 (some .int) :: ([.fieldLink RX6 19 "PushedTablesModel" "marks" "[I", .methodLink RX6 56 yX6_layStore, .instanceMethod yX6_layStore, .selects RX6 yX6_layStore yX6_layStore, .initialized RX6, .code yX6_layStore cX6_layStore 4 none, .fieldLink RX6 7 "PushedTablesModel" "now" "[I", .fieldLink RX6 22 "PushedTablesModel" "values" "[I", .methodLink RX6 45 yX6_entries, .instanceMethod yX6_entries, .selects RX6 yX6_entries yX6_entries, .code yX6_entries cX6_entries 2 (some .int), .methodLink RX6 49 yX6_has, .static yX6_has, .code yX6_has cX6_has 2 (some .boolean)] ++ wsX60)
def wsX6_strangers : List Cond := .code yX6_strangers cX6_strangers 6 (some .int) :: ([.fieldLink RX6 7 "PushedTablesModel" "now" "[I", .fieldLink RX6 19 "PushedTablesModel" "marks" "[I", .methodLink RX6 56 yX6_layStore, .instanceMethod yX6_layStore, .selects RX6 yX6_layStore yX6_layStore, .initialized RX6, .code yX6_layStore cX6_layStore 4 none, .fieldLink RX6 22 "PushedTablesModel" "values" "[I", .methodLink RX6 45 yX6_entries, .instanceMethod yX6_entries, .selects RX6 yX6_entries yX6_entries, .code yX6_entries cX6_entries 2 (some .int), .methodLink RX6 49 yX6_has, .static yX6_has, .code yX6_has cX6_has 2 (some .boolean)] ++ wsX60)
def wsX6_count_r1 : List Cond := [Cond.fieldLink RX6 7 "PushedTablesModel" "now" "[I", Cond.fieldLink RX6 36 "PushedTablesModel" "stateMany" "I", Cond.fieldLink RX6 111 "PushedTablesModel" "letters" "I", Cond.methodLink RX6 145 yX6_formMany, Cond.instanceMethod yX6_formMany, Cond.selects RX6 yX6_formMany yX6_formMany, Cond.initialized RX6, Cond.code yX6_formMany cX6_formMany 3 (some .int), Cond.methodLink RX6 45 yX6_entries, Cond.instanceMethod yX6_entries, Cond.selects RX6 yX6_entries yX6_entries, Cond.code yX6_entries cX6_entries 2 (some .int), Cond.methodLink RX6 97 yX6_bits, Cond.static yX6_bits, Cond.code yX6_bits cX6_bits 3 (some .int), Cond.methodLink RX6 148 yX6_full, Cond.instanceMethod yX6_full, Cond.selects RX6 yX6_full yX6_full, Cond.code yX6_full cX6_full 3 (some .int), Cond.fieldLink RX6 19 "PushedTablesModel" "marks" "[I", Cond.methodLink RX6 56 yX6_layStore, Cond.instanceMethod yX6_layStore, Cond.selects RX6 yX6_layStore yX6_layStore, Cond.code yX6_layStore cX6_layStore 4 none]
def wsX6_count_r2 : List Cond := [Cond.fieldLink RX6 22 "PushedTablesModel" "values" "[I", Cond.methodLink RX6 49 yX6_has, Cond.static yX6_has, Cond.code yX6_has cX6_has 2 (some .boolean), Cond.methodLink RX6 107 yX6_end, Cond.instanceMethod yX6_end, Cond.selects RX6 yX6_end yX6_end, Cond.code yX6_end cX6_end 3 (some .int), Cond.methodLink RX6 151 yX6_strangers, Cond.instanceMethod yX6_strangers, Cond.selects RX6 yX6_strangers yX6_strangers, Cond.code yX6_strangers cX6_strangers 6 (some .int)]
def wsX6_count : List Cond := .code yX6_count cX6_count 4 (some .int) :: ((wsX6_count_r1 ++ wsX6_count_r2) ++ wsX60)
def wsX6_row : List Cond := .code yX6_row cX6_row 4 (some .int) :: ([.fieldLink RX6 7 "PushedTablesModel" "now" "[I", .methodLink RX6 72 yX6_isRow, .instanceMethod yX6_isRow, .selects RX6 yX6_isRow yX6_isRow, .initialized RX6, .code yX6_isRow cX6_isRow 2 (some .boolean), .methodLink RX6 28 yX6_in, .static yX6_in, .code yX6_in cX6_in 3 (some .boolean), .methodLink RX6 45 yX6_entries, .instanceMethod yX6_entries, .selects RX6 yX6_entries yX6_entries, .code yX6_entries cX6_entries 2 (some .int), .methodLink RX6 97 yX6_bits, .static yX6_bits, .code yX6_bits cX6_bits 3 (some .int)] ++ wsX60)
def wsX6_form : List Cond := .code yX6_form cX6_form 5 (some .int) :: ([.fieldLink RX6 7 "PushedTablesModel" "now" "[I", .methodLink RX6 28 yX6_in, .static yX6_in, .initialized RX6, .code yX6_in cX6_in 3 (some .boolean), .methodLink RX6 45 yX6_entries, .instanceMethod yX6_entries, .selects RX6 yX6_entries yX6_entries, .code yX6_entries cX6_entries 2 (some .int), .methodLink RX6 97 yX6_bits, .static yX6_bits, .code yX6_bits cX6_bits 3 (some .int), .methodLink RX6 62 yX6_sharers, .instanceMethod yX6_sharers, .selects RX6 yX6_sharers yX6_sharers, .code yX6_sharers cX6_sharers 4 (some .int)] ++ wsX60)
def wsX6_cell : List Cond := .code yX6_cell cX6_cell 3 (some .int) :: ([.fieldLink RX6 19 "PushedTablesModel" "marks" "[I", .fieldLink RX6 22 "PushedTablesModel" "values" "[I", .methodLink RX6 28 yX6_in, .static yX6_in, .initialized RX6, .code yX6_in cX6_in 3 (some .boolean), .methodLink RX6 56 yX6_layStore, .instanceMethod yX6_layStore, .selects RX6 yX6_layStore yX6_layStore, .code yX6_layStore cX6_layStore 4 none, .fieldLink RX6 7 "PushedTablesModel" "now" "[I", .methodLink RX6 45 yX6_entries, .instanceMethod yX6_entries, .selects RX6 yX6_entries yX6_entries, .code yX6_entries cX6_entries 2 (some .int), .methodLink RX6 49 yX6_has, .static yX6_has, .code yX6_has cX6_has 2 (some .boolean)] ++ wsX60)
def wsX6_fit : List Cond := .code yX6_fit cX6_fit 2 (some .int) :: ([.constant RX6 154 (65535), .methodLink RX6 28 yX6_in, .static yX6_in, .initialized RX6, .code yX6_in cX6_in 3 (some .boolean), .methodLink RX6 56 yX6_layStore, .instanceMethod yX6_layStore, .selects RX6 yX6_layStore yX6_layStore, .code yX6_layStore cX6_layStore 4 none, .fieldLink RX6 19 "PushedTablesModel" "marks" "[I", .fieldLink RX6 7 "PushedTablesModel" "now" "[I", .fieldLink RX6 22 "PushedTablesModel" "values" "[I", .methodLink RX6 45 yX6_entries, .instanceMethod yX6_entries, .selects RX6 yX6_entries yX6_entries, .code yX6_entries cX6_entries 2 (some .int), .methodLink RX6 49 yX6_has, .static yX6_has, .code yX6_has cX6_has 2 (some .boolean), .methodLink RX6 59 yX6_fits, .instanceMethod yX6_fits, .selects RX6 yX6_fits yX6_fits, .code yX6_fits cX6_fits 5 (some .int)] ++ wsX60)
def wsX6_endBy_r1 : List Cond := [Cond.methodLink RX6 28 yX6_in, Cond.static yX6_in, Cond.initialized RX6, Cond.code yX6_in cX6_in 3 (some .boolean), Cond.methodLink RX6 39 yX6_copy, Cond.instanceMethod yX6_copy, Cond.selects RX6 yX6_copy yX6_copy, Cond.code yX6_copy cX6_copy 2 none, Cond.fieldLink RX6 13 "PushedTablesModel" "before" "[I", Cond.fieldLink RX6 7 "PushedTablesModel" "now" "[I", Cond.methodLink RX6 103 yX6_pushes, Cond.instanceMethod yX6_pushes, Cond.selects RX6 yX6_pushes yX6_pushes, Cond.code yX6_pushes cX6_pushes 4 none, Cond.methodLink RX6 45 yX6_entries, Cond.instanceMethod yX6_entries, Cond.selects RX6 yX6_entries yX6_entries, Cond.code yX6_entries cX6_entries 2 (some .int), Cond.methodLink RX6 97 yX6_bits, Cond.static yX6_bits, Cond.code yX6_bits cX6_bits 3 (some .int), Cond.methodLink RX6 90 yX6_forms, Cond.instanceMethod yX6_forms, Cond.selects RX6 yX6_forms yX6_forms]
def wsX6_endBy_r2 : List Cond := [Cond.code yX6_forms cX6_forms 5 none, Cond.methodLink RX6 53 yX6_areAlike, Cond.instanceMethod yX6_areAlike, Cond.selects RX6 yX6_areAlike yX6_areAlike, Cond.code yX6_areAlike cX6_areAlike 5 (some .boolean), Cond.methodLink RX6 49 yX6_has, Cond.static yX6_has, Cond.code yX6_has cX6_has 2 (some .boolean), Cond.methodLink RX6 56 yX6_layStore, Cond.instanceMethod yX6_layStore, Cond.selects RX6 yX6_layStore yX6_layStore, Cond.code yX6_layStore cX6_layStore 4 none, Cond.fieldLink RX6 19 "PushedTablesModel" "marks" "[I", Cond.fieldLink RX6 22 "PushedTablesModel" "values" "[I", Cond.methodLink RX6 59 yX6_fits, Cond.instanceMethod yX6_fits, Cond.selects RX6 yX6_fits yX6_fits, Cond.code yX6_fits cX6_fits 5 (some .int), Cond.methodLink RX6 107 yX6_end, Cond.instanceMethod yX6_end, Cond.selects RX6 yX6_end yX6_end, Cond.code yX6_end cX6_end 3 (some .int), Cond.methodLink RX6 142 yX6_back, Cond.instanceMethod yX6_back]
def wsX6_endBy_r3 : List Cond := [Cond.selects RX6 yX6_back yX6_back, Cond.code yX6_back cX6_back 2 none]
def wsX6_endBy : List Cond := .code yX6_endBy cX6_endBy 3 (some .int) :: ((wsX6_endBy_r1 ++ (wsX6_endBy_r2 ++ wsX6_endBy_r3)) ++ wsX60)
def wsX6_slimmer : List Cond := .code yX6_slimmer cX6_slimmer 3 (some .int) :: ([.fieldLink RX6 7 "PushedTablesModel" "now" "[I", .methodLink RX6 45 yX6_entries, .instanceMethod yX6_entries, .selects RX6 yX6_entries yX6_entries, .initialized RX6, .code yX6_entries cX6_entries 2 (some .int), .methodLink RX6 97 yX6_bits, .static yX6_bits, .code yX6_bits cX6_bits 3 (some .int), .methodLink RX6 100 yX6_most, .instanceMethod yX6_most, .selects RX6 yX6_most yX6_most, .code yX6_most cX6_most 7 (some .int), .methodLink RX6 76 yX6_valueOf, .instanceMethod yX6_valueOf, .selects RX6 yX6_valueOf yX6_valueOf, .code yX6_valueOf cX6_valueOf 3 (some .int), .methodLink RX6 49 yX6_has, .static yX6_has, .code yX6_has cX6_has 2 (some .boolean), .methodLink RX6 93 yX6_entriesBy, .instanceMethod yX6_entriesBy, .selects RX6 yX6_entriesBy yX6_entriesBy, .code yX6_entriesBy cX6_entriesBy 6 (some .int)] ++ wsX60)
def wsX6_like : List Cond := .code yX6_like cX6_like 7 (some .int) :: ([.fieldLink RX6 7 "PushedTablesModel" "now" "[I", .methodLink RX6 72 yX6_isRow, .instanceMethod yX6_isRow, .selects RX6 yX6_isRow yX6_isRow, .initialized RX6, .code yX6_isRow cX6_isRow 2 (some .boolean), .methodLink RX6 28 yX6_in, .static yX6_in, .code yX6_in cX6_in 3 (some .boolean), .methodLink RX6 76 yX6_valueOf, .instanceMethod yX6_valueOf, .selects RX6 yX6_valueOf yX6_valueOf, .code yX6_valueOf cX6_valueOf 3 (some .int), .methodLink RX6 45 yX6_entries, .instanceMethod yX6_entries, .selects RX6 yX6_entries yX6_entries, .code yX6_entries cX6_entries 2 (some .int), .methodLink RX6 49 yX6_has, .static yX6_has, .code yX6_has cX6_has 2 (some .boolean)] ++ wsX60)
abbrev vwCl : List vw_C := [(RX0, TX0, 2), (RX1, TX1, 5), (RX2, TX2, 2), (RX3, TX3, 2), (RX4, TX4, 8), (RX5, TX5, 4), (RX6, TX6, 11)]
end
section
theorem dJ6_bitCount_0f7a4_0 : decode cJ6_bitCount_0f7a4 0 = .ok (.iload_n 0, 1) := by decide +kernel
theorem dJ6_bitCount_0f7a4_1 : decode cJ6_bitCount_0f7a4 1 = .ok (.iload_n 0, 1) := by decide +kernel
theorem dJ6_bitCount_0f7a4_2 : decode cJ6_bitCount_0f7a4 2 = .ok (.iconst 1, 1) := by decide +kernel
theorem dJ6_bitCount_0f7a4_3 : decode cJ6_bitCount_0f7a4 3 = .ok (.iushr, 1) := by decide +kernel
theorem dJ6_bitCount_0f7a4_4 : decode cJ6_bitCount_0f7a4 4 = .ok (.ldc_w 265, 3) := by decide +kernel
theorem dJ6_bitCount_0f7a4_7 : decode cJ6_bitCount_0f7a4 7 = .ok (.iand, 1) := by decide +kernel
theorem dJ6_bitCount_0f7a4_8 : decode cJ6_bitCount_0f7a4 8 = .ok (.isub, 1) := by decide +kernel
theorem dJ6_bitCount_0f7a4_9 : decode cJ6_bitCount_0f7a4 9 = .ok (.istore_n 0, 1) := by decide +kernel
theorem dJ6_bitCount_0f7a4_10 : decode cJ6_bitCount_0f7a4 10 = .ok (.iload_n 0, 1) := by decide +kernel
theorem dJ6_bitCount_0f7a4_11 : decode cJ6_bitCount_0f7a4 11 = .ok (.ldc_w 266, 3) := by decide +kernel
theorem dJ6_bitCount_0f7a4_14 : decode cJ6_bitCount_0f7a4 14 = .ok (.iand, 1) := by decide +kernel
theorem dJ6_bitCount_0f7a4_15 : decode cJ6_bitCount_0f7a4 15 = .ok (.iload_n 0, 1) := by decide +kernel
theorem dJ6_bitCount_0f7a4_16 : decode cJ6_bitCount_0f7a4 16 = .ok (.iconst 2, 1) := by decide +kernel
theorem dJ6_bitCount_0f7a4_17 : decode cJ6_bitCount_0f7a4 17 = .ok (.iushr, 1) := by decide +kernel
theorem dJ6_bitCount_0f7a4_18 : decode cJ6_bitCount_0f7a4 18 = .ok (.ldc_w 266, 3) := by decide +kernel
theorem dJ6_bitCount_0f7a4_21 : decode cJ6_bitCount_0f7a4 21 = .ok (.iand, 1) := by decide +kernel
theorem dJ6_bitCount_0f7a4_22 : decode cJ6_bitCount_0f7a4 22 = .ok (.iadd, 1) := by decide +kernel
theorem dJ6_bitCount_0f7a4_23 : decode cJ6_bitCount_0f7a4 23 = .ok (.istore_n 0, 1) := by decide +kernel
theorem dJ6_bitCount_0f7a4_24 : decode cJ6_bitCount_0f7a4 24 = .ok (.iload_n 0, 1) := by decide +kernel
theorem dJ6_bitCount_0f7a4_25 : decode cJ6_bitCount_0f7a4 25 = .ok (.iload_n 0, 1) := by decide +kernel
theorem dJ6_bitCount_0f7a4_26 : decode cJ6_bitCount_0f7a4 26 = .ok (.iconst 4, 1) := by decide +kernel
theorem dJ6_bitCount_0f7a4_27 : decode cJ6_bitCount_0f7a4 27 = .ok (.iushr, 1) := by decide +kernel
theorem dJ6_bitCount_0f7a4_28 : decode cJ6_bitCount_0f7a4 28 = .ok (.iadd, 1) := by decide +kernel
theorem dJ6_bitCount_0f7a4_29 : decode cJ6_bitCount_0f7a4 29 = .ok (.ldc_w 267, 3) := by decide +kernel
theorem dJ6_bitCount_0f7a4_32 : decode cJ6_bitCount_0f7a4 32 = .ok (.iand, 1) := by decide +kernel
theorem dJ6_bitCount_0f7a4_33 : decode cJ6_bitCount_0f7a4 33 = .ok (.istore_n 0, 1) := by decide +kernel
theorem dJ6_bitCount_0f7a4_34 : decode cJ6_bitCount_0f7a4 34 = .ok (.iload_n 0, 1) := by decide +kernel
theorem dJ6_bitCount_0f7a4_35 : decode cJ6_bitCount_0f7a4 35 = .ok (.iload_n 0, 1) := by decide +kernel
theorem dJ6_bitCount_0f7a4_36 : decode cJ6_bitCount_0f7a4 36 = .ok (.bipush 8, 2) := by decide +kernel
theorem dJ6_bitCount_0f7a4_38 : decode cJ6_bitCount_0f7a4 38 = .ok (.iushr, 1) := by decide +kernel
theorem dJ6_bitCount_0f7a4_39 : decode cJ6_bitCount_0f7a4 39 = .ok (.iadd, 1) := by decide +kernel
theorem dJ6_bitCount_0f7a4_40 : decode cJ6_bitCount_0f7a4 40 = .ok (.istore_n 0, 1) := by decide +kernel
theorem dJ6_bitCount_0f7a4_41 : decode cJ6_bitCount_0f7a4 41 = .ok (.iload_n 0, 1) := by decide +kernel
theorem dJ6_bitCount_0f7a4_42 : decode cJ6_bitCount_0f7a4 42 = .ok (.iload_n 0, 1) := by decide +kernel
theorem dJ6_bitCount_0f7a4_43 : decode cJ6_bitCount_0f7a4 43 = .ok (.bipush 16, 2) := by decide +kernel
theorem dJ6_bitCount_0f7a4_45 : decode cJ6_bitCount_0f7a4 45 = .ok (.iushr, 1) := by decide +kernel
theorem dJ6_bitCount_0f7a4_46 : decode cJ6_bitCount_0f7a4 46 = .ok (.iadd, 1) := by decide +kernel
theorem dJ6_bitCount_0f7a4_47 : decode cJ6_bitCount_0f7a4 47 = .ok (.istore_n 0, 1) := by decide +kernel
theorem dJ6_bitCount_0f7a4_48 : decode cJ6_bitCount_0f7a4 48 = .ok (.iload_n 0, 1) := by decide +kernel
theorem dJ6_bitCount_0f7a4_49 : decode cJ6_bitCount_0f7a4 49 = .ok (.bipush 63, 2) := by decide +kernel
theorem dJ6_bitCount_0f7a4_51 : decode cJ6_bitCount_0f7a4 51 = .ok (.iand, 1) := by decide +kernel
theorem dJ6_bitCount_0f7a4_52 : decode cJ6_bitCount_0f7a4 52 = .ok (.ireturn, 1) := by decide +kernel
theorem dJ7_rangeCheck_23922_0 : decode cJ7_rangeCheck_23922 0 = .ok (.iload_n 1, 1) := by decide +kernel
theorem dJ7_rangeCheck_23922_1 : decode cJ7_rangeCheck_23922 1 = .ok (.iload_n 2, 1) := by decide +kernel
theorem dJ7_rangeCheck_23922_2 : decode cJ7_rangeCheck_23922 2 = .ok (.if_icmp .le 44, 3) := by decide +kernel
theorem dJ7_rangeCheck_23922_5 : decode cJ7_rangeCheck_23922 5 = .ok (.new 43, 3) := by decide +kernel
theorem dJ7_rangeCheck_23922_8 : decode cJ7_rangeCheck_23922 8 = .ok (.dup, 1) := by decide +kernel
theorem dJ7_rangeCheck_23922_9 : decode cJ7_rangeCheck_23922 9 = .ok (.new 45, 3) := by decide +kernel
theorem dJ7_rangeCheck_23922_12 : decode cJ7_rangeCheck_23922 12 = .ok (.dup, 1) := by decide +kernel
theorem dJ7_rangeCheck_23922_13 : decode cJ7_rangeCheck_23922 13 = .ok (.invokespecial 47, 3) := by decide +kernel
theorem dJ7_rangeCheck_23922_16 : decode cJ7_rangeCheck_23922 16 = .ok (.ldc 48, 2) := by decide +kernel
theorem dJ7_rangeCheck_23922_18 : decode cJ7_rangeCheck_23922 18 = .ok (.invokevirtual 50, 3) := by decide +kernel
theorem dJ7_rangeCheck_23922_21 : decode cJ7_rangeCheck_23922 21 = .ok (.iload_n 1, 1) := by decide +kernel
theorem dJ7_rangeCheck_23922_22 : decode cJ7_rangeCheck_23922 22 = .ok (.invokevirtual 54, 3) := by decide +kernel
theorem dJ7_rangeCheck_23922_25 : decode cJ7_rangeCheck_23922 25 = .ok (.ldc 57, 2) := by decide +kernel
theorem dJ7_rangeCheck_23922_27 : decode cJ7_rangeCheck_23922 27 = .ok (.invokevirtual 50, 3) := by decide +kernel
theorem dJ7_rangeCheck_23922_30 : decode cJ7_rangeCheck_23922 30 = .ok (.iload_n 2, 1) := by decide +kernel
theorem dJ7_rangeCheck_23922_31 : decode cJ7_rangeCheck_23922 31 = .ok (.invokevirtual 54, 3) := by decide +kernel
theorem dJ7_rangeCheck_23922_34 : decode cJ7_rangeCheck_23922 34 = .ok (.ldc 59, 2) := by decide +kernel
theorem dJ7_rangeCheck_23922_36 : decode cJ7_rangeCheck_23922 36 = .ok (.invokevirtual 50, 3) := by decide +kernel
theorem dJ7_rangeCheck_23922_39 : decode cJ7_rangeCheck_23922 39 = .ok (.invokevirtual 61, 3) := by decide +kernel
theorem dJ7_rangeCheck_23922_42 : decode cJ7_rangeCheck_23922 42 = .ok (.invokespecial 65, 3) := by decide +kernel
theorem dJ7_rangeCheck_23922_45 : decode cJ7_rangeCheck_23922 45 = .ok (.athrow, 1) := by decide +kernel
theorem dJ7_rangeCheck_23922_46 : decode cJ7_rangeCheck_23922 46 = .ok (.iload_n 1, 1) := by decide +kernel
theorem dJ7_rangeCheck_23922_47 : decode cJ7_rangeCheck_23922 47 = .ok (.ifCond .ge 12, 3) := by decide +kernel
theorem dJ7_rangeCheck_23922_50 : decode cJ7_rangeCheck_23922 50 = .ok (.new 68, 3) := by decide +kernel
theorem dJ7_rangeCheck_23922_53 : decode cJ7_rangeCheck_23922 53 = .ok (.dup, 1) := by decide +kernel
theorem dJ7_rangeCheck_23922_54 : decode cJ7_rangeCheck_23922 54 = .ok (.iload_n 1, 1) := by decide +kernel
theorem dJ7_rangeCheck_23922_55 : decode cJ7_rangeCheck_23922 55 = .ok (.invokespecial 70, 3) := by decide +kernel
theorem dJ7_rangeCheck_23922_58 : decode cJ7_rangeCheck_23922 58 = .ok (.athrow, 1) := by decide +kernel
theorem dJ7_rangeCheck_23922_59 : decode cJ7_rangeCheck_23922 59 = .ok (.iload_n 2, 1) := by decide +kernel
theorem dJ7_rangeCheck_23922_60 : decode cJ7_rangeCheck_23922 60 = .ok (.iload_n 0, 1) := by decide +kernel
theorem dJ7_rangeCheck_23922_61 : decode cJ7_rangeCheck_23922 61 = .ok (.if_icmp .le 12, 3) := by decide +kernel
theorem dJ7_rangeCheck_23922_64 : decode cJ7_rangeCheck_23922 64 = .ok (.new 68, 3) := by decide +kernel
theorem dJ7_rangeCheck_23922_67 : decode cJ7_rangeCheck_23922 67 = .ok (.dup, 1) := by decide +kernel
theorem dJ7_rangeCheck_23922_68 : decode cJ7_rangeCheck_23922 68 = .ok (.iload_n 2, 1) := by decide +kernel
theorem dJ7_rangeCheck_23922_69 : decode cJ7_rangeCheck_23922 69 = .ok (.invokespecial 70, 3) := by decide +kernel
theorem dJ7_rangeCheck_23922_72 : decode cJ7_rangeCheck_23922 72 = .ok (.athrow, 1) := by decide +kernel
theorem dJ7_rangeCheck_23922_73 : decode cJ7_rangeCheck_23922 73 = .ok (.return_, 1) := by decide +kernel
theorem dJ7_fill_53178_0 : decode cJ7_fill_53178 0 = .ok (.iconst 0, 1) := by decide +kernel
theorem dJ7_fill_53178_1 : decode cJ7_fill_53178 1 = .ok (.istore_n 2, 1) := by decide +kernel
theorem dJ7_fill_53178_2 : decode cJ7_fill_53178 2 = .ok (.aload_n 0, 1) := by decide +kernel
theorem dJ7_fill_53178_3 : decode cJ7_fill_53178 3 = .ok (.arraylength, 1) := by decide +kernel
theorem dJ7_fill_53178_4 : decode cJ7_fill_53178 4 = .ok (.istore_n 3, 1) := by decide +kernel
theorem dJ7_fill_53178_5 : decode cJ7_fill_53178 5 = .ok (.iload_n 2, 1) := by decide +kernel
theorem dJ7_fill_53178_6 : decode cJ7_fill_53178 6 = .ok (.iload_n 3, 1) := by decide +kernel
theorem dJ7_fill_53178_7 : decode cJ7_fill_53178 7 = .ok (.if_icmp .ge 13, 3) := by decide +kernel
theorem dJ7_fill_53178_10 : decode cJ7_fill_53178 10 = .ok (.aload_n 0, 1) := by decide +kernel
theorem dJ7_fill_53178_11 : decode cJ7_fill_53178 11 = .ok (.iload_n 2, 1) := by decide +kernel
theorem dJ7_fill_53178_12 : decode cJ7_fill_53178 12 = .ok (.iload_n 1, 1) := by decide +kernel
theorem dJ7_fill_53178_13 : decode cJ7_fill_53178 13 = .ok (.iastore, 1) := by decide +kernel
theorem dJ7_fill_53178_14 : decode cJ7_fill_53178 14 = .ok (.iinc 2 1, 3) := by decide +kernel
theorem dJ7_fill_53178_17 : decode cJ7_fill_53178 17 = .ok (.goto (-12), 3) := by decide +kernel
theorem dJ7_fill_53178_20 : decode cJ7_fill_53178 20 = .ok (.return_, 1) := by decide +kernel
set_option maxRecDepth 20000 in
theorem ggJ7_fill_fda19_J7_rangeCheck_23922 : GoodIn wsJ7_fill_fda19 wsJ7_rangeCheck_23922 := goodIn_r _ [4] (by decide +kernel) (by decide +kernel)
set_option maxRecDepth 20000 in
theorem gJ7_fill_fda19_J7_rangeCheck_23922 : GoodIn wsJ7_fill_fda19 (va_wsS RJ7 13 yJ7_rangeCheck_23922 wsJ7_rangeCheck_23922) := goodIn_app (goodIn_of _ (by decide +kernel)) ggJ7_fill_fda19_J7_rangeCheck_23922
theorem dJ7_fill_fda19_0 : decode cJ7_fill_fda19 0 = .ok (.aload_n 0, 1) := by decide +kernel
theorem dJ7_fill_fda19_1 : decode cJ7_fill_fda19 1 = .ok (.arraylength, 1) := by decide +kernel
theorem dJ7_fill_fda19_2 : decode cJ7_fill_fda19 2 = .ok (.iload_n 1, 1) := by decide +kernel
theorem dJ7_fill_fda19_3 : decode cJ7_fill_fda19 3 = .ok (.iload_n 2, 1) := by decide +kernel
theorem dJ7_fill_fda19_4 : decode cJ7_fill_fda19 4 = .ok (.invokestatic 13, 3) := by decide +kernel
theorem dJ7_fill_fda19_7 : decode cJ7_fill_fda19 7 = .ok (.iload_n 1, 1) := by decide +kernel
theorem dJ7_fill_fda19_8 : decode cJ7_fill_fda19 8 = .ok (.istore 4, 2) := by decide +kernel
theorem dJ7_fill_fda19_10 : decode cJ7_fill_fda19 10 = .ok (.iload 4, 2) := by decide +kernel
theorem dJ7_fill_fda19_12 : decode cJ7_fill_fda19 12 = .ok (.iload_n 2, 1) := by decide +kernel
theorem dJ7_fill_fda19_13 : decode cJ7_fill_fda19 13 = .ok (.if_icmp .ge 14, 3) := by decide +kernel
theorem dJ7_fill_fda19_16 : decode cJ7_fill_fda19 16 = .ok (.aload_n 0, 1) := by decide +kernel
theorem dJ7_fill_fda19_17 : decode cJ7_fill_fda19 17 = .ok (.iload 4, 2) := by decide +kernel
theorem dJ7_fill_fda19_19 : decode cJ7_fill_fda19 19 = .ok (.iload_n 3, 1) := by decide +kernel
theorem dJ7_fill_fda19_20 : decode cJ7_fill_fda19 20 = .ok (.iastore, 1) := by decide +kernel
theorem dJ7_fill_fda19_21 : decode cJ7_fill_fda19 21 = .ok (.iinc 4 1, 3) := by decide +kernel
theorem dJ7_fill_fda19_24 : decode cJ7_fill_fda19 24 = .ok (.goto (-14), 3) := by decide +kernel
theorem dJ7_fill_fda19_27 : decode cJ7_fill_fda19 27 = .ok (.return_, 1) := by decide +kernel
set_option maxRecDepth 20000 in
theorem ggX2_init_X2_emptyAll : GoodIn wsX2_init wsX2_emptyAll := goodIn_r _ [11, 5, 6, 12, 13, 14, 15, 16, 17] (by decide +kernel) (by decide +kernel)
set_option maxRecDepth 20000 in
theorem gX2_init_X2_emptyAll : GoodIn wsX2_init (wsV RX2 18 RX2 yX2_emptyAll wsX2_emptyAll) := goodIn_app (goodIn_of _ (by decide +kernel)) ggX2_init_X2_emptyAll
theorem dX2_init_0 : decode cX2_init 0 = .ok (.aload_n 0, 1) := by decide +kernel
theorem dX2_init_1 : decode cX2_init 1 = .ok (.invokespecial 3, 3) := by decide +kernel
theorem dX2_init_4 : decode cX2_init 4 = .ok (.aload_n 0, 1) := by decide +kernel
theorem dX2_init_5 : decode cX2_init 5 = .ok (.sipush 800, 3) := by decide +kernel
theorem dX2_init_8 : decode cX2_init 8 = .ok (.newarray .int, 2) := by decide +kernel
theorem dX2_init_10 : decode cX2_init 10 = .ok (.putfield 9, 3) := by decide +kernel
theorem dX2_init_13 : decode cX2_init 13 = .ok (.aload_n 0, 1) := by decide +kernel
theorem dX2_init_14 : decode cX2_init 14 = .ok (.sipush 800, 3) := by decide +kernel
theorem dX2_init_17 : decode cX2_init 17 = .ok (.newarray .int, 2) := by decide +kernel
theorem dX2_init_19 : decode cX2_init 19 = .ok (.putfield 15, 3) := by decide +kernel
theorem dX2_init_22 : decode cX2_init 22 = .ok (.aload_n 0, 1) := by decide +kernel
theorem dX2_init_23 : decode cX2_init 23 = .ok (.invokevirtual 18, 3) := by decide +kernel
theorem dX2_init_26 : decode cX2_init 26 = .ok (.return_, 1) := by decide +kernel
set_option maxRecDepth 20000 in
theorem ggX2_emptyAll_J7_fill_53178 : GoodIn wsX2_emptyAll wsJ7_fill_53178 := goodIn_r _ [6] (by decide +kernel) (by decide +kernel)
set_option maxRecDepth 20000 in
theorem gX2_emptyAll_J7_fill_53178 : GoodIn wsX2_emptyAll (va_wsS RX2 21 yJ7_fill_53178 wsJ7_fill_53178) := goodIn_app (goodIn_of _ (by decide +kernel)) ggX2_emptyAll_J7_fill_53178
theorem dX2_emptyAll_0 : decode cX2_emptyAll 0 = .ok (.aload_n 0, 1) := by decide +kernel
theorem dX2_emptyAll_1 : decode cX2_emptyAll 1 = .ok (.getfield 9, 3) := by decide +kernel
theorem dX2_emptyAll_4 : decode cX2_emptyAll 4 = .ok (.bipush (-9), 2) := by decide +kernel
theorem dX2_emptyAll_6 : decode cX2_emptyAll 6 = .ok (.invokestatic 21, 3) := by decide +kernel
theorem dX2_emptyAll_9 : decode cX2_emptyAll 9 = .ok (.aload_n 0, 1) := by decide +kernel
theorem dX2_emptyAll_10 : decode cX2_emptyAll 10 = .ok (.getfield 15, 3) := by decide +kernel
theorem dX2_emptyAll_13 : decode cX2_emptyAll 13 = .ok (.bipush (-9), 2) := by decide +kernel
theorem dX2_emptyAll_15 : decode cX2_emptyAll 15 = .ok (.invokestatic 21, 3) := by decide +kernel
theorem dX2_emptyAll_18 : decode cX2_emptyAll 18 = .ok (.return_, 1) := by decide +kernel
theorem dX2_fillCell_0 : decode cX2_fillCell 0 = .ok (.aload_n 0, 1) := by decide +kernel
theorem dX2_fillCell_1 : decode cX2_fillCell 1 = .ok (.getfield 9, 3) := by decide +kernel
theorem dX2_fillCell_4 : decode cX2_fillCell 4 = .ok (.iload_n 1, 1) := by decide +kernel
theorem dX2_fillCell_5 : decode cX2_fillCell 5 = .ok (.iload_n 2, 1) := by decide +kernel
theorem dX2_fillCell_6 : decode cX2_fillCell 6 = .ok (.iastore, 1) := by decide +kernel
theorem dX2_fillCell_7 : decode cX2_fillCell 7 = .ok (.aload_n 0, 1) := by decide +kernel
theorem dX2_fillCell_8 : decode cX2_fillCell 8 = .ok (.getfield 15, 3) := by decide +kernel
theorem dX2_fillCell_11 : decode cX2_fillCell 11 = .ok (.iload_n 1, 1) := by decide +kernel
theorem dX2_fillCell_12 : decode cX2_fillCell 12 = .ok (.iload_n 3, 1) := by decide +kernel
theorem dX2_fillCell_13 : decode cX2_fillCell 13 = .ok (.iastore, 1) := by decide +kernel
theorem dX2_fillCell_14 : decode cX2_fillCell 14 = .ok (.return_, 1) := by decide +kernel
theorem dX2_isEmptyAt_0 : decode cX2_isEmptyAt 0 = .ok (.aload_n 0, 1) := by decide +kernel
theorem dX2_isEmptyAt_1 : decode cX2_isEmptyAt 1 = .ok (.getfield 15, 3) := by decide +kernel
theorem dX2_isEmptyAt_4 : decode cX2_isEmptyAt 4 = .ok (.iload_n 1, 1) := by decide +kernel
theorem dX2_isEmptyAt_5 : decode cX2_isEmptyAt 5 = .ok (.iaload, 1) := by decide +kernel
theorem dX2_isEmptyAt_6 : decode cX2_isEmptyAt 6 = .ok (.bipush (-9), 2) := by decide +kernel
theorem dX2_isEmptyAt_8 : decode cX2_isEmptyAt 8 = .ok (.if_icmp .ne 7, 3) := by decide +kernel
theorem dX2_isEmptyAt_11 : decode cX2_isEmptyAt 11 = .ok (.iconst 1, 1) := by decide +kernel
theorem dX2_isEmptyAt_12 : decode cX2_isEmptyAt 12 = .ok (.goto 4, 3) := by decide +kernel
theorem dX2_isEmptyAt_15 : decode cX2_isEmptyAt 15 = .ok (.iconst 0, 1) := by decide +kernel
theorem dX2_isEmptyAt_16 : decode cX2_isEmptyAt 16 = .ok (.ireturn, 1) := by decide +kernel
set_option maxRecDepth 20000 in
theorem ggX2_takeOut_X2_fillCell : GoodIn wsX2_takeOut wsX2_fillCell := goodIn_r _ [6, 7, 1, 8, 9] (by decide +kernel) (by decide +kernel)
set_option maxRecDepth 20000 in
theorem gX2_takeOut_X2_fillCell : GoodIn wsX2_takeOut (wsV RX2 27 RX2 yX2_fillCell wsX2_fillCell) := goodIn_app (goodIn_of _ (by decide +kernel)) ggX2_takeOut_X2_fillCell
theorem dX2_takeOut_0 : decode cX2_takeOut 0 = .ok (.iload_n 2, 1) := by decide +kernel
theorem dX2_takeOut_1 : decode cX2_takeOut 1 = .ok (.istore_n 3, 1) := by decide +kernel
theorem dX2_takeOut_2 : decode cX2_takeOut 2 = .ok (.iload_n 3, 1) := by decide +kernel
theorem dX2_takeOut_3 : decode cX2_takeOut 3 = .ok (.iload_n 2, 1) := by decide +kernel
theorem dX2_takeOut_4 : decode cX2_takeOut 4 = .ok (.bipush 16, 2) := by decide +kernel
theorem dX2_takeOut_6 : decode cX2_takeOut 6 = .ok (.iadd, 1) := by decide +kernel
theorem dX2_takeOut_7 : decode cX2_takeOut 7 = .ok (.if_icmp .ge 28, 3) := by decide +kernel
theorem dX2_takeOut_10 : decode cX2_takeOut 10 = .ok (.aload_n 0, 1) := by decide +kernel
theorem dX2_takeOut_11 : decode cX2_takeOut 11 = .ok (.getfield 15, 3) := by decide +kernel
theorem dX2_takeOut_14 : decode cX2_takeOut 14 = .ok (.iload_n 3, 1) := by decide +kernel
theorem dX2_takeOut_15 : decode cX2_takeOut 15 = .ok (.iaload, 1) := by decide +kernel
theorem dX2_takeOut_16 : decode cX2_takeOut 16 = .ok (.iload_n 1, 1) := by decide +kernel
theorem dX2_takeOut_17 : decode cX2_takeOut 17 = .ok (.if_icmp .ne 12, 3) := by decide +kernel
theorem dX2_takeOut_20 : decode cX2_takeOut 20 = .ok (.aload_n 0, 1) := by decide +kernel
theorem dX2_takeOut_21 : decode cX2_takeOut 21 = .ok (.iload_n 3, 1) := by decide +kernel
theorem dX2_takeOut_22 : decode cX2_takeOut 22 = .ok (.bipush (-9), 2) := by decide +kernel
theorem dX2_takeOut_24 : decode cX2_takeOut 24 = .ok (.bipush (-9), 2) := by decide +kernel
theorem dX2_takeOut_26 : decode cX2_takeOut 26 = .ok (.invokevirtual 27, 3) := by decide +kernel
theorem dX2_takeOut_29 : decode cX2_takeOut 29 = .ok (.iinc 3 1, 3) := by decide +kernel
theorem dX2_takeOut_32 : decode cX2_takeOut 32 = .ok (.goto (-30), 3) := by decide +kernel
theorem dX2_takeOut_35 : decode cX2_takeOut 35 = .ok (.return_, 1) := by decide +kernel
theorem dX2_filledOf_0 : decode cX2_filledOf 0 = .ok (.iconst 0, 1) := by decide +kernel
theorem dX2_filledOf_1 : decode cX2_filledOf 1 = .ok (.istore_n 3, 1) := by decide +kernel
theorem dX2_filledOf_2 : decode cX2_filledOf 2 = .ok (.iload_n 2, 1) := by decide +kernel
theorem dX2_filledOf_3 : decode cX2_filledOf 3 = .ok (.istore 4, 2) := by decide +kernel
theorem dX2_filledOf_5 : decode cX2_filledOf 5 = .ok (.iload 4, 2) := by decide +kernel
theorem dX2_filledOf_7 : decode cX2_filledOf 7 = .ok (.iload_n 2, 1) := by decide +kernel
theorem dX2_filledOf_8 : decode cX2_filledOf 8 = .ok (.bipush 16, 2) := by decide +kernel
theorem dX2_filledOf_10 : decode cX2_filledOf 10 = .ok (.iadd, 1) := by decide +kernel
theorem dX2_filledOf_11 : decode cX2_filledOf 11 = .ok (.if_icmp .ge 23, 3) := by decide +kernel
theorem dX2_filledOf_14 : decode cX2_filledOf 14 = .ok (.aload_n 0, 1) := by decide +kernel
theorem dX2_filledOf_15 : decode cX2_filledOf 15 = .ok (.getfield 15, 3) := by decide +kernel
theorem dX2_filledOf_18 : decode cX2_filledOf 18 = .ok (.iload 4, 2) := by decide +kernel
theorem dX2_filledOf_20 : decode cX2_filledOf 20 = .ok (.iaload, 1) := by decide +kernel
theorem dX2_filledOf_21 : decode cX2_filledOf 21 = .ok (.iload_n 1, 1) := by decide +kernel
theorem dX2_filledOf_22 : decode cX2_filledOf 22 = .ok (.if_icmp .ne 6, 3) := by decide +kernel
theorem dX2_filledOf_25 : decode cX2_filledOf 25 = .ok (.iinc 3 1, 3) := by decide +kernel
theorem dX2_filledOf_28 : decode cX2_filledOf 28 = .ok (.iinc 4 1, 3) := by decide +kernel
theorem dX2_filledOf_31 : decode cX2_filledOf 31 = .ok (.goto (-26), 3) := by decide +kernel
theorem dX2_filledOf_34 : decode cX2_filledOf 34 = .ok (.iload_n 3, 1) := by decide +kernel
theorem dX2_filledOf_35 : decode cX2_filledOf 35 = .ok (.ireturn, 1) := by decide +kernel
set_option maxRecDepth 20000 in
theorem ggX2_firstFit_X2_fitsAt : GoodIn wsX2_firstFit wsX2_fitsAt := goodIn_r _ [5, 6, 7, 8, 4, 9, 10, 11, 12] (by decide +kernel) (by decide +kernel)
set_option maxRecDepth 20000 in
theorem gX2_firstFit_X2_fitsAt : GoodIn wsX2_firstFit (wsV RX2 31 RX2 yX2_fitsAt wsX2_fitsAt) := goodIn_app (goodIn_of _ (by decide +kernel)) ggX2_firstFit_X2_fitsAt
theorem dX2_firstFit_0 : decode cX2_firstFit 0 = .ok (.iconst 0, 1) := by decide +kernel
theorem dX2_firstFit_1 : decode cX2_firstFit 1 = .ok (.istore_n 2, 1) := by decide +kernel
theorem dX2_firstFit_2 : decode cX2_firstFit 2 = .ok (.iload_n 2, 1) := by decide +kernel
theorem dX2_firstFit_3 : decode cX2_firstFit 3 = .ok (.sipush 784, 3) := by decide +kernel
theorem dX2_firstFit_6 : decode cX2_firstFit 6 = .ok (.if_icmp .gt 20, 3) := by decide +kernel
theorem dX2_firstFit_9 : decode cX2_firstFit 9 = .ok (.aload_n 0, 1) := by decide +kernel
theorem dX2_firstFit_10 : decode cX2_firstFit 10 = .ok (.iload_n 2, 1) := by decide +kernel
theorem dX2_firstFit_11 : decode cX2_firstFit 11 = .ok (.iload_n 1, 1) := by decide +kernel
theorem dX2_firstFit_12 : decode cX2_firstFit 12 = .ok (.invokevirtual 31, 3) := by decide +kernel
theorem dX2_firstFit_15 : decode cX2_firstFit 15 = .ok (.ifCond .eq 5, 3) := by decide +kernel
theorem dX2_firstFit_18 : decode cX2_firstFit 18 = .ok (.iload_n 2, 1) := by decide +kernel
theorem dX2_firstFit_19 : decode cX2_firstFit 19 = .ok (.ireturn, 1) := by decide +kernel
theorem dX2_firstFit_20 : decode cX2_firstFit 20 = .ok (.iinc 2 1, 3) := by decide +kernel
theorem dX2_firstFit_23 : decode cX2_firstFit 23 = .ok (.goto (-21), 3) := by decide +kernel
theorem dX2_firstFit_26 : decode cX2_firstFit 26 = .ok (.bipush (-9), 2) := by decide +kernel
theorem dX2_firstFit_28 : decode cX2_firstFit 28 = .ok (.ireturn, 1) := by decide +kernel
set_option maxRecDepth 20000 in
theorem ggX2_fitsAt_X2_isEmptyAt : GoodIn wsX2_fitsAt wsX2_isEmptyAt := goodIn_r _ [5, 6, 7, 8] (by decide +kernel) (by decide +kernel)
set_option maxRecDepth 20000 in
theorem gX2_fitsAt_X2_isEmptyAt : GoodIn wsX2_fitsAt (wsV RX2 35 RX2 yX2_isEmptyAt wsX2_isEmptyAt) := goodIn_app (goodIn_of _ (by decide +kernel)) ggX2_fitsAt_X2_isEmptyAt
theorem dX2_fitsAt_0 : decode cX2_fitsAt 0 = .ok (.iconst 0, 1) := by decide +kernel
theorem dX2_fitsAt_1 : decode cX2_fitsAt 1 = .ok (.istore_n 3, 1) := by decide +kernel
theorem dX2_fitsAt_2 : decode cX2_fitsAt 2 = .ok (.iload_n 3, 1) := by decide +kernel
theorem dX2_fitsAt_3 : decode cX2_fitsAt 3 = .ok (.bipush 16, 2) := by decide +kernel
theorem dX2_fitsAt_5 : decode cX2_fitsAt 5 = .ok (.if_icmp .ge 30, 3) := by decide +kernel
theorem dX2_fitsAt_8 : decode cX2_fitsAt 8 = .ok (.iload_n 2, 1) := by decide +kernel
theorem dX2_fitsAt_9 : decode cX2_fitsAt 9 = .ok (.iload_n 3, 1) := by decide +kernel
theorem dX2_fitsAt_10 : decode cX2_fitsAt 10 = .ok (.ishr, 1) := by decide +kernel
theorem dX2_fitsAt_11 : decode cX2_fitsAt 11 = .ok (.iconst 1, 1) := by decide +kernel
theorem dX2_fitsAt_12 : decode cX2_fitsAt 12 = .ok (.iand, 1) := by decide +kernel
theorem dX2_fitsAt_13 : decode cX2_fitsAt 13 = .ok (.iconst 1, 1) := by decide +kernel
theorem dX2_fitsAt_14 : decode cX2_fitsAt 14 = .ok (.if_icmp .ne 15, 3) := by decide +kernel
theorem dX2_fitsAt_17 : decode cX2_fitsAt 17 = .ok (.aload_n 0, 1) := by decide +kernel
theorem dX2_fitsAt_18 : decode cX2_fitsAt 18 = .ok (.iload_n 1, 1) := by decide +kernel
theorem dX2_fitsAt_19 : decode cX2_fitsAt 19 = .ok (.iload_n 3, 1) := by decide +kernel
theorem dX2_fitsAt_20 : decode cX2_fitsAt 20 = .ok (.iadd, 1) := by decide +kernel
theorem dX2_fitsAt_21 : decode cX2_fitsAt 21 = .ok (.invokevirtual 35, 3) := by decide +kernel
theorem dX2_fitsAt_24 : decode cX2_fitsAt 24 = .ok (.ifCond .ne 5, 3) := by decide +kernel
theorem dX2_fitsAt_27 : decode cX2_fitsAt 27 = .ok (.iconst 0, 1) := by decide +kernel
theorem dX2_fitsAt_28 : decode cX2_fitsAt 28 = .ok (.ireturn, 1) := by decide +kernel
theorem dX2_fitsAt_29 : decode cX2_fitsAt 29 = .ok (.iinc 3 1, 3) := by decide +kernel
theorem dX2_fitsAt_32 : decode cX2_fitsAt 32 = .ok (.goto (-30), 3) := by decide +kernel
theorem dX2_fitsAt_35 : decode cX2_fitsAt 35 = .ok (.iconst 1, 1) := by decide +kernel
theorem dX2_fitsAt_36 : decode cX2_fitsAt 36 = .ok (.ireturn, 1) := by decide +kernel
set_option maxRecDepth 20000 in
theorem ggX2_endOfCells_X2_isEmptyAt : GoodIn wsX2_endOfCells wsX2_isEmptyAt := goodIn_r _ [5, 6, 7, 8] (by decide +kernel) (by decide +kernel)
set_option maxRecDepth 20000 in
theorem gX2_endOfCells_X2_isEmptyAt : GoodIn wsX2_endOfCells (wsV RX2 35 RX2 yX2_isEmptyAt wsX2_isEmptyAt) := goodIn_app (goodIn_of _ (by decide +kernel)) ggX2_endOfCells_X2_isEmptyAt
theorem dX2_endOfCells_0 : decode cX2_endOfCells 0 = .ok (.sipush 799, 3) := by decide +kernel
theorem dX2_endOfCells_3 : decode cX2_endOfCells 3 = .ok (.istore_n 1, 1) := by decide +kernel
theorem dX2_endOfCells_4 : decode cX2_endOfCells 4 = .ok (.iload_n 1, 1) := by decide +kernel
theorem dX2_endOfCells_5 : decode cX2_endOfCells 5 = .ok (.ifCond .lt 21, 3) := by decide +kernel
theorem dX2_endOfCells_8 : decode cX2_endOfCells 8 = .ok (.aload_n 0, 1) := by decide +kernel
theorem dX2_endOfCells_9 : decode cX2_endOfCells 9 = .ok (.iload_n 1, 1) := by decide +kernel
theorem dX2_endOfCells_10 : decode cX2_endOfCells 10 = .ok (.invokevirtual 35, 3) := by decide +kernel
theorem dX2_endOfCells_13 : decode cX2_endOfCells 13 = .ok (.ifCond .ne 7, 3) := by decide +kernel
theorem dX2_endOfCells_16 : decode cX2_endOfCells 16 = .ok (.iload_n 1, 1) := by decide +kernel
theorem dX2_endOfCells_17 : decode cX2_endOfCells 17 = .ok (.iconst 1, 1) := by decide +kernel
theorem dX2_endOfCells_18 : decode cX2_endOfCells 18 = .ok (.iadd, 1) := by decide +kernel
theorem dX2_endOfCells_19 : decode cX2_endOfCells 19 = .ok (.ireturn, 1) := by decide +kernel
theorem dX2_endOfCells_20 : decode cX2_endOfCells 20 = .ok (.iinc 1 (-1), 3) := by decide +kernel
theorem dX2_endOfCells_23 : decode cX2_endOfCells 23 = .ok (.goto (-19), 3) := by decide +kernel
theorem dX2_endOfCells_26 : decode cX2_endOfCells 26 = .ok (.iconst 0, 1) := by decide +kernel
theorem dX2_endOfCells_27 : decode cX2_endOfCells 27 = .ok (.ireturn, 1) := by decide +kernel
set_option maxRecDepth 20000 in
theorem ggX2_filledCells_X2_isEmptyAt : GoodIn wsX2_filledCells wsX2_isEmptyAt := goodIn_r _ [5, 6, 7, 8] (by decide +kernel) (by decide +kernel)
set_option maxRecDepth 20000 in
theorem gX2_filledCells_X2_isEmptyAt : GoodIn wsX2_filledCells (wsV RX2 35 RX2 yX2_isEmptyAt wsX2_isEmptyAt) := goodIn_app (goodIn_of _ (by decide +kernel)) ggX2_filledCells_X2_isEmptyAt
theorem dX2_filledCells_0 : decode cX2_filledCells 0 = .ok (.iconst 0, 1) := by decide +kernel
theorem dX2_filledCells_1 : decode cX2_filledCells 1 = .ok (.istore_n 1, 1) := by decide +kernel
theorem dX2_filledCells_2 : decode cX2_filledCells 2 = .ok (.iconst 0, 1) := by decide +kernel
theorem dX2_filledCells_3 : decode cX2_filledCells 3 = .ok (.istore_n 2, 1) := by decide +kernel
theorem dX2_filledCells_4 : decode cX2_filledCells 4 = .ok (.iload_n 2, 1) := by decide +kernel
theorem dX2_filledCells_5 : decode cX2_filledCells 5 = .ok (.sipush 800, 3) := by decide +kernel
theorem dX2_filledCells_8 : decode cX2_filledCells 8 = .ok (.if_icmp .ge 20, 3) := by decide +kernel
theorem dX2_filledCells_11 : decode cX2_filledCells 11 = .ok (.aload_n 0, 1) := by decide +kernel
theorem dX2_filledCells_12 : decode cX2_filledCells 12 = .ok (.iload_n 2, 1) := by decide +kernel
theorem dX2_filledCells_13 : decode cX2_filledCells 13 = .ok (.invokevirtual 35, 3) := by decide +kernel
theorem dX2_filledCells_16 : decode cX2_filledCells 16 = .ok (.ifCond .ne 6, 3) := by decide +kernel
theorem dX2_filledCells_19 : decode cX2_filledCells 19 = .ok (.iinc 1 1, 3) := by decide +kernel
theorem dX2_filledCells_22 : decode cX2_filledCells 22 = .ok (.iinc 2 1, 3) := by decide +kernel
theorem dX2_filledCells_25 : decode cX2_filledCells 25 = .ok (.goto (-21), 3) := by decide +kernel
theorem dX2_filledCells_28 : decode cX2_filledCells 28 = .ok (.iload_n 1, 1) := by decide +kernel
theorem dX2_filledCells_29 : decode cX2_filledCells 29 = .ok (.ireturn, 1) := by decide +kernel
end
section
/-! rows of this claim: encodings, contracts' forms, instructions over numbers, calls in place -/
def e9 (x : Nat) : Int32 := if x = 1000 then (-9) else nI x
def e1 (x : Nat) : Int32 := if x = 1000 then (-1) else nI x
def bI (b : Bool) : Int32 := if b then 1 else 0
theorem i_eq {a b : Int32} : a = b ↔ a.toInt = b.toInt := ⟨fun h => by rw [h], fun h => Int32.toInt_inj.mp h⟩
theorem i_le {a b : Int32} : a ≤ b ↔ a.toInt ≤ b.toInt := Int32.le_iff_toInt_le
theorem i_lt {a b : Int32} : a < b ↔ a.toInt < b.toInt := Int32.lt_iff_toInt_lt
theorem e9_toInt {x : Nat} (h : x ≤ 1000) : (e9 x).toInt = if x = 1000 then (-9 : Int) else (x : Int) := by
  unfold e9
  split
  · rfl
  · exact nI_toInt (by omega)
theorem e1_toInt {x : Nat} (h : x ≤ 1000) : (e1 x).toInt = if x = 1000 then (-1 : Int) else (x : Int) := by
  unfold e1
  split
  · rfl
  · exact nI_toInt (by omega)
theorem e9_n {x : Nat} (h : x ≠ 1000) : e9 x = nI x := if_neg h
theorem e1_n {x : Nat} (h : x ≠ 1000) : e1 x = nI x := if_neg h
theorem e9_inj {x y : Nat} (hx : x ≤ 1000) (hy : y ≤ 1000) : e9 x = e9 y ↔ x = y := by
  rw [i_eq, e9_toInt hx, e9_toInt hy]
  split <;> split <;> omega
theorem e1_inj {x y : Nat} (hx : x ≤ 1000) (hy : y ≤ 1000) : e1 x = e1 y ↔ x = y := by
  rw [i_eq, e1_toInt hx, e1_toInt hy]
  split <;> split <;> omega
theorem e9_nI {x y : Nat} (hx : x ≤ 1000) (hy : y < 1000) : e9 x = nI y ↔ x = y := by
  rw [i_eq, e9_toInt hx, nI_toInt (by omega)]
  split <;> omega
theorem e1_nI {x y : Nat} (hx : x ≤ 1000) (hy : y < 1000) : e1 x = nI y ↔ x = y := by
  rw [i_eq, e1_toInt hx, nI_toInt (by omega)]
  split <;> omega
theorem nI_e9 {x y : Nat} (hx : x ≤ 1000) (hy : y < 1000) : nI y = e9 x ↔ x = y := ⟨fun h => (e9_nI hx hy).mp h.symm, fun h => ((e9_nI hx hy).mpr h).symm⟩
theorem nI_e1 {x y : Nat} (hx : x ≤ 1000) (hy : y < 1000) : nI y = e1 x ↔ x = y := ⟨fun h => (e1_nI hx hy).mp h.symm, fun h => ((e1_nI hx hy).mpr h).symm⟩
theorem t0 : (0 : Int32).toInt = 0 := rfl
theorem e9_ge0 {x : Nat} (hx : x ≤ 1000) : 0 ≤ e9 x ↔ x ≠ 1000 := by
  rw [i_le, e9_toInt hx, t0]
  split <;> omega
theorem e1_ge0 {x : Nat} (hx : x ≤ 1000) : 0 ≤ e1 x ↔ x ≠ 1000 := by
  rw [i_le, e1_toInt hx, t0]
  split <;> omega
theorem e9_lt0 {x : Nat} (hx : x ≤ 1000) : e9 x < 0 ↔ x = 1000 := by
  rw [i_lt, e9_toInt hx, t0]
  split <;> omega
theorem e1_lt0 {x : Nat} (hx : x ≤ 1000) : e1 x < 0 ↔ x = 1000 := by
  rw [i_lt, e1_toInt hx, t0]
  split <;> omega
theorem nI_ge0 {x : Nat} (hx : x < 2 ^ 31) : 0 ≤ nI x ↔ True := by
  rw [i_le, nI_toInt hx, t0]
  exact ⟨fun _ => trivial, fun _ => by omega⟩
theorem nI_lt0 {x : Nat} (hx : x < 2 ^ 31) : nI x < 0 ↔ False := by
  rw [i_lt, nI_toInt hx, t0]
  exact ⟨fun h => by omega, fun h => h.elim⟩
theorem nI_eq0 {x : Nat} (hx : x < 2 ^ 31) : nI x = 0 ↔ x = 0 := by
  rw [i_eq, nI_toInt hx, t0]
  omega
theorem nI_le0 {x : Nat} (hx : x < 2 ^ 31) : nI x ≤ 0 ↔ x = 0 := by
  rw [i_le, nI_toInt hx, t0]
  omega
theorem nI_gt0 {x : Nat} (hx : x < 2 ^ 31) : 0 < nI x ↔ 0 < x := by
  rw [i_lt, nI_toInt hx, t0]
  omega
theorem bI_eq0 {b : Bool} : bI b = 0 ↔ b = false := by cases b <;> decide
theorem bI_nar (b : Bool) : narrow .boolean (.int (bI b)) = .int (bI b) := by cases b <;> rfl
theorem bI_fit (b : Bool) : fits .boolean (.int (bI b)) = true := by cases b <;> rfl
theorem up_nI (V : Nat → Nat) (k y : Nat) : upd (fun j => nI (V j)) k (nI y) = fun j => nI (va_up V k y j) := by
  funext j; unfold upd va_up; split <;> rfl
theorem up_e9 (V : Nat → Nat) (k y : Nat) : upd (fun j => e9 (V j)) k (e9 y) = fun j => e9 (va_up V k y j) := by
  funext j; unfold upd va_up; split <;> rfl
theorem up_e9n (V : Nat → Nat) (k y : Nat) (h : y ≠ 1000) : upd (fun j => e9 (V j)) k (nI y) = fun j => e9 (va_up V k y j) := by
  rw [← e9_n h]; exact up_e9 V k y
/-! worlds -/
abbrev kG : Type := va_G × ClassId × ClassId × ClassId
abbrev ar (G : kG) (a n : Nat) (f : Nat → Int32) : Nat × va_E := (a, .inl (G.2.1, n, .inl f))
abbrev arC (G : kG) (a n : Nat) (f : Nat → Int32) : Nat × va_E := (a, .inl (G.2.2.1, n, .inl f))
abbrev arS (G : kG) (a n : Nat) (f : Nat → Option Nat) : Nat × va_E := (a, .inl (G.2.2.2, n, .inr (.inr (.inr (.inr f)))))
abbrev ob (a ci : Nat) (fs : List Value) : Nat × va_E := (a, .inr (ci, fs))
def NW (U : State) : Prop := va_Nw (.methodLinkNest RX5 11 yX3_init RX5) U ∧ va_Nw (.methodLinkNest RX5 28 yX4_init RX5) U ∧ va_Nw (.methodLinkNest RX3 107 yX1_forgetForms RX5) U ∧ va_Nw (.methodLinkNest RX4 65 yX5_isColumn RX5) U
abbrev kT (G : kG) : List (ClassId × FieldType) := [(G.2.1, .int), (G.2.2.1, .char), (G.2.2.2, .object RX1)]
def KK (G : kG) (U : State) : Prop := va_K G.1 vwCl (kT G) U ∧ NW U
theorem KK.warm {G : kG} {s U : State} (hW : s.WarmedH U.vm) (h : KK G s) : KK G U := ⟨va_K.moved hW.alike h.1, va_Nw.warmM hW h.2.1, va_Nw.warmM hW h.2.2.1, va_Nw.warmM hW h.2.2.2.1, va_Nw.warmM hW h.2.2.2.2⟩
theorem KK.call {G : kG} {U : State} {g : JFrame} {mk : MethodId} {a : Array Value} (h : KK G U) : KK G (U.calling g mk a) :=
  ⟨va_K.moved (u := U) (U := U.calling g mk a) (Vm.Alike.refl U.vm) h.1, va_Nw.same (u := U) (U := U.calling g mk a) rfl rfl h.2.1, va_Nw.same (u := U) (U := U.calling g mk a) rfl rfl h.2.2.1, va_Nw.same (u := U) (U := U.calling g mk a) rfl rfl h.2.2.2.1, va_Nw.same (u := U) (U := U.calling g mk a) rfl rfl h.2.2.2.2⟩
/-! contracts' forms -/
def mA (ws : va_W) : Nat → Prop := fun q => ∃ (k : Nat) (e : va_E), ws[k]? = some (q, e)
def cP (G : kG) (av : List Value) (ws : va_W) : Array Value → State → Prop := va_Pc av (fun U => va_P G.1 vwCl ws U.heap ∧ KK G U ∧ va_D (fun _ => True) ws)
theorem cP_blind {G : kG} {av : List Value} {ws : va_W} : FrameBlind (cP G av ws) := fun _ _ _ _ q => ⟨q.1, q.2.1, q.2.2.1.call, q.2.2.2⟩
def qV (B : Heap → Prop) (A : Nat → Prop) : Array Value → State → Outcome → State → Prop := fun _ st oc t => (oc = .returned none ∧ B t.heap) ∧ va_F A st t
def qI (B : Int32 → Heap → Prop) (A : Nat → Prop) : Array Value → State → Outcome → State → Prop := fun _ st oc t => (∃ r : Int32, oc = .returned (some (.int r)) ∧ B r t.heap) ∧ va_F A st t
def qR (B : Nat → Heap → Prop) (A : Nat → Prop) : Array Value → State → Outcome → State → Prop := fun _ st oc t => (∃ r : Nat, oc = .returned (some (.ref r)) ∧ B r t.heap) ∧ va_F A st t
theorem met_ro {l : Launch} {y : MethodName} {wsm ws' : List Cond} {rm : Room} {G : kG} {av : List Value} {ws : va_W} {post : Int32 → Prop} {cc : ByteArray} {maxL : Nat} {ty : FieldType} {own : String} (hy : plainName y.cls = true) (hw : wsm = Cond.code y cc maxL (some ty) :: ws') (hown : y.cls = own) (hn : ∀ v, post v → narrow ty (.int v) = .int v) (hlen : (lg_sl av).length ≤ maxL)
    (body : ∀ (p : Program) (e : Env) (s : State) (m : MethodId) (args : Array Value) (below : List Frame) (meth : Method) (c : Code) (Q : State → Prop), p.tables.exec = Jvm.exec → c.code = cc → c.maxLocals = maxL → s.vm.findClass own = some m.cls → (∀ w ∈ wsm, w.before args s = true) → KK G s → va_P G.1 vwCl ws s.heap → va_D (fun _ => True) ws →
      (∀ (v : Int32) (pc : Nat) (ls : Array Slot), decode cc pc = .ok (.ireturn, 1) → post v → W p l e rm s m args below meth c s.heap [] 0 0 Q (F0 m pc ls [.int v])) → ∀ ls : Array Slot, lv_has ls maxL (lv_args 0 av) → W p l e rm s m args below meth c s.heap [] 0 0 Q (F0 m 0 ls [])) :
    Met l y wsm rm (cP G av ws) (vp_Si post) 0 0 (fun _ => False) := by
  refine Met.ofW (cc := cc) (maxL := maxL) (ret := some ty) hy hw ?_
  intro p e s m args below meth c s₁ B hml hv
  obtain ⟨rfl, hP, hK, hD⟩ := hv
  rw [lg_entry_eq]
  exact body p e s m _ below meth c _ B.exec B.bytes hml (hown ▸ findClass_of_methodNamed B.named) (atoms_spec (ws := wsm) B.pre) hK hP hD (fun v pc ls hd hp => W.zret B.exec B.bytes B.returns (hn v hp) (fun t ht hW => ⟨v, rfl, hp, ht⟩) (fun q h => by cases h) hd (hlocks := B.notSynchronized)) _ (lv_entry av hlen)
theorem mD {ws : va_W} {A : Nat → Prop} (h : va_D A ws) : va_D (mA ws) ws := ⟨h.1, fun k q hk => ⟨k, q.2, hk⟩⟩
theorem met_muV {l : Launch} {y : MethodName} {wsm ws' : List Cond} {rm : Room} {G : kG} {av : List Value} {ws : va_W} {B : Heap → Prop} {cc : ByteArray} {maxL : Nat} {own : String} (hy : plainName y.cls = true) (hw : wsm = Cond.code y cc maxL none :: ws') (hown : y.cls = own) (hlen : (lg_sl av).length ≤ maxL)
    (body : ∀ (p : Program) (e : Env) (s : State) (m : MethodId) (args : Array Value) (below : List Frame) (meth : Method) (c : Code) (Q : State → Prop) (A : Nat → Prop), p.tables.exec = Jvm.exec → c.code = cc → c.maxLocals = maxL → s.vm.findClass own = some m.cls → (∀ w ∈ wsm, w.before args s = true) → KK G s → va_P G.1 vwCl ws s.heap → va_D A ws → va_S A s.heap s.heap [] →
      (∀ (H : Heap) (locs : List Loc) (pc : Nat) (ls : Array Slot), va_S A s.heap H locs → decode cc pc = .ok (.return_, 1) → B H → W p l e rm s m args below meth c H locs 0 0 Q (F0 m pc ls [])) → ∀ ls : Array Slot, lv_has ls maxL (lv_args 0 av) → W p l e rm s m args below meth c s.heap [] 0 0 Q (F0 m 0 ls [])) :
    Met l y wsm rm (cP G av ws) (qV B (mA ws)) 0 0 (mA ws) := by
  refine Met.ofW (cc := cc) (maxL := maxL) (ret := none) hy hw ?_
  intro p e s m args below meth c s₁ X hml hv
  obtain ⟨rfl, hP, hK, hD⟩ := hv
  rw [lg_entry_eq]
  exact body p e s m _ below meth c _ (mA ws) X.exec X.bytes hml (hown ▸ findClass_of_methodNamed X.named) (atoms_spec (ws := wsm) X.pre) hK hP (mD hD) va_S.rf (fun H locs pc ls hS hd hB => W.vret X.exec X.bytes X.returns (fun t ht hW => ⟨⟨rfl, by rw [ht]; exact hB⟩, hS.F ht⟩) hS.2.2 hd (hlocks := X.notSynchronized)) _ (lv_entry av hlen)
theorem met_muI {l : Launch} {y : MethodName} {wsm ws' : List Cond} {rm : Room} {G : kG} {av : List Value} {ws : va_W} {B : Int32 → Heap → Prop} {cc : ByteArray} {maxL : Nat} {ty : FieldType} {own : String} (hy : plainName y.cls = true) (hw : wsm = Cond.code y cc maxL (some ty) :: ws') (hown : y.cls = own) (hn : ∀ v H, B v H → narrow ty (.int v) = .int v) (hlen : (lg_sl av).length ≤ maxL)
    (body : ∀ (p : Program) (e : Env) (s : State) (m : MethodId) (args : Array Value) (below : List Frame) (meth : Method) (c : Code) (Q : State → Prop) (A : Nat → Prop), p.tables.exec = Jvm.exec → c.code = cc → c.maxLocals = maxL → s.vm.findClass own = some m.cls → (∀ w ∈ wsm, w.before args s = true) → KK G s → va_P G.1 vwCl ws s.heap → va_D A ws → va_S A s.heap s.heap [] →
      (∀ (H : Heap) (locs : List Loc) (v : Int32) (pc : Nat) (ls : Array Slot), va_S A s.heap H locs → decode cc pc = .ok (.ireturn, 1) → B v H → W p l e rm s m args below meth c H locs 0 0 Q (F0 m pc ls [.int v])) → ∀ ls : Array Slot, lv_has ls maxL (lv_args 0 av) → W p l e rm s m args below meth c s.heap [] 0 0 Q (F0 m 0 ls [])) :
    Met l y wsm rm (cP G av ws) (qI B (mA ws)) 0 0 (mA ws) := by
  refine Met.ofW (cc := cc) (maxL := maxL) (ret := some ty) hy hw ?_
  intro p e s m args below meth c s₁ X hml hv
  obtain ⟨rfl, hP, hK, hD⟩ := hv
  rw [lg_entry_eq]
  exact body p e s m _ below meth c _ (mA ws) X.exec X.bytes hml (hown ▸ findClass_of_methodNamed X.named) (atoms_spec (ws := wsm) X.pre) hK hP (mD hD) va_S.rf (fun H locs v pc ls hS hd hB => W.zret X.exec X.bytes X.returns (hn v H hB) (fun t ht hW => ⟨⟨v, rfl, by rw [ht]; exact hB⟩, hS.F ht⟩) hS.2.2 hd (hlocks := X.notSynchronized)) _ (lv_entry av hlen)
theorem met_muR {l : Launch} {y : MethodName} {wsm ws' : List Cond} {rm : Room} {G : kG} {av : List Value} {ws : va_W} {B : Nat → Heap → Prop} {cc : ByteArray} {maxL : Nat} {C : String} {own : String} (hy : plainName y.cls = true) (hw : wsm = Cond.code y cc maxL (some (.object C)) :: ws') (hown : y.cls = own) (hlen : (lg_sl av).length ≤ maxL)
    (body : ∀ (p : Program) (e : Env) (s : State) (m : MethodId) (args : Array Value) (below : List Frame) (meth : Method) (c : Code) (Q : State → Prop) (A : Nat → Prop), p.tables.exec = Jvm.exec → c.code = cc → c.maxLocals = maxL → s.vm.findClass own = some m.cls → (∀ w ∈ wsm, w.before args s = true) → KK G s → va_P G.1 vwCl ws s.heap → va_D A ws → va_S A s.heap s.heap [] →
      (∀ (H : Heap) (locs : List Loc) (v : Nat) (pc : Nat) (ls : Array Slot), va_S A s.heap H locs → decode cc pc = .ok (.areturn, 1) → B v H → W p l e rm s m args below meth c H locs 0 0 Q (F0 m pc ls [.ref v])) → ∀ ls : Array Slot, lv_has ls maxL (lv_args 0 av) → W p l e rm s m args below meth c s.heap [] 0 0 Q (F0 m 0 ls [])) :
    Met l y wsm rm (cP G av ws) (qR B (mA ws)) 0 0 (mA ws) := by
  refine Met.ofW (cc := cc) (maxL := maxL) (ret := some (.object C)) hy hw ?_
  intro p e s m args below meth c s₁ X hml hv
  obtain ⟨rfl, hP, hK, hD⟩ := hv
  rw [lg_entry_eq]
  exact body p e s m _ below meth c _ (mA ws) X.exec X.bytes hml (hown ▸ findClass_of_methodNamed X.named) (atoms_spec (ws := wsm) X.pre) hK hP (mD hD) va_S.rf (fun H locs v pc ls hS hd hB => W.aret X.exec X.bytes X.returns (Or.inl ⟨_, rfl⟩) (Or.inr ⟨_, rfl⟩) (fun t ht hW => ⟨⟨v, rfl, by rw [ht]; exact hB⟩, hS.F ht⟩) hS.2.2 hd (hlocks := X.notSynchronized)) _ (lv_entry av hlen)
/-! a world with some of its cells put anew -/
def mrg : va_W → List Nat → va_W → va_W
  | ws, i :: is, x :: xs => mrg (ws.set i x) is xs
  | ws, _, _ => ws
theorem mrg_at : ∀ (is : List Nat) (w1 ws : va_W) (k : Nat) (q : Nat × va_E), is.length = w1.length → (mrg ws is w1)[k]? = some q → (∃ j : Nat, is[j]? = some k ∧ w1[j]? = some q) ∨ (k ∉ is ∧ ws[k]? = some q)
  | [], w1, ws, k, q, _, h => by
    refine Or.inr ⟨List.not_mem_nil, ?_⟩
    simpa [mrg] using h
  | i :: is, [], ws, k, q, hl, h => by simp at hl
  | i :: is, x :: xs, ws, k, q, hl, h => by
    have h' : (mrg (ws.set i x) is xs)[k]? = some q := h
    rcases mrg_at is xs (ws.set i x) k q (by simpa using hl) h' with ⟨j, h1, h2⟩ | ⟨h1, h2⟩
    · exact Or.inl ⟨j + 1, by simpa using h1, by simpa using h2⟩
    · by_cases hk : i = k
      · subst hk
        have hlt : i < ws.length := by
          have := (List.getElem?_eq_some_iff.mp h2).1
          simpa using this
        rw [List.getElem?_set_self hlt] at h2
        exact Or.inl ⟨0, by simp, by simpa using h2⟩
      · rw [List.getElem?_set_ne hk] at h2
        exact Or.inr ⟨by simp only [List.mem_cons, not_or]; exact ⟨fun e => hk e.symm, h1⟩, h2⟩
theorem pl_at {α β : Type} {f : α → Option β} {is : List α} {w : List β} (hs : is.map f = w.map some) {k : Nat} {q : β} (hq : w[k]? = some q) : ∃ i, is[k]? = some i ∧ f i = some q := by
  have h1 : (is.map f)[k]? = some (some q) := by rw [hs, List.getElem?_map, hq]; rfl
  rw [List.getElem?_map] at h1
  cases hi : is[k]? with
  | none => rw [hi] at h1; cases h1
  | some i => rw [hi] at h1; exact ⟨i, rfl, Option.some.inj h1⟩
theorem pl_at' {α β : Type} {f : α → Option β} {is : List α} {w : List β} (hs : is.map f = w.map some) {k : Nat} {i : α} (hi : is[k]? = some i) : ∃ q, w[k]? = some q ∧ f i = some q := by
  have h1 : (w.map some)[k]? = some (f i) := by rw [← hs, List.getElem?_map, hi]; rfl
  rw [List.getElem?_map] at h1
  cases hq : w[k]? with
  | none => rw [hq] at h1; cases h1
  | some q => rw [hq] at h1; exact ⟨q, rfl, (Option.some.inj h1).symm⟩
theorem pl_P {D : va_G} {cl : List vw_C} {ws wc : va_W} {H : Heap} (h : va_P D cl ws H) {is : List Nat} (hs : is.map (fun i => ws[i]?) = wc.map some) : va_P D cl wc H := by
  intro k q hq
  obtain ⟨i, -, h2⟩ := pl_at hs hq
  exact h i q h2
theorem mA_sub {A : Nat → Prop} {ws wc : va_W} (hD : va_D A ws) {is : List Nat} (hs : is.map (fun i => ws[i]?) = wc.map some) : ∀ q, mA wc q → A q := by
  rintro q ⟨k, e, hk⟩
  obtain ⟨i, -, h2⟩ := pl_at hs hk
  exact hD.2 i _ h2
theorem mrg_D {A : Nat → Prop} {ws wc w1 : va_W} (hD : va_D A ws) {is : List Nat} (hs : is.map (fun i => ws[i]?) = wc.map some) (ha : w1.map (·.1) = wc.map (·.1)) : va_D A (mrg ws is w1) := by
  have hlen : is.length = w1.length := by
    have h1 := congrArg List.length hs
    have h2 := congrArg List.length ha
    simp only [List.length_map] at h1 h2
    omega
  have key : ∀ (k : Nat) (q : Nat × va_E), (mrg ws is w1)[k]? = some q → ∃ q0, ws[k]? = some q0 ∧ q0.1 = q.1 := by
    intro k q hq
    rcases mrg_at is w1 ws k q hlen hq with ⟨j, h1, h2⟩ | ⟨-, h2⟩
    · obtain ⟨q0, h3, h4⟩ := pl_at' hs h1
      refine ⟨q0, h4, ?_⟩
      have e1 : (w1.map (·.1))[j]? = some q.1 := by rw [List.getElem?_map, h2]; rfl
      rw [ha, List.getElem?_map, h3] at e1
      exact Option.some.inj e1
    · exact ⟨q, h2, rfl⟩
  refine ⟨fun i j x y hi hj hxy => ?_, fun k q hk => ?_⟩
  · obtain ⟨x0, h1, h2⟩ := key i x hi
    obtain ⟨y0, h3, h4⟩ := key j y hj
    exact hD.1 i j x0 y0 h1 h3 (h2.trans (hxy.trans h4.symm))
  · obtain ⟨q0, h1, h2⟩ := key k q hk
    rw [← h2]
    exact hD.2 k q0 h1
theorem mrg_P {A : Nat → Prop} {D : va_G} {cl : List vw_C} {ws wc w1 : va_W} {H H1 : Heap} (hP : va_P D cl ws H) (hD : va_D A ws) {is : List Nat} (hs : is.map (fun i => ws[i]?) = wc.map some) (ha : w1.map (·.1) = wc.map (·.1)) (hk : ∀ q : Nat, q < H.size → ¬ mA wc q → H1[q]? = H[q]?) (hP1 : va_P D cl w1 H1) : va_P D cl (mrg ws is w1) H1 := by
  have hlen : is.length = w1.length := by
    have h1 := congrArg List.length hs
    have h2 := congrArg List.length ha
    simp only [List.length_map] at h1 h2
    omega
  intro k q hq
  rcases mrg_at is w1 ws k q hlen hq with ⟨j, -, h2⟩ | ⟨h1, h2⟩
  · exact hP1 j q h2
  · refine (hP k q h2).kept (hk q.1 (hP k q h2).lt ?_)
    rintro ⟨j, e, hj⟩
    obtain ⟨i, h3, h4⟩ := pl_at hs hj
    have := hD.1 k i q _ h2 h4 rfl
    subst this
    exact h1 (List.mem_of_getElem? h3)
/-- the contents of a row, said otherwise -/
theorem P_ext {D : va_G} {cl : List vw_C} {ws : va_W} {H : Heap} (h : va_P D cl ws H) (k : Nat) {a n : Nat} {cA : ClassId} {f : Nat → Int32} (g : Nat → Int32) (hk : ws[k]? = some (a, .inl (cA, n, .inl f))) (hfg : ∀ j, j < n → f j = g j) : va_P D cl (ws.set k (a, .inl (cA, n, .inl g))) H := by
  have hl := (List.getElem?_eq_some_iff.mp hk).1
  intro i q hi
  by_cases e : k = i
  · subst e
    rw [List.getElem?_set_self hl] at hi
    cases hi
    have h1 := h k _ hk
    show H[a]? = some (vp_cell cA (n, .inl g))
    have h2 : H[a]? = some (vp_cell cA (n, .inl f)) := h1
    rw [h2, vp_cell_i, vp_cell_i]
    unfold arrV
    congr 2
    apply congrArg
    funext j
    exact congrArg Value.int (hfg j.val j.isLt)
  · rw [List.getElem?_set_ne e] at hi
    exact h i q hi
theorem D_ext {A : Nat → Prop} {ws : va_W} (h : va_D A ws) (k : Nat) {a : Nat} {e e' : va_E} (hk : ws[k]? = some (a, e)) : va_D A (ws.set k (a, e')) := h.set hk
end
section
/-! rows on bits, shifts and unsigned numbers, to paste: each family out of a closed proof of our own, whole with what it rests on; each by itself clean at Lean in its own claim (generation 39, form 5). Take a family whole -/
/-! ===== Int32 by its bits: bt x i ===== -/
def bt (x : Int32) (i : Nat) : Bool := x.toBitVec.getLsbD i
theorem b_ext {x y : Int32} (h : ∀ i, i < 32 → bt x i = bt y i) : x = y := Int32.toBitVec_inj.mp (BitVec.eq_of_getLsbD_eq (fun i hi => h i hi))
theorem b_or (x y : Int32) (i : Nat) : bt (x ||| y) i = (bt x i || bt y i) := by unfold bt; rw [Int32.toBitVec_or, BitVec.getLsbD_or]
theorem b_and (x y : Int32) (i : Nat) : bt (x &&& y) i = (bt x i && bt y i) := by unfold bt; rw [Int32.toBitVec_and, BitVec.getLsbD_and]
theorem b_xor (x y : Int32) (i : Nat) : bt (x ^^^ y) i = (bt x i ^^ bt y i) := by unfold bt; rw [Int32.toBitVec_xor, BitVec.getLsbD_xor]
theorem b_big {x : Int32} {i : Nat} (h : 32 ≤ i) : bt x i = false := BitVec.getLsbD_of_ge _ _ h
theorem b_255 (i : Nat) : bt 255 i = decide (i < 8) := by
  rcases Nat.lt_or_ge i 32 with h | h
  · exact (by decide +kernel : ∀ i, i < 32 → bt 255 i = decide (i < 8)) i h
  · rw [b_big h, decide_eq_false (by omega)]
theorem b_65535 (i : Nat) : bt 65535 i = decide (i < 16) := by
  rcases Nat.lt_or_ge i 32 with h | h
  · exact (by decide +kernel : ∀ i, i < 32 → bt 65535 i = decide (i < 16)) i h
  · rw [b_big h, decide_eq_false (by omega)]
theorem b_m1 : ∀ i, i < 32 → bt (-1) i = true := by decide +kernel
theorem b_0 (i : Nat) : bt 0 i = false := BitVec.getLsbD_zero
theorem s_l : ∀ n, n < 32 → ((nI n &&& 31).toBitVec.smod 32).toNat = n := by decide +kernel
theorem s_u : ∀ n, n < 32 → (((nI n).toUInt32 &&& Int32.toUInt32 31).toBitVec % 32).toNat = n := by decide +kernel
theorem b_shl (n : Nat) (hn : n < 32) (x : Int32) {i : Nat} (hi : i < 32) : bt (x <<< (nI n &&& 31)) i = (decide (n ≤ i) && bt x (i - n)) := by
  unfold bt
  rw [Int32.toBitVec_shiftLeft]
  show (x.toBitVec <<< ((nI n &&& 31).toBitVec.smod 32).toNat).getLsbD i = _
  rw [s_l n hn, BitVec.getLsbD_shiftLeft]
  rcases Nat.lt_or_ge i n with h | h
  · simp [h, Nat.not_le.mpr h]
  · simp [hi, h, Nat.not_lt.mpr h]
theorem b_ushr (n : Nat) (hn : n < 32) (x : Int32) (i : Nat) : bt ((x.toUInt32 >>> ((nI n).toUInt32 &&& Int32.toUInt32 31)).toInt32) i = bt x (n + i) := by
  show (x.toUInt32 >>> ((nI n).toUInt32 &&& Int32.toUInt32 31)).toBitVec.getLsbD i = x.toUInt32.toBitVec.getLsbD (n + i)
  rw [UInt32.toBitVec_shiftRight]
  show (x.toUInt32.toBitVec >>> (((nI n).toUInt32 &&& Int32.toUInt32 31).toBitVec % 32).toNat).getLsbD i = _
  rw [s_u n hn, BitVec.getLsbD_ushiftRight]
theorem b_sshr (n : Nat) (hn : n < 32) (x : Int32) {i : Nat} (hi : i < 32) : bt (x >>> (nI n &&& 31)) i = if n + i < 32 then bt x (n + i) else bt x 31 := by
  unfold bt
  rw [Int32.toBitVec_shiftRight]
  show (x.toBitVec.sshiftRight ((nI n &&& 31).toBitVec.smod 32).toNat).getLsbD i = _
  rw [s_l n hn, BitVec.getLsbD_sshiftRight, BitVec.msb_eq_getLsbD_last]
  simp [hi]
theorem b_shl8 (x : Int32) {i : Nat} (hi : i < 32) : bt (x <<< ((8 : Int32) &&& 31)) i = (decide (8 ≤ i) && bt x (i - 8)) := b_shl 8 (by omega) x hi
theorem b_shl16 (x : Int32) {i : Nat} (hi : i < 32) : bt (x <<< ((16 : Int32) &&& 31)) i = (decide (16 ≤ i) && bt x (i - 16)) := b_shl 16 (by omega) x hi
theorem b_shl24 (x : Int32) {i : Nat} (hi : i < 32) : bt (x <<< ((24 : Int32) &&& 31)) i = (decide (24 ≤ i) && bt x (i - 24)) := b_shl 24 (by omega) x hi
theorem b_sshr8 (x : Int32) {i : Nat} (hi : i < 32) : bt (x >>> ((8 : Int32) &&& 31)) i = if 8 + i < 32 then bt x (8 + i) else bt x 31 := b_sshr 8 (by omega) x hi
/-! ===== nI under and, xor, >>>, one bit, 65535 ===== -/
theorem nx_and (a b : Nat) : nI a &&& nI b = nI (a &&& b) := by
  apply Int32.toBitVec_inj.1
  show BitVec.ofNat 32 a &&& BitVec.ofNat 32 b = BitVec.ofNat 32 (a &&& b)
  apply BitVec.eq_of_getLsbD_eq
  intro i hi
  simp [hi]
theorem nx_xor (a b : Nat) : nI a ^^^ nI b = nI (a ^^^ b) := by
  apply Int32.toBitVec_inj.1
  show BitVec.ofNat 32 a ^^^ BitVec.ofNat 32 b = BitVec.ofNat 32 (a ^^^ b)
  apply BitVec.eq_of_getLsbD_eq
  intro i hi
  simp [hi]
theorem nx_cnt : ∀ j : Fin 32, (UInt32.ofNat j.val &&& Int32.toUInt32 31).toNat % 32 = j.val := by decide +kernel
theorem nx_ush {k j : Nat} (hk : k < 65536) (hj : j < 32) : ((nI k).toUInt32 >>> ((nI j).toUInt32 &&& Int32.toUInt32 31)).toInt32 = nI (k >>> j) := by
  have hs : k >>> j ≤ k := by
    rw [Nat.shiftRight_eq_div_pow]
    exact Nat.div_le_self _ _
  have e2 : UInt32.ofNat k >>> (UInt32.ofNat j &&& Int32.toUInt32 31) = UInt32.ofNat (k >>> j) := by
    apply UInt32.toNat_inj.1
    have h1 : (UInt32.ofNat k).toNat = k := Nat.mod_eq_of_lt (by omega)
    have h2 : (UInt32.ofNat (k >>> j)).toNat = k >>> j := Nat.mod_eq_of_lt (by omega)
    rw [UInt32.toNat_shiftRight, nx_cnt ⟨j, hj⟩, h1, h2]
  show (UInt32.ofNat k >>> (UInt32.ofNat j &&& Int32.toUInt32 31)).toInt32 = _
  rw [e2]
  rfl
theorem nx_bit {k j : Nat} (hk : k < 65536) (hj : j < 16) : (((nI k).toUInt32 >>> ((nI j).toUInt32 &&& Int32.toUInt32 31)).toInt32 &&& 1) = 0 ↔ k.testBit j = false := by
  rw [nx_ush hk (by omega)]
  show nI (k >>> j) &&& nI 1 = 0 ↔ _
  rw [nx_and, Nat.and_one_is_mod, ← nI_0, nI_eq (by omega) (by omega), Nat.testBit_eq_decide_div_mod_eq, Nat.shiftRight_eq_div_pow, decide_eq_false_iff_not]
  generalize k / 2 ^ j = z
  omega
theorem nx_mod (k : Nat) : nI k &&& 65535 = nI (k % 65536) := by
  show nI k &&& nI 65535 = _
  rw [nx_and, show (65535 : Nat) = 2 ^ 16 - 1 from rfl, Nat.and_two_pow_sub_one_eq_mod]
theorem nx_m16 {k : Nat} (h : k < 65536) : nI k &&& 65535 = nI k := by rw [nx_mod, Nat.mod_eq_of_lt h]
theorem nx_mask (x : Int32) : ∃ k, k < 65536 ∧ x &&& 65535 = nI k := by
  have e : x = nI x.toBitVec.toNat := by
    apply Int32.toBitVec_inj.1
    show x.toBitVec = BitVec.ofNat 32 x.toBitVec.toNat
    simp
  refine ⟨x.toBitVec.toNat % 65536, Nat.mod_lt _ (by omega), ?_⟩
  rw [← nx_mod, ← e]
/-! ===== Int32 as a set of bits: test, set ===== -/
def nf_M (m : Int32) : Nat := 4294967296 - m.toBitVec.toNat
theorem nf_sh : ∀ l, l < 32 → ((1 : Int32) <<< (nI l &&& 31)).toBitVec = BitVec.twoPow 32 l := by decide +kernel
theorem nf_sl : ∀ l, l < 32 → (((nI l).toUInt32 &&& Int32.toUInt32 31).toBitVec % 32).toNat = l := by decide +kernel
theorem nf_tp : ∀ l, l < 32 → BitVec.twoPow 32 l ≠ 0#32 := by decide +kernel
theorem nf_bit (m : Int32) (l : Nat) (hl : l < 32) : ((m.toUInt32 >>> ((nI l).toUInt32 &&& Int32.toUInt32 31)).toInt32 &&& 1) = 0 ↔ (m &&& ((1 : Int32) <<< (nI l &&& 31))) = 0 := by
  have e : ((m.toUInt32 >>> ((nI l).toUInt32 &&& Int32.toUInt32 31)).toInt32).toBitVec = m.toBitVec >>> l := by
    show m.toBitVec >>> (((nI l).toUInt32 &&& Int32.toUInt32 31).toBitVec % 32) = m.toBitVec >>> l
    rw [BitVec.ushiftRight_eq', nf_sl l hl]
  rw [← Int32.toBitVec_inj, ← Int32.toBitVec_inj, Int32.toBitVec_and, Int32.toBitVec_and, nf_sh l hl, e, BitVec.and_twoPow]
  show (m.toBitVec >>> l &&& 1#32) = 0#32 ↔ _ = 0#32
  rw [BitVec.and_one_eq_setWidth_ofBool_getLsbD, BitVec.getLsbD_ushiftRight, Nat.add_zero]
  cases hb : m.toBitVec.getLsbD l
  · exact ⟨fun _ => by simp, fun _ => by decide⟩
  · exact ⟨fun z => absurd z (by decide), fun z => absurd ((if_pos rfl).symm.trans z) (nf_tp l hl)⟩
theorem nf_gr (m k : Int32) (h : m &&& k = 0) (hk : k ≠ 0) : nf_M (m ||| k) < nf_M m := by
  have hm := m.toBitVec.isLt
  have hm' := (m ||| k).toBitVec.isLt
  have h1 : m.toBitVec.toNat ≤ (m ||| k).toBitVec.toNat := by
    rw [Int32.toBitVec_or, BitVec.toNat_or]
    exact Nat.left_le_or
  have h2 : m.toBitVec.toNat ≠ (m ||| k).toBitVec.toNat := by
    intro e
    have e2 : m = m ||| k := Int32.toBitVec_inj.mp (BitVec.eq_of_toNat_eq e)
    apply hk
    apply Int32.toBitVec_inj.mp
    show k.toBitVec = 0#32
    apply BitVec.eq_of_getLsbD_eq
    intro i hi
    have a : m.toBitVec.getLsbD i = (m.toBitVec.getLsbD i || k.toBitVec.getLsbD i) := by rw [← BitVec.getLsbD_or, ← Int32.toBitVec_or, ← e2]
    have b : (m.toBitVec.getLsbD i && k.toBitVec.getLsbD i) = false := by
      rw [← BitVec.getLsbD_and, ← Int32.toBitVec_and, h]
      exact BitVec.getLsbD_zero
    rw [BitVec.getLsbD_zero]
    revert a b
    cases m.toBitVec.getLsbD i <;> cases k.toBitVec.getLsbD i <;> simp
  unfold nf_M
  omega
/-! ===== a byte read unsigned ===== -/
theorem bp_b (x : Int32) : x.toInt8.toInt32 &&& 255 = x &&& 255 := by
  apply Int32.toBitVec_inj.mp
  rw [Int32.toBitVec_and, Int32.toBitVec_and, Int8.toBitVec_toInt32, Int32.toBitVec_toInt8]
  apply BitVec.eq_of_getLsbD_eq
  intro i hi
  rw [BitVec.getLsbD_and, BitVec.getLsbD_and]
  have hm : ∀ i < 32, 8 ≤ i → (255 : Int32).toBitVec.getLsbD i = false := by decide
  rcases Nat.lt_or_ge i 8 with z | z
  · rw [BitVec.getLsbD_signExtend, BitVec.getLsbD_signExtend, if_pos z, if_pos hi]
    simp only [z, hi, decide_true, Bool.true_and]
  · rw [hm i hi z]; simp
/-! ===== the char cast and 65535 ===== -/
/-! ===== Int64 as a set of bits: test, set, clear ===== -/
theorem ts_nf {x : Bool} (h : ¬ x = false) : x = true := by cases x <;> first | rfl | exact absurd rfl h
theorem ts_nt {x : Bool} (h : ¬ x = true) : x = false := by cases x <;> first | rfl | exact absurd rfl h
theorem ts_bit {w : Int64} {s : UInt64} {j : Nat} (hj : j < 64) (hs : s.toNat = j) : ((w.toUInt64 >>> s).toInt64 &&& 1) = 0 ↔ w.toBitVec.getLsbD j = false := by
  have e : (w.toUInt64 >>> s).toInt64.toBitVec = w.toBitVec >>> j := by
    apply BitVec.eq_of_toNat_eq
    show (w.toUInt64 >>> s).toNat = _
    rw [UInt64.toNat_shiftRight, hs, Nat.mod_eq_of_lt hj, BitVec.toNat_ushiftRight]
    rfl
  rw [← Int64.toBitVec_inj, Int64.toBitVec_and, e]
  show w.toBitVec >>> j &&& 1#64 = 0#64 ↔ _
  constructor
  · intro h
    have t := congrArg (fun x => x.getLsbD 0) h
    simpa using t
  · intro h
    apply BitVec.eq_of_getLsbD_eq
    intro i hi
    cases i with
    | zero => simp [h]
    | succ i => simp
theorem ts_or {w m : Int64} {j : Nat} (hj : j < 64) (hm : m.toBitVec = BitVec.twoPow 64 j) : (w ||| m) = w ↔ w.toBitVec.getLsbD j = true := by
  rw [← Int64.toBitVec_inj, Int64.toBitVec_or, hm]
  constructor
  · intro h
    have t := congrArg (fun x => x.getLsbD j) h
    simp only [BitVec.getLsbD_or, BitVec.getLsbD_twoPow] at t
    simpa [hj] using t.symm
  · intro h
    apply BitVec.eq_of_getLsbD_eq
    intro i hi
    rw [BitVec.getLsbD_or, BitVec.getLsbD_twoPow]
    by_cases e : j = i
    · subst e; rw [h, Bool.true_or]
    · simp [e]
theorem ts_and {w m : Int64} {j : Nat} (hj : j < 64) (hm : m.toBitVec = BitVec.twoPow 64 j) : (w &&& (m ^^^ (-1))) = w ↔ w.toBitVec.getLsbD j = false := by
  have ha : (-1 : Int64).toBitVec = BitVec.allOnes 64 := by decide
  rw [← Int64.toBitVec_inj, Int64.toBitVec_and, Int64.toBitVec_xor, hm, ha]
  constructor
  · intro h
    have t := congrArg (fun x => x.getLsbD j) h
    simp only [BitVec.getLsbD_and, BitVec.getLsbD_xor, BitVec.getLsbD_twoPow, BitVec.getLsbD_allOnes] at t
    simpa [hj] using t.symm
  · intro h
    apply BitVec.eq_of_getLsbD_eq
    intro i hi
    rw [BitVec.getLsbD_and, BitVec.getLsbD_xor, BitVec.getLsbD_twoPow, BitVec.getLsbD_allOnes]
    by_cases e : j = i
    · subst e; rw [h, Bool.false_and]
    · simp [e, hi]
/-! ===== lN n to 2^64: shifts, and, or, masks, one bit ===== -/
theorem wb_tb (n : Nat) : (lN n).toBitVec = BitVec.ofNat 64 n := rfl
theorem wb_inj {a b : Int64} (h : a.toBitVec = b.toBitVec) : a = b := Int64.toBitVec_inj.mp h
theorem wb_tn {n : Nat} (h : n < 2 ^ 64) : (lN n).toBitVec.toNat = n := by rw [wb_tb, BitVec.toNat_ofNat, Nat.mod_eq_of_lt h]
theorem wb_of (x : Int64) : ∃ n, n < 2 ^ 64 ∧ x = lN n := ⟨x.toBitVec.toNat, x.toBitVec.isLt, wb_inj (by rw [wb_tb]; simp)⟩
theorem wb_of32 (x : Int32) : ∃ n, n < 2 ^ 32 ∧ x = nI n := ⟨x.toBitVec.toNat, x.toBitVec.isLt, Int32.toBitVec_inj.mp (by show _ = BitVec.ofNat 32 _; simp)⟩
theorem wb_c : ∀ k, k < 64 → ((nI k).toInt64 &&& 63) = lN k := by decide +kernel
theorem wb_cu : ∀ k, k < 64 → ((nI k).toInt64.toUInt64 &&& Int64.toUInt64 63) = UInt64.ofNat k := by decide +kernel
theorem wb_sm : ∀ k, k < 64 → (BitVec.ofNat 64 k).smod 64 = BitVec.ofNat 64 k := by decide +kernel
theorem wb_pw {a b : Nat} (h : a ≤ b) : 2 ^ b = 2 ^ a * 2 ^ (b - a) := by rw [← Nat.pow_add]; congr 1; omega
theorem wb_lt2 {a b : Nat} (h : a < b) : 2 ^ a < 2 ^ b := Nat.pow_lt_pow_right (by decide) h
theorem wb_mod (n : Nat) : lN n = lN (n % 2 ^ 64) := wb_inj (by rw [wb_tb, wb_tb]; apply BitVec.eq_of_toNat_eq; rw [BitVec.toNat_ofNat, BitVec.toNat_ofNat, Nat.mod_mod])
theorem wb_shr {n k : Nat} (hn : n < 2 ^ 64) (hk : k < 64) : ((lN n).toUInt64 >>> ((nI k).toInt64.toUInt64 &&& Int64.toUInt64 63)).toInt64 = lN (n / 2 ^ k) := by
  rw [wb_cu k hk]
  apply wb_inj
  apply BitVec.eq_of_toNat_eq
  show ((lN n).toUInt64 >>> UInt64.ofNat k).toNat = (BitVec.ofNat 64 _).toNat
  have h1 : (UInt64.ofNat k).toNat = k := by
    show (BitVec.ofNat 64 k).toNat = k
    rw [BitVec.toNat_ofNat, Nat.mod_eq_of_lt (by omega)]
  have h2 : (lN n).toUInt64.toNat = n := wb_tn hn
  rw [UInt64.toNat_shiftRight, h1, h2, Nat.mod_eq_of_lt hk, Nat.shiftRight_eq_div_pow, BitVec.toNat_ofNat, Nat.mod_eq_of_lt (Nat.lt_of_le_of_lt (Nat.div_le_self _ _) hn)]
theorem wb_shl (n : Nat) {k : Nat} (hk : k < 64) : lN n <<< ((nI k).toInt64 &&& 63) = lN (n * 2 ^ k) := by
  rw [wb_c k hk]
  apply wb_inj
  rw [Int64.toBitVec_shiftLeft, wb_tb, wb_tb, wb_tb, wb_sm k hk]
  apply BitVec.eq_of_toNat_eq
  rw [BitVec.shiftLeft_eq', BitVec.toNat_shiftLeft, BitVec.toNat_ofNat, BitVec.toNat_ofNat, BitVec.toNat_ofNat, Nat.mod_eq_of_lt (show k < 2 ^ 64 by omega), Nat.shiftLeft_eq, Nat.mul_mod, Nat.mod_mod, ← Nat.mul_mod]
theorem wb_and {a b : Nat} (ha : a < 2 ^ 64) (hb : b < 2 ^ 64) : lN a &&& lN b = lN (a &&& b) := by
  apply wb_inj
  rw [Int64.toBitVec_and, wb_tb, wb_tb, wb_tb]
  apply BitVec.eq_of_toNat_eq
  rw [BitVec.toNat_and, BitVec.toNat_ofNat, BitVec.toNat_ofNat, BitVec.toNat_ofNat, Nat.mod_eq_of_lt ha, Nat.mod_eq_of_lt hb, Nat.mod_eq_of_lt (Nat.and_lt_two_pow _ hb)]
theorem wb_or {a b : Nat} (ha : a < 2 ^ 64) (hb : b < 2 ^ 64) : lN a ||| lN b = lN (a ||| b) := by
  apply wb_inj
  rw [Int64.toBitVec_or, wb_tb, wb_tb, wb_tb]
  apply BitVec.eq_of_toNat_eq
  rw [BitVec.toNat_or, BitVec.toNat_ofNat, BitVec.toNat_ofNat, BitVec.toNat_ofNat, Nat.mod_eq_of_lt ha, Nat.mod_eq_of_lt hb, Nat.mod_eq_of_lt (Nat.or_lt_two_pow ha hb)]
theorem wb_mask {n k : Nat} (hn : n < 2 ^ 64) (hk : k < 64) : lN n &&& lN (2 ^ k - 1) = lN (n % 2 ^ k) := by
  rw [wb_and hn (by have := wb_lt2 hk; omega), Nat.and_two_pow_sub_one_eq_mod]
theorem wb_a1 {n : Nat} (hn : n < 2 ^ 64) : lN n &&& 1 = lN (n % 2) := wb_mask (k := 1) hn (by decide)
theorem wb_bit {n k : Nat} (hn : n < 2 ^ 64) (hk : k < 64) : ((lN n).toUInt64 >>> ((nI k).toInt64.toUInt64 &&& Int64.toUInt64 63)).toInt64 &&& 1 = lN (n / 2 ^ k % 2) := by
  rw [wb_shr hn hk, wb_a1 (Nat.lt_of_le_of_lt (Nat.div_le_self _ _) hn)]
theorem wb_xor {q k : Nat} (hk : k < 63) (h : 2 ^ k ≤ q) (h2 : q < 2 ^ (k + 1)) : lN q ^^^ lN (2 ^ k) = lN (q - 2 ^ k) := by
  obtain ⟨r, rfl⟩ : ∃ r, q = 2 ^ k + r := ⟨q - 2 ^ k, by omega⟩
  have hr : r < 2 ^ k := by rw [Nat.pow_succ] at h2; omega
  have hx : (2 ^ k + r) ^^^ 2 ^ k = r := by
    apply Nat.eq_of_testBit_eq
    intro i
    rw [Nat.testBit_xor, Nat.testBit_two_pow]
    rcases Nat.lt_trichotomy i k with h | h | h
    · rw [Nat.testBit_two_pow_add_gt h]
      simp [show ¬ k = i by omega]
    · subst h
      rw [Nat.testBit_two_pow_add_eq]
      simp
    · have a1 : 2 ^ (k + 1) ≤ 2 ^ i := Nat.pow_le_pow_right (by decide) h
      rw [Nat.testBit_lt_two_pow (show 2 ^ k + r < 2 ^ i by omega), Nat.testBit_lt_two_pow (show r < 2 ^ i by omega)]
      simp [show ¬ k = i by omega]
  have b1 := wb_lt2 (show k + 1 < 64 by omega)
  have b2 := wb_lt2 (show k < 64 by omega)
  apply wb_inj
  rw [Int64.toBitVec_xor, wb_tb, wb_tb, wb_tb]
  apply BitVec.eq_of_toNat_eq
  rw [BitVec.toNat_xor, BitVec.toNat_ofNat, BitVec.toNat_ofNat, BitVec.toNat_ofNat, Nat.mod_eq_of_lt (by omega : 2 ^ k + r < 2 ^ 64), Nat.mod_eq_of_lt b2, hx, Nat.add_sub_cancel_left, Nat.mod_eq_of_lt (by omega)]
/-! ===== lN: masks, 'or' of parts that don't overlap is a sum ===== -/
theorem u_tn {n : Nat} (h : n < 2 ^ 64) : (UInt64.ofNat n).toNat = n := Nat.mod_eq_of_lt h
theorem g_and {a b c : Nat} (ha : a < 2 ^ 64) (hb : b < 2 ^ 64) (hc : a &&& b = c) : lN a &&& lN b = lN c := by
  subst hc
  have h : UInt64.ofNat a &&& UInt64.ofNat b = UInt64.ofNat (a &&& b) := UInt64.toNat_inj.mp (by rw [UInt64.toNat_and, u_tn ha, u_tn hb, u_tn (Nat.and_lt_two_pow a hb)])
  have h2 := congrArg UInt64.toInt64 h
  exact h2
theorem g_and1 {a : Nat} (ha : a < 2 ^ 64) : lN a &&& 1 = lN (a % 2) := g_and (b := 1) ha (by decide) (Nat.and_two_pow_sub_one_eq_mod a 1)
theorem g_mask {a s p : Nat} (hp : 2 ^ s = p) (hs : s < 64) (ha : a < 2 ^ 64) : lN a &&& lN (p - 1) = lN (a % p) := by
  subst hp
  have := Nat.pow_lt_pow_right (show 1 < 2 by decide) hs
  exact g_and ha (by omega) (Nat.and_two_pow_sub_one_eq_mod a s)
theorem g_or {k p a b : Nat} (hp : 2 ^ k = p) (ha : a < p) (h : b * p + a < 2 ^ 64) : lN (b * p) ||| lN a = lN (b * p + a) := by
  subst hp
  have h1 : b * 2 ^ k ||| a = b * 2 ^ k + a := by rw [← Nat.shiftLeft_eq, Nat.shiftLeft_add_eq_or_of_lt ha]
  have h3 : UInt64.ofNat (b * 2 ^ k) ||| UInt64.ofNat a = UInt64.ofNat (b * 2 ^ k + a) := UInt64.toNat_inj.mp (by rw [UInt64.toNat_or, u_tn (by omega), u_tn (by omega), u_tn h, h1])
  have h2 := congrArg UInt64.toInt64 h3
  exact h2
theorem g_or' {k p a b : Nat} (hp : 2 ^ k = p) (ha : a < p) (h : a + b * p < 2 ^ 64) : lN a ||| lN (b * p) = lN (a + b * p) := by
  rw [Int64.or_comm, g_or hp ha (by omega), Nat.add_comm]
theorem g_ushr {a k p : Nat} {y : UInt64} (hy : y = UInt64.ofNat k) (hk : k < 64) (hp : 2 ^ k = p) (ha : a < 2 ^ 64) : ((lN a).toUInt64 >>> y).toInt64 = lN (a / p) := by
  subst hy hp
  have h : UInt64.ofNat a >>> UInt64.ofNat k = UInt64.ofNat (a / 2 ^ k) := UInt64.toNat_inj.mp (by rw [UInt64.toNat_shiftRight, u_tn ha, u_tn (by omega), u_tn (Nat.lt_of_le_of_lt (Nat.div_le_self _ _) ha), Nat.mod_eq_of_lt hk, Nat.shiftRight_eq_div_pow])
  have h2 := congrArg UInt64.toInt64 h
  exact h2
theorem g_shl {a k p : Nat} {y : Int64} (hy : y.toBitVec.smod 64 = BitVec.ofNat 64 k) (hk : k < 64) (hp : 2 ^ k = p) (ha : a < 2 ^ 64) : lN a <<< y = lN (a * p) := by
  subst hp
  apply Int64.toBitVec_inj.mp
  rw [Int64.toBitVec_shiftLeft, hy]
  apply BitVec.eq_of_toNat_eq
  have hb : (lN a).toBitVec.toNat = a := Nat.mod_eq_of_lt ha
  have hk' : (BitVec.ofNat 64 k).toNat = k := Nat.mod_eq_of_lt (by omega)
  have h : ((lN a).toBitVec <<< BitVec.ofNat 64 k).toNat = (a * 2 ^ k) % 2 ^ 64 := by simp only [BitVec.shiftLeft_eq', BitVec.toNat_shiftLeft, hb, hk', Nat.shiftLeft_eq]
  exact h
/-! ===== lN to 2^62 under >> and >>> ===== -/
theorem pf_lI {a : Nat} (h : a < 2 ^ 63) : (lN a).toInt = (a : Int) := lg_ofNat_toInt h
theorem pf_shr {a d : Nat} {D : Int64} (hD : (D.toBitVec.smod 64).toNat = d) (h : a < 2 ^ 62) : lN a >>> D = lN (a / 2 ^ d) := by
  have hd : a / 2 ^ d ≤ a := Nat.div_le_self _ _
  apply Int64.toInt_inj.mp
  have e : (lN a >>> D).toInt = (lN a).toInt >>> d := by
    rw [← hD]
    exact BitVec.toInt_sshiftRight ..
  rw [e, Int.shiftRight_eq_div_pow, pf_lI (by omega), pf_lI (by omega)]
  rfl
theorem pf_ushr {a d : Nat} {D : UInt64} (hD : D.toNat % 64 = d) (h : a < 2 ^ 62) : ((lN a).toUInt64 >>> D).toInt64 = lN (a / 2 ^ d) := by
  have hd : a / 2 ^ d ≤ a := Nat.div_le_self _ _
  have e : (lN a).toUInt64 >>> D = UInt64.ofNat (a / 2 ^ d) := UInt64.toNat_inj.mp (by
    rw [UInt64.toNat_shiftRight, hD, Nat.shiftRight_eq_div_pow, UInt64.toNat_ofNat']
    show (UInt64.ofNat a).toNat / 2 ^ d = _
    rw [UInt64.toNat_ofNat', Nat.mod_eq_of_lt (by omega), Nat.mod_eq_of_lt (by omega)])
  rw [e]
  rfl
theorem pf_andw (x : Int64) : ∃ m, m < 2 ^ 32 ∧ x &&& 4294967295 = lN m := ⟨x.toBitVec.toNat % 2 ^ 32, Nat.mod_lt _ (by decide), Int64.toBitVec_inj.mp (BitVec.eq_of_toNat_eq (by
  show (x.toBitVec &&& 4294967295#64).toNat = (BitVec.ofNat 64 (x.toBitVec.toNat % 2 ^ 32)).toNat
  rw [BitVec.toNat_and, show (4294967295#64).toNat = 2 ^ 32 - 1 from by decide, Nat.and_two_pow_sub_one_eq_mod, BitVec.toNat_ofNat]
  omega))⟩
/-! ===== Int64 as an unsigned number: uN x ===== -/
def uN (x : Int64) : Nat := x.toUInt64.toNat
theorem uN_lt (x : Int64) : uN x < 18446744073709551616 := x.toUInt64.toNat_lt
theorem uN_inj {x y : Int64} (h : uN x = uN y) : x = y := congrArg UInt64.toInt64 (UInt64.toNat_inj.mp h)
theorem uN_add (x y : Int64) : uN (x + y) = (uN x + uN y) % 18446744073709551616 := by
  show (x.toUInt64 + y.toUInt64).toNat = _
  exact UInt64.toNat_add _ _
theorem uN_mul (x y : Int64) : uN (x * y) = (uN x * uN y) % 18446744073709551616 := by
  show (x.toUInt64 * y.toUInt64).toNat = _
  exact UInt64.toNat_mul _ _
theorem uN_shl (x : Int64) : uN (x <<< ((1 : Int32).toInt64 &&& 63)) = (2 * uN x) % 18446744073709551616 := by
  have h : (((1 : Int32).toInt64 &&& 63).toBitVec.smod 64).toNat = 1 := by decide
  show (x.toBitVec <<< (((1 : Int32).toInt64 &&& 63).toBitVec.smod 64).toNat).toNat = _
  rw [h, BitVec.toNat_shiftLeft, Nat.shiftLeft_eq, Nat.mul_comm]
  rfl
theorem uN_shr (x : Int64) (s : UInt64) : uN (x.toUInt64 >>> s).toInt64 = uN x / 2 ^ (s.toNat % 64) := by
  show (x.toUInt64 >>> s).toNat = _
  rw [UInt64.toNat_shiftRight, Nat.shiftRight_eq_div_pow]
  rfl
theorem uN_s32 (x : Int64) : uN (x.toUInt64 >>> ((32 : Int32).toInt64.toUInt64 &&& Int64.toUInt64 63)).toInt64 = uN x / 4294967296 := by
  have h : ((32 : Int32).toInt64.toUInt64 &&& Int64.toUInt64 63).toNat % 64 = 32 := by decide
  rw [uN_shr, h]
theorem uN_s63 (x : Int64) : uN (x.toUInt64 >>> ((63 : Int32).toInt64.toUInt64 &&& Int64.toUInt64 63)).toInt64 = uN x / 9223372036854775808 := by
  have h : ((63 : Int32).toInt64.toUInt64 &&& Int64.toUInt64 63).toNat % 64 = 63 := by decide
  rw [uN_shr, h]
theorem uN_lo (x : Int64) : uN (x &&& 4294967295) = uN x % 4294967296 := by
  show (x.toUInt64 &&& Int64.toUInt64 4294967295).toNat = _
  rw [UInt64.toNat_and]
  exact Nat.and_two_pow_sub_one_eq_mod _ 32
theorem uN_bit (x : Int64) : (x &&& 1) = 0 ↔ uN x % 2 = 0 := by
  have h : uN (x &&& 1) = uN x % 2 := by
    show (x.toUInt64 &&& Int64.toUInt64 1).toNat = _
    rw [UInt64.toNat_and]
    exact Nat.and_two_pow_sub_one_eq_mod _ 1
  rw [← h]
  exact ⟨fun z => by rw [z]; rfl, fun z => uN_inj (z.trans rfl)⟩
theorem uN_or {x y : Int64} (hy : uN y < 2) : uN ((x <<< ((1 : Int32).toInt64 &&& 63)) ||| y) = (2 * uN x) % 18446744073709551616 + uN y := by
  have h1 : uN ((x <<< ((1 : Int32).toInt64 &&& 63)) ||| y) = uN (x <<< ((1 : Int32).toInt64 &&& 63)) ||| uN y := UInt64.toNat_or _ _
  have h2 : (2 * uN x) % 18446744073709551616 = 2 ^ 1 * (uN x % 9223372036854775808) := by omega
  rw [h1, uN_shl, h2]
  exact (Nat.two_pow_add_eq_or_of_lt (i := 1) hy _).symm
theorem nat_xor {a : Nat} (h : a < 18446744073709551616) : a ^^^ 2 ^ 63 = (a + 9223372036854775808) % 18446744073709551616 := by
  have h1 : (a ^^^ 2 ^ 63) % 2 ^ 63 = a % 2 ^ 63 := by rw [Nat.xor_mod_two_pow, Nat.mod_self, Nat.xor_zero]
  have h2 : (a ^^^ 2 ^ 63) / 2 ^ 63 = (a / 2 ^ 63) ^^^ 1 := by rw [Nat.xor_div_two_pow, Nat.div_self (Nat.two_pow_pos 63)]
  have h3 : a / 2 ^ 63 = 0 ∨ a / 2 ^ 63 = 1 := by omega
  generalize a ^^^ 2 ^ 63 = t at h1 h2
  rcases h3 with h3 | h3
  · rw [h3] at h2
    have h2 : t / 2 ^ 63 = 1 := h2
    omega
  · rw [h3] at h2
    have h2 : t / 2 ^ 63 = 0 := h2
    omega
theorem uN_xor (x : Int64) : uN (x ^^^ (-9223372036854775808)) = (uN x + 9223372036854775808) % 18446744073709551616 := by
  rw [← nat_xor (uN_lt x)]
  exact UInt64.toNat_xor _ _
theorem uN_int (x : Int64) : x.toInt = if 2 * uN x < 18446744073709551616 then (uN x : Int) else (uN x : Int) - 18446744073709551616 := BitVec.toInt_eq_toNat_cond _
theorem uN_le (x y : Int64) : (x ^^^ (-9223372036854775808)) ≤ (y ^^^ (-9223372036854775808)) ↔ uN x ≤ uN y := by
  have hx := uN_lt x
  have hy := uN_lt y
  rw [Int64.le_iff_toInt_le, uN_int, uN_int, uN_xor, uN_xor]
  omega
theorem uN_sk (x : Int64) {k : Nat} (hk : k < 64) : uN (x.toUInt64 >>> ((nI k).toInt64.toUInt64 &&& Int64.toUInt64 63)).toInt64 = uN x / 2 ^ k := by
  have h : ((nI k).toInt64.toUInt64 &&& Int64.toUInt64 63).toNat % 64 = k := by
    rw [nI_l (by omega), UInt64.toNat_and]
    have e : (lN k).toUInt64.toNat = k % 2 ^ 64 := rfl
    have e2 : (Int64.toUInt64 63).toNat = 2 ^ 6 - 1 := by decide
    rw [e, e2, Nat.and_two_pow_sub_one_eq_mod]
    omega
  rw [uN_shr, h]
/-! ===== unsigned comparison by xor with the least ===== -/
theorem lN_bv (n : Nat) : (lN n).toBitVec = BitVec.ofNat 64 n := rfl
theorem lN_nat {n : Nat} (h : n < 2 ^ 64) : (lN n).toBitVec.toNat = n := by rw [lN_bv, BitVec.toNat_ofNat]; exact Nat.mod_eq_of_lt h
theorem lN_xor (a b : Nat) : lN a ^^^ lN b = lN (a ^^^ b) := by
  apply Int64.toBitVec_inj.mp; rw [Int64.toBitVec_xor, lN_bv, lN_bv, lN_bv]; apply BitVec.eq_of_getLsbD_eq; intro i hi; simp [BitVec.getLsbD_ofNat, Nat.testBit_xor, hi]
theorem lN_ti {m : Nat} (h : m < 2 ^ 64) : (lN m).toInt = if m < 2 ^ 63 then (m : Int) else (m : Int) - 2 ^ 64 := by
  have c := BitVec.toInt_eq_toNat_cond (lN m).toBitVec
  rw [lN_nat h] at c
  show (lN m).toBitVec.toInt = _
  rw [c]
  split <;> split <;> omega
theorem xor63 {x : Nat} (h : x < 2 ^ 63) : x ^^^ 2 ^ 63 = 2 ^ 63 + x := by
  apply Nat.eq_of_testBit_eq
  intro i
  rw [Nat.testBit_xor, Nat.testBit_two_pow]
  rcases Nat.lt_trichotomy i 63 with z | z | z
  · rw [Nat.testBit_two_pow_add_gt z, decide_eq_false (by omega)]; simp
  · subst z; rw [Nat.testBit_two_pow_add_eq]; simp
  · have hp : 2 ^ 64 ≤ 2 ^ i := Nat.pow_le_pow_right (by decide) z
    rw [Nat.testBit_lt_two_pow (show x < 2 ^ i by omega), Nat.testBit_lt_two_pow (show 2 ^ 63 + x < 2 ^ i by omega), decide_eq_false (by omega)]; rfl
theorem xorS {a : Nat} (h : a < 2 ^ 64) : (lN a ^^^ (-9223372036854775808)).toInt = (a : Int) - 2 ^ 63 := by
  rw [show (-9223372036854775808 : Int64) = lN (2 ^ 63) from by decide +kernel, lN_xor]
  rcases Nat.lt_or_ge a (2 ^ 63) with z | z
  · rw [xor63 z, lN_ti (by omega), if_neg (by omega)]; omega
  · obtain ⟨x, rfl⟩ : ∃ x, a = 2 ^ 63 + x := ⟨a - 2 ^ 63, by omega⟩
    rw [← xor63 (by omega), Nat.xor_assoc, Nat.xor_self, Nat.xor_zero, lN_ti (by omega), if_pos (by omega), xor63 (by omega)]; omega
theorem ultL {a b : Nat} (ha : a < 2 ^ 64) (hb : b < 2 ^ 64) : ((lN b ^^^ (-9223372036854775808)) ≤ (lN a ^^^ (-9223372036854775808))) ↔ b ≤ a := by
  rw [Int64.le_iff_toInt_le, xorS ha, xorS hb]; omega
/-! ===== Int64 masks of n low bits ===== -/
theorem cr_bits (W U M : BitVec 64) : ((W &&& U) &&& (U &&& (M ^^^ BitVec.allOnes 64))) = 0#64 ↔ (W &&& U) &&& M = W &&& U := by
  constructor
  · intro h
    apply BitVec.eq_of_getLsbD_eq
    intro i hi
    have e := congrArg (fun x => BitVec.getLsbD x i) h
    simp only [BitVec.getLsbD_and, BitVec.getLsbD_xor, BitVec.getLsbD_allOnes, BitVec.getLsbD_zero, hi, decide_true] at e ⊢
    revert e
    cases W.getLsbD i <;> cases U.getLsbD i <;> cases M.getLsbD i <;> decide
  · intro h
    apply BitVec.eq_of_getLsbD_eq
    intro i hi
    have e := congrArg (fun x => BitVec.getLsbD x i) h
    simp only [BitVec.getLsbD_and, BitVec.getLsbD_xor, BitVec.getLsbD_allOnes, BitVec.getLsbD_zero, hi, decide_true] at e ⊢
    revert e
    cases W.getLsbD i <;> cases U.getLsbD i <;> cases M.getLsbD i <;> decide
theorem cr_mask (w U m : Int64) (n : Nat) (hm : m.toBitVec.toNat = 2 ^ n - 1) : ((w &&& U) &&& (U &&& (m ^^^ (-1)))) = 0 ↔ (w &&& U).toBitVec.toNat < 2 ^ n := by
  have e0 : (-1 : Int64).toBitVec = BitVec.allOnes 64 := by decide
  have z0 : (0 : Int64).toBitVec = 0#64 := by decide
  rw [← Int64.toBitVec_inj, z0, Int64.toBitVec_and, Int64.toBitVec_and, Int64.toBitVec_and, Int64.toBitVec_xor, e0, cr_bits]
  generalize w.toBitVec &&& U.toBitVec = T
  rw [← BitVec.toNat_inj, BitVec.toNat_and, hm, Nat.and_two_pow_sub_one_eq_mod]
  constructor
  · intro h
    have t := Nat.mod_lt T.toNat (Nat.two_pow_pos n)
    rw [h] at t
    exact t
  · exact Nat.mod_eq_of_lt
theorem cr_shr (t : Int64) (x : UInt64) (n : Nat) (hx : x.toNat % 64 = n) : (t.toUInt64 >>> x).toInt64 = 0 ↔ t.toBitVec.toNat < 2 ^ n := by
  rw [← Int64.toBitVec_inj, ← BitVec.toNat_inj]
  show (t.toUInt64 >>> x).toNat = 0 ↔ t.toUInt64.toNat < 2 ^ n
  rw [UInt64.toNat_shiftRight, hx, Nat.shiftRight_eq_div_pow]
  constructor
  · intro h
    have d : t.toUInt64.toNat / 2 ^ n < 1 := by
      rw [h]
      decide
    have e := (Nat.div_lt_iff_lt_mul (Nat.two_pow_pos n)).mp d
    rw [Nat.one_mul] at e
    exact e
  · exact Nat.div_eq_of_lt
theorem cr_amt (s : Int64) : ∃ n, n < 64 ∧ s &&& 63 = lN n ∧ (s.toUInt64 &&& Int64.toUInt64 63).toNat % 64 = n := by
  have e : (s.toUInt64 &&& Int64.toUInt64 63).toNat = s.toUInt64.toNat % 2 ^ 6 := by
    rw [UInt64.toNat_and, show (Int64.toUInt64 63).toNat = 2 ^ 6 - 1 from by decide, Nat.and_two_pow_sub_one_eq_mod]
  refine ⟨s.toUInt64.toNat % 2 ^ 6, by omega, ?_, by omega⟩
  rw [← Int64.toBitVec_inj, ← BitVec.toNat_inj]
  show (s.toUInt64 &&& Int64.toUInt64 63).toNat = (BitVec.ofNat 64 (s.toUInt64.toNat % 2 ^ 6)).toNat
  rw [e, BitVec.toNat_ofNat]
  omega

/-! plain facts on numbers and arrays, to paste: each family by itself; over the kit's rows on nI and upd -/
/-! ===== order of ints, in all its forms, and through longs ===== -/
theorem fa_lt (a b : Int32) : a < b ↔ a.toInt < b.toInt := Int32.lt_iff_toInt_lt
theorem fa_le (a b : Int32) : a ≤ b ↔ a.toInt ≤ b.toInt := Int32.le_iff_toInt_le
theorem fa_eq (a b : Int32) : a = b ↔ a.toInt = b.toInt := Int32.toInt_inj.symm
theorem fa_lt64 (a b : Int64) : a < b ↔ a.toInt < b.toInt := Int64.lt_iff_toInt_lt
theorem fa_le64 (a b : Int64) : a ≤ b ↔ a.toInt ≤ b.toInt := Int64.le_iff_toInt_le
theorem fa_eq64 (a b : Int64) : a = b ↔ a.toInt = b.toInt := Int64.toInt_inj.symm
/-- a comparison of two ints taken as longs -/
theorem fa_wide_lt (a b : Int32) : a.toInt64 < b.toInt64 ↔ a < b := by rw [fa_lt64, fa_lt, Int32.toInt_toInt64, Int32.toInt_toInt64]
theorem fa_wide_le (a b : Int32) : a.toInt64 ≤ b.toInt64 ↔ a ≤ b := by rw [fa_le64, fa_le, Int32.toInt_toInt64, Int32.toInt_toInt64]
theorem fa_wide_eq (a b : Int32) : a.toInt64 = b.toInt64 ↔ a = b := by rw [fa_eq64, fa_eq, Int32.toInt_toInt64, Int32.toInt_toInt64]
/-- one strict comparison gives all the others -/
theorem fa_of_lt {a b : Int32} (h : a < b) : a ≤ b ∧ ¬ b ≤ a ∧ ¬ b < a ∧ a ≠ b ∧ b ≠ a := by
  rw [fa_lt] at h
  refine ⟨?_, ?_, ?_, ?_, ?_⟩
  · rw [fa_le]; omega
  · rw [fa_le]; omega
  · rw [fa_lt]; omega
  · intro e; rw [fa_eq] at e; omega
  · intro e; rw [fa_eq] at e; omega
theorem fa_of_nlt {a b : Int32} (h : ¬ a < b) : b ≤ a := by
  rw [fa_lt] at h
  rw [fa_le]
  omega
theorem fa_of_nle {a b : Int32} (h : ¬ a ≤ b) : b < a := by
  rw [fa_le] at h
  rw [fa_lt]
  omega
theorem fa_le_ne {a b : Int32} (h : a ≤ b) (h2 : a ≠ b) : a < b := by
  rw [fa_le] at h
  rw [fa_lt]
  have h3 : a.toInt ≠ b.toInt := fun e => h2 ((fa_eq a b).mpr e)
  omega
theorem fa_three (a b : Int32) : a < b ∨ a = b ∨ b < a := by
  rw [fa_lt, fa_lt, fa_eq]
  omega
theorem fa_trans {a b c : Int32} (h : a < b) (h2 : b ≤ c) : a < c := by
  rw [fa_lt] at *
  rw [fa_le] at h2
  omega
/-! ===== small literals as numbers ===== -/
theorem fa_lit (n : Nat) : (OfNat.ofNat n : Int32) = nI n := rfl
theorem fa_litL (n : Nat) : (OfNat.ofNat n : Int64) = lN n := rfl
/-! ===== bits of a number: 'or', masks, one bit ===== -/
theorem fa_and (a b : Nat) : nI a &&& nI b = nI (a &&& b) := by
  apply Int32.toBitVec_inj.1
  show BitVec.ofNat 32 a &&& BitVec.ofNat 32 b = BitVec.ofNat 32 (a &&& b)
  apply BitVec.eq_of_getLsbD_eq
  intro i hi
  simp [hi]
theorem fa_or (a b : Nat) : nI a ||| nI b = nI (a ||| b) := by
  apply Int32.toBitVec_inj.1
  show BitVec.ofNat 32 a ||| BitVec.ofNat 32 b = BitVec.ofNat 32 (a ||| b)
  apply BitVec.eq_of_getLsbD_eq
  intro i hi
  simp [hi]
/-- a remainder by a power of two, as a mask -/
theorem fa_mask (n k : Nat) : nI n &&& nI (2 ^ k - 1) = nI (n % 2 ^ k) := by rw [fa_and, Nat.and_two_pow_sub_one_eq_mod]
/-- 'or' of a high part and a low one that don't meet is their sum -/
theorem fa_or_sum {a k : Nat} (b : Nat) (h : a < 2 ^ k) : nI (2 ^ k * b) ||| nI a = nI (2 ^ k * b + a) := by rw [fa_or, Nat.two_pow_add_eq_or_of_lt h]
/-- one bit, by 'and' with a power of two -/
theorem fa_bit {n j : Nat} (hj : j < 31) : nI n &&& nI (2 ^ j) = 0 ↔ n.testBit j = false := by
  have h2 : (2 : Nat) ^ j < 2 ^ 31 := Nat.pow_lt_pow_right (by decide) hj
  have hle : n &&& 2 ^ j ≤ 2 ^ j := Nat.and_le_right
  have e : n &&& 2 ^ j = 0 ↔ n.testBit j = false := by
    constructor
    · intro h
      have h1 : (n &&& 2 ^ j).testBit j = false := by rw [h]; simp
      rw [Nat.testBit_and] at h1
      first | simpa using h1 | simpa [Nat.testBit_two_pow_self] using h1 | simpa [Nat.testBit_two_pow] using h1
    · intro h
      apply Nat.eq_of_testBit_eq
      intro i
      rw [Nat.testBit_and]
      by_cases hi : j = i
      · subst hi; simp [h]
      · first | (simp [Nat.testBit_two_pow, hi]; done) | (simp [Nat.testBit_two_pow_of_ne hi]; done)
  rw [fa_and]
  constructor
  · intro h
    apply e.mp
    rcases Nat.eq_zero_or_pos (n &&& 2 ^ j) with z | z
    · exact z
    · exact absurd h (nI_ne0 z (Nat.lt_of_le_of_lt hle h2))
  · intro h
    rw [e.mpr h]; exact nI_0
/-- a remainder by a power of two of a number that isn't negative, as Java divides -/
theorem fa_rem {a k : Nat} (ha : a < 2 ^ 31) (hk : k < 31) : nI a - nI a / nI (2 ^ k) * nI (2 ^ k) = nI (a % 2 ^ k) := pk_rem ha (Nat.two_pow_pos k) (Nat.pow_lt_pow_right (by decide) hk)
/-! ===== cuts to a byte, a short ===== -/
theorem fa_byte_xor (x y : Int32) : (x ^^^ y).toInt8 = x.toInt8 ^^^ y.toInt8 := by
  apply Int8.toBitVec_inj.1
  apply BitVec.eq_of_getLsbD_eq
  intro i hi
  first | (simp [hi]; done) | (simp [hi, BitVec.getLsbD_setWidth, BitVec.getLsbD_signExtend]; done)
theorem fa_short_xor (x y : Int32) : (x ^^^ y).toInt16 = x.toInt16 ^^^ y.toInt16 := by
  apply Int16.toBitVec_inj.1
  apply BitVec.eq_of_getLsbD_eq
  intro i hi
  first | (simp [hi]; done) | (simp [hi, BitVec.getLsbD_setWidth, BitVec.getLsbD_signExtend]; done)
/-- the cut to a byte sees the low byte alone -/
theorem fa_byte_low (x : Int32) : (x &&& 255).toInt8 = x.toInt8 := by
  apply Int8.toBitVec_inj.1
  apply BitVec.eq_of_getLsbD_eq
  intro i hi
  have h2 : (255 : Int32).toBitVec.getLsbD i = true := by
    have : ∀ j : Fin 8, (255 : Int32).toBitVec.getLsbD j.val = true := by decide +kernel
    exact this ⟨i, hi⟩
  have h4 : (x &&& 255).toBitVec.getLsbD i = x.toBitVec.getLsbD i := by
    show (x.toBitVec &&& (255 : Int32).toBitVec).getLsbD i = _
    rw [BitVec.getLsbD_and, h2, Bool.and_true]
  have h3 : i < 32 := by omega
  first
    | (show (((x &&& 255).toBitVec).signExtend 8).getLsbD i = (x.toBitVec.signExtend 8).getLsbD i; rw [BitVec.getLsbD_signExtend, BitVec.getLsbD_signExtend, if_pos h3, if_pos h3, h4])
    | (show (((x &&& 255).toBitVec).setWidth 8).getLsbD i = (x.toBitVec.setWidth 8).getLsbD i; rw [BitVec.getLsbD_setWidth, BitVec.getLsbD_setWidth, h4])
    | (simp [hi, h3, h4]; done)
theorem fa_short_low (x : Int32) : (x &&& 65535).toInt16 = x.toInt16 := by
  apply Int16.toBitVec_inj.1
  apply BitVec.eq_of_getLsbD_eq
  intro i hi
  have h2 : (65535 : Int32).toBitVec.getLsbD i = true := by
    have : ∀ j : Fin 16, (65535 : Int32).toBitVec.getLsbD j.val = true := by decide +kernel
    exact this ⟨i, hi⟩
  have h4 : (x &&& 65535).toBitVec.getLsbD i = x.toBitVec.getLsbD i := by
    show (x.toBitVec &&& (65535 : Int32).toBitVec).getLsbD i = _
    rw [BitVec.getLsbD_and, h2, Bool.and_true]
  have h3 : i < 32 := by omega
  first
    | (show (((x &&& 65535).toBitVec).signExtend 16).getLsbD i = (x.toBitVec.signExtend 16).getLsbD i; rw [BitVec.getLsbD_signExtend, BitVec.getLsbD_signExtend, if_pos h3, if_pos h3, h4])
    | (show (((x &&& 65535).toBitVec).setWidth 16).getLsbD i = (x.toBitVec.setWidth 16).getLsbD i; rw [BitVec.getLsbD_setWidth, BitVec.getLsbD_setWidth, h4])
    | (simp [hi, h3, h4]; done)
/-- a small number is its own byte, its own short -/
theorem fa_byte_small {n : Nat} (h : n < 128) : (nI n).toInt8.toInt32 = nI n := by
  have : ∀ j : Fin 128, (nI j.val).toInt8.toInt32 = nI j.val := by decide +kernel
  exact this ⟨n, h⟩
/-! ===== absolute difference ===== -/
theorem fa_absdiff {a b : Nat} (ha : a < 2 ^ 31) (hb : b < 2 ^ 31) : (if nI a < nI b then nI b - nI a else nI a - nI b) = nI (if a < b then b - a else a - b) := by
  by_cases h : a < b
  · rw [if_pos (nI_lt h hb), if_pos h]
    exact pk_sub (Nat.le_of_lt h)
  · rw [if_neg (nI_nlt (Nat.le_of_not_lt h) ha), if_neg h]
    exact pk_sub (Nat.le_of_not_lt h)
/-! ===== an array behind i stores, a conditional store, a row copied ===== -/
/-- f where k < i, what stood there else -/
def fa_fill {α : Type} (f g : Nat → α) (i : Nat) : Nat → α := fun k => if k < i then f k else g k
theorem fa_fill_0 {α : Type} (f g : Nat → α) : fa_fill f g 0 = g := funext fun k => if_neg (Nat.not_lt_zero k)
theorem fa_fill_in {α : Type} {f g : Nat → α} {i k : Nat} (h : k < i) : fa_fill f g i k = f k := if_pos h
theorem fa_fill_out {α : Type} {f g : Nat → α} {i k : Nat} (h : i ≤ k) : fa_fill f g i k = g k := if_neg (Nat.not_lt.mpr h)
theorem fa_fill_succ (f g : Nat → Int32) (i : Nat) : upd (fa_fill f g i) i (f i) = fa_fill f g (i + 1) := by
  funext k
  by_cases e : k = i
  · subst e
    rw [pk_us]
    exact (if_pos (Nat.lt_succ_self k)).symm
  · rw [pk_un e]
    by_cases h : k < i
    · rw [fa_fill_in h, fa_fill_in (Nat.lt_succ_of_lt h)]
    · rw [fa_fill_out (Nat.le_of_not_lt h), fa_fill_out (by omega)]
/-- a store that changes nothing -/
theorem fa_upd_same {f : Nat → Int32} {i : Nat} {x : Int32} (h : f i = x) : upd f i x = f := by
  funext k
  by_cases e : k = i
  · subst e
    rw [pk_us, h]
  · rw [pk_un e]
/-- a store under a condition, told as one -/
theorem fa_upd_if (c : Prop) [Decidable c] (f : Nat → Int32) (i : Nat) (x : Int32) : (if c then upd f i x else f) = upd f i (if c then x else f i) := by
  by_cases h : c
  · rw [if_pos h, if_pos h]
  · rw [if_neg h, if_neg h, fa_upd_same rfl]
/-- two stores at one place, at two -/
theorem fa_upd_twice (f : Nat → Int32) (i : Nat) (x y : Int32) : upd (upd f i x) i y = upd f i y := by
  funext k
  by_cases e : k = i
  · subst e
    rw [pk_us, pk_us]
  · rw [pk_un e, pk_un e, pk_un e]
theorem fa_upd_swap (f : Nat → Int32) {i j : Nat} (h : i ≠ j) (x y : Int32) : upd (upd f i x) j y = upd (upd f j y) i x := by
  funext k
  by_cases e : k = i
  · subst e
    rw [pk_un h, pk_us, pk_us]
  · by_cases e2 : k = j
    · subst e2
      rw [pk_us, pk_un e, pk_us]
    · rw [pk_un e2, pk_un e, pk_un e, pk_un e2]
/-! ===== the first index with a property; a count ===== -/
/-- the first k < n with p k, n if there is none -/
def fa_first (p : Nat → Bool) : Nat → Nat
  | 0 => 0
  | n + 1 => if fa_first p n < n then fa_first p n else if p n then n else n + 1
theorem fa_first_le (p : Nat → Bool) : ∀ n, fa_first p n ≤ n
  | 0 => Nat.le_refl 0
  | n + 1 => by
    have ih := fa_first_le p n
    unfold fa_first
    split
    · omega
    · split
      · omega
      · omega
theorem fa_first_no (p : Nat → Bool) : ∀ n k, k < fa_first p n → p k = false
  | 0, k, h => absurd h (Nat.not_lt_zero k)
  | n + 1, k, h => by
    have ih := fa_first_no p n
    have hl := fa_first_le p n
    unfold fa_first at h
    split at h
    · exact ih k h
    · rename_i h1
      split at h
      · exact ih k (by omega)
      · rename_i h2
        by_cases e : k = n
        · subst e
          exact Bool.eq_false_iff.mpr h2
        · exact ih k (by omega)
theorem fa_first_yes (p : Nat → Bool) : ∀ n, fa_first p n < n → p (fa_first p n) = true
  | 0, h => absurd h (Nat.not_lt_zero _)
  | n + 1, h => by
    have ih := fa_first_yes p n
    have hl := fa_first_le p n
    unfold fa_first at h ⊢
    split at h
    · rename_i h1
      rw [if_pos h1]
      exact ih h1
    · rename_i h1
      rw [if_neg h1]
      split at h
      · rename_i h2
        rw [if_pos h2]
        exact h2
      · omega
/-- how many k < n have p k -/
def fa_cnt (p : Nat → Bool) : Nat → Nat
  | 0 => 0
  | n + 1 => fa_cnt p n + if p n then 1 else 0
theorem fa_cnt_le (p : Nat → Bool) : ∀ n, fa_cnt p n ≤ n
  | 0 => Nat.le_refl 0
  | n + 1 => by
    have ih := fa_cnt_le p n
    unfold fa_cnt
    split
    · omega
    · omega
theorem fa_cnt_yes {p : Nat → Bool} {n : Nat} (h : p n = true) : fa_cnt p (n + 1) = fa_cnt p n + 1 := by rw [fa_cnt, if_pos h]
theorem fa_cnt_no {p : Nat → Bool} {n : Nat} (h : p n = false) : fa_cnt p (n + 1) = fa_cnt p n := by rw [fa_cnt, if_neg (by rw [h]; decide)]; rfl
theorem fa_cnt_cong {p q : Nat → Bool} : ∀ {n : Nat}, (∀ k, k < n → p k = q k) → fa_cnt p n = fa_cnt q n
  | 0, _ => rfl
  | n + 1, h => by rw [fa_cnt, fa_cnt, fa_cnt_cong (fun k hk => h k (Nat.lt_succ_of_lt hk)), h n (Nat.lt_succ_self n)]
/-! ===== an answer carried into a post; a branch on a boolean answer ===== -/
theorem fa_post {α : Type} {P : α → Prop} {x y : α} (h : x = y) (hp : P y) : P x := h ▸ hp
theorem fa_post2 {α β : Type} {P : α → β → Prop} {x y : α} {u v : β} (h : x = y) (h2 : u = v) (hp : P y v) : P x u := h ▸ h2 ▸ hp
theorem fa_bool {r : Int32} {b : Bool} (h : r = if b then 1 else 0) : (r = 0 ↔ b = false) ∧ (¬ r = 0 ↔ b = true) := by
  subst h
  cases b
  · exact ⟨⟨fun _ => rfl, fun _ => rfl⟩, ⟨fun h => absurd rfl h, fun h => absurd h (by decide)⟩⟩
  · exact ⟨⟨fun h => absurd h (by decide), fun h => absurd h (by decide)⟩, ⟨fun _ => rfl, fun _ => by decide⟩⟩
/-- a boolean's narrowing changes nothing -/
theorem fa_bool_and {r : Int32} (h : r = 0 ∨ r = 1) : r &&& 1 = r := by
  rcases h with rfl | rfl
  · decide
  · decide
theorem fa_bool_prop {c : Prop} [Decidable c] {r : Int32} (h : r = if c then 1 else 0) : (r = 0 ↔ ¬ c) ∧ (¬ r = 0 ↔ c) := by
  subst h
  by_cases hc : c
  · rw [if_pos hc]
    exact ⟨⟨fun h => absurd h (by decide), fun h => absurd hc h⟩, ⟨fun _ => hc, fun _ => by decide⟩⟩
  · rw [if_neg hc]
    exact ⟨⟨fun _ => hc, fun _ => rfl⟩, ⟨fun h => absurd rfl h, fun h => absurd h hc⟩⟩

/-! plain facts to paste, each family by itself; over the kit's nI, lN and upd -/
/-! ===== drawers: more things than places ===== -/
theorem fb_holes : ∀ (m n : Nat) (f : Nat → Nat), (∀ i, i < n → f i < m) → (∀ i j, i < j → j < n → f i ≠ f j) → n ≤ m := by
  intro m
  induction m with
  | zero =>
    intro n f h1 _
    rcases Nat.eq_zero_or_pos n with h | h
    · omega
    · exact absurd (h1 0 h) (Nat.not_lt_zero _)
  | succ m ih =>
    intro n f h1 h2
    by_cases hx : ∃ i, i < n ∧ f i = m
    · obtain ⟨a, ha, hfa⟩ := hx
      have hg := ih (n - 1) (fun i => if i < a then f i else f (i + 1)) (by
        intro i hi
        by_cases q : i < a
        · simp only [if_pos q]
          have b1 := h1 i (by omega)
          have b2 := h2 i a q ha
          omega
        · simp only [if_neg q]
          have b1 := h1 (i + 1) (by omega)
          have b2 := h2 a (i + 1) (by omega) (by omega)
          omega) (by
        intro i j hij hj
        by_cases q : i < a
        · by_cases r : j < a
          · simp only [if_pos q, if_pos r]
            exact h2 i j hij (by omega)
          · simp only [if_pos q, if_neg r]
            exact h2 i (j + 1) (by omega) (by omega)
        · have r : ¬ j < a := by omega
          simp only [if_neg q, if_neg r]
          exact h2 (i + 1) (j + 1) (by omega) (by omega))
      omega
    · have hg := ih n f (fun i hi => by
        have b1 := h1 i hi
        have b2 : f i ≠ m := fun e => hx ⟨i, hi, e⟩
        omega) h2
      omega
/-- two of them in one place -/
theorem fb_twice {m n : Nat} {f : Nat → Nat} (h : ∀ i, i < n → f i < m) (hm : m < n) : ∃ i j, i < j ∧ j < n ∧ f i = f j := by
  refine Classical.byContradiction fun hx => ?_
  have := fb_holes m n f h (fun i j hij hj e => hx ⟨i, j, hij, hj, e⟩)
  omega
/-- as many as places, none twice: each place is taken -/
theorem fb_onto {n : Nat} {f : Nat → Nat} (h : ∀ i, i < n → f i < n) (h2 : ∀ i j, i < j → j < n → f i ≠ f j) {y : Nat} (hy : y < n) : ∃ i, i < n ∧ f i = y := by
  refine Classical.byContradiction fun hx => ?_
  have hne : ∀ i, i < n → f i ≠ y := fun i hi e => hx ⟨i, hi, e⟩
  have := fb_holes (n - 1) n (fun i => if f i < y then f i else f i - 1) (by
    intro i hi
    have b1 := h i hi
    have b2 := hne i hi
    by_cases q : f i < y
    · simp only [if_pos q]; omega
    · simp only [if_neg q]; omega) (by
    intro i j hij hj
    have b1 := hne i (by omega)
    have b2 := hne j hj
    have b3 := h2 i j hij hj
    by_cases q : f i < y
    · by_cases r : f j < y
      · simp only [if_pos q, if_pos r]; exact b3
      · simp only [if_pos q, if_neg r]; omega
    · by_cases r : f j < y
      · simp only [if_neg q, if_pos r]; omega
      · simp only [if_neg q, if_neg r]; omega)
  omega
/-! ===== how many places have a property ===== -/
def fb_ct (p : Nat → Bool) : Nat → Nat
  | 0 => 0
  | n + 1 => fb_ct p n + (if p n then 1 else 0)
theorem fb_ct_succ (p : Nat → Bool) (n : Nat) : fb_ct p (n + 1) = fb_ct p n + (if p n then 1 else 0) := rfl
theorem fb_ct_le (p : Nat → Bool) : ∀ n, fb_ct p n ≤ n
  | 0 => Nat.le_refl _
  | n + 1 => by
    have h := fb_ct_le p n
    rw [fb_ct_succ]
    split <;> omega
theorem fb_ct_step (p : Nat → Bool) (m : Nat) : ∀ n, fb_ct p m ≤ fb_ct p (m + n)
  | 0 => Nat.le_refl _
  | n + 1 => by
    have h := fb_ct_step p m n
    show fb_ct p m ≤ fb_ct p (m + n + 1)
    rw [fb_ct_succ]
    omega
theorem fb_ct_mono (p : Nat → Bool) {m n : Nat} (h : m ≤ n) : fb_ct p m ≤ fb_ct p n := by
  have := fb_ct_step p m (n - m)
  rwa [Nat.add_sub_cancel' h] at this
theorem fb_ct_cong {p q : Nat → Bool} : ∀ {n : Nat}, (∀ k, k < n → p k = q k) → fb_ct p n = fb_ct q n
  | 0, _ => rfl
  | n + 1, h => by
    rw [fb_ct_succ, fb_ct_succ, fb_ct_cong (fun k hk => h k (by omega)), h n (by omega)]
/-- one place changed -/
theorem fb_ct_out (p : Nat → Bool) (b : Bool) {i n : Nat} (h : n ≤ i) : fb_ct (fun k => if k = i then b else p k) n = fb_ct p n :=
  fb_ct_cong fun k hk => if_neg (by omega)
theorem fb_ct_upd (p : Nat → Bool) (b : Bool) {i : Nat} : ∀ {n : Nat}, i < n → fb_ct (fun k => if k = i then b else p k) n + (if p i then 1 else 0) = fb_ct p n + (if b then 1 else 0)
  | 0, h => absurd h (Nat.not_lt_zero i)
  | n + 1, h => by
    rw [fb_ct_succ, fb_ct_succ]
    rcases Nat.lt_or_ge i n with q | q
    · have := fb_ct_upd p b q
      have e : (if n = i then b else p n) = p n := if_neg (by omega)
      rw [e]
      omega
    · have e : i = n := by omega
      subst e
      rw [fb_ct_out p b (Nat.le_refl _)]
      simp only [if_true]
      omega
theorem fb_ct_sub {p q : Nat → Bool} : ∀ {n : Nat}, (∀ k, k < n → p k = true → q k = true) → fb_ct p n ≤ fb_ct q n
  | 0, _ => Nat.le_refl _
  | n + 1, h => by
    have h1 := fb_ct_sub (n := n) (p := p) (q := q) (fun k hk => h k (by omega))
    have h2 := h n (by omega)
    rw [fb_ct_succ, fb_ct_succ]
    cases hp : p n <;> cases hq : q n <;> simp_all <;> omega
theorem fb_ct_or {p q : Nat → Bool} : ∀ {n : Nat}, (∀ k, k < n → ¬ (p k = true ∧ q k = true)) → fb_ct (fun k => p k || q k) n = fb_ct p n + fb_ct q n
  | 0, _ => rfl
  | n + 1, h => by
    have h1 := fb_ct_or (n := n) (p := p) (q := q) (fun k hk => h k (by omega))
    have h2 := h n (by omega)
    rw [fb_ct_succ, fb_ct_succ, fb_ct_succ, h1]
    cases hp : p n <;> cases hq : q n <;> simp_all <;> omega
theorem fb_ct_not (p : Nat → Bool) : ∀ n, fb_ct p n + fb_ct (fun k => !p k) n = n
  | 0 => rfl
  | n + 1 => by
    have h := fb_ct_not p n
    rw [fb_ct_succ, fb_ct_succ]
    cases p n <;> simp <;> omega
theorem fb_ct_split (p : Nat → Bool) (m : Nat) : ∀ n, fb_ct p (m + n) = fb_ct p m + fb_ct (fun k => p (m + k)) n
  | 0 => rfl
  | n + 1 => by
    have h := fb_ct_split p m n
    show fb_ct p (m + n + 1) = _
    rw [fb_ct_succ, fb_ct_succ, h, Nat.add_assoc]
theorem fb_ct_zero {p : Nat → Bool} : ∀ {n : Nat}, fb_ct p n = 0 ↔ ∀ k, k < n → p k = false
  | 0 => ⟨fun _ k hk => absurd hk (Nat.not_lt_zero k), fun _ => rfl⟩
  | n + 1 => by
    have h := fb_ct_zero (p := p) (n := n)
    rw [fb_ct_succ]
    constructor
    · intro e k hk
      have e1 : fb_ct p n = 0 := by omega
      rcases Nat.lt_or_ge k n with q | q
      · exact h.mp e1 k q
      · have ek : k = n := by omega
        subst ek
        cases hp : p k
        · rfl
        · simp [hp] at e
    · intro a
      rw [h.mpr (fun k hk => a k (by omega)), a n (by omega)]
      rfl
theorem fb_ct_pos {p : Nat → Bool} {n : Nat} : 0 < fb_ct p n ↔ ∃ k, k < n ∧ p k = true := by
  constructor
  · intro h
    refine Classical.byContradiction fun hx => ?_
    have := fb_ct_zero.mpr (fun k hk => by
      cases hp : p k
      · rfl
      · exact absurd ⟨k, hk, hp⟩ hx : ∀ k, k < n → p k = false)
    omega
  · rintro ⟨k, hk, hp⟩
    rcases Nat.eq_zero_or_pos (fb_ct p n) with e | e
    · have := fb_ct_zero.mp e k hk
      rw [this] at hp
      cases hp
    · exact e
theorem fb_ct_all {p : Nat → Bool} {n : Nat} : fb_ct p n = n ↔ ∀ k, k < n → p k = true := by
  have h := fb_ct_not p n
  constructor
  · intro e k hk
    have z : fb_ct (fun k => !p k) n = 0 := by omega
    have := fb_ct_zero.mp z k hk
    cases hp : p k
    · simp [hp] at this
    · rfl
  · intro a
    have z : fb_ct (fun k => !p k) n = 0 := fb_ct_zero.mpr (fun k hk => by simp [a k hk])
    omega
/-- the k-th place with the property -/
theorem fb_ct_kth {p : Nat → Bool} {k : Nat} : ∀ {n : Nat}, k < fb_ct p n → ∃ i, i < n ∧ p i = true ∧ fb_ct p i = k
  | 0, h => absurd h (Nat.not_lt_zero k)
  | n + 1, h => by
    rcases Nat.lt_or_ge k (fb_ct p n) with q | q
    · obtain ⟨i, h1, h2⟩ := fb_ct_kth q
      exact ⟨i, by omega, h2⟩
    · rw [fb_ct_succ] at h
      cases hp : p n
      · simp [hp] at h; omega
      · simp [hp] at h
        exact ⟨n, by omega, hp, by omega⟩
theorem fb_ct_kth_one {p : Nat → Bool} {i j : Nat} (hi : p i = true) (hj : p j = true) (e : fb_ct p i = fb_ct p j) : i = j := by
  have key : ∀ a b : Nat, a < b → p a = true → fb_ct p a < fb_ct p b := by
    intro a b hab ha
    have h := fb_ct_mono p (show a + 1 ≤ b from hab)
    rw [fb_ct_succ, ha] at h
    simp at h
    omega
  rcases Nat.lt_trichotomy i j with q | q | q
  · have := key i j q hi; omega
  · exact q
  · have := key j i q hj; omega
/-! ===== sums over a range: one place changed, parts, bounds ===== -/
def fb_sm (f : Nat → Nat) : Nat → Nat
  | 0 => 0
  | n + 1 => fb_sm f n + f n
theorem fb_sm_succ (f : Nat → Nat) (n : Nat) : fb_sm f (n + 1) = fb_sm f n + f n := rfl
theorem fb_sm_cong {f g : Nat → Nat} : ∀ {n : Nat}, (∀ k, k < n → f k = g k) → fb_sm f n = fb_sm g n
  | 0, _ => rfl
  | n + 1, h => by rw [fb_sm_succ, fb_sm_succ, fb_sm_cong (fun k hk => h k (by omega)), h n (by omega)]
theorem fb_sm_out (f : Nat → Nat) (v : Nat) {i n : Nat} (h : n ≤ i) : fb_sm (fun k => if k = i then v else f k) n = fb_sm f n :=
  fb_sm_cong fun k hk => if_neg (by omega)
theorem fb_sm_upd (f : Nat → Nat) (v : Nat) {i : Nat} : ∀ {n : Nat}, i < n → fb_sm (fun k => if k = i then v else f k) n + f i = fb_sm f n + v
  | 0, h => absurd h (Nat.not_lt_zero i)
  | n + 1, h => by
    rw [fb_sm_succ, fb_sm_succ]
    rcases Nat.lt_or_ge i n with q | q
    · have := fb_sm_upd f v q
      have e : (if n = i then v else f n) = f n := if_neg (by omega)
      rw [e]
      omega
    · have e : i = n := by omega
      subst e
      rw [fb_sm_out f v (Nat.le_refl _)]
      simp only [if_true]
      omega
theorem fb_sm_add (f g : Nat → Nat) : ∀ n, fb_sm (fun k => f k + g k) n = fb_sm f n + fb_sm g n
  | 0 => rfl
  | n + 1 => by
    have h := fb_sm_add f g n
    rw [fb_sm_succ, fb_sm_succ, fb_sm_succ, h]
    omega
theorem fb_sm_le {f g : Nat → Nat} : ∀ {n : Nat}, (∀ k, k < n → f k ≤ g k) → fb_sm f n ≤ fb_sm g n
  | 0, _ => Nat.le_refl _
  | n + 1, h => by
    have h1 := fb_sm_le (n := n) (f := f) (g := g) (fun k hk => h k (by omega))
    have h2 := h n (by omega)
    rw [fb_sm_succ, fb_sm_succ]
    omega
theorem fb_sm_const (c : Nat) : ∀ n, fb_sm (fun _ => c) n = n * c
  | 0 => by rw [Nat.zero_mul]; rfl
  | n + 1 => by rw [fb_sm_succ, fb_sm_const c n, Nat.succ_mul]
theorem fb_sm_bound {f : Nat → Nat} {c n : Nat} (h : ∀ k, k < n → f k ≤ c) : fb_sm f n ≤ n * c := by
  rw [← fb_sm_const c n]
  exact fb_sm_le h
theorem fb_sm_mono (f : Nat → Nat) (m : Nat) : ∀ n, fb_sm f m ≤ fb_sm f (m + n)
  | 0 => Nat.le_refl _
  | n + 1 => by
    have h := fb_sm_mono f m n
    show fb_sm f m ≤ fb_sm f (m + n + 1)
    rw [fb_sm_succ]
    omega
theorem fb_sm_part (f : Nat → Nat) {i n : Nat} (h : i < n) : fb_sm f i + f i ≤ fb_sm f n := by
  have := fb_sm_mono f (i + 1) (n - (i + 1))
  rw [fb_sm_succ, show i + 1 + (n - (i + 1)) = n by omega] at this
  exact this
theorem fb_sm_split (f : Nat → Nat) (m : Nat) : ∀ n, fb_sm f (m + n) = fb_sm f m + fb_sm (fun k => f (m + k)) n
  | 0 => rfl
  | n + 1 => by
    have h := fb_sm_split f m n
    show fb_sm f (m + n + 1) = _
    rw [fb_sm_succ, fb_sm_succ, h, Nat.add_assoc]
theorem fb_sm_zero {f : Nat → Nat} {n : Nat} (h : fb_sm f n = 0) : ∀ k, k < n → f k = 0 := fun k hk => by
  have := fb_sm_part f hk
  omega
/-- the same over whole numbers -/
def fb_si (f : Nat → Int) : Nat → Int
  | 0 => 0
  | n + 1 => fb_si f n + f n
theorem fb_si_succ (f : Nat → Int) (n : Nat) : fb_si f (n + 1) = fb_si f n + f n := rfl
theorem fb_si_cong {f g : Nat → Int} : ∀ {n : Nat}, (∀ k, k < n → f k = g k) → fb_si f n = fb_si g n
  | 0, _ => rfl
  | n + 1, h => by rw [fb_si_succ, fb_si_succ, fb_si_cong (fun k hk => h k (by omega)), h n (by omega)]
theorem fb_si_out (f : Nat → Int) (v : Int) {i n : Nat} (h : n ≤ i) : fb_si (fun k => if k = i then v else f k) n = fb_si f n :=
  fb_si_cong fun k hk => if_neg (by omega)
theorem fb_si_upd (f : Nat → Int) (v : Int) {i : Nat} : ∀ {n : Nat}, i < n → fb_si (fun k => if k = i then v else f k) n = fb_si f n - f i + v
  | 0, h => absurd h (Nat.not_lt_zero i)
  | n + 1, h => by
    rw [fb_si_succ, fb_si_succ]
    rcases Nat.lt_or_ge i n with q | q
    · have := fb_si_upd f v q
      have e : (if n = i then v else f n) = f n := if_neg (by omega)
      rw [e]
      omega
    · have e : i = n := by omega
      subst e
      rw [fb_si_out f v (Nat.le_refl _)]
      simp only [if_true]
      omega
theorem fb_si_add (f g : Nat → Int) : ∀ n, fb_si (fun k => f k + g k) n = fb_si f n + fb_si g n
  | 0 => rfl
  | n + 1 => by
    have h := fb_si_add f g n
    rw [fb_si_succ, fb_si_succ, fb_si_succ, h]
    omega
theorem fb_si_sub (f g : Nat → Int) : ∀ n, fb_si (fun k => f k - g k) n = fb_si f n - fb_si g n
  | 0 => rfl
  | n + 1 => by
    have h := fb_si_sub f g n
    rw [fb_si_succ, fb_si_succ, fb_si_succ, h]
    omega
theorem fb_si_mul (c : Int) (f : Nat → Int) : ∀ n, fb_si (fun k => c * f k) n = c * fb_si f n
  | 0 => (Int.mul_zero c).symm
  | n + 1 => by
    have h := fb_si_mul c f n
    rw [fb_si_succ, fb_si_succ, h, Int.mul_add]
theorem fb_si_split (f : Nat → Int) (m : Nat) : ∀ n, fb_si f (m + n) = fb_si f m + fb_si (fun k => f (m + k)) n
  | 0 => (Int.add_zero _).symm
  | n + 1 => by
    have h := fb_si_split f m n
    show fb_si f (m + n + 1) = _
    rw [fb_si_succ, fb_si_succ, h, Int.add_assoc]
theorem fb_si_nat (f : Nat → Nat) : ∀ n, fb_si (fun k => (f k : Int)) n = (fb_sm f n : Int)
  | 0 => rfl
  | n + 1 => by
    have h := fb_si_nat f n
    rw [fb_si_succ, fb_sm_succ, h]
    omega
theorem fb_si_bound {f : Nat → Int} {c : Int} (hc : 0 ≤ c) : ∀ {n : Nat}, (∀ k, k < n → -c ≤ f k ∧ f k ≤ c) → -(n * c) ≤ fb_si f n ∧ fb_si f n ≤ n * c
  | 0, _ => by simp [fb_si]
  | n + 1, h => by
    have h1 := fb_si_bound (n := n) (f := f) hc (fun k hk => h k (by omega))
    have h2 := h n (by omega)
    have e : ((n + 1 : Nat) : Int) * c = n * c + c := by rw [Int.natCast_add, Int.add_mul]; simp
    rw [fb_si_succ, e]
    omega
/-! ===== bits of a long that isn't negative ===== -/
theorem fb_andL (a b : Nat) : lN a &&& lN b = lN (a &&& b) := by
  apply Int64.toBitVec_inj.1
  show BitVec.ofNat 64 a &&& BitVec.ofNat 64 b = BitVec.ofNat 64 (a &&& b)
  apply BitVec.eq_of_getLsbD_eq
  intro i hi
  simp [hi]
theorem fb_orL (a b : Nat) : lN a ||| lN b = lN (a ||| b) := by
  apply Int64.toBitVec_inj.1
  show BitVec.ofNat 64 a ||| BitVec.ofNat 64 b = BitVec.ofNat 64 (a ||| b)
  apply BitVec.eq_of_getLsbD_eq
  intro i hi
  simp [hi]
theorem fb_xorL (a b : Nat) : lN a ^^^ lN b = lN (a ^^^ b) := by
  apply Int64.toBitVec_inj.1
  show BitVec.ofNat 64 a ^^^ BitVec.ofNat 64 b = BitVec.ofNat 64 (a ^^^ b)
  apply BitVec.eq_of_getLsbD_eq
  intro i hi
  simp [hi]
theorem fb_xorI (a b : Nat) : nI a ^^^ nI b = nI (a ^^^ b) := by
  apply Int32.toBitVec_inj.1
  show BitVec.ofNat 32 a ^^^ BitVec.ofNat 32 b = BitVec.ofNat 32 (a ^^^ b)
  apply BitVec.eq_of_getLsbD_eq
  intro i hi
  simp [hi]
theorem fb_maskL (n k : Nat) : lN n &&& lN (2 ^ k - 1) = lN (n % 2 ^ k) := by rw [fb_andL, Nat.and_two_pow_sub_one_eq_mod]
theorem fb_or_sumL {a k : Nat} (b : Nat) (h : a < 2 ^ k) : lN (2 ^ k * b) ||| lN a = lN (2 ^ k * b + a) := by rw [fb_orL, Nat.two_pow_add_eq_or_of_lt h]
theorem fb_lN_inj {a b : Nat} (ha : a < 2 ^ 63) (hb : b < 2 ^ 63) : lN a = lN b ↔ a = b := by
  constructor
  · intro h
    have h1 : (BitVec.ofNat 64 a).toNat = (BitVec.ofNat 64 b).toNat := congrArg (fun x : Int64 => x.toBitVec.toNat) h
    rw [BitVec.toNat_ofNat, BitVec.toNat_ofNat, Nat.mod_eq_of_lt (by omega), Nat.mod_eq_of_lt (by omega)] at h1
    exact h1
  · rintro rfl; rfl
theorem fb_bit_nat (n j : Nat) : n &&& 2 ^ j = 0 ↔ n.testBit j = false := by
  constructor
  · intro h
    have h1 : (n &&& 2 ^ j).testBit j = false := by rw [h]; simp
    rw [Nat.testBit_and] at h1
    simpa using h1
  · intro h
    apply Nat.eq_of_testBit_eq
    intro i
    rw [Nat.testBit_and]
    by_cases hi : j = i
    · subst hi; simp [h]
    · first | (simp [Nat.testBit_two_pow, hi]; done) | (simp [Nat.testBit_two_pow_of_ne hi]; done)
/-- one bit of a long -/
theorem fb_bitL {n j : Nat} (hj : j < 63) : lN n &&& lN (2 ^ j) = 0 ↔ n.testBit j = false := by
  have h2 : (2 : Nat) ^ j < 2 ^ 63 := Nat.pow_lt_pow_right (by decide) hj
  have hle : n &&& 2 ^ j ≤ 2 ^ j := Nat.and_le_right
  rw [fb_andL, ← fb_bit_nat, show (0 : Int64) = lN 0 from rfl]
  exact fb_lN_inj (by omega) (by decide)
/-- a bit set, a bit taken off -/
theorem fb_bit_set (n j i : Nat) : (n ||| 2 ^ j).testBit i = (n.testBit i || decide (i = j)) := by
  rw [Nat.testBit_or]
  by_cases h : j = i
  · subst h; simp
  · have h2 : ¬ i = j := fun e => h e.symm
    first | (simp [Nat.testBit_two_pow, h, h2]; done) | (simp [Nat.testBit_two_pow_of_ne h, h2]; done)
theorem fb_bit_flip (n j i : Nat) : (n ^^^ 2 ^ j).testBit i = (n.testBit i ^^ decide (i = j)) := by
  rw [Nat.testBit_xor]
  by_cases h : j = i
  · subst h; simp
  · have h2 : ¬ i = j := fun e => h e.symm
    first | (simp [Nat.testBit_two_pow, h, h2]; done) | (simp [Nat.testBit_two_pow_of_ne h, h2]; done)
/-! ===== a stretch of an array written over by a function ===== -/
def fb_put {α : Type} (f g : Nat → α) (a n : Nat) : Nat → α := fun k => if a ≤ k ∧ k < a + n then g (k - a) else f k
theorem fb_put_0 {α : Type} (f g : Nat → α) (a : Nat) : fb_put f g a 0 = f := funext fun k => if_neg (by omega)
theorem fb_put_in {α : Type} {f g : Nat → α} {a n k : Nat} (h1 : a ≤ k) (h2 : k < a + n) : fb_put f g a n k = g (k - a) := if_pos ⟨h1, h2⟩
theorem fb_put_out {α : Type} {f g : Nat → α} {a n k : Nat} (h : k < a ∨ a + n ≤ k) : fb_put f g a n k = f k := if_neg (by omega)
theorem fb_put_succ (f g : Nat → Int32) (a n : Nat) : upd (fb_put f g a n) (a + n) (g n) = fb_put f g a (n + 1) := by
  funext k
  by_cases h : k = a + n
  · subst h
    simp [upd, fb_put]
  · by_cases h1 : a ≤ k ∧ k < a + n
    · have h2 : a ≤ k ∧ k < a + (n + 1) := by omega
      simp only [upd, fb_put, if_neg h, if_pos h1, if_pos h2]
    · have h2 : ¬ (a ≤ k ∧ k < a + (n + 1)) := by omega
      simp only [upd, fb_put, if_neg h, if_neg h1, if_neg h2]
/-- .. from the far end down -/
theorem fb_put_down (f g : Nat → Int32) {a n m : Nat} (h : m < n) : upd (fb_put f (fun k => g (k + (m + 1))) (a + (m + 1)) (n - (m + 1))) (a + m) (g m) = fb_put f (fun k => g (k + m)) (a + m) (n - m) := by
  funext k
  by_cases h0 : k = a + m
  · subst h0
    simp only [upd, if_true]
    rw [fb_put_in (by omega) (by omega)]
    exact congrArg g (by omega)
  · simp only [upd, if_neg h0]
    by_cases h1 : a + (m + 1) ≤ k ∧ k < a + (m + 1) + (n - (m + 1))
    · rw [fb_put_in h1.1 h1.2, fb_put_in (by omega) (by omega)]
      exact congrArg g (by omega)
    · rw [fb_put_out (by omega), fb_put_out (by omega)]
theorem fb_put_cong {α : Type} {f f2 g g2 : Nat → α} {a n : Nat} (hf : ∀ k, (k < a ∨ a + n ≤ k) → f k = f2 k) (hg : ∀ k, k < n → g k = g2 k) : fb_put f g a n = fb_put f2 g2 a n := by
  funext k
  by_cases h : a ≤ k ∧ k < a + n
  · rw [fb_put_in h.1 h.2, fb_put_in h.1 h.2, hg _ (by omega)]
  · rw [fb_put_out (by omega), fb_put_out (by omega), hf _ (by omega)]
/-! ===== the least, the first, the best so far; that there is one alone ===== -/
theorem fb_first {p : Nat → Prop} [DecidablePred p] : ∀ {n : Nat}, (∃ i, i < n ∧ p i) → ∃ i, i < n ∧ p i ∧ ∀ j, j < i → ¬ p j
  | 0, h => by obtain ⟨i, hi, -⟩ := h; exact absurd hi (Nat.not_lt_zero i)
  | n + 1, h => by
    by_cases q : ∃ i, i < n ∧ p i
    · obtain ⟨i, h1, h2⟩ := fb_first q
      exact ⟨i, by omega, h2⟩
    · obtain ⟨i, h1, h2⟩ := h
      have e : i = n := by
        rcases Nat.lt_or_ge i n with r | r
        · exact absurd ⟨i, r, h2⟩ q
        · omega
      subst e
      exact ⟨i, by omega, h2, fun j hj hp => q ⟨j, hj, hp⟩⟩
theorem fb_first_one {p : Nat → Prop} {i j : Nat} (hi : p i) (hi2 : ∀ k, k < i → ¬ p k) (hj : p j) (hj2 : ∀ k, k < j → ¬ p k) : i = j := by
  rcases Nat.lt_trichotomy i j with q | q | q
  · exact absurd hi (hj2 i q)
  · exact q
  · exact absurd hj (hi2 j q)
theorem fb_last {p : Nat → Prop} [DecidablePred p] : ∀ {n : Nat}, (∃ i, i < n ∧ p i) → ∃ i, i < n ∧ p i ∧ ∀ j, i < j → j < n → ¬ p j
  | 0, h => by obtain ⟨i, hi, -⟩ := h; exact absurd hi (Nat.not_lt_zero i)
  | n + 1, h => by
    by_cases q : p n
    · exact ⟨n, by omega, q, fun j h1 h2 => by omega⟩
    · obtain ⟨i, h1, h2⟩ := h
      have hi : i < n := by
        rcases Nat.lt_or_ge i n with r | r
        · exact r
        · have e : i = n := by omega
          subst e
          exact absurd h2 q
      obtain ⟨i2, a1, a2, a3⟩ := fb_last (n := n) ⟨i, hi, h2⟩
      refine ⟨i2, by omega, a2, fun j b1 b2 => ?_⟩
      rcases Nat.lt_or_ge j n with r | r
      · exact a3 j b1 r
      · have e : j = n := by omega
        subst e
        exact q
/-- the first greatest -/
theorem fb_best (f : Nat → Int) : ∀ {n : Nat}, 0 < n → ∃ i, i < n ∧ (∀ j, j < n → f j ≤ f i) ∧ ∀ j, j < i → f j < f i
  | 0, h => absurd h (Nat.lt_irrefl 0)
  | 1, _ => ⟨0, by omega, fun j hj => by have e : j = 0 := by omega
                                         subst e; exact Int.le_refl _, fun j hj => absurd hj (Nat.not_lt_zero j)⟩
  | n + 2, _ => by
    obtain ⟨i, h1, h2, h3⟩ := fb_best f (n := n + 1) (by omega)
    by_cases q : f i < f (n + 1)
    · refine ⟨n + 1, by omega, fun j hj => ?_, fun j hj => ?_⟩
      · rcases Nat.lt_or_ge j (n + 1) with r | r
        · have := h2 j r; omega
        · have e : j = n + 1 := by omega
          subst e; exact Int.le_refl _
      · have := h2 j hj; omega
    · refine ⟨i, by omega, fun j hj => ?_, h3⟩
      rcases Nat.lt_or_ge j (n + 1) with r | r
      · exact h2 j r
      · have e : j = n + 1 := by omega
        subst e; omega
theorem fb_best_one {f : Nat → Int} {n i j : Nat} (hi : i < n) (hi2 : ∀ k, k < n → f k ≤ f i) (hi3 : ∀ k, k < i → f k < f i) (hj : j < n) (hj2 : ∀ k, k < n → f k ≤ f j) (hj3 : ∀ k, k < j → f k < f j) : i = j := by
  rcases Nat.lt_trichotomy i j with q | q | q
  · have a := hj3 i q
    have b := hi2 j hj
    omega
  · exact q
  · have a := hi3 j q
    have b := hj2 i hi
    omega
/-- the first least -/
theorem fb_low (f : Nat → Int) {n : Nat} (h : 0 < n) : ∃ i, i < n ∧ (∀ j, j < n → f i ≤ f j) ∧ ∀ j, j < i → f i < f j := by
  obtain ⟨i, h1, h2, h3⟩ := fb_best (fun k => -f k) h
  exact ⟨i, h1, fun j hj => by have := h2 j hj; omega, fun j hj => by have := h3 j hj; omega⟩
/-! ===== signed ints as whole numbers, within bounds ===== -/
theorem fb_rng (x : Int32) : -2147483648 ≤ x.toInt ∧ x.toInt < 2147483648 := by
  have h1 := Int32.le_toInt x
  have h2 := Int32.toInt_lt x
  omega
theorem fb_bmod {z : Int} (h1 : -2147483648 ≤ z) (h2 : z < 2147483648) : z.bmod (2 ^ 32) = z := by
  rw [Int.bmod_eq_of_le (by omega) (by omega)]
theorem fb_addI {x y : Int32} (h1 : -2147483648 ≤ x.toInt + y.toInt) (h2 : x.toInt + y.toInt < 2147483648) : (x + y).toInt = x.toInt + y.toInt := by
  rw [Int32.toInt_add, fb_bmod h1 h2]
theorem fb_subI {x y : Int32} (h1 : -2147483648 ≤ x.toInt - y.toInt) (h2 : x.toInt - y.toInt < 2147483648) : (x - y).toInt = x.toInt - y.toInt := by
  rw [Int32.toInt_sub, fb_bmod h1 h2]
theorem fb_mulI {x y : Int32} (h1 : -2147483648 ≤ x.toInt * y.toInt) (h2 : x.toInt * y.toInt < 2147483648) : (x * y).toInt = x.toInt * y.toInt := by
  rw [Int32.toInt_mul, fb_bmod h1 h2]
theorem fb_negI {x : Int32} (h : x.toInt ≠ -2147483648) : (-x).toInt = -x.toInt := by
  have := fb_rng x
  rw [Int32.toInt_neg, fb_bmod (by omega) (by omega)]
theorem fb_ofI {z : Int} (h1 : -2147483648 ≤ z) (h2 : z < 2147483648) : (Int32.ofInt z).toInt = z := by
  rw [Int32.toInt_ofInt, fb_bmod h1 h2]
theorem fb_asI (x : Int32) : Int32.ofInt x.toInt = x := Int32.ofInt_toInt x
theorem fb_rngL (x : Int64) : -9223372036854775808 ≤ x.toInt ∧ x.toInt < 9223372036854775808 := by
  have h1 := Int64.le_toInt x
  have h2 := Int64.toInt_lt x
  omega
theorem fb_bmodL {z : Int} (h1 : -9223372036854775808 ≤ z) (h2 : z < 9223372036854775808) : z.bmod (2 ^ 64) = z := by
  rw [Int.bmod_eq_of_le (by omega) (by omega)]
theorem fb_addL {x y : Int64} (h1 : -9223372036854775808 ≤ x.toInt + y.toInt) (h2 : x.toInt + y.toInt < 9223372036854775808) : (x + y).toInt = x.toInt + y.toInt := by
  rw [Int64.toInt_add, fb_bmodL h1 h2]
theorem fb_subL {x y : Int64} (h1 : -9223372036854775808 ≤ x.toInt - y.toInt) (h2 : x.toInt - y.toInt < 9223372036854775808) : (x - y).toInt = x.toInt - y.toInt := by
  rw [Int64.toInt_sub, fb_bmodL h1 h2]
theorem fb_mulL {x y : Int64} (h1 : -9223372036854775808 ≤ x.toInt * y.toInt) (h2 : x.toInt * y.toInt < 9223372036854775808) : (x * y).toInt = x.toInt * y.toInt := by
  rw [Int64.toInt_mul, fb_bmodL h1 h2]
/-! ===== cuts of what is narrow already ===== -/
theorem fb_byte {x : Int32} (h1 : -128 ≤ x.toInt) (h2 : x.toInt < 128) : x.toInt8.toInt32 = x := by
  apply Int32.toInt_inj.1
  rw [Int8.toInt_toInt32, Int32.toInt_toInt8, Int.bmod_eq_of_le (by omega) (by omega)]
theorem fb_short {x : Int32} (h1 : -32768 ≤ x.toInt) (h2 : x.toInt < 32768) : x.toInt16.toInt32 = x := by
  apply Int32.toInt_inj.1
  rw [Int16.toInt_toInt32, Int32.toInt_toInt16, Int.bmod_eq_of_le (by omega) (by omega)]
theorem fb_byte_rng (x : Int32) : -128 ≤ x.toInt8.toInt32.toInt ∧ x.toInt8.toInt32.toInt < 128 := by
  rw [Int8.toInt_toInt32]
  have h1 := Int8.le_toInt x.toInt8
  have h2 := Int8.toInt_lt x.toInt8
  omega
theorem fb_short_rng (x : Int32) : -32768 ≤ x.toInt16.toInt32.toInt ∧ x.toInt16.toInt32.toInt < 32768 := by
  rw [Int16.toInt_toInt32]
  have h1 := Int16.le_toInt x.toInt16
  have h2 := Int16.toInt_lt x.toInt16
  omega
theorem fb_byte_twice (x : Int32) : x.toInt8.toInt32.toInt8.toInt32 = x.toInt8.toInt32 := fb_byte (fb_byte_rng x).1 (fb_byte_rng x).2
theorem fb_short_twice (x : Int32) : x.toInt16.toInt32.toInt16.toInt32 = x.toInt16.toInt32 := fb_short (fb_short_rng x).1 (fb_short_rng x).2
theorem fb_char {n : Nat} (h : n < 65536) : (nI n).toUInt32.toUInt16.toUInt32.toInt32 = nI n := by
  apply Int32.toBitVec_inj.1
  apply BitVec.eq_of_toNat_eq
  have e1 : (nI n).toBitVec.toNat = n := by
    show (BitVec.ofNat 32 n).toNat = n
    rw [BitVec.toNat_ofNat, Nat.mod_eq_of_lt (by omega)]
  have e2 : ((nI n).toUInt32.toUInt16.toUInt32).toNat = n := by
    rw [UInt16.toNat_toUInt32, UInt32.toNat_toUInt16]
    show (nI n).toBitVec.toNat % 2 ^ 16 = n
    rw [e1, Nat.mod_eq_of_lt (by omega)]
  rw [e1]
  exact e2
end
section
/-! instructions over numbers -/
section RIN
variable {p : Program} {l : Launch} {e : Env} {R : Room} {s : State} {m : MethodId} {args : Array Value} {below : List Frame} {meth : Method} {c : Code} {H : Heap} {locs : List Loc} {cells slots : Nat} {Q : State → Prop} {cc : ByteArray} {pc : Nat} {ls : Array Slot} {rest : List Value}
theorem r_iadd (hx : p.tables.exec = Jvm.exec) (hb : c.code = cc) {a b v : Nat} (hdg : decode cc pc = .ok (.iadd, 1)) (hv : a + b = v) (k : W p l e R s m args below meth c H locs cells slots Q (F0 m (pc + 1) ls (.int (nI v) :: rest))) : W p l e R s m args below meth c H locs cells slots Q (F0 m pc ls (.int (nI b) :: .int (nI a) :: rest)) :=
  lv_iadd hx hb hdg (by rw [nI_add, hv]; exact k)
theorem r_imul (hx : p.tables.exec = Jvm.exec) (hb : c.code = cc) {a b v : Nat} (hdg : decode cc pc = .ok (.imul, 1)) (hv : a * b = v) (k : W p l e R s m args below meth c H locs cells slots Q (F0 m (pc + 1) ls (.int (nI v) :: rest))) : W p l e R s m args below meth c H locs cells slots Q (F0 m pc ls (.int (nI b) :: .int (nI a) :: rest)) :=
  lv_imul hx hb hdg (by rw [pk_mul, hv]; exact k)
theorem r_isub (hx : p.tables.exec = Jvm.exec) (hb : c.code = cc) {a b v : Nat} (hdg : decode cc pc = .ok (.isub, 1)) (hle : b ≤ a) (hv : a - b = v) (k : W p l e R s m args below meth c H locs cells slots Q (F0 m (pc + 1) ls (.int (nI v) :: rest))) : W p l e R s m args below meth c H locs cells slots Q (F0 m pc ls (.int (nI b) :: .int (nI a) :: rest)) :=
  lv_isub hx hb hdg (by rw [pk_sub hle, hv]; exact k)
theorem r_irem (hx : p.tables.exec = Jvm.exec) (hb : c.code = cc) {a b v : Nat} (hdg : decode cc pc = .ok (.irem, 1)) (ha : a < 2 ^ 31) (h0 : 0 < b) (hb2 : b < 2 ^ 31) (hv : a % b = v) (k : W p l e R s m args below meth c H locs cells slots Q (F0 m (pc + 1) ls (.int (nI v) :: rest))) : W p l e R s m args below meth c H locs cells slots Q (F0 m pc ls (.int (nI b) :: .int (nI a) :: rest)) :=
  lv_irem hx hb hdg (nI_ne0 h0 hb2) (by rw [pk_rem ha h0 hb2, hv]; exact k)
/-- a number on the stack, said otherwise -/
theorem r_top {x y : Int32} (h : x = y) (k : W p l e R s m args below meth c H locs cells slots Q (F0 m pc ls (.int y :: rest))) : W p l e R s m args below meth c H locs cells slots Q (F0 m pc ls (.int x :: rest)) := by rw [h]; exact k
theorem r_iinc (hx : p.tables.exec = Jvm.exec) (hb : c.code = cc) {i nL k : Nat} {n : Int} {x v : Nat} {lv lv' : List (Nat × Value)} (hdg : decode cc pc = .ok (.iinc i n, 3)) (h : lv_has ls nL lv) (hk : lv[k]? = some (i, .int (nI x))) (hv : nI x + Int32.ofInt n = nI v) (hn : i < nL) (hl : (i, Value.int (nI v)) :: lv.filter (fun q => !(q.1 == i) && !(q.1 + 1 == i && q.2.category == 2)) = lv')
    (kk : ∀ ls' : Array Slot, lv_has ls' nL lv' → W p l e R s m args below meth c H locs cells slots Q (F0 m (pc + 3) ls' rest)) : W p l e R s m args below meth c H locs cells slots Q (F0 m pc ls rest) :=
  lv_iinc hx hb hdg h hk hv hn hl kk
theorem r_icmp_eq {P : Prop} (hx : p.tables.exec = Jvm.exec) (hb : c.code = cc) {x y : Int32} {off : Int} {tgt : Nat} (hdg : decode cc pc = .ok (.if_icmp .eq off, 3)) (ht : (pc : Int) + off = (tgt : Int)) (hi : x = y ↔ P)
    (kt : P → W p l e R s m args below meth c H locs cells slots Q (F0 m tgt ls rest)) (kf : ¬ P → W p l e R s m args below meth c H locs cells slots Q (F0 m (pc + 3) ls rest)) : W p l e R s m args below meth c H locs cells slots Q (F0 m pc ls (.int y :: .int x :: rest)) :=
  lv_icmp_eq hx hb hdg ht (fun h => kt (hi.mp h)) (fun h => kf (fun q => h (hi.mpr q)))
theorem r_if_eq {P : Prop} (hx : p.tables.exec = Jvm.exec) (hb : c.code = cc) {x : Int32} {off : Int} {tgt : Nat} (hdg : decode cc pc = .ok (.ifCond .eq off, 3)) (ht : (pc : Int) + off = (tgt : Int)) (hi : x = 0 ↔ P)
    (kt : P → W p l e R s m args below meth c H locs cells slots Q (F0 m tgt ls rest)) (kf : ¬ P → W p l e R s m args below meth c H locs cells slots Q (F0 m (pc + 3) ls rest)) : W p l e R s m args below meth c H locs cells slots Q (F0 m pc ls (.int x :: rest)) :=
  lv_if_eq hx hb hdg ht (fun h => kt (hi.mp h)) (fun h => kf (fun q => h (hi.mpr q)))
theorem r_icmp_ne {P : Prop} (hx : p.tables.exec = Jvm.exec) (hb : c.code = cc) {x y : Int32} {off : Int} {tgt : Nat} (hdg : decode cc pc = .ok (.if_icmp .ne off, 3)) (ht : (pc : Int) + off = (tgt : Int)) (hi : x = y ↔ P)
    (kt : ¬ P → W p l e R s m args below meth c H locs cells slots Q (F0 m tgt ls rest)) (kf : P → W p l e R s m args below meth c H locs cells slots Q (F0 m (pc + 3) ls rest)) : W p l e R s m args below meth c H locs cells slots Q (F0 m pc ls (.int y :: .int x :: rest)) :=
  lv_icmp_ne hx hb hdg ht (fun h => kt (fun q => h (hi.mpr q))) (fun h => kf (hi.mp (Classical.not_not.mp h)))
theorem r_if_ne {P : Prop} (hx : p.tables.exec = Jvm.exec) (hb : c.code = cc) {x : Int32} {off : Int} {tgt : Nat} (hdg : decode cc pc = .ok (.ifCond .ne off, 3)) (ht : (pc : Int) + off = (tgt : Int)) (hi : x = 0 ↔ P)
    (kt : ¬ P → W p l e R s m args below meth c H locs cells slots Q (F0 m tgt ls rest)) (kf : P → W p l e R s m args below meth c H locs cells slots Q (F0 m (pc + 3) ls rest)) : W p l e R s m args below meth c H locs cells slots Q (F0 m pc ls (.int x :: rest)) :=
  lv_if_ne hx hb hdg ht (fun h => kt (fun q => h (hi.mpr q))) (fun h => kf (hi.mp (Classical.not_not.mp h)))
theorem r_icmp_lt {P : Prop} (hx : p.tables.exec = Jvm.exec) (hb : c.code = cc) {x y : Int32} {off : Int} {tgt : Nat} (hdg : decode cc pc = .ok (.if_icmp .lt off, 3)) (ht : (pc : Int) + off = (tgt : Int)) (hi : x < y ↔ P)
    (kt : P → W p l e R s m args below meth c H locs cells slots Q (F0 m tgt ls rest)) (kf : ¬ P → W p l e R s m args below meth c H locs cells slots Q (F0 m (pc + 3) ls rest)) : W p l e R s m args below meth c H locs cells slots Q (F0 m pc ls (.int y :: .int x :: rest)) :=
  lv_icmp_lt hx hb hdg ht (fun h => kt (hi.mp h)) (fun h => kf (fun q => h (hi.mpr q)))
theorem r_if_lt {P : Prop} (hx : p.tables.exec = Jvm.exec) (hb : c.code = cc) {x : Int32} {off : Int} {tgt : Nat} (hdg : decode cc pc = .ok (.ifCond .lt off, 3)) (ht : (pc : Int) + off = (tgt : Int)) (hi : x < 0 ↔ P)
    (kt : P → W p l e R s m args below meth c H locs cells slots Q (F0 m tgt ls rest)) (kf : ¬ P → W p l e R s m args below meth c H locs cells slots Q (F0 m (pc + 3) ls rest)) : W p l e R s m args below meth c H locs cells slots Q (F0 m pc ls (.int x :: rest)) :=
  lv_if_lt hx hb hdg ht (fun h => kt (hi.mp h)) (fun h => kf (fun q => h (hi.mpr q)))
theorem r_icmp_ge {P : Prop} (hx : p.tables.exec = Jvm.exec) (hb : c.code = cc) {x y : Int32} {off : Int} {tgt : Nat} (hdg : decode cc pc = .ok (.if_icmp .ge off, 3)) (ht : (pc : Int) + off = (tgt : Int)) (hi : y ≤ x ↔ P)
    (kt : P → W p l e R s m args below meth c H locs cells slots Q (F0 m tgt ls rest)) (kf : ¬ P → W p l e R s m args below meth c H locs cells slots Q (F0 m (pc + 3) ls rest)) : W p l e R s m args below meth c H locs cells slots Q (F0 m pc ls (.int y :: .int x :: rest)) :=
  lv_icmp_ge hx hb hdg ht (fun h => kt (hi.mp h)) (fun h => kf (fun q => h (hi.mpr q)))
theorem r_if_ge {P : Prop} (hx : p.tables.exec = Jvm.exec) (hb : c.code = cc) {x : Int32} {off : Int} {tgt : Nat} (hdg : decode cc pc = .ok (.ifCond .ge off, 3)) (ht : (pc : Int) + off = (tgt : Int)) (hi : 0 ≤ x ↔ P)
    (kt : P → W p l e R s m args below meth c H locs cells slots Q (F0 m tgt ls rest)) (kf : ¬ P → W p l e R s m args below meth c H locs cells slots Q (F0 m (pc + 3) ls rest)) : W p l e R s m args below meth c H locs cells slots Q (F0 m pc ls (.int x :: rest)) :=
  lv_if_ge hx hb hdg ht (fun h => kt (hi.mp h)) (fun h => kf (fun q => h (hi.mpr q)))
theorem r_icmp_gt {P : Prop} (hx : p.tables.exec = Jvm.exec) (hb : c.code = cc) {x y : Int32} {off : Int} {tgt : Nat} (hdg : decode cc pc = .ok (.if_icmp .gt off, 3)) (ht : (pc : Int) + off = (tgt : Int)) (hi : y < x ↔ P)
    (kt : P → W p l e R s m args below meth c H locs cells slots Q (F0 m tgt ls rest)) (kf : ¬ P → W p l e R s m args below meth c H locs cells slots Q (F0 m (pc + 3) ls rest)) : W p l e R s m args below meth c H locs cells slots Q (F0 m pc ls (.int y :: .int x :: rest)) :=
  lv_icmp_gt hx hb hdg ht (fun h => kt (hi.mp h)) (fun h => kf (fun q => h (hi.mpr q)))
theorem r_if_gt {P : Prop} (hx : p.tables.exec = Jvm.exec) (hb : c.code = cc) {x : Int32} {off : Int} {tgt : Nat} (hdg : decode cc pc = .ok (.ifCond .gt off, 3)) (ht : (pc : Int) + off = (tgt : Int)) (hi : 0 < x ↔ P)
    (kt : P → W p l e R s m args below meth c H locs cells slots Q (F0 m tgt ls rest)) (kf : ¬ P → W p l e R s m args below meth c H locs cells slots Q (F0 m (pc + 3) ls rest)) : W p l e R s m args below meth c H locs cells slots Q (F0 m pc ls (.int x :: rest)) :=
  lv_if_gt hx hb hdg ht (fun h => kt (hi.mp h)) (fun h => kf (fun q => h (hi.mpr q)))
theorem r_icmp_le {P : Prop} (hx : p.tables.exec = Jvm.exec) (hb : c.code = cc) {x y : Int32} {off : Int} {tgt : Nat} (hdg : decode cc pc = .ok (.if_icmp .le off, 3)) (ht : (pc : Int) + off = (tgt : Int)) (hi : x ≤ y ↔ P)
    (kt : P → W p l e R s m args below meth c H locs cells slots Q (F0 m tgt ls rest)) (kf : ¬ P → W p l e R s m args below meth c H locs cells slots Q (F0 m (pc + 3) ls rest)) : W p l e R s m args below meth c H locs cells slots Q (F0 m pc ls (.int y :: .int x :: rest)) :=
  lv_icmp_le hx hb hdg ht (fun h => kt (hi.mp h)) (fun h => kf (fun q => h (hi.mpr q)))
theorem r_if_le {P : Prop} (hx : p.tables.exec = Jvm.exec) (hb : c.code = cc) {x : Int32} {off : Int} {tgt : Nat} (hdg : decode cc pc = .ok (.ifCond .le off, 3)) (ht : (pc : Int) + off = (tgt : Int)) (hi : x ≤ 0 ↔ P)
    (kt : P → W p l e R s m args below meth c H locs cells slots Q (F0 m tgt ls rest)) (kf : ¬ P → W p l e R s m args below meth c H locs cells slots Q (F0 m (pc + 3) ls rest)) : W p l e R s m args below meth c H locs cells slots Q (F0 m pc ls (.int x :: rest)) :=
  lv_if_le hx hb hdg ht (fun h => kt (hi.mp h)) (fun h => kf (fun q => h (hi.mpr q)))
/-! rows of cells -/
variable {D : va_G} {cl : List vw_C} {tys : List (ClassId × FieldType)} {ws : va_W} {A : Nat → Prop} {H0 : Heap} {a : Nat}
theorem r_iald (hx : p.tables.exec = Jvm.exec) (hb : c.code = cc) (hK : va_K D cl tys s) (hP : va_P D cl ws H) (q0 t0 : Nat) {cA : ClassId} {n e1 : Nat} {f : Nat → Int32} {v : Int32} (ha : ws[q0]? = some (a, .inl (cA, n, .inl f))) (ht : tys[t0]? = some (cA, .int)) (hlt : e1 < n) (hn : n < 2 ^ 31) (hv : f e1 = v) (hdg : decode cc pc = .ok (.iaload, 1))
    (kk : W p l e R s m args below meth c H locs cells slots Q (F0 m (pc + 1) ls (.int v :: rest))) : W p l e R s m args below meth c H locs cells slots Q (F0 m pc ls (.int (nI e1) :: .ref a :: rest)) :=
  va_iald hx hb hK hP q0 t0 ha ht (vp_in_nI hlt hn) hdg (by rw [nI_clamp (by omega), hv]; exact kk)
theorem r_cald (hx : p.tables.exec = Jvm.exec) (hb : c.code = cc) (hK : va_K D cl tys s) (hP : va_P D cl ws H) (q0 t0 : Nat) {cA : ClassId} {n e1 : Nat} {f : Nat → Int32} {v : Int32} (ha : ws[q0]? = some (a, .inl (cA, n, .inl f))) (ht : tys[t0]? = some (cA, .char)) (hlt : e1 < n) (hn : n < 2 ^ 31) (hv : f e1 = v) (hdg : decode cc pc = .ok (.caload, 1))
    (kk : W p l e R s m args below meth c H locs cells slots Q (F0 m (pc + 1) ls (.int v :: rest))) : W p l e R s m args below meth c H locs cells slots Q (F0 m pc ls (.int (nI e1) :: .ref a :: rest)) :=
  va_cald hx hb hK hP q0 t0 ha ht (vp_in_nI hlt hn) hdg (by rw [nI_clamp (by omega), hv]; exact kk)
theorem r_aald (hx : p.tables.exec = Jvm.exec) (hb : c.code = cc) (hK : va_K D cl tys s) (hP : va_P D cl ws H) (q0 t0 : Nat) {cA : ClassId} {C : String} {n e1 v : Nat} {f : Nat → Option Nat} (ha : ws[q0]? = some (a, .inl (cA, n, .inr (.inr (.inr (.inr f)))))) (ht : tys[t0]? = some (cA, .object C)) (hlt : e1 < n) (hn : n < 2 ^ 31) (hv : f e1 = some v) (hdg : decode cc pc = .ok (.aaload, 1))
    (kk : W p l e R s m args below meth c H locs cells slots Q (F0 m (pc + 1) ls (.ref v :: rest))) : W p l e R s m args below meth c H locs cells slots Q (F0 m pc ls (.int (nI e1) :: .ref a :: rest)) :=
  va_aldq hx hb hK hP q0 t0 ha ht (vp_in_nI hlt hn) hdg (by rw [nI_clamp (by omega), hv]; exact kk)
theorem r_iast (hx : p.tables.exec = Jvm.exec) (hb : c.code = cc) (hK : va_K D cl tys s) (hP : va_P D cl ws H) (hD : va_D A ws) (hS : va_S A H0 H locs) (q0 t0 : Nat) {cA : ClassId} {n e1 : Nat} {f : Nat → Int32} {x : Int32} (g : Nat → Int32) (ha : ws[q0]? = some (a, .inl (cA, n, .inl f))) (ht : tys[t0]? = some (cA, .int)) (hlt : e1 < n) (hn : n < 2 ^ 31) (hg : upd f e1 x = g) (hdg : decode cc pc = .ok (.iastore, 1))
    (kk : ∀ (H1 : Heap) (locs1 : List Loc), va_P D cl (ws.set q0 (a, .inl (cA, n, .inl g))) H1 → va_D A (ws.set q0 (a, .inl (cA, n, .inl g))) → va_S A H0 H1 locs1 → W p l e R s m args below meth c H1 locs1 cells slots Q (F0 m (pc + 1) ls rest)) : W p l e R s m args below meth c H locs cells slots Q (F0 m pc ls (.int x :: .int (nI e1) :: .ref a :: rest)) :=
  va_iast hx hb hK hP hD hS q0 t0 ha ht (vp_in_nI hlt hn) hdg (by rw [nI_clamp (by omega), hg]; exact kk)
theorem r_cast (hx : p.tables.exec = Jvm.exec) (hb : c.code = cc) (hK : va_K D cl tys s) (hP : va_P D cl ws H) (hD : va_D A ws) (hS : va_S A H0 H locs) (q0 t0 : Nat) {cA : ClassId} {n e1 : Nat} {f : Nat → Int32} {x : Int32} (g : Nat → Int32) (ha : ws[q0]? = some (a, .inl (cA, n, .inl f))) (ht : tys[t0]? = some (cA, .char)) (hlt : e1 < n) (hn : n < 2 ^ 31) (hg : upd f e1 (vp_nar .char x) = g) (hdg : decode cc pc = .ok (.castore, 1))
    (kk : ∀ (H1 : Heap) (locs1 : List Loc), va_P D cl (ws.set q0 (a, .inl (cA, n, .inl g))) H1 → va_D A (ws.set q0 (a, .inl (cA, n, .inl g))) → va_S A H0 H1 locs1 → W p l e R s m args below meth c H1 locs1 cells slots Q (F0 m (pc + 1) ls rest)) : W p l e R s m args below meth c H locs cells slots Q (F0 m pc ls (.int x :: .int (nI e1) :: .ref a :: rest)) :=
  va_cast hx hb hK hP hD hS q0 t0 ha ht (vp_in_nI hlt hn) hdg (by rw [nI_clamp (by omega), hg]; exact kk)
/-! calls in place -/
variable {y : MethodName} {bytes : ByteArray} {maxL nL n index ci q0 : Nat} {ret : Option FieldType} {wsm ws' : List Cond} {rm : Room} {Ts : List Cond} {own C host : String} {b : Addr} {As st0 : List Value} {G : kG} {wc : va_W} {free : Addr → Prop} {Qc : Array Value → State → Outcome → State → Prop} {mc ms : Nat}
theorem k_pre {st : List Value} {A0 : Nat → Prop} (hK : KK G s) (hP : va_P G.1 vwCl ws H) (hD : va_D A0 ws) {is : List Nat} (hC : is.map (fun i => ws[i]?) = wc.map some) (hnd : va_nd is = true) : PreS s H (cP G st wc) st :=
  ⟨cP_blind, fun U hU hW => ⟨rfl, by rw [hU]; exact pl_P hP hC, hK.warm hW, (hD.sub is hnd hC).weaken (fun _ _ _ _ => trivial)⟩⟩
theorem k_recv {fs : List Value} {r : vw_C} (hK : KK G s) (hP : va_P G.1 vwCl ws H) (he : ws[q0]? = some (b, .inr (ci, fs))) (hc : vwCl[ci]? = some r) (hrC : r.1 = C) : ∃ cell : Cell, H[b]? = some cell ∧ cell.vm.isStatics = false ∧ s.vm.findClass C = some cell.cls := by
  subst hrC
  exact va_recv hK.1 hP hc he
/-- a method of an object: the run of its call -/
theorem k_V (hx : p.tables.exec = Jvm.exec) (hb : c.code = cc) (hml : c.maxLocals = nL) (hown : s.vm.findClass own = some m.cls) (hts : ∀ w ∈ Ts, w.before args s = true) (hM : Met l y wsm rm (cP G (.ref b :: As) wc) Qc mc ms free) (hG : GoodIn Ts (wsV own index C y wsm)) (hw : wsm = Cond.code y bytes maxL ret :: ws') (hrc : rm.cells = mc) (hrs : rm.slots = ms)
    (hd : y.cls = C ∧ y.cls ≠ "java/lang/invoke/MethodHandle" ∧ y.cls ≠ "java/lang/invoke/VarHandle" ∧ (parseMethodDescriptor y.desc).map (fun d => d.parameters.length) = some n) (hR : rm.frames + 1 ≤ R.frames ∧ 8 + (maxL + 11) + rm.locals ≤ R.locals) (hn : As.length = n)
    (hK : KK G s) (hP : va_P G.1 vwCl ws H) (hD : va_D A ws) (is : List Nat) (hC : is.map (fun i => ws[i]?) = wc.map some) (hnd : va_nd is = true) {fs : List Value} {r : vw_C} (he : ws[q0]? = some (b, .inr (ci, fs))) (hc : vwCl[ci]? = some r) (hrC : r.1 = C) (hsz : ls.size = nL) (hst : st0 = As.reverse ++ .ref b :: rest) (hroom : (rest.map fun v => v.category).sum ≤ 8) (hdg : decode cc pc = .ok (.invokevirtual index, 3)) (hcs : cells + mc ≤ R.cells ∧ slots + ms ≤ R.slots) :
    va_Run p l e R s m args below meth c H locs cells slots mc ms (F0 m pc ls st0) rest (Qc (Value.ref b :: As).toArray) free :=
  va_runV (As := As) (rest := rest) ⟨hx, hb, hml, hown, hts⟩ hM (cwV n hts hG hw hrc hrs hd hR) ⟨cP_blind, k_recv hK hP he hc hrC, (k_pre hK hP hD hC hnd).2⟩ rfl hn hsz hst (lv_room hroom) hdg hcs
/-- a static method -/
theorem k_S (hx : p.tables.exec = Jvm.exec) (hb : c.code = cc) (hml : c.maxLocals = nL) (hown : s.vm.findClass own = some m.cls) (hts : ∀ w ∈ Ts, w.before args s = true) (hM : Met l y wsm rm (cP G As wc) Qc mc ms free) (hG : GoodIn Ts (va_wsS own index y wsm)) (hw : wsm = Cond.code y bytes maxL ret :: ws') (hrc : rm.cells = mc) (hrs : rm.slots = ms)
    (hd : y.cls ≠ "java/lang/invoke/MethodHandle" ∧ y.cls ≠ "java/lang/invoke/VarHandle" ∧ (parseMethodDescriptor y.desc).map (fun d => d.parameters.length) = some n) (hR : rm.frames + 1 ≤ R.frames ∧ 8 + (maxL + 11) + rm.locals ≤ R.locals) (hn : As.length = n)
    (hK : KK G s) (hP : va_P G.1 vwCl ws H) (hD : va_D A ws) (is : List Nat) (hC : is.map (fun i => ws[i]?) = wc.map some) (hnd : va_nd is = true) (hsz : ls.size = nL) (hst : st0 = As.reverse ++ rest) (hroom : (rest.map fun v => v.category).sum ≤ 8) (hdg : decode cc pc = .ok (.invokestatic index, 3)) (hcs : cells + mc ≤ R.cells ∧ slots + ms ≤ R.slots) :
    va_Run p l e R s m args below meth c H locs cells slots mc ms (F0 m pc ls st0) rest (Qc As.toArray) free :=
  va_runS (As := As) (rest := rest) ⟨hx, hb, hml, hown, hts⟩ hM (va_cwS n hts hG hw hrc hrs hd hR) (k_pre hK hP hD hC hnd) rfl hn hsz hst (lv_room hroom) hdg hcs
/-- a private method of a nest mate -/
theorem k_VN (hx : p.tables.exec = Jvm.exec) (hb : c.code = cc) (hml : c.maxLocals = nL) (hown : s.vm.findClass own = some m.cls) (hts : ∀ w ∈ Ts, w.before args s = true) (hM : Met l y wsm rm (cP G (.ref b :: As) wc) Qc mc ms free) (hG : GoodIn Ts wsm) (hl : va_Nw (.methodLinkNest own index y host) s) (hini : (Cond.initialized y.cls).before args s = true) (hin : (Cond.instanceMethod y).before args s = true) (hse : (Cond.selects C y y).before args s = true) (hw : wsm = Cond.code y bytes maxL ret :: ws') (hrc : rm.cells = mc) (hrs : rm.slots = ms)
    (hd : y.cls ≠ "java/lang/invoke/MethodHandle" ∧ y.cls ≠ "java/lang/invoke/VarHandle" ∧ (parseMethodDescriptor y.desc).map (fun d => d.parameters.length) = some n) (hR : rm.frames + 1 ≤ R.frames ∧ 8 + (maxL + 11) + rm.locals ≤ R.locals) (hn : As.length = n)
    (hK : KK G s) (hP : va_P G.1 vwCl ws H) (hD : va_D A ws) (is : List Nat) (hC : is.map (fun i => ws[i]?) = wc.map some) (hnd : va_nd is = true) {fs : List Value} {r : vw_C} (he : ws[q0]? = some (b, .inr (ci, fs))) (hc : vwCl[ci]? = some r) (hrC : r.1 = C) (hsz : ls.size = nL) (hst : st0 = As.reverse ++ .ref b :: rest) (hroom : (rest.map fun v => v.category).sum ≤ 8) (hdg : decode cc pc = .ok (.invokevirtual index, 3)) (hcs : cells + mc ≤ R.cells ∧ slots + ms ≤ R.slots) :
    va_Run p l e R s m args below meth c H locs cells slots mc ms (F0 m pc ls st0) rest (Qc (Value.ref b :: As).toArray) free :=
  va_runVN (As := As) (rest := rest) ⟨hx, hb, hml, hown, hts⟩ hM ⟨va_cnB n hts hG hw hrc hrs hl hini hd hR, hin, hse⟩ ⟨cP_blind, k_recv hK hP he hc hrC, (k_pre hK hP hD hC hnd).2⟩ rfl hn hsz hst (lv_room hroom) hdg hcs
theorem k_SN (hx : p.tables.exec = Jvm.exec) (hb : c.code = cc) (hml : c.maxLocals = nL) (hown : s.vm.findClass own = some m.cls) (hts : ∀ w ∈ Ts, w.before args s = true) (hM : Met l y wsm rm (cP G As wc) Qc mc ms free) (hG : GoodIn Ts wsm) (hl : va_Nw (.methodLinkNest own index y host) s) (hini : (Cond.initialized y.cls).before args s = true) (hstt : (Cond.static y).before args s = true) (hw : wsm = Cond.code y bytes maxL ret :: ws') (hrc : rm.cells = mc) (hrs : rm.slots = ms)
    (hd : y.cls ≠ "java/lang/invoke/MethodHandle" ∧ y.cls ≠ "java/lang/invoke/VarHandle" ∧ (parseMethodDescriptor y.desc).map (fun d => d.parameters.length) = some n) (hR : rm.frames + 1 ≤ R.frames ∧ 8 + (maxL + 11) + rm.locals ≤ R.locals) (hn : As.length = n)
    (hK : KK G s) (hP : va_P G.1 vwCl ws H) (hD : va_D A ws) (is : List Nat) (hC : is.map (fun i => ws[i]?) = wc.map some) (hnd : va_nd is = true) (hsz : ls.size = nL) (hst : st0 = As.reverse ++ rest) (hroom : (rest.map fun v => v.category).sum ≤ 8) (hdg : decode cc pc = .ok (.invokestatic index, 3)) (hcs : cells + mc ≤ R.cells ∧ slots + ms ≤ R.slots) :
    va_Run p l e R s m args below meth c H locs cells slots mc ms (F0 m pc ls st0) rest (Qc As.toArray) free :=
  va_runSN (As := As) (rest := rest) ⟨hx, hb, hml, hown, hts⟩ hM ⟨va_cnB n hts hG hw hrc hrs hl hini hd hR, hstt, trivial⟩ (k_pre hK hP hD hC hnd) rfl hn hsz hst (lv_room hroom) hdg hcs
/-- behind a call that only reads -/
theorem g_ro {post : Int32 → Prop} {av : Array Value} (hr : va_Run p l e R s m args below meth c H locs cells slots 0 0 (F0 m pc ls st0) rest (vp_Si post av) (fun _ => False)) (kk : ∀ r : Int32, post r → W p l e R s m args below meth c H locs cells slots Q (F0 m (pc + 3) ls (.int r :: rest))) : W p l e R s m args below meth c H locs cells slots Q (F0 m pc ls st0) := vp_callSi hr.run kk
/-- behind a call that changes its cells in place -/
theorem g_S {A1 : Nat → Prop} {H1 : Heap} {L : List Loc} (hS : va_S A H0 H locs) (hA : ∀ q, A1 q → A q) (hz : H.size ≤ H1.size) (hk : ∀ q : Nat, q < H.size → ¬ A1 q → H1[q]? = H[q]?) (hL : ∀ q ∈ L, A1 q.base) : va_S A H0 H1 (locs ++ L) :=
  ⟨Nat.le_trans hS.1 hz, fun q h1 h2 => by rw [hk q (Nat.lt_of_lt_of_le h1 hS.1) (fun z => h2 (hA q z))]; exact hS.2.1 q h1 h2, fun q hq => (List.mem_append.mp hq).elim (hS.2.2 q) (fun h => hA _ (hL q h))⟩
theorem g_V {B : Heap → Prop} {av : Array Value} (hr : va_Run p l e R s m args below meth c H locs cells slots 0 0 (F0 m pc ls st0) rest (qV B (mA wc) av) (mA wc)) (hP : va_P D cl ws H) (hD : va_D A ws) (hS : va_S A H0 H locs) (is : List Nat) (hC : is.map (fun i => ws[i]?) = wc.map some)
    (kk : ∀ (H1 : Heap) (locs1 : List Loc), B H1 → (∀ w1 : va_W, w1.map (·.1) = wc.map (·.1) → va_P D cl w1 H1 → va_P D cl (mrg ws is w1) H1 ∧ va_D A (mrg ws is w1)) → va_S A H0 H1 locs1 → W p l e R s m args below meth c H1 locs1 cells slots Q (F0 m (pc + 3) ls rest)) : W p l e R s m args below meth c H locs cells slots Q (F0 m pc ls st0) := by
  intro T hT X
  obtain ⟨v, st₀, t, T', L, h0, X', hL, e1, e2, ⟨⟨hv, hb⟩, hz, hk⟩, st⟩ := hr T hT X
  cases hv
  rw [h0] at hz hk
  rw [← e1] at hz hk hb
  obtain ⟨t2, a1, b1⟩ := kk T'.heap (locs ++ L) hb (fun w1 ha hP1 => ⟨mrg_P hP hD hC ha hk hP1, mrg_D hD hC ha⟩) (g_S hS (mA_sub hD hC) hz hk hL) T' rfl X'
  exact ⟨t2, st t2 a1, b1⟩
theorem g_I {B : Int32 → Heap → Prop} {av : Array Value} (hr : va_Run p l e R s m args below meth c H locs cells slots 0 0 (F0 m pc ls st0) rest (qI B (mA wc) av) (mA wc)) (hP : va_P D cl ws H) (hD : va_D A ws) (hS : va_S A H0 H locs) (is : List Nat) (hC : is.map (fun i => ws[i]?) = wc.map some)
    (kk : ∀ (r : Int32) (H1 : Heap) (locs1 : List Loc), B r H1 → (∀ w1 : va_W, w1.map (·.1) = wc.map (·.1) → va_P D cl w1 H1 → va_P D cl (mrg ws is w1) H1 ∧ va_D A (mrg ws is w1)) → va_S A H0 H1 locs1 → W p l e R s m args below meth c H1 locs1 cells slots Q (F0 m (pc + 3) ls (.int r :: rest))) : W p l e R s m args below meth c H locs cells slots Q (F0 m pc ls st0) := by
  intro T hT X
  obtain ⟨v, st₀, t, T', L, h0, X', hL, e1, e2, ⟨⟨r, hv, hb⟩, hz, hk⟩, st⟩ := hr T hT X
  cases hv
  rw [h0] at hz hk
  rw [← e1] at hz hk hb
  obtain ⟨t2, a1, b1⟩ := kk r T'.heap (locs ++ L) hb (fun w1 ha hP1 => ⟨mrg_P hP hD hC ha hk hP1, mrg_D hD hC ha⟩) (g_S hS (mA_sub hD hC) hz hk hL) T' rfl X'
  exact ⟨t2, st t2 a1, b1⟩
theorem g_R {B : Nat → Heap → Prop} {av : Array Value} (hr : va_Run p l e R s m args below meth c H locs cells slots 0 0 (F0 m pc ls st0) rest (qR B (mA wc) av) (mA wc)) (hP : va_P D cl ws H) (hD : va_D A ws) (hS : va_S A H0 H locs) (is : List Nat) (hC : is.map (fun i => ws[i]?) = wc.map some)
    (kk : ∀ (r : Nat) (H1 : Heap) (locs1 : List Loc), B r H1 → (∀ w1 : va_W, w1.map (·.1) = wc.map (·.1) → va_P D cl w1 H1 → va_P D cl (mrg ws is w1) H1 ∧ va_D A (mrg ws is w1)) → va_S A H0 H1 locs1 → W p l e R s m args below meth c H1 locs1 cells slots Q (F0 m (pc + 3) ls (.ref r :: rest))) : W p l e R s m args below meth c H locs cells slots Q (F0 m pc ls st0) := by
  intro T hT X
  obtain ⟨v, st₀, t, T', L, h0, X', hL, e1, e2, ⟨⟨r, hv, hb⟩, hz, hk⟩, st⟩ := hr T hT X
  cases hv
  rw [h0] at hz hk
  rw [← e1] at hz hk hb
  obtain ⟨t2, a1, b1⟩ := kk r T'.heap (locs ++ L) hb (fun w1 ha hP1 => ⟨mrg_P hP hD hC ha hk hP1, mrg_D hD hC ha⟩) (g_S hS (mA_sub hD hC) hz hk hL) T' rfl X'
  exact ⟨t2, st t2 a1, b1⟩
end RIN
end
