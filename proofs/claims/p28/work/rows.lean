section
-- ===== PART A: goes FIRST, ahead of the names: the tables' words, and 'selects' of the private methods out of them =====
/-- a private method of a class that the tables say can be made, by its rows of tables_1 -/
def lw_okq (q : MethodName × Nat) : Prop := (q.1.cls ≠ "java/lang/invoke/MethodHandle" ∧ q.1.cls ≠ "java/lang/invoke/VarHandle") ∧ Cond.instantiable q.1.cls q.2 ∈ tables_1 ∧ Cond.privateMethod q.1 ∈ tables_1 ∧ Cond.instanceMethod q.1 ∈ tables_1
theorem lw_p0 : lw_okq (⟨"ColumnSeasons$Table", "dressRowInNow", "(I)V"⟩, 6) := ⟨⟨by decide +kernel, by decide +kernel⟩, List.mem_of_getElem? (i := 19) (by decide +kernel), List.mem_of_getElem? (i := 206) (by decide +kernel), List.mem_of_getElem? (i := 207) (by decide +kernel)⟩
theorem lw_p1 : lw_okq (⟨"ColumnSeasons", "recordIfDone", "(I)I"⟩, 7) := ⟨⟨by decide +kernel, by decide +kernel⟩, List.mem_of_getElem? (i := 11) (by decide +kernel), List.mem_of_getElem? (i := 219) (by decide +kernel), List.mem_of_getElem? (i := 220) (by decide +kernel)⟩
theorem lw_p2 : lw_okq (⟨"ColumnSeasons$Table", "isFirstOfItsValue", "(III)Z"⟩, 6) := ⟨⟨by decide +kernel, by decide +kernel⟩, List.mem_of_getElem? (i := 19) (by decide +kernel), List.mem_of_getElem? (i := 380) (by decide +kernel), List.mem_of_getElem? (i := 381) (by decide +kernel)⟩
theorem lw_p3 : lw_okq (⟨"ColumnSeasons$Table", "beginSeasonWith", "(III)I"⟩, 6) := ⟨⟨by decide +kernel, by decide +kernel⟩, List.mem_of_getElem? (i := 19) (by decide +kernel), List.mem_of_getElem? (i := 405) (by decide +kernel), List.mem_of_getElem? (i := 406) (by decide +kernel)⟩
def lw_privs_1 : List (MethodName × Nat) := [(⟨"ColumnSeasons$Table", "dressRowInNow", "(I)V"⟩, 6), (⟨"ColumnSeasons", "recordIfDone", "(I)I"⟩, 7), (⟨"ColumnSeasons$Table", "isFirstOfItsValue", "(III)Z"⟩, 6), (⟨"ColumnSeasons$Table", "beginSeasonWith", "(III)I"⟩, 6)]
theorem lw_r1 : ∀ q ∈ lw_privs_1, lw_okq q := List.forall_mem_cons.mpr ⟨lw_p0, List.forall_mem_cons.mpr ⟨lw_p1, List.forall_mem_cons.mpr ⟨lw_p2, List.forall_mem_cons.mpr ⟨lw_p3, fun _ h => absurd h List.not_mem_nil⟩⟩⟩⟩
def lw_privs : List (MethodName × Nat) := lw_privs_1
def lw_tbl : List Cond := k2_sels lw_privs ++ tables_1
theorem lw_privs_ok : ∀ q ∈ lw_privs, lw_okq q := lw_r1
-- ===== end of PART A; then your names; then what follows =====
end
section
/-! ===== BEGIN words of one list among another's, by their places ===== -/
theorem goodIn_r {big : List Cond} (ws : List Cond) (ps : List Nat) (hp : ws = ps.filterMap (fun i => big[i]?)) (h : ws.all goodWord = true) : GoodIn big ws := by
  intro w hw
  have h1 := List.all_eq_true.mp h w hw
  rw [hp] at hw
  obtain ⟨i, -, hi⟩ := List.mem_filterMap.mp hw
  have hm : w ∈ big := by first | exact List.mem_of_getElem? hi | exact List.getElem?_mem hi
  exact ⟨hm, good_of_word h1⟩
theorem goodIn_app {big a b : List Cond} (ha : GoodIn big a) (hb : GoodIn big b) : GoodIn big (a ++ b) := fun w h => (List.mem_append.mp h).elim (ha w) (hb w)
theorem goodIn_ca {big a b : List Cond} {c : Cond} (ha : GoodIn big (c :: a)) (hb : GoodIn big b) : GoodIn big (c :: (a ++ b)) := fun w h => (List.mem_cons.mp h).elim (fun e => ha w (List.mem_cons.mpr (Or.inl e))) (fun h => (List.mem_append.mp h).elim (fun h => ha w (List.mem_cons.mpr (Or.inr h))) (hb w))
theorem goodIn_sub {big ws : List Cond} (hm : ∀ w ∈ ws, w ∈ big) (h : ws.all goodWord = true) : GoodIn big ws := fun w hw => ⟨hm w hw, good_of_word (List.all_eq_true.mp h w hw)⟩
/-! ===== END ===== -/

/-! ===== BEGIN printed: names, fields, word lists, decode rows ===== -/
def RX0 : String := "ColumnSeasons$Command"
def TX0 : u_T := fun k => match k with
  | 0 => ("ColumnSeasons$Command", "verb", "I", false)
  | 1 => ("ColumnSeasons$Command", "row", "I", false)
  | 2 => ("ColumnSeasons$Command", "name", "I", false)
  | 3 => ("ColumnSeasons$Command", "kind", "I", false)
  | _ => ("ColumnSeasons$Command", "number", "I", false)
def tyX0 : Nat → FieldType := fun k => match k with
  | 0 => .int
  | 1 => .int
  | 2 => .int
  | 3 => .int
  | _ => .int
abbrev wsX00 : List Cond := u_ws RX0 TX0 5
theorem nmX0 : ∀ a, a < 5 → ∀ b, b < 5 → a ≠ b → (TX0 a).2.1 ≠ (TX0 b).2.1 := by decide +kernel
theorem tyX0_ok : ∀ k, k < 5 → parseFieldDescriptor (TX0 k).2.2.1 = some (tyX0 k) := by decide +kernel
abbrev cX0_init : ByteArray := prog_2_method_1_code
def yX0_init : MethodName := ⟨RX0, "<init>", "()V"⟩
def RX1 : String := "ColumnSeasons$History"
def TX1 : u_T := fun k => match k with
  | 0 => ("ColumnSeasons$History", "slots", "[LColumnSeasons$Table;", true)
  | 1 => ("ColumnSeasons$History", "oldest", "I", false)
  | _ => ("ColumnSeasons$History", "length", "I", false)
def tyX1 : Nat → FieldType := fun k => match k with
  | 0 => .array (.object "ColumnSeasons$Table")
  | 1 => .int
  | _ => .int
abbrev wsX10 : List Cond := u_ws RX1 TX1 3
theorem nmX1 : ∀ a, a < 3 → ∀ b, b < 3 → a ≠ b → (TX1 a).2.1 ≠ (TX1 b).2.1 := by decide +kernel
theorem tyX1_ok : ∀ k, k < 3 → parseFieldDescriptor (TX1 k).2.2.1 = some (tyX1 k) := by decide +kernel
abbrev cX1_init : ByteArray := prog_3_method_1_code
def yX1_init : MethodName := ⟨RX1, "<init>", "()V"⟩
abbrev cX1_prepared : ByteArray := prog_3_method_2_code
def yX1_prepared : MethodName := ⟨RX1, "prepared", "()LColumnSeasons$Table;"⟩
abbrev cX1_prepare : ByteArray := prog_3_method_3_code
def yX1_prepare : MethodName := ⟨RX1, "prepare", "(LColumnSeasons$Table;)V"⟩
abbrev cX1_record : ByteArray := prog_3_method_4_code
def yX1_record : MethodName := ⟨RX1, "record", "()V"⟩
def RX2 : String := "ColumnSeasons$Script"
def TX2 : u_T := fun k => match k with
  | 0 => ("ColumnSeasons$Script", "text", "[C", true)
  | 1 => ("ColumnSeasons$Script", "length", "I", false)
  | 2 => ("ColumnSeasons$Script", "commands", "[LColumnSeasons$Command;", true)
  | 3 => ("ColumnSeasons$Script", "commandCount", "I", false)
  | 4 => ("ColumnSeasons$Script", "place", "I", false)
  | _ => ("ColumnSeasons$Script", "number", "I", false)
def tyX2 : Nat → FieldType := fun k => match k with
  | 0 => .array .char
  | 1 => .int
  | 2 => .array (.object "ColumnSeasons$Command")
  | 3 => .int
  | 4 => .int
  | _ => .int
abbrev wsX20 : List Cond := u_ws RX2 TX2 6
theorem nmX2 : ∀ a, a < 6 → ∀ b, b < 6 → a ≠ b → (TX2 a).2.1 ≠ (TX2 b).2.1 := by decide +kernel
theorem tyX2_ok : ∀ k, k < 6 → parseFieldDescriptor (TX2 k).2.2.1 = some (tyX2 k) := by decide +kernel
abbrev cX2_init : ByteArray := prog_4_method_1_code
def yX2_init : MethodName := ⟨RX2, "<init>", "()V"⟩
def RX3 : String := "ColumnSeasons$Table"
def TX3 : u_T := fun k => match k with
  | 0 => ("ColumnSeasons$Table", "seasons", "I", false)
  | 1 => ("ColumnSeasons$Table", "kinds", "[I", true)
  | 2 => ("ColumnSeasons$Table", "standards", "[I", true)
  | 3 => ("ColumnSeasons$Table", "rows", "I", false)
  | 4 => ("ColumnSeasons$Table", "rowSeasons", "[I", true)
  | _ => ("ColumnSeasons$Table", "values", "[I", true)
def tyX3 : Nat → FieldType := fun k => match k with
  | 0 => .int
  | 1 => .array .int
  | 2 => .array .int
  | 3 => .int
  | 4 => .array .int
  | _ => .array .int
abbrev wsX30 : List Cond := u_ws RX3 TX3 6
theorem nmX3 : ∀ a, a < 6 → ∀ b, b < 6 → a ≠ b → (TX3 a).2.1 ≠ (TX3 b).2.1 := by decide +kernel
theorem tyX3_ok : ∀ k, k < 6 → parseFieldDescriptor (TX3 k).2.2.1 = some (tyX3 k) := by decide +kernel
abbrev cX3_init : ByteArray := prog_5_method_1_code
def yX3_init : MethodName := ⟨RX3, "<init>", "()V"⟩
abbrev cX3_copyFrom : ByteArray := prog_5_method_2_code
def yX3_copyFrom : MethodName := ⟨RX3, "copyFrom", "(LColumnSeasons$Table;)V"⟩
abbrev cX3_addColumn : ByteArray := prog_5_method_3_code
def yX3_addColumn : MethodName := ⟨RX3, "addColumn", "(III)I"⟩
abbrev cX3_dropColumn : ByteArray := prog_5_method_4_code
def yX3_dropColumn : MethodName := ⟨RX3, "dropColumn", "(I)I"⟩
abbrev cX3_changeKind : ByteArray := prog_5_method_5_code
def yX3_changeKind : MethodName := ⟨RX3, "changeKind", "(II)I"⟩
abbrev cX3_beginSeasonWith : ByteArray := prog_5_method_6_code
def yX3_beginSeasonWith : MethodName := ⟨RX3, "beginSeasonWith", "(III)I"⟩
abbrev cX3_writeRow : ByteArray := prog_5_method_7_code
def yX3_writeRow : MethodName := ⟨RX3, "writeRow", "()I"⟩
abbrev cX3_changeValue : ByteArray := prog_5_method_8_code
def yX3_changeValue : MethodName := ⟨RX3, "changeValue", "(III)I"⟩
abbrev cX3_removeRow : ByteArray := prog_5_method_9_code
def yX3_removeRow : MethodName := ⟨RX3, "removeRow", "(I)I"⟩
abbrev cX3_makeRowsOver : ByteArray := prog_5_method_10_code
def yX3_makeRowsOver : MethodName := ⟨RX3, "makeRowsOver", "(II)I"⟩
abbrev cX3_dressRowInNow : ByteArray := prog_5_method_11_code
def yX3_dressRowInNow : MethodName := ⟨RX3, "dressRowInNow", "(I)V"⟩
abbrev cX3_forgetSeasons : ByteArray := prog_5_method_12_code
def yX3_forgetSeasons : MethodName := ⟨RX3, "forgetSeasons", "()I"⟩
abbrev cX3_now : ByteArray := prog_5_method_13_code
def yX3_now : MethodName := ⟨RX3, "now", "()I"⟩
abbrev cX3_isSeason : ByteArray := prog_5_method_14_code
def yX3_isSeason : MethodName := ⟨RX3, "isSeason", "(I)Z"⟩
abbrev cX3_kindIn : ByteArray := prog_5_method_15_code
def yX3_kindIn : MethodName := ⟨RX3, "kindIn", "(II)I"⟩
abbrev cX3_standardIn : ByteArray := prog_5_method_16_code
def yX3_standardIn : MethodName := ⟨RX3, "standardIn", "(II)I"⟩
abbrev cX3_namesIn : ByteArray := prog_5_method_17_code
def yX3_namesIn : MethodName := ⟨RX3, "namesIn", "(I)I"⟩
abbrev cX3_namesOfAllSeasons : ByteArray := prog_5_method_18_code
def yX3_namesOfAllSeasons : MethodName := ⟨RX3, "namesOfAllSeasons", "()I"⟩
abbrev cX3_newColumnsIn : ByteArray := prog_5_method_19_code
def yX3_newColumnsIn : MethodName := ⟨RX3, "newColumnsIn", "(I)I"⟩
abbrev cX3_rowsOfSeason : ByteArray := prog_5_method_20_code
def yX3_rowsOfSeason : MethodName := ⟨RX3, "rowsOfSeason", "(I)I"⟩
abbrev cX3_isRow : ByteArray := prog_5_method_21_code
def yX3_isRow : MethodName := ⟨RX3, "isRow", "(I)Z"⟩
abbrev cX3_seasonOfRow : ByteArray := prog_5_method_22_code
def yX3_seasonOfRow : MethodName := ⟨RX3, "seasonOfRow", "(I)I"⟩
abbrev cX3_kindInRow : ByteArray := prog_5_method_23_code
def yX3_kindInRow : MethodName := ⟨RX3, "kindInRow", "(II)I"⟩
abbrev cX3_valueAt : ByteArray := prog_5_method_24_code
def yX3_valueAt : MethodName := ⟨RX3, "valueAt", "(II)I"⟩
abbrev cX3_valuesOfAllRows : ByteArray := prog_5_method_25_code
def yX3_valuesOfAllRows : MethodName := ⟨RX3, "valuesOfAllRows", "()I"⟩
abbrev cX3_readIn : ByteArray := prog_5_method_26_code
def yX3_readIn : MethodName := ⟨RX3, "readIn", "(III)I"⟩
abbrev cX3_howReadIn : ByteArray := prog_5_method_27_code
def yX3_howReadIn : MethodName := ⟨RX3, "howReadIn", "(III)I"⟩
abbrev cX3_lossesOfRowIn : ByteArray := prog_5_method_28_code
def yX3_lossesOfRowIn : MethodName := ⟨RX3, "lossesOfRowIn", "(II)I"⟩
abbrev cX3_lossesIn : ByteArray := prog_5_method_29_code
def yX3_lossesIn : MethodName := ⟨RX3, "lossesIn", "(I)I"⟩
abbrev cX3_seasonOfFewestLosses : ByteArray := prog_5_method_30_code
def yX3_seasonOfFewestLosses : MethodName := ⟨RX3, "seasonOfFewestLosses", "()I"⟩
abbrev cX3_sharedNames : ByteArray := prog_5_method_31_code
def yX3_sharedNames : MethodName := ⟨RX3, "sharedNames", "(II)I"⟩
abbrev cX3_defaultsInView : ByteArray := prog_5_method_32_code
def yX3_defaultsInView : MethodName := ⟨RX3, "defaultsInView", "(II)I"⟩
abbrev cX3_widestKind : ByteArray := prog_5_method_33_code
def yX3_widestKind : MethodName := ⟨RX3, "widestKind", "(III)I"⟩
abbrev cX3_sumOfValues : ByteArray := prog_5_method_34_code
def yX3_sumOfValues : MethodName := ⟨RX3, "sumOfValues", "(III)I"⟩
abbrev cX3_leastValue : ByteArray := prog_5_method_35_code
def yX3_leastValue : MethodName := ⟨RX3, "leastValue", "(III)I"⟩
abbrev cX3_greatestValue : ByteArray := prog_5_method_36_code
def yX3_greatestValue : MethodName := ⟨RX3, "greatestValue", "(III)I"⟩
abbrev cX3_unlikeValues : ByteArray := prog_5_method_37_code
def yX3_unlikeValues : MethodName := ⟨RX3, "unlikeValues", "(III)I"⟩
abbrev cX3_isFirstOfItsValue : ByteArray := prog_5_method_38_code
def yX3_isFirstOfItsValue : MethodName := ⟨RX3, "isFirstOfItsValue", "(III)Z"⟩
def RX4 : String := "ColumnSeasons"
def TX4 : u_T := fun k => match k with
  | 0 => ("ColumnSeasons", "table", "LColumnSeasons$Table;", true)
  | 1 => ("ColumnSeasons", "history", "LColumnSeasons$History;", true)
  | 2 => ("ColumnSeasons", "snapshot", "LColumnSeasons$Table;", true)
  | 3 => ("ColumnSeasons", "hasSnapshot", "Z", false)
  | 4 => ("ColumnSeasons", "script", "LColumnSeasons$Script;", true)
  | 5 => ("ColumnSeasons", "stoppedCommand", "I", false)
  | _ => ("ColumnSeasons", "stoppedError", "I", false)
def tyX4 : Nat → FieldType := fun k => match k with
  | 0 => .object "ColumnSeasons$Table"
  | 1 => .object "ColumnSeasons$History"
  | 2 => .object "ColumnSeasons$Table"
  | 3 => .boolean
  | 4 => .object "ColumnSeasons$Script"
  | 5 => .int
  | _ => .int
abbrev wsX40 : List Cond := u_ws RX4 TX4 7
theorem nmX4 : ∀ a, a < 7 → ∀ b, b < 7 → a ≠ b → (TX4 a).2.1 ≠ (TX4 b).2.1 := by decide +kernel
theorem tyX4_ok : ∀ k, k < 7 → parseFieldDescriptor (TX4 k).2.2.1 = some (tyX4 k) := by decide +kernel
abbrev cX4_init : ByteArray := prog_1_method_1_code
def yX4_init : MethodName := ⟨RX4, "<init>", "()V"⟩
abbrev cX4_add : ByteArray := prog_1_method_2_code
def yX4_add : MethodName := ⟨RX4, "add", "(III)I"⟩
abbrev cX4_drop : ByteArray := prog_1_method_3_code
def yX4_drop : MethodName := ⟨RX4, "drop", "(I)I"⟩
abbrev cX4_kind : ByteArray := prog_1_method_4_code
def yX4_kind : MethodName := ⟨RX4, "kind", "(II)I"⟩
abbrev cX4_row : ByteArray := prog_1_method_5_code
def yX4_row : MethodName := ⟨RX4, "row", "()I"⟩
abbrev cX4_set : ByteArray := prog_1_method_6_code
def yX4_set : MethodName := ⟨RX4, "set", "(III)I"⟩
abbrev cX4_remove : ByteArray := prog_1_method_7_code
def yX4_remove : MethodName := ⟨RX4, "remove", "(I)I"⟩
abbrev cX4_makeOver : ByteArray := prog_1_method_8_code
def yX4_makeOver : MethodName := ⟨RX4, "makeOver", "(II)I"⟩
abbrev cX4_forget : ByteArray := prog_1_method_9_code
def yX4_forget : MethodName := ⟨RX4, "forget", "()I"⟩
abbrev cX4_column : ByteArray := prog_1_method_17_code
def yX4_column : MethodName := ⟨RX4, "column", "(III)I"⟩
abbrev cX4_season : ByteArray := prog_1_method_18_code
def yX4_season : MethodName := ⟨RX4, "season", "(II)I"⟩
abbrev cX4_value : ByteArray := prog_1_method_19_code
def yX4_value : MethodName := ⟨RX4, "value", "(II)I"⟩
abbrev cX4_read : ByteArray := prog_1_method_20_code
def yX4_read : MethodName := ⟨RX4, "read", "(IIII)I"⟩
abbrev cX4_seasonOf : ByteArray := prog_1_method_21_code
def yX4_seasonOf : MethodName := ⟨RX4, "seasonOf", "(I)I"⟩
abbrev cX4_view : ByteArray := prog_1_method_22_code
def yX4_view : MethodName := ⟨RX4, "view", "(III)I"⟩
abbrev cX4_viewColumn : ByteArray := prog_1_method_23_code
def yX4_viewColumn : MethodName := ⟨RX4, "viewColumn", "(IIII)I"⟩
abbrev cX4_bestSeason : ByteArray := prog_1_method_25_code
def yX4_bestSeason : MethodName := ⟨RX4, "bestSeason", "(I)I"⟩
abbrev cX4_count : ByteArray := prog_1_method_26_code
def yX4_count : MethodName := ⟨RX4, "count", "(I)I"⟩
abbrev cX4_recordIfDone : ByteArray := prog_1_method_27_code
def yX4_recordIfDone : MethodName := ⟨RX4, "recordIfDone", "(I)I"⟩
abbrev cX4_isError : ByteArray := prog_1_method_29_code
def yX4_isError : MethodName := ⟨RX4, "isError", "(I)Z"⟩
abbrev cX4_isName : ByteArray := prog_1_method_30_code
def yX4_isName : MethodName := ⟨RX4, "isName", "(I)Z"⟩
abbrev cX4_isKind : ByteArray := prog_1_method_31_code
def yX4_isKind : MethodName := ⟨RX4, "isKind", "(I)Z"⟩
abbrev cX4_hasName : ByteArray := prog_1_method_32_code
def yX4_hasName : MethodName := ⟨RX4, "hasName", "(II)Z"⟩
abbrev cX4_leastOfKind : ByteArray := prog_1_method_33_code
def yX4_leastOfKind : MethodName := ⟨RX4, "leastOfKind", "(I)I"⟩
abbrev cX4_greatestOfKind : ByteArray := prog_1_method_34_code
def yX4_greatestOfKind : MethodName := ⟨RX4, "greatestOfKind", "(I)I"⟩
abbrev cX4_isOfKind : ByteArray := prog_1_method_35_code
def yX4_isOfKind : MethodName := ⟨RX4, "isOfKind", "(II)Z"⟩
abbrev cX4_castTo : ByteArray := prog_1_method_36_code
def yX4_castTo : MethodName := ⟨RX4, "castTo", "(II)I"⟩
abbrev cX4_castLoses : ByteArray := prog_1_method_37_code
def yX4_castLoses : MethodName := ⟨RX4, "castLoses", "(III)Z"⟩
def RX5 : String := "ColumnSeasonsModel"
def TX5 : u_T := fun k => match k with
  | _ => ("", "", "", false)
def tyX5 : Nat → FieldType := fun k => match k with
  | _ => .int
abbrev wsX50 : List Cond := u_ws RX5 TX5 0
theorem nmX5 : ∀ a, a < 0 → ∀ b, b < 0 → a ≠ b → (TX5 a).2.1 ≠ (TX5 b).2.1 := by decide +kernel
theorem tyX5_ok : ∀ k, k < 0 → parseFieldDescriptor (TX5 k).2.2.1 = some (tyX5 k) := by decide +kernel
def RJ6 : String := "java/lang/Integer"
def TJ6 : u_T := fun k => match k with
  | _ => ("", "", "", false)
def tyJ6 : Nat → FieldType := fun k => match k with
  | _ => .int
abbrev wsJ60 : List Cond := u_ws RJ6 TJ6 0
theorem nmJ6 : ∀ a, a < 0 → ∀ b, b < 0 → a ≠ b → (TJ6 a).2.1 ≠ (TJ6 b).2.1 := by decide +kernel
theorem tyJ6_ok : ∀ k, k < 0 → parseFieldDescriptor (TJ6 k).2.2.1 = some (tyJ6 k) := by decide +kernel
abbrev cJ6_bitCount_0f7a4 : ByteArray := prog_8_method_49_code
def yJ6_bitCount_0f7a4 : MethodName := ⟨RJ6, "bitCount", "(I)I"⟩
def RJ9 : String := "java/lang/Math"
def TJ9 : u_T := fun k => match k with
  | _ => ("", "", "", false)
def tyJ9 : Nat → FieldType := fun k => match k with
  | _ => .int
abbrev wsJ90 : List Cond := u_ws RJ9 TJ9 0
theorem nmJ9 : ∀ a, a < 0 → ∀ b, b < 0 → a ≠ b → (TJ9 a).2.1 ≠ (TJ9 b).2.1 := by decide +kernel
theorem tyJ9_ok : ∀ k, k < 0 → parseFieldDescriptor (TJ9 k).2.2.1 = some (tyJ9 k) := by decide +kernel
abbrev cJ9_max_7cf53 : ByteArray := prog_9_method_65_code
def yJ9_max_7cf53 : MethodName := ⟨RJ9, "max", "(II)I"⟩
abbrev cJ9_min_7cf53 : ByteArray := prog_9_method_69_code
def yJ9_min_7cf53 : MethodName := ⟨RJ9, "min", "(II)I"⟩
def RJ10 : String := "java/lang/System"
def TJ10 : u_T := fun k => match k with
  | _ => ("", "", "", false)
def tyJ10 : Nat → FieldType := fun k => match k with
  | _ => .int
abbrev wsJ100 : List Cond := u_ws RJ10 TJ10 0
theorem nmJ10 : ∀ a, a < 0 → ∀ b, b < 0 → a ≠ b → (TJ10 a).2.1 ≠ (TJ10 b).2.1 := by decide +kernel
theorem tyJ10_ok : ∀ k, k < 0 → parseFieldDescriptor (TJ10 k).2.2.1 = some (tyJ10 k) := by decide +kernel
def RJ7 : String := "java/util/Arrays"
def TJ7 : u_T := fun k => match k with
  | _ => ("", "", "", false)
def tyJ7 : Nat → FieldType := fun k => match k with
  | _ => .int
abbrev wsJ70 : List Cond := u_ws RJ7 TJ7 0
theorem nmJ7 : ∀ a, a < 0 → ∀ b, b < 0 → a ≠ b → (TJ7 a).2.1 ≠ (TJ7 b).2.1 := by decide +kernel
theorem tyJ7_ok : ∀ k, k < 0 → parseFieldDescriptor (TJ7 k).2.2.1 = some (tyJ7 k) := by decide +kernel
abbrev cJ7_fill_53178 : ByteArray := prog_11_method_103_code
def yJ7_fill_53178 : MethodName := ⟨RJ7, "fill", "([II)V"⟩
def RL : String := "ColumnSeasonsLaw"
abbrev cL_low : ByteArray := method_2_code
def yL_low : MethodName := ⟨RL, "low", "(II)I"⟩
abbrev cL_cell : ByteArray := method_3_code
def yL_cell : MethodName := ⟨RL, "cell", "([II)I"⟩
abbrev cL_least : ByteArray := method_4_code
def yL_least : MethodName := ⟨RL, "least", "(I)I"⟩
abbrev cL_most : ByteArray := method_5_code
def yL_most : MethodName := ⟨RL, "most", "(I)I"⟩
abbrev cL_valued : ByteArray := method_6_code
def yL_valued : MethodName := ⟨RL, "valued", "(II)I"⟩
abbrev cL_cast : ByteArray := method_7_code
def yL_cast : MethodName := ⟨RL, "cast", "(II)I"⟩
abbrev cL_table : ByteArray := method_8_code
def yL_table : MethodName := ⟨RL, "table", "(LColumnSeasons;II)Z"⟩
abbrev cL_act : ByteArray := method_9_code
def yL_act : MethodName := ⟨RL, "act", "(LColumnSeasons;[II)I"⟩
abbrev cL_law : ByteArray := code
def yL_law : MethodName := ⟨RL, "law", "([I)Z"⟩
def wsX0_init : List Cond := .code yX0_init cX0_init 1 none :: ([.methodLink RX0 3 objectInit, .instanceMethod objectInit, .code objectInit ⟨#[0xb1]⟩ 1 none, .fieldLink RX0 11 "ColumnSeasons$Command" "verb" "I", .fieldLink RX0 15 "ColumnSeasons$Command" "row" "I", .fieldLink RX0 18 "ColumnSeasons$Command" "name" "I", .fieldLink RX0 21 "ColumnSeasons$Command" "kind" "I", .fieldLink RX0 24 "ColumnSeasons$Command" "number" "I"] ++ wsX00)
def wsJ7_fill_53178 : List Cond := .code yJ7_fill_53178 cJ7_fill_53178 4 none :: ([])
def wsX3_init : List Cond := .code yX3_init cX3_init 1 none :: ([.methodLink RX3 3 objectInit, .instanceMethod objectInit, .code objectInit ⟨#[0xb1]⟩ 1 none, .fieldLink RX3 9 "ColumnSeasons$Table" "seasons" "I", .arrayClass .int, .fieldLink RX3 15 "ColumnSeasons$Table" "kinds" "[I", .fieldLink RX3 19 "ColumnSeasons$Table" "standards" "[I", .fieldLink RX3 22 "ColumnSeasons$Table" "rows" "I", .fieldLink RX3 25 "ColumnSeasons$Table" "rowSeasons" "[I", .fieldLink RX3 28 "ColumnSeasons$Table" "values" "[I", .methodLink RX3 31 yJ7_fill_53178, .static yJ7_fill_53178, .initialized RJ7, .code yJ7_fill_53178 cJ7_fill_53178 4 none] ++ wsX30)
def wsX1_init : List Cond := .code yX1_init cX1_init 2 none :: ([.methodLink RX1 3 objectInit, .instanceMethod objectInit, .code objectInit ⟨#[0xb1]⟩ 1 none, .classLink RX1 11 RX3, .fieldLink RX1 13 "ColumnSeasons$History" "slots" "[LColumnSeasons$Table;", .fieldLink RX1 17 "ColumnSeasons$History" "oldest" "I", .fieldLink RX1 21 "ColumnSeasons$History" "length" "I", .instantiable RX3 6, .initialized RX3, .methodLink RX1 24 yX3_init, .instanceMethod yX3_init, .code yX3_init cX3_init 1 none, .methodLink RX3 3 objectInit, .fieldLink RX3 9 "ColumnSeasons$Table" "seasons" "I", .arrayClass .int, .fieldLink RX3 15 "ColumnSeasons$Table" "kinds" "[I", .fieldLink RX3 19 "ColumnSeasons$Table" "standards" "[I", .fieldLink RX3 22 "ColumnSeasons$Table" "rows" "I", .fieldLink RX3 25 "ColumnSeasons$Table" "rowSeasons" "[I", .fieldLink RX3 28 "ColumnSeasons$Table" "values" "[I", .methodLink RX3 31 yJ7_fill_53178, .static yJ7_fill_53178, .initialized RJ7, .code yJ7_fill_53178 cJ7_fill_53178 4 none] ++ wsX10 ++ wsX30)
def wsX1_prepared : List Cond := .code yX1_prepared cX1_prepared 1 (some (.object "ColumnSeasons$Table")) :: ([.fieldLink RX1 13 "ColumnSeasons$History" "slots" "[LColumnSeasons$Table;", .fieldLink RX1 17 "ColumnSeasons$History" "oldest" "I", .fieldLink RX1 21 "ColumnSeasons$History" "length" "I"] ++ wsX10)
def wsX3_copyFrom : List Cond := .code yX3_copyFrom cX3_copyFrom 2 none :: ([.fieldLink RX3 9 "ColumnSeasons$Table" "seasons" "I", .fieldLink RX3 15 "ColumnSeasons$Table" "kinds" "[I", .methodLink RX3 37 arraycopyName, .native arraycopyName, .static arraycopyName, .initialized "java/lang/System", .fieldLink RX3 19 "ColumnSeasons$Table" "standards" "[I", .fieldLink RX3 22 "ColumnSeasons$Table" "rows" "I", .fieldLink RX3 25 "ColumnSeasons$Table" "rowSeasons" "[I", .fieldLink RX3 28 "ColumnSeasons$Table" "values" "[I"] ++ wsX30)
def wsX1_prepare : List Cond := .code yX1_prepare cX1_prepare 2 none :: ([.methodLink RX1 25 yX1_prepared, .instanceMethod yX1_prepared, .selects RX1 yX1_prepared yX1_prepared, .initialized RX1, .code yX1_prepared cX1_prepared 1 (some (.object "ColumnSeasons$Table")), .fieldLink RX1 13 "ColumnSeasons$History" "slots" "[LColumnSeasons$Table;", .fieldLink RX1 17 "ColumnSeasons$History" "oldest" "I", .fieldLink RX1 21 "ColumnSeasons$History" "length" "I", .methodLink RX1 29 yX3_copyFrom, .instanceMethod yX3_copyFrom, .selects RX3 yX3_copyFrom yX3_copyFrom, .initialized RX3, .code yX3_copyFrom cX3_copyFrom 2 none, .fieldLink RX3 9 "ColumnSeasons$Table" "seasons" "I", .fieldLink RX3 15 "ColumnSeasons$Table" "kinds" "[I", .methodLink RX3 37 arraycopyName, .native arraycopyName, .static arraycopyName, .initialized "java/lang/System", .fieldLink RX3 19 "ColumnSeasons$Table" "standards" "[I", .fieldLink RX3 22 "ColumnSeasons$Table" "rows" "I", .fieldLink RX3 25 "ColumnSeasons$Table" "rowSeasons" "[I", .fieldLink RX3 28 "ColumnSeasons$Table" "values" "[I"] ++ wsX10 ++ wsX30)
def wsX1_record : List Cond := .code yX1_record cX1_record 1 none :: ([.fieldLink RX1 21 "ColumnSeasons$History" "length" "I", .fieldLink RX1 17 "ColumnSeasons$History" "oldest" "I"] ++ wsX10)
def wsX2_init : List Cond := .code yX2_init cX2_init 2 none :: ([.methodLink RX2 3 objectInit, .instanceMethod objectInit, .code objectInit ⟨#[0xb1]⟩ 1 none, .arrayClass .char, .fieldLink RX2 9 "ColumnSeasons$Script" "text" "[C", .fieldLink RX2 15 "ColumnSeasons$Script" "length" "I", .classLink RX2 19 RX0, .fieldLink RX2 21 "ColumnSeasons$Script" "commands" "[LColumnSeasons$Command;", .fieldLink RX2 25 "ColumnSeasons$Script" "commandCount" "I", .fieldLink RX2 28 "ColumnSeasons$Script" "place" "I", .fieldLink RX2 31 "ColumnSeasons$Script" "number" "I", .instantiable RX0 5, .initialized RX0, .methodLink RX2 34 yX0_init, .instanceMethod yX0_init, .code yX0_init cX0_init 1 none, .methodLink RX0 3 objectInit, .fieldLink RX0 11 "ColumnSeasons$Command" "verb" "I", .fieldLink RX0 15 "ColumnSeasons$Command" "row" "I", .fieldLink RX0 18 "ColumnSeasons$Command" "name" "I", .fieldLink RX0 21 "ColumnSeasons$Command" "kind" "I", .fieldLink RX0 24 "ColumnSeasons$Command" "number" "I"] ++ wsX20 ++ wsX00)
def wsX4_isName : List Cond := .code yX4_isName cX4_isName 1 (some .boolean) :: ([])
def wsX4_isKind : List Cond := .code yX4_isKind cX4_isKind 1 (some .boolean) :: ([])
def wsX4_leastOfKind : List Cond := .code yX4_leastOfKind cX4_leastOfKind 1 (some .int) :: ([])
def wsX4_greatestOfKind : List Cond := .code yX4_greatestOfKind cX4_greatestOfKind 1 (some .int) :: ([])
def wsX4_isOfKind : List Cond := .code yX4_isOfKind cX4_isOfKind 2 (some .boolean) :: ([.methodLink RX4 230 yX4_leastOfKind, .static yX4_leastOfKind, .initialized RX4, .code yX4_leastOfKind cX4_leastOfKind 1 (some .int), .methodLink RX4 233 yX4_greatestOfKind, .static yX4_greatestOfKind, .code yX4_greatestOfKind cX4_greatestOfKind 1 (some .int)])
def wsX3_now : List Cond := .code yX3_now cX3_now 1 (some .int) :: ([.fieldLink RX3 9 "ColumnSeasons$Table" "seasons" "I"] ++ wsX30)
def wsX3_kindIn : List Cond := .code yX3_kindIn cX3_kindIn 3 (some .int) :: ([.fieldLink RX3 15 "ColumnSeasons$Table" "kinds" "[I"] ++ wsX30)
def wsX3_beginSeasonWith : List Cond := .code yX3_beginSeasonWith cX3_beginSeasonWith 6 (some .int) :: ([.fieldLink RX3 15 "ColumnSeasons$Table" "kinds" "[I", .methodLink RX3 37 arraycopyName, .native arraycopyName, .static arraycopyName, .initialized "java/lang/System", .fieldLink RX3 19 "ColumnSeasons$Table" "standards" "[I", .fieldLink RX3 9 "ColumnSeasons$Table" "seasons" "I", .methodLink RX3 54 yX3_now, .instanceMethod yX3_now, .selects RX3 yX3_now yX3_now, .initialized RX3, .code yX3_now cX3_now 1 (some .int)] ++ wsX30)
def wsX3_addColumn_r1 : List Cond := [Cond.fieldLink RX3 9 "ColumnSeasons$Table" "seasons" "I", Cond.static yX4_isName, Cond.initialized RX4, Cond.code yX4_isName cX4_isName 1 (some .boolean), Cond.static yX4_isKind, Cond.code yX4_isKind cX4_isKind 1 (some .boolean), Cond.static yX4_isOfKind, Cond.code yX4_isOfKind cX4_isOfKind 2 (some .boolean), Cond.methodLink RX4 230 yX4_leastOfKind, Cond.static yX4_leastOfKind, Cond.code yX4_leastOfKind cX4_leastOfKind 1 (some .int), Cond.methodLink RX4 233 yX4_greatestOfKind, Cond.static yX4_greatestOfKind, Cond.code yX4_greatestOfKind cX4_greatestOfKind 1 (some .int), Cond.methodLink RX3 54 yX3_now, Cond.instanceMethod yX3_now, Cond.selects RX3 yX3_now yX3_now, Cond.initialized RX3, Cond.code yX3_now cX3_now 1 (some .int), Cond.methodLink RX3 58 yX3_kindIn, Cond.instanceMethod yX3_kindIn, Cond.selects RX3 yX3_kindIn yX3_kindIn, Cond.code yX3_kindIn cX3_kindIn 3 (some .int), Cond.fieldLink RX3 15 "ColumnSeasons$Table" "kinds" "[I"]
def wsX3_addColumn_r2 : List Cond := [Cond.methodLink RX3 62 yX3_beginSeasonWith, Cond.instanceMethod yX3_beginSeasonWith, Cond.selects RX3 yX3_beginSeasonWith yX3_beginSeasonWith, Cond.code yX3_beginSeasonWith cX3_beginSeasonWith 6 (some .int), Cond.methodLink RX3 37 arraycopyName, Cond.native arraycopyName, Cond.static arraycopyName, Cond.initialized "java/lang/System", Cond.fieldLink RX3 19 "ColumnSeasons$Table" "standards" "[I"]
def wsX3_addColumn : List Cond := .code yX3_addColumn cX3_addColumn 4 (some .int) :: ((wsX3_addColumn_r1 ++ wsX3_addColumn_r2) ++ wsX30)
def wsX3_dropColumn : List Cond := .code yX3_dropColumn cX3_dropColumn 2 (some .int) :: ([.fieldLink RX3 9 "ColumnSeasons$Table" "seasons" "I", .static yX4_isName, .initialized RX4, .code yX4_isName cX4_isName 1 (some .boolean), .methodLink RX3 54 yX3_now, .instanceMethod yX3_now, .selects RX3 yX3_now yX3_now, .initialized RX3, .code yX3_now cX3_now 1 (some .int), .methodLink RX3 58 yX3_kindIn, .instanceMethod yX3_kindIn, .selects RX3 yX3_kindIn yX3_kindIn, .code yX3_kindIn cX3_kindIn 3 (some .int), .fieldLink RX3 15 "ColumnSeasons$Table" "kinds" "[I", .methodLink RX3 62 yX3_beginSeasonWith, .instanceMethod yX3_beginSeasonWith, .selects RX3 yX3_beginSeasonWith yX3_beginSeasonWith, .code yX3_beginSeasonWith cX3_beginSeasonWith 6 (some .int), .methodLink RX3 37 arraycopyName, .native arraycopyName, .static arraycopyName, .initialized "java/lang/System", .fieldLink RX3 19 "ColumnSeasons$Table" "standards" "[I"] ++ wsX30)
def wsX3_standardIn : List Cond := .code yX3_standardIn cX3_standardIn 3 (some .int) :: ([.fieldLink RX3 19 "ColumnSeasons$Table" "standards" "[I"] ++ wsX30)
def wsX4_castTo : List Cond := .code yX4_castTo cX4_castTo 2 (some .int) :: ([.methodLink RX4 236 Lib.Math.min.name, .static Lib.Math.min.name, .initialized "java/lang/Math", .code Lib.Math.min.name Lib.Math.min.code 2 (some .int), .methodLink RX4 168 Lib.Math.max.name, .static Lib.Math.max.name, .code Lib.Math.max.name Lib.Math.max.code 2 (some .int), .methodLink RX4 230 yX4_leastOfKind, .static yX4_leastOfKind, .initialized RX4, .code yX4_leastOfKind cX4_leastOfKind 1 (some .int), .methodLink RX4 233 yX4_greatestOfKind, .static yX4_greatestOfKind, .code yX4_greatestOfKind cX4_greatestOfKind 1 (some .int)])
def wsX3_changeKind_r1 : List Cond := [Cond.fieldLink RX3 9 "ColumnSeasons$Table" "seasons" "I", Cond.static yX4_isName, Cond.initialized RX4, Cond.code yX4_isName cX4_isName 1 (some .boolean), Cond.methodLink RX3 54 yX3_now, Cond.instanceMethod yX3_now, Cond.selects RX3 yX3_now yX3_now, Cond.initialized RX3, Cond.code yX3_now cX3_now 1 (some .int), Cond.methodLink RX3 58 yX3_kindIn, Cond.instanceMethod yX3_kindIn, Cond.selects RX3 yX3_kindIn yX3_kindIn, Cond.code yX3_kindIn cX3_kindIn 3 (some .int), Cond.fieldLink RX3 15 "ColumnSeasons$Table" "kinds" "[I", Cond.static yX4_isKind, Cond.code yX4_isKind cX4_isKind 1 (some .boolean), Cond.methodLink RX3 66 yX3_standardIn, Cond.instanceMethod yX3_standardIn, Cond.selects RX3 yX3_standardIn yX3_standardIn, Cond.code yX3_standardIn cX3_standardIn 3 (some .int), Cond.fieldLink RX3 19 "ColumnSeasons$Table" "standards" "[I", Cond.static yX4_castTo, Cond.code yX4_castTo cX4_castTo 2 (some .int), Cond.methodLink RX4 236 Lib.Math.min.name]
def wsX3_changeKind_r2 : List Cond := [Cond.static Lib.Math.min.name, Cond.initialized "java/lang/Math", Cond.code Lib.Math.min.name Lib.Math.min.code 2 (some .int), Cond.methodLink RX4 168 Lib.Math.max.name, Cond.static Lib.Math.max.name, Cond.code Lib.Math.max.name Lib.Math.max.code 2 (some .int), Cond.methodLink RX4 230 yX4_leastOfKind, Cond.static yX4_leastOfKind, Cond.code yX4_leastOfKind cX4_leastOfKind 1 (some .int), Cond.methodLink RX4 233 yX4_greatestOfKind, Cond.static yX4_greatestOfKind, Cond.code yX4_greatestOfKind cX4_greatestOfKind 1 (some .int), Cond.methodLink RX3 62 yX3_beginSeasonWith, Cond.instanceMethod yX3_beginSeasonWith, Cond.selects RX3 yX3_beginSeasonWith yX3_beginSeasonWith, Cond.code yX3_beginSeasonWith cX3_beginSeasonWith 6 (some .int), Cond.methodLink RX3 37 arraycopyName, Cond.native arraycopyName, Cond.static arraycopyName, Cond.initialized "java/lang/System"]
def wsX3_changeKind : List Cond := .code yX3_changeKind cX3_changeKind 3 (some .int) :: ((wsX3_changeKind_r1 ++ wsX3_changeKind_r2) ++ wsX30)
def wsX3_writeRow : List Cond := .code yX3_writeRow cX3_writeRow 1 (some .int) :: ([.fieldLink RX3 22 "ColumnSeasons$Table" "rows" "I", .fieldLink RX3 19 "ColumnSeasons$Table" "standards" "[I", .fieldLink RX3 28 "ColumnSeasons$Table" "values" "[I", .methodLink RX3 37 arraycopyName, .native arraycopyName, .static arraycopyName, .initialized "java/lang/System", .fieldLink RX3 25 "ColumnSeasons$Table" "rowSeasons" "[I", .methodLink RX3 54 yX3_now, .instanceMethod yX3_now, .selects RX3 yX3_now yX3_now, .initialized RX3, .code yX3_now cX3_now 1 (some .int), .fieldLink RX3 9 "ColumnSeasons$Table" "seasons" "I"] ++ wsX30)
def wsX3_isRow : List Cond := .code yX3_isRow cX3_isRow 2 (some .boolean) :: ([.fieldLink RX3 22 "ColumnSeasons$Table" "rows" "I"] ++ wsX30)
def wsX3_kindInRow : List Cond := .code yX3_kindInRow cX3_kindInRow 3 (some .int) :: ([.fieldLink RX3 25 "ColumnSeasons$Table" "rowSeasons" "[I", .methodLink RX3 58 yX3_kindIn, .instanceMethod yX3_kindIn, .selects RX3 yX3_kindIn yX3_kindIn, .initialized RX3, .code yX3_kindIn cX3_kindIn 3 (some .int), .fieldLink RX3 15 "ColumnSeasons$Table" "kinds" "[I"] ++ wsX30)
def wsX3_valueAt : List Cond := .code yX3_valueAt cX3_valueAt 3 (some .int) :: ([.fieldLink RX3 28 "ColumnSeasons$Table" "values" "[I"] ++ wsX30)
def wsX3_changeValue_r1 : List Cond := [Cond.fieldLink RX3 28 "ColumnSeasons$Table" "values" "[I", Cond.methodLink RX3 72 yX3_isRow, Cond.instanceMethod yX3_isRow, Cond.selects RX3 yX3_isRow yX3_isRow, Cond.initialized RX3, Cond.code yX3_isRow cX3_isRow 2 (some .boolean), Cond.fieldLink RX3 22 "ColumnSeasons$Table" "rows" "I", Cond.static yX4_isName, Cond.initialized RX4, Cond.code yX4_isName cX4_isName 1 (some .boolean), Cond.methodLink RX3 75 yX3_kindInRow, Cond.instanceMethod yX3_kindInRow, Cond.selects RX3 yX3_kindInRow yX3_kindInRow, Cond.code yX3_kindInRow cX3_kindInRow 3 (some .int), Cond.fieldLink RX3 25 "ColumnSeasons$Table" "rowSeasons" "[I", Cond.methodLink RX3 58 yX3_kindIn, Cond.instanceMethod yX3_kindIn, Cond.selects RX3 yX3_kindIn yX3_kindIn, Cond.code yX3_kindIn cX3_kindIn 3 (some .int), Cond.fieldLink RX3 15 "ColumnSeasons$Table" "kinds" "[I", Cond.static yX4_isOfKind, Cond.code yX4_isOfKind cX4_isOfKind 2 (some .boolean), Cond.methodLink RX4 230 yX4_leastOfKind, Cond.static yX4_leastOfKind]
def wsX3_changeValue_r2 : List Cond := [Cond.code yX4_leastOfKind cX4_leastOfKind 1 (some .int), Cond.methodLink RX4 233 yX4_greatestOfKind, Cond.static yX4_greatestOfKind, Cond.code yX4_greatestOfKind cX4_greatestOfKind 1 (some .int), Cond.methodLink RX3 78 yX3_valueAt, Cond.instanceMethod yX3_valueAt, Cond.selects RX3 yX3_valueAt yX3_valueAt, Cond.code yX3_valueAt cX3_valueAt 3 (some .int)]
def wsX3_changeValue : List Cond := .code yX3_changeValue cX3_changeValue 5 (some .int) :: ((wsX3_changeValue_r1 ++ wsX3_changeValue_r2) ++ wsX30)
def wsX3_removeRow : List Cond := .code yX3_removeRow cX3_removeRow 3 (some .int) :: ([.fieldLink RX3 22 "ColumnSeasons$Table" "rows" "I", .fieldLink RX3 25 "ColumnSeasons$Table" "rowSeasons" "[I", .methodLink RX3 37 arraycopyName, .native arraycopyName, .static arraycopyName, .initialized "java/lang/System", .fieldLink RX3 28 "ColumnSeasons$Table" "values" "[I", .methodLink RX3 72 yX3_isRow, .instanceMethod yX3_isRow, .selects RX3 yX3_isRow yX3_isRow, .initialized RX3, .code yX3_isRow cX3_isRow 2 (some .boolean)] ++ wsX30)
def wsX4_castLoses : List Cond := .code yX4_castLoses cX4_castLoses 3 (some .boolean) :: ([.methodLink RX4 239 yX4_castTo, .static yX4_castTo, .initialized RX4, .code yX4_castTo cX4_castTo 2 (some .int), .methodLink RX4 236 Lib.Math.min.name, .static Lib.Math.min.name, .initialized "java/lang/Math", .code Lib.Math.min.name Lib.Math.min.code 2 (some .int), .methodLink RX4 168 Lib.Math.max.name, .static Lib.Math.max.name, .code Lib.Math.max.name Lib.Math.max.code 2 (some .int), .methodLink RX4 230 yX4_leastOfKind, .static yX4_leastOfKind, .code yX4_leastOfKind cX4_leastOfKind 1 (some .int), .methodLink RX4 233 yX4_greatestOfKind, .static yX4_greatestOfKind, .code yX4_greatestOfKind cX4_greatestOfKind 1 (some .int)])
def wsX3_lossesOfRowIn_r1 : List Cond := [Cond.methodLink RX3 75 yX3_kindInRow, Cond.instanceMethod yX3_kindInRow, Cond.selects RX3 yX3_kindInRow yX3_kindInRow, Cond.initialized RX3, Cond.code yX3_kindInRow cX3_kindInRow 3 (some .int), Cond.fieldLink RX3 25 "ColumnSeasons$Table" "rowSeasons" "[I", Cond.methodLink RX3 58 yX3_kindIn, Cond.instanceMethod yX3_kindIn, Cond.selects RX3 yX3_kindIn yX3_kindIn, Cond.code yX3_kindIn cX3_kindIn 3 (some .int), Cond.fieldLink RX3 15 "ColumnSeasons$Table" "kinds" "[I", Cond.methodLink RX3 78 yX3_valueAt, Cond.instanceMethod yX3_valueAt, Cond.selects RX3 yX3_valueAt yX3_valueAt, Cond.code yX3_valueAt cX3_valueAt 3 (some .int), Cond.fieldLink RX3 28 "ColumnSeasons$Table" "values" "[I", Cond.static yX4_castLoses, Cond.initialized RX4, Cond.code yX4_castLoses cX4_castLoses 3 (some .boolean), Cond.methodLink RX4 239 yX4_castTo, Cond.static yX4_castTo, Cond.code yX4_castTo cX4_castTo 2 (some .int), Cond.methodLink RX4 236 Lib.Math.min.name, Cond.static Lib.Math.min.name]
def wsX3_lossesOfRowIn_r2 : List Cond := [Cond.initialized "java/lang/Math", Cond.code Lib.Math.min.name Lib.Math.min.code 2 (some .int), Cond.methodLink RX4 168 Lib.Math.max.name, Cond.static Lib.Math.max.name, Cond.code Lib.Math.max.name Lib.Math.max.code 2 (some .int), Cond.methodLink RX4 230 yX4_leastOfKind, Cond.static yX4_leastOfKind, Cond.code yX4_leastOfKind cX4_leastOfKind 1 (some .int), Cond.methodLink RX4 233 yX4_greatestOfKind, Cond.static yX4_greatestOfKind, Cond.code yX4_greatestOfKind cX4_greatestOfKind 1 (some .int)]
def wsX3_lossesOfRowIn : List Cond := .code yX3_lossesOfRowIn cX3_lossesOfRowIn 7 (some .int) :: ((wsX3_lossesOfRowIn_r1 ++ wsX3_lossesOfRowIn_r2) ++ wsX30)
def wsX3_readIn_r1 : List Cond := [Cond.methodLink RX3 75 yX3_kindInRow, Cond.instanceMethod yX3_kindInRow, Cond.selects RX3 yX3_kindInRow yX3_kindInRow, Cond.initialized RX3, Cond.code yX3_kindInRow cX3_kindInRow 3 (some .int), Cond.fieldLink RX3 25 "ColumnSeasons$Table" "rowSeasons" "[I", Cond.methodLink RX3 58 yX3_kindIn, Cond.instanceMethod yX3_kindIn, Cond.selects RX3 yX3_kindIn yX3_kindIn, Cond.code yX3_kindIn cX3_kindIn 3 (some .int), Cond.fieldLink RX3 15 "ColumnSeasons$Table" "kinds" "[I", Cond.methodLink RX3 66 yX3_standardIn, Cond.instanceMethod yX3_standardIn, Cond.selects RX3 yX3_standardIn yX3_standardIn, Cond.code yX3_standardIn cX3_standardIn 3 (some .int), Cond.fieldLink RX3 19 "ColumnSeasons$Table" "standards" "[I", Cond.methodLink RX3 78 yX3_valueAt, Cond.instanceMethod yX3_valueAt, Cond.selects RX3 yX3_valueAt yX3_valueAt, Cond.code yX3_valueAt cX3_valueAt 3 (some .int), Cond.fieldLink RX3 28 "ColumnSeasons$Table" "values" "[I", Cond.static yX4_castTo, Cond.initialized RX4, Cond.code yX4_castTo cX4_castTo 2 (some .int)]
def wsX3_readIn_r2 : List Cond := [Cond.methodLink RX4 236 Lib.Math.min.name, Cond.static Lib.Math.min.name, Cond.initialized "java/lang/Math", Cond.code Lib.Math.min.name Lib.Math.min.code 2 (some .int), Cond.methodLink RX4 168 Lib.Math.max.name, Cond.static Lib.Math.max.name, Cond.code Lib.Math.max.name Lib.Math.max.code 2 (some .int), Cond.methodLink RX4 230 yX4_leastOfKind, Cond.static yX4_leastOfKind, Cond.code yX4_leastOfKind cX4_leastOfKind 1 (some .int), Cond.methodLink RX4 233 yX4_greatestOfKind, Cond.static yX4_greatestOfKind, Cond.code yX4_greatestOfKind cX4_greatestOfKind 1 (some .int)]
def wsX3_readIn : List Cond := .code yX3_readIn cX3_readIn 4 (some .int) :: ((wsX3_readIn_r1 ++ wsX3_readIn_r2) ++ wsX30)
def wsX3_dressRowInNow_r1 : List Cond := [Cond.fieldLink RX3 28 "ColumnSeasons$Table" "values" "[I", Cond.fieldLink RX3 25 "ColumnSeasons$Table" "rowSeasons" "[I", Cond.methodLink RX3 54 yX3_now, Cond.instanceMethod yX3_now, Cond.selects RX3 yX3_now yX3_now, Cond.initialized RX3, Cond.code yX3_now cX3_now 1 (some .int), Cond.fieldLink RX3 9 "ColumnSeasons$Table" "seasons" "I", Cond.methodLink RX3 58 yX3_kindIn, Cond.instanceMethod yX3_kindIn, Cond.selects RX3 yX3_kindIn yX3_kindIn, Cond.code yX3_kindIn cX3_kindIn 3 (some .int), Cond.fieldLink RX3 15 "ColumnSeasons$Table" "kinds" "[I", Cond.methodLink RX3 88 yX3_readIn, Cond.instanceMethod yX3_readIn, Cond.selects RX3 yX3_readIn yX3_readIn, Cond.code yX3_readIn cX3_readIn 4 (some .int), Cond.methodLink RX3 75 yX3_kindInRow, Cond.instanceMethod yX3_kindInRow, Cond.selects RX3 yX3_kindInRow yX3_kindInRow, Cond.code yX3_kindInRow cX3_kindInRow 3 (some .int), Cond.methodLink RX3 66 yX3_standardIn, Cond.instanceMethod yX3_standardIn, Cond.selects RX3 yX3_standardIn yX3_standardIn]
def wsX3_dressRowInNow_r2 : List Cond := [Cond.code yX3_standardIn cX3_standardIn 3 (some .int), Cond.fieldLink RX3 19 "ColumnSeasons$Table" "standards" "[I", Cond.methodLink RX3 78 yX3_valueAt, Cond.instanceMethod yX3_valueAt, Cond.selects RX3 yX3_valueAt yX3_valueAt, Cond.code yX3_valueAt cX3_valueAt 3 (some .int), Cond.static yX4_castTo, Cond.initialized RX4, Cond.code yX4_castTo cX4_castTo 2 (some .int), Cond.methodLink RX4 236 Lib.Math.min.name, Cond.static Lib.Math.min.name, Cond.initialized "java/lang/Math", Cond.code Lib.Math.min.name Lib.Math.min.code 2 (some .int), Cond.methodLink RX4 168 Lib.Math.max.name, Cond.static Lib.Math.max.name, Cond.code Lib.Math.max.name Lib.Math.max.code 2 (some .int), Cond.methodLink RX4 230 yX4_leastOfKind, Cond.static yX4_leastOfKind, Cond.code yX4_leastOfKind cX4_leastOfKind 1 (some .int), Cond.methodLink RX4 233 yX4_greatestOfKind, Cond.static yX4_greatestOfKind, Cond.code yX4_greatestOfKind cX4_greatestOfKind 1 (some .int)]
def wsX3_dressRowInNow : List Cond := .code yX3_dressRowInNow cX3_dressRowInNow 3 none :: ((wsX3_dressRowInNow_r1 ++ wsX3_dressRowInNow_r2) ++ wsX30)
def wsX3_makeRowsOver_r1 : List Cond := [Cond.fieldLink RX3 25 "ColumnSeasons$Table" "rowSeasons" "[I", Cond.methodLink RX3 72 yX3_isRow, Cond.instanceMethod yX3_isRow, Cond.selects RX3 yX3_isRow yX3_isRow, Cond.initialized RX3, Cond.code yX3_isRow cX3_isRow 2 (some .boolean), Cond.fieldLink RX3 22 "ColumnSeasons$Table" "rows" "I", Cond.methodLink RX3 54 yX3_now, Cond.instanceMethod yX3_now, Cond.selects RX3 yX3_now yX3_now, Cond.code yX3_now cX3_now 1 (some .int), Cond.fieldLink RX3 9 "ColumnSeasons$Table" "seasons" "I", Cond.methodLink RX3 81 yX3_lossesOfRowIn, Cond.instanceMethod yX3_lossesOfRowIn, Cond.selects RX3 yX3_lossesOfRowIn yX3_lossesOfRowIn, Cond.code yX3_lossesOfRowIn cX3_lossesOfRowIn 7 (some .int), Cond.methodLink RX3 75 yX3_kindInRow, Cond.instanceMethod yX3_kindInRow, Cond.selects RX3 yX3_kindInRow yX3_kindInRow, Cond.code yX3_kindInRow cX3_kindInRow 3 (some .int), Cond.methodLink RX3 58 yX3_kindIn, Cond.instanceMethod yX3_kindIn, Cond.selects RX3 yX3_kindIn yX3_kindIn, Cond.code yX3_kindIn cX3_kindIn 3 (some .int)]
def wsX3_makeRowsOver_r2 : List Cond := [Cond.fieldLink RX3 15 "ColumnSeasons$Table" "kinds" "[I", Cond.methodLink RX3 78 yX3_valueAt, Cond.instanceMethod yX3_valueAt, Cond.selects RX3 yX3_valueAt yX3_valueAt, Cond.code yX3_valueAt cX3_valueAt 3 (some .int), Cond.fieldLink RX3 28 "ColumnSeasons$Table" "values" "[I", Cond.static yX4_castLoses, Cond.initialized RX4, Cond.code yX4_castLoses cX4_castLoses 3 (some .boolean), Cond.methodLink RX4 239 yX4_castTo, Cond.static yX4_castTo, Cond.code yX4_castTo cX4_castTo 2 (some .int), Cond.methodLink RX4 236 Lib.Math.min.name, Cond.static Lib.Math.min.name, Cond.initialized "java/lang/Math", Cond.code Lib.Math.min.name Lib.Math.min.code 2 (some .int), Cond.methodLink RX4 168 Lib.Math.max.name, Cond.static Lib.Math.max.name, Cond.code Lib.Math.max.name Lib.Math.max.code 2 (some .int), Cond.methodLink RX4 230 yX4_leastOfKind, Cond.static yX4_leastOfKind, Cond.code yX4_leastOfKind cX4_leastOfKind 1 (some .int), Cond.methodLink RX4 233 yX4_greatestOfKind, Cond.static yX4_greatestOfKind]
def wsX3_makeRowsOver_r3 : List Cond := [Cond.code yX4_greatestOfKind cX4_greatestOfKind 1 (some .int), Cond.methodLink RX3 84 yX3_dressRowInNow, Cond.instanceMethod yX3_dressRowInNow, Cond.selects RX3 yX3_dressRowInNow yX3_dressRowInNow, Cond.code yX3_dressRowInNow cX3_dressRowInNow 3 none, Cond.methodLink RX3 88 yX3_readIn, Cond.instanceMethod yX3_readIn, Cond.selects RX3 yX3_readIn yX3_readIn, Cond.code yX3_readIn cX3_readIn 4 (some .int), Cond.methodLink RX3 66 yX3_standardIn, Cond.instanceMethod yX3_standardIn, Cond.selects RX3 yX3_standardIn yX3_standardIn, Cond.code yX3_standardIn cX3_standardIn 3 (some .int), Cond.fieldLink RX3 19 "ColumnSeasons$Table" "standards" "[I"]
def wsX3_makeRowsOver : List Cond := .code yX3_makeRowsOver cX3_makeRowsOver 6 (some .int) :: ((wsX3_makeRowsOver_r1 ++ (wsX3_makeRowsOver_r2 ++ wsX3_makeRowsOver_r3)) ++ wsX30)
def wsX3_forgetSeasons : List Cond := .code yX3_forgetSeasons cX3_forgetSeasons 3 (some .int) :: ([.fieldLink RX3 22 "ColumnSeasons$Table" "rows" "I", .fieldLink RX3 25 "ColumnSeasons$Table" "rowSeasons" "[I", .methodLink RX3 91 Lib.Math.min.name, .static Lib.Math.min.name, .initialized "java/lang/Math", .code Lib.Math.min.name Lib.Math.min.code 2 (some .int), .fieldLink RX3 9 "ColumnSeasons$Table" "seasons" "I", .fieldLink RX3 15 "ColumnSeasons$Table" "kinds" "[I", .methodLink RX3 37 arraycopyName, .native arraycopyName, .static arraycopyName, .initialized "java/lang/System", .fieldLink RX3 19 "ColumnSeasons$Table" "standards" "[I", .methodLink RX3 54 yX3_now, .instanceMethod yX3_now, .selects RX3 yX3_now yX3_now, .initialized RX3, .code yX3_now cX3_now 1 (some .int)] ++ wsX30)
def wsX3_isSeason : List Cond := .code yX3_isSeason cX3_isSeason 2 (some .boolean) :: ([.fieldLink RX3 9 "ColumnSeasons$Table" "seasons" "I"] ++ wsX30)
def wsX3_namesIn : List Cond := .code yX3_namesIn cX3_namesIn 4 (some .int) :: ([.methodLink RX3 58 yX3_kindIn, .instanceMethod yX3_kindIn, .selects RX3 yX3_kindIn yX3_kindIn, .initialized RX3, .code yX3_kindIn cX3_kindIn 3 (some .int), .fieldLink RX3 15 "ColumnSeasons$Table" "kinds" "[I"] ++ wsX30)
def wsX3_namesOfAllSeasons : List Cond := .code yX3_namesOfAllSeasons cX3_namesOfAllSeasons 3 (some .int) :: ([.fieldLink RX3 9 "ColumnSeasons$Table" "seasons" "I", .methodLink RX3 96 yX3_namesIn, .instanceMethod yX3_namesIn, .selects RX3 yX3_namesIn yX3_namesIn, .initialized RX3, .code yX3_namesIn cX3_namesIn 4 (some .int), .methodLink RX3 58 yX3_kindIn, .instanceMethod yX3_kindIn, .selects RX3 yX3_kindIn yX3_kindIn, .code yX3_kindIn cX3_kindIn 3 (some .int), .fieldLink RX3 15 "ColumnSeasons$Table" "kinds" "[I"] ++ wsX30)
def wsX3_newColumnsIn : List Cond := .code yX3_newColumnsIn cX3_newColumnsIn 5 (some .int) :: ([.methodLink RX3 58 yX3_kindIn, .instanceMethod yX3_kindIn, .selects RX3 yX3_kindIn yX3_kindIn, .initialized RX3, .code yX3_kindIn cX3_kindIn 3 (some .int), .fieldLink RX3 15 "ColumnSeasons$Table" "kinds" "[I"] ++ wsX30)
def wsX3_rowsOfSeason : List Cond := .code yX3_rowsOfSeason cX3_rowsOfSeason 4 (some .int) :: ([.fieldLink RX3 22 "ColumnSeasons$Table" "rows" "I", .fieldLink RX3 25 "ColumnSeasons$Table" "rowSeasons" "[I"] ++ wsX30)
def wsX3_seasonOfRow : List Cond := .code yX3_seasonOfRow cX3_seasonOfRow 2 (some .int) :: ([.fieldLink RX3 25 "ColumnSeasons$Table" "rowSeasons" "[I"] ++ wsX30)
def wsJ6_bitCount_0f7a4 : List Cond := .code yJ6_bitCount_0f7a4 cJ6_bitCount_0f7a4 1 (some .int) :: ([.constant RJ6 265 (1431655765), .constant RJ6 266 (858993459), .constant RJ6 267 (252645135)])
def wsX3_valuesOfAllRows : List Cond := .code yX3_valuesOfAllRows cX3_valuesOfAllRows 3 (some .int) :: ([.fieldLink RX3 22 "ColumnSeasons$Table" "rows" "I", .fieldLink RX3 25 "ColumnSeasons$Table" "rowSeasons" "[I", .methodLink RX3 96 yX3_namesIn, .instanceMethod yX3_namesIn, .selects RX3 yX3_namesIn yX3_namesIn, .initialized RX3, .code yX3_namesIn cX3_namesIn 4 (some .int), .methodLink RX3 58 yX3_kindIn, .instanceMethod yX3_kindIn, .selects RX3 yX3_kindIn yX3_kindIn, .code yX3_kindIn cX3_kindIn 3 (some .int), .fieldLink RX3 15 "ColumnSeasons$Table" "kinds" "[I", .methodLink RX3 100 yJ6_bitCount_0f7a4, .static yJ6_bitCount_0f7a4, .initialized RJ6, .code yJ6_bitCount_0f7a4 cJ6_bitCount_0f7a4 1 (some .int), .constant RJ6 265 (1431655765), .constant RJ6 266 (858993459), .constant RJ6 267 (252645135)] ++ wsX30)
def wsX3_howReadIn_r1 : List Cond := [Cond.methodLink RX3 75 yX3_kindInRow, Cond.instanceMethod yX3_kindInRow, Cond.selects RX3 yX3_kindInRow yX3_kindInRow, Cond.initialized RX3, Cond.code yX3_kindInRow cX3_kindInRow 3 (some .int), Cond.fieldLink RX3 25 "ColumnSeasons$Table" "rowSeasons" "[I", Cond.methodLink RX3 58 yX3_kindIn, Cond.instanceMethod yX3_kindIn, Cond.selects RX3 yX3_kindIn yX3_kindIn, Cond.code yX3_kindIn cX3_kindIn 3 (some .int), Cond.fieldLink RX3 15 "ColumnSeasons$Table" "kinds" "[I", Cond.methodLink RX3 78 yX3_valueAt, Cond.instanceMethod yX3_valueAt, Cond.selects RX3 yX3_valueAt yX3_valueAt, Cond.code yX3_valueAt cX3_valueAt 3 (some .int), Cond.fieldLink RX3 28 "ColumnSeasons$Table" "values" "[I", Cond.static yX4_castLoses, Cond.initialized RX4, Cond.code yX4_castLoses cX4_castLoses 3 (some .boolean), Cond.methodLink RX4 239 yX4_castTo, Cond.static yX4_castTo, Cond.code yX4_castTo cX4_castTo 2 (some .int), Cond.methodLink RX4 236 Lib.Math.min.name, Cond.static Lib.Math.min.name]
def wsX3_howReadIn_r2 : List Cond := [Cond.initialized "java/lang/Math", Cond.code Lib.Math.min.name Lib.Math.min.code 2 (some .int), Cond.methodLink RX4 168 Lib.Math.max.name, Cond.static Lib.Math.max.name, Cond.code Lib.Math.max.name Lib.Math.max.code 2 (some .int), Cond.methodLink RX4 230 yX4_leastOfKind, Cond.static yX4_leastOfKind, Cond.code yX4_leastOfKind cX4_leastOfKind 1 (some .int), Cond.methodLink RX4 233 yX4_greatestOfKind, Cond.static yX4_greatestOfKind, Cond.code yX4_greatestOfKind cX4_greatestOfKind 1 (some .int)]
def wsX3_howReadIn : List Cond := .code yX3_howReadIn cX3_howReadIn 6 (some .int) :: ((wsX3_howReadIn_r1 ++ wsX3_howReadIn_r2) ++ wsX30)
def wsX3_lossesIn_r1 : List Cond := [Cond.fieldLink RX3 22 "ColumnSeasons$Table" "rows" "I", Cond.methodLink RX3 81 yX3_lossesOfRowIn, Cond.instanceMethod yX3_lossesOfRowIn, Cond.selects RX3 yX3_lossesOfRowIn yX3_lossesOfRowIn, Cond.initialized RX3, Cond.code yX3_lossesOfRowIn cX3_lossesOfRowIn 7 (some .int), Cond.methodLink RX3 75 yX3_kindInRow, Cond.instanceMethod yX3_kindInRow, Cond.selects RX3 yX3_kindInRow yX3_kindInRow, Cond.code yX3_kindInRow cX3_kindInRow 3 (some .int), Cond.fieldLink RX3 25 "ColumnSeasons$Table" "rowSeasons" "[I", Cond.methodLink RX3 58 yX3_kindIn, Cond.instanceMethod yX3_kindIn, Cond.selects RX3 yX3_kindIn yX3_kindIn, Cond.code yX3_kindIn cX3_kindIn 3 (some .int), Cond.fieldLink RX3 15 "ColumnSeasons$Table" "kinds" "[I", Cond.methodLink RX3 78 yX3_valueAt, Cond.instanceMethod yX3_valueAt, Cond.selects RX3 yX3_valueAt yX3_valueAt, Cond.code yX3_valueAt cX3_valueAt 3 (some .int), Cond.fieldLink RX3 28 "ColumnSeasons$Table" "values" "[I", Cond.static yX4_castLoses, Cond.initialized RX4, Cond.code yX4_castLoses cX4_castLoses 3 (some .boolean)]
def wsX3_lossesIn_r2 : List Cond := [Cond.methodLink RX4 239 yX4_castTo, Cond.static yX4_castTo, Cond.code yX4_castTo cX4_castTo 2 (some .int), Cond.methodLink RX4 236 Lib.Math.min.name, Cond.static Lib.Math.min.name, Cond.initialized "java/lang/Math", Cond.code Lib.Math.min.name Lib.Math.min.code 2 (some .int), Cond.methodLink RX4 168 Lib.Math.max.name, Cond.static Lib.Math.max.name, Cond.code Lib.Math.max.name Lib.Math.max.code 2 (some .int), Cond.methodLink RX4 230 yX4_leastOfKind, Cond.static yX4_leastOfKind, Cond.code yX4_leastOfKind cX4_leastOfKind 1 (some .int), Cond.methodLink RX4 233 yX4_greatestOfKind, Cond.static yX4_greatestOfKind, Cond.code yX4_greatestOfKind cX4_greatestOfKind 1 (some .int)]
def wsX3_lossesIn : List Cond := .code yX3_lossesIn cX3_lossesIn 4 (some .int) :: ((wsX3_lossesIn_r1 ++ wsX3_lossesIn_r2) ++ wsX30)
def wsX3_seasonOfFewestLosses_r1 : List Cond := [Cond.methodLink RX3 54 yX3_now, Cond.instanceMethod yX3_now, Cond.selects RX3 yX3_now yX3_now, Cond.initialized RX3, Cond.code yX3_now cX3_now 1 (some .int), Cond.fieldLink RX3 9 "ColumnSeasons$Table" "seasons" "I", Cond.methodLink RX3 109 yX3_lossesIn, Cond.instanceMethod yX3_lossesIn, Cond.selects RX3 yX3_lossesIn yX3_lossesIn, Cond.code yX3_lossesIn cX3_lossesIn 4 (some .int), Cond.fieldLink RX3 22 "ColumnSeasons$Table" "rows" "I", Cond.methodLink RX3 81 yX3_lossesOfRowIn, Cond.instanceMethod yX3_lossesOfRowIn, Cond.selects RX3 yX3_lossesOfRowIn yX3_lossesOfRowIn, Cond.code yX3_lossesOfRowIn cX3_lossesOfRowIn 7 (some .int), Cond.methodLink RX3 75 yX3_kindInRow, Cond.instanceMethod yX3_kindInRow, Cond.selects RX3 yX3_kindInRow yX3_kindInRow, Cond.code yX3_kindInRow cX3_kindInRow 3 (some .int), Cond.fieldLink RX3 25 "ColumnSeasons$Table" "rowSeasons" "[I", Cond.methodLink RX3 58 yX3_kindIn, Cond.instanceMethod yX3_kindIn, Cond.selects RX3 yX3_kindIn yX3_kindIn, Cond.code yX3_kindIn cX3_kindIn 3 (some .int)]
def wsX3_seasonOfFewestLosses_r2 : List Cond := [Cond.fieldLink RX3 15 "ColumnSeasons$Table" "kinds" "[I", Cond.methodLink RX3 78 yX3_valueAt, Cond.instanceMethod yX3_valueAt, Cond.selects RX3 yX3_valueAt yX3_valueAt, Cond.code yX3_valueAt cX3_valueAt 3 (some .int), Cond.fieldLink RX3 28 "ColumnSeasons$Table" "values" "[I", Cond.static yX4_castLoses, Cond.initialized RX4, Cond.code yX4_castLoses cX4_castLoses 3 (some .boolean), Cond.methodLink RX4 239 yX4_castTo, Cond.static yX4_castTo, Cond.code yX4_castTo cX4_castTo 2 (some .int), Cond.methodLink RX4 236 Lib.Math.min.name, Cond.static Lib.Math.min.name, Cond.initialized "java/lang/Math", Cond.code Lib.Math.min.name Lib.Math.min.code 2 (some .int), Cond.methodLink RX4 168 Lib.Math.max.name, Cond.static Lib.Math.max.name, Cond.code Lib.Math.max.name Lib.Math.max.code 2 (some .int), Cond.methodLink RX4 230 yX4_leastOfKind, Cond.static yX4_leastOfKind, Cond.code yX4_leastOfKind cX4_leastOfKind 1 (some .int), Cond.methodLink RX4 233 yX4_greatestOfKind, Cond.static yX4_greatestOfKind]
def wsX3_seasonOfFewestLosses_r3 : List Cond := [Cond.code yX4_greatestOfKind cX4_greatestOfKind 1 (some .int)]
def wsX3_seasonOfFewestLosses : List Cond := .code yX3_seasonOfFewestLosses cX3_seasonOfFewestLosses 5 (some .int) :: ((wsX3_seasonOfFewestLosses_r1 ++ (wsX3_seasonOfFewestLosses_r2 ++ wsX3_seasonOfFewestLosses_r3)) ++ wsX30)
def wsX3_sharedNames : List Cond := .code yX3_sharedNames cX3_sharedNames 5 (some .int) :: ([.fieldLink RX3 25 "ColumnSeasons$Table" "rowSeasons" "[I", .methodLink RX3 96 yX3_namesIn, .instanceMethod yX3_namesIn, .selects RX3 yX3_namesIn yX3_namesIn, .initialized RX3, .code yX3_namesIn cX3_namesIn 4 (some .int), .methodLink RX3 58 yX3_kindIn, .instanceMethod yX3_kindIn, .selects RX3 yX3_kindIn yX3_kindIn, .code yX3_kindIn cX3_kindIn 3 (some .int), .fieldLink RX3 15 "ColumnSeasons$Table" "kinds" "[I"] ++ wsX30)
def wsX4_hasName : List Cond := .code yX4_hasName cX4_hasName 2 (some .boolean) :: ([])
def wsX3_defaultsInView_r1 : List Cond := [Cond.methodLink RX3 112 yX3_sharedNames, Cond.instanceMethod yX3_sharedNames, Cond.selects RX3 yX3_sharedNames yX3_sharedNames, Cond.initialized RX3, Cond.code yX3_sharedNames cX3_sharedNames 5 (some .int), Cond.fieldLink RX3 25 "ColumnSeasons$Table" "rowSeasons" "[I", Cond.methodLink RX3 96 yX3_namesIn, Cond.instanceMethod yX3_namesIn, Cond.selects RX3 yX3_namesIn yX3_namesIn, Cond.code yX3_namesIn cX3_namesIn 4 (some .int), Cond.methodLink RX3 58 yX3_kindIn, Cond.instanceMethod yX3_kindIn, Cond.selects RX3 yX3_kindIn yX3_kindIn, Cond.code yX3_kindIn cX3_kindIn 3 (some .int), Cond.fieldLink RX3 15 "ColumnSeasons$Table" "kinds" "[I", Cond.methodLink RX3 54 yX3_now, Cond.instanceMethod yX3_now, Cond.selects RX3 yX3_now yX3_now, Cond.code yX3_now cX3_now 1 (some .int), Cond.fieldLink RX3 9 "ColumnSeasons$Table" "seasons" "I", Cond.static yX4_hasName, Cond.initialized RX4, Cond.code yX4_hasName cX4_hasName 2 (some .boolean), Cond.methodLink RX3 78 yX3_valueAt]
def wsX3_defaultsInView_r2 : List Cond := [Cond.instanceMethod yX3_valueAt, Cond.selects RX3 yX3_valueAt yX3_valueAt, Cond.code yX3_valueAt cX3_valueAt 3 (some .int), Cond.fieldLink RX3 28 "ColumnSeasons$Table" "values" "[I", Cond.methodLink RX3 66 yX3_standardIn, Cond.instanceMethod yX3_standardIn, Cond.selects RX3 yX3_standardIn yX3_standardIn, Cond.code yX3_standardIn cX3_standardIn 3 (some .int), Cond.fieldLink RX3 19 "ColumnSeasons$Table" "standards" "[I"]
def wsX3_defaultsInView : List Cond := .code yX3_defaultsInView cX3_defaultsInView 7 (some .int) :: ((wsX3_defaultsInView_r1 ++ wsX3_defaultsInView_r2) ++ wsX30)
def wsX3_widestKind : List Cond := .code yX3_widestKind cX3_widestKind 6 (some .int) :: ([.methodLink RX3 118 Lib.Math.max.name, .static Lib.Math.max.name, .initialized "java/lang/Math", .code Lib.Math.max.name Lib.Math.max.code 2 (some .int), .methodLink RX3 75 yX3_kindInRow, .instanceMethod yX3_kindInRow, .selects RX3 yX3_kindInRow yX3_kindInRow, .initialized RX3, .code yX3_kindInRow cX3_kindInRow 3 (some .int), .fieldLink RX3 25 "ColumnSeasons$Table" "rowSeasons" "[I", .methodLink RX3 58 yX3_kindIn, .instanceMethod yX3_kindIn, .selects RX3 yX3_kindIn yX3_kindIn, .code yX3_kindIn cX3_kindIn 3 (some .int), .fieldLink RX3 15 "ColumnSeasons$Table" "kinds" "[I"] ++ wsX30)
def wsX3_sumOfValues : List Cond := .code yX3_sumOfValues cX3_sumOfValues 6 (some .int) :: ([.methodLink RX3 78 yX3_valueAt, .instanceMethod yX3_valueAt, .selects RX3 yX3_valueAt yX3_valueAt, .initialized RX3, .code yX3_valueAt cX3_valueAt 3 (some .int), .fieldLink RX3 28 "ColumnSeasons$Table" "values" "[I"] ++ wsX30)
def wsX3_leastValue : List Cond := .code yX3_leastValue cX3_leastValue 6 (some .int) :: ([.methodLink RX3 91 Lib.Math.min.name, .static Lib.Math.min.name, .initialized "java/lang/Math", .code Lib.Math.min.name Lib.Math.min.code 2 (some .int), .methodLink RX3 78 yX3_valueAt, .instanceMethod yX3_valueAt, .selects RX3 yX3_valueAt yX3_valueAt, .initialized RX3, .code yX3_valueAt cX3_valueAt 3 (some .int), .fieldLink RX3 28 "ColumnSeasons$Table" "values" "[I"] ++ wsX30)
def wsX3_greatestValue : List Cond := .code yX3_greatestValue cX3_greatestValue 6 (some .int) :: ([.methodLink RX3 118 Lib.Math.max.name, .static Lib.Math.max.name, .initialized "java/lang/Math", .code Lib.Math.max.name Lib.Math.max.code 2 (some .int), .methodLink RX3 78 yX3_valueAt, .instanceMethod yX3_valueAt, .selects RX3 yX3_valueAt yX3_valueAt, .initialized RX3, .code yX3_valueAt cX3_valueAt 3 (some .int), .fieldLink RX3 28 "ColumnSeasons$Table" "values" "[I"] ++ wsX30)
def wsX3_isFirstOfItsValue : List Cond := .code yX3_isFirstOfItsValue cX3_isFirstOfItsValue 5 (some .boolean) :: ([.methodLink RX3 78 yX3_valueAt, .instanceMethod yX3_valueAt, .selects RX3 yX3_valueAt yX3_valueAt, .initialized RX3, .code yX3_valueAt cX3_valueAt 3 (some .int), .fieldLink RX3 28 "ColumnSeasons$Table" "values" "[I"] ++ wsX30)
def wsX3_unlikeValues : List Cond := .code yX3_unlikeValues cX3_unlikeValues 6 (some .int) :: ([.methodLink RX3 121 yX3_isFirstOfItsValue, .instanceMethod yX3_isFirstOfItsValue, .selects RX3 yX3_isFirstOfItsValue yX3_isFirstOfItsValue, .initialized RX3, .code yX3_isFirstOfItsValue cX3_isFirstOfItsValue 5 (some .boolean), .methodLink RX3 78 yX3_valueAt, .instanceMethod yX3_valueAt, .selects RX3 yX3_valueAt yX3_valueAt, .code yX3_valueAt cX3_valueAt 3 (some .int), .fieldLink RX3 28 "ColumnSeasons$Table" "values" "[I"] ++ wsX30)
def wsX4_init_r1 : List Cond := [Cond.methodLink RX4 1 objectInit, Cond.instanceMethod objectInit, Cond.code objectInit ⟨#[0xb1]⟩ 1 none, Cond.classLink RX4 7 RX3, Cond.instantiable RX3 6, Cond.initialized RX3, Cond.fieldLink RX4 10 "ColumnSeasons" "table" "LColumnSeasons$Table;", Cond.classLink RX4 16 RX1, Cond.instantiable RX1 3, Cond.initialized RX1, Cond.fieldLink RX4 19 "ColumnSeasons" "history" "LColumnSeasons$History;", Cond.fieldLink RX4 23 "ColumnSeasons" "snapshot" "LColumnSeasons$Table;", Cond.fieldLink RX4 26 "ColumnSeasons" "hasSnapshot" "Z", Cond.classLink RX4 30 RX2, Cond.instantiable RX2 6, Cond.initialized RX2, Cond.fieldLink RX4 33 "ColumnSeasons" "script" "LColumnSeasons$Script;", Cond.fieldLink RX4 37 "ColumnSeasons" "stoppedCommand" "I", Cond.fieldLink RX4 41 "ColumnSeasons" "stoppedError" "I", Cond.methodLink RX4 9 yX3_init, Cond.instanceMethod yX3_init, Cond.code yX3_init cX3_init 1 none, Cond.methodLink RX3 3 objectInit, Cond.fieldLink RX3 9 "ColumnSeasons$Table" "seasons" "I"]
def wsX4_init_r2 : List Cond := [Cond.arrayClass .int, Cond.fieldLink RX3 15 "ColumnSeasons$Table" "kinds" "[I", Cond.fieldLink RX3 19 "ColumnSeasons$Table" "standards" "[I", Cond.fieldLink RX3 22 "ColumnSeasons$Table" "rows" "I", Cond.fieldLink RX3 25 "ColumnSeasons$Table" "rowSeasons" "[I", Cond.fieldLink RX3 28 "ColumnSeasons$Table" "values" "[I", Cond.methodLink RX3 31 yJ7_fill_53178, Cond.static yJ7_fill_53178, Cond.initialized RJ7, Cond.code yJ7_fill_53178 cJ7_fill_53178 4 none, Cond.methodLink RX4 18 yX1_init, Cond.instanceMethod yX1_init, Cond.code yX1_init cX1_init 2 none, Cond.methodLink RX1 3 objectInit, Cond.classLink RX1 11 RX3, Cond.fieldLink RX1 13 "ColumnSeasons$History" "slots" "[LColumnSeasons$Table;", Cond.fieldLink RX1 17 "ColumnSeasons$History" "oldest" "I", Cond.fieldLink RX1 21 "ColumnSeasons$History" "length" "I", Cond.methodLink RX1 24 yX3_init, Cond.methodLink RX4 32 yX2_init, Cond.instanceMethod yX2_init, Cond.code yX2_init cX2_init 2 none, Cond.methodLink RX2 3 objectInit, Cond.arrayClass .char]
def wsX4_init_r3 : List Cond := [Cond.fieldLink RX2 9 "ColumnSeasons$Script" "text" "[C", Cond.fieldLink RX2 15 "ColumnSeasons$Script" "length" "I", Cond.classLink RX2 19 RX0, Cond.fieldLink RX2 21 "ColumnSeasons$Script" "commands" "[LColumnSeasons$Command;", Cond.fieldLink RX2 25 "ColumnSeasons$Script" "commandCount" "I", Cond.fieldLink RX2 28 "ColumnSeasons$Script" "place" "I", Cond.fieldLink RX2 31 "ColumnSeasons$Script" "number" "I", Cond.instantiable RX0 5, Cond.initialized RX0, Cond.methodLink RX2 34 yX0_init, Cond.instanceMethod yX0_init, Cond.code yX0_init cX0_init 1 none, Cond.methodLink RX0 3 objectInit, Cond.fieldLink RX0 11 "ColumnSeasons$Command" "verb" "I", Cond.fieldLink RX0 15 "ColumnSeasons$Command" "row" "I", Cond.fieldLink RX0 18 "ColumnSeasons$Command" "name" "I", Cond.fieldLink RX0 21 "ColumnSeasons$Command" "kind" "I", Cond.fieldLink RX0 24 "ColumnSeasons$Command" "number" "I"]
def wsX4_init : List Cond := .code yX4_init cX4_init 1 none :: ((wsX4_init_r1 ++ (wsX4_init_r2 ++ wsX4_init_r3)) ++ wsX30 ++ wsX40 ++ wsX10 ++ wsX20 ++ wsX00)
def wsX4_isError : List Cond := .code yX4_isError cX4_isError 1 (some .boolean) :: ([])
def wsX4_recordIfDone : List Cond := .code yX4_recordIfDone cX4_recordIfDone 2 (some .int) :: ([.fieldLink RX4 19 "ColumnSeasons" "history" "LColumnSeasons$History;", .methodLink RX4 100 yX4_isError, .static yX4_isError, .initialized RX4, .code yX4_isError cX4_isError 1 (some .boolean), .methodLink RX4 111 yX1_record, .instanceMethod yX1_record, .selects RX1 yX1_record yX1_record, .initialized RX1, .code yX1_record cX1_record 1 none, .fieldLink RX1 21 "ColumnSeasons$History" "length" "I", .fieldLink RX1 17 "ColumnSeasons$History" "oldest" "I"] ++ wsX40 ++ wsX10)
def wsX4_add_r1 : List Cond := [Cond.fieldLink RX4 19 "ColumnSeasons" "history" "LColumnSeasons$History;", Cond.fieldLink RX4 10 "ColumnSeasons" "table" "LColumnSeasons$Table;", Cond.methodLink RX4 44 yX1_prepare, Cond.instanceMethod yX1_prepare, Cond.selects RX1 yX1_prepare yX1_prepare, Cond.initialized RX1, Cond.code yX1_prepare cX1_prepare 2 none, Cond.methodLink RX1 25 yX1_prepared, Cond.instanceMethod yX1_prepared, Cond.selects RX1 yX1_prepared yX1_prepared, Cond.code yX1_prepared cX1_prepared 1 (some (.object "ColumnSeasons$Table")), Cond.fieldLink RX1 13 "ColumnSeasons$History" "slots" "[LColumnSeasons$Table;", Cond.fieldLink RX1 17 "ColumnSeasons$History" "oldest" "I", Cond.fieldLink RX1 21 "ColumnSeasons$History" "length" "I", Cond.methodLink RX1 29 yX3_copyFrom, Cond.instanceMethod yX3_copyFrom, Cond.selects RX3 yX3_copyFrom yX3_copyFrom, Cond.initialized RX3, Cond.code yX3_copyFrom cX3_copyFrom 2 none, Cond.fieldLink RX3 9 "ColumnSeasons$Table" "seasons" "I", Cond.fieldLink RX3 15 "ColumnSeasons$Table" "kinds" "[I", Cond.methodLink RX3 37 arraycopyName, Cond.native arraycopyName, Cond.static arraycopyName]
def wsX4_add_r2 : List Cond := [Cond.initialized "java/lang/System", Cond.fieldLink RX3 19 "ColumnSeasons$Table" "standards" "[I", Cond.fieldLink RX3 22 "ColumnSeasons$Table" "rows" "I", Cond.fieldLink RX3 25 "ColumnSeasons$Table" "rowSeasons" "[I", Cond.fieldLink RX3 28 "ColumnSeasons$Table" "values" "[I", Cond.methodLink RX4 48 yX3_addColumn, Cond.instanceMethod yX3_addColumn, Cond.selects RX3 yX3_addColumn yX3_addColumn, Cond.code yX3_addColumn cX3_addColumn 4 (some .int), Cond.static yX4_isName, Cond.initialized RX4, Cond.code yX4_isName cX4_isName 1 (some .boolean), Cond.static yX4_isKind, Cond.code yX4_isKind cX4_isKind 1 (some .boolean), Cond.static yX4_isOfKind, Cond.code yX4_isOfKind cX4_isOfKind 2 (some .boolean), Cond.methodLink RX4 230 yX4_leastOfKind, Cond.static yX4_leastOfKind, Cond.code yX4_leastOfKind cX4_leastOfKind 1 (some .int), Cond.methodLink RX4 233 yX4_greatestOfKind, Cond.static yX4_greatestOfKind, Cond.code yX4_greatestOfKind cX4_greatestOfKind 1 (some .int), Cond.methodLink RX3 54 yX3_now, Cond.instanceMethod yX3_now]
def wsX4_add_r3 : List Cond := [Cond.selects RX3 yX3_now yX3_now, Cond.code yX3_now cX3_now 1 (some .int), Cond.methodLink RX3 58 yX3_kindIn, Cond.instanceMethod yX3_kindIn, Cond.selects RX3 yX3_kindIn yX3_kindIn, Cond.code yX3_kindIn cX3_kindIn 3 (some .int), Cond.methodLink RX3 62 yX3_beginSeasonWith, Cond.instanceMethod yX3_beginSeasonWith, Cond.selects RX3 yX3_beginSeasonWith yX3_beginSeasonWith, Cond.code yX3_beginSeasonWith cX3_beginSeasonWith 6 (some .int), Cond.methodLink RX4 52 yX4_recordIfDone, Cond.instanceMethod yX4_recordIfDone, Cond.selects RX4 yX4_recordIfDone yX4_recordIfDone, Cond.code yX4_recordIfDone cX4_recordIfDone 2 (some .int), Cond.methodLink RX4 100 yX4_isError, Cond.static yX4_isError, Cond.code yX4_isError cX4_isError 1 (some .boolean), Cond.methodLink RX4 111 yX1_record, Cond.instanceMethod yX1_record, Cond.selects RX1 yX1_record yX1_record, Cond.code yX1_record cX1_record 1 none]
def wsX4_add : List Cond := .code yX4_add cX4_add 4 (some .int) :: ((wsX4_add_r1 ++ (wsX4_add_r2 ++ wsX4_add_r3)) ++ wsX40 ++ wsX10 ++ wsX30)
def wsX4_drop_r1 : List Cond := [Cond.fieldLink RX4 19 "ColumnSeasons" "history" "LColumnSeasons$History;", Cond.fieldLink RX4 10 "ColumnSeasons" "table" "LColumnSeasons$Table;", Cond.methodLink RX4 44 yX1_prepare, Cond.instanceMethod yX1_prepare, Cond.selects RX1 yX1_prepare yX1_prepare, Cond.initialized RX1, Cond.code yX1_prepare cX1_prepare 2 none, Cond.methodLink RX1 25 yX1_prepared, Cond.instanceMethod yX1_prepared, Cond.selects RX1 yX1_prepared yX1_prepared, Cond.code yX1_prepared cX1_prepared 1 (some (.object "ColumnSeasons$Table")), Cond.fieldLink RX1 13 "ColumnSeasons$History" "slots" "[LColumnSeasons$Table;", Cond.fieldLink RX1 17 "ColumnSeasons$History" "oldest" "I", Cond.fieldLink RX1 21 "ColumnSeasons$History" "length" "I", Cond.methodLink RX1 29 yX3_copyFrom, Cond.instanceMethod yX3_copyFrom, Cond.selects RX3 yX3_copyFrom yX3_copyFrom, Cond.initialized RX3, Cond.code yX3_copyFrom cX3_copyFrom 2 none, Cond.fieldLink RX3 9 "ColumnSeasons$Table" "seasons" "I", Cond.fieldLink RX3 15 "ColumnSeasons$Table" "kinds" "[I", Cond.methodLink RX3 37 arraycopyName, Cond.native arraycopyName, Cond.static arraycopyName]
def wsX4_drop_r2 : List Cond := [Cond.initialized "java/lang/System", Cond.fieldLink RX3 19 "ColumnSeasons$Table" "standards" "[I", Cond.fieldLink RX3 22 "ColumnSeasons$Table" "rows" "I", Cond.fieldLink RX3 25 "ColumnSeasons$Table" "rowSeasons" "[I", Cond.fieldLink RX3 28 "ColumnSeasons$Table" "values" "[I", Cond.methodLink RX4 56 yX3_dropColumn, Cond.instanceMethod yX3_dropColumn, Cond.selects RX3 yX3_dropColumn yX3_dropColumn, Cond.code yX3_dropColumn cX3_dropColumn 2 (some .int), Cond.static yX4_isName, Cond.initialized RX4, Cond.code yX4_isName cX4_isName 1 (some .boolean), Cond.methodLink RX3 54 yX3_now, Cond.instanceMethod yX3_now, Cond.selects RX3 yX3_now yX3_now, Cond.code yX3_now cX3_now 1 (some .int), Cond.methodLink RX3 58 yX3_kindIn, Cond.instanceMethod yX3_kindIn, Cond.selects RX3 yX3_kindIn yX3_kindIn, Cond.code yX3_kindIn cX3_kindIn 3 (some .int), Cond.methodLink RX3 62 yX3_beginSeasonWith, Cond.instanceMethod yX3_beginSeasonWith, Cond.selects RX3 yX3_beginSeasonWith yX3_beginSeasonWith, Cond.code yX3_beginSeasonWith cX3_beginSeasonWith 6 (some .int)]
def wsX4_drop_r3 : List Cond := [Cond.methodLink RX4 52 yX4_recordIfDone, Cond.instanceMethod yX4_recordIfDone, Cond.selects RX4 yX4_recordIfDone yX4_recordIfDone, Cond.code yX4_recordIfDone cX4_recordIfDone 2 (some .int), Cond.methodLink RX4 100 yX4_isError, Cond.static yX4_isError, Cond.code yX4_isError cX4_isError 1 (some .boolean), Cond.methodLink RX4 111 yX1_record, Cond.instanceMethod yX1_record, Cond.selects RX1 yX1_record yX1_record, Cond.code yX1_record cX1_record 1 none]
def wsX4_drop : List Cond := .code yX4_drop cX4_drop 2 (some .int) :: ((wsX4_drop_r1 ++ (wsX4_drop_r2 ++ wsX4_drop_r3)) ++ wsX40 ++ wsX10 ++ wsX30)
def wsX4_kind_r1 : List Cond := [Cond.fieldLink RX4 19 "ColumnSeasons" "history" "LColumnSeasons$History;", Cond.fieldLink RX4 10 "ColumnSeasons" "table" "LColumnSeasons$Table;", Cond.methodLink RX4 44 yX1_prepare, Cond.instanceMethod yX1_prepare, Cond.selects RX1 yX1_prepare yX1_prepare, Cond.initialized RX1, Cond.code yX1_prepare cX1_prepare 2 none, Cond.methodLink RX1 25 yX1_prepared, Cond.instanceMethod yX1_prepared, Cond.selects RX1 yX1_prepared yX1_prepared, Cond.code yX1_prepared cX1_prepared 1 (some (.object "ColumnSeasons$Table")), Cond.fieldLink RX1 13 "ColumnSeasons$History" "slots" "[LColumnSeasons$Table;", Cond.fieldLink RX1 17 "ColumnSeasons$History" "oldest" "I", Cond.fieldLink RX1 21 "ColumnSeasons$History" "length" "I", Cond.methodLink RX1 29 yX3_copyFrom, Cond.instanceMethod yX3_copyFrom, Cond.selects RX3 yX3_copyFrom yX3_copyFrom, Cond.initialized RX3, Cond.code yX3_copyFrom cX3_copyFrom 2 none, Cond.fieldLink RX3 9 "ColumnSeasons$Table" "seasons" "I", Cond.fieldLink RX3 15 "ColumnSeasons$Table" "kinds" "[I", Cond.methodLink RX3 37 arraycopyName, Cond.native arraycopyName, Cond.static arraycopyName]
def wsX4_kind_r2 : List Cond := [Cond.initialized "java/lang/System", Cond.fieldLink RX3 19 "ColumnSeasons$Table" "standards" "[I", Cond.fieldLink RX3 22 "ColumnSeasons$Table" "rows" "I", Cond.fieldLink RX3 25 "ColumnSeasons$Table" "rowSeasons" "[I", Cond.fieldLink RX3 28 "ColumnSeasons$Table" "values" "[I", Cond.methodLink RX4 59 yX3_changeKind, Cond.instanceMethod yX3_changeKind, Cond.selects RX3 yX3_changeKind yX3_changeKind, Cond.code yX3_changeKind cX3_changeKind 3 (some .int), Cond.static yX4_isName, Cond.initialized RX4, Cond.code yX4_isName cX4_isName 1 (some .boolean), Cond.methodLink RX3 54 yX3_now, Cond.instanceMethod yX3_now, Cond.selects RX3 yX3_now yX3_now, Cond.code yX3_now cX3_now 1 (some .int), Cond.methodLink RX3 58 yX3_kindIn, Cond.instanceMethod yX3_kindIn, Cond.selects RX3 yX3_kindIn yX3_kindIn, Cond.code yX3_kindIn cX3_kindIn 3 (some .int), Cond.static yX4_isKind, Cond.code yX4_isKind cX4_isKind 1 (some .boolean), Cond.methodLink RX3 66 yX3_standardIn, Cond.instanceMethod yX3_standardIn]
def wsX4_kind_r3 : List Cond := [Cond.selects RX3 yX3_standardIn yX3_standardIn, Cond.code yX3_standardIn cX3_standardIn 3 (some .int), Cond.static yX4_castTo, Cond.code yX4_castTo cX4_castTo 2 (some .int), Cond.methodLink RX4 236 Lib.Math.min.name, Cond.static Lib.Math.min.name, Cond.initialized "java/lang/Math", Cond.code Lib.Math.min.name Lib.Math.min.code 2 (some .int), Cond.methodLink RX4 168 Lib.Math.max.name, Cond.static Lib.Math.max.name, Cond.code Lib.Math.max.name Lib.Math.max.code 2 (some .int), Cond.methodLink RX4 230 yX4_leastOfKind, Cond.static yX4_leastOfKind, Cond.code yX4_leastOfKind cX4_leastOfKind 1 (some .int), Cond.methodLink RX4 233 yX4_greatestOfKind, Cond.static yX4_greatestOfKind, Cond.code yX4_greatestOfKind cX4_greatestOfKind 1 (some .int), Cond.methodLink RX3 62 yX3_beginSeasonWith, Cond.instanceMethod yX3_beginSeasonWith, Cond.selects RX3 yX3_beginSeasonWith yX3_beginSeasonWith, Cond.code yX3_beginSeasonWith cX3_beginSeasonWith 6 (some .int), Cond.methodLink RX4 52 yX4_recordIfDone, Cond.instanceMethod yX4_recordIfDone, Cond.selects RX4 yX4_recordIfDone yX4_recordIfDone]
def wsX4_kind_r4 : List Cond := [Cond.code yX4_recordIfDone cX4_recordIfDone 2 (some .int), Cond.methodLink RX4 100 yX4_isError, Cond.static yX4_isError, Cond.code yX4_isError cX4_isError 1 (some .boolean), Cond.methodLink RX4 111 yX1_record, Cond.instanceMethod yX1_record, Cond.selects RX1 yX1_record yX1_record, Cond.code yX1_record cX1_record 1 none]
def wsX4_kind : List Cond := .code yX4_kind cX4_kind 3 (some .int) :: ((wsX4_kind_r1 ++ (wsX4_kind_r2 ++ (wsX4_kind_r3 ++ wsX4_kind_r4))) ++ wsX40 ++ wsX10 ++ wsX30)
def wsX4_row_r1 : List Cond := [Cond.fieldLink RX4 19 "ColumnSeasons" "history" "LColumnSeasons$History;", Cond.fieldLink RX4 10 "ColumnSeasons" "table" "LColumnSeasons$Table;", Cond.methodLink RX4 44 yX1_prepare, Cond.instanceMethod yX1_prepare, Cond.selects RX1 yX1_prepare yX1_prepare, Cond.initialized RX1, Cond.code yX1_prepare cX1_prepare 2 none, Cond.methodLink RX1 25 yX1_prepared, Cond.instanceMethod yX1_prepared, Cond.selects RX1 yX1_prepared yX1_prepared, Cond.code yX1_prepared cX1_prepared 1 (some (.object "ColumnSeasons$Table")), Cond.fieldLink RX1 13 "ColumnSeasons$History" "slots" "[LColumnSeasons$Table;", Cond.fieldLink RX1 17 "ColumnSeasons$History" "oldest" "I", Cond.fieldLink RX1 21 "ColumnSeasons$History" "length" "I", Cond.methodLink RX1 29 yX3_copyFrom, Cond.instanceMethod yX3_copyFrom, Cond.selects RX3 yX3_copyFrom yX3_copyFrom, Cond.initialized RX3, Cond.code yX3_copyFrom cX3_copyFrom 2 none, Cond.fieldLink RX3 9 "ColumnSeasons$Table" "seasons" "I", Cond.fieldLink RX3 15 "ColumnSeasons$Table" "kinds" "[I", Cond.methodLink RX3 37 arraycopyName, Cond.native arraycopyName, Cond.static arraycopyName]
def wsX4_row_r2 : List Cond := [Cond.initialized "java/lang/System", Cond.fieldLink RX3 19 "ColumnSeasons$Table" "standards" "[I", Cond.fieldLink RX3 22 "ColumnSeasons$Table" "rows" "I", Cond.fieldLink RX3 25 "ColumnSeasons$Table" "rowSeasons" "[I", Cond.fieldLink RX3 28 "ColumnSeasons$Table" "values" "[I", Cond.methodLink RX4 63 yX3_writeRow, Cond.instanceMethod yX3_writeRow, Cond.selects RX3 yX3_writeRow yX3_writeRow, Cond.code yX3_writeRow cX3_writeRow 1 (some .int), Cond.methodLink RX3 54 yX3_now, Cond.instanceMethod yX3_now, Cond.selects RX3 yX3_now yX3_now, Cond.code yX3_now cX3_now 1 (some .int), Cond.methodLink RX4 52 yX4_recordIfDone, Cond.instanceMethod yX4_recordIfDone, Cond.selects RX4 yX4_recordIfDone yX4_recordIfDone, Cond.initialized RX4, Cond.code yX4_recordIfDone cX4_recordIfDone 2 (some .int), Cond.methodLink RX4 100 yX4_isError, Cond.static yX4_isError, Cond.code yX4_isError cX4_isError 1 (some .boolean), Cond.methodLink RX4 111 yX1_record, Cond.instanceMethod yX1_record, Cond.selects RX1 yX1_record yX1_record]
def wsX4_row_r3 : List Cond := [Cond.code yX1_record cX1_record 1 none]
def wsX4_row : List Cond := .code yX4_row cX4_row 1 (some .int) :: ((wsX4_row_r1 ++ (wsX4_row_r2 ++ wsX4_row_r3)) ++ wsX40 ++ wsX10 ++ wsX30)
def wsX4_set_r1 : List Cond := [Cond.fieldLink RX4 19 "ColumnSeasons" "history" "LColumnSeasons$History;", Cond.fieldLink RX4 10 "ColumnSeasons" "table" "LColumnSeasons$Table;", Cond.methodLink RX4 44 yX1_prepare, Cond.instanceMethod yX1_prepare, Cond.selects RX1 yX1_prepare yX1_prepare, Cond.initialized RX1, Cond.code yX1_prepare cX1_prepare 2 none, Cond.methodLink RX1 25 yX1_prepared, Cond.instanceMethod yX1_prepared, Cond.selects RX1 yX1_prepared yX1_prepared, Cond.code yX1_prepared cX1_prepared 1 (some (.object "ColumnSeasons$Table")), Cond.fieldLink RX1 13 "ColumnSeasons$History" "slots" "[LColumnSeasons$Table;", Cond.fieldLink RX1 17 "ColumnSeasons$History" "oldest" "I", Cond.fieldLink RX1 21 "ColumnSeasons$History" "length" "I", Cond.methodLink RX1 29 yX3_copyFrom, Cond.instanceMethod yX3_copyFrom, Cond.selects RX3 yX3_copyFrom yX3_copyFrom, Cond.initialized RX3, Cond.code yX3_copyFrom cX3_copyFrom 2 none, Cond.fieldLink RX3 9 "ColumnSeasons$Table" "seasons" "I", Cond.fieldLink RX3 15 "ColumnSeasons$Table" "kinds" "[I", Cond.methodLink RX3 37 arraycopyName, Cond.native arraycopyName, Cond.static arraycopyName]
def wsX4_set_r2 : List Cond := [Cond.initialized "java/lang/System", Cond.fieldLink RX3 19 "ColumnSeasons$Table" "standards" "[I", Cond.fieldLink RX3 22 "ColumnSeasons$Table" "rows" "I", Cond.fieldLink RX3 25 "ColumnSeasons$Table" "rowSeasons" "[I", Cond.fieldLink RX3 28 "ColumnSeasons$Table" "values" "[I", Cond.methodLink RX4 67 yX3_changeValue, Cond.instanceMethod yX3_changeValue, Cond.selects RX3 yX3_changeValue yX3_changeValue, Cond.code yX3_changeValue cX3_changeValue 5 (some .int), Cond.methodLink RX3 72 yX3_isRow, Cond.instanceMethod yX3_isRow, Cond.selects RX3 yX3_isRow yX3_isRow, Cond.code yX3_isRow cX3_isRow 2 (some .boolean), Cond.static yX4_isName, Cond.initialized RX4, Cond.code yX4_isName cX4_isName 1 (some .boolean), Cond.methodLink RX3 75 yX3_kindInRow, Cond.instanceMethod yX3_kindInRow, Cond.selects RX3 yX3_kindInRow yX3_kindInRow, Cond.code yX3_kindInRow cX3_kindInRow 3 (some .int), Cond.methodLink RX3 58 yX3_kindIn, Cond.instanceMethod yX3_kindIn, Cond.selects RX3 yX3_kindIn yX3_kindIn, Cond.code yX3_kindIn cX3_kindIn 3 (some .int)]
def wsX4_set_r3 : List Cond := [Cond.static yX4_isOfKind, Cond.code yX4_isOfKind cX4_isOfKind 2 (some .boolean), Cond.methodLink RX4 230 yX4_leastOfKind, Cond.static yX4_leastOfKind, Cond.code yX4_leastOfKind cX4_leastOfKind 1 (some .int), Cond.methodLink RX4 233 yX4_greatestOfKind, Cond.static yX4_greatestOfKind, Cond.code yX4_greatestOfKind cX4_greatestOfKind 1 (some .int), Cond.methodLink RX3 78 yX3_valueAt, Cond.instanceMethod yX3_valueAt, Cond.selects RX3 yX3_valueAt yX3_valueAt, Cond.code yX3_valueAt cX3_valueAt 3 (some .int), Cond.methodLink RX4 52 yX4_recordIfDone, Cond.instanceMethod yX4_recordIfDone, Cond.selects RX4 yX4_recordIfDone yX4_recordIfDone, Cond.code yX4_recordIfDone cX4_recordIfDone 2 (some .int), Cond.methodLink RX4 100 yX4_isError, Cond.static yX4_isError, Cond.code yX4_isError cX4_isError 1 (some .boolean), Cond.methodLink RX4 111 yX1_record, Cond.instanceMethod yX1_record, Cond.selects RX1 yX1_record yX1_record, Cond.code yX1_record cX1_record 1 none]
def wsX4_set : List Cond := .code yX4_set cX4_set 4 (some .int) :: ((wsX4_set_r1 ++ (wsX4_set_r2 ++ wsX4_set_r3)) ++ wsX40 ++ wsX10 ++ wsX30)
def wsX4_remove_r1 : List Cond := [Cond.fieldLink RX4 19 "ColumnSeasons" "history" "LColumnSeasons$History;", Cond.fieldLink RX4 10 "ColumnSeasons" "table" "LColumnSeasons$Table;", Cond.methodLink RX4 44 yX1_prepare, Cond.instanceMethod yX1_prepare, Cond.selects RX1 yX1_prepare yX1_prepare, Cond.initialized RX1, Cond.code yX1_prepare cX1_prepare 2 none, Cond.methodLink RX1 25 yX1_prepared, Cond.instanceMethod yX1_prepared, Cond.selects RX1 yX1_prepared yX1_prepared, Cond.code yX1_prepared cX1_prepared 1 (some (.object "ColumnSeasons$Table")), Cond.fieldLink RX1 13 "ColumnSeasons$History" "slots" "[LColumnSeasons$Table;", Cond.fieldLink RX1 17 "ColumnSeasons$History" "oldest" "I", Cond.fieldLink RX1 21 "ColumnSeasons$History" "length" "I", Cond.methodLink RX1 29 yX3_copyFrom, Cond.instanceMethod yX3_copyFrom, Cond.selects RX3 yX3_copyFrom yX3_copyFrom, Cond.initialized RX3, Cond.code yX3_copyFrom cX3_copyFrom 2 none, Cond.fieldLink RX3 9 "ColumnSeasons$Table" "seasons" "I", Cond.fieldLink RX3 15 "ColumnSeasons$Table" "kinds" "[I", Cond.methodLink RX3 37 arraycopyName, Cond.native arraycopyName, Cond.static arraycopyName]
def wsX4_remove_r2 : List Cond := [Cond.initialized "java/lang/System", Cond.fieldLink RX3 19 "ColumnSeasons$Table" "standards" "[I", Cond.fieldLink RX3 22 "ColumnSeasons$Table" "rows" "I", Cond.fieldLink RX3 25 "ColumnSeasons$Table" "rowSeasons" "[I", Cond.fieldLink RX3 28 "ColumnSeasons$Table" "values" "[I", Cond.methodLink RX4 70 yX3_removeRow, Cond.instanceMethod yX3_removeRow, Cond.selects RX3 yX3_removeRow yX3_removeRow, Cond.code yX3_removeRow cX3_removeRow 3 (some .int), Cond.methodLink RX3 72 yX3_isRow, Cond.instanceMethod yX3_isRow, Cond.selects RX3 yX3_isRow yX3_isRow, Cond.code yX3_isRow cX3_isRow 2 (some .boolean), Cond.methodLink RX4 52 yX4_recordIfDone, Cond.instanceMethod yX4_recordIfDone, Cond.selects RX4 yX4_recordIfDone yX4_recordIfDone, Cond.initialized RX4, Cond.code yX4_recordIfDone cX4_recordIfDone 2 (some .int), Cond.methodLink RX4 100 yX4_isError, Cond.static yX4_isError, Cond.code yX4_isError cX4_isError 1 (some .boolean), Cond.methodLink RX4 111 yX1_record, Cond.instanceMethod yX1_record, Cond.selects RX1 yX1_record yX1_record]
def wsX4_remove_r3 : List Cond := [Cond.code yX1_record cX1_record 1 none]
def wsX4_remove : List Cond := .code yX4_remove cX4_remove 2 (some .int) :: ((wsX4_remove_r1 ++ (wsX4_remove_r2 ++ wsX4_remove_r3)) ++ wsX40 ++ wsX10 ++ wsX30)
def wsX4_makeOver_r1 : List Cond := [Cond.fieldLink RX4 19 "ColumnSeasons" "history" "LColumnSeasons$History;", Cond.fieldLink RX4 10 "ColumnSeasons" "table" "LColumnSeasons$Table;", Cond.methodLink RX4 44 yX1_prepare, Cond.instanceMethod yX1_prepare, Cond.selects RX1 yX1_prepare yX1_prepare, Cond.initialized RX1, Cond.code yX1_prepare cX1_prepare 2 none, Cond.methodLink RX1 25 yX1_prepared, Cond.instanceMethod yX1_prepared, Cond.selects RX1 yX1_prepared yX1_prepared, Cond.code yX1_prepared cX1_prepared 1 (some (.object "ColumnSeasons$Table")), Cond.fieldLink RX1 13 "ColumnSeasons$History" "slots" "[LColumnSeasons$Table;", Cond.fieldLink RX1 17 "ColumnSeasons$History" "oldest" "I", Cond.fieldLink RX1 21 "ColumnSeasons$History" "length" "I", Cond.methodLink RX1 29 yX3_copyFrom, Cond.instanceMethod yX3_copyFrom, Cond.selects RX3 yX3_copyFrom yX3_copyFrom, Cond.initialized RX3, Cond.code yX3_copyFrom cX3_copyFrom 2 none, Cond.fieldLink RX3 9 "ColumnSeasons$Table" "seasons" "I", Cond.fieldLink RX3 15 "ColumnSeasons$Table" "kinds" "[I", Cond.methodLink RX3 37 arraycopyName, Cond.native arraycopyName, Cond.static arraycopyName]
def wsX4_makeOver_r2 : List Cond := [Cond.initialized "java/lang/System", Cond.fieldLink RX3 19 "ColumnSeasons$Table" "standards" "[I", Cond.fieldLink RX3 22 "ColumnSeasons$Table" "rows" "I", Cond.fieldLink RX3 25 "ColumnSeasons$Table" "rowSeasons" "[I", Cond.fieldLink RX3 28 "ColumnSeasons$Table" "values" "[I", Cond.methodLink RX4 73 yX3_makeRowsOver, Cond.instanceMethod yX3_makeRowsOver, Cond.selects RX3 yX3_makeRowsOver yX3_makeRowsOver, Cond.code yX3_makeRowsOver cX3_makeRowsOver 6 (some .int), Cond.methodLink RX3 72 yX3_isRow, Cond.instanceMethod yX3_isRow, Cond.selects RX3 yX3_isRow yX3_isRow, Cond.code yX3_isRow cX3_isRow 2 (some .boolean), Cond.methodLink RX3 54 yX3_now, Cond.instanceMethod yX3_now, Cond.selects RX3 yX3_now yX3_now, Cond.code yX3_now cX3_now 1 (some .int), Cond.methodLink RX3 81 yX3_lossesOfRowIn, Cond.instanceMethod yX3_lossesOfRowIn, Cond.selects RX3 yX3_lossesOfRowIn yX3_lossesOfRowIn, Cond.code yX3_lossesOfRowIn cX3_lossesOfRowIn 7 (some .int), Cond.methodLink RX3 75 yX3_kindInRow, Cond.instanceMethod yX3_kindInRow, Cond.selects RX3 yX3_kindInRow yX3_kindInRow]
def wsX4_makeOver_r3 : List Cond := [Cond.code yX3_kindInRow cX3_kindInRow 3 (some .int), Cond.methodLink RX3 58 yX3_kindIn, Cond.instanceMethod yX3_kindIn, Cond.selects RX3 yX3_kindIn yX3_kindIn, Cond.code yX3_kindIn cX3_kindIn 3 (some .int), Cond.methodLink RX3 78 yX3_valueAt, Cond.instanceMethod yX3_valueAt, Cond.selects RX3 yX3_valueAt yX3_valueAt, Cond.code yX3_valueAt cX3_valueAt 3 (some .int), Cond.static yX4_castLoses, Cond.initialized RX4, Cond.code yX4_castLoses cX4_castLoses 3 (some .boolean), Cond.methodLink RX4 239 yX4_castTo, Cond.static yX4_castTo, Cond.code yX4_castTo cX4_castTo 2 (some .int), Cond.methodLink RX4 236 Lib.Math.min.name, Cond.static Lib.Math.min.name, Cond.initialized "java/lang/Math", Cond.code Lib.Math.min.name Lib.Math.min.code 2 (some .int), Cond.methodLink RX4 168 Lib.Math.max.name, Cond.static Lib.Math.max.name, Cond.code Lib.Math.max.name Lib.Math.max.code 2 (some .int), Cond.methodLink RX4 230 yX4_leastOfKind, Cond.static yX4_leastOfKind]
def wsX4_makeOver_r4 : List Cond := [Cond.code yX4_leastOfKind cX4_leastOfKind 1 (some .int), Cond.methodLink RX4 233 yX4_greatestOfKind, Cond.static yX4_greatestOfKind, Cond.code yX4_greatestOfKind cX4_greatestOfKind 1 (some .int), Cond.methodLink RX3 84 yX3_dressRowInNow, Cond.instanceMethod yX3_dressRowInNow, Cond.selects RX3 yX3_dressRowInNow yX3_dressRowInNow, Cond.code yX3_dressRowInNow cX3_dressRowInNow 3 none, Cond.methodLink RX3 88 yX3_readIn, Cond.instanceMethod yX3_readIn, Cond.selects RX3 yX3_readIn yX3_readIn, Cond.code yX3_readIn cX3_readIn 4 (some .int), Cond.methodLink RX3 66 yX3_standardIn, Cond.instanceMethod yX3_standardIn, Cond.selects RX3 yX3_standardIn yX3_standardIn, Cond.code yX3_standardIn cX3_standardIn 3 (some .int), Cond.methodLink RX4 52 yX4_recordIfDone, Cond.instanceMethod yX4_recordIfDone, Cond.selects RX4 yX4_recordIfDone yX4_recordIfDone, Cond.code yX4_recordIfDone cX4_recordIfDone 2 (some .int), Cond.methodLink RX4 100 yX4_isError, Cond.static yX4_isError, Cond.code yX4_isError cX4_isError 1 (some .boolean), Cond.methodLink RX4 111 yX1_record]
def wsX4_makeOver_r5 : List Cond := [Cond.instanceMethod yX1_record, Cond.selects RX1 yX1_record yX1_record, Cond.code yX1_record cX1_record 1 none]
def wsX4_makeOver : List Cond := .code yX4_makeOver cX4_makeOver 3 (some .int) :: ((wsX4_makeOver_r1 ++ (wsX4_makeOver_r2 ++ (wsX4_makeOver_r3 ++ (wsX4_makeOver_r4 ++ wsX4_makeOver_r5)))) ++ wsX40 ++ wsX10 ++ wsX30)
def wsX4_forget_r1 : List Cond := [Cond.fieldLink RX4 19 "ColumnSeasons" "history" "LColumnSeasons$History;", Cond.fieldLink RX4 10 "ColumnSeasons" "table" "LColumnSeasons$Table;", Cond.methodLink RX4 44 yX1_prepare, Cond.instanceMethod yX1_prepare, Cond.selects RX1 yX1_prepare yX1_prepare, Cond.initialized RX1, Cond.code yX1_prepare cX1_prepare 2 none, Cond.methodLink RX1 25 yX1_prepared, Cond.instanceMethod yX1_prepared, Cond.selects RX1 yX1_prepared yX1_prepared, Cond.code yX1_prepared cX1_prepared 1 (some (.object "ColumnSeasons$Table")), Cond.fieldLink RX1 13 "ColumnSeasons$History" "slots" "[LColumnSeasons$Table;", Cond.fieldLink RX1 17 "ColumnSeasons$History" "oldest" "I", Cond.fieldLink RX1 21 "ColumnSeasons$History" "length" "I", Cond.methodLink RX1 29 yX3_copyFrom, Cond.instanceMethod yX3_copyFrom, Cond.selects RX3 yX3_copyFrom yX3_copyFrom, Cond.initialized RX3, Cond.code yX3_copyFrom cX3_copyFrom 2 none, Cond.fieldLink RX3 9 "ColumnSeasons$Table" "seasons" "I", Cond.fieldLink RX3 15 "ColumnSeasons$Table" "kinds" "[I", Cond.methodLink RX3 37 arraycopyName, Cond.native arraycopyName, Cond.static arraycopyName]
def wsX4_forget_r2 : List Cond := [Cond.initialized "java/lang/System", Cond.fieldLink RX3 19 "ColumnSeasons$Table" "standards" "[I", Cond.fieldLink RX3 22 "ColumnSeasons$Table" "rows" "I", Cond.fieldLink RX3 25 "ColumnSeasons$Table" "rowSeasons" "[I", Cond.fieldLink RX3 28 "ColumnSeasons$Table" "values" "[I", Cond.methodLink RX4 76 yX3_forgetSeasons, Cond.instanceMethod yX3_forgetSeasons, Cond.selects RX3 yX3_forgetSeasons yX3_forgetSeasons, Cond.code yX3_forgetSeasons cX3_forgetSeasons 3 (some .int), Cond.methodLink RX3 91 Lib.Math.min.name, Cond.static Lib.Math.min.name, Cond.initialized "java/lang/Math", Cond.code Lib.Math.min.name Lib.Math.min.code 2 (some .int), Cond.methodLink RX3 54 yX3_now, Cond.instanceMethod yX3_now, Cond.selects RX3 yX3_now yX3_now, Cond.code yX3_now cX3_now 1 (some .int), Cond.methodLink RX4 52 yX4_recordIfDone, Cond.instanceMethod yX4_recordIfDone, Cond.selects RX4 yX4_recordIfDone yX4_recordIfDone, Cond.initialized RX4, Cond.code yX4_recordIfDone cX4_recordIfDone 2 (some .int), Cond.methodLink RX4 100 yX4_isError, Cond.static yX4_isError]
def wsX4_forget_r3 : List Cond := [Cond.code yX4_isError cX4_isError 1 (some .boolean), Cond.methodLink RX4 111 yX1_record, Cond.instanceMethod yX1_record, Cond.selects RX1 yX1_record yX1_record, Cond.code yX1_record cX1_record 1 none]
def wsX4_forget : List Cond := .code yX4_forget cX4_forget 1 (some .int) :: ((wsX4_forget_r1 ++ (wsX4_forget_r2 ++ wsX4_forget_r3)) ++ wsX40 ++ wsX10 ++ wsX30)
def wsX4_column : List Cond := .code yX4_column cX4_column 5 (some .int) :: ([.fieldLink RX4 10 "ColumnSeasons" "table" "LColumnSeasons$Table;", .methodLink RX4 121 yX3_isSeason, .instanceMethod yX3_isSeason, .selects RX3 yX3_isSeason yX3_isSeason, .initialized RX3, .code yX3_isSeason cX3_isSeason 2 (some .boolean), .fieldLink RX3 9 "ColumnSeasons$Table" "seasons" "I", .methodLink RX4 124 yX4_isName, .static yX4_isName, .initialized RX4, .code yX4_isName cX4_isName 1 (some .boolean), .methodLink RX4 127 yX3_kindIn, .instanceMethod yX3_kindIn, .selects RX3 yX3_kindIn yX3_kindIn, .code yX3_kindIn cX3_kindIn 3 (some .int), .fieldLink RX3 15 "ColumnSeasons$Table" "kinds" "[I", .methodLink RX4 130 yX3_standardIn, .instanceMethod yX3_standardIn, .selects RX3 yX3_standardIn yX3_standardIn, .code yX3_standardIn cX3_standardIn 3 (some .int), .fieldLink RX3 19 "ColumnSeasons$Table" "standards" "[I"] ++ wsX40 ++ wsX30)
def wsX4_season_r1 : List Cond := [Cond.fieldLink RX4 10 "ColumnSeasons" "table" "LColumnSeasons$Table;", Cond.methodLink RX4 121 yX3_isSeason, Cond.instanceMethod yX3_isSeason, Cond.selects RX3 yX3_isSeason yX3_isSeason, Cond.initialized RX3, Cond.code yX3_isSeason cX3_isSeason 2 (some .boolean), Cond.fieldLink RX3 9 "ColumnSeasons$Table" "seasons" "I", Cond.methodLink RX4 133 yX3_namesIn, Cond.instanceMethod yX3_namesIn, Cond.selects RX3 yX3_namesIn yX3_namesIn, Cond.code yX3_namesIn cX3_namesIn 4 (some .int), Cond.methodLink RX3 58 yX3_kindIn, Cond.instanceMethod yX3_kindIn, Cond.selects RX3 yX3_kindIn yX3_kindIn, Cond.code yX3_kindIn cX3_kindIn 3 (some .int), Cond.fieldLink RX3 15 "ColumnSeasons$Table" "kinds" "[I", Cond.methodLink RX4 136 yJ6_bitCount_0f7a4, Cond.static yJ6_bitCount_0f7a4, Cond.initialized RJ6, Cond.code yJ6_bitCount_0f7a4 cJ6_bitCount_0f7a4 1 (some .int), Cond.constant RJ6 265 (1431655765), Cond.constant RJ6 266 (858993459), Cond.constant RJ6 267 (252645135), Cond.methodLink RX4 141 yX3_rowsOfSeason]
def wsX4_season_r2 : List Cond := [Cond.instanceMethod yX3_rowsOfSeason, Cond.selects RX3 yX3_rowsOfSeason yX3_rowsOfSeason, Cond.code yX3_rowsOfSeason cX3_rowsOfSeason 4 (some .int), Cond.fieldLink RX3 22 "ColumnSeasons$Table" "rows" "I", Cond.fieldLink RX3 25 "ColumnSeasons$Table" "rowSeasons" "[I", Cond.methodLink RX4 144 yX3_newColumnsIn, Cond.instanceMethod yX3_newColumnsIn, Cond.selects RX3 yX3_newColumnsIn yX3_newColumnsIn, Cond.code yX3_newColumnsIn cX3_newColumnsIn 5 (some .int)]
def wsX4_season : List Cond := .code yX4_season cX4_season 3 (some .int) :: ((wsX4_season_r1 ++ wsX4_season_r2) ++ wsX40 ++ wsX30)
def wsX4_value_r1 : List Cond := [Cond.fieldLink RX4 10 "ColumnSeasons" "table" "LColumnSeasons$Table;", Cond.methodLink RX4 147 yX3_isRow, Cond.instanceMethod yX3_isRow, Cond.selects RX3 yX3_isRow yX3_isRow, Cond.initialized RX3, Cond.code yX3_isRow cX3_isRow 2 (some .boolean), Cond.fieldLink RX3 22 "ColumnSeasons$Table" "rows" "I", Cond.methodLink RX4 124 yX4_isName, Cond.static yX4_isName, Cond.initialized RX4, Cond.code yX4_isName cX4_isName 1 (some .boolean), Cond.methodLink RX4 150 yX3_kindInRow, Cond.instanceMethod yX3_kindInRow, Cond.selects RX3 yX3_kindInRow yX3_kindInRow, Cond.code yX3_kindInRow cX3_kindInRow 3 (some .int), Cond.fieldLink RX3 25 "ColumnSeasons$Table" "rowSeasons" "[I", Cond.methodLink RX3 58 yX3_kindIn, Cond.instanceMethod yX3_kindIn, Cond.selects RX3 yX3_kindIn yX3_kindIn, Cond.code yX3_kindIn cX3_kindIn 3 (some .int), Cond.fieldLink RX3 15 "ColumnSeasons$Table" "kinds" "[I", Cond.methodLink RX4 153 yX3_valueAt, Cond.instanceMethod yX3_valueAt, Cond.selects RX3 yX3_valueAt yX3_valueAt]
def wsX4_value_r2 : List Cond := [Cond.code yX3_valueAt cX3_valueAt 3 (some .int), Cond.fieldLink RX3 28 "ColumnSeasons$Table" "values" "[I"]
def wsX4_value : List Cond := .code yX4_value cX4_value 3 (some .int) :: ((wsX4_value_r1 ++ wsX4_value_r2) ++ wsX40 ++ wsX30)
def wsX4_read_r1 : List Cond := [Cond.fieldLink RX4 10 "ColumnSeasons" "table" "LColumnSeasons$Table;", Cond.methodLink RX4 147 yX3_isRow, Cond.instanceMethod yX3_isRow, Cond.selects RX3 yX3_isRow yX3_isRow, Cond.initialized RX3, Cond.code yX3_isRow cX3_isRow 2 (some .boolean), Cond.fieldLink RX3 22 "ColumnSeasons$Table" "rows" "I", Cond.methodLink RX4 121 yX3_isSeason, Cond.instanceMethod yX3_isSeason, Cond.selects RX3 yX3_isSeason yX3_isSeason, Cond.code yX3_isSeason cX3_isSeason 2 (some .boolean), Cond.fieldLink RX3 9 "ColumnSeasons$Table" "seasons" "I", Cond.methodLink RX4 124 yX4_isName, Cond.static yX4_isName, Cond.initialized RX4, Cond.code yX4_isName cX4_isName 1 (some .boolean), Cond.methodLink RX4 127 yX3_kindIn, Cond.instanceMethod yX3_kindIn, Cond.selects RX3 yX3_kindIn yX3_kindIn, Cond.code yX3_kindIn cX3_kindIn 3 (some .int), Cond.fieldLink RX3 15 "ColumnSeasons$Table" "kinds" "[I", Cond.methodLink RX4 156 yX3_readIn, Cond.instanceMethod yX3_readIn, Cond.selects RX3 yX3_readIn yX3_readIn]
def wsX4_read_r2 : List Cond := [Cond.code yX3_readIn cX3_readIn 4 (some .int), Cond.methodLink RX3 75 yX3_kindInRow, Cond.instanceMethod yX3_kindInRow, Cond.selects RX3 yX3_kindInRow yX3_kindInRow, Cond.code yX3_kindInRow cX3_kindInRow 3 (some .int), Cond.fieldLink RX3 25 "ColumnSeasons$Table" "rowSeasons" "[I", Cond.methodLink RX3 58 yX3_kindIn, Cond.methodLink RX3 66 yX3_standardIn, Cond.instanceMethod yX3_standardIn, Cond.selects RX3 yX3_standardIn yX3_standardIn, Cond.code yX3_standardIn cX3_standardIn 3 (some .int), Cond.fieldLink RX3 19 "ColumnSeasons$Table" "standards" "[I", Cond.methodLink RX3 78 yX3_valueAt, Cond.instanceMethod yX3_valueAt, Cond.selects RX3 yX3_valueAt yX3_valueAt, Cond.code yX3_valueAt cX3_valueAt 3 (some .int), Cond.fieldLink RX3 28 "ColumnSeasons$Table" "values" "[I", Cond.static yX4_castTo, Cond.code yX4_castTo cX4_castTo 2 (some .int), Cond.methodLink RX4 236 Lib.Math.min.name, Cond.static Lib.Math.min.name, Cond.initialized "java/lang/Math", Cond.code Lib.Math.min.name Lib.Math.min.code 2 (some .int), Cond.methodLink RX4 168 Lib.Math.max.name]
def wsX4_read_r3 : List Cond := [Cond.static Lib.Math.max.name, Cond.code Lib.Math.max.name Lib.Math.max.code 2 (some .int), Cond.methodLink RX4 230 yX4_leastOfKind, Cond.static yX4_leastOfKind, Cond.code yX4_leastOfKind cX4_leastOfKind 1 (some .int), Cond.methodLink RX4 233 yX4_greatestOfKind, Cond.static yX4_greatestOfKind, Cond.code yX4_greatestOfKind cX4_greatestOfKind 1 (some .int), Cond.methodLink RX4 159 yX3_howReadIn, Cond.instanceMethod yX3_howReadIn, Cond.selects RX3 yX3_howReadIn yX3_howReadIn, Cond.code yX3_howReadIn cX3_howReadIn 6 (some .int), Cond.static yX4_castLoses, Cond.code yX4_castLoses cX4_castLoses 3 (some .boolean), Cond.methodLink RX4 239 yX4_castTo]
def wsX4_read : List Cond := .code yX4_read cX4_read 5 (some .int) :: ((wsX4_read_r1 ++ (wsX4_read_r2 ++ wsX4_read_r3)) ++ wsX40 ++ wsX30)
def wsX4_seasonOf : List Cond := .code yX4_seasonOf cX4_seasonOf 2 (some .int) :: ([.fieldLink RX4 10 "ColumnSeasons" "table" "LColumnSeasons$Table;", .methodLink RX4 147 yX3_isRow, .instanceMethod yX3_isRow, .selects RX3 yX3_isRow yX3_isRow, .initialized RX3, .code yX3_isRow cX3_isRow 2 (some .boolean), .fieldLink RX3 22 "ColumnSeasons$Table" "rows" "I", .methodLink RX4 162 yX3_seasonOfRow, .instanceMethod yX3_seasonOfRow, .selects RX3 yX3_seasonOfRow yX3_seasonOfRow, .code yX3_seasonOfRow cX3_seasonOfRow 2 (some .int), .fieldLink RX3 25 "ColumnSeasons$Table" "rowSeasons" "[I"] ++ wsX40 ++ wsX30)
def wsX4_view_r1 : List Cond := [Cond.fieldLink RX4 10 "ColumnSeasons" "table" "LColumnSeasons$Table;", Cond.methodLink RX4 168 Lib.Math.max.name, Cond.static Lib.Math.max.name, Cond.initialized "java/lang/Math", Cond.code Lib.Math.max.name Lib.Math.max.code 2 (some .int), Cond.methodLink RX4 147 yX3_isRow, Cond.instanceMethod yX3_isRow, Cond.selects RX3 yX3_isRow yX3_isRow, Cond.initialized RX3, Cond.code yX3_isRow cX3_isRow 2 (some .boolean), Cond.fieldLink RX3 22 "ColumnSeasons$Table" "rows" "I", Cond.methodLink RX4 165 yX3_sharedNames, Cond.instanceMethod yX3_sharedNames, Cond.selects RX3 yX3_sharedNames yX3_sharedNames, Cond.code yX3_sharedNames cX3_sharedNames 5 (some .int), Cond.fieldLink RX3 25 "ColumnSeasons$Table" "rowSeasons" "[I", Cond.methodLink RX3 96 yX3_namesIn, Cond.instanceMethod yX3_namesIn, Cond.selects RX3 yX3_namesIn yX3_namesIn, Cond.code yX3_namesIn cX3_namesIn 4 (some .int), Cond.methodLink RX3 58 yX3_kindIn, Cond.instanceMethod yX3_kindIn, Cond.selects RX3 yX3_kindIn yX3_kindIn, Cond.code yX3_kindIn cX3_kindIn 3 (some .int)]
def wsX4_view_r2 : List Cond := [Cond.fieldLink RX3 15 "ColumnSeasons$Table" "kinds" "[I", Cond.methodLink RX4 173 yX3_defaultsInView, Cond.instanceMethod yX3_defaultsInView, Cond.selects RX3 yX3_defaultsInView yX3_defaultsInView, Cond.code yX3_defaultsInView cX3_defaultsInView 7 (some .int), Cond.methodLink RX3 112 yX3_sharedNames, Cond.methodLink RX3 54 yX3_now, Cond.instanceMethod yX3_now, Cond.selects RX3 yX3_now yX3_now, Cond.code yX3_now cX3_now 1 (some .int), Cond.fieldLink RX3 9 "ColumnSeasons$Table" "seasons" "I", Cond.static yX4_hasName, Cond.initialized RX4, Cond.code yX4_hasName cX4_hasName 2 (some .boolean), Cond.methodLink RX3 78 yX3_valueAt, Cond.instanceMethod yX3_valueAt, Cond.selects RX3 yX3_valueAt yX3_valueAt, Cond.code yX3_valueAt cX3_valueAt 3 (some .int), Cond.fieldLink RX3 28 "ColumnSeasons$Table" "values" "[I", Cond.methodLink RX3 66 yX3_standardIn, Cond.instanceMethod yX3_standardIn, Cond.selects RX3 yX3_standardIn yX3_standardIn, Cond.code yX3_standardIn cX3_standardIn 3 (some .int), Cond.fieldLink RX3 19 "ColumnSeasons$Table" "standards" "[I"]
def wsX4_view : List Cond := .code yX4_view cX4_view 4 (some .int) :: ((wsX4_view_r1 ++ wsX4_view_r2) ++ wsX40 ++ wsX30)
def wsX4_viewColumn_r1 : List Cond := [Cond.fieldLink RX4 10 "ColumnSeasons" "table" "LColumnSeasons$Table;", Cond.methodLink RX4 147 yX3_isRow, Cond.instanceMethod yX3_isRow, Cond.selects RX3 yX3_isRow yX3_isRow, Cond.initialized RX3, Cond.code yX3_isRow cX3_isRow 2 (some .boolean), Cond.fieldLink RX3 22 "ColumnSeasons$Table" "rows" "I", Cond.methodLink RX4 124 yX4_isName, Cond.static yX4_isName, Cond.initialized RX4, Cond.code yX4_isName cX4_isName 1 (some .boolean), Cond.methodLink RX4 165 yX3_sharedNames, Cond.instanceMethod yX3_sharedNames, Cond.selects RX3 yX3_sharedNames yX3_sharedNames, Cond.code yX3_sharedNames cX3_sharedNames 5 (some .int), Cond.fieldLink RX3 25 "ColumnSeasons$Table" "rowSeasons" "[I", Cond.methodLink RX3 96 yX3_namesIn, Cond.instanceMethod yX3_namesIn, Cond.selects RX3 yX3_namesIn yX3_namesIn, Cond.code yX3_namesIn cX3_namesIn 4 (some .int), Cond.methodLink RX3 58 yX3_kindIn, Cond.instanceMethod yX3_kindIn, Cond.selects RX3 yX3_kindIn yX3_kindIn, Cond.code yX3_kindIn cX3_kindIn 3 (some .int)]
def wsX4_viewColumn_r2 : List Cond := [Cond.fieldLink RX3 15 "ColumnSeasons$Table" "kinds" "[I", Cond.methodLink RX4 176 yX4_hasName, Cond.static yX4_hasName, Cond.code yX4_hasName cX4_hasName 2 (some .boolean), Cond.methodLink RX4 180 yX3_widestKind, Cond.instanceMethod yX3_widestKind, Cond.selects RX3 yX3_widestKind yX3_widestKind, Cond.code yX3_widestKind cX3_widestKind 6 (some .int), Cond.methodLink RX3 118 Lib.Math.max.name, Cond.static Lib.Math.max.name, Cond.initialized "java/lang/Math", Cond.code Lib.Math.max.name Lib.Math.max.code 2 (some .int), Cond.methodLink RX3 75 yX3_kindInRow, Cond.instanceMethod yX3_kindInRow, Cond.selects RX3 yX3_kindInRow yX3_kindInRow, Cond.code yX3_kindInRow cX3_kindInRow 3 (some .int), Cond.methodLink RX4 183 yX3_sumOfValues, Cond.instanceMethod yX3_sumOfValues, Cond.selects RX3 yX3_sumOfValues yX3_sumOfValues, Cond.code yX3_sumOfValues cX3_sumOfValues 6 (some .int), Cond.methodLink RX3 78 yX3_valueAt, Cond.instanceMethod yX3_valueAt, Cond.selects RX3 yX3_valueAt yX3_valueAt, Cond.code yX3_valueAt cX3_valueAt 3 (some .int)]
def wsX4_viewColumn_r3 : List Cond := [Cond.fieldLink RX3 28 "ColumnSeasons$Table" "values" "[I", Cond.methodLink RX4 186 yX3_leastValue, Cond.instanceMethod yX3_leastValue, Cond.selects RX3 yX3_leastValue yX3_leastValue, Cond.code yX3_leastValue cX3_leastValue 6 (some .int), Cond.methodLink RX3 91 Lib.Math.min.name, Cond.static Lib.Math.min.name, Cond.code Lib.Math.min.name Lib.Math.min.code 2 (some .int), Cond.methodLink RX4 189 yX3_greatestValue, Cond.instanceMethod yX3_greatestValue, Cond.selects RX3 yX3_greatestValue yX3_greatestValue, Cond.code yX3_greatestValue cX3_greatestValue 6 (some .int), Cond.methodLink RX4 192 yX3_unlikeValues, Cond.instanceMethod yX3_unlikeValues, Cond.selects RX3 yX3_unlikeValues yX3_unlikeValues, Cond.code yX3_unlikeValues cX3_unlikeValues 6 (some .int), Cond.methodLink RX3 121 yX3_isFirstOfItsValue, Cond.instanceMethod yX3_isFirstOfItsValue, Cond.selects RX3 yX3_isFirstOfItsValue yX3_isFirstOfItsValue, Cond.code yX3_isFirstOfItsValue cX3_isFirstOfItsValue 5 (some .boolean)]
def wsX4_viewColumn : List Cond := .code yX4_viewColumn cX4_viewColumn 5 (some .int) :: ((wsX4_viewColumn_r1 ++ (wsX4_viewColumn_r2 ++ wsX4_viewColumn_r3)) ++ wsX40 ++ wsX30)
def wsX4_bestSeason_r1 : List Cond := [Cond.fieldLink RX4 10 "ColumnSeasons" "table" "LColumnSeasons$Table;", Cond.methodLink RX4 198 yX3_seasonOfFewestLosses, Cond.instanceMethod yX3_seasonOfFewestLosses, Cond.selects RX3 yX3_seasonOfFewestLosses yX3_seasonOfFewestLosses, Cond.initialized RX3, Cond.code yX3_seasonOfFewestLosses cX3_seasonOfFewestLosses 5 (some .int), Cond.methodLink RX3 54 yX3_now, Cond.instanceMethod yX3_now, Cond.selects RX3 yX3_now yX3_now, Cond.code yX3_now cX3_now 1 (some .int), Cond.fieldLink RX3 9 "ColumnSeasons$Table" "seasons" "I", Cond.methodLink RX3 109 yX3_lossesIn, Cond.instanceMethod yX3_lossesIn, Cond.selects RX3 yX3_lossesIn yX3_lossesIn, Cond.code yX3_lossesIn cX3_lossesIn 4 (some .int), Cond.fieldLink RX3 22 "ColumnSeasons$Table" "rows" "I", Cond.methodLink RX3 81 yX3_lossesOfRowIn, Cond.instanceMethod yX3_lossesOfRowIn, Cond.selects RX3 yX3_lossesOfRowIn yX3_lossesOfRowIn, Cond.code yX3_lossesOfRowIn cX3_lossesOfRowIn 7 (some .int), Cond.methodLink RX3 75 yX3_kindInRow, Cond.instanceMethod yX3_kindInRow, Cond.selects RX3 yX3_kindInRow yX3_kindInRow, Cond.code yX3_kindInRow cX3_kindInRow 3 (some .int)]
def wsX4_bestSeason_r2 : List Cond := [Cond.fieldLink RX3 25 "ColumnSeasons$Table" "rowSeasons" "[I", Cond.methodLink RX3 58 yX3_kindIn, Cond.instanceMethod yX3_kindIn, Cond.selects RX3 yX3_kindIn yX3_kindIn, Cond.code yX3_kindIn cX3_kindIn 3 (some .int), Cond.fieldLink RX3 15 "ColumnSeasons$Table" "kinds" "[I", Cond.methodLink RX3 78 yX3_valueAt, Cond.instanceMethod yX3_valueAt, Cond.selects RX3 yX3_valueAt yX3_valueAt, Cond.code yX3_valueAt cX3_valueAt 3 (some .int), Cond.fieldLink RX3 28 "ColumnSeasons$Table" "values" "[I", Cond.static yX4_castLoses, Cond.initialized RX4, Cond.code yX4_castLoses cX4_castLoses 3 (some .boolean), Cond.methodLink RX4 239 yX4_castTo, Cond.static yX4_castTo, Cond.code yX4_castTo cX4_castTo 2 (some .int), Cond.methodLink RX4 236 Lib.Math.min.name, Cond.static Lib.Math.min.name, Cond.initialized "java/lang/Math", Cond.code Lib.Math.min.name Lib.Math.min.code 2 (some .int), Cond.methodLink RX4 168 Lib.Math.max.name, Cond.static Lib.Math.max.name, Cond.code Lib.Math.max.name Lib.Math.max.code 2 (some .int)]
def wsX4_bestSeason_r3 : List Cond := [Cond.methodLink RX4 230 yX4_leastOfKind, Cond.static yX4_leastOfKind, Cond.code yX4_leastOfKind cX4_leastOfKind 1 (some .int), Cond.methodLink RX4 233 yX4_greatestOfKind, Cond.static yX4_greatestOfKind, Cond.code yX4_greatestOfKind cX4_greatestOfKind 1 (some .int), Cond.methodLink RX4 201 yX3_lossesIn]
def wsX4_bestSeason : List Cond := .code yX4_bestSeason cX4_bestSeason 3 (some .int) :: ((wsX4_bestSeason_r1 ++ (wsX4_bestSeason_r2 ++ wsX4_bestSeason_r3)) ++ wsX40 ++ wsX30)
def wsX4_count_r1 : List Cond := [Cond.fieldLink RX4 10 "ColumnSeasons" "table" "LColumnSeasons$Table;", Cond.fieldLink RX4 19 "ColumnSeasons" "history" "LColumnSeasons$History;", Cond.fieldLink RX4 33 "ColumnSeasons" "script" "LColumnSeasons$Script;", Cond.methodLink RX4 204 yX3_now, Cond.instanceMethod yX3_now, Cond.selects RX3 yX3_now yX3_now, Cond.initialized RX3, Cond.code yX3_now cX3_now 1 (some .int), Cond.fieldLink RX3 9 "ColumnSeasons$Table" "seasons" "I", Cond.methodLink RX4 133 yX3_namesIn, Cond.instanceMethod yX3_namesIn, Cond.selects RX3 yX3_namesIn yX3_namesIn, Cond.code yX3_namesIn cX3_namesIn 4 (some .int), Cond.methodLink RX3 58 yX3_kindIn, Cond.instanceMethod yX3_kindIn, Cond.selects RX3 yX3_kindIn yX3_kindIn, Cond.code yX3_kindIn cX3_kindIn 3 (some .int), Cond.fieldLink RX3 15 "ColumnSeasons$Table" "kinds" "[I", Cond.methodLink RX4 136 yJ6_bitCount_0f7a4, Cond.static yJ6_bitCount_0f7a4, Cond.initialized RJ6, Cond.code yJ6_bitCount_0f7a4 cJ6_bitCount_0f7a4 1 (some .int), Cond.constant RJ6 265 (1431655765), Cond.constant RJ6 266 (858993459)]
def wsX4_count_r2 : List Cond := [Cond.constant RJ6 267 (252645135), Cond.methodLink RX4 141 yX3_rowsOfSeason, Cond.instanceMethod yX3_rowsOfSeason, Cond.selects RX3 yX3_rowsOfSeason yX3_rowsOfSeason, Cond.code yX3_rowsOfSeason cX3_rowsOfSeason 4 (some .int), Cond.fieldLink RX3 22 "ColumnSeasons$Table" "rows" "I", Cond.fieldLink RX3 25 "ColumnSeasons$Table" "rowSeasons" "[I", Cond.methodLink RX4 207 yX3_valuesOfAllRows, Cond.instanceMethod yX3_valuesOfAllRows, Cond.selects RX3 yX3_valuesOfAllRows yX3_valuesOfAllRows, Cond.code yX3_valuesOfAllRows cX3_valuesOfAllRows 3 (some .int), Cond.methodLink RX3 96 yX3_namesIn, Cond.methodLink RX3 100 yJ6_bitCount_0f7a4, Cond.methodLink RX4 201 yX3_lossesIn, Cond.instanceMethod yX3_lossesIn, Cond.selects RX3 yX3_lossesIn yX3_lossesIn, Cond.code yX3_lossesIn cX3_lossesIn 4 (some .int), Cond.methodLink RX3 81 yX3_lossesOfRowIn, Cond.instanceMethod yX3_lossesOfRowIn, Cond.selects RX3 yX3_lossesOfRowIn yX3_lossesOfRowIn, Cond.code yX3_lossesOfRowIn cX3_lossesOfRowIn 7 (some .int), Cond.methodLink RX3 75 yX3_kindInRow, Cond.instanceMethod yX3_kindInRow, Cond.selects RX3 yX3_kindInRow yX3_kindInRow]
def wsX4_count_r3 : List Cond := [Cond.code yX3_kindInRow cX3_kindInRow 3 (some .int), Cond.methodLink RX3 78 yX3_valueAt, Cond.instanceMethod yX3_valueAt, Cond.selects RX3 yX3_valueAt yX3_valueAt, Cond.code yX3_valueAt cX3_valueAt 3 (some .int), Cond.fieldLink RX3 28 "ColumnSeasons$Table" "values" "[I", Cond.static yX4_castLoses, Cond.initialized RX4, Cond.code yX4_castLoses cX4_castLoses 3 (some .boolean), Cond.methodLink RX4 239 yX4_castTo, Cond.static yX4_castTo, Cond.code yX4_castTo cX4_castTo 2 (some .int), Cond.methodLink RX4 236 Lib.Math.min.name, Cond.static Lib.Math.min.name, Cond.initialized "java/lang/Math", Cond.code Lib.Math.min.name Lib.Math.min.code 2 (some .int), Cond.methodLink RX4 168 Lib.Math.max.name, Cond.static Lib.Math.max.name, Cond.code Lib.Math.max.name Lib.Math.max.code 2 (some .int), Cond.methodLink RX4 230 yX4_leastOfKind, Cond.static yX4_leastOfKind, Cond.code yX4_leastOfKind cX4_leastOfKind 1 (some .int), Cond.methodLink RX4 233 yX4_greatestOfKind, Cond.static yX4_greatestOfKind]
def wsX4_count_r4 : List Cond := [Cond.code yX4_greatestOfKind cX4_greatestOfKind 1 (some .int), Cond.methodLink RX4 210 yX3_namesOfAllSeasons, Cond.instanceMethod yX3_namesOfAllSeasons, Cond.selects RX3 yX3_namesOfAllSeasons yX3_namesOfAllSeasons, Cond.code yX3_namesOfAllSeasons cX3_namesOfAllSeasons 3 (some .int)]
def wsX4_count : List Cond := .code yX4_count cX4_count 2 (some .int) :: ((wsX4_count_r1 ++ (wsX4_count_r2 ++ (wsX4_count_r3 ++ wsX4_count_r4))) ++ wsX40 ++ wsX30 ++ wsX10 ++ wsX20)
def wsJ9_max_7cf53 : List Cond := .code yJ9_max_7cf53 cJ9_max_7cf53 2 (some .int) :: ([])
def wsJ9_min_7cf53 : List Cond := .code yJ9_min_7cf53 cJ9_min_7cf53 2 (some .int) :: ([])
def wsL_low : List Cond := .code yL_low cL_low 2 (some .int) :: ([.constant RL 7 (2147483647)])
def wsL_cell : List Cond := .code yL_cell cL_cell 2 (some .int) :: ([.constant RL 8 (40503)])
def wsL_least : List Cond := .code yL_least cL_least 1 (some .int) :: ([])
def wsL_most : List Cond := .code yL_most cL_most 1 (some .int) :: ([])
def wsL_valued : List Cond := .code yL_valued cL_valued 4 (some .int) :: ([.methodLink RL 9 yL_low, .static yL_low, .initialized RL, .code yL_low cL_low 2 (some .int), .constant RL 7 (2147483647), .methodLink RL 15 yL_least, .static yL_least, .code yL_least cL_least 1 (some .int), .methodLink RL 19 yL_most, .static yL_most, .code yL_most cL_most 1 (some .int)])
def wsL_cast : List Cond := .code yL_cast cL_cast 2 (some .int) :: ([])
def wsL_table_r1 : List Cond := [Cond.methodLink RL 22 yX4_count, Cond.instanceMethod yX4_count, Cond.selects RX4 yX4_count yX4_count, Cond.initialized RX4, Cond.code yX4_count cX4_count 2 (some .int), Cond.fieldLink RX4 10 "ColumnSeasons" "table" "LColumnSeasons$Table;", Cond.fieldLink RX4 19 "ColumnSeasons" "history" "LColumnSeasons$History;", Cond.fieldLink RX4 33 "ColumnSeasons" "script" "LColumnSeasons$Script;", Cond.methodLink RX4 204 yX3_now, Cond.instanceMethod yX3_now, Cond.selects RX3 yX3_now yX3_now, Cond.initialized RX3, Cond.code yX3_now cX3_now 1 (some .int), Cond.fieldLink RX3 9 "ColumnSeasons$Table" "seasons" "I", Cond.methodLink RX4 133 yX3_namesIn, Cond.instanceMethod yX3_namesIn, Cond.selects RX3 yX3_namesIn yX3_namesIn, Cond.code yX3_namesIn cX3_namesIn 4 (some .int), Cond.methodLink RX3 58 yX3_kindIn, Cond.instanceMethod yX3_kindIn, Cond.selects RX3 yX3_kindIn yX3_kindIn, Cond.code yX3_kindIn cX3_kindIn 3 (some .int), Cond.fieldLink RX3 15 "ColumnSeasons$Table" "kinds" "[I", Cond.methodLink RX4 136 yJ6_bitCount_0f7a4]
def wsL_table_r2 : List Cond := [Cond.static yJ6_bitCount_0f7a4, Cond.initialized RJ6, Cond.code yJ6_bitCount_0f7a4 cJ6_bitCount_0f7a4 1 (some .int), Cond.constant RJ6 265 (1431655765), Cond.constant RJ6 266 (858993459), Cond.constant RJ6 267 (252645135), Cond.methodLink RX4 141 yX3_rowsOfSeason, Cond.instanceMethod yX3_rowsOfSeason, Cond.selects RX3 yX3_rowsOfSeason yX3_rowsOfSeason, Cond.code yX3_rowsOfSeason cX3_rowsOfSeason 4 (some .int), Cond.fieldLink RX3 22 "ColumnSeasons$Table" "rows" "I", Cond.fieldLink RX3 25 "ColumnSeasons$Table" "rowSeasons" "[I", Cond.methodLink RX4 207 yX3_valuesOfAllRows, Cond.instanceMethod yX3_valuesOfAllRows, Cond.selects RX3 yX3_valuesOfAllRows yX3_valuesOfAllRows, Cond.code yX3_valuesOfAllRows cX3_valuesOfAllRows 3 (some .int), Cond.methodLink RX3 96 yX3_namesIn, Cond.methodLink RX3 100 yJ6_bitCount_0f7a4, Cond.methodLink RX4 201 yX3_lossesIn, Cond.instanceMethod yX3_lossesIn, Cond.selects RX3 yX3_lossesIn yX3_lossesIn, Cond.code yX3_lossesIn cX3_lossesIn 4 (some .int), Cond.methodLink RX3 81 yX3_lossesOfRowIn, Cond.instanceMethod yX3_lossesOfRowIn]
def wsL_table_r3 : List Cond := [Cond.selects RX3 yX3_lossesOfRowIn yX3_lossesOfRowIn, Cond.code yX3_lossesOfRowIn cX3_lossesOfRowIn 7 (some .int), Cond.methodLink RX3 75 yX3_kindInRow, Cond.instanceMethod yX3_kindInRow, Cond.selects RX3 yX3_kindInRow yX3_kindInRow, Cond.code yX3_kindInRow cX3_kindInRow 3 (some .int), Cond.methodLink RX3 78 yX3_valueAt, Cond.instanceMethod yX3_valueAt, Cond.selects RX3 yX3_valueAt yX3_valueAt, Cond.code yX3_valueAt cX3_valueAt 3 (some .int), Cond.fieldLink RX3 28 "ColumnSeasons$Table" "values" "[I", Cond.static yX4_castLoses, Cond.code yX4_castLoses cX4_castLoses 3 (some .boolean), Cond.methodLink RX4 239 yX4_castTo, Cond.static yX4_castTo, Cond.code yX4_castTo cX4_castTo 2 (some .int), Cond.methodLink RX4 236 Lib.Math.min.name, Cond.static Lib.Math.min.name, Cond.initialized "java/lang/Math", Cond.code Lib.Math.min.name Lib.Math.min.code 2 (some .int), Cond.methodLink RX4 168 Lib.Math.max.name, Cond.static Lib.Math.max.name, Cond.code Lib.Math.max.name Lib.Math.max.code 2 (some .int), Cond.methodLink RX4 230 yX4_leastOfKind]
def wsL_table_r4 : List Cond := [Cond.static yX4_leastOfKind, Cond.code yX4_leastOfKind cX4_leastOfKind 1 (some .int), Cond.methodLink RX4 233 yX4_greatestOfKind, Cond.static yX4_greatestOfKind, Cond.code yX4_greatestOfKind cX4_greatestOfKind 1 (some .int), Cond.methodLink RX4 210 yX3_namesOfAllSeasons, Cond.instanceMethod yX3_namesOfAllSeasons, Cond.selects RX3 yX3_namesOfAllSeasons yX3_namesOfAllSeasons, Cond.code yX3_namesOfAllSeasons cX3_namesOfAllSeasons 3 (some .int), Cond.methodLink RL 27 yX4_bestSeason, Cond.instanceMethod yX4_bestSeason, Cond.selects RX4 yX4_bestSeason yX4_bestSeason, Cond.code yX4_bestSeason cX4_bestSeason 3 (some .int), Cond.methodLink RX4 198 yX3_seasonOfFewestLosses, Cond.instanceMethod yX3_seasonOfFewestLosses, Cond.selects RX3 yX3_seasonOfFewestLosses yX3_seasonOfFewestLosses, Cond.code yX3_seasonOfFewestLosses cX3_seasonOfFewestLosses 5 (some .int), Cond.methodLink RX3 54 yX3_now, Cond.methodLink RX3 109 yX3_lossesIn, Cond.methodLink RL 30 yX4_column, Cond.instanceMethod yX4_column, Cond.selects RX4 yX4_column yX4_column, Cond.code yX4_column cX4_column 5 (some .int), Cond.methodLink RX4 121 yX3_isSeason]
def wsL_table_r5 : List Cond := [Cond.instanceMethod yX3_isSeason, Cond.selects RX3 yX3_isSeason yX3_isSeason, Cond.code yX3_isSeason cX3_isSeason 2 (some .boolean), Cond.methodLink RX4 124 yX4_isName, Cond.static yX4_isName, Cond.code yX4_isName cX4_isName 1 (some .boolean), Cond.methodLink RX4 127 yX3_kindIn, Cond.methodLink RX4 130 yX3_standardIn, Cond.instanceMethod yX3_standardIn, Cond.selects RX3 yX3_standardIn yX3_standardIn, Cond.code yX3_standardIn cX3_standardIn 3 (some .int), Cond.fieldLink RX3 19 "ColumnSeasons$Table" "standards" "[I", Cond.methodLink RL 34 yX4_season, Cond.instanceMethod yX4_season, Cond.selects RX4 yX4_season yX4_season, Cond.code yX4_season cX4_season 3 (some .int), Cond.methodLink RX4 144 yX3_newColumnsIn, Cond.instanceMethod yX3_newColumnsIn, Cond.selects RX3 yX3_newColumnsIn yX3_newColumnsIn, Cond.code yX3_newColumnsIn cX3_newColumnsIn 5 (some .int), Cond.methodLink RL 37 yX4_view, Cond.instanceMethod yX4_view, Cond.selects RX4 yX4_view yX4_view, Cond.code yX4_view cX4_view 4 (some .int)]
def wsL_table_r6 : List Cond := [Cond.methodLink RX4 147 yX3_isRow, Cond.instanceMethod yX3_isRow, Cond.selects RX3 yX3_isRow yX3_isRow, Cond.code yX3_isRow cX3_isRow 2 (some .boolean), Cond.methodLink RX4 165 yX3_sharedNames, Cond.instanceMethod yX3_sharedNames, Cond.selects RX3 yX3_sharedNames yX3_sharedNames, Cond.code yX3_sharedNames cX3_sharedNames 5 (some .int), Cond.methodLink RX4 173 yX3_defaultsInView, Cond.instanceMethod yX3_defaultsInView, Cond.selects RX3 yX3_defaultsInView yX3_defaultsInView, Cond.code yX3_defaultsInView cX3_defaultsInView 7 (some .int), Cond.methodLink RX3 112 yX3_sharedNames, Cond.static yX4_hasName, Cond.code yX4_hasName cX4_hasName 2 (some .boolean), Cond.methodLink RX3 66 yX3_standardIn, Cond.methodLink RL 40 yX4_value, Cond.instanceMethod yX4_value, Cond.selects RX4 yX4_value yX4_value, Cond.code yX4_value cX4_value 3 (some .int), Cond.methodLink RX4 150 yX3_kindInRow, Cond.methodLink RX4 153 yX3_valueAt, Cond.methodLink RL 43 yX4_seasonOf, Cond.instanceMethod yX4_seasonOf]
def wsL_table_r7 : List Cond := [Cond.selects RX4 yX4_seasonOf yX4_seasonOf, Cond.code yX4_seasonOf cX4_seasonOf 2 (some .int), Cond.methodLink RX4 162 yX3_seasonOfRow, Cond.instanceMethod yX3_seasonOfRow, Cond.selects RX3 yX3_seasonOfRow yX3_seasonOfRow, Cond.code yX3_seasonOfRow cX3_seasonOfRow 2 (some .int), Cond.methodLink RL 15 yL_least, Cond.static yL_least, Cond.initialized RL, Cond.code yL_least cL_least 1 (some .int), Cond.methodLink RL 19 yL_most, Cond.static yL_most, Cond.code yL_most cL_most 1 (some .int), Cond.methodLink RL 46 yX4_read, Cond.instanceMethod yX4_read, Cond.selects RX4 yX4_read yX4_read, Cond.code yX4_read cX4_read 5 (some .int), Cond.methodLink RX4 156 yX3_readIn, Cond.instanceMethod yX3_readIn, Cond.selects RX3 yX3_readIn yX3_readIn, Cond.code yX3_readIn cX3_readIn 4 (some .int), Cond.methodLink RX4 159 yX3_howReadIn, Cond.instanceMethod yX3_howReadIn, Cond.selects RX3 yX3_howReadIn yX3_howReadIn]
def wsL_table_r8 : List Cond := [Cond.code yX3_howReadIn cX3_howReadIn 6 (some .int), Cond.methodLink RL 50 yL_cast, Cond.static yL_cast, Cond.code yL_cast cL_cast 2 (some .int), Cond.methodLink RL 53 yX4_viewColumn, Cond.instanceMethod yX4_viewColumn, Cond.selects RX4 yX4_viewColumn yX4_viewColumn, Cond.code yX4_viewColumn cX4_viewColumn 5 (some .int), Cond.methodLink RX4 176 yX4_hasName, Cond.methodLink RX4 180 yX3_widestKind, Cond.instanceMethod yX3_widestKind, Cond.selects RX3 yX3_widestKind yX3_widestKind, Cond.code yX3_widestKind cX3_widestKind 6 (some .int), Cond.methodLink RX3 118 Lib.Math.max.name, Cond.methodLink RX4 183 yX3_sumOfValues, Cond.instanceMethod yX3_sumOfValues, Cond.selects RX3 yX3_sumOfValues yX3_sumOfValues, Cond.code yX3_sumOfValues cX3_sumOfValues 6 (some .int), Cond.methodLink RX4 186 yX3_leastValue, Cond.instanceMethod yX3_leastValue, Cond.selects RX3 yX3_leastValue yX3_leastValue, Cond.code yX3_leastValue cX3_leastValue 6 (some .int), Cond.methodLink RX3 91 Lib.Math.min.name, Cond.methodLink RX4 189 yX3_greatestValue]
def wsL_table_r9 : List Cond := [Cond.instanceMethod yX3_greatestValue, Cond.selects RX3 yX3_greatestValue yX3_greatestValue, Cond.code yX3_greatestValue cX3_greatestValue 6 (some .int), Cond.methodLink RX4 192 yX3_unlikeValues, Cond.instanceMethod yX3_unlikeValues, Cond.selects RX3 yX3_unlikeValues yX3_unlikeValues, Cond.code yX3_unlikeValues cX3_unlikeValues 6 (some .int), Cond.methodLink RX3 121 yX3_isFirstOfItsValue, Cond.instanceMethod yX3_isFirstOfItsValue, Cond.selects RX3 yX3_isFirstOfItsValue yX3_isFirstOfItsValue, Cond.code yX3_isFirstOfItsValue cX3_isFirstOfItsValue 5 (some .boolean)]
def wsL_table : List Cond := .code yL_table cL_table 14 (some .boolean) :: ((wsL_table_r1 ++ (wsL_table_r2 ++ (wsL_table_r3 ++ (wsL_table_r4 ++ (wsL_table_r5 ++ (wsL_table_r6 ++ (wsL_table_r7 ++ (wsL_table_r8 ++ wsL_table_r9)))))))) ++ wsX40 ++ wsX30 ++ wsX10 ++ wsX20)
def wsL_act_r1 : List Cond := [Cond.methodLink RL 56 yL_cell, Cond.static yL_cell, Cond.initialized RL, Cond.code yL_cell cL_cell 2 (some .int), Cond.constant RL 8 (40503), Cond.methodLink RL 22 yX4_count, Cond.instanceMethod yX4_count, Cond.selects RX4 yX4_count yX4_count, Cond.initialized RX4, Cond.code yX4_count cX4_count 2 (some .int), Cond.fieldLink RX4 10 "ColumnSeasons" "table" "LColumnSeasons$Table;", Cond.fieldLink RX4 19 "ColumnSeasons" "history" "LColumnSeasons$History;", Cond.fieldLink RX4 33 "ColumnSeasons" "script" "LColumnSeasons$Script;", Cond.methodLink RX4 204 yX3_now, Cond.instanceMethod yX3_now, Cond.selects RX3 yX3_now yX3_now, Cond.initialized RX3, Cond.code yX3_now cX3_now 1 (some .int), Cond.fieldLink RX3 9 "ColumnSeasons$Table" "seasons" "I", Cond.methodLink RX4 133 yX3_namesIn, Cond.instanceMethod yX3_namesIn, Cond.selects RX3 yX3_namesIn yX3_namesIn, Cond.code yX3_namesIn cX3_namesIn 4 (some .int), Cond.methodLink RX3 58 yX3_kindIn]
def wsL_act_r2 : List Cond := [Cond.instanceMethod yX3_kindIn, Cond.selects RX3 yX3_kindIn yX3_kindIn, Cond.code yX3_kindIn cX3_kindIn 3 (some .int), Cond.fieldLink RX3 15 "ColumnSeasons$Table" "kinds" "[I", Cond.methodLink RX4 136 yJ6_bitCount_0f7a4, Cond.static yJ6_bitCount_0f7a4, Cond.initialized RJ6, Cond.code yJ6_bitCount_0f7a4 cJ6_bitCount_0f7a4 1 (some .int), Cond.constant RJ6 265 (1431655765), Cond.constant RJ6 266 (858993459), Cond.constant RJ6 267 (252645135), Cond.methodLink RX4 141 yX3_rowsOfSeason, Cond.instanceMethod yX3_rowsOfSeason, Cond.selects RX3 yX3_rowsOfSeason yX3_rowsOfSeason, Cond.code yX3_rowsOfSeason cX3_rowsOfSeason 4 (some .int), Cond.fieldLink RX3 22 "ColumnSeasons$Table" "rows" "I", Cond.fieldLink RX3 25 "ColumnSeasons$Table" "rowSeasons" "[I", Cond.methodLink RX4 207 yX3_valuesOfAllRows, Cond.instanceMethod yX3_valuesOfAllRows, Cond.selects RX3 yX3_valuesOfAllRows yX3_valuesOfAllRows, Cond.code yX3_valuesOfAllRows cX3_valuesOfAllRows 3 (some .int), Cond.methodLink RX3 96 yX3_namesIn, Cond.methodLink RX3 100 yJ6_bitCount_0f7a4, Cond.methodLink RX4 201 yX3_lossesIn]
def wsL_act_r3 : List Cond := [Cond.instanceMethod yX3_lossesIn, Cond.selects RX3 yX3_lossesIn yX3_lossesIn, Cond.code yX3_lossesIn cX3_lossesIn 4 (some .int), Cond.methodLink RX3 81 yX3_lossesOfRowIn, Cond.instanceMethod yX3_lossesOfRowIn, Cond.selects RX3 yX3_lossesOfRowIn yX3_lossesOfRowIn, Cond.code yX3_lossesOfRowIn cX3_lossesOfRowIn 7 (some .int), Cond.methodLink RX3 75 yX3_kindInRow, Cond.instanceMethod yX3_kindInRow, Cond.selects RX3 yX3_kindInRow yX3_kindInRow, Cond.code yX3_kindInRow cX3_kindInRow 3 (some .int), Cond.methodLink RX3 78 yX3_valueAt, Cond.instanceMethod yX3_valueAt, Cond.selects RX3 yX3_valueAt yX3_valueAt, Cond.code yX3_valueAt cX3_valueAt 3 (some .int), Cond.fieldLink RX3 28 "ColumnSeasons$Table" "values" "[I", Cond.static yX4_castLoses, Cond.code yX4_castLoses cX4_castLoses 3 (some .boolean), Cond.methodLink RX4 239 yX4_castTo, Cond.static yX4_castTo, Cond.code yX4_castTo cX4_castTo 2 (some .int), Cond.methodLink RX4 236 Lib.Math.min.name, Cond.static Lib.Math.min.name, Cond.initialized "java/lang/Math"]
def wsL_act_r4 : List Cond := [Cond.code Lib.Math.min.name Lib.Math.min.code 2 (some .int), Cond.methodLink RX4 168 Lib.Math.max.name, Cond.static Lib.Math.max.name, Cond.code Lib.Math.max.name Lib.Math.max.code 2 (some .int), Cond.methodLink RX4 230 yX4_leastOfKind, Cond.static yX4_leastOfKind, Cond.code yX4_leastOfKind cX4_leastOfKind 1 (some .int), Cond.methodLink RX4 233 yX4_greatestOfKind, Cond.static yX4_greatestOfKind, Cond.code yX4_greatestOfKind cX4_greatestOfKind 1 (some .int), Cond.methodLink RX4 210 yX3_namesOfAllSeasons, Cond.instanceMethod yX3_namesOfAllSeasons, Cond.selects RX3 yX3_namesOfAllSeasons yX3_namesOfAllSeasons, Cond.code yX3_namesOfAllSeasons cX3_namesOfAllSeasons 3 (some .int), Cond.methodLink RL 9 yL_low, Cond.static yL_low, Cond.code yL_low cL_low 2 (some .int), Cond.constant RL 7 (2147483647), Cond.methodLink RL 60 yL_valued, Cond.static yL_valued, Cond.code yL_valued cL_valued 4 (some .int), Cond.methodLink RL 15 yL_least, Cond.static yL_least, Cond.code yL_least cL_least 1 (some .int)]
def wsL_act_r5 : List Cond := [Cond.methodLink RL 19 yL_most, Cond.static yL_most, Cond.code yL_most cL_most 1 (some .int), Cond.methodLink RL 63 yX4_add, Cond.instanceMethod yX4_add, Cond.selects RX4 yX4_add yX4_add, Cond.code yX4_add cX4_add 4 (some .int), Cond.methodLink RX4 44 yX1_prepare, Cond.instanceMethod yX1_prepare, Cond.selects RX1 yX1_prepare yX1_prepare, Cond.initialized RX1, Cond.code yX1_prepare cX1_prepare 2 none, Cond.methodLink RX1 25 yX1_prepared, Cond.instanceMethod yX1_prepared, Cond.selects RX1 yX1_prepared yX1_prepared, Cond.code yX1_prepared cX1_prepared 1 (some (.object "ColumnSeasons$Table")), Cond.fieldLink RX1 13 "ColumnSeasons$History" "slots" "[LColumnSeasons$Table;", Cond.fieldLink RX1 17 "ColumnSeasons$History" "oldest" "I", Cond.fieldLink RX1 21 "ColumnSeasons$History" "length" "I", Cond.methodLink RX1 29 yX3_copyFrom, Cond.instanceMethod yX3_copyFrom, Cond.selects RX3 yX3_copyFrom yX3_copyFrom, Cond.code yX3_copyFrom cX3_copyFrom 2 none, Cond.methodLink RX3 37 arraycopyName]
def wsL_act_r6 : List Cond := [Cond.native arraycopyName, Cond.static arraycopyName, Cond.initialized "java/lang/System", Cond.fieldLink RX3 19 "ColumnSeasons$Table" "standards" "[I", Cond.methodLink RX4 48 yX3_addColumn, Cond.instanceMethod yX3_addColumn, Cond.selects RX3 yX3_addColumn yX3_addColumn, Cond.code yX3_addColumn cX3_addColumn 4 (some .int), Cond.static yX4_isName, Cond.code yX4_isName cX4_isName 1 (some .boolean), Cond.static yX4_isKind, Cond.code yX4_isKind cX4_isKind 1 (some .boolean), Cond.static yX4_isOfKind, Cond.code yX4_isOfKind cX4_isOfKind 2 (some .boolean), Cond.methodLink RX3 54 yX3_now, Cond.methodLink RX3 62 yX3_beginSeasonWith, Cond.instanceMethod yX3_beginSeasonWith, Cond.selects RX3 yX3_beginSeasonWith yX3_beginSeasonWith, Cond.code yX3_beginSeasonWith cX3_beginSeasonWith 6 (some .int), Cond.methodLink RX4 52 yX4_recordIfDone, Cond.instanceMethod yX4_recordIfDone, Cond.selects RX4 yX4_recordIfDone yX4_recordIfDone, Cond.code yX4_recordIfDone cX4_recordIfDone 2 (some .int), Cond.methodLink RX4 100 yX4_isError]
def wsL_act_r7 : List Cond := [Cond.static yX4_isError, Cond.code yX4_isError cX4_isError 1 (some .boolean), Cond.methodLink RX4 111 yX1_record, Cond.instanceMethod yX1_record, Cond.selects RX1 yX1_record yX1_record, Cond.code yX1_record cX1_record 1 none, Cond.methodLink RL 66 yX4_drop, Cond.instanceMethod yX4_drop, Cond.selects RX4 yX4_drop yX4_drop, Cond.code yX4_drop cX4_drop 2 (some .int), Cond.methodLink RX4 56 yX3_dropColumn, Cond.instanceMethod yX3_dropColumn, Cond.selects RX3 yX3_dropColumn yX3_dropColumn, Cond.code yX3_dropColumn cX3_dropColumn 2 (some .int), Cond.methodLink RL 69 yX4_kind, Cond.instanceMethod yX4_kind, Cond.selects RX4 yX4_kind yX4_kind, Cond.code yX4_kind cX4_kind 3 (some .int), Cond.methodLink RX4 59 yX3_changeKind, Cond.instanceMethod yX3_changeKind, Cond.selects RX3 yX3_changeKind yX3_changeKind, Cond.code yX3_changeKind cX3_changeKind 3 (some .int), Cond.methodLink RX3 66 yX3_standardIn, Cond.instanceMethod yX3_standardIn]
def wsL_act_r8 : List Cond := [Cond.selects RX3 yX3_standardIn yX3_standardIn, Cond.code yX3_standardIn cX3_standardIn 3 (some .int), Cond.methodLink RL 72 yX4_row, Cond.instanceMethod yX4_row, Cond.selects RX4 yX4_row yX4_row, Cond.code yX4_row cX4_row 1 (some .int), Cond.methodLink RX4 63 yX3_writeRow, Cond.instanceMethod yX3_writeRow, Cond.selects RX3 yX3_writeRow yX3_writeRow, Cond.code yX3_writeRow cX3_writeRow 1 (some .int), Cond.methodLink RL 43 yX4_seasonOf, Cond.instanceMethod yX4_seasonOf, Cond.selects RX4 yX4_seasonOf yX4_seasonOf, Cond.code yX4_seasonOf cX4_seasonOf 2 (some .int), Cond.methodLink RX4 147 yX3_isRow, Cond.instanceMethod yX3_isRow, Cond.selects RX3 yX3_isRow yX3_isRow, Cond.code yX3_isRow cX3_isRow 2 (some .boolean), Cond.methodLink RX4 162 yX3_seasonOfRow, Cond.instanceMethod yX3_seasonOfRow, Cond.selects RX3 yX3_seasonOfRow yX3_seasonOfRow, Cond.code yX3_seasonOfRow cX3_seasonOfRow 2 (some .int), Cond.methodLink RL 30 yX4_column, Cond.instanceMethod yX4_column]
def wsL_act_r9 : List Cond := [Cond.selects RX4 yX4_column yX4_column, Cond.code yX4_column cX4_column 5 (some .int), Cond.methodLink RX4 121 yX3_isSeason, Cond.instanceMethod yX3_isSeason, Cond.selects RX3 yX3_isSeason yX3_isSeason, Cond.code yX3_isSeason cX3_isSeason 2 (some .boolean), Cond.methodLink RX4 124 yX4_isName, Cond.methodLink RX4 127 yX3_kindIn, Cond.methodLink RX4 130 yX3_standardIn, Cond.methodLink RL 76 yX4_set, Cond.instanceMethod yX4_set, Cond.selects RX4 yX4_set yX4_set, Cond.code yX4_set cX4_set 4 (some .int), Cond.methodLink RX4 67 yX3_changeValue, Cond.instanceMethod yX3_changeValue, Cond.selects RX3 yX3_changeValue yX3_changeValue, Cond.code yX3_changeValue cX3_changeValue 5 (some .int), Cond.methodLink RX3 72 yX3_isRow, Cond.methodLink RL 79 yX4_remove, Cond.instanceMethod yX4_remove, Cond.selects RX4 yX4_remove yX4_remove, Cond.code yX4_remove cX4_remove 2 (some .int), Cond.methodLink RX4 70 yX3_removeRow, Cond.instanceMethod yX3_removeRow]
def wsL_act_r10 : List Cond := [Cond.selects RX3 yX3_removeRow yX3_removeRow, Cond.code yX3_removeRow cX3_removeRow 3 (some .int), Cond.methodLink RL 82 yX4_makeOver, Cond.instanceMethod yX4_makeOver, Cond.selects RX4 yX4_makeOver yX4_makeOver, Cond.code yX4_makeOver cX4_makeOver 3 (some .int), Cond.methodLink RX4 73 yX3_makeRowsOver, Cond.instanceMethod yX3_makeRowsOver, Cond.selects RX3 yX3_makeRowsOver yX3_makeRowsOver, Cond.code yX3_makeRowsOver cX3_makeRowsOver 6 (some .int), Cond.methodLink RX3 84 yX3_dressRowInNow, Cond.instanceMethod yX3_dressRowInNow, Cond.selects RX3 yX3_dressRowInNow yX3_dressRowInNow, Cond.code yX3_dressRowInNow cX3_dressRowInNow 3 none, Cond.methodLink RX3 88 yX3_readIn, Cond.instanceMethod yX3_readIn, Cond.selects RX3 yX3_readIn yX3_readIn, Cond.code yX3_readIn cX3_readIn 4 (some .int), Cond.methodLink RL 85 yX4_forget, Cond.instanceMethod yX4_forget, Cond.selects RX4 yX4_forget yX4_forget, Cond.code yX4_forget cX4_forget 1 (some .int), Cond.methodLink RX4 76 yX3_forgetSeasons, Cond.instanceMethod yX3_forgetSeasons]
def wsL_act_r11 : List Cond := [Cond.selects RX3 yX3_forgetSeasons yX3_forgetSeasons, Cond.code yX3_forgetSeasons cX3_forgetSeasons 3 (some .int), Cond.methodLink RX3 91 Lib.Math.min.name]
def wsL_act : List Cond := .code yL_act cL_act 9 (some .int) :: ((wsL_act_r1 ++ (wsL_act_r2 ++ (wsL_act_r3 ++ (wsL_act_r4 ++ (wsL_act_r5 ++ (wsL_act_r6 ++ (wsL_act_r7 ++ (wsL_act_r8 ++ (wsL_act_r9 ++ (wsL_act_r10 ++ wsL_act_r11)))))))))) ++ wsX40 ++ wsX30 ++ wsX10 ++ wsX20)
def wsL_law_r1 : List Cond := [Cond.classLink RL 23 RX4, Cond.instantiable RX4 7, Cond.initialized RX4, Cond.methodLink RL 88 yX4_init, Cond.instanceMethod yX4_init, Cond.code yX4_init cX4_init 1 none, Cond.methodLink RX4 1 objectInit, Cond.instanceMethod objectInit, Cond.code objectInit ⟨#[0xb1]⟩ 1 none, Cond.classLink RX4 7 RX3, Cond.instantiable RX3 6, Cond.initialized RX3, Cond.fieldLink RX4 10 "ColumnSeasons" "table" "LColumnSeasons$Table;", Cond.classLink RX4 16 RX1, Cond.instantiable RX1 3, Cond.initialized RX1, Cond.fieldLink RX4 19 "ColumnSeasons" "history" "LColumnSeasons$History;", Cond.fieldLink RX4 23 "ColumnSeasons" "snapshot" "LColumnSeasons$Table;", Cond.fieldLink RX4 26 "ColumnSeasons" "hasSnapshot" "Z", Cond.classLink RX4 30 RX2, Cond.instantiable RX2 6, Cond.initialized RX2, Cond.fieldLink RX4 33 "ColumnSeasons" "script" "LColumnSeasons$Script;", Cond.fieldLink RX4 37 "ColumnSeasons" "stoppedCommand" "I"]
def wsL_law_r2 : List Cond := [Cond.fieldLink RX4 41 "ColumnSeasons" "stoppedError" "I", Cond.methodLink RX4 9 yX3_init, Cond.instanceMethod yX3_init, Cond.code yX3_init cX3_init 1 none, Cond.methodLink RX3 3 objectInit, Cond.fieldLink RX3 9 "ColumnSeasons$Table" "seasons" "I", Cond.arrayClass .int, Cond.fieldLink RX3 15 "ColumnSeasons$Table" "kinds" "[I", Cond.fieldLink RX3 19 "ColumnSeasons$Table" "standards" "[I", Cond.fieldLink RX3 22 "ColumnSeasons$Table" "rows" "I", Cond.fieldLink RX3 25 "ColumnSeasons$Table" "rowSeasons" "[I", Cond.fieldLink RX3 28 "ColumnSeasons$Table" "values" "[I", Cond.methodLink RX3 31 yJ7_fill_53178, Cond.static yJ7_fill_53178, Cond.initialized RJ7, Cond.code yJ7_fill_53178 cJ7_fill_53178 4 none, Cond.methodLink RX4 18 yX1_init, Cond.instanceMethod yX1_init, Cond.code yX1_init cX1_init 2 none, Cond.methodLink RX1 3 objectInit, Cond.classLink RX1 11 RX3, Cond.fieldLink RX1 13 "ColumnSeasons$History" "slots" "[LColumnSeasons$Table;", Cond.fieldLink RX1 17 "ColumnSeasons$History" "oldest" "I", Cond.fieldLink RX1 21 "ColumnSeasons$History" "length" "I"]
def wsL_law_r3 : List Cond := [Cond.methodLink RX1 24 yX3_init, Cond.methodLink RX4 32 yX2_init, Cond.instanceMethod yX2_init, Cond.code yX2_init cX2_init 2 none, Cond.methodLink RX2 3 objectInit, Cond.arrayClass .char, Cond.fieldLink RX2 9 "ColumnSeasons$Script" "text" "[C", Cond.fieldLink RX2 15 "ColumnSeasons$Script" "length" "I", Cond.classLink RX2 19 RX0, Cond.fieldLink RX2 21 "ColumnSeasons$Script" "commands" "[LColumnSeasons$Command;", Cond.fieldLink RX2 25 "ColumnSeasons$Script" "commandCount" "I", Cond.fieldLink RX2 28 "ColumnSeasons$Script" "place" "I", Cond.fieldLink RX2 31 "ColumnSeasons$Script" "number" "I", Cond.instantiable RX0 5, Cond.initialized RX0, Cond.methodLink RX2 34 yX0_init, Cond.instanceMethod yX0_init, Cond.code yX0_init cX0_init 1 none, Cond.methodLink RX0 3 objectInit, Cond.fieldLink RX0 11 "ColumnSeasons$Command" "verb" "I", Cond.fieldLink RX0 15 "ColumnSeasons$Command" "row" "I", Cond.fieldLink RX0 18 "ColumnSeasons$Command" "name" "I", Cond.fieldLink RX0 21 "ColumnSeasons$Command" "kind" "I", Cond.fieldLink RX0 24 "ColumnSeasons$Command" "number" "I"]
def wsL_law_r4 : List Cond := [Cond.methodLink RL 22 yX4_count, Cond.instanceMethod yX4_count, Cond.selects RX4 yX4_count yX4_count, Cond.code yX4_count cX4_count 2 (some .int), Cond.methodLink RX4 204 yX3_now, Cond.instanceMethod yX3_now, Cond.selects RX3 yX3_now yX3_now, Cond.code yX3_now cX3_now 1 (some .int), Cond.methodLink RX4 133 yX3_namesIn, Cond.instanceMethod yX3_namesIn, Cond.selects RX3 yX3_namesIn yX3_namesIn, Cond.code yX3_namesIn cX3_namesIn 4 (some .int), Cond.methodLink RX3 58 yX3_kindIn, Cond.instanceMethod yX3_kindIn, Cond.selects RX3 yX3_kindIn yX3_kindIn, Cond.code yX3_kindIn cX3_kindIn 3 (some .int), Cond.methodLink RX4 136 yJ6_bitCount_0f7a4, Cond.static yJ6_bitCount_0f7a4, Cond.initialized RJ6, Cond.code yJ6_bitCount_0f7a4 cJ6_bitCount_0f7a4 1 (some .int), Cond.constant RJ6 265 (1431655765), Cond.constant RJ6 266 (858993459), Cond.constant RJ6 267 (252645135), Cond.methodLink RX4 141 yX3_rowsOfSeason]
def wsL_law_r5 : List Cond := [Cond.instanceMethod yX3_rowsOfSeason, Cond.selects RX3 yX3_rowsOfSeason yX3_rowsOfSeason, Cond.code yX3_rowsOfSeason cX3_rowsOfSeason 4 (some .int), Cond.methodLink RX4 207 yX3_valuesOfAllRows, Cond.instanceMethod yX3_valuesOfAllRows, Cond.selects RX3 yX3_valuesOfAllRows yX3_valuesOfAllRows, Cond.code yX3_valuesOfAllRows cX3_valuesOfAllRows 3 (some .int), Cond.methodLink RX3 96 yX3_namesIn, Cond.methodLink RX3 100 yJ6_bitCount_0f7a4, Cond.methodLink RX4 201 yX3_lossesIn, Cond.instanceMethod yX3_lossesIn, Cond.selects RX3 yX3_lossesIn yX3_lossesIn, Cond.code yX3_lossesIn cX3_lossesIn 4 (some .int), Cond.methodLink RX3 81 yX3_lossesOfRowIn, Cond.instanceMethod yX3_lossesOfRowIn, Cond.selects RX3 yX3_lossesOfRowIn yX3_lossesOfRowIn, Cond.code yX3_lossesOfRowIn cX3_lossesOfRowIn 7 (some .int), Cond.methodLink RX3 75 yX3_kindInRow, Cond.instanceMethod yX3_kindInRow, Cond.selects RX3 yX3_kindInRow yX3_kindInRow, Cond.code yX3_kindInRow cX3_kindInRow 3 (some .int), Cond.methodLink RX3 78 yX3_valueAt, Cond.instanceMethod yX3_valueAt, Cond.selects RX3 yX3_valueAt yX3_valueAt]
def wsL_law_r6 : List Cond := [Cond.code yX3_valueAt cX3_valueAt 3 (some .int), Cond.static yX4_castLoses, Cond.code yX4_castLoses cX4_castLoses 3 (some .boolean), Cond.methodLink RX4 239 yX4_castTo, Cond.static yX4_castTo, Cond.code yX4_castTo cX4_castTo 2 (some .int), Cond.methodLink RX4 236 Lib.Math.min.name, Cond.static Lib.Math.min.name, Cond.initialized "java/lang/Math", Cond.code Lib.Math.min.name Lib.Math.min.code 2 (some .int), Cond.methodLink RX4 168 Lib.Math.max.name, Cond.static Lib.Math.max.name, Cond.code Lib.Math.max.name Lib.Math.max.code 2 (some .int), Cond.methodLink RX4 230 yX4_leastOfKind, Cond.static yX4_leastOfKind, Cond.code yX4_leastOfKind cX4_leastOfKind 1 (some .int), Cond.methodLink RX4 233 yX4_greatestOfKind, Cond.static yX4_greatestOfKind, Cond.code yX4_greatestOfKind cX4_greatestOfKind 1 (some .int), Cond.methodLink RX4 210 yX3_namesOfAllSeasons, Cond.instanceMethod yX3_namesOfAllSeasons, Cond.selects RX3 yX3_namesOfAllSeasons yX3_namesOfAllSeasons, Cond.code yX3_namesOfAllSeasons cX3_namesOfAllSeasons 3 (some .int), Cond.methodLink RL 56 yL_cell]
def wsL_law_r7 : List Cond := [Cond.static yL_cell, Cond.initialized RL, Cond.code yL_cell cL_cell 2 (some .int), Cond.constant RL 8 (40503), Cond.methodLink RL 9 yL_low, Cond.static yL_low, Cond.code yL_low cL_low 2 (some .int), Cond.constant RL 7 (2147483647), Cond.methodLink RL 89 yL_act, Cond.static yL_act, Cond.code yL_act cL_act 9 (some .int), Cond.methodLink RL 60 yL_valued, Cond.static yL_valued, Cond.code yL_valued cL_valued 4 (some .int), Cond.methodLink RL 15 yL_least, Cond.static yL_least, Cond.code yL_least cL_least 1 (some .int), Cond.methodLink RL 19 yL_most, Cond.static yL_most, Cond.code yL_most cL_most 1 (some .int), Cond.methodLink RL 63 yX4_add, Cond.instanceMethod yX4_add, Cond.selects RX4 yX4_add yX4_add, Cond.code yX4_add cX4_add 4 (some .int)]
def wsL_law_r8 : List Cond := [Cond.methodLink RX4 44 yX1_prepare, Cond.instanceMethod yX1_prepare, Cond.selects RX1 yX1_prepare yX1_prepare, Cond.code yX1_prepare cX1_prepare 2 none, Cond.methodLink RX1 25 yX1_prepared, Cond.instanceMethod yX1_prepared, Cond.selects RX1 yX1_prepared yX1_prepared, Cond.code yX1_prepared cX1_prepared 1 (some (.object "ColumnSeasons$Table")), Cond.methodLink RX1 29 yX3_copyFrom, Cond.instanceMethod yX3_copyFrom, Cond.selects RX3 yX3_copyFrom yX3_copyFrom, Cond.code yX3_copyFrom cX3_copyFrom 2 none, Cond.methodLink RX3 37 arraycopyName, Cond.native arraycopyName, Cond.static arraycopyName, Cond.initialized "java/lang/System", Cond.methodLink RX4 48 yX3_addColumn, Cond.instanceMethod yX3_addColumn, Cond.selects RX3 yX3_addColumn yX3_addColumn, Cond.code yX3_addColumn cX3_addColumn 4 (some .int), Cond.static yX4_isName, Cond.code yX4_isName cX4_isName 1 (some .boolean), Cond.static yX4_isKind, Cond.code yX4_isKind cX4_isKind 1 (some .boolean)]
def wsL_law_r9 : List Cond := [Cond.static yX4_isOfKind, Cond.code yX4_isOfKind cX4_isOfKind 2 (some .boolean), Cond.methodLink RX3 54 yX3_now, Cond.methodLink RX3 62 yX3_beginSeasonWith, Cond.instanceMethod yX3_beginSeasonWith, Cond.selects RX3 yX3_beginSeasonWith yX3_beginSeasonWith, Cond.code yX3_beginSeasonWith cX3_beginSeasonWith 6 (some .int), Cond.methodLink RX4 52 yX4_recordIfDone, Cond.instanceMethod yX4_recordIfDone, Cond.selects RX4 yX4_recordIfDone yX4_recordIfDone, Cond.code yX4_recordIfDone cX4_recordIfDone 2 (some .int), Cond.methodLink RX4 100 yX4_isError, Cond.static yX4_isError, Cond.code yX4_isError cX4_isError 1 (some .boolean), Cond.methodLink RX4 111 yX1_record, Cond.instanceMethod yX1_record, Cond.selects RX1 yX1_record yX1_record, Cond.code yX1_record cX1_record 1 none, Cond.methodLink RL 66 yX4_drop, Cond.instanceMethod yX4_drop, Cond.selects RX4 yX4_drop yX4_drop, Cond.code yX4_drop cX4_drop 2 (some .int), Cond.methodLink RX4 56 yX3_dropColumn, Cond.instanceMethod yX3_dropColumn]
def wsL_law_r10 : List Cond := [Cond.selects RX3 yX3_dropColumn yX3_dropColumn, Cond.code yX3_dropColumn cX3_dropColumn 2 (some .int), Cond.methodLink RL 69 yX4_kind, Cond.instanceMethod yX4_kind, Cond.selects RX4 yX4_kind yX4_kind, Cond.code yX4_kind cX4_kind 3 (some .int), Cond.methodLink RX4 59 yX3_changeKind, Cond.instanceMethod yX3_changeKind, Cond.selects RX3 yX3_changeKind yX3_changeKind, Cond.code yX3_changeKind cX3_changeKind 3 (some .int), Cond.methodLink RX3 66 yX3_standardIn, Cond.instanceMethod yX3_standardIn, Cond.selects RX3 yX3_standardIn yX3_standardIn, Cond.code yX3_standardIn cX3_standardIn 3 (some .int), Cond.methodLink RL 72 yX4_row, Cond.instanceMethod yX4_row, Cond.selects RX4 yX4_row yX4_row, Cond.code yX4_row cX4_row 1 (some .int), Cond.methodLink RX4 63 yX3_writeRow, Cond.instanceMethod yX3_writeRow, Cond.selects RX3 yX3_writeRow yX3_writeRow, Cond.code yX3_writeRow cX3_writeRow 1 (some .int), Cond.methodLink RL 43 yX4_seasonOf, Cond.instanceMethod yX4_seasonOf]
def wsL_law_r11 : List Cond := [Cond.selects RX4 yX4_seasonOf yX4_seasonOf, Cond.code yX4_seasonOf cX4_seasonOf 2 (some .int), Cond.methodLink RX4 147 yX3_isRow, Cond.instanceMethod yX3_isRow, Cond.selects RX3 yX3_isRow yX3_isRow, Cond.code yX3_isRow cX3_isRow 2 (some .boolean), Cond.methodLink RX4 162 yX3_seasonOfRow, Cond.instanceMethod yX3_seasonOfRow, Cond.selects RX3 yX3_seasonOfRow yX3_seasonOfRow, Cond.code yX3_seasonOfRow cX3_seasonOfRow 2 (some .int), Cond.methodLink RL 30 yX4_column, Cond.instanceMethod yX4_column, Cond.selects RX4 yX4_column yX4_column, Cond.code yX4_column cX4_column 5 (some .int), Cond.methodLink RX4 121 yX3_isSeason, Cond.instanceMethod yX3_isSeason, Cond.selects RX3 yX3_isSeason yX3_isSeason, Cond.code yX3_isSeason cX3_isSeason 2 (some .boolean), Cond.methodLink RX4 124 yX4_isName, Cond.methodLink RX4 127 yX3_kindIn, Cond.methodLink RX4 130 yX3_standardIn, Cond.methodLink RL 76 yX4_set, Cond.instanceMethod yX4_set, Cond.selects RX4 yX4_set yX4_set]
def wsL_law_r12 : List Cond := [Cond.code yX4_set cX4_set 4 (some .int), Cond.methodLink RX4 67 yX3_changeValue, Cond.instanceMethod yX3_changeValue, Cond.selects RX3 yX3_changeValue yX3_changeValue, Cond.code yX3_changeValue cX3_changeValue 5 (some .int), Cond.methodLink RX3 72 yX3_isRow, Cond.methodLink RL 79 yX4_remove, Cond.instanceMethod yX4_remove, Cond.selects RX4 yX4_remove yX4_remove, Cond.code yX4_remove cX4_remove 2 (some .int), Cond.methodLink RX4 70 yX3_removeRow, Cond.instanceMethod yX3_removeRow, Cond.selects RX3 yX3_removeRow yX3_removeRow, Cond.code yX3_removeRow cX3_removeRow 3 (some .int), Cond.methodLink RL 82 yX4_makeOver, Cond.instanceMethod yX4_makeOver, Cond.selects RX4 yX4_makeOver yX4_makeOver, Cond.code yX4_makeOver cX4_makeOver 3 (some .int), Cond.methodLink RX4 73 yX3_makeRowsOver, Cond.instanceMethod yX3_makeRowsOver, Cond.selects RX3 yX3_makeRowsOver yX3_makeRowsOver, Cond.code yX3_makeRowsOver cX3_makeRowsOver 6 (some .int), Cond.methodLink RX3 84 yX3_dressRowInNow, Cond.instanceMethod yX3_dressRowInNow]
def wsL_law_r13 : List Cond := [Cond.selects RX3 yX3_dressRowInNow yX3_dressRowInNow, Cond.code yX3_dressRowInNow cX3_dressRowInNow 3 none, Cond.methodLink RX3 88 yX3_readIn, Cond.instanceMethod yX3_readIn, Cond.selects RX3 yX3_readIn yX3_readIn, Cond.code yX3_readIn cX3_readIn 4 (some .int), Cond.methodLink RL 85 yX4_forget, Cond.instanceMethod yX4_forget, Cond.selects RX4 yX4_forget yX4_forget, Cond.code yX4_forget cX4_forget 1 (some .int), Cond.methodLink RX4 76 yX3_forgetSeasons, Cond.instanceMethod yX3_forgetSeasons, Cond.selects RX3 yX3_forgetSeasons yX3_forgetSeasons, Cond.code yX3_forgetSeasons cX3_forgetSeasons 3 (some .int), Cond.methodLink RX3 91 Lib.Math.min.name, Cond.methodLink RL 93 yL_table, Cond.static yL_table, Cond.code yL_table cL_table 14 (some .boolean), Cond.methodLink RL 27 yX4_bestSeason, Cond.instanceMethod yX4_bestSeason, Cond.selects RX4 yX4_bestSeason yX4_bestSeason, Cond.code yX4_bestSeason cX4_bestSeason 3 (some .int), Cond.methodLink RX4 198 yX3_seasonOfFewestLosses, Cond.instanceMethod yX3_seasonOfFewestLosses]
def wsL_law_r14 : List Cond := [Cond.selects RX3 yX3_seasonOfFewestLosses yX3_seasonOfFewestLosses, Cond.code yX3_seasonOfFewestLosses cX3_seasonOfFewestLosses 5 (some .int), Cond.methodLink RX3 109 yX3_lossesIn, Cond.methodLink RL 34 yX4_season, Cond.instanceMethod yX4_season, Cond.selects RX4 yX4_season yX4_season, Cond.code yX4_season cX4_season 3 (some .int), Cond.methodLink RX4 144 yX3_newColumnsIn, Cond.instanceMethod yX3_newColumnsIn, Cond.selects RX3 yX3_newColumnsIn yX3_newColumnsIn, Cond.code yX3_newColumnsIn cX3_newColumnsIn 5 (some .int), Cond.methodLink RL 37 yX4_view, Cond.instanceMethod yX4_view, Cond.selects RX4 yX4_view yX4_view, Cond.code yX4_view cX4_view 4 (some .int), Cond.methodLink RX4 165 yX3_sharedNames, Cond.instanceMethod yX3_sharedNames, Cond.selects RX3 yX3_sharedNames yX3_sharedNames, Cond.code yX3_sharedNames cX3_sharedNames 5 (some .int), Cond.methodLink RX4 173 yX3_defaultsInView, Cond.instanceMethod yX3_defaultsInView, Cond.selects RX3 yX3_defaultsInView yX3_defaultsInView, Cond.code yX3_defaultsInView cX3_defaultsInView 7 (some .int), Cond.methodLink RX3 112 yX3_sharedNames]
def wsL_law_r15 : List Cond := [Cond.static yX4_hasName, Cond.code yX4_hasName cX4_hasName 2 (some .boolean), Cond.methodLink RL 40 yX4_value, Cond.instanceMethod yX4_value, Cond.selects RX4 yX4_value yX4_value, Cond.code yX4_value cX4_value 3 (some .int), Cond.methodLink RX4 150 yX3_kindInRow, Cond.methodLink RX4 153 yX3_valueAt, Cond.methodLink RL 46 yX4_read, Cond.instanceMethod yX4_read, Cond.selects RX4 yX4_read yX4_read, Cond.code yX4_read cX4_read 5 (some .int), Cond.methodLink RX4 156 yX3_readIn, Cond.methodLink RX4 159 yX3_howReadIn, Cond.instanceMethod yX3_howReadIn, Cond.selects RX3 yX3_howReadIn yX3_howReadIn, Cond.code yX3_howReadIn cX3_howReadIn 6 (some .int), Cond.methodLink RL 50 yL_cast, Cond.static yL_cast, Cond.code yL_cast cL_cast 2 (some .int), Cond.methodLink RL 53 yX4_viewColumn, Cond.instanceMethod yX4_viewColumn, Cond.selects RX4 yX4_viewColumn yX4_viewColumn, Cond.code yX4_viewColumn cX4_viewColumn 5 (some .int)]
def wsL_law_r16 : List Cond := [Cond.methodLink RX4 176 yX4_hasName, Cond.methodLink RX4 180 yX3_widestKind, Cond.instanceMethod yX3_widestKind, Cond.selects RX3 yX3_widestKind yX3_widestKind, Cond.code yX3_widestKind cX3_widestKind 6 (some .int), Cond.methodLink RX3 118 Lib.Math.max.name, Cond.methodLink RX4 183 yX3_sumOfValues, Cond.instanceMethod yX3_sumOfValues, Cond.selects RX3 yX3_sumOfValues yX3_sumOfValues, Cond.code yX3_sumOfValues cX3_sumOfValues 6 (some .int), Cond.methodLink RX4 186 yX3_leastValue, Cond.instanceMethod yX3_leastValue, Cond.selects RX3 yX3_leastValue yX3_leastValue, Cond.code yX3_leastValue cX3_leastValue 6 (some .int), Cond.methodLink RX4 189 yX3_greatestValue, Cond.instanceMethod yX3_greatestValue, Cond.selects RX3 yX3_greatestValue yX3_greatestValue, Cond.code yX3_greatestValue cX3_greatestValue 6 (some .int), Cond.methodLink RX4 192 yX3_unlikeValues, Cond.instanceMethod yX3_unlikeValues, Cond.selects RX3 yX3_unlikeValues yX3_unlikeValues, Cond.code yX3_unlikeValues cX3_unlikeValues 6 (some .int), Cond.methodLink RX3 121 yX3_isFirstOfItsValue, Cond.instanceMethod yX3_isFirstOfItsValue]
def wsL_law_r17 : List Cond := [Cond.selects RX3 yX3_isFirstOfItsValue yX3_isFirstOfItsValue, Cond.code yX3_isFirstOfItsValue cX3_isFirstOfItsValue 5 (some .boolean)]
def wsL_law : List Cond := (wsL_law_r1 ++ (wsL_law_r2 ++ (wsL_law_r3 ++ (wsL_law_r4 ++ (wsL_law_r5 ++ (wsL_law_r6 ++ (wsL_law_r7 ++ (wsL_law_r8 ++ (wsL_law_r9 ++ (wsL_law_r10 ++ (wsL_law_r11 ++ (wsL_law_r12 ++ (wsL_law_r13 ++ (wsL_law_r14 ++ (wsL_law_r15 ++ (wsL_law_r16 ++ wsL_law_r17)))))))))))))))) ++ wsX40 ++ wsX30 ++ wsX10 ++ wsX20 ++ wsX00 ++ ([] : List Cond)
theorem memP {ws big : List Cond} (ps : List Nat) (hp : ws = ps.filterMap (fun i => big[i]?)) : ∀ w ∈ ws, w ∈ big := fun w hw => by
  rw [hp] at hw
  obtain ⟨i, -, hi⟩ := List.mem_filterMap.mp hw
  exact List.mem_of_getElem? hi
set_option maxRecDepth 20000 in
theorem wsL_law_in_1 : ∀ w ∈ wsL_law_r1, w ∈ lw_tbl := memP [14, 15, 5, 16, 17, 18, 19, 20, 21, 22, 23, 6, 122, 52, 53, 8, 123, 124, 125, 72, 73, 9, 126, 127] (by decide +kernel)
set_option maxRecDepth 20000 in
theorem wsL_law_in_2 : ∀ w ∈ wsL_law_r2, w ∈ lw_tbl := memP [128, 24, 25, 26, 27, 31, 51, 32, 33, 34, 36, 37, 28, 29, 7, 30, 54, 55, 56, 57, 58, 61, 62, 63] (by decide +kernel)
set_option maxRecDepth 20000 in
theorem wsL_law_in_3 : ∀ w ∈ wsL_law_r3, w ∈ lw_tbl := memP [60, 74, 75, 76, 77, 101, 102, 103, 78, 105, 106, 107, 108, 80, 10, 81, 82, 83, 84, 85, 86, 87, 88, 89] (by decide +kernel)
set_option maxRecDepth 20000 in
theorem wsL_law_in_4 : ∀ w ∈ wsL_law_r4, w ∈ lw_tbl := memP [233, 234, 235, 236, 237, 172, 173, 174, 238, 239, 240, 241, 183, 184, 185, 186, 242, 243, 11, 244, 245, 246, 247, 248] (by decide +kernel)
set_option maxRecDepth 20000 in
theorem wsL_law_in_5 : ∀ w ∈ wsL_law_r5, w ∈ lw_tbl := memP [249, 250, 251, 252, 253, 254, 255, 256, 257, 258, 259, 260, 261, 175, 176, 177, 178, 179, 180, 181, 182, 187, 188, 189] (by decide +kernel)
set_option maxRecDepth 20000 in
theorem wsL_law_in_6 : ∀ w ∈ wsL_law_r6, w ∈ lw_tbl := memP [190, 192, 193, 194, 195, 196, 203, 204, 12, 205, 206, 207, 208, 197, 198, 199, 200, 201, 202, 262, 263, 264, 265, 270] (by decide +kernel)
set_option maxRecDepth 20000 in
theorem wsL_law_in_7 : ∀ w ∈ wsL_law_r7, w ∈ lw_tbl := memP [271, 4, 272, 273, 266, 267, 268, 269, 387, 388, 389, 390, 391, 392, 338, 339, 340, 341, 342, 343, 393, 394, 395, 396] (by decide +kernel)
set_option maxRecDepth 20000 in
theorem wsL_law_in_8 : ∀ w ∈ wsL_law_r8, w ∈ lw_tbl := memP [148, 149, 150, 151, 152, 153, 154, 155, 156, 157, 158, 159, 160, 162, 161, 13, 397, 398, 399, 400, 295, 296, 403, 404] (by decide +kernel)
set_option maxRecDepth 20000 in
theorem wsL_law_in_9 : ∀ w ∈ wsL_law_r9, w ∈ lw_tbl := memP [406, 407, 171, 408, 410, 3, 411, 222, 224, 1, 225, 226, 227, 228, 229, 230, 231, 232, 412, 413, 414, 415, 416, 417] (by decide +kernel)
set_option maxRecDepth 20000 in
theorem wsL_law_in_10 : ∀ w ∈ wsL_law_r10, w ∈ lw_tbl := memP [418, 419, 420, 421, 422, 423, 424, 425, 426, 427, 217, 218, 219, 220, 428, 429, 430, 431, 432, 433, 434, 435, 330, 331] (by decide +kernel)
set_option maxRecDepth 20000 in
theorem wsL_law_in_11 : ∀ w ∈ wsL_law_r11, w ∈ lw_tbl := memP [332, 333, 311, 168, 169, 170, 334, 335, 336, 337, 286, 287, 288, 289, 290, 291, 292, 293, 294, 297, 298, 436, 437, 438] (by decide +kernel)
set_option maxRecDepth 20000 in
theorem wsL_law_in_12 : ∀ w ∈ wsL_law_r12, w ∈ lw_tbl := memP [439, 440, 441, 442, 443, 167, 444, 445, 446, 447, 448, 449, 450, 451, 144, 145, 146, 147, 163, 164, 165, 166, 209, 211] (by decide +kernel)
set_option maxRecDepth 20000 in
theorem wsL_law_in_13 : ∀ w ∈ wsL_law_r13, w ∈ lw_tbl := memP [0, 212, 213, 214, 215, 216, 452, 453, 454, 455, 456, 457, 458, 459, 374, 274, 275, 276, 277, 278, 279, 280, 281, 282] (by decide +kernel)
set_option maxRecDepth 20000 in
theorem wsL_law_in_14 : ∀ w ∈ wsL_law_r14, w ∈ lw_tbl := memP [283, 284, 285, 299, 300, 301, 302, 303, 304, 305, 306, 307, 308, 309, 310, 312, 313, 314, 315, 316, 317, 318, 319, 320] (by decide +kernel)
set_option maxRecDepth 20000 in
theorem wsL_law_in_15 : ∀ w ∈ wsL_law_r15, w ∈ lw_tbl := memP [322, 323, 324, 325, 326, 327, 328, 329, 344, 345, 346, 347, 348, 349, 350, 351, 352, 353, 354, 355, 356, 357, 358, 359] (by decide +kernel)
set_option maxRecDepth 20000 in
theorem wsL_law_in_16 : ∀ w ∈ wsL_law_r16, w ∈ lw_tbl := memP [360, 361, 362, 363, 364, 365, 366, 367, 368, 369, 370, 371, 372, 373, 375, 376, 377, 378, 379, 380, 381, 382, 383, 385] (by decide +kernel)
set_option maxRecDepth 20000 in
theorem wsL_law_in_17 : ∀ w ∈ wsL_law_r17, w ∈ lw_tbl := memP [2, 386] (by decide +kernel)
set_option maxRecDepth 20000 in
theorem wsL_law_in_X40 : ∀ w ∈ wsX40, w ∈ lw_tbl := memP [129, 131, 133, 135, 137, 139, 141] (by decide +kernel)
set_option maxRecDepth 20000 in
theorem wsL_law_in_X30 : ∀ w ∈ wsX30, w ∈ lw_tbl := memP [38, 40, 42, 44, 46, 48] (by decide +kernel)
set_option maxRecDepth 20000 in
theorem wsL_law_in_X10 : ∀ w ∈ wsX10, w ∈ lw_tbl := memP [65, 67, 69] (by decide +kernel)
set_option maxRecDepth 20000 in
theorem wsL_law_in_X20 : ∀ w ∈ wsX20, w ∈ lw_tbl := memP [109, 111, 113, 115, 117, 119] (by decide +kernel)
set_option maxRecDepth 20000 in
theorem wsL_law_in_X00 : ∀ w ∈ wsX00, w ∈ lw_tbl := memP [90, 92, 94, 96, 98] (by decide +kernel)
theorem wsL_law_in : ∀ w ∈ wsL_law, w ∈ lw_tbl := List.forall_mem_append.mpr ⟨List.forall_mem_append.mpr ⟨List.forall_mem_append.mpr ⟨List.forall_mem_append.mpr ⟨List.forall_mem_append.mpr ⟨List.forall_mem_append.mpr ⟨List.forall_mem_append.mpr ⟨wsL_law_in_1, List.forall_mem_append.mpr ⟨wsL_law_in_2, List.forall_mem_append.mpr ⟨wsL_law_in_3, List.forall_mem_append.mpr ⟨wsL_law_in_4, List.forall_mem_append.mpr ⟨wsL_law_in_5, List.forall_mem_append.mpr ⟨wsL_law_in_6, List.forall_mem_append.mpr ⟨wsL_law_in_7, List.forall_mem_append.mpr ⟨wsL_law_in_8, List.forall_mem_append.mpr ⟨wsL_law_in_9, List.forall_mem_append.mpr ⟨wsL_law_in_10, List.forall_mem_append.mpr ⟨wsL_law_in_11, List.forall_mem_append.mpr ⟨wsL_law_in_12, List.forall_mem_append.mpr ⟨wsL_law_in_13, List.forall_mem_append.mpr ⟨wsL_law_in_14, List.forall_mem_append.mpr ⟨wsL_law_in_15, List.forall_mem_append.mpr ⟨wsL_law_in_16, wsL_law_in_17⟩⟩⟩⟩⟩⟩⟩⟩⟩⟩⟩⟩⟩⟩⟩⟩, wsL_law_in_X40⟩, wsL_law_in_X30⟩, wsL_law_in_X10⟩, wsL_law_in_X20⟩, wsL_law_in_X00⟩, fun _ h => absurd h List.not_mem_nil⟩
theorem inlX0 : ∀ w ∈ wsX00, w ∈ wsL_law := fun _ h => List.mem_append_left _ (List.mem_append_right _ h)
theorem inX0 : ∀ w ∈ wsX00, w ∈ lw_tbl := fun w h => wsL_law_in w (inlX0 w h)
theorem inlX1 : ∀ w ∈ wsX10, w ∈ wsL_law := fun _ h => List.mem_append_left _ (List.mem_append_left _ (List.mem_append_left _ (List.mem_append_right _ h)))
theorem inX1 : ∀ w ∈ wsX10, w ∈ lw_tbl := fun w h => wsL_law_in w (inlX1 w h)
theorem inlX2 : ∀ w ∈ wsX20, w ∈ wsL_law := fun _ h => List.mem_append_left _ (List.mem_append_left _ (List.mem_append_right _ h))
theorem inX2 : ∀ w ∈ wsX20, w ∈ lw_tbl := fun w h => wsL_law_in w (inlX2 w h)
theorem inlX3 : ∀ w ∈ wsX30, w ∈ wsL_law := fun _ h => List.mem_append_left _ (List.mem_append_left _ (List.mem_append_left _ (List.mem_append_left _ (List.mem_append_right _ h))))
theorem inX3 : ∀ w ∈ wsX30, w ∈ lw_tbl := fun w h => wsL_law_in w (inlX3 w h)
theorem inlX4 : ∀ w ∈ wsX40, w ∈ wsL_law := fun _ h => List.mem_append_left _ (List.mem_append_left _ (List.mem_append_left _ (List.mem_append_left _ (List.mem_append_left _ (List.mem_append_right _ h)))))
theorem inX4 : ∀ w ∈ wsX40, w ∈ lw_tbl := fun w h => wsL_law_in w (inlX4 w h)
theorem inX5 : ∀ w ∈ wsX50, w ∈ lw_tbl := by decide +kernel
theorem inJ6 : ∀ w ∈ wsJ60, w ∈ lw_tbl := by decide +kernel
theorem inJ9 : ∀ w ∈ wsJ90, w ∈ lw_tbl := by decide +kernel
theorem inJ10 : ∀ w ∈ wsJ100, w ∈ lw_tbl := by decide +kernel
theorem inJ7 : ∀ w ∈ wsJ70, w ∈ lw_tbl := by decide +kernel
abbrev vwCl : List vw_C := [(RX0, TX0, 5), (RX1, TX1, 3), (RX2, TX2, 6), (RX3, TX3, 6), (RX4, TX4, 7)]
end
section
theorem dX0_init_0 : decode cX0_init 0 = .ok (.aload_n 0, 1) := by decide +kernel
theorem dX0_init_1 : decode cX0_init 1 = .ok (.invokespecial 3, 3) := by decide +kernel
theorem dX0_init_4 : decode cX0_init 4 = .ok (.aload_n 0, 1) := by decide +kernel
theorem dX0_init_5 : decode cX0_init 5 = .ok (.iconst 3, 1) := by decide +kernel
theorem dX0_init_6 : decode cX0_init 6 = .ok (.putfield 11, 3) := by decide +kernel
theorem dX0_init_9 : decode cX0_init 9 = .ok (.aload_n 0, 1) := by decide +kernel
theorem dX0_init_10 : decode cX0_init 10 = .ok (.iconst 0, 1) := by decide +kernel
theorem dX0_init_11 : decode cX0_init 11 = .ok (.putfield 15, 3) := by decide +kernel
theorem dX0_init_14 : decode cX0_init 14 = .ok (.aload_n 0, 1) := by decide +kernel
theorem dX0_init_15 : decode cX0_init 15 = .ok (.iconst 0, 1) := by decide +kernel
theorem dX0_init_16 : decode cX0_init 16 = .ok (.putfield 18, 3) := by decide +kernel
theorem dX0_init_19 : decode cX0_init 19 = .ok (.aload_n 0, 1) := by decide +kernel
theorem dX0_init_20 : decode cX0_init 20 = .ok (.iconst 0, 1) := by decide +kernel
theorem dX0_init_21 : decode cX0_init 21 = .ok (.putfield 21, 3) := by decide +kernel
theorem dX0_init_24 : decode cX0_init 24 = .ok (.aload_n 0, 1) := by decide +kernel
theorem dX0_init_25 : decode cX0_init 25 = .ok (.iconst 0, 1) := by decide +kernel
theorem dX0_init_26 : decode cX0_init 26 = .ok (.putfield 24, 3) := by decide +kernel
theorem dX0_init_29 : decode cX0_init 29 = .ok (.return_, 1) := by decide +kernel
set_option maxRecDepth 20000 in
theorem ggX1_init_X3_init : GoodIn wsX1_init wsX3_init := goodIn_r _ [12, 13, 2, 3, 14, 15, 16, 17, 18, 19, 20, 21, 22, 23, 24, 28, 29, 30, 31, 32, 33] (by decide +kernel) (by decide +kernel)
set_option maxRecDepth 20000 in
theorem gX1_init_X3_init : GoodIn wsX1_init (wsX3_init) := ggX1_init_X3_init
theorem dX1_init_0 : decode cX1_init 0 = .ok (.aload_n 0, 1) := by decide +kernel
theorem dX1_init_1 : decode cX1_init 1 = .ok (.invokespecial 3, 3) := by decide +kernel
theorem dX1_init_4 : decode cX1_init 4 = .ok (.aload_n 0, 1) := by decide +kernel
theorem dX1_init_5 : decode cX1_init 5 = .ok (.iconst 5, 1) := by decide +kernel
theorem dX1_init_6 : decode cX1_init 6 = .ok (.anewarray 11, 3) := by decide +kernel
theorem dX1_init_9 : decode cX1_init 9 = .ok (.putfield 13, 3) := by decide +kernel
theorem dX1_init_12 : decode cX1_init 12 = .ok (.aload_n 0, 1) := by decide +kernel
theorem dX1_init_13 : decode cX1_init 13 = .ok (.iconst 0, 1) := by decide +kernel
theorem dX1_init_14 : decode cX1_init 14 = .ok (.putfield 17, 3) := by decide +kernel
theorem dX1_init_17 : decode cX1_init 17 = .ok (.aload_n 0, 1) := by decide +kernel
theorem dX1_init_18 : decode cX1_init 18 = .ok (.iconst 0, 1) := by decide +kernel
theorem dX1_init_19 : decode cX1_init 19 = .ok (.putfield 21, 3) := by decide +kernel
theorem dX1_init_22 : decode cX1_init 22 = .ok (.iconst 0, 1) := by decide +kernel
theorem dX1_init_23 : decode cX1_init 23 = .ok (.istore_n 1, 1) := by decide +kernel
theorem dX1_init_24 : decode cX1_init 24 = .ok (.iload_n 1, 1) := by decide +kernel
theorem dX1_init_25 : decode cX1_init 25 = .ok (.iconst 5, 1) := by decide +kernel
theorem dX1_init_26 : decode cX1_init 26 = .ok (.if_icmp .ge 22, 3) := by decide +kernel
theorem dX1_init_29 : decode cX1_init 29 = .ok (.aload_n 0, 1) := by decide +kernel
theorem dX1_init_30 : decode cX1_init 30 = .ok (.getfield 13, 3) := by decide +kernel
theorem dX1_init_33 : decode cX1_init 33 = .ok (.iload_n 1, 1) := by decide +kernel
theorem dX1_init_34 : decode cX1_init 34 = .ok (.new 11, 3) := by decide +kernel
theorem dX1_init_37 : decode cX1_init 37 = .ok (.dup, 1) := by decide +kernel
theorem dX1_init_38 : decode cX1_init 38 = .ok (.invokespecial 24, 3) := by decide +kernel
theorem dX1_init_41 : decode cX1_init 41 = .ok (.aastore, 1) := by decide +kernel
theorem dX1_init_42 : decode cX1_init 42 = .ok (.iinc 1 1, 3) := by decide +kernel
theorem dX1_init_45 : decode cX1_init 45 = .ok (.goto (-21), 3) := by decide +kernel
theorem dX1_init_48 : decode cX1_init 48 = .ok (.return_, 1) := by decide +kernel
theorem dX1_prepared_0 : decode cX1_prepared 0 = .ok (.aload_n 0, 1) := by decide +kernel
theorem dX1_prepared_1 : decode cX1_prepared 1 = .ok (.getfield 13, 3) := by decide +kernel
theorem dX1_prepared_4 : decode cX1_prepared 4 = .ok (.aload_n 0, 1) := by decide +kernel
theorem dX1_prepared_5 : decode cX1_prepared 5 = .ok (.getfield 17, 3) := by decide +kernel
theorem dX1_prepared_8 : decode cX1_prepared 8 = .ok (.aload_n 0, 1) := by decide +kernel
theorem dX1_prepared_9 : decode cX1_prepared 9 = .ok (.getfield 21, 3) := by decide +kernel
theorem dX1_prepared_12 : decode cX1_prepared 12 = .ok (.iadd, 1) := by decide +kernel
theorem dX1_prepared_13 : decode cX1_prepared 13 = .ok (.iconst 5, 1) := by decide +kernel
theorem dX1_prepared_14 : decode cX1_prepared 14 = .ok (.irem, 1) := by decide +kernel
theorem dX1_prepared_15 : decode cX1_prepared 15 = .ok (.aaload, 1) := by decide +kernel
theorem dX1_prepared_16 : decode cX1_prepared 16 = .ok (.areturn, 1) := by decide +kernel
set_option maxRecDepth 20000 in
theorem ggX1_prepare_X1_prepared : GoodIn wsX1_prepare wsX1_prepared := goodIn_r _ [5, 6, 7, 8, 24, 25, 26] (by decide +kernel) (by decide +kernel)
set_option maxRecDepth 20000 in
theorem gX1_prepare_X1_prepared : GoodIn wsX1_prepare (wsV RX1 25 RX1 yX1_prepared wsX1_prepared) := goodIn_app (goodIn_of _ (by decide +kernel)) ggX1_prepare_X1_prepared
set_option maxRecDepth 20000 in
theorem ggX1_prepare_X3_copyFrom : GoodIn wsX1_prepare wsX3_copyFrom := goodIn_r _ [13, 14, 15, 16, 17, 18, 19, 20, 21, 22, 23, 27, 28, 29, 30, 31, 32] (by decide +kernel) (by decide +kernel)
set_option maxRecDepth 20000 in
theorem gX1_prepare_X3_copyFrom : GoodIn wsX1_prepare (wsV RX1 29 RX3 yX3_copyFrom wsX3_copyFrom) := goodIn_app (goodIn_of _ (by decide +kernel)) ggX1_prepare_X3_copyFrom
theorem dX1_prepare_0 : decode cX1_prepare 0 = .ok (.aload_n 0, 1) := by decide +kernel
theorem dX1_prepare_1 : decode cX1_prepare 1 = .ok (.invokevirtual 25, 3) := by decide +kernel
theorem dX1_prepare_4 : decode cX1_prepare 4 = .ok (.aload_n 1, 1) := by decide +kernel
theorem dX1_prepare_5 : decode cX1_prepare 5 = .ok (.invokevirtual 29, 3) := by decide +kernel
theorem dX1_prepare_8 : decode cX1_prepare 8 = .ok (.return_, 1) := by decide +kernel
theorem dX1_record_0 : decode cX1_record 0 = .ok (.aload_n 0, 1) := by decide +kernel
theorem dX1_record_1 : decode cX1_record 1 = .ok (.getfield 21, 3) := by decide +kernel
theorem dX1_record_4 : decode cX1_record 4 = .ok (.iconst 4, 1) := by decide +kernel
theorem dX1_record_5 : decode cX1_record 5 = .ok (.if_icmp .ge 16, 3) := by decide +kernel
theorem dX1_record_8 : decode cX1_record 8 = .ok (.aload_n 0, 1) := by decide +kernel
theorem dX1_record_9 : decode cX1_record 9 = .ok (.dup, 1) := by decide +kernel
theorem dX1_record_10 : decode cX1_record 10 = .ok (.getfield 21, 3) := by decide +kernel
theorem dX1_record_13 : decode cX1_record 13 = .ok (.iconst 1, 1) := by decide +kernel
theorem dX1_record_14 : decode cX1_record 14 = .ok (.iadd, 1) := by decide +kernel
theorem dX1_record_15 : decode cX1_record 15 = .ok (.putfield 21, 3) := by decide +kernel
theorem dX1_record_18 : decode cX1_record 18 = .ok (.goto 15, 3) := by decide +kernel
theorem dX1_record_21 : decode cX1_record 21 = .ok (.aload_n 0, 1) := by decide +kernel
theorem dX1_record_22 : decode cX1_record 22 = .ok (.aload_n 0, 1) := by decide +kernel
theorem dX1_record_23 : decode cX1_record 23 = .ok (.getfield 17, 3) := by decide +kernel
theorem dX1_record_26 : decode cX1_record 26 = .ok (.iconst 1, 1) := by decide +kernel
theorem dX1_record_27 : decode cX1_record 27 = .ok (.iadd, 1) := by decide +kernel
theorem dX1_record_28 : decode cX1_record 28 = .ok (.iconst 5, 1) := by decide +kernel
theorem dX1_record_29 : decode cX1_record 29 = .ok (.irem, 1) := by decide +kernel
theorem dX1_record_30 : decode cX1_record 30 = .ok (.putfield 17, 3) := by decide +kernel
theorem dX1_record_33 : decode cX1_record 33 = .ok (.return_, 1) := by decide +kernel
set_option maxRecDepth 20000 in
theorem ggX2_init_X0_init : GoodIn wsX2_init wsX0_init := goodIn_r _ [16, 17, 2, 3, 18, 19, 20, 21, 22, 29, 30, 31, 32, 33] (by decide +kernel) (by decide +kernel)
set_option maxRecDepth 20000 in
theorem gX2_init_X0_init : GoodIn wsX2_init (wsX0_init) := ggX2_init_X0_init
theorem dX2_init_0 : decode cX2_init 0 = .ok (.aload_n 0, 1) := by decide +kernel
theorem dX2_init_1 : decode cX2_init 1 = .ok (.invokespecial 3, 3) := by decide +kernel
theorem dX2_init_4 : decode cX2_init 4 = .ok (.aload_n 0, 1) := by decide +kernel
theorem dX2_init_5 : decode cX2_init 5 = .ok (.bipush 80, 2) := by decide +kernel
theorem dX2_init_7 : decode cX2_init 7 = .ok (.newarray .char, 2) := by decide +kernel
theorem dX2_init_9 : decode cX2_init 9 = .ok (.putfield 9, 3) := by decide +kernel
theorem dX2_init_12 : decode cX2_init 12 = .ok (.aload_n 0, 1) := by decide +kernel
theorem dX2_init_13 : decode cX2_init 13 = .ok (.iconst 0, 1) := by decide +kernel
theorem dX2_init_14 : decode cX2_init 14 = .ok (.putfield 15, 3) := by decide +kernel
theorem dX2_init_17 : decode cX2_init 17 = .ok (.aload_n 0, 1) := by decide +kernel
theorem dX2_init_18 : decode cX2_init 18 = .ok (.bipush 20, 2) := by decide +kernel
theorem dX2_init_20 : decode cX2_init 20 = .ok (.anewarray 19, 3) := by decide +kernel
theorem dX2_init_23 : decode cX2_init 23 = .ok (.putfield 21, 3) := by decide +kernel
theorem dX2_init_26 : decode cX2_init 26 = .ok (.aload_n 0, 1) := by decide +kernel
theorem dX2_init_27 : decode cX2_init 27 = .ok (.iconst 0, 1) := by decide +kernel
theorem dX2_init_28 : decode cX2_init 28 = .ok (.putfield 25, 3) := by decide +kernel
theorem dX2_init_31 : decode cX2_init 31 = .ok (.aload_n 0, 1) := by decide +kernel
theorem dX2_init_32 : decode cX2_init 32 = .ok (.iconst 0, 1) := by decide +kernel
theorem dX2_init_33 : decode cX2_init 33 = .ok (.putfield 28, 3) := by decide +kernel
theorem dX2_init_36 : decode cX2_init 36 = .ok (.aload_n 0, 1) := by decide +kernel
theorem dX2_init_37 : decode cX2_init 37 = .ok (.iconst 0, 1) := by decide +kernel
theorem dX2_init_38 : decode cX2_init 38 = .ok (.putfield 31, 3) := by decide +kernel
theorem dX2_init_41 : decode cX2_init 41 = .ok (.iconst 0, 1) := by decide +kernel
theorem dX2_init_42 : decode cX2_init 42 = .ok (.istore_n 1, 1) := by decide +kernel
theorem dX2_init_43 : decode cX2_init 43 = .ok (.iload_n 1, 1) := by decide +kernel
theorem dX2_init_44 : decode cX2_init 44 = .ok (.bipush 20, 2) := by decide +kernel
theorem dX2_init_46 : decode cX2_init 46 = .ok (.if_icmp .ge 22, 3) := by decide +kernel
theorem dX2_init_49 : decode cX2_init 49 = .ok (.aload_n 0, 1) := by decide +kernel
theorem dX2_init_50 : decode cX2_init 50 = .ok (.getfield 21, 3) := by decide +kernel
theorem dX2_init_53 : decode cX2_init 53 = .ok (.iload_n 1, 1) := by decide +kernel
theorem dX2_init_54 : decode cX2_init 54 = .ok (.new 19, 3) := by decide +kernel
theorem dX2_init_57 : decode cX2_init 57 = .ok (.dup, 1) := by decide +kernel
theorem dX2_init_58 : decode cX2_init 58 = .ok (.invokespecial 34, 3) := by decide +kernel
theorem dX2_init_61 : decode cX2_init 61 = .ok (.aastore, 1) := by decide +kernel
theorem dX2_init_62 : decode cX2_init 62 = .ok (.iinc 1 1, 3) := by decide +kernel
theorem dX2_init_65 : decode cX2_init 65 = .ok (.goto (-22), 3) := by decide +kernel
theorem dX2_init_68 : decode cX2_init 68 = .ok (.return_, 1) := by decide +kernel
theorem dJ6_bitCount_0f7a4_0 : decode cJ6_bitCount_0f7a4 0 = .ok (.iload_n 0, 1) := by decide +kernel
theorem dJ6_bitCount_0f7a4_1 : decode cJ6_bitCount_0f7a4 1 = .ok (.iload_n 0, 1) := by decide +kernel
theorem dJ6_bitCount_0f7a4_2 : decode cJ6_bitCount_0f7a4 2 = .ok (.iconst 1, 1) := by decide +kernel
theorem dJ6_bitCount_0f7a4_3 : decode cJ6_bitCount_0f7a4 3 = .ok (.iushr, 1) := by decide +kernel
theorem dJ6_bitCount_0f7a4_4 : decode cJ6_bitCount_0f7a4 4 = .ok (.ldc_w 265, 3) := by decide +kernel
theorem dJ6_bitCount_0f7a4_7 : decode cJ6_bitCount_0f7a4 7 = .ok (.iand, 1) := by decide +kernel
theorem dJ6_bitCount_0f7a4_8 : decode cJ6_bitCount_0f7a4 8 = .ok (.isub, 1) := by decide +kernel
theorem dJ6_bitCount_0f7a4_9 : decode cJ6_bitCount_0f7a4 9 = .ok (.istore_n 0, 1) := by decide +kernel
theorem dJ6_bitCount_0f7a4_10 : decode cJ6_bitCount_0f7a4 10 = .ok (.iload_n 0, 1) := by decide +kernel
theorem dJ6_bitCount_0f7a4_11 : decode cJ6_bitCount_0f7a4 11 = .ok (.ldc_w 266, 3) := by decide +kernel
theorem dJ6_bitCount_0f7a4_14 : decode cJ6_bitCount_0f7a4 14 = .ok (.iand, 1) := by decide +kernel
theorem dJ6_bitCount_0f7a4_15 : decode cJ6_bitCount_0f7a4 15 = .ok (.iload_n 0, 1) := by decide +kernel
theorem dJ6_bitCount_0f7a4_16 : decode cJ6_bitCount_0f7a4 16 = .ok (.iconst 2, 1) := by decide +kernel
theorem dJ6_bitCount_0f7a4_17 : decode cJ6_bitCount_0f7a4 17 = .ok (.iushr, 1) := by decide +kernel
theorem dJ6_bitCount_0f7a4_18 : decode cJ6_bitCount_0f7a4 18 = .ok (.ldc_w 266, 3) := by decide +kernel
theorem dJ6_bitCount_0f7a4_21 : decode cJ6_bitCount_0f7a4 21 = .ok (.iand, 1) := by decide +kernel
theorem dJ6_bitCount_0f7a4_22 : decode cJ6_bitCount_0f7a4 22 = .ok (.iadd, 1) := by decide +kernel
theorem dJ6_bitCount_0f7a4_23 : decode cJ6_bitCount_0f7a4 23 = .ok (.istore_n 0, 1) := by decide +kernel
theorem dJ6_bitCount_0f7a4_24 : decode cJ6_bitCount_0f7a4 24 = .ok (.iload_n 0, 1) := by decide +kernel
theorem dJ6_bitCount_0f7a4_25 : decode cJ6_bitCount_0f7a4 25 = .ok (.iload_n 0, 1) := by decide +kernel
theorem dJ6_bitCount_0f7a4_26 : decode cJ6_bitCount_0f7a4 26 = .ok (.iconst 4, 1) := by decide +kernel
theorem dJ6_bitCount_0f7a4_27 : decode cJ6_bitCount_0f7a4 27 = .ok (.iushr, 1) := by decide +kernel
theorem dJ6_bitCount_0f7a4_28 : decode cJ6_bitCount_0f7a4 28 = .ok (.iadd, 1) := by decide +kernel
theorem dJ6_bitCount_0f7a4_29 : decode cJ6_bitCount_0f7a4 29 = .ok (.ldc_w 267, 3) := by decide +kernel
theorem dJ6_bitCount_0f7a4_32 : decode cJ6_bitCount_0f7a4 32 = .ok (.iand, 1) := by decide +kernel
theorem dJ6_bitCount_0f7a4_33 : decode cJ6_bitCount_0f7a4 33 = .ok (.istore_n 0, 1) := by decide +kernel
theorem dJ6_bitCount_0f7a4_34 : decode cJ6_bitCount_0f7a4 34 = .ok (.iload_n 0, 1) := by decide +kernel
theorem dJ6_bitCount_0f7a4_35 : decode cJ6_bitCount_0f7a4 35 = .ok (.iload_n 0, 1) := by decide +kernel
theorem dJ6_bitCount_0f7a4_36 : decode cJ6_bitCount_0f7a4 36 = .ok (.bipush 8, 2) := by decide +kernel
theorem dJ6_bitCount_0f7a4_38 : decode cJ6_bitCount_0f7a4 38 = .ok (.iushr, 1) := by decide +kernel
theorem dJ6_bitCount_0f7a4_39 : decode cJ6_bitCount_0f7a4 39 = .ok (.iadd, 1) := by decide +kernel
theorem dJ6_bitCount_0f7a4_40 : decode cJ6_bitCount_0f7a4 40 = .ok (.istore_n 0, 1) := by decide +kernel
theorem dJ6_bitCount_0f7a4_41 : decode cJ6_bitCount_0f7a4 41 = .ok (.iload_n 0, 1) := by decide +kernel
theorem dJ6_bitCount_0f7a4_42 : decode cJ6_bitCount_0f7a4 42 = .ok (.iload_n 0, 1) := by decide +kernel
theorem dJ6_bitCount_0f7a4_43 : decode cJ6_bitCount_0f7a4 43 = .ok (.bipush 16, 2) := by decide +kernel
theorem dJ6_bitCount_0f7a4_45 : decode cJ6_bitCount_0f7a4 45 = .ok (.iushr, 1) := by decide +kernel
theorem dJ6_bitCount_0f7a4_46 : decode cJ6_bitCount_0f7a4 46 = .ok (.iadd, 1) := by decide +kernel
theorem dJ6_bitCount_0f7a4_47 : decode cJ6_bitCount_0f7a4 47 = .ok (.istore_n 0, 1) := by decide +kernel
theorem dJ6_bitCount_0f7a4_48 : decode cJ6_bitCount_0f7a4 48 = .ok (.iload_n 0, 1) := by decide +kernel
theorem dJ6_bitCount_0f7a4_49 : decode cJ6_bitCount_0f7a4 49 = .ok (.bipush 63, 2) := by decide +kernel
theorem dJ6_bitCount_0f7a4_51 : decode cJ6_bitCount_0f7a4 51 = .ok (.iand, 1) := by decide +kernel
theorem dJ6_bitCount_0f7a4_52 : decode cJ6_bitCount_0f7a4 52 = .ok (.ireturn, 1) := by decide +kernel
theorem dJ9_max_7cf53_0 : decode cJ9_max_7cf53 0 = .ok (.iload_n 0, 1) := by decide +kernel
theorem dJ9_max_7cf53_1 : decode cJ9_max_7cf53 1 = .ok (.iload_n 1, 1) := by decide +kernel
theorem dJ9_max_7cf53_2 : decode cJ9_max_7cf53 2 = .ok (.if_icmp .lt 7, 3) := by decide +kernel
theorem dJ9_max_7cf53_5 : decode cJ9_max_7cf53 5 = .ok (.iload_n 0, 1) := by decide +kernel
theorem dJ9_max_7cf53_6 : decode cJ9_max_7cf53 6 = .ok (.goto 4, 3) := by decide +kernel
theorem dJ9_max_7cf53_9 : decode cJ9_max_7cf53 9 = .ok (.iload_n 1, 1) := by decide +kernel
theorem dJ9_max_7cf53_10 : decode cJ9_max_7cf53 10 = .ok (.ireturn, 1) := by decide +kernel
theorem dJ9_min_7cf53_0 : decode cJ9_min_7cf53 0 = .ok (.iload_n 0, 1) := by decide +kernel
theorem dJ9_min_7cf53_1 : decode cJ9_min_7cf53 1 = .ok (.iload_n 1, 1) := by decide +kernel
theorem dJ9_min_7cf53_2 : decode cJ9_min_7cf53 2 = .ok (.if_icmp .gt 7, 3) := by decide +kernel
theorem dJ9_min_7cf53_5 : decode cJ9_min_7cf53 5 = .ok (.iload_n 0, 1) := by decide +kernel
theorem dJ9_min_7cf53_6 : decode cJ9_min_7cf53 6 = .ok (.goto 4, 3) := by decide +kernel
theorem dJ9_min_7cf53_9 : decode cJ9_min_7cf53 9 = .ok (.iload_n 1, 1) := by decide +kernel
theorem dJ9_min_7cf53_10 : decode cJ9_min_7cf53 10 = .ok (.ireturn, 1) := by decide +kernel
theorem dJ7_fill_53178_0 : decode cJ7_fill_53178 0 = .ok (.iconst 0, 1) := by decide +kernel
theorem dJ7_fill_53178_1 : decode cJ7_fill_53178 1 = .ok (.istore_n 2, 1) := by decide +kernel
theorem dJ7_fill_53178_2 : decode cJ7_fill_53178 2 = .ok (.aload_n 0, 1) := by decide +kernel
theorem dJ7_fill_53178_3 : decode cJ7_fill_53178 3 = .ok (.arraylength, 1) := by decide +kernel
theorem dJ7_fill_53178_4 : decode cJ7_fill_53178 4 = .ok (.istore_n 3, 1) := by decide +kernel
theorem dJ7_fill_53178_5 : decode cJ7_fill_53178 5 = .ok (.iload_n 2, 1) := by decide +kernel
theorem dJ7_fill_53178_6 : decode cJ7_fill_53178 6 = .ok (.iload_n 3, 1) := by decide +kernel
theorem dJ7_fill_53178_7 : decode cJ7_fill_53178 7 = .ok (.if_icmp .ge 13, 3) := by decide +kernel
theorem dJ7_fill_53178_10 : decode cJ7_fill_53178 10 = .ok (.aload_n 0, 1) := by decide +kernel
theorem dJ7_fill_53178_11 : decode cJ7_fill_53178 11 = .ok (.iload_n 2, 1) := by decide +kernel
theorem dJ7_fill_53178_12 : decode cJ7_fill_53178 12 = .ok (.iload_n 1, 1) := by decide +kernel
theorem dJ7_fill_53178_13 : decode cJ7_fill_53178 13 = .ok (.iastore, 1) := by decide +kernel
theorem dJ7_fill_53178_14 : decode cJ7_fill_53178 14 = .ok (.iinc 2 1, 3) := by decide +kernel
theorem dJ7_fill_53178_17 : decode cJ7_fill_53178 17 = .ok (.goto (-12), 3) := by decide +kernel
theorem dJ7_fill_53178_20 : decode cJ7_fill_53178 20 = .ok (.return_, 1) := by decide +kernel
end
section
set_option maxRecDepth 20000 in
theorem ggX3_init_J7_fill_53178 : GoodIn wsX3_init wsJ7_fill_53178 := goodIn_r _ [14] (by decide +kernel) (by decide +kernel)
set_option maxRecDepth 20000 in
theorem gX3_init_J7_fill_53178 : GoodIn wsX3_init (va_wsS RX3 31 yJ7_fill_53178 wsJ7_fill_53178) := goodIn_app (goodIn_of _ (by decide +kernel)) ggX3_init_J7_fill_53178
theorem dX3_init_0 : decode cX3_init 0 = .ok (.aload_n 0, 1) := by decide +kernel
theorem dX3_init_1 : decode cX3_init 1 = .ok (.invokespecial 3, 3) := by decide +kernel
theorem dX3_init_4 : decode cX3_init 4 = .ok (.aload_n 0, 1) := by decide +kernel
theorem dX3_init_5 : decode cX3_init 5 = .ok (.iconst 1, 1) := by decide +kernel
theorem dX3_init_6 : decode cX3_init 6 = .ok (.putfield 9, 3) := by decide +kernel
theorem dX3_init_9 : decode cX3_init 9 = .ok (.aload_n 0, 1) := by decide +kernel
theorem dX3_init_10 : decode cX3_init 10 = .ok (.sipush 240, 3) := by decide +kernel
theorem dX3_init_13 : decode cX3_init 13 = .ok (.newarray .int, 2) := by decide +kernel
theorem dX3_init_15 : decode cX3_init 15 = .ok (.putfield 15, 3) := by decide +kernel
theorem dX3_init_18 : decode cX3_init 18 = .ok (.aload_n 0, 1) := by decide +kernel
theorem dX3_init_19 : decode cX3_init 19 = .ok (.sipush 240, 3) := by decide +kernel
theorem dX3_init_22 : decode cX3_init 22 = .ok (.newarray .int, 2) := by decide +kernel
theorem dX3_init_24 : decode cX3_init 24 = .ok (.putfield 19, 3) := by decide +kernel
theorem dX3_init_27 : decode cX3_init 27 = .ok (.aload_n 0, 1) := by decide +kernel
theorem dX3_init_28 : decode cX3_init 28 = .ok (.iconst 0, 1) := by decide +kernel
theorem dX3_init_29 : decode cX3_init 29 = .ok (.putfield 22, 3) := by decide +kernel
theorem dX3_init_32 : decode cX3_init 32 = .ok (.aload_n 0, 1) := by decide +kernel
theorem dX3_init_33 : decode cX3_init 33 = .ok (.bipush 24, 2) := by decide +kernel
theorem dX3_init_35 : decode cX3_init 35 = .ok (.newarray .int, 2) := by decide +kernel
theorem dX3_init_37 : decode cX3_init 37 = .ok (.putfield 25, 3) := by decide +kernel
theorem dX3_init_40 : decode cX3_init 40 = .ok (.aload_n 0, 1) := by decide +kernel
theorem dX3_init_41 : decode cX3_init 41 = .ok (.sipush 192, 3) := by decide +kernel
theorem dX3_init_44 : decode cX3_init 44 = .ok (.newarray .int, 2) := by decide +kernel
theorem dX3_init_46 : decode cX3_init 46 = .ok (.putfield 28, 3) := by decide +kernel
theorem dX3_init_49 : decode cX3_init 49 = .ok (.aload_n 0, 1) := by decide +kernel
theorem dX3_init_50 : decode cX3_init 50 = .ok (.getfield 15, 3) := by decide +kernel
theorem dX3_init_53 : decode cX3_init 53 = .ok (.iconst (-1), 1) := by decide +kernel
theorem dX3_init_54 : decode cX3_init 54 = .ok (.invokestatic 31, 3) := by decide +kernel
theorem dX3_init_57 : decode cX3_init 57 = .ok (.return_, 1) := by decide +kernel
theorem dX3_copyFrom_0 : decode cX3_copyFrom 0 = .ok (.aload_n 0, 1) := by decide +kernel
theorem dX3_copyFrom_1 : decode cX3_copyFrom 1 = .ok (.aload_n 1, 1) := by decide +kernel
theorem dX3_copyFrom_2 : decode cX3_copyFrom 2 = .ok (.getfield 9, 3) := by decide +kernel
theorem dX3_copyFrom_5 : decode cX3_copyFrom 5 = .ok (.putfield 9, 3) := by decide +kernel
theorem dX3_copyFrom_8 : decode cX3_copyFrom 8 = .ok (.aload_n 1, 1) := by decide +kernel
theorem dX3_copyFrom_9 : decode cX3_copyFrom 9 = .ok (.getfield 15, 3) := by decide +kernel
theorem dX3_copyFrom_12 : decode cX3_copyFrom 12 = .ok (.iconst 0, 1) := by decide +kernel
theorem dX3_copyFrom_13 : decode cX3_copyFrom 13 = .ok (.aload_n 0, 1) := by decide +kernel
theorem dX3_copyFrom_14 : decode cX3_copyFrom 14 = .ok (.getfield 15, 3) := by decide +kernel
theorem dX3_copyFrom_17 : decode cX3_copyFrom 17 = .ok (.iconst 0, 1) := by decide +kernel
theorem dX3_copyFrom_18 : decode cX3_copyFrom 18 = .ok (.aload_n 0, 1) := by decide +kernel
theorem dX3_copyFrom_19 : decode cX3_copyFrom 19 = .ok (.getfield 15, 3) := by decide +kernel
theorem dX3_copyFrom_22 : decode cX3_copyFrom 22 = .ok (.arraylength, 1) := by decide +kernel
theorem dX3_copyFrom_23 : decode cX3_copyFrom 23 = .ok (.invokestatic 37, 3) := by decide +kernel
theorem dX3_copyFrom_26 : decode cX3_copyFrom 26 = .ok (.aload_n 1, 1) := by decide +kernel
theorem dX3_copyFrom_27 : decode cX3_copyFrom 27 = .ok (.getfield 19, 3) := by decide +kernel
theorem dX3_copyFrom_30 : decode cX3_copyFrom 30 = .ok (.iconst 0, 1) := by decide +kernel
theorem dX3_copyFrom_31 : decode cX3_copyFrom 31 = .ok (.aload_n 0, 1) := by decide +kernel
theorem dX3_copyFrom_32 : decode cX3_copyFrom 32 = .ok (.getfield 19, 3) := by decide +kernel
theorem dX3_copyFrom_35 : decode cX3_copyFrom 35 = .ok (.iconst 0, 1) := by decide +kernel
theorem dX3_copyFrom_36 : decode cX3_copyFrom 36 = .ok (.aload_n 0, 1) := by decide +kernel
theorem dX3_copyFrom_37 : decode cX3_copyFrom 37 = .ok (.getfield 19, 3) := by decide +kernel
theorem dX3_copyFrom_40 : decode cX3_copyFrom 40 = .ok (.arraylength, 1) := by decide +kernel
theorem dX3_copyFrom_41 : decode cX3_copyFrom 41 = .ok (.invokestatic 37, 3) := by decide +kernel
theorem dX3_copyFrom_44 : decode cX3_copyFrom 44 = .ok (.aload_n 0, 1) := by decide +kernel
theorem dX3_copyFrom_45 : decode cX3_copyFrom 45 = .ok (.aload_n 1, 1) := by decide +kernel
theorem dX3_copyFrom_46 : decode cX3_copyFrom 46 = .ok (.getfield 22, 3) := by decide +kernel
theorem dX3_copyFrom_49 : decode cX3_copyFrom 49 = .ok (.putfield 22, 3) := by decide +kernel
theorem dX3_copyFrom_52 : decode cX3_copyFrom 52 = .ok (.aload_n 1, 1) := by decide +kernel
theorem dX3_copyFrom_53 : decode cX3_copyFrom 53 = .ok (.getfield 25, 3) := by decide +kernel
theorem dX3_copyFrom_56 : decode cX3_copyFrom 56 = .ok (.iconst 0, 1) := by decide +kernel
theorem dX3_copyFrom_57 : decode cX3_copyFrom 57 = .ok (.aload_n 0, 1) := by decide +kernel
theorem dX3_copyFrom_58 : decode cX3_copyFrom 58 = .ok (.getfield 25, 3) := by decide +kernel
theorem dX3_copyFrom_61 : decode cX3_copyFrom 61 = .ok (.iconst 0, 1) := by decide +kernel
theorem dX3_copyFrom_62 : decode cX3_copyFrom 62 = .ok (.aload_n 0, 1) := by decide +kernel
theorem dX3_copyFrom_63 : decode cX3_copyFrom 63 = .ok (.getfield 25, 3) := by decide +kernel
theorem dX3_copyFrom_66 : decode cX3_copyFrom 66 = .ok (.arraylength, 1) := by decide +kernel
theorem dX3_copyFrom_67 : decode cX3_copyFrom 67 = .ok (.invokestatic 37, 3) := by decide +kernel
theorem dX3_copyFrom_70 : decode cX3_copyFrom 70 = .ok (.aload_n 1, 1) := by decide +kernel
theorem dX3_copyFrom_71 : decode cX3_copyFrom 71 = .ok (.getfield 28, 3) := by decide +kernel
theorem dX3_copyFrom_74 : decode cX3_copyFrom 74 = .ok (.iconst 0, 1) := by decide +kernel
theorem dX3_copyFrom_75 : decode cX3_copyFrom 75 = .ok (.aload_n 0, 1) := by decide +kernel
theorem dX3_copyFrom_76 : decode cX3_copyFrom 76 = .ok (.getfield 28, 3) := by decide +kernel
theorem dX3_copyFrom_79 : decode cX3_copyFrom 79 = .ok (.iconst 0, 1) := by decide +kernel
theorem dX3_copyFrom_80 : decode cX3_copyFrom 80 = .ok (.aload_n 0, 1) := by decide +kernel
theorem dX3_copyFrom_81 : decode cX3_copyFrom 81 = .ok (.getfield 28, 3) := by decide +kernel
theorem dX3_copyFrom_84 : decode cX3_copyFrom 84 = .ok (.arraylength, 1) := by decide +kernel
theorem dX3_copyFrom_85 : decode cX3_copyFrom 85 = .ok (.invokestatic 37, 3) := by decide +kernel
theorem dX3_copyFrom_88 : decode cX3_copyFrom 88 = .ok (.return_, 1) := by decide +kernel
set_option maxRecDepth 20000 in
theorem ggX3_addColumn_X4_isName : GoodIn wsX3_addColumn wsX4_isName := goodIn_r _ [4] (by decide +kernel) (by decide +kernel)
set_option maxRecDepth 20000 in
theorem gX3_addColumn_X4_isName_n43 : GoodIn wsX3_addColumn (wsX4_isName) := ggX3_addColumn_X4_isName
set_option maxRecDepth 20000 in
theorem ggX3_addColumn_X4_isKind : GoodIn wsX3_addColumn wsX4_isKind := goodIn_r _ [6] (by decide +kernel) (by decide +kernel)
set_option maxRecDepth 20000 in
theorem gX3_addColumn_X4_isKind_n47 : GoodIn wsX3_addColumn (wsX4_isKind) := ggX3_addColumn_X4_isKind
set_option maxRecDepth 20000 in
theorem ggX3_addColumn_X4_isOfKind : GoodIn wsX3_addColumn wsX4_isOfKind := goodIn_r _ [8, 9, 10, 3, 11, 12, 13, 14] (by decide +kernel) (by decide +kernel)
set_option maxRecDepth 20000 in
theorem gX3_addColumn_X4_isOfKind_n50 : GoodIn wsX3_addColumn (wsX4_isOfKind) := ggX3_addColumn_X4_isOfKind
set_option maxRecDepth 20000 in
theorem ggX3_addColumn_X3_now : GoodIn wsX3_addColumn wsX3_now := goodIn_r _ [19, 1, 34, 35, 36, 37, 38, 39] (by decide +kernel) (by decide +kernel)
set_option maxRecDepth 20000 in
theorem gX3_addColumn_X3_now : GoodIn wsX3_addColumn (wsV RX3 54 RX3 yX3_now wsX3_now) := goodIn_app (goodIn_of _ (by decide +kernel)) ggX3_addColumn_X3_now
set_option maxRecDepth 20000 in
theorem ggX3_addColumn_X3_kindIn : GoodIn wsX3_addColumn wsX3_kindIn := goodIn_r _ [23, 24, 34, 35, 36, 37, 38, 39] (by decide +kernel) (by decide +kernel)
set_option maxRecDepth 20000 in
theorem gX3_addColumn_X3_kindIn : GoodIn wsX3_addColumn (wsV RX3 58 RX3 yX3_kindIn wsX3_kindIn) := goodIn_app (goodIn_of _ (by decide +kernel)) ggX3_addColumn_X3_kindIn
set_option maxRecDepth 20000 in
theorem ggX3_addColumn_X3_beginSeasonWith : GoodIn wsX3_addColumn wsX3_beginSeasonWith := goodIn_r _ [28, 24, 29, 30, 31, 32, 33, 1, 15, 16, 17, 18, 19, 34, 35, 36, 37, 38, 39] (by decide +kernel) (by decide +kernel)
set_option maxRecDepth 20000 in
theorem gX3_addColumn_X3_beginSeasonWith : GoodIn wsX3_addColumn (wsV RX3 62 RX3 yX3_beginSeasonWith wsX3_beginSeasonWith) := goodIn_app (goodIn_of _ (by decide +kernel)) ggX3_addColumn_X3_beginSeasonWith
theorem dX3_addColumn_0 : decode cX3_addColumn 0 = .ok (.iload_n 1, 1) := by decide +kernel
theorem dX3_addColumn_1 : decode cX3_addColumn 1 = .ok (.invokestatic 43, 3) := by decide +kernel
theorem dX3_addColumn_4 : decode cX3_addColumn 4 = .ok (.ifCond .ne 7, 3) := by decide +kernel
theorem dX3_addColumn_7 : decode cX3_addColumn 7 = .ok (.sipush (-10001), 3) := by decide +kernel
theorem dX3_addColumn_10 : decode cX3_addColumn 10 = .ok (.ireturn, 1) := by decide +kernel
theorem dX3_addColumn_11 : decode cX3_addColumn 11 = .ok (.iload_n 2, 1) := by decide +kernel
theorem dX3_addColumn_12 : decode cX3_addColumn 12 = .ok (.invokestatic 47, 3) := by decide +kernel
theorem dX3_addColumn_15 : decode cX3_addColumn 15 = .ok (.ifCond .eq 11, 3) := by decide +kernel
theorem dX3_addColumn_18 : decode cX3_addColumn 18 = .ok (.iload_n 3, 1) := by decide +kernel
theorem dX3_addColumn_19 : decode cX3_addColumn 19 = .ok (.iload_n 2, 1) := by decide +kernel
theorem dX3_addColumn_20 : decode cX3_addColumn 20 = .ok (.invokestatic 50, 3) := by decide +kernel
theorem dX3_addColumn_23 : decode cX3_addColumn 23 = .ok (.ifCond .ne 7, 3) := by decide +kernel
theorem dX3_addColumn_26 : decode cX3_addColumn 26 = .ok (.sipush (-10002), 3) := by decide +kernel
theorem dX3_addColumn_29 : decode cX3_addColumn 29 = .ok (.ireturn, 1) := by decide +kernel
theorem dX3_addColumn_30 : decode cX3_addColumn 30 = .ok (.aload_n 0, 1) := by decide +kernel
theorem dX3_addColumn_31 : decode cX3_addColumn 31 = .ok (.aload_n 0, 1) := by decide +kernel
theorem dX3_addColumn_32 : decode cX3_addColumn 32 = .ok (.invokevirtual 54, 3) := by decide +kernel
theorem dX3_addColumn_35 : decode cX3_addColumn 35 = .ok (.iload_n 1, 1) := by decide +kernel
theorem dX3_addColumn_36 : decode cX3_addColumn 36 = .ok (.invokevirtual 58, 3) := by decide +kernel
theorem dX3_addColumn_39 : decode cX3_addColumn 39 = .ok (.iconst (-1), 1) := by decide +kernel
theorem dX3_addColumn_40 : decode cX3_addColumn 40 = .ok (.if_icmp .eq 7, 3) := by decide +kernel
theorem dX3_addColumn_43 : decode cX3_addColumn 43 = .ok (.sipush (-10004), 3) := by decide +kernel
theorem dX3_addColumn_46 : decode cX3_addColumn 46 = .ok (.ireturn, 1) := by decide +kernel
theorem dX3_addColumn_47 : decode cX3_addColumn 47 = .ok (.aload_n 0, 1) := by decide +kernel
theorem dX3_addColumn_48 : decode cX3_addColumn 48 = .ok (.getfield 9, 3) := by decide +kernel
theorem dX3_addColumn_51 : decode cX3_addColumn 51 = .ok (.bipush 30, 2) := by decide +kernel
theorem dX3_addColumn_53 : decode cX3_addColumn 53 = .ok (.if_icmp .lt 7, 3) := by decide +kernel
theorem dX3_addColumn_56 : decode cX3_addColumn 56 = .ok (.sipush (-10003), 3) := by decide +kernel
theorem dX3_addColumn_59 : decode cX3_addColumn 59 = .ok (.ireturn, 1) := by decide +kernel
theorem dX3_addColumn_60 : decode cX3_addColumn 60 = .ok (.aload_n 0, 1) := by decide +kernel
theorem dX3_addColumn_61 : decode cX3_addColumn 61 = .ok (.iload_n 1, 1) := by decide +kernel
theorem dX3_addColumn_62 : decode cX3_addColumn 62 = .ok (.iload_n 2, 1) := by decide +kernel
theorem dX3_addColumn_63 : decode cX3_addColumn 63 = .ok (.iload_n 3, 1) := by decide +kernel
theorem dX3_addColumn_64 : decode cX3_addColumn 64 = .ok (.invokevirtual 62, 3) := by decide +kernel
theorem dX3_addColumn_67 : decode cX3_addColumn 67 = .ok (.ireturn, 1) := by decide +kernel
set_option maxRecDepth 20000 in
theorem ggX3_dropColumn_X4_isName : GoodIn wsX3_dropColumn wsX4_isName := goodIn_r _ [4] (by decide +kernel) (by decide +kernel)
set_option maxRecDepth 20000 in
theorem gX3_dropColumn_X4_isName_n43 : GoodIn wsX3_dropColumn (wsX4_isName) := ggX3_dropColumn_X4_isName
set_option maxRecDepth 20000 in
theorem ggX3_dropColumn_X3_now : GoodIn wsX3_dropColumn wsX3_now := goodIn_r _ [9, 1, 24, 25, 26, 27, 28, 29] (by decide +kernel) (by decide +kernel)
set_option maxRecDepth 20000 in
theorem gX3_dropColumn_X3_now : GoodIn wsX3_dropColumn (wsV RX3 54 RX3 yX3_now wsX3_now) := goodIn_app (goodIn_of _ (by decide +kernel)) ggX3_dropColumn_X3_now
set_option maxRecDepth 20000 in
theorem ggX3_dropColumn_X3_kindIn : GoodIn wsX3_dropColumn wsX3_kindIn := goodIn_r _ [13, 14, 24, 25, 26, 27, 28, 29] (by decide +kernel) (by decide +kernel)
set_option maxRecDepth 20000 in
theorem gX3_dropColumn_X3_kindIn : GoodIn wsX3_dropColumn (wsV RX3 58 RX3 yX3_kindIn wsX3_kindIn) := goodIn_app (goodIn_of _ (by decide +kernel)) ggX3_dropColumn_X3_kindIn
set_option maxRecDepth 20000 in
theorem ggX3_dropColumn_X3_beginSeasonWith : GoodIn wsX3_dropColumn wsX3_beginSeasonWith := goodIn_r _ [18, 14, 19, 20, 21, 22, 23, 1, 5, 6, 7, 8, 9, 24, 25, 26, 27, 28, 29] (by decide +kernel) (by decide +kernel)
set_option maxRecDepth 20000 in
theorem gX3_dropColumn_X3_beginSeasonWith : GoodIn wsX3_dropColumn (wsV RX3 62 RX3 yX3_beginSeasonWith wsX3_beginSeasonWith) := goodIn_app (goodIn_of _ (by decide +kernel)) ggX3_dropColumn_X3_beginSeasonWith
theorem dX3_dropColumn_0 : decode cX3_dropColumn 0 = .ok (.iload_n 1, 1) := by decide +kernel
theorem dX3_dropColumn_1 : decode cX3_dropColumn 1 = .ok (.invokestatic 43, 3) := by decide +kernel
theorem dX3_dropColumn_4 : decode cX3_dropColumn 4 = .ok (.ifCond .eq 16, 3) := by decide +kernel
theorem dX3_dropColumn_7 : decode cX3_dropColumn 7 = .ok (.aload_n 0, 1) := by decide +kernel
theorem dX3_dropColumn_8 : decode cX3_dropColumn 8 = .ok (.aload_n 0, 1) := by decide +kernel
theorem dX3_dropColumn_9 : decode cX3_dropColumn 9 = .ok (.invokevirtual 54, 3) := by decide +kernel
theorem dX3_dropColumn_12 : decode cX3_dropColumn 12 = .ok (.iload_n 1, 1) := by decide +kernel
theorem dX3_dropColumn_13 : decode cX3_dropColumn 13 = .ok (.invokevirtual 58, 3) := by decide +kernel
theorem dX3_dropColumn_16 : decode cX3_dropColumn 16 = .ok (.iconst (-1), 1) := by decide +kernel
theorem dX3_dropColumn_17 : decode cX3_dropColumn 17 = .ok (.if_icmp .ne 7, 3) := by decide +kernel
theorem dX3_dropColumn_20 : decode cX3_dropColumn 20 = .ok (.sipush (-10001), 3) := by decide +kernel
theorem dX3_dropColumn_23 : decode cX3_dropColumn 23 = .ok (.ireturn, 1) := by decide +kernel
theorem dX3_dropColumn_24 : decode cX3_dropColumn 24 = .ok (.aload_n 0, 1) := by decide +kernel
theorem dX3_dropColumn_25 : decode cX3_dropColumn 25 = .ok (.getfield 9, 3) := by decide +kernel
theorem dX3_dropColumn_28 : decode cX3_dropColumn 28 = .ok (.bipush 30, 2) := by decide +kernel
theorem dX3_dropColumn_30 : decode cX3_dropColumn 30 = .ok (.if_icmp .lt 7, 3) := by decide +kernel
theorem dX3_dropColumn_33 : decode cX3_dropColumn 33 = .ok (.sipush (-10003), 3) := by decide +kernel
theorem dX3_dropColumn_36 : decode cX3_dropColumn 36 = .ok (.ireturn, 1) := by decide +kernel
theorem dX3_dropColumn_37 : decode cX3_dropColumn 37 = .ok (.aload_n 0, 1) := by decide +kernel
theorem dX3_dropColumn_38 : decode cX3_dropColumn 38 = .ok (.iload_n 1, 1) := by decide +kernel
theorem dX3_dropColumn_39 : decode cX3_dropColumn 39 = .ok (.iconst (-1), 1) := by decide +kernel
theorem dX3_dropColumn_40 : decode cX3_dropColumn 40 = .ok (.iconst 0, 1) := by decide +kernel
theorem dX3_dropColumn_41 : decode cX3_dropColumn 41 = .ok (.invokevirtual 62, 3) := by decide +kernel
theorem dX3_dropColumn_44 : decode cX3_dropColumn 44 = .ok (.ireturn, 1) := by decide +kernel
set_option maxRecDepth 20000 in
theorem ggX3_changeKind_X4_isName : GoodIn wsX3_changeKind wsX4_isName := goodIn_r _ [4] (by decide +kernel) (by decide +kernel)
set_option maxRecDepth 20000 in
theorem gX3_changeKind_X4_isName_n43 : GoodIn wsX3_changeKind (wsX4_isName) := ggX3_changeKind_X4_isName
set_option maxRecDepth 20000 in
theorem ggX3_changeKind_X3_now : GoodIn wsX3_changeKind wsX3_now := goodIn_r _ [9, 1, 45, 46, 47, 48, 49, 50] (by decide +kernel) (by decide +kernel)
set_option maxRecDepth 20000 in
theorem gX3_changeKind_X3_now : GoodIn wsX3_changeKind (wsV RX3 54 RX3 yX3_now wsX3_now) := goodIn_app (goodIn_of _ (by decide +kernel)) ggX3_changeKind_X3_now
set_option maxRecDepth 20000 in
theorem ggX3_changeKind_X3_kindIn : GoodIn wsX3_changeKind wsX3_kindIn := goodIn_r _ [13, 14, 45, 46, 47, 48, 49, 50] (by decide +kernel) (by decide +kernel)
set_option maxRecDepth 20000 in
theorem gX3_changeKind_X3_kindIn : GoodIn wsX3_changeKind (wsV RX3 58 RX3 yX3_kindIn wsX3_kindIn) := goodIn_app (goodIn_of _ (by decide +kernel)) ggX3_changeKind_X3_kindIn
set_option maxRecDepth 20000 in
theorem ggX3_changeKind_X4_isKind : GoodIn wsX3_changeKind wsX4_isKind := goodIn_r _ [16] (by decide +kernel) (by decide +kernel)
set_option maxRecDepth 20000 in
theorem gX3_changeKind_X4_isKind_n47 : GoodIn wsX3_changeKind (wsX4_isKind) := ggX3_changeKind_X4_isKind
set_option maxRecDepth 20000 in
theorem ggX3_changeKind_X3_standardIn : GoodIn wsX3_changeKind wsX3_standardIn := goodIn_r _ [20, 21, 45, 46, 47, 48, 49, 50] (by decide +kernel) (by decide +kernel)
set_option maxRecDepth 20000 in
theorem gX3_changeKind_X3_standardIn : GoodIn wsX3_changeKind (wsV RX3 66 RX3 yX3_standardIn wsX3_standardIn) := goodIn_app (goodIn_of _ (by decide +kernel)) ggX3_changeKind_X3_standardIn
set_option maxRecDepth 20000 in
theorem ggX3_changeKind_X4_castTo : GoodIn wsX3_changeKind wsX4_castTo := goodIn_r _ [23, 24, 25, 26, 27, 28, 29, 30, 31, 32, 3, 33, 34, 35, 36] (by decide +kernel) (by decide +kernel)
set_option maxRecDepth 20000 in
theorem gX3_changeKind_X4_castTo_n69 : GoodIn wsX3_changeKind (wsX4_castTo) := ggX3_changeKind_X4_castTo
set_option maxRecDepth 20000 in
theorem ggX3_changeKind_X3_beginSeasonWith : GoodIn wsX3_changeKind wsX3_beginSeasonWith := goodIn_r _ [40, 14, 41, 42, 43, 44, 21, 1, 5, 6, 7, 8, 9, 45, 46, 47, 48, 49, 50] (by decide +kernel) (by decide +kernel)
set_option maxRecDepth 20000 in
theorem gX3_changeKind_X3_beginSeasonWith : GoodIn wsX3_changeKind (wsV RX3 62 RX3 yX3_beginSeasonWith wsX3_beginSeasonWith) := goodIn_app (goodIn_of _ (by decide +kernel)) ggX3_changeKind_X3_beginSeasonWith
theorem dX3_changeKind_0 : decode cX3_changeKind 0 = .ok (.iload_n 1, 1) := by decide +kernel
theorem dX3_changeKind_1 : decode cX3_changeKind 1 = .ok (.invokestatic 43, 3) := by decide +kernel
theorem dX3_changeKind_4 : decode cX3_changeKind 4 = .ok (.ifCond .eq 16, 3) := by decide +kernel
theorem dX3_changeKind_7 : decode cX3_changeKind 7 = .ok (.aload_n 0, 1) := by decide +kernel
theorem dX3_changeKind_8 : decode cX3_changeKind 8 = .ok (.aload_n 0, 1) := by decide +kernel
theorem dX3_changeKind_9 : decode cX3_changeKind 9 = .ok (.invokevirtual 54, 3) := by decide +kernel
theorem dX3_changeKind_12 : decode cX3_changeKind 12 = .ok (.iload_n 1, 1) := by decide +kernel
theorem dX3_changeKind_13 : decode cX3_changeKind 13 = .ok (.invokevirtual 58, 3) := by decide +kernel
theorem dX3_changeKind_16 : decode cX3_changeKind 16 = .ok (.iconst (-1), 1) := by decide +kernel
theorem dX3_changeKind_17 : decode cX3_changeKind 17 = .ok (.if_icmp .ne 7, 3) := by decide +kernel
theorem dX3_changeKind_20 : decode cX3_changeKind 20 = .ok (.sipush (-10001), 3) := by decide +kernel
theorem dX3_changeKind_23 : decode cX3_changeKind 23 = .ok (.ireturn, 1) := by decide +kernel
theorem dX3_changeKind_24 : decode cX3_changeKind 24 = .ok (.iload_n 2, 1) := by decide +kernel
theorem dX3_changeKind_25 : decode cX3_changeKind 25 = .ok (.invokestatic 47, 3) := by decide +kernel
theorem dX3_changeKind_28 : decode cX3_changeKind 28 = .ok (.ifCond .ne 7, 3) := by decide +kernel
theorem dX3_changeKind_31 : decode cX3_changeKind 31 = .ok (.sipush (-10002), 3) := by decide +kernel
theorem dX3_changeKind_34 : decode cX3_changeKind 34 = .ok (.ireturn, 1) := by decide +kernel
theorem dX3_changeKind_35 : decode cX3_changeKind 35 = .ok (.aload_n 0, 1) := by decide +kernel
theorem dX3_changeKind_36 : decode cX3_changeKind 36 = .ok (.getfield 9, 3) := by decide +kernel
theorem dX3_changeKind_39 : decode cX3_changeKind 39 = .ok (.bipush 30, 2) := by decide +kernel
theorem dX3_changeKind_41 : decode cX3_changeKind 41 = .ok (.if_icmp .lt 7, 3) := by decide +kernel
theorem dX3_changeKind_44 : decode cX3_changeKind 44 = .ok (.sipush (-10003), 3) := by decide +kernel
theorem dX3_changeKind_47 : decode cX3_changeKind 47 = .ok (.ireturn, 1) := by decide +kernel
theorem dX3_changeKind_48 : decode cX3_changeKind 48 = .ok (.aload_n 0, 1) := by decide +kernel
theorem dX3_changeKind_49 : decode cX3_changeKind 49 = .ok (.aload_n 0, 1) := by decide +kernel
theorem dX3_changeKind_50 : decode cX3_changeKind 50 = .ok (.invokevirtual 54, 3) := by decide +kernel
theorem dX3_changeKind_53 : decode cX3_changeKind 53 = .ok (.iload_n 1, 1) := by decide +kernel
theorem dX3_changeKind_54 : decode cX3_changeKind 54 = .ok (.invokevirtual 58, 3) := by decide +kernel
theorem dX3_changeKind_57 : decode cX3_changeKind 57 = .ok (.iload_n 2, 1) := by decide +kernel
theorem dX3_changeKind_58 : decode cX3_changeKind 58 = .ok (.if_icmp .ne 7, 3) := by decide +kernel
theorem dX3_changeKind_61 : decode cX3_changeKind 61 = .ok (.sipush (-10005), 3) := by decide +kernel
theorem dX3_changeKind_64 : decode cX3_changeKind 64 = .ok (.ireturn, 1) := by decide +kernel
theorem dX3_changeKind_65 : decode cX3_changeKind 65 = .ok (.aload_n 0, 1) := by decide +kernel
theorem dX3_changeKind_66 : decode cX3_changeKind 66 = .ok (.iload_n 1, 1) := by decide +kernel
theorem dX3_changeKind_67 : decode cX3_changeKind 67 = .ok (.iload_n 2, 1) := by decide +kernel
theorem dX3_changeKind_68 : decode cX3_changeKind 68 = .ok (.iload_n 2, 1) := by decide +kernel
theorem dX3_changeKind_69 : decode cX3_changeKind 69 = .ok (.aload_n 0, 1) := by decide +kernel
theorem dX3_changeKind_70 : decode cX3_changeKind 70 = .ok (.aload_n 0, 1) := by decide +kernel
theorem dX3_changeKind_71 : decode cX3_changeKind 71 = .ok (.invokevirtual 54, 3) := by decide +kernel
theorem dX3_changeKind_74 : decode cX3_changeKind 74 = .ok (.iload_n 1, 1) := by decide +kernel
theorem dX3_changeKind_75 : decode cX3_changeKind 75 = .ok (.invokevirtual 66, 3) := by decide +kernel
theorem dX3_changeKind_78 : decode cX3_changeKind 78 = .ok (.invokestatic 69, 3) := by decide +kernel
theorem dX3_changeKind_81 : decode cX3_changeKind 81 = .ok (.invokevirtual 62, 3) := by decide +kernel
theorem dX3_changeKind_84 : decode cX3_changeKind 84 = .ok (.ireturn, 1) := by decide +kernel
set_option maxRecDepth 20000 in
theorem ggX3_beginSeasonWith_X3_now : GoodIn wsX3_beginSeasonWith wsX3_now := goodIn_r _ [12, 7, 13, 14, 15, 16, 17, 18] (by decide +kernel) (by decide +kernel)
set_option maxRecDepth 20000 in
theorem gX3_beginSeasonWith_X3_now : GoodIn wsX3_beginSeasonWith (wsV RX3 54 RX3 yX3_now wsX3_now) := goodIn_app (goodIn_of _ (by decide +kernel)) ggX3_beginSeasonWith_X3_now
theorem dX3_beginSeasonWith_0 : decode cX3_beginSeasonWith 0 = .ok (.aload_n 0, 1) := by decide +kernel
theorem dX3_beginSeasonWith_1 : decode cX3_beginSeasonWith 1 = .ok (.invokevirtual 54, 3) := by decide +kernel
theorem dX3_beginSeasonWith_4 : decode cX3_beginSeasonWith 4 = .ok (.bipush 8, 2) := by decide +kernel
theorem dX3_beginSeasonWith_6 : decode cX3_beginSeasonWith 6 = .ok (.imul, 1) := by decide +kernel
theorem dX3_beginSeasonWith_7 : decode cX3_beginSeasonWith 7 = .ok (.istore 4, 2) := by decide +kernel
theorem dX3_beginSeasonWith_9 : decode cX3_beginSeasonWith 9 = .ok (.iload 4, 2) := by decide +kernel
theorem dX3_beginSeasonWith_11 : decode cX3_beginSeasonWith 11 = .ok (.bipush 8, 2) := by decide +kernel
theorem dX3_beginSeasonWith_13 : decode cX3_beginSeasonWith 13 = .ok (.iadd, 1) := by decide +kernel
theorem dX3_beginSeasonWith_14 : decode cX3_beginSeasonWith 14 = .ok (.istore 5, 2) := by decide +kernel
theorem dX3_beginSeasonWith_16 : decode cX3_beginSeasonWith 16 = .ok (.aload_n 0, 1) := by decide +kernel
theorem dX3_beginSeasonWith_17 : decode cX3_beginSeasonWith 17 = .ok (.getfield 15, 3) := by decide +kernel
theorem dX3_beginSeasonWith_20 : decode cX3_beginSeasonWith 20 = .ok (.iload 4, 2) := by decide +kernel
theorem dX3_beginSeasonWith_22 : decode cX3_beginSeasonWith 22 = .ok (.aload_n 0, 1) := by decide +kernel
theorem dX3_beginSeasonWith_23 : decode cX3_beginSeasonWith 23 = .ok (.getfield 15, 3) := by decide +kernel
theorem dX3_beginSeasonWith_26 : decode cX3_beginSeasonWith 26 = .ok (.iload 5, 2) := by decide +kernel
theorem dX3_beginSeasonWith_28 : decode cX3_beginSeasonWith 28 = .ok (.bipush 8, 2) := by decide +kernel
theorem dX3_beginSeasonWith_30 : decode cX3_beginSeasonWith 30 = .ok (.invokestatic 37, 3) := by decide +kernel
theorem dX3_beginSeasonWith_33 : decode cX3_beginSeasonWith 33 = .ok (.aload_n 0, 1) := by decide +kernel
theorem dX3_beginSeasonWith_34 : decode cX3_beginSeasonWith 34 = .ok (.getfield 19, 3) := by decide +kernel
theorem dX3_beginSeasonWith_37 : decode cX3_beginSeasonWith 37 = .ok (.iload 4, 2) := by decide +kernel
theorem dX3_beginSeasonWith_39 : decode cX3_beginSeasonWith 39 = .ok (.aload_n 0, 1) := by decide +kernel
theorem dX3_beginSeasonWith_40 : decode cX3_beginSeasonWith 40 = .ok (.getfield 19, 3) := by decide +kernel
theorem dX3_beginSeasonWith_43 : decode cX3_beginSeasonWith 43 = .ok (.iload 5, 2) := by decide +kernel
theorem dX3_beginSeasonWith_45 : decode cX3_beginSeasonWith 45 = .ok (.bipush 8, 2) := by decide +kernel
theorem dX3_beginSeasonWith_47 : decode cX3_beginSeasonWith 47 = .ok (.invokestatic 37, 3) := by decide +kernel
theorem dX3_beginSeasonWith_50 : decode cX3_beginSeasonWith 50 = .ok (.aload_n 0, 1) := by decide +kernel
theorem dX3_beginSeasonWith_51 : decode cX3_beginSeasonWith 51 = .ok (.getfield 15, 3) := by decide +kernel
theorem dX3_beginSeasonWith_54 : decode cX3_beginSeasonWith 54 = .ok (.iload 5, 2) := by decide +kernel
theorem dX3_beginSeasonWith_56 : decode cX3_beginSeasonWith 56 = .ok (.iload_n 1, 1) := by decide +kernel
theorem dX3_beginSeasonWith_57 : decode cX3_beginSeasonWith 57 = .ok (.iadd, 1) := by decide +kernel
theorem dX3_beginSeasonWith_58 : decode cX3_beginSeasonWith 58 = .ok (.iload_n 2, 1) := by decide +kernel
theorem dX3_beginSeasonWith_59 : decode cX3_beginSeasonWith 59 = .ok (.iastore, 1) := by decide +kernel
theorem dX3_beginSeasonWith_60 : decode cX3_beginSeasonWith 60 = .ok (.aload_n 0, 1) := by decide +kernel
theorem dX3_beginSeasonWith_61 : decode cX3_beginSeasonWith 61 = .ok (.getfield 19, 3) := by decide +kernel
theorem dX3_beginSeasonWith_64 : decode cX3_beginSeasonWith 64 = .ok (.iload 5, 2) := by decide +kernel
theorem dX3_beginSeasonWith_66 : decode cX3_beginSeasonWith 66 = .ok (.iload_n 1, 1) := by decide +kernel
theorem dX3_beginSeasonWith_67 : decode cX3_beginSeasonWith 67 = .ok (.iadd, 1) := by decide +kernel
theorem dX3_beginSeasonWith_68 : decode cX3_beginSeasonWith 68 = .ok (.iload_n 3, 1) := by decide +kernel
theorem dX3_beginSeasonWith_69 : decode cX3_beginSeasonWith 69 = .ok (.iastore, 1) := by decide +kernel
theorem dX3_beginSeasonWith_70 : decode cX3_beginSeasonWith 70 = .ok (.aload_n 0, 1) := by decide +kernel
theorem dX3_beginSeasonWith_71 : decode cX3_beginSeasonWith 71 = .ok (.dup, 1) := by decide +kernel
theorem dX3_beginSeasonWith_72 : decode cX3_beginSeasonWith 72 = .ok (.getfield 9, 3) := by decide +kernel
theorem dX3_beginSeasonWith_75 : decode cX3_beginSeasonWith 75 = .ok (.iconst 1, 1) := by decide +kernel
theorem dX3_beginSeasonWith_76 : decode cX3_beginSeasonWith 76 = .ok (.iadd, 1) := by decide +kernel
theorem dX3_beginSeasonWith_77 : decode cX3_beginSeasonWith 77 = .ok (.putfield 9, 3) := by decide +kernel
theorem dX3_beginSeasonWith_80 : decode cX3_beginSeasonWith 80 = .ok (.aload_n 0, 1) := by decide +kernel
theorem dX3_beginSeasonWith_81 : decode cX3_beginSeasonWith 81 = .ok (.invokevirtual 54, 3) := by decide +kernel
theorem dX3_beginSeasonWith_84 : decode cX3_beginSeasonWith 84 = .ok (.ireturn, 1) := by decide +kernel
set_option maxRecDepth 20000 in
theorem ggX3_writeRow_X3_now : GoodIn wsX3_writeRow wsX3_now := goodIn_r _ [13, 14, 15, 16, 17, 18, 19, 20] (by decide +kernel) (by decide +kernel)
set_option maxRecDepth 20000 in
theorem gX3_writeRow_X3_now : GoodIn wsX3_writeRow (wsV RX3 54 RX3 yX3_now wsX3_now) := goodIn_app (goodIn_of _ (by decide +kernel)) ggX3_writeRow_X3_now
theorem dX3_writeRow_0 : decode cX3_writeRow 0 = .ok (.aload_n 0, 1) := by decide +kernel
theorem dX3_writeRow_1 : decode cX3_writeRow 1 = .ok (.getfield 22, 3) := by decide +kernel
theorem dX3_writeRow_4 : decode cX3_writeRow 4 = .ok (.bipush 24, 2) := by decide +kernel
theorem dX3_writeRow_6 : decode cX3_writeRow 6 = .ok (.if_icmp .lt 7, 3) := by decide +kernel
theorem dX3_writeRow_9 : decode cX3_writeRow 9 = .ok (.sipush (-10003), 3) := by decide +kernel
theorem dX3_writeRow_12 : decode cX3_writeRow 12 = .ok (.ireturn, 1) := by decide +kernel
theorem dX3_writeRow_13 : decode cX3_writeRow 13 = .ok (.aload_n 0, 1) := by decide +kernel
theorem dX3_writeRow_14 : decode cX3_writeRow 14 = .ok (.getfield 19, 3) := by decide +kernel
theorem dX3_writeRow_17 : decode cX3_writeRow 17 = .ok (.aload_n 0, 1) := by decide +kernel
theorem dX3_writeRow_18 : decode cX3_writeRow 18 = .ok (.invokevirtual 54, 3) := by decide +kernel
theorem dX3_writeRow_21 : decode cX3_writeRow 21 = .ok (.bipush 8, 2) := by decide +kernel
theorem dX3_writeRow_23 : decode cX3_writeRow 23 = .ok (.imul, 1) := by decide +kernel
theorem dX3_writeRow_24 : decode cX3_writeRow 24 = .ok (.aload_n 0, 1) := by decide +kernel
theorem dX3_writeRow_25 : decode cX3_writeRow 25 = .ok (.getfield 28, 3) := by decide +kernel
theorem dX3_writeRow_28 : decode cX3_writeRow 28 = .ok (.aload_n 0, 1) := by decide +kernel
theorem dX3_writeRow_29 : decode cX3_writeRow 29 = .ok (.getfield 22, 3) := by decide +kernel
theorem dX3_writeRow_32 : decode cX3_writeRow 32 = .ok (.bipush 8, 2) := by decide +kernel
theorem dX3_writeRow_34 : decode cX3_writeRow 34 = .ok (.imul, 1) := by decide +kernel
theorem dX3_writeRow_35 : decode cX3_writeRow 35 = .ok (.bipush 8, 2) := by decide +kernel
theorem dX3_writeRow_37 : decode cX3_writeRow 37 = .ok (.invokestatic 37, 3) := by decide +kernel
theorem dX3_writeRow_40 : decode cX3_writeRow 40 = .ok (.aload_n 0, 1) := by decide +kernel
theorem dX3_writeRow_41 : decode cX3_writeRow 41 = .ok (.getfield 25, 3) := by decide +kernel
theorem dX3_writeRow_44 : decode cX3_writeRow 44 = .ok (.aload_n 0, 1) := by decide +kernel
theorem dX3_writeRow_45 : decode cX3_writeRow 45 = .ok (.getfield 22, 3) := by decide +kernel
theorem dX3_writeRow_48 : decode cX3_writeRow 48 = .ok (.aload_n 0, 1) := by decide +kernel
theorem dX3_writeRow_49 : decode cX3_writeRow 49 = .ok (.invokevirtual 54, 3) := by decide +kernel
theorem dX3_writeRow_52 : decode cX3_writeRow 52 = .ok (.iastore, 1) := by decide +kernel
theorem dX3_writeRow_53 : decode cX3_writeRow 53 = .ok (.aload_n 0, 1) := by decide +kernel
theorem dX3_writeRow_54 : decode cX3_writeRow 54 = .ok (.dup, 1) := by decide +kernel
theorem dX3_writeRow_55 : decode cX3_writeRow 55 = .ok (.getfield 22, 3) := by decide +kernel
theorem dX3_writeRow_58 : decode cX3_writeRow 58 = .ok (.iconst 1, 1) := by decide +kernel
theorem dX3_writeRow_59 : decode cX3_writeRow 59 = .ok (.iadd, 1) := by decide +kernel
theorem dX3_writeRow_60 : decode cX3_writeRow 60 = .ok (.putfield 22, 3) := by decide +kernel
theorem dX3_writeRow_63 : decode cX3_writeRow 63 = .ok (.aload_n 0, 1) := by decide +kernel
theorem dX3_writeRow_64 : decode cX3_writeRow 64 = .ok (.getfield 22, 3) := by decide +kernel
theorem dX3_writeRow_67 : decode cX3_writeRow 67 = .ok (.iconst 1, 1) := by decide +kernel
theorem dX3_writeRow_68 : decode cX3_writeRow 68 = .ok (.isub, 1) := by decide +kernel
theorem dX3_writeRow_69 : decode cX3_writeRow 69 = .ok (.ireturn, 1) := by decide +kernel
set_option maxRecDepth 20000 in
theorem ggX3_changeValue_X3_isRow : GoodIn wsX3_changeValue wsX3_isRow := goodIn_r _ [6, 7, 33, 34, 35, 36, 37, 38] (by decide +kernel) (by decide +kernel)
set_option maxRecDepth 20000 in
theorem gX3_changeValue_X3_isRow : GoodIn wsX3_changeValue (wsV RX3 72 RX3 yX3_isRow wsX3_isRow) := goodIn_app (goodIn_of _ (by decide +kernel)) ggX3_changeValue_X3_isRow
set_option maxRecDepth 20000 in
theorem ggX3_changeValue_X4_isName : GoodIn wsX3_changeValue wsX4_isName := goodIn_r _ [10] (by decide +kernel) (by decide +kernel)
set_option maxRecDepth 20000 in
theorem gX3_changeValue_X4_isName_n43 : GoodIn wsX3_changeValue (wsX4_isName) := ggX3_changeValue_X4_isName
set_option maxRecDepth 20000 in
theorem ggX3_changeValue_X3_kindInRow : GoodIn wsX3_changeValue wsX3_kindInRow := goodIn_r _ [14, 15, 16, 17, 18, 5, 19, 20, 33, 34, 35, 36, 37, 38] (by decide +kernel) (by decide +kernel)
set_option maxRecDepth 20000 in
theorem gX3_changeValue_X3_kindInRow : GoodIn wsX3_changeValue (wsV RX3 75 RX3 yX3_kindInRow wsX3_kindInRow) := goodIn_app (goodIn_of _ (by decide +kernel)) ggX3_changeValue_X3_kindInRow
set_option maxRecDepth 20000 in
theorem ggX3_changeValue_X4_isOfKind : GoodIn wsX3_changeValue wsX4_isOfKind := goodIn_r _ [22, 23, 24, 9, 25, 26, 27, 28] (by decide +kernel) (by decide +kernel)
set_option maxRecDepth 20000 in
theorem gX3_changeValue_X4_isOfKind_n50 : GoodIn wsX3_changeValue (wsX4_isOfKind) := ggX3_changeValue_X4_isOfKind
set_option maxRecDepth 20000 in
theorem ggX3_changeValue_X3_valueAt : GoodIn wsX3_changeValue wsX3_valueAt := goodIn_r _ [32, 1, 33, 34, 35, 36, 37, 38] (by decide +kernel) (by decide +kernel)
set_option maxRecDepth 20000 in
theorem gX3_changeValue_X3_valueAt : GoodIn wsX3_changeValue (wsV RX3 78 RX3 yX3_valueAt wsX3_valueAt) := goodIn_app (goodIn_of _ (by decide +kernel)) ggX3_changeValue_X3_valueAt
theorem dX3_changeValue_0 : decode cX3_changeValue 0 = .ok (.aload_n 0, 1) := by decide +kernel
theorem dX3_changeValue_1 : decode cX3_changeValue 1 = .ok (.iload_n 1, 1) := by decide +kernel
theorem dX3_changeValue_2 : decode cX3_changeValue 2 = .ok (.invokevirtual 72, 3) := by decide +kernel
theorem dX3_changeValue_5 : decode cX3_changeValue 5 = .ok (.ifCond .eq 20, 3) := by decide +kernel
theorem dX3_changeValue_8 : decode cX3_changeValue 8 = .ok (.iload_n 2, 1) := by decide +kernel
theorem dX3_changeValue_9 : decode cX3_changeValue 9 = .ok (.invokestatic 43, 3) := by decide +kernel
theorem dX3_changeValue_12 : decode cX3_changeValue 12 = .ok (.ifCond .eq 13, 3) := by decide +kernel
theorem dX3_changeValue_15 : decode cX3_changeValue 15 = .ok (.aload_n 0, 1) := by decide +kernel
theorem dX3_changeValue_16 : decode cX3_changeValue 16 = .ok (.iload_n 1, 1) := by decide +kernel
theorem dX3_changeValue_17 : decode cX3_changeValue 17 = .ok (.iload_n 2, 1) := by decide +kernel
theorem dX3_changeValue_18 : decode cX3_changeValue 18 = .ok (.invokevirtual 75, 3) := by decide +kernel
theorem dX3_changeValue_21 : decode cX3_changeValue 21 = .ok (.iconst (-1), 1) := by decide +kernel
theorem dX3_changeValue_22 : decode cX3_changeValue 22 = .ok (.if_icmp .ne 7, 3) := by decide +kernel
theorem dX3_changeValue_25 : decode cX3_changeValue 25 = .ok (.sipush (-10001), 3) := by decide +kernel
theorem dX3_changeValue_28 : decode cX3_changeValue 28 = .ok (.ireturn, 1) := by decide +kernel
theorem dX3_changeValue_29 : decode cX3_changeValue 29 = .ok (.iload_n 3, 1) := by decide +kernel
theorem dX3_changeValue_30 : decode cX3_changeValue 30 = .ok (.aload_n 0, 1) := by decide +kernel
theorem dX3_changeValue_31 : decode cX3_changeValue 31 = .ok (.iload_n 1, 1) := by decide +kernel
theorem dX3_changeValue_32 : decode cX3_changeValue 32 = .ok (.iload_n 2, 1) := by decide +kernel
theorem dX3_changeValue_33 : decode cX3_changeValue 33 = .ok (.invokevirtual 75, 3) := by decide +kernel
theorem dX3_changeValue_36 : decode cX3_changeValue 36 = .ok (.invokestatic 50, 3) := by decide +kernel
theorem dX3_changeValue_39 : decode cX3_changeValue 39 = .ok (.ifCond .ne 7, 3) := by decide +kernel
theorem dX3_changeValue_42 : decode cX3_changeValue 42 = .ok (.sipush (-10002), 3) := by decide +kernel
theorem dX3_changeValue_45 : decode cX3_changeValue 45 = .ok (.ireturn, 1) := by decide +kernel
theorem dX3_changeValue_46 : decode cX3_changeValue 46 = .ok (.aload_n 0, 1) := by decide +kernel
theorem dX3_changeValue_47 : decode cX3_changeValue 47 = .ok (.iload_n 1, 1) := by decide +kernel
theorem dX3_changeValue_48 : decode cX3_changeValue 48 = .ok (.iload_n 2, 1) := by decide +kernel
theorem dX3_changeValue_49 : decode cX3_changeValue 49 = .ok (.invokevirtual 78, 3) := by decide +kernel
theorem dX3_changeValue_52 : decode cX3_changeValue 52 = .ok (.istore 4, 2) := by decide +kernel
theorem dX3_changeValue_54 : decode cX3_changeValue 54 = .ok (.iload 4, 2) := by decide +kernel
theorem dX3_changeValue_56 : decode cX3_changeValue 56 = .ok (.iload_n 3, 1) := by decide +kernel
theorem dX3_changeValue_57 : decode cX3_changeValue 57 = .ok (.if_icmp .ne 7, 3) := by decide +kernel
theorem dX3_changeValue_60 : decode cX3_changeValue 60 = .ok (.sipush (-10005), 3) := by decide +kernel
theorem dX3_changeValue_63 : decode cX3_changeValue 63 = .ok (.ireturn, 1) := by decide +kernel
theorem dX3_changeValue_64 : decode cX3_changeValue 64 = .ok (.aload_n 0, 1) := by decide +kernel
theorem dX3_changeValue_65 : decode cX3_changeValue 65 = .ok (.getfield 28, 3) := by decide +kernel
theorem dX3_changeValue_68 : decode cX3_changeValue 68 = .ok (.iload_n 1, 1) := by decide +kernel
theorem dX3_changeValue_69 : decode cX3_changeValue 69 = .ok (.bipush 8, 2) := by decide +kernel
theorem dX3_changeValue_71 : decode cX3_changeValue 71 = .ok (.imul, 1) := by decide +kernel
theorem dX3_changeValue_72 : decode cX3_changeValue 72 = .ok (.iload_n 2, 1) := by decide +kernel
theorem dX3_changeValue_73 : decode cX3_changeValue 73 = .ok (.iadd, 1) := by decide +kernel
theorem dX3_changeValue_74 : decode cX3_changeValue 74 = .ok (.iload_n 3, 1) := by decide +kernel
theorem dX3_changeValue_75 : decode cX3_changeValue 75 = .ok (.iastore, 1) := by decide +kernel
theorem dX3_changeValue_76 : decode cX3_changeValue 76 = .ok (.iload 4, 2) := by decide +kernel
theorem dX3_changeValue_78 : decode cX3_changeValue 78 = .ok (.ireturn, 1) := by decide +kernel
set_option maxRecDepth 20000 in
theorem ggX3_removeRow_X3_isRow : GoodIn wsX3_removeRow wsX3_isRow := goodIn_r _ [12, 1, 13, 14, 15, 16, 17, 18] (by decide +kernel) (by decide +kernel)
set_option maxRecDepth 20000 in
theorem gX3_removeRow_X3_isRow : GoodIn wsX3_removeRow (wsV RX3 72 RX3 yX3_isRow wsX3_isRow) := goodIn_app (goodIn_of _ (by decide +kernel)) ggX3_removeRow_X3_isRow
theorem dX3_removeRow_0 : decode cX3_removeRow 0 = .ok (.aload_n 0, 1) := by decide +kernel
theorem dX3_removeRow_1 : decode cX3_removeRow 1 = .ok (.iload_n 1, 1) := by decide +kernel
theorem dX3_removeRow_2 : decode cX3_removeRow 2 = .ok (.invokevirtual 72, 3) := by decide +kernel
theorem dX3_removeRow_5 : decode cX3_removeRow 5 = .ok (.ifCond .ne 7, 3) := by decide +kernel
theorem dX3_removeRow_8 : decode cX3_removeRow 8 = .ok (.sipush (-10001), 3) := by decide +kernel
theorem dX3_removeRow_11 : decode cX3_removeRow 11 = .ok (.ireturn, 1) := by decide +kernel
theorem dX3_removeRow_12 : decode cX3_removeRow 12 = .ok (.aload_n 0, 1) := by decide +kernel
theorem dX3_removeRow_13 : decode cX3_removeRow 13 = .ok (.getfield 22, 3) := by decide +kernel
theorem dX3_removeRow_16 : decode cX3_removeRow 16 = .ok (.iload_n 1, 1) := by decide +kernel
theorem dX3_removeRow_17 : decode cX3_removeRow 17 = .ok (.isub, 1) := by decide +kernel
theorem dX3_removeRow_18 : decode cX3_removeRow 18 = .ok (.iconst 1, 1) := by decide +kernel
theorem dX3_removeRow_19 : decode cX3_removeRow 19 = .ok (.isub, 1) := by decide +kernel
theorem dX3_removeRow_20 : decode cX3_removeRow 20 = .ok (.istore_n 2, 1) := by decide +kernel
theorem dX3_removeRow_21 : decode cX3_removeRow 21 = .ok (.aload_n 0, 1) := by decide +kernel
theorem dX3_removeRow_22 : decode cX3_removeRow 22 = .ok (.getfield 25, 3) := by decide +kernel
theorem dX3_removeRow_25 : decode cX3_removeRow 25 = .ok (.iload_n 1, 1) := by decide +kernel
theorem dX3_removeRow_26 : decode cX3_removeRow 26 = .ok (.iconst 1, 1) := by decide +kernel
theorem dX3_removeRow_27 : decode cX3_removeRow 27 = .ok (.iadd, 1) := by decide +kernel
theorem dX3_removeRow_28 : decode cX3_removeRow 28 = .ok (.aload_n 0, 1) := by decide +kernel
theorem dX3_removeRow_29 : decode cX3_removeRow 29 = .ok (.getfield 25, 3) := by decide +kernel
theorem dX3_removeRow_32 : decode cX3_removeRow 32 = .ok (.iload_n 1, 1) := by decide +kernel
theorem dX3_removeRow_33 : decode cX3_removeRow 33 = .ok (.iload_n 2, 1) := by decide +kernel
theorem dX3_removeRow_34 : decode cX3_removeRow 34 = .ok (.invokestatic 37, 3) := by decide +kernel
theorem dX3_removeRow_37 : decode cX3_removeRow 37 = .ok (.aload_n 0, 1) := by decide +kernel
theorem dX3_removeRow_38 : decode cX3_removeRow 38 = .ok (.getfield 28, 3) := by decide +kernel
theorem dX3_removeRow_41 : decode cX3_removeRow 41 = .ok (.iload_n 1, 1) := by decide +kernel
theorem dX3_removeRow_42 : decode cX3_removeRow 42 = .ok (.iconst 1, 1) := by decide +kernel
theorem dX3_removeRow_43 : decode cX3_removeRow 43 = .ok (.iadd, 1) := by decide +kernel
theorem dX3_removeRow_44 : decode cX3_removeRow 44 = .ok (.bipush 8, 2) := by decide +kernel
theorem dX3_removeRow_46 : decode cX3_removeRow 46 = .ok (.imul, 1) := by decide +kernel
theorem dX3_removeRow_47 : decode cX3_removeRow 47 = .ok (.aload_n 0, 1) := by decide +kernel
theorem dX3_removeRow_48 : decode cX3_removeRow 48 = .ok (.getfield 28, 3) := by decide +kernel
theorem dX3_removeRow_51 : decode cX3_removeRow 51 = .ok (.iload_n 1, 1) := by decide +kernel
theorem dX3_removeRow_52 : decode cX3_removeRow 52 = .ok (.bipush 8, 2) := by decide +kernel
theorem dX3_removeRow_54 : decode cX3_removeRow 54 = .ok (.imul, 1) := by decide +kernel
theorem dX3_removeRow_55 : decode cX3_removeRow 55 = .ok (.iload_n 2, 1) := by decide +kernel
theorem dX3_removeRow_56 : decode cX3_removeRow 56 = .ok (.bipush 8, 2) := by decide +kernel
theorem dX3_removeRow_58 : decode cX3_removeRow 58 = .ok (.imul, 1) := by decide +kernel
theorem dX3_removeRow_59 : decode cX3_removeRow 59 = .ok (.invokestatic 37, 3) := by decide +kernel
theorem dX3_removeRow_62 : decode cX3_removeRow 62 = .ok (.aload_n 0, 1) := by decide +kernel
theorem dX3_removeRow_63 : decode cX3_removeRow 63 = .ok (.dup, 1) := by decide +kernel
theorem dX3_removeRow_64 : decode cX3_removeRow 64 = .ok (.getfield 22, 3) := by decide +kernel
theorem dX3_removeRow_67 : decode cX3_removeRow 67 = .ok (.iconst 1, 1) := by decide +kernel
theorem dX3_removeRow_68 : decode cX3_removeRow 68 = .ok (.isub, 1) := by decide +kernel
theorem dX3_removeRow_69 : decode cX3_removeRow 69 = .ok (.putfield 22, 3) := by decide +kernel
theorem dX3_removeRow_72 : decode cX3_removeRow 72 = .ok (.aload_n 0, 1) := by decide +kernel
theorem dX3_removeRow_73 : decode cX3_removeRow 73 = .ok (.getfield 22, 3) := by decide +kernel
theorem dX3_removeRow_76 : decode cX3_removeRow 76 = .ok (.ireturn, 1) := by decide +kernel
set_option maxRecDepth 20000 in
theorem ggX3_makeRowsOver_X3_isRow : GoodIn wsX3_makeRowsOver wsX3_isRow := goodIn_r _ [6, 7, 63, 64, 65, 66, 67, 68] (by decide +kernel) (by decide +kernel)
set_option maxRecDepth 20000 in
theorem gX3_makeRowsOver_X3_isRow : GoodIn wsX3_makeRowsOver (wsV RX3 72 RX3 yX3_isRow wsX3_isRow) := goodIn_app (goodIn_of _ (by decide +kernel)) ggX3_makeRowsOver_X3_isRow
set_option maxRecDepth 20000 in
theorem ggX3_makeRowsOver_X3_now : GoodIn wsX3_makeRowsOver wsX3_now := goodIn_r _ [11, 12, 63, 64, 65, 66, 67, 68] (by decide +kernel) (by decide +kernel)
set_option maxRecDepth 20000 in
theorem gX3_makeRowsOver_X3_now : GoodIn wsX3_makeRowsOver (wsV RX3 54 RX3 yX3_now wsX3_now) := goodIn_app (goodIn_of _ (by decide +kernel)) ggX3_makeRowsOver_X3_now
set_option maxRecDepth 20000 in
theorem ggX3_makeRowsOver_X3_lossesOfRowIn : GoodIn wsX3_makeRowsOver wsX3_lossesOfRowIn := goodIn_r _ [16, 17, 18, 19, 5, 20, 1, 21, 22, 23, 24, 25, 26, 27, 28, 29, 30, 31, 32, 33, 34, 35, 36, 37, 38, 39, 40, 41, 42, 43, 44, 45, 46, 47, 48, 49, 63, 64, 65, 66, 67, 68] (by decide +kernel) (by decide +kernel)
set_option maxRecDepth 20000 in
theorem gX3_makeRowsOver_X3_lossesOfRowIn : GoodIn wsX3_makeRowsOver (wsV RX3 81 RX3 yX3_lossesOfRowIn wsX3_lossesOfRowIn) := goodIn_app (goodIn_of _ (by decide +kernel)) ggX3_makeRowsOver_X3_lossesOfRowIn
set_option maxRecDepth 20000 in
theorem ggX3_makeRowsOver_X3_dressRowInNow : GoodIn wsX3_makeRowsOver wsX3_dressRowInNow := goodIn_r _ [53, 30, 1, 8, 9, 10, 5, 11, 12, 21, 22, 23, 24, 25, 54, 55, 56, 57, 17, 18, 19, 20, 58, 59, 60, 61, 62, 26, 27, 28, 29, 35, 32, 36, 37, 38, 39, 40, 41, 42, 43, 44, 45, 46, 47, 48, 49, 63, 64, 65, 66, 67, 68] (by decide +kernel) (by decide +kernel)
set_option maxRecDepth 20000 in
theorem gX3_makeRowsOver_X3_dressRowInNow : GoodIn wsX3_makeRowsOver (wsV RX3 84 RX3 yX3_dressRowInNow wsX3_dressRowInNow) := goodIn_app (goodIn_of _ (by decide +kernel)) ggX3_makeRowsOver_X3_dressRowInNow
theorem dX3_makeRowsOver_0 : decode cX3_makeRowsOver 0 = .ok (.aload_n 0, 1) := by decide +kernel
theorem dX3_makeRowsOver_1 : decode cX3_makeRowsOver 1 = .ok (.iload_n 1, 1) := by decide +kernel
theorem dX3_makeRowsOver_2 : decode cX3_makeRowsOver 2 = .ok (.invokevirtual 72, 3) := by decide +kernel
theorem dX3_makeRowsOver_5 : decode cX3_makeRowsOver 5 = .ok (.ifCond .eq 11, 3) := by decide +kernel
theorem dX3_makeRowsOver_8 : decode cX3_makeRowsOver 8 = .ok (.aload_n 0, 1) := by decide +kernel
theorem dX3_makeRowsOver_9 : decode cX3_makeRowsOver 9 = .ok (.iload_n 2, 1) := by decide +kernel
theorem dX3_makeRowsOver_10 : decode cX3_makeRowsOver 10 = .ok (.invokevirtual 72, 3) := by decide +kernel
theorem dX3_makeRowsOver_13 : decode cX3_makeRowsOver 13 = .ok (.ifCond .ne 7, 3) := by decide +kernel
theorem dX3_makeRowsOver_16 : decode cX3_makeRowsOver 16 = .ok (.sipush (-10001), 3) := by decide +kernel
theorem dX3_makeRowsOver_19 : decode cX3_makeRowsOver 19 = .ok (.ireturn, 1) := by decide +kernel
theorem dX3_makeRowsOver_20 : decode cX3_makeRowsOver 20 = .ok (.iload_n 2, 1) := by decide +kernel
theorem dX3_makeRowsOver_21 : decode cX3_makeRowsOver 21 = .ok (.iload_n 1, 1) := by decide +kernel
theorem dX3_makeRowsOver_22 : decode cX3_makeRowsOver 22 = .ok (.if_icmp .ge 7, 3) := by decide +kernel
theorem dX3_makeRowsOver_25 : decode cX3_makeRowsOver 25 = .ok (.sipush (-10002), 3) := by decide +kernel
theorem dX3_makeRowsOver_28 : decode cX3_makeRowsOver 28 = .ok (.ireturn, 1) := by decide +kernel
theorem dX3_makeRowsOver_29 : decode cX3_makeRowsOver 29 = .ok (.iconst 0, 1) := by decide +kernel
theorem dX3_makeRowsOver_30 : decode cX3_makeRowsOver 30 = .ok (.istore_n 3, 1) := by decide +kernel
theorem dX3_makeRowsOver_31 : decode cX3_makeRowsOver 31 = .ok (.iconst 0, 1) := by decide +kernel
theorem dX3_makeRowsOver_32 : decode cX3_makeRowsOver 32 = .ok (.istore 4, 2) := by decide +kernel
theorem dX3_makeRowsOver_34 : decode cX3_makeRowsOver 34 = .ok (.iload_n 1, 1) := by decide +kernel
theorem dX3_makeRowsOver_35 : decode cX3_makeRowsOver 35 = .ok (.istore 5, 2) := by decide +kernel
theorem dX3_makeRowsOver_37 : decode cX3_makeRowsOver 37 = .ok (.iload 5, 2) := by decide +kernel
theorem dX3_makeRowsOver_39 : decode cX3_makeRowsOver 39 = .ok (.iload_n 2, 1) := by decide +kernel
theorem dX3_makeRowsOver_40 : decode cX3_makeRowsOver 40 = .ok (.if_icmp .gt 46, 3) := by decide +kernel
theorem dX3_makeRowsOver_43 : decode cX3_makeRowsOver 43 = .ok (.aload_n 0, 1) := by decide +kernel
theorem dX3_makeRowsOver_44 : decode cX3_makeRowsOver 44 = .ok (.getfield 25, 3) := by decide +kernel
theorem dX3_makeRowsOver_47 : decode cX3_makeRowsOver 47 = .ok (.iload 5, 2) := by decide +kernel
theorem dX3_makeRowsOver_49 : decode cX3_makeRowsOver 49 = .ok (.iaload, 1) := by decide +kernel
theorem dX3_makeRowsOver_50 : decode cX3_makeRowsOver 50 = .ok (.aload_n 0, 1) := by decide +kernel
theorem dX3_makeRowsOver_51 : decode cX3_makeRowsOver 51 = .ok (.invokevirtual 54, 3) := by decide +kernel
theorem dX3_makeRowsOver_54 : decode cX3_makeRowsOver 54 = .ok (.if_icmp .eq 26, 3) := by decide +kernel
theorem dX3_makeRowsOver_57 : decode cX3_makeRowsOver 57 = .ok (.iconst 1, 1) := by decide +kernel
theorem dX3_makeRowsOver_58 : decode cX3_makeRowsOver 58 = .ok (.istore_n 3, 1) := by decide +kernel
theorem dX3_makeRowsOver_59 : decode cX3_makeRowsOver 59 = .ok (.iload 4, 2) := by decide +kernel
theorem dX3_makeRowsOver_61 : decode cX3_makeRowsOver 61 = .ok (.aload_n 0, 1) := by decide +kernel
theorem dX3_makeRowsOver_62 : decode cX3_makeRowsOver 62 = .ok (.aload_n 0, 1) := by decide +kernel
theorem dX3_makeRowsOver_63 : decode cX3_makeRowsOver 63 = .ok (.invokevirtual 54, 3) := by decide +kernel
theorem dX3_makeRowsOver_66 : decode cX3_makeRowsOver 66 = .ok (.iload 5, 2) := by decide +kernel
theorem dX3_makeRowsOver_68 : decode cX3_makeRowsOver 68 = .ok (.invokevirtual 81, 3) := by decide +kernel
theorem dX3_makeRowsOver_71 : decode cX3_makeRowsOver 71 = .ok (.iadd, 1) := by decide +kernel
theorem dX3_makeRowsOver_72 : decode cX3_makeRowsOver 72 = .ok (.istore 4, 2) := by decide +kernel
theorem dX3_makeRowsOver_74 : decode cX3_makeRowsOver 74 = .ok (.aload_n 0, 1) := by decide +kernel
theorem dX3_makeRowsOver_75 : decode cX3_makeRowsOver 75 = .ok (.iload 5, 2) := by decide +kernel
theorem dX3_makeRowsOver_77 : decode cX3_makeRowsOver 77 = .ok (.invokevirtual 84, 3) := by decide +kernel
theorem dX3_makeRowsOver_80 : decode cX3_makeRowsOver 80 = .ok (.iinc 5 1, 3) := by decide +kernel
theorem dX3_makeRowsOver_83 : decode cX3_makeRowsOver 83 = .ok (.goto (-46), 3) := by decide +kernel
theorem dX3_makeRowsOver_86 : decode cX3_makeRowsOver 86 = .ok (.iload_n 3, 1) := by decide +kernel
theorem dX3_makeRowsOver_87 : decode cX3_makeRowsOver 87 = .ok (.ifCond .eq 8, 3) := by decide +kernel
theorem dX3_makeRowsOver_90 : decode cX3_makeRowsOver 90 = .ok (.iload 4, 2) := by decide +kernel
theorem dX3_makeRowsOver_92 : decode cX3_makeRowsOver 92 = .ok (.goto 6, 3) := by decide +kernel
theorem dX3_makeRowsOver_95 : decode cX3_makeRowsOver 95 = .ok (.sipush (-10005), 3) := by decide +kernel
theorem dX3_makeRowsOver_98 : decode cX3_makeRowsOver 98 = .ok (.ireturn, 1) := by decide +kernel
set_option maxRecDepth 20000 in
theorem ggX3_dressRowInNow_X3_now : GoodIn wsX3_dressRowInNow wsX3_now := goodIn_r _ [7, 8, 47, 48, 49, 50, 51, 52] (by decide +kernel) (by decide +kernel)
set_option maxRecDepth 20000 in
theorem gX3_dressRowInNow_X3_now : GoodIn wsX3_dressRowInNow (wsV RX3 54 RX3 yX3_now wsX3_now) := goodIn_app (goodIn_of _ (by decide +kernel)) ggX3_dressRowInNow_X3_now
set_option maxRecDepth 20000 in
theorem ggX3_dressRowInNow_X3_kindIn : GoodIn wsX3_dressRowInNow wsX3_kindIn := goodIn_r _ [12, 13, 47, 48, 49, 50, 51, 52] (by decide +kernel) (by decide +kernel)
set_option maxRecDepth 20000 in
theorem gX3_dressRowInNow_X3_kindIn : GoodIn wsX3_dressRowInNow (wsV RX3 58 RX3 yX3_kindIn wsX3_kindIn) := goodIn_app (goodIn_of _ (by decide +kernel)) ggX3_dressRowInNow_X3_kindIn
set_option maxRecDepth 20000 in
theorem ggX3_dressRowInNow_X3_readIn : GoodIn wsX3_dressRowInNow wsX3_readIn := goodIn_r _ [17, 18, 19, 20, 6, 21, 2, 9, 10, 11, 12, 13, 22, 23, 24, 25, 26, 27, 28, 29, 30, 1, 31, 32, 33, 34, 35, 36, 37, 38, 39, 40, 41, 42, 43, 44, 45, 46, 47, 48, 49, 50, 51, 52] (by decide +kernel) (by decide +kernel)
set_option maxRecDepth 20000 in
theorem gX3_dressRowInNow_X3_readIn : GoodIn wsX3_dressRowInNow (wsV RX3 88 RX3 yX3_readIn wsX3_readIn) := goodIn_app (goodIn_of _ (by decide +kernel)) ggX3_dressRowInNow_X3_readIn
theorem dX3_dressRowInNow_0 : decode cX3_dressRowInNow 0 = .ok (.iconst 0, 1) := by decide +kernel
theorem dX3_dressRowInNow_1 : decode cX3_dressRowInNow 1 = .ok (.istore_n 2, 1) := by decide +kernel
theorem dX3_dressRowInNow_2 : decode cX3_dressRowInNow 2 = .ok (.iload_n 2, 1) := by decide +kernel
theorem dX3_dressRowInNow_3 : decode cX3_dressRowInNow 3 = .ok (.bipush 8, 2) := by decide +kernel
theorem dX3_dressRowInNow_5 : decode cX3_dressRowInNow 5 = .ok (.if_icmp .ge 43, 3) := by decide +kernel
theorem dX3_dressRowInNow_8 : decode cX3_dressRowInNow 8 = .ok (.aload_n 0, 1) := by decide +kernel
theorem dX3_dressRowInNow_9 : decode cX3_dressRowInNow 9 = .ok (.aload_n 0, 1) := by decide +kernel
theorem dX3_dressRowInNow_10 : decode cX3_dressRowInNow 10 = .ok (.invokevirtual 54, 3) := by decide +kernel
theorem dX3_dressRowInNow_13 : decode cX3_dressRowInNow 13 = .ok (.iload_n 2, 1) := by decide +kernel
theorem dX3_dressRowInNow_14 : decode cX3_dressRowInNow 14 = .ok (.invokevirtual 58, 3) := by decide +kernel
theorem dX3_dressRowInNow_17 : decode cX3_dressRowInNow 17 = .ok (.iconst (-1), 1) := by decide +kernel
theorem dX3_dressRowInNow_18 : decode cX3_dressRowInNow 18 = .ok (.if_icmp .eq 24, 3) := by decide +kernel
theorem dX3_dressRowInNow_21 : decode cX3_dressRowInNow 21 = .ok (.aload_n 0, 1) := by decide +kernel
theorem dX3_dressRowInNow_22 : decode cX3_dressRowInNow 22 = .ok (.getfield 28, 3) := by decide +kernel
theorem dX3_dressRowInNow_25 : decode cX3_dressRowInNow 25 = .ok (.iload_n 1, 1) := by decide +kernel
theorem dX3_dressRowInNow_26 : decode cX3_dressRowInNow 26 = .ok (.bipush 8, 2) := by decide +kernel
theorem dX3_dressRowInNow_28 : decode cX3_dressRowInNow 28 = .ok (.imul, 1) := by decide +kernel
theorem dX3_dressRowInNow_29 : decode cX3_dressRowInNow 29 = .ok (.iload_n 2, 1) := by decide +kernel
theorem dX3_dressRowInNow_30 : decode cX3_dressRowInNow 30 = .ok (.iadd, 1) := by decide +kernel
theorem dX3_dressRowInNow_31 : decode cX3_dressRowInNow 31 = .ok (.aload_n 0, 1) := by decide +kernel
theorem dX3_dressRowInNow_32 : decode cX3_dressRowInNow 32 = .ok (.aload_n 0, 1) := by decide +kernel
theorem dX3_dressRowInNow_33 : decode cX3_dressRowInNow 33 = .ok (.invokevirtual 54, 3) := by decide +kernel
theorem dX3_dressRowInNow_36 : decode cX3_dressRowInNow 36 = .ok (.iload_n 1, 1) := by decide +kernel
theorem dX3_dressRowInNow_37 : decode cX3_dressRowInNow 37 = .ok (.iload_n 2, 1) := by decide +kernel
theorem dX3_dressRowInNow_38 : decode cX3_dressRowInNow 38 = .ok (.invokevirtual 88, 3) := by decide +kernel
theorem dX3_dressRowInNow_41 : decode cX3_dressRowInNow 41 = .ok (.iastore, 1) := by decide +kernel
theorem dX3_dressRowInNow_42 : decode cX3_dressRowInNow 42 = .ok (.iinc 2 1, 3) := by decide +kernel
theorem dX3_dressRowInNow_45 : decode cX3_dressRowInNow 45 = .ok (.goto (-43), 3) := by decide +kernel
theorem dX3_dressRowInNow_48 : decode cX3_dressRowInNow 48 = .ok (.aload_n 0, 1) := by decide +kernel
theorem dX3_dressRowInNow_49 : decode cX3_dressRowInNow 49 = .ok (.getfield 25, 3) := by decide +kernel
theorem dX3_dressRowInNow_52 : decode cX3_dressRowInNow 52 = .ok (.iload_n 1, 1) := by decide +kernel
theorem dX3_dressRowInNow_53 : decode cX3_dressRowInNow 53 = .ok (.aload_n 0, 1) := by decide +kernel
theorem dX3_dressRowInNow_54 : decode cX3_dressRowInNow 54 = .ok (.invokevirtual 54, 3) := by decide +kernel
theorem dX3_dressRowInNow_57 : decode cX3_dressRowInNow 57 = .ok (.iastore, 1) := by decide +kernel
theorem dX3_dressRowInNow_58 : decode cX3_dressRowInNow 58 = .ok (.return_, 1) := by decide +kernel
set_option maxRecDepth 20000 in
theorem ggX3_forgetSeasons_X3_now : GoodIn wsX3_forgetSeasons wsX3_now := goodIn_r _ [18, 7, 19, 20, 21, 22, 23, 24] (by decide +kernel) (by decide +kernel)
set_option maxRecDepth 20000 in
theorem gX3_forgetSeasons_X3_now : GoodIn wsX3_forgetSeasons (wsV RX3 54 RX3 yX3_now wsX3_now) := goodIn_app (goodIn_of _ (by decide +kernel)) ggX3_forgetSeasons_X3_now
theorem dX3_forgetSeasons_0 : decode cX3_forgetSeasons 0 = .ok (.aload_n 0, 1) := by decide +kernel
theorem dX3_forgetSeasons_1 : decode cX3_forgetSeasons 1 = .ok (.invokevirtual 54, 3) := by decide +kernel
theorem dX3_forgetSeasons_4 : decode cX3_forgetSeasons 4 = .ok (.istore_n 1, 1) := by decide +kernel
theorem dX3_forgetSeasons_5 : decode cX3_forgetSeasons 5 = .ok (.iconst 0, 1) := by decide +kernel
theorem dX3_forgetSeasons_6 : decode cX3_forgetSeasons 6 = .ok (.istore_n 2, 1) := by decide +kernel
theorem dX3_forgetSeasons_7 : decode cX3_forgetSeasons 7 = .ok (.iload_n 2, 1) := by decide +kernel
theorem dX3_forgetSeasons_8 : decode cX3_forgetSeasons 8 = .ok (.aload_n 0, 1) := by decide +kernel
theorem dX3_forgetSeasons_9 : decode cX3_forgetSeasons 9 = .ok (.getfield 22, 3) := by decide +kernel
theorem dX3_forgetSeasons_12 : decode cX3_forgetSeasons 12 = .ok (.if_icmp .ge 20, 3) := by decide +kernel
theorem dX3_forgetSeasons_15 : decode cX3_forgetSeasons 15 = .ok (.iload_n 1, 1) := by decide +kernel
theorem dX3_forgetSeasons_16 : decode cX3_forgetSeasons 16 = .ok (.aload_n 0, 1) := by decide +kernel
theorem dX3_forgetSeasons_17 : decode cX3_forgetSeasons 17 = .ok (.getfield 25, 3) := by decide +kernel
theorem dX3_forgetSeasons_20 : decode cX3_forgetSeasons 20 = .ok (.iload_n 2, 1) := by decide +kernel
theorem dX3_forgetSeasons_21 : decode cX3_forgetSeasons 21 = .ok (.iaload, 1) := by decide +kernel
theorem dX3_forgetSeasons_22 : decode cX3_forgetSeasons 22 = .ok (.invokestatic 91, 3) := by decide +kernel
theorem dX3_forgetSeasons_25 : decode cX3_forgetSeasons 25 = .ok (.istore_n 1, 1) := by decide +kernel
theorem dX3_forgetSeasons_26 : decode cX3_forgetSeasons 26 = .ok (.iinc 2 1, 3) := by decide +kernel
theorem dX3_forgetSeasons_29 : decode cX3_forgetSeasons 29 = .ok (.goto (-22), 3) := by decide +kernel
theorem dX3_forgetSeasons_32 : decode cX3_forgetSeasons 32 = .ok (.iload_n 1, 1) := by decide +kernel
theorem dX3_forgetSeasons_33 : decode cX3_forgetSeasons 33 = .ok (.ifCond .ne 7, 3) := by decide +kernel
theorem dX3_forgetSeasons_36 : decode cX3_forgetSeasons 36 = .ok (.sipush (-10005), 3) := by decide +kernel
theorem dX3_forgetSeasons_39 : decode cX3_forgetSeasons 39 = .ok (.ireturn, 1) := by decide +kernel
theorem dX3_forgetSeasons_40 : decode cX3_forgetSeasons 40 = .ok (.aload_n 0, 1) := by decide +kernel
theorem dX3_forgetSeasons_41 : decode cX3_forgetSeasons 41 = .ok (.dup, 1) := by decide +kernel
theorem dX3_forgetSeasons_42 : decode cX3_forgetSeasons 42 = .ok (.getfield 9, 3) := by decide +kernel
theorem dX3_forgetSeasons_45 : decode cX3_forgetSeasons 45 = .ok (.iload_n 1, 1) := by decide +kernel
theorem dX3_forgetSeasons_46 : decode cX3_forgetSeasons 46 = .ok (.isub, 1) := by decide +kernel
theorem dX3_forgetSeasons_47 : decode cX3_forgetSeasons 47 = .ok (.putfield 9, 3) := by decide +kernel
theorem dX3_forgetSeasons_50 : decode cX3_forgetSeasons 50 = .ok (.aload_n 0, 1) := by decide +kernel
theorem dX3_forgetSeasons_51 : decode cX3_forgetSeasons 51 = .ok (.getfield 15, 3) := by decide +kernel
theorem dX3_forgetSeasons_54 : decode cX3_forgetSeasons 54 = .ok (.iload_n 1, 1) := by decide +kernel
theorem dX3_forgetSeasons_55 : decode cX3_forgetSeasons 55 = .ok (.bipush 8, 2) := by decide +kernel
theorem dX3_forgetSeasons_57 : decode cX3_forgetSeasons 57 = .ok (.imul, 1) := by decide +kernel
theorem dX3_forgetSeasons_58 : decode cX3_forgetSeasons 58 = .ok (.aload_n 0, 1) := by decide +kernel
theorem dX3_forgetSeasons_59 : decode cX3_forgetSeasons 59 = .ok (.getfield 15, 3) := by decide +kernel
theorem dX3_forgetSeasons_62 : decode cX3_forgetSeasons 62 = .ok (.iconst 0, 1) := by decide +kernel
theorem dX3_forgetSeasons_63 : decode cX3_forgetSeasons 63 = .ok (.aload_n 0, 1) := by decide +kernel
theorem dX3_forgetSeasons_64 : decode cX3_forgetSeasons 64 = .ok (.getfield 9, 3) := by decide +kernel
theorem dX3_forgetSeasons_67 : decode cX3_forgetSeasons 67 = .ok (.bipush 8, 2) := by decide +kernel
theorem dX3_forgetSeasons_69 : decode cX3_forgetSeasons 69 = .ok (.imul, 1) := by decide +kernel
theorem dX3_forgetSeasons_70 : decode cX3_forgetSeasons 70 = .ok (.invokestatic 37, 3) := by decide +kernel
theorem dX3_forgetSeasons_73 : decode cX3_forgetSeasons 73 = .ok (.aload_n 0, 1) := by decide +kernel
theorem dX3_forgetSeasons_74 : decode cX3_forgetSeasons 74 = .ok (.getfield 19, 3) := by decide +kernel
theorem dX3_forgetSeasons_77 : decode cX3_forgetSeasons 77 = .ok (.iload_n 1, 1) := by decide +kernel
theorem dX3_forgetSeasons_78 : decode cX3_forgetSeasons 78 = .ok (.bipush 8, 2) := by decide +kernel
theorem dX3_forgetSeasons_80 : decode cX3_forgetSeasons 80 = .ok (.imul, 1) := by decide +kernel
theorem dX3_forgetSeasons_81 : decode cX3_forgetSeasons 81 = .ok (.aload_n 0, 1) := by decide +kernel
theorem dX3_forgetSeasons_82 : decode cX3_forgetSeasons 82 = .ok (.getfield 19, 3) := by decide +kernel
theorem dX3_forgetSeasons_85 : decode cX3_forgetSeasons 85 = .ok (.iconst 0, 1) := by decide +kernel
theorem dX3_forgetSeasons_86 : decode cX3_forgetSeasons 86 = .ok (.aload_n 0, 1) := by decide +kernel
theorem dX3_forgetSeasons_87 : decode cX3_forgetSeasons 87 = .ok (.getfield 9, 3) := by decide +kernel
theorem dX3_forgetSeasons_90 : decode cX3_forgetSeasons 90 = .ok (.bipush 8, 2) := by decide +kernel
theorem dX3_forgetSeasons_92 : decode cX3_forgetSeasons 92 = .ok (.imul, 1) := by decide +kernel
theorem dX3_forgetSeasons_93 : decode cX3_forgetSeasons 93 = .ok (.invokestatic 37, 3) := by decide +kernel
theorem dX3_forgetSeasons_96 : decode cX3_forgetSeasons 96 = .ok (.iconst 0, 1) := by decide +kernel
theorem dX3_forgetSeasons_97 : decode cX3_forgetSeasons 97 = .ok (.istore_n 2, 1) := by decide +kernel
theorem dX3_forgetSeasons_98 : decode cX3_forgetSeasons 98 = .ok (.iload_n 2, 1) := by decide +kernel
theorem dX3_forgetSeasons_99 : decode cX3_forgetSeasons 99 = .ok (.aload_n 0, 1) := by decide +kernel
theorem dX3_forgetSeasons_100 : decode cX3_forgetSeasons 100 = .ok (.getfield 22, 3) := by decide +kernel
theorem dX3_forgetSeasons_103 : decode cX3_forgetSeasons 103 = .ok (.if_icmp .ge 19, 3) := by decide +kernel
theorem dX3_forgetSeasons_106 : decode cX3_forgetSeasons 106 = .ok (.aload_n 0, 1) := by decide +kernel
theorem dX3_forgetSeasons_107 : decode cX3_forgetSeasons 107 = .ok (.getfield 25, 3) := by decide +kernel
theorem dX3_forgetSeasons_110 : decode cX3_forgetSeasons 110 = .ok (.iload_n 2, 1) := by decide +kernel
theorem dX3_forgetSeasons_111 : decode cX3_forgetSeasons 111 = .ok (.dup2, 1) := by decide +kernel
theorem dX3_forgetSeasons_112 : decode cX3_forgetSeasons 112 = .ok (.iaload, 1) := by decide +kernel
theorem dX3_forgetSeasons_113 : decode cX3_forgetSeasons 113 = .ok (.iload_n 1, 1) := by decide +kernel
theorem dX3_forgetSeasons_114 : decode cX3_forgetSeasons 114 = .ok (.isub, 1) := by decide +kernel
theorem dX3_forgetSeasons_115 : decode cX3_forgetSeasons 115 = .ok (.iastore, 1) := by decide +kernel
theorem dX3_forgetSeasons_116 : decode cX3_forgetSeasons 116 = .ok (.iinc 2 1, 3) := by decide +kernel
theorem dX3_forgetSeasons_119 : decode cX3_forgetSeasons 119 = .ok (.goto (-21), 3) := by decide +kernel
theorem dX3_forgetSeasons_122 : decode cX3_forgetSeasons 122 = .ok (.iload_n 1, 1) := by decide +kernel
theorem dX3_forgetSeasons_123 : decode cX3_forgetSeasons 123 = .ok (.ireturn, 1) := by decide +kernel
theorem dX3_now_0 : decode cX3_now 0 = .ok (.aload_n 0, 1) := by decide +kernel
theorem dX3_now_1 : decode cX3_now 1 = .ok (.getfield 9, 3) := by decide +kernel
theorem dX3_now_4 : decode cX3_now 4 = .ok (.iconst 1, 1) := by decide +kernel
theorem dX3_now_5 : decode cX3_now 5 = .ok (.isub, 1) := by decide +kernel
theorem dX3_now_6 : decode cX3_now 6 = .ok (.ireturn, 1) := by decide +kernel
theorem dX3_isSeason_0 : decode cX3_isSeason 0 = .ok (.iload_n 1, 1) := by decide +kernel
theorem dX3_isSeason_1 : decode cX3_isSeason 1 = .ok (.ifCond .lt 15, 3) := by decide +kernel
theorem dX3_isSeason_4 : decode cX3_isSeason 4 = .ok (.iload_n 1, 1) := by decide +kernel
theorem dX3_isSeason_5 : decode cX3_isSeason 5 = .ok (.aload_n 0, 1) := by decide +kernel
theorem dX3_isSeason_6 : decode cX3_isSeason 6 = .ok (.getfield 9, 3) := by decide +kernel
theorem dX3_isSeason_9 : decode cX3_isSeason 9 = .ok (.if_icmp .ge 7, 3) := by decide +kernel
theorem dX3_isSeason_12 : decode cX3_isSeason 12 = .ok (.iconst 1, 1) := by decide +kernel
theorem dX3_isSeason_13 : decode cX3_isSeason 13 = .ok (.goto 4, 3) := by decide +kernel
theorem dX3_isSeason_16 : decode cX3_isSeason 16 = .ok (.iconst 0, 1) := by decide +kernel
theorem dX3_isSeason_17 : decode cX3_isSeason 17 = .ok (.ireturn, 1) := by decide +kernel
theorem dX3_kindIn_0 : decode cX3_kindIn 0 = .ok (.aload_n 0, 1) := by decide +kernel
theorem dX3_kindIn_1 : decode cX3_kindIn 1 = .ok (.getfield 15, 3) := by decide +kernel
theorem dX3_kindIn_4 : decode cX3_kindIn 4 = .ok (.iload_n 1, 1) := by decide +kernel
theorem dX3_kindIn_5 : decode cX3_kindIn 5 = .ok (.bipush 8, 2) := by decide +kernel
theorem dX3_kindIn_7 : decode cX3_kindIn 7 = .ok (.imul, 1) := by decide +kernel
theorem dX3_kindIn_8 : decode cX3_kindIn 8 = .ok (.iload_n 2, 1) := by decide +kernel
theorem dX3_kindIn_9 : decode cX3_kindIn 9 = .ok (.iadd, 1) := by decide +kernel
theorem dX3_kindIn_10 : decode cX3_kindIn 10 = .ok (.iaload, 1) := by decide +kernel
theorem dX3_kindIn_11 : decode cX3_kindIn 11 = .ok (.ireturn, 1) := by decide +kernel
theorem dX3_standardIn_0 : decode cX3_standardIn 0 = .ok (.aload_n 0, 1) := by decide +kernel
theorem dX3_standardIn_1 : decode cX3_standardIn 1 = .ok (.getfield 19, 3) := by decide +kernel
theorem dX3_standardIn_4 : decode cX3_standardIn 4 = .ok (.iload_n 1, 1) := by decide +kernel
theorem dX3_standardIn_5 : decode cX3_standardIn 5 = .ok (.bipush 8, 2) := by decide +kernel
theorem dX3_standardIn_7 : decode cX3_standardIn 7 = .ok (.imul, 1) := by decide +kernel
theorem dX3_standardIn_8 : decode cX3_standardIn 8 = .ok (.iload_n 2, 1) := by decide +kernel
theorem dX3_standardIn_9 : decode cX3_standardIn 9 = .ok (.iadd, 1) := by decide +kernel
theorem dX3_standardIn_10 : decode cX3_standardIn 10 = .ok (.iaload, 1) := by decide +kernel
theorem dX3_standardIn_11 : decode cX3_standardIn 11 = .ok (.ireturn, 1) := by decide +kernel
set_option maxRecDepth 20000 in
theorem ggX3_namesIn_X3_kindIn : GoodIn wsX3_namesIn wsX3_kindIn := goodIn_r _ [5, 6, 7, 8, 9, 10, 11, 12] (by decide +kernel) (by decide +kernel)
set_option maxRecDepth 20000 in
theorem gX3_namesIn_X3_kindIn : GoodIn wsX3_namesIn (wsV RX3 58 RX3 yX3_kindIn wsX3_kindIn) := goodIn_app (goodIn_of _ (by decide +kernel)) ggX3_namesIn_X3_kindIn
theorem dX3_namesIn_0 : decode cX3_namesIn 0 = .ok (.iconst 0, 1) := by decide +kernel
theorem dX3_namesIn_1 : decode cX3_namesIn 1 = .ok (.istore_n 2, 1) := by decide +kernel
theorem dX3_namesIn_2 : decode cX3_namesIn 2 = .ok (.iconst 0, 1) := by decide +kernel
theorem dX3_namesIn_3 : decode cX3_namesIn 3 = .ok (.istore_n 3, 1) := by decide +kernel
theorem dX3_namesIn_4 : decode cX3_namesIn 4 = .ok (.iload_n 3, 1) := by decide +kernel
theorem dX3_namesIn_5 : decode cX3_namesIn 5 = .ok (.bipush 8, 2) := by decide +kernel
theorem dX3_namesIn_7 : decode cX3_namesIn 7 = .ok (.if_icmp .ge 25, 3) := by decide +kernel
theorem dX3_namesIn_10 : decode cX3_namesIn 10 = .ok (.aload_n 0, 1) := by decide +kernel
theorem dX3_namesIn_11 : decode cX3_namesIn 11 = .ok (.iload_n 1, 1) := by decide +kernel
theorem dX3_namesIn_12 : decode cX3_namesIn 12 = .ok (.iload_n 3, 1) := by decide +kernel
theorem dX3_namesIn_13 : decode cX3_namesIn 13 = .ok (.invokevirtual 58, 3) := by decide +kernel
theorem dX3_namesIn_16 : decode cX3_namesIn 16 = .ok (.iconst (-1), 1) := by decide +kernel
theorem dX3_namesIn_17 : decode cX3_namesIn 17 = .ok (.if_icmp .eq 9, 3) := by decide +kernel
theorem dX3_namesIn_20 : decode cX3_namesIn 20 = .ok (.iload_n 2, 1) := by decide +kernel
theorem dX3_namesIn_21 : decode cX3_namesIn 21 = .ok (.iconst 1, 1) := by decide +kernel
theorem dX3_namesIn_22 : decode cX3_namesIn 22 = .ok (.iload_n 3, 1) := by decide +kernel
theorem dX3_namesIn_23 : decode cX3_namesIn 23 = .ok (.ishl, 1) := by decide +kernel
theorem dX3_namesIn_24 : decode cX3_namesIn 24 = .ok (.ior, 1) := by decide +kernel
theorem dX3_namesIn_25 : decode cX3_namesIn 25 = .ok (.istore_n 2, 1) := by decide +kernel
theorem dX3_namesIn_26 : decode cX3_namesIn 26 = .ok (.iinc 3 1, 3) := by decide +kernel
theorem dX3_namesIn_29 : decode cX3_namesIn 29 = .ok (.goto (-25), 3) := by decide +kernel
theorem dX3_namesIn_32 : decode cX3_namesIn 32 = .ok (.iload_n 2, 1) := by decide +kernel
theorem dX3_namesIn_33 : decode cX3_namesIn 33 = .ok (.ireturn, 1) := by decide +kernel
set_option maxRecDepth 20000 in
theorem ggX3_namesOfAllSeasons_X3_namesIn : GoodIn wsX3_namesOfAllSeasons wsX3_namesIn := goodIn_r _ [6, 7, 8, 9, 5, 10, 11, 12, 13, 14, 15, 16, 17] (by decide +kernel) (by decide +kernel)
set_option maxRecDepth 20000 in
theorem gX3_namesOfAllSeasons_X3_namesIn : GoodIn wsX3_namesOfAllSeasons (wsV RX3 96 RX3 yX3_namesIn wsX3_namesIn) := goodIn_app (goodIn_of _ (by decide +kernel)) ggX3_namesOfAllSeasons_X3_namesIn
theorem dX3_namesOfAllSeasons_0 : decode cX3_namesOfAllSeasons 0 = .ok (.iconst 0, 1) := by decide +kernel
theorem dX3_namesOfAllSeasons_1 : decode cX3_namesOfAllSeasons 1 = .ok (.istore_n 1, 1) := by decide +kernel
theorem dX3_namesOfAllSeasons_2 : decode cX3_namesOfAllSeasons 2 = .ok (.iconst 0, 1) := by decide +kernel
theorem dX3_namesOfAllSeasons_3 : decode cX3_namesOfAllSeasons 3 = .ok (.istore_n 2, 1) := by decide +kernel
theorem dX3_namesOfAllSeasons_4 : decode cX3_namesOfAllSeasons 4 = .ok (.iload_n 2, 1) := by decide +kernel
theorem dX3_namesOfAllSeasons_5 : decode cX3_namesOfAllSeasons 5 = .ok (.aload_n 0, 1) := by decide +kernel
theorem dX3_namesOfAllSeasons_6 : decode cX3_namesOfAllSeasons 6 = .ok (.getfield 9, 3) := by decide +kernel
theorem dX3_namesOfAllSeasons_9 : decode cX3_namesOfAllSeasons 9 = .ok (.if_icmp .ge 17, 3) := by decide +kernel
theorem dX3_namesOfAllSeasons_12 : decode cX3_namesOfAllSeasons 12 = .ok (.iload_n 1, 1) := by decide +kernel
theorem dX3_namesOfAllSeasons_13 : decode cX3_namesOfAllSeasons 13 = .ok (.aload_n 0, 1) := by decide +kernel
theorem dX3_namesOfAllSeasons_14 : decode cX3_namesOfAllSeasons 14 = .ok (.iload_n 2, 1) := by decide +kernel
theorem dX3_namesOfAllSeasons_15 : decode cX3_namesOfAllSeasons 15 = .ok (.invokevirtual 96, 3) := by decide +kernel
theorem dX3_namesOfAllSeasons_18 : decode cX3_namesOfAllSeasons 18 = .ok (.ior, 1) := by decide +kernel
theorem dX3_namesOfAllSeasons_19 : decode cX3_namesOfAllSeasons 19 = .ok (.istore_n 1, 1) := by decide +kernel
theorem dX3_namesOfAllSeasons_20 : decode cX3_namesOfAllSeasons 20 = .ok (.iinc 2 1, 3) := by decide +kernel
theorem dX3_namesOfAllSeasons_23 : decode cX3_namesOfAllSeasons 23 = .ok (.goto (-19), 3) := by decide +kernel
theorem dX3_namesOfAllSeasons_26 : decode cX3_namesOfAllSeasons 26 = .ok (.iload_n 1, 1) := by decide +kernel
theorem dX3_namesOfAllSeasons_27 : decode cX3_namesOfAllSeasons 27 = .ok (.ireturn, 1) := by decide +kernel
set_option maxRecDepth 20000 in
theorem ggX3_newColumnsIn_X3_kindIn : GoodIn wsX3_newColumnsIn wsX3_kindIn := goodIn_r _ [5, 6, 7, 8, 9, 10, 11, 12] (by decide +kernel) (by decide +kernel)
set_option maxRecDepth 20000 in
theorem gX3_newColumnsIn_X3_kindIn : GoodIn wsX3_newColumnsIn (wsV RX3 58 RX3 yX3_kindIn wsX3_kindIn) := goodIn_app (goodIn_of _ (by decide +kernel)) ggX3_newColumnsIn_X3_kindIn
theorem dX3_newColumnsIn_0 : decode cX3_newColumnsIn 0 = .ok (.iload_n 1, 1) := by decide +kernel
theorem dX3_newColumnsIn_1 : decode cX3_newColumnsIn 1 = .ok (.ifCond .ne 5, 3) := by decide +kernel
theorem dX3_newColumnsIn_4 : decode cX3_newColumnsIn 4 = .ok (.iconst 0, 1) := by decide +kernel
theorem dX3_newColumnsIn_5 : decode cX3_newColumnsIn 5 = .ok (.ireturn, 1) := by decide +kernel
theorem dX3_newColumnsIn_6 : decode cX3_newColumnsIn 6 = .ok (.iconst 0, 1) := by decide +kernel
theorem dX3_newColumnsIn_7 : decode cX3_newColumnsIn 7 = .ok (.istore_n 2, 1) := by decide +kernel
theorem dX3_newColumnsIn_8 : decode cX3_newColumnsIn 8 = .ok (.iconst 0, 1) := by decide +kernel
theorem dX3_newColumnsIn_9 : decode cX3_newColumnsIn 9 = .ok (.istore_n 3, 1) := by decide +kernel
theorem dX3_newColumnsIn_10 : decode cX3_newColumnsIn 10 = .ok (.iload_n 3, 1) := by decide +kernel
theorem dX3_newColumnsIn_11 : decode cX3_newColumnsIn 11 = .ok (.bipush 8, 2) := by decide +kernel
theorem dX3_newColumnsIn_13 : decode cX3_newColumnsIn 13 = .ok (.if_icmp .ge 39, 3) := by decide +kernel
theorem dX3_newColumnsIn_16 : decode cX3_newColumnsIn 16 = .ok (.aload_n 0, 1) := by decide +kernel
theorem dX3_newColumnsIn_17 : decode cX3_newColumnsIn 17 = .ok (.iload_n 1, 1) := by decide +kernel
theorem dX3_newColumnsIn_18 : decode cX3_newColumnsIn 18 = .ok (.iload_n 3, 1) := by decide +kernel
theorem dX3_newColumnsIn_19 : decode cX3_newColumnsIn 19 = .ok (.invokevirtual 58, 3) := by decide +kernel
theorem dX3_newColumnsIn_22 : decode cX3_newColumnsIn 22 = .ok (.istore 4, 2) := by decide +kernel
theorem dX3_newColumnsIn_24 : decode cX3_newColumnsIn 24 = .ok (.iload 4, 2) := by decide +kernel
theorem dX3_newColumnsIn_26 : decode cX3_newColumnsIn 26 = .ok (.iconst (-1), 1) := by decide +kernel
theorem dX3_newColumnsIn_27 : decode cX3_newColumnsIn 27 = .ok (.if_icmp .eq 19, 3) := by decide +kernel
theorem dX3_newColumnsIn_30 : decode cX3_newColumnsIn 30 = .ok (.iload 4, 2) := by decide +kernel
theorem dX3_newColumnsIn_32 : decode cX3_newColumnsIn 32 = .ok (.aload_n 0, 1) := by decide +kernel
theorem dX3_newColumnsIn_33 : decode cX3_newColumnsIn 33 = .ok (.iload_n 1, 1) := by decide +kernel
theorem dX3_newColumnsIn_34 : decode cX3_newColumnsIn 34 = .ok (.iconst 1, 1) := by decide +kernel
theorem dX3_newColumnsIn_35 : decode cX3_newColumnsIn 35 = .ok (.isub, 1) := by decide +kernel
theorem dX3_newColumnsIn_36 : decode cX3_newColumnsIn 36 = .ok (.iload_n 3, 1) := by decide +kernel
theorem dX3_newColumnsIn_37 : decode cX3_newColumnsIn 37 = .ok (.invokevirtual 58, 3) := by decide +kernel
theorem dX3_newColumnsIn_40 : decode cX3_newColumnsIn 40 = .ok (.if_icmp .eq 6, 3) := by decide +kernel
theorem dX3_newColumnsIn_43 : decode cX3_newColumnsIn 43 = .ok (.iinc 2 1, 3) := by decide +kernel
theorem dX3_newColumnsIn_46 : decode cX3_newColumnsIn 46 = .ok (.iinc 3 1, 3) := by decide +kernel
theorem dX3_newColumnsIn_49 : decode cX3_newColumnsIn 49 = .ok (.goto (-39), 3) := by decide +kernel
theorem dX3_newColumnsIn_52 : decode cX3_newColumnsIn 52 = .ok (.iload_n 2, 1) := by decide +kernel
theorem dX3_newColumnsIn_53 : decode cX3_newColumnsIn 53 = .ok (.ireturn, 1) := by decide +kernel
theorem dX3_rowsOfSeason_0 : decode cX3_rowsOfSeason 0 = .ok (.iconst 0, 1) := by decide +kernel
theorem dX3_rowsOfSeason_1 : decode cX3_rowsOfSeason 1 = .ok (.istore_n 2, 1) := by decide +kernel
theorem dX3_rowsOfSeason_2 : decode cX3_rowsOfSeason 2 = .ok (.iconst 0, 1) := by decide +kernel
theorem dX3_rowsOfSeason_3 : decode cX3_rowsOfSeason 3 = .ok (.istore_n 3, 1) := by decide +kernel
theorem dX3_rowsOfSeason_4 : decode cX3_rowsOfSeason 4 = .ok (.iload_n 3, 1) := by decide +kernel
theorem dX3_rowsOfSeason_5 : decode cX3_rowsOfSeason 5 = .ok (.aload_n 0, 1) := by decide +kernel
theorem dX3_rowsOfSeason_6 : decode cX3_rowsOfSeason 6 = .ok (.getfield 22, 3) := by decide +kernel
theorem dX3_rowsOfSeason_9 : decode cX3_rowsOfSeason 9 = .ok (.if_icmp .ge 22, 3) := by decide +kernel
theorem dX3_rowsOfSeason_12 : decode cX3_rowsOfSeason 12 = .ok (.aload_n 0, 1) := by decide +kernel
theorem dX3_rowsOfSeason_13 : decode cX3_rowsOfSeason 13 = .ok (.getfield 25, 3) := by decide +kernel
theorem dX3_rowsOfSeason_16 : decode cX3_rowsOfSeason 16 = .ok (.iload_n 3, 1) := by decide +kernel
theorem dX3_rowsOfSeason_17 : decode cX3_rowsOfSeason 17 = .ok (.iaload, 1) := by decide +kernel
theorem dX3_rowsOfSeason_18 : decode cX3_rowsOfSeason 18 = .ok (.iload_n 1, 1) := by decide +kernel
theorem dX3_rowsOfSeason_19 : decode cX3_rowsOfSeason 19 = .ok (.if_icmp .ne 6, 3) := by decide +kernel
theorem dX3_rowsOfSeason_22 : decode cX3_rowsOfSeason 22 = .ok (.iinc 2 1, 3) := by decide +kernel
theorem dX3_rowsOfSeason_25 : decode cX3_rowsOfSeason 25 = .ok (.iinc 3 1, 3) := by decide +kernel
theorem dX3_rowsOfSeason_28 : decode cX3_rowsOfSeason 28 = .ok (.goto (-24), 3) := by decide +kernel
theorem dX3_rowsOfSeason_31 : decode cX3_rowsOfSeason 31 = .ok (.iload_n 2, 1) := by decide +kernel
theorem dX3_rowsOfSeason_32 : decode cX3_rowsOfSeason 32 = .ok (.ireturn, 1) := by decide +kernel
theorem dX3_isRow_0 : decode cX3_isRow 0 = .ok (.iload_n 1, 1) := by decide +kernel
theorem dX3_isRow_1 : decode cX3_isRow 1 = .ok (.ifCond .lt 15, 3) := by decide +kernel
theorem dX3_isRow_4 : decode cX3_isRow 4 = .ok (.iload_n 1, 1) := by decide +kernel
theorem dX3_isRow_5 : decode cX3_isRow 5 = .ok (.aload_n 0, 1) := by decide +kernel
theorem dX3_isRow_6 : decode cX3_isRow 6 = .ok (.getfield 22, 3) := by decide +kernel
theorem dX3_isRow_9 : decode cX3_isRow 9 = .ok (.if_icmp .ge 7, 3) := by decide +kernel
theorem dX3_isRow_12 : decode cX3_isRow 12 = .ok (.iconst 1, 1) := by decide +kernel
theorem dX3_isRow_13 : decode cX3_isRow 13 = .ok (.goto 4, 3) := by decide +kernel
theorem dX3_isRow_16 : decode cX3_isRow 16 = .ok (.iconst 0, 1) := by decide +kernel
theorem dX3_isRow_17 : decode cX3_isRow 17 = .ok (.ireturn, 1) := by decide +kernel
theorem dX3_seasonOfRow_0 : decode cX3_seasonOfRow 0 = .ok (.aload_n 0, 1) := by decide +kernel
theorem dX3_seasonOfRow_1 : decode cX3_seasonOfRow 1 = .ok (.getfield 25, 3) := by decide +kernel
theorem dX3_seasonOfRow_4 : decode cX3_seasonOfRow 4 = .ok (.iload_n 1, 1) := by decide +kernel
theorem dX3_seasonOfRow_5 : decode cX3_seasonOfRow 5 = .ok (.iaload, 1) := by decide +kernel
theorem dX3_seasonOfRow_6 : decode cX3_seasonOfRow 6 = .ok (.ireturn, 1) := by decide +kernel
set_option maxRecDepth 20000 in
theorem ggX3_kindInRow_X3_kindIn : GoodIn wsX3_kindInRow wsX3_kindIn := goodIn_r _ [6, 7, 8, 9, 10, 11, 12, 13] (by decide +kernel) (by decide +kernel)
set_option maxRecDepth 20000 in
theorem gX3_kindInRow_X3_kindIn : GoodIn wsX3_kindInRow (wsV RX3 58 RX3 yX3_kindIn wsX3_kindIn) := goodIn_app (goodIn_of _ (by decide +kernel)) ggX3_kindInRow_X3_kindIn
theorem dX3_kindInRow_0 : decode cX3_kindInRow 0 = .ok (.aload_n 0, 1) := by decide +kernel
theorem dX3_kindInRow_1 : decode cX3_kindInRow 1 = .ok (.aload_n 0, 1) := by decide +kernel
theorem dX3_kindInRow_2 : decode cX3_kindInRow 2 = .ok (.getfield 25, 3) := by decide +kernel
theorem dX3_kindInRow_5 : decode cX3_kindInRow 5 = .ok (.iload_n 1, 1) := by decide +kernel
theorem dX3_kindInRow_6 : decode cX3_kindInRow 6 = .ok (.iaload, 1) := by decide +kernel
theorem dX3_kindInRow_7 : decode cX3_kindInRow 7 = .ok (.iload_n 2, 1) := by decide +kernel
theorem dX3_kindInRow_8 : decode cX3_kindInRow 8 = .ok (.invokevirtual 58, 3) := by decide +kernel
theorem dX3_kindInRow_11 : decode cX3_kindInRow 11 = .ok (.ireturn, 1) := by decide +kernel
theorem dX3_valueAt_0 : decode cX3_valueAt 0 = .ok (.aload_n 0, 1) := by decide +kernel
theorem dX3_valueAt_1 : decode cX3_valueAt 1 = .ok (.getfield 28, 3) := by decide +kernel
theorem dX3_valueAt_4 : decode cX3_valueAt 4 = .ok (.iload_n 1, 1) := by decide +kernel
theorem dX3_valueAt_5 : decode cX3_valueAt 5 = .ok (.bipush 8, 2) := by decide +kernel
theorem dX3_valueAt_7 : decode cX3_valueAt 7 = .ok (.imul, 1) := by decide +kernel
theorem dX3_valueAt_8 : decode cX3_valueAt 8 = .ok (.iload_n 2, 1) := by decide +kernel
theorem dX3_valueAt_9 : decode cX3_valueAt 9 = .ok (.iadd, 1) := by decide +kernel
theorem dX3_valueAt_10 : decode cX3_valueAt 10 = .ok (.iaload, 1) := by decide +kernel
theorem dX3_valueAt_11 : decode cX3_valueAt 11 = .ok (.ireturn, 1) := by decide +kernel
set_option maxRecDepth 20000 in
theorem ggX3_valuesOfAllRows_X3_namesIn : GoodIn wsX3_valuesOfAllRows wsX3_namesIn := goodIn_r _ [7, 8, 9, 10, 6, 11, 12, 20, 21, 22, 23, 24, 25] (by decide +kernel) (by decide +kernel)
set_option maxRecDepth 20000 in
theorem gX3_valuesOfAllRows_X3_namesIn : GoodIn wsX3_valuesOfAllRows (wsV RX3 96 RX3 yX3_namesIn wsX3_namesIn) := goodIn_app (goodIn_of _ (by decide +kernel)) ggX3_valuesOfAllRows_X3_namesIn
set_option maxRecDepth 20000 in
theorem ggX3_valuesOfAllRows_J6_bitCount_0f7a4 : GoodIn wsX3_valuesOfAllRows wsJ6_bitCount_0f7a4 := goodIn_r _ [16, 17, 18, 19] (by decide +kernel) (by decide +kernel)
set_option maxRecDepth 20000 in
theorem gX3_valuesOfAllRows_J6_bitCount_0f7a4 : GoodIn wsX3_valuesOfAllRows (va_wsS RX3 100 yJ6_bitCount_0f7a4 wsJ6_bitCount_0f7a4) := goodIn_app (goodIn_of _ (by decide +kernel)) ggX3_valuesOfAllRows_J6_bitCount_0f7a4
theorem dX3_valuesOfAllRows_0 : decode cX3_valuesOfAllRows 0 = .ok (.iconst 0, 1) := by decide +kernel
theorem dX3_valuesOfAllRows_1 : decode cX3_valuesOfAllRows 1 = .ok (.istore_n 1, 1) := by decide +kernel
theorem dX3_valuesOfAllRows_2 : decode cX3_valuesOfAllRows 2 = .ok (.iconst 0, 1) := by decide +kernel
theorem dX3_valuesOfAllRows_3 : decode cX3_valuesOfAllRows 3 = .ok (.istore_n 2, 1) := by decide +kernel
theorem dX3_valuesOfAllRows_4 : decode cX3_valuesOfAllRows 4 = .ok (.iload_n 2, 1) := by decide +kernel
theorem dX3_valuesOfAllRows_5 : decode cX3_valuesOfAllRows 5 = .ok (.aload_n 0, 1) := by decide +kernel
theorem dX3_valuesOfAllRows_6 : decode cX3_valuesOfAllRows 6 = .ok (.getfield 22, 3) := by decide +kernel
theorem dX3_valuesOfAllRows_9 : decode cX3_valuesOfAllRows 9 = .ok (.if_icmp .ge 25, 3) := by decide +kernel
theorem dX3_valuesOfAllRows_12 : decode cX3_valuesOfAllRows 12 = .ok (.iload_n 1, 1) := by decide +kernel
theorem dX3_valuesOfAllRows_13 : decode cX3_valuesOfAllRows 13 = .ok (.aload_n 0, 1) := by decide +kernel
theorem dX3_valuesOfAllRows_14 : decode cX3_valuesOfAllRows 14 = .ok (.aload_n 0, 1) := by decide +kernel
theorem dX3_valuesOfAllRows_15 : decode cX3_valuesOfAllRows 15 = .ok (.getfield 25, 3) := by decide +kernel
theorem dX3_valuesOfAllRows_18 : decode cX3_valuesOfAllRows 18 = .ok (.iload_n 2, 1) := by decide +kernel
theorem dX3_valuesOfAllRows_19 : decode cX3_valuesOfAllRows 19 = .ok (.iaload, 1) := by decide +kernel
theorem dX3_valuesOfAllRows_20 : decode cX3_valuesOfAllRows 20 = .ok (.invokevirtual 96, 3) := by decide +kernel
theorem dX3_valuesOfAllRows_23 : decode cX3_valuesOfAllRows 23 = .ok (.invokestatic 100, 3) := by decide +kernel
theorem dX3_valuesOfAllRows_26 : decode cX3_valuesOfAllRows 26 = .ok (.iadd, 1) := by decide +kernel
theorem dX3_valuesOfAllRows_27 : decode cX3_valuesOfAllRows 27 = .ok (.istore_n 1, 1) := by decide +kernel
theorem dX3_valuesOfAllRows_28 : decode cX3_valuesOfAllRows 28 = .ok (.iinc 2 1, 3) := by decide +kernel
theorem dX3_valuesOfAllRows_31 : decode cX3_valuesOfAllRows 31 = .ok (.goto (-27), 3) := by decide +kernel
theorem dX3_valuesOfAllRows_34 : decode cX3_valuesOfAllRows 34 = .ok (.iload_n 1, 1) := by decide +kernel
theorem dX3_valuesOfAllRows_35 : decode cX3_valuesOfAllRows 35 = .ok (.ireturn, 1) := by decide +kernel
set_option maxRecDepth 20000 in
theorem ggX3_readIn_X3_kindInRow : GoodIn wsX3_readIn wsX3_kindInRow := goodIn_r _ [5, 6, 7, 8, 9, 4, 10, 11, 38, 39, 40, 41, 42, 43] (by decide +kernel) (by decide +kernel)
set_option maxRecDepth 20000 in
theorem gX3_readIn_X3_kindInRow : GoodIn wsX3_readIn (wsV RX3 75 RX3 yX3_kindInRow wsX3_kindInRow) := goodIn_app (goodIn_of _ (by decide +kernel)) ggX3_readIn_X3_kindInRow
set_option maxRecDepth 20000 in
theorem ggX3_readIn_X3_standardIn : GoodIn wsX3_readIn wsX3_standardIn := goodIn_r _ [15, 16, 38, 39, 40, 41, 42, 43] (by decide +kernel) (by decide +kernel)
set_option maxRecDepth 20000 in
theorem gX3_readIn_X3_standardIn : GoodIn wsX3_readIn (wsV RX3 66 RX3 yX3_standardIn wsX3_standardIn) := goodIn_app (goodIn_of _ (by decide +kernel)) ggX3_readIn_X3_standardIn
set_option maxRecDepth 20000 in
theorem ggX3_readIn_X3_kindIn : GoodIn wsX3_readIn wsX3_kindIn := goodIn_r _ [10, 11, 38, 39, 40, 41, 42, 43] (by decide +kernel) (by decide +kernel)
set_option maxRecDepth 20000 in
theorem gX3_readIn_X3_kindIn : GoodIn wsX3_readIn (wsV RX3 58 RX3 yX3_kindIn wsX3_kindIn) := goodIn_app (goodIn_of _ (by decide +kernel)) ggX3_readIn_X3_kindIn
set_option maxRecDepth 20000 in
theorem ggX3_readIn_X3_valueAt : GoodIn wsX3_readIn wsX3_valueAt := goodIn_r _ [20, 21, 38, 39, 40, 41, 42, 43] (by decide +kernel) (by decide +kernel)
set_option maxRecDepth 20000 in
theorem gX3_readIn_X3_valueAt : GoodIn wsX3_readIn (wsV RX3 78 RX3 yX3_valueAt wsX3_valueAt) := goodIn_app (goodIn_of _ (by decide +kernel)) ggX3_readIn_X3_valueAt
set_option maxRecDepth 20000 in
theorem ggX3_readIn_X4_castTo : GoodIn wsX3_readIn wsX4_castTo := goodIn_r _ [24, 25, 26, 27, 28, 29, 30, 31, 32, 33, 23, 34, 35, 36, 37] (by decide +kernel) (by decide +kernel)
set_option maxRecDepth 20000 in
theorem gX3_readIn_X4_castTo_n69 : GoodIn wsX3_readIn (wsX4_castTo) := ggX3_readIn_X4_castTo
theorem dX3_readIn_0 : decode cX3_readIn 0 = .ok (.aload_n 0, 1) := by decide +kernel
theorem dX3_readIn_1 : decode cX3_readIn 1 = .ok (.iload_n 2, 1) := by decide +kernel
theorem dX3_readIn_2 : decode cX3_readIn 2 = .ok (.iload_n 3, 1) := by decide +kernel
theorem dX3_readIn_3 : decode cX3_readIn 3 = .ok (.invokevirtual 75, 3) := by decide +kernel
theorem dX3_readIn_6 : decode cX3_readIn 6 = .ok (.iconst (-1), 1) := by decide +kernel
theorem dX3_readIn_7 : decode cX3_readIn 7 = .ok (.if_icmp .ne 10, 3) := by decide +kernel
theorem dX3_readIn_10 : decode cX3_readIn 10 = .ok (.aload_n 0, 1) := by decide +kernel
theorem dX3_readIn_11 : decode cX3_readIn 11 = .ok (.iload_n 1, 1) := by decide +kernel
theorem dX3_readIn_12 : decode cX3_readIn 12 = .ok (.iload_n 3, 1) := by decide +kernel
theorem dX3_readIn_13 : decode cX3_readIn 13 = .ok (.invokevirtual 66, 3) := by decide +kernel
theorem dX3_readIn_16 : decode cX3_readIn 16 = .ok (.ireturn, 1) := by decide +kernel
theorem dX3_readIn_17 : decode cX3_readIn 17 = .ok (.aload_n 0, 1) := by decide +kernel
theorem dX3_readIn_18 : decode cX3_readIn 18 = .ok (.iload_n 1, 1) := by decide +kernel
theorem dX3_readIn_19 : decode cX3_readIn 19 = .ok (.iload_n 3, 1) := by decide +kernel
theorem dX3_readIn_20 : decode cX3_readIn 20 = .ok (.invokevirtual 58, 3) := by decide +kernel
theorem dX3_readIn_23 : decode cX3_readIn 23 = .ok (.aload_n 0, 1) := by decide +kernel
theorem dX3_readIn_24 : decode cX3_readIn 24 = .ok (.iload_n 2, 1) := by decide +kernel
theorem dX3_readIn_25 : decode cX3_readIn 25 = .ok (.iload_n 3, 1) := by decide +kernel
theorem dX3_readIn_26 : decode cX3_readIn 26 = .ok (.invokevirtual 78, 3) := by decide +kernel
theorem dX3_readIn_29 : decode cX3_readIn 29 = .ok (.invokestatic 69, 3) := by decide +kernel
theorem dX3_readIn_32 : decode cX3_readIn 32 = .ok (.ireturn, 1) := by decide +kernel
set_option maxRecDepth 20000 in
theorem ggX3_howReadIn_X3_kindInRow : GoodIn wsX3_howReadIn wsX3_kindInRow := goodIn_r _ [5, 6, 7, 8, 9, 4, 10, 11, 36, 37, 38, 39, 40, 41] (by decide +kernel) (by decide +kernel)
set_option maxRecDepth 20000 in
theorem gX3_howReadIn_X3_kindInRow : GoodIn wsX3_howReadIn (wsV RX3 75 RX3 yX3_kindInRow wsX3_kindInRow) := goodIn_app (goodIn_of _ (by decide +kernel)) ggX3_howReadIn_X3_kindInRow
set_option maxRecDepth 20000 in
theorem ggX3_howReadIn_X3_kindIn : GoodIn wsX3_howReadIn wsX3_kindIn := goodIn_r _ [10, 11, 36, 37, 38, 39, 40, 41] (by decide +kernel) (by decide +kernel)
set_option maxRecDepth 20000 in
theorem gX3_howReadIn_X3_kindIn : GoodIn wsX3_howReadIn (wsV RX3 58 RX3 yX3_kindIn wsX3_kindIn) := goodIn_app (goodIn_of _ (by decide +kernel)) ggX3_howReadIn_X3_kindIn
set_option maxRecDepth 20000 in
theorem ggX3_howReadIn_X3_valueAt : GoodIn wsX3_howReadIn wsX3_valueAt := goodIn_r _ [15, 16, 36, 37, 38, 39, 40, 41] (by decide +kernel) (by decide +kernel)
set_option maxRecDepth 20000 in
theorem gX3_howReadIn_X3_valueAt : GoodIn wsX3_howReadIn (wsV RX3 78 RX3 yX3_valueAt wsX3_valueAt) := goodIn_app (goodIn_of _ (by decide +kernel)) ggX3_howReadIn_X3_valueAt
set_option maxRecDepth 20000 in
theorem ggX3_howReadIn_X4_castLoses : GoodIn wsX3_howReadIn wsX4_castLoses := goodIn_r _ [19, 20, 21, 18, 22, 23, 24, 25, 26, 27, 28, 29, 30, 31, 32, 33, 34, 35] (by decide +kernel) (by decide +kernel)
set_option maxRecDepth 20000 in
theorem gX3_howReadIn_X4_castLoses_n105 : GoodIn wsX3_howReadIn (wsX4_castLoses) := ggX3_howReadIn_X4_castLoses
theorem dX3_howReadIn_0 : decode cX3_howReadIn 0 = .ok (.aload_n 0, 1) := by decide +kernel
theorem dX3_howReadIn_1 : decode cX3_howReadIn 1 = .ok (.iload_n 2, 1) := by decide +kernel
theorem dX3_howReadIn_2 : decode cX3_howReadIn 2 = .ok (.iload_n 3, 1) := by decide +kernel
theorem dX3_howReadIn_3 : decode cX3_howReadIn 3 = .ok (.invokevirtual 75, 3) := by decide +kernel
theorem dX3_howReadIn_6 : decode cX3_howReadIn 6 = .ok (.istore 4, 2) := by decide +kernel
theorem dX3_howReadIn_8 : decode cX3_howReadIn 8 = .ok (.aload_n 0, 1) := by decide +kernel
theorem dX3_howReadIn_9 : decode cX3_howReadIn 9 = .ok (.iload_n 1, 1) := by decide +kernel
theorem dX3_howReadIn_10 : decode cX3_howReadIn 10 = .ok (.iload_n 3, 1) := by decide +kernel
theorem dX3_howReadIn_11 : decode cX3_howReadIn 11 = .ok (.invokevirtual 58, 3) := by decide +kernel
theorem dX3_howReadIn_14 : decode cX3_howReadIn 14 = .ok (.istore 5, 2) := by decide +kernel
theorem dX3_howReadIn_16 : decode cX3_howReadIn 16 = .ok (.iload 4, 2) := by decide +kernel
theorem dX3_howReadIn_18 : decode cX3_howReadIn 18 = .ok (.iconst (-1), 1) := by decide +kernel
theorem dX3_howReadIn_19 : decode cX3_howReadIn 19 = .ok (.if_icmp .ne 5, 3) := by decide +kernel
theorem dX3_howReadIn_22 : decode cX3_howReadIn 22 = .ok (.iconst 3, 1) := by decide +kernel
theorem dX3_howReadIn_23 : decode cX3_howReadIn 23 = .ok (.ireturn, 1) := by decide +kernel
theorem dX3_howReadIn_24 : decode cX3_howReadIn 24 = .ok (.iload 4, 2) := by decide +kernel
theorem dX3_howReadIn_26 : decode cX3_howReadIn 26 = .ok (.iload 5, 2) := by decide +kernel
theorem dX3_howReadIn_28 : decode cX3_howReadIn 28 = .ok (.if_icmp .ne 5, 3) := by decide +kernel
theorem dX3_howReadIn_31 : decode cX3_howReadIn 31 = .ok (.iconst 0, 1) := by decide +kernel
theorem dX3_howReadIn_32 : decode cX3_howReadIn 32 = .ok (.ireturn, 1) := by decide +kernel
theorem dX3_howReadIn_33 : decode cX3_howReadIn 33 = .ok (.aload_n 0, 1) := by decide +kernel
theorem dX3_howReadIn_34 : decode cX3_howReadIn 34 = .ok (.iload_n 2, 1) := by decide +kernel
theorem dX3_howReadIn_35 : decode cX3_howReadIn 35 = .ok (.iload_n 3, 1) := by decide +kernel
theorem dX3_howReadIn_36 : decode cX3_howReadIn 36 = .ok (.invokevirtual 78, 3) := by decide +kernel
theorem dX3_howReadIn_39 : decode cX3_howReadIn 39 = .ok (.iload 4, 2) := by decide +kernel
theorem dX3_howReadIn_41 : decode cX3_howReadIn 41 = .ok (.iload 5, 2) := by decide +kernel
theorem dX3_howReadIn_43 : decode cX3_howReadIn 43 = .ok (.invokestatic 105, 3) := by decide +kernel
theorem dX3_howReadIn_46 : decode cX3_howReadIn 46 = .ok (.ifCond .eq 7, 3) := by decide +kernel
theorem dX3_howReadIn_49 : decode cX3_howReadIn 49 = .ok (.iconst 2, 1) := by decide +kernel
theorem dX3_howReadIn_50 : decode cX3_howReadIn 50 = .ok (.goto 4, 3) := by decide +kernel
theorem dX3_howReadIn_53 : decode cX3_howReadIn 53 = .ok (.iconst 1, 1) := by decide +kernel
theorem dX3_howReadIn_54 : decode cX3_howReadIn 54 = .ok (.ireturn, 1) := by decide +kernel
set_option maxRecDepth 20000 in
theorem ggX3_lossesOfRowIn_X3_kindInRow : GoodIn wsX3_lossesOfRowIn wsX3_kindInRow := goodIn_r _ [5, 6, 7, 8, 9, 4, 10, 11, 36, 37, 38, 39, 40, 41] (by decide +kernel) (by decide +kernel)
set_option maxRecDepth 20000 in
theorem gX3_lossesOfRowIn_X3_kindInRow : GoodIn wsX3_lossesOfRowIn (wsV RX3 75 RX3 yX3_kindInRow wsX3_kindInRow) := goodIn_app (goodIn_of _ (by decide +kernel)) ggX3_lossesOfRowIn_X3_kindInRow
set_option maxRecDepth 20000 in
theorem ggX3_lossesOfRowIn_X3_kindIn : GoodIn wsX3_lossesOfRowIn wsX3_kindIn := goodIn_r _ [10, 11, 36, 37, 38, 39, 40, 41] (by decide +kernel) (by decide +kernel)
set_option maxRecDepth 20000 in
theorem gX3_lossesOfRowIn_X3_kindIn : GoodIn wsX3_lossesOfRowIn (wsV RX3 58 RX3 yX3_kindIn wsX3_kindIn) := goodIn_app (goodIn_of _ (by decide +kernel)) ggX3_lossesOfRowIn_X3_kindIn
set_option maxRecDepth 20000 in
theorem ggX3_lossesOfRowIn_X3_valueAt : GoodIn wsX3_lossesOfRowIn wsX3_valueAt := goodIn_r _ [15, 16, 36, 37, 38, 39, 40, 41] (by decide +kernel) (by decide +kernel)
set_option maxRecDepth 20000 in
theorem gX3_lossesOfRowIn_X3_valueAt : GoodIn wsX3_lossesOfRowIn (wsV RX3 78 RX3 yX3_valueAt wsX3_valueAt) := goodIn_app (goodIn_of _ (by decide +kernel)) ggX3_lossesOfRowIn_X3_valueAt
set_option maxRecDepth 20000 in
theorem ggX3_lossesOfRowIn_X4_castLoses : GoodIn wsX3_lossesOfRowIn wsX4_castLoses := goodIn_r _ [19, 20, 21, 18, 22, 23, 24, 25, 26, 27, 28, 29, 30, 31, 32, 33, 34, 35] (by decide +kernel) (by decide +kernel)
set_option maxRecDepth 20000 in
theorem gX3_lossesOfRowIn_X4_castLoses_n105 : GoodIn wsX3_lossesOfRowIn (wsX4_castLoses) := ggX3_lossesOfRowIn_X4_castLoses
theorem dX3_lossesOfRowIn_0 : decode cX3_lossesOfRowIn 0 = .ok (.iconst 0, 1) := by decide +kernel
theorem dX3_lossesOfRowIn_1 : decode cX3_lossesOfRowIn 1 = .ok (.istore_n 3, 1) := by decide +kernel
theorem dX3_lossesOfRowIn_2 : decode cX3_lossesOfRowIn 2 = .ok (.iconst 0, 1) := by decide +kernel
theorem dX3_lossesOfRowIn_3 : decode cX3_lossesOfRowIn 3 = .ok (.istore 4, 2) := by decide +kernel
theorem dX3_lossesOfRowIn_5 : decode cX3_lossesOfRowIn 5 = .ok (.iload 4, 2) := by decide +kernel
theorem dX3_lossesOfRowIn_7 : decode cX3_lossesOfRowIn 7 = .ok (.bipush 8, 2) := by decide +kernel
theorem dX3_lossesOfRowIn_9 : decode cX3_lossesOfRowIn 9 = .ok (.if_icmp .ge 59, 3) := by decide +kernel
theorem dX3_lossesOfRowIn_12 : decode cX3_lossesOfRowIn 12 = .ok (.aload_n 0, 1) := by decide +kernel
theorem dX3_lossesOfRowIn_13 : decode cX3_lossesOfRowIn 13 = .ok (.iload_n 2, 1) := by decide +kernel
theorem dX3_lossesOfRowIn_14 : decode cX3_lossesOfRowIn 14 = .ok (.iload 4, 2) := by decide +kernel
theorem dX3_lossesOfRowIn_16 : decode cX3_lossesOfRowIn 16 = .ok (.invokevirtual 75, 3) := by decide +kernel
theorem dX3_lossesOfRowIn_19 : decode cX3_lossesOfRowIn 19 = .ok (.istore 5, 2) := by decide +kernel
theorem dX3_lossesOfRowIn_21 : decode cX3_lossesOfRowIn 21 = .ok (.aload_n 0, 1) := by decide +kernel
theorem dX3_lossesOfRowIn_22 : decode cX3_lossesOfRowIn 22 = .ok (.iload_n 1, 1) := by decide +kernel
theorem dX3_lossesOfRowIn_23 : decode cX3_lossesOfRowIn 23 = .ok (.iload 4, 2) := by decide +kernel
theorem dX3_lossesOfRowIn_25 : decode cX3_lossesOfRowIn 25 = .ok (.invokevirtual 58, 3) := by decide +kernel
theorem dX3_lossesOfRowIn_28 : decode cX3_lossesOfRowIn 28 = .ok (.istore 6, 2) := by decide +kernel
theorem dX3_lossesOfRowIn_30 : decode cX3_lossesOfRowIn 30 = .ok (.iload 5, 2) := by decide +kernel
theorem dX3_lossesOfRowIn_32 : decode cX3_lossesOfRowIn 32 = .ok (.iconst (-1), 1) := by decide +kernel
theorem dX3_lossesOfRowIn_33 : decode cX3_lossesOfRowIn 33 = .ok (.if_icmp .eq 29, 3) := by decide +kernel
theorem dX3_lossesOfRowIn_36 : decode cX3_lossesOfRowIn 36 = .ok (.iload 6, 2) := by decide +kernel
theorem dX3_lossesOfRowIn_38 : decode cX3_lossesOfRowIn 38 = .ok (.iconst (-1), 1) := by decide +kernel
theorem dX3_lossesOfRowIn_39 : decode cX3_lossesOfRowIn 39 = .ok (.if_icmp .eq 20, 3) := by decide +kernel
theorem dX3_lossesOfRowIn_42 : decode cX3_lossesOfRowIn 42 = .ok (.aload_n 0, 1) := by decide +kernel
theorem dX3_lossesOfRowIn_43 : decode cX3_lossesOfRowIn 43 = .ok (.iload_n 2, 1) := by decide +kernel
theorem dX3_lossesOfRowIn_44 : decode cX3_lossesOfRowIn 44 = .ok (.iload 4, 2) := by decide +kernel
theorem dX3_lossesOfRowIn_46 : decode cX3_lossesOfRowIn 46 = .ok (.invokevirtual 78, 3) := by decide +kernel
theorem dX3_lossesOfRowIn_49 : decode cX3_lossesOfRowIn 49 = .ok (.iload 5, 2) := by decide +kernel
theorem dX3_lossesOfRowIn_51 : decode cX3_lossesOfRowIn 51 = .ok (.iload 6, 2) := by decide +kernel
theorem dX3_lossesOfRowIn_53 : decode cX3_lossesOfRowIn 53 = .ok (.invokestatic 105, 3) := by decide +kernel
theorem dX3_lossesOfRowIn_56 : decode cX3_lossesOfRowIn 56 = .ok (.ifCond .eq 6, 3) := by decide +kernel
theorem dX3_lossesOfRowIn_59 : decode cX3_lossesOfRowIn 59 = .ok (.iinc 3 1, 3) := by decide +kernel
theorem dX3_lossesOfRowIn_62 : decode cX3_lossesOfRowIn 62 = .ok (.iinc 4 1, 3) := by decide +kernel
theorem dX3_lossesOfRowIn_65 : decode cX3_lossesOfRowIn 65 = .ok (.goto (-60), 3) := by decide +kernel
theorem dX3_lossesOfRowIn_68 : decode cX3_lossesOfRowIn 68 = .ok (.iload_n 3, 1) := by decide +kernel
theorem dX3_lossesOfRowIn_69 : decode cX3_lossesOfRowIn 69 = .ok (.ireturn, 1) := by decide +kernel
set_option maxRecDepth 20000 in
theorem ggX3_lossesIn_X3_lossesOfRowIn : GoodIn wsX3_lossesIn wsX3_lossesOfRowIn := goodIn_r _ [6, 7, 8, 9, 5, 10, 11, 12, 13, 14, 15, 16, 17, 18, 19, 20, 21, 22, 23, 24, 25, 26, 27, 28, 29, 30, 31, 32, 33, 34, 35, 36, 37, 38, 39, 40, 41, 42, 43, 44, 45, 46] (by decide +kernel) (by decide +kernel)
set_option maxRecDepth 20000 in
theorem gX3_lossesIn_X3_lossesOfRowIn : GoodIn wsX3_lossesIn (wsV RX3 81 RX3 yX3_lossesOfRowIn wsX3_lossesOfRowIn) := goodIn_app (goodIn_of _ (by decide +kernel)) ggX3_lossesIn_X3_lossesOfRowIn
theorem dX3_lossesIn_0 : decode cX3_lossesIn 0 = .ok (.iconst 0, 1) := by decide +kernel
theorem dX3_lossesIn_1 : decode cX3_lossesIn 1 = .ok (.istore_n 2, 1) := by decide +kernel
theorem dX3_lossesIn_2 : decode cX3_lossesIn 2 = .ok (.iconst 0, 1) := by decide +kernel
theorem dX3_lossesIn_3 : decode cX3_lossesIn 3 = .ok (.istore_n 3, 1) := by decide +kernel
theorem dX3_lossesIn_4 : decode cX3_lossesIn 4 = .ok (.iload_n 3, 1) := by decide +kernel
theorem dX3_lossesIn_5 : decode cX3_lossesIn 5 = .ok (.aload_n 0, 1) := by decide +kernel
theorem dX3_lossesIn_6 : decode cX3_lossesIn 6 = .ok (.getfield 22, 3) := by decide +kernel
theorem dX3_lossesIn_9 : decode cX3_lossesIn 9 = .ok (.if_icmp .ge 18, 3) := by decide +kernel
theorem dX3_lossesIn_12 : decode cX3_lossesIn 12 = .ok (.iload_n 2, 1) := by decide +kernel
theorem dX3_lossesIn_13 : decode cX3_lossesIn 13 = .ok (.aload_n 0, 1) := by decide +kernel
theorem dX3_lossesIn_14 : decode cX3_lossesIn 14 = .ok (.iload_n 1, 1) := by decide +kernel
theorem dX3_lossesIn_15 : decode cX3_lossesIn 15 = .ok (.iload_n 3, 1) := by decide +kernel
theorem dX3_lossesIn_16 : decode cX3_lossesIn 16 = .ok (.invokevirtual 81, 3) := by decide +kernel
theorem dX3_lossesIn_19 : decode cX3_lossesIn 19 = .ok (.iadd, 1) := by decide +kernel
theorem dX3_lossesIn_20 : decode cX3_lossesIn 20 = .ok (.istore_n 2, 1) := by decide +kernel
theorem dX3_lossesIn_21 : decode cX3_lossesIn 21 = .ok (.iinc 3 1, 3) := by decide +kernel
theorem dX3_lossesIn_24 : decode cX3_lossesIn 24 = .ok (.goto (-20), 3) := by decide +kernel
theorem dX3_lossesIn_27 : decode cX3_lossesIn 27 = .ok (.iload_n 2, 1) := by decide +kernel
theorem dX3_lossesIn_28 : decode cX3_lossesIn 28 = .ok (.ireturn, 1) := by decide +kernel
set_option maxRecDepth 20000 in
theorem ggX3_seasonOfFewestLosses_X3_now : GoodIn wsX3_seasonOfFewestLosses wsX3_now := goodIn_r _ [5, 6, 50, 51, 52, 53, 54, 55] (by decide +kernel) (by decide +kernel)
set_option maxRecDepth 20000 in
theorem gX3_seasonOfFewestLosses_X3_now : GoodIn wsX3_seasonOfFewestLosses (wsV RX3 54 RX3 yX3_now wsX3_now) := goodIn_app (goodIn_of _ (by decide +kernel)) ggX3_seasonOfFewestLosses_X3_now
set_option maxRecDepth 20000 in
theorem ggX3_seasonOfFewestLosses_X3_lossesIn : GoodIn wsX3_seasonOfFewestLosses wsX3_lossesIn := goodIn_r _ [10, 11, 12, 13, 14, 4, 15, 16, 17, 18, 19, 20, 21, 22, 23, 24, 25, 26, 27, 28, 29, 30, 31, 32, 33, 34, 35, 36, 37, 38, 39, 40, 41, 42, 43, 44, 45, 46, 47, 48, 49, 50, 51, 52, 53, 54, 55] (by decide +kernel) (by decide +kernel)
set_option maxRecDepth 20000 in
theorem gX3_seasonOfFewestLosses_X3_lossesIn : GoodIn wsX3_seasonOfFewestLosses (wsV RX3 109 RX3 yX3_lossesIn wsX3_lossesIn) := goodIn_app (goodIn_of _ (by decide +kernel)) ggX3_seasonOfFewestLosses_X3_lossesIn
theorem dX3_seasonOfFewestLosses_0 : decode cX3_seasonOfFewestLosses 0 = .ok (.aload_n 0, 1) := by decide +kernel
theorem dX3_seasonOfFewestLosses_1 : decode cX3_seasonOfFewestLosses 1 = .ok (.invokevirtual 54, 3) := by decide +kernel
theorem dX3_seasonOfFewestLosses_4 : decode cX3_seasonOfFewestLosses 4 = .ok (.istore_n 1, 1) := by decide +kernel
theorem dX3_seasonOfFewestLosses_5 : decode cX3_seasonOfFewestLosses 5 = .ok (.aload_n 0, 1) := by decide +kernel
theorem dX3_seasonOfFewestLosses_6 : decode cX3_seasonOfFewestLosses 6 = .ok (.iload_n 1, 1) := by decide +kernel
theorem dX3_seasonOfFewestLosses_7 : decode cX3_seasonOfFewestLosses 7 = .ok (.invokevirtual 109, 3) := by decide +kernel
theorem dX3_seasonOfFewestLosses_10 : decode cX3_seasonOfFewestLosses 10 = .ok (.istore_n 2, 1) := by decide +kernel
theorem dX3_seasonOfFewestLosses_11 : decode cX3_seasonOfFewestLosses 11 = .ok (.iload_n 1, 1) := by decide +kernel
theorem dX3_seasonOfFewestLosses_12 : decode cX3_seasonOfFewestLosses 12 = .ok (.iconst 1, 1) := by decide +kernel
theorem dX3_seasonOfFewestLosses_13 : decode cX3_seasonOfFewestLosses 13 = .ok (.isub, 1) := by decide +kernel
theorem dX3_seasonOfFewestLosses_14 : decode cX3_seasonOfFewestLosses 14 = .ok (.istore_n 3, 1) := by decide +kernel
theorem dX3_seasonOfFewestLosses_15 : decode cX3_seasonOfFewestLosses 15 = .ok (.iload_n 3, 1) := by decide +kernel
theorem dX3_seasonOfFewestLosses_16 : decode cX3_seasonOfFewestLosses 16 = .ok (.ifCond .lt 27, 3) := by decide +kernel
theorem dX3_seasonOfFewestLosses_19 : decode cX3_seasonOfFewestLosses 19 = .ok (.aload_n 0, 1) := by decide +kernel
theorem dX3_seasonOfFewestLosses_20 : decode cX3_seasonOfFewestLosses 20 = .ok (.iload_n 3, 1) := by decide +kernel
theorem dX3_seasonOfFewestLosses_21 : decode cX3_seasonOfFewestLosses 21 = .ok (.invokevirtual 109, 3) := by decide +kernel
theorem dX3_seasonOfFewestLosses_24 : decode cX3_seasonOfFewestLosses 24 = .ok (.istore 4, 2) := by decide +kernel
theorem dX3_seasonOfFewestLosses_26 : decode cX3_seasonOfFewestLosses 26 = .ok (.iload 4, 2) := by decide +kernel
theorem dX3_seasonOfFewestLosses_28 : decode cX3_seasonOfFewestLosses 28 = .ok (.iload_n 2, 1) := by decide +kernel
theorem dX3_seasonOfFewestLosses_29 : decode cX3_seasonOfFewestLosses 29 = .ok (.if_icmp .ge 8, 3) := by decide +kernel
theorem dX3_seasonOfFewestLosses_32 : decode cX3_seasonOfFewestLosses 32 = .ok (.iload_n 3, 1) := by decide +kernel
theorem dX3_seasonOfFewestLosses_33 : decode cX3_seasonOfFewestLosses 33 = .ok (.istore_n 1, 1) := by decide +kernel
theorem dX3_seasonOfFewestLosses_34 : decode cX3_seasonOfFewestLosses 34 = .ok (.iload 4, 2) := by decide +kernel
theorem dX3_seasonOfFewestLosses_36 : decode cX3_seasonOfFewestLosses 36 = .ok (.istore_n 2, 1) := by decide +kernel
theorem dX3_seasonOfFewestLosses_37 : decode cX3_seasonOfFewestLosses 37 = .ok (.iinc 3 (-1), 3) := by decide +kernel
theorem dX3_seasonOfFewestLosses_40 : decode cX3_seasonOfFewestLosses 40 = .ok (.goto (-25), 3) := by decide +kernel
theorem dX3_seasonOfFewestLosses_43 : decode cX3_seasonOfFewestLosses 43 = .ok (.iload_n 1, 1) := by decide +kernel
theorem dX3_seasonOfFewestLosses_44 : decode cX3_seasonOfFewestLosses 44 = .ok (.ireturn, 1) := by decide +kernel
set_option maxRecDepth 20000 in
theorem ggX3_sharedNames_X3_namesIn : GoodIn wsX3_sharedNames wsX3_namesIn := goodIn_r _ [6, 7, 8, 9, 5, 10, 11, 12, 13, 14, 15, 16, 17] (by decide +kernel) (by decide +kernel)
set_option maxRecDepth 20000 in
theorem gX3_sharedNames_X3_namesIn : GoodIn wsX3_sharedNames (wsV RX3 96 RX3 yX3_namesIn wsX3_namesIn) := goodIn_app (goodIn_of _ (by decide +kernel)) ggX3_sharedNames_X3_namesIn
theorem dX3_sharedNames_0 : decode cX3_sharedNames 0 = .ok (.iload_n 2, 1) := by decide +kernel
theorem dX3_sharedNames_1 : decode cX3_sharedNames 1 = .ok (.iload_n 1, 1) := by decide +kernel
theorem dX3_sharedNames_2 : decode cX3_sharedNames 2 = .ok (.if_icmp .ge 5, 3) := by decide +kernel
theorem dX3_sharedNames_5 : decode cX3_sharedNames 5 = .ok (.iconst 0, 1) := by decide +kernel
theorem dX3_sharedNames_6 : decode cX3_sharedNames 6 = .ok (.ireturn, 1) := by decide +kernel
theorem dX3_sharedNames_7 : decode cX3_sharedNames 7 = .ok (.aload_n 0, 1) := by decide +kernel
theorem dX3_sharedNames_8 : decode cX3_sharedNames 8 = .ok (.aload_n 0, 1) := by decide +kernel
theorem dX3_sharedNames_9 : decode cX3_sharedNames 9 = .ok (.getfield 25, 3) := by decide +kernel
theorem dX3_sharedNames_12 : decode cX3_sharedNames 12 = .ok (.iload_n 1, 1) := by decide +kernel
theorem dX3_sharedNames_13 : decode cX3_sharedNames 13 = .ok (.iaload, 1) := by decide +kernel
theorem dX3_sharedNames_14 : decode cX3_sharedNames 14 = .ok (.invokevirtual 96, 3) := by decide +kernel
theorem dX3_sharedNames_17 : decode cX3_sharedNames 17 = .ok (.istore_n 3, 1) := by decide +kernel
theorem dX3_sharedNames_18 : decode cX3_sharedNames 18 = .ok (.iload_n 1, 1) := by decide +kernel
theorem dX3_sharedNames_19 : decode cX3_sharedNames 19 = .ok (.iconst 1, 1) := by decide +kernel
theorem dX3_sharedNames_20 : decode cX3_sharedNames 20 = .ok (.iadd, 1) := by decide +kernel
theorem dX3_sharedNames_21 : decode cX3_sharedNames 21 = .ok (.istore 4, 2) := by decide +kernel
theorem dX3_sharedNames_23 : decode cX3_sharedNames 23 = .ok (.iload 4, 2) := by decide +kernel
theorem dX3_sharedNames_25 : decode cX3_sharedNames 25 = .ok (.iload_n 2, 1) := by decide +kernel
theorem dX3_sharedNames_26 : decode cX3_sharedNames 26 = .ok (.if_icmp .gt 23, 3) := by decide +kernel
theorem dX3_sharedNames_29 : decode cX3_sharedNames 29 = .ok (.iload_n 3, 1) := by decide +kernel
theorem dX3_sharedNames_30 : decode cX3_sharedNames 30 = .ok (.aload_n 0, 1) := by decide +kernel
theorem dX3_sharedNames_31 : decode cX3_sharedNames 31 = .ok (.aload_n 0, 1) := by decide +kernel
theorem dX3_sharedNames_32 : decode cX3_sharedNames 32 = .ok (.getfield 25, 3) := by decide +kernel
theorem dX3_sharedNames_35 : decode cX3_sharedNames 35 = .ok (.iload 4, 2) := by decide +kernel
theorem dX3_sharedNames_37 : decode cX3_sharedNames 37 = .ok (.iaload, 1) := by decide +kernel
theorem dX3_sharedNames_38 : decode cX3_sharedNames 38 = .ok (.invokevirtual 96, 3) := by decide +kernel
theorem dX3_sharedNames_41 : decode cX3_sharedNames 41 = .ok (.iand, 1) := by decide +kernel
theorem dX3_sharedNames_42 : decode cX3_sharedNames 42 = .ok (.istore_n 3, 1) := by decide +kernel
theorem dX3_sharedNames_43 : decode cX3_sharedNames 43 = .ok (.iinc 4 1, 3) := by decide +kernel
theorem dX3_sharedNames_46 : decode cX3_sharedNames 46 = .ok (.goto (-23), 3) := by decide +kernel
theorem dX3_sharedNames_49 : decode cX3_sharedNames 49 = .ok (.iload_n 3, 1) := by decide +kernel
theorem dX3_sharedNames_50 : decode cX3_sharedNames 50 = .ok (.ireturn, 1) := by decide +kernel
set_option maxRecDepth 20000 in
theorem ggX3_defaultsInView_X3_sharedNames : GoodIn wsX3_defaultsInView wsX3_sharedNames := goodIn_r _ [5, 6, 7, 8, 9, 4, 10, 11, 12, 13, 14, 15, 34, 35, 36, 37, 38, 39] (by decide +kernel) (by decide +kernel)
set_option maxRecDepth 20000 in
theorem gX3_defaultsInView_X3_sharedNames : GoodIn wsX3_defaultsInView (wsV RX3 112 RX3 yX3_sharedNames wsX3_sharedNames) := goodIn_app (goodIn_of _ (by decide +kernel)) ggX3_defaultsInView_X3_sharedNames
set_option maxRecDepth 20000 in
theorem ggX3_defaultsInView_X3_now : GoodIn wsX3_defaultsInView wsX3_now := goodIn_r _ [19, 20, 34, 35, 36, 37, 38, 39] (by decide +kernel) (by decide +kernel)
set_option maxRecDepth 20000 in
theorem gX3_defaultsInView_X3_now : GoodIn wsX3_defaultsInView (wsV RX3 54 RX3 yX3_now wsX3_now) := goodIn_app (goodIn_of _ (by decide +kernel)) ggX3_defaultsInView_X3_now
set_option maxRecDepth 20000 in
theorem ggX3_defaultsInView_X3_namesIn : GoodIn wsX3_defaultsInView wsX3_namesIn := goodIn_r _ [10, 11, 12, 13, 4, 14, 15, 34, 35, 36, 37, 38, 39] (by decide +kernel) (by decide +kernel)
set_option maxRecDepth 20000 in
theorem gX3_defaultsInView_X3_namesIn : GoodIn wsX3_defaultsInView (wsV RX3 96 RX3 yX3_namesIn wsX3_namesIn) := goodIn_app (goodIn_of _ (by decide +kernel)) ggX3_defaultsInView_X3_namesIn
set_option maxRecDepth 20000 in
theorem ggX3_defaultsInView_X4_hasName : GoodIn wsX3_defaultsInView wsX4_hasName := goodIn_r _ [23] (by decide +kernel) (by decide +kernel)
set_option maxRecDepth 20000 in
theorem gX3_defaultsInView_X4_hasName_n115 : GoodIn wsX3_defaultsInView (wsX4_hasName) := ggX3_defaultsInView_X4_hasName
set_option maxRecDepth 20000 in
theorem ggX3_defaultsInView_X3_valueAt : GoodIn wsX3_defaultsInView wsX3_valueAt := goodIn_r _ [27, 28, 34, 35, 36, 37, 38, 39] (by decide +kernel) (by decide +kernel)
set_option maxRecDepth 20000 in
theorem gX3_defaultsInView_X3_valueAt : GoodIn wsX3_defaultsInView (wsV RX3 78 RX3 yX3_valueAt wsX3_valueAt) := goodIn_app (goodIn_of _ (by decide +kernel)) ggX3_defaultsInView_X3_valueAt
set_option maxRecDepth 20000 in
theorem ggX3_defaultsInView_X3_standardIn : GoodIn wsX3_defaultsInView wsX3_standardIn := goodIn_r _ [32, 33, 34, 35, 36, 37, 38, 39] (by decide +kernel) (by decide +kernel)
set_option maxRecDepth 20000 in
theorem gX3_defaultsInView_X3_standardIn : GoodIn wsX3_defaultsInView (wsV RX3 66 RX3 yX3_standardIn wsX3_standardIn) := goodIn_app (goodIn_of _ (by decide +kernel)) ggX3_defaultsInView_X3_standardIn
theorem dX3_defaultsInView_0 : decode cX3_defaultsInView 0 = .ok (.aload_n 0, 1) := by decide +kernel
theorem dX3_defaultsInView_1 : decode cX3_defaultsInView 1 = .ok (.iload_n 1, 1) := by decide +kernel
theorem dX3_defaultsInView_2 : decode cX3_defaultsInView 2 = .ok (.iload_n 2, 1) := by decide +kernel
theorem dX3_defaultsInView_3 : decode cX3_defaultsInView 3 = .ok (.invokevirtual 112, 3) := by decide +kernel
theorem dX3_defaultsInView_6 : decode cX3_defaultsInView 6 = .ok (.aload_n 0, 1) := by decide +kernel
theorem dX3_defaultsInView_7 : decode cX3_defaultsInView 7 = .ok (.aload_n 0, 1) := by decide +kernel
theorem dX3_defaultsInView_8 : decode cX3_defaultsInView 8 = .ok (.invokevirtual 54, 3) := by decide +kernel
theorem dX3_defaultsInView_11 : decode cX3_defaultsInView 11 = .ok (.invokevirtual 96, 3) := by decide +kernel
theorem dX3_defaultsInView_14 : decode cX3_defaultsInView 14 = .ok (.iand, 1) := by decide +kernel
theorem dX3_defaultsInView_15 : decode cX3_defaultsInView 15 = .ok (.istore_n 3, 1) := by decide +kernel
theorem dX3_defaultsInView_16 : decode cX3_defaultsInView 16 = .ok (.iconst 0, 1) := by decide +kernel
theorem dX3_defaultsInView_17 : decode cX3_defaultsInView 17 = .ok (.istore 4, 2) := by decide +kernel
theorem dX3_defaultsInView_19 : decode cX3_defaultsInView 19 = .ok (.iload_n 1, 1) := by decide +kernel
theorem dX3_defaultsInView_20 : decode cX3_defaultsInView 20 = .ok (.istore 5, 2) := by decide +kernel
theorem dX3_defaultsInView_22 : decode cX3_defaultsInView 22 = .ok (.iload 5, 2) := by decide +kernel
theorem dX3_defaultsInView_24 : decode cX3_defaultsInView 24 = .ok (.iload_n 2, 1) := by decide +kernel
theorem dX3_defaultsInView_25 : decode cX3_defaultsInView 25 = .ok (.if_icmp .gt 58, 3) := by decide +kernel
theorem dX3_defaultsInView_28 : decode cX3_defaultsInView 28 = .ok (.iconst 0, 1) := by decide +kernel
theorem dX3_defaultsInView_29 : decode cX3_defaultsInView 29 = .ok (.istore 6, 2) := by decide +kernel
theorem dX3_defaultsInView_31 : decode cX3_defaultsInView 31 = .ok (.iload 6, 2) := by decide +kernel
theorem dX3_defaultsInView_33 : decode cX3_defaultsInView 33 = .ok (.bipush 8, 2) := by decide +kernel
theorem dX3_defaultsInView_35 : decode cX3_defaultsInView 35 = .ok (.if_icmp .ge 42, 3) := by decide +kernel
theorem dX3_defaultsInView_38 : decode cX3_defaultsInView 38 = .ok (.iload_n 3, 1) := by decide +kernel
theorem dX3_defaultsInView_39 : decode cX3_defaultsInView 39 = .ok (.iload 6, 2) := by decide +kernel
theorem dX3_defaultsInView_41 : decode cX3_defaultsInView 41 = .ok (.invokestatic 115, 3) := by decide +kernel
theorem dX3_defaultsInView_44 : decode cX3_defaultsInView 44 = .ok (.ifCond .eq 27, 3) := by decide +kernel
theorem dX3_defaultsInView_47 : decode cX3_defaultsInView 47 = .ok (.aload_n 0, 1) := by decide +kernel
theorem dX3_defaultsInView_48 : decode cX3_defaultsInView 48 = .ok (.iload 5, 2) := by decide +kernel
theorem dX3_defaultsInView_50 : decode cX3_defaultsInView 50 = .ok (.iload 6, 2) := by decide +kernel
theorem dX3_defaultsInView_52 : decode cX3_defaultsInView 52 = .ok (.invokevirtual 78, 3) := by decide +kernel
theorem dX3_defaultsInView_55 : decode cX3_defaultsInView 55 = .ok (.aload_n 0, 1) := by decide +kernel
theorem dX3_defaultsInView_56 : decode cX3_defaultsInView 56 = .ok (.aload_n 0, 1) := by decide +kernel
theorem dX3_defaultsInView_57 : decode cX3_defaultsInView 57 = .ok (.invokevirtual 54, 3) := by decide +kernel
theorem dX3_defaultsInView_60 : decode cX3_defaultsInView 60 = .ok (.iload 6, 2) := by decide +kernel
theorem dX3_defaultsInView_62 : decode cX3_defaultsInView 62 = .ok (.invokevirtual 66, 3) := by decide +kernel
theorem dX3_defaultsInView_65 : decode cX3_defaultsInView 65 = .ok (.if_icmp .ne 6, 3) := by decide +kernel
theorem dX3_defaultsInView_68 : decode cX3_defaultsInView 68 = .ok (.iinc 4 1, 3) := by decide +kernel
theorem dX3_defaultsInView_71 : decode cX3_defaultsInView 71 = .ok (.iinc 6 1, 3) := by decide +kernel
theorem dX3_defaultsInView_74 : decode cX3_defaultsInView 74 = .ok (.goto (-43), 3) := by decide +kernel
theorem dX3_defaultsInView_77 : decode cX3_defaultsInView 77 = .ok (.iinc 5 1, 3) := by decide +kernel
theorem dX3_defaultsInView_80 : decode cX3_defaultsInView 80 = .ok (.goto (-58), 3) := by decide +kernel
theorem dX3_defaultsInView_83 : decode cX3_defaultsInView 83 = .ok (.iload 4, 2) := by decide +kernel
theorem dX3_defaultsInView_85 : decode cX3_defaultsInView 85 = .ok (.ireturn, 1) := by decide +kernel
set_option maxRecDepth 20000 in
theorem ggX3_widestKind_X3_kindInRow : GoodIn wsX3_widestKind wsX3_kindInRow := goodIn_r _ [9, 10, 11, 12, 13, 8, 14, 15, 16, 17, 18, 19, 20, 21] (by decide +kernel) (by decide +kernel)
set_option maxRecDepth 20000 in
theorem gX3_widestKind_X3_kindInRow : GoodIn wsX3_widestKind (wsV RX3 75 RX3 yX3_kindInRow wsX3_kindInRow) := goodIn_app (goodIn_of _ (by decide +kernel)) ggX3_widestKind_X3_kindInRow
theorem dX3_widestKind_0 : decode cX3_widestKind 0 = .ok (.iconst 0, 1) := by decide +kernel
theorem dX3_widestKind_1 : decode cX3_widestKind 1 = .ok (.istore 4, 2) := by decide +kernel
theorem dX3_widestKind_3 : decode cX3_widestKind 3 = .ok (.iload_n 1, 1) := by decide +kernel
theorem dX3_widestKind_4 : decode cX3_widestKind 4 = .ok (.istore 5, 2) := by decide +kernel
theorem dX3_widestKind_6 : decode cX3_widestKind 6 = .ok (.iload 5, 2) := by decide +kernel
theorem dX3_widestKind_8 : decode cX3_widestKind 8 = .ok (.iload_n 2, 1) := by decide +kernel
theorem dX3_widestKind_9 : decode cX3_widestKind 9 = .ok (.if_icmp .gt 23, 3) := by decide +kernel
theorem dX3_widestKind_12 : decode cX3_widestKind 12 = .ok (.iload 4, 2) := by decide +kernel
theorem dX3_widestKind_14 : decode cX3_widestKind 14 = .ok (.aload_n 0, 1) := by decide +kernel
theorem dX3_widestKind_15 : decode cX3_widestKind 15 = .ok (.iload 5, 2) := by decide +kernel
theorem dX3_widestKind_17 : decode cX3_widestKind 17 = .ok (.iload_n 3, 1) := by decide +kernel
theorem dX3_widestKind_18 : decode cX3_widestKind 18 = .ok (.invokevirtual 75, 3) := by decide +kernel
theorem dX3_widestKind_21 : decode cX3_widestKind 21 = .ok (.invokestatic 118, 3) := by decide +kernel
theorem dX3_widestKind_24 : decode cX3_widestKind 24 = .ok (.istore 4, 2) := by decide +kernel
theorem dX3_widestKind_26 : decode cX3_widestKind 26 = .ok (.iinc 5 1, 3) := by decide +kernel
theorem dX3_widestKind_29 : decode cX3_widestKind 29 = .ok (.goto (-23), 3) := by decide +kernel
theorem dX3_widestKind_32 : decode cX3_widestKind 32 = .ok (.iload 4, 2) := by decide +kernel
theorem dX3_widestKind_34 : decode cX3_widestKind 34 = .ok (.ireturn, 1) := by decide +kernel
set_option maxRecDepth 20000 in
theorem ggX3_sumOfValues_X3_valueAt : GoodIn wsX3_sumOfValues wsX3_valueAt := goodIn_r _ [5, 6, 7, 8, 9, 10, 11, 12] (by decide +kernel) (by decide +kernel)
set_option maxRecDepth 20000 in
theorem gX3_sumOfValues_X3_valueAt : GoodIn wsX3_sumOfValues (wsV RX3 78 RX3 yX3_valueAt wsX3_valueAt) := goodIn_app (goodIn_of _ (by decide +kernel)) ggX3_sumOfValues_X3_valueAt
theorem dX3_sumOfValues_0 : decode cX3_sumOfValues 0 = .ok (.iconst 0, 1) := by decide +kernel
theorem dX3_sumOfValues_1 : decode cX3_sumOfValues 1 = .ok (.istore 4, 2) := by decide +kernel
theorem dX3_sumOfValues_3 : decode cX3_sumOfValues 3 = .ok (.iload_n 1, 1) := by decide +kernel
theorem dX3_sumOfValues_4 : decode cX3_sumOfValues 4 = .ok (.istore 5, 2) := by decide +kernel
theorem dX3_sumOfValues_6 : decode cX3_sumOfValues 6 = .ok (.iload 5, 2) := by decide +kernel
theorem dX3_sumOfValues_8 : decode cX3_sumOfValues 8 = .ok (.iload_n 2, 1) := by decide +kernel
theorem dX3_sumOfValues_9 : decode cX3_sumOfValues 9 = .ok (.if_icmp .gt 21, 3) := by decide +kernel
theorem dX3_sumOfValues_12 : decode cX3_sumOfValues 12 = .ok (.iload 4, 2) := by decide +kernel
theorem dX3_sumOfValues_14 : decode cX3_sumOfValues 14 = .ok (.aload_n 0, 1) := by decide +kernel
theorem dX3_sumOfValues_15 : decode cX3_sumOfValues 15 = .ok (.iload 5, 2) := by decide +kernel
theorem dX3_sumOfValues_17 : decode cX3_sumOfValues 17 = .ok (.iload_n 3, 1) := by decide +kernel
theorem dX3_sumOfValues_18 : decode cX3_sumOfValues 18 = .ok (.invokevirtual 78, 3) := by decide +kernel
theorem dX3_sumOfValues_21 : decode cX3_sumOfValues 21 = .ok (.iadd, 1) := by decide +kernel
theorem dX3_sumOfValues_22 : decode cX3_sumOfValues 22 = .ok (.istore 4, 2) := by decide +kernel
theorem dX3_sumOfValues_24 : decode cX3_sumOfValues 24 = .ok (.iinc 5 1, 3) := by decide +kernel
theorem dX3_sumOfValues_27 : decode cX3_sumOfValues 27 = .ok (.goto (-21), 3) := by decide +kernel
theorem dX3_sumOfValues_30 : decode cX3_sumOfValues 30 = .ok (.iload 4, 2) := by decide +kernel
theorem dX3_sumOfValues_32 : decode cX3_sumOfValues 32 = .ok (.ireturn, 1) := by decide +kernel
set_option maxRecDepth 20000 in
theorem ggX3_leastValue_X3_valueAt : GoodIn wsX3_leastValue wsX3_valueAt := goodIn_r _ [9, 10, 11, 12, 13, 14, 15, 16] (by decide +kernel) (by decide +kernel)
set_option maxRecDepth 20000 in
theorem gX3_leastValue_X3_valueAt : GoodIn wsX3_leastValue (wsV RX3 78 RX3 yX3_valueAt wsX3_valueAt) := goodIn_app (goodIn_of _ (by decide +kernel)) ggX3_leastValue_X3_valueAt
theorem dX3_leastValue_0 : decode cX3_leastValue 0 = .ok (.sipush 9999, 3) := by decide +kernel
theorem dX3_leastValue_3 : decode cX3_leastValue 3 = .ok (.istore 4, 2) := by decide +kernel
theorem dX3_leastValue_5 : decode cX3_leastValue 5 = .ok (.iload_n 1, 1) := by decide +kernel
theorem dX3_leastValue_6 : decode cX3_leastValue 6 = .ok (.istore 5, 2) := by decide +kernel
theorem dX3_leastValue_8 : decode cX3_leastValue 8 = .ok (.iload 5, 2) := by decide +kernel
theorem dX3_leastValue_10 : decode cX3_leastValue 10 = .ok (.iload_n 2, 1) := by decide +kernel
theorem dX3_leastValue_11 : decode cX3_leastValue 11 = .ok (.if_icmp .gt 23, 3) := by decide +kernel
theorem dX3_leastValue_14 : decode cX3_leastValue 14 = .ok (.iload 4, 2) := by decide +kernel
theorem dX3_leastValue_16 : decode cX3_leastValue 16 = .ok (.aload_n 0, 1) := by decide +kernel
theorem dX3_leastValue_17 : decode cX3_leastValue 17 = .ok (.iload 5, 2) := by decide +kernel
theorem dX3_leastValue_19 : decode cX3_leastValue 19 = .ok (.iload_n 3, 1) := by decide +kernel
theorem dX3_leastValue_20 : decode cX3_leastValue 20 = .ok (.invokevirtual 78, 3) := by decide +kernel
theorem dX3_leastValue_23 : decode cX3_leastValue 23 = .ok (.invokestatic 91, 3) := by decide +kernel
theorem dX3_leastValue_26 : decode cX3_leastValue 26 = .ok (.istore 4, 2) := by decide +kernel
theorem dX3_leastValue_28 : decode cX3_leastValue 28 = .ok (.iinc 5 1, 3) := by decide +kernel
theorem dX3_leastValue_31 : decode cX3_leastValue 31 = .ok (.goto (-23), 3) := by decide +kernel
theorem dX3_leastValue_34 : decode cX3_leastValue 34 = .ok (.iload 4, 2) := by decide +kernel
theorem dX3_leastValue_36 : decode cX3_leastValue 36 = .ok (.ireturn, 1) := by decide +kernel
set_option maxRecDepth 20000 in
theorem ggX3_greatestValue_X3_valueAt : GoodIn wsX3_greatestValue wsX3_valueAt := goodIn_r _ [9, 10, 11, 12, 13, 14, 15, 16] (by decide +kernel) (by decide +kernel)
set_option maxRecDepth 20000 in
theorem gX3_greatestValue_X3_valueAt : GoodIn wsX3_greatestValue (wsV RX3 78 RX3 yX3_valueAt wsX3_valueAt) := goodIn_app (goodIn_of _ (by decide +kernel)) ggX3_greatestValue_X3_valueAt
theorem dX3_greatestValue_0 : decode cX3_greatestValue 0 = .ok (.sipush (-9999), 3) := by decide +kernel
theorem dX3_greatestValue_3 : decode cX3_greatestValue 3 = .ok (.istore 4, 2) := by decide +kernel
theorem dX3_greatestValue_5 : decode cX3_greatestValue 5 = .ok (.iload_n 1, 1) := by decide +kernel
theorem dX3_greatestValue_6 : decode cX3_greatestValue 6 = .ok (.istore 5, 2) := by decide +kernel
theorem dX3_greatestValue_8 : decode cX3_greatestValue 8 = .ok (.iload 5, 2) := by decide +kernel
theorem dX3_greatestValue_10 : decode cX3_greatestValue 10 = .ok (.iload_n 2, 1) := by decide +kernel
theorem dX3_greatestValue_11 : decode cX3_greatestValue 11 = .ok (.if_icmp .gt 23, 3) := by decide +kernel
theorem dX3_greatestValue_14 : decode cX3_greatestValue 14 = .ok (.iload 4, 2) := by decide +kernel
theorem dX3_greatestValue_16 : decode cX3_greatestValue 16 = .ok (.aload_n 0, 1) := by decide +kernel
theorem dX3_greatestValue_17 : decode cX3_greatestValue 17 = .ok (.iload 5, 2) := by decide +kernel
theorem dX3_greatestValue_19 : decode cX3_greatestValue 19 = .ok (.iload_n 3, 1) := by decide +kernel
theorem dX3_greatestValue_20 : decode cX3_greatestValue 20 = .ok (.invokevirtual 78, 3) := by decide +kernel
theorem dX3_greatestValue_23 : decode cX3_greatestValue 23 = .ok (.invokestatic 118, 3) := by decide +kernel
theorem dX3_greatestValue_26 : decode cX3_greatestValue 26 = .ok (.istore 4, 2) := by decide +kernel
theorem dX3_greatestValue_28 : decode cX3_greatestValue 28 = .ok (.iinc 5 1, 3) := by decide +kernel
theorem dX3_greatestValue_31 : decode cX3_greatestValue 31 = .ok (.goto (-23), 3) := by decide +kernel
theorem dX3_greatestValue_34 : decode cX3_greatestValue 34 = .ok (.iload 4, 2) := by decide +kernel
theorem dX3_greatestValue_36 : decode cX3_greatestValue 36 = .ok (.ireturn, 1) := by decide +kernel
set_option maxRecDepth 20000 in
theorem ggX3_unlikeValues_X3_isFirstOfItsValue : GoodIn wsX3_unlikeValues wsX3_isFirstOfItsValue := goodIn_r _ [5, 6, 7, 8, 4, 9, 10, 11, 12, 13, 14, 15, 16] (by decide +kernel) (by decide +kernel)
set_option maxRecDepth 20000 in
theorem gX3_unlikeValues_X3_isFirstOfItsValue : GoodIn wsX3_unlikeValues (wsV RX3 121 RX3 yX3_isFirstOfItsValue wsX3_isFirstOfItsValue) := goodIn_app (goodIn_of _ (by decide +kernel)) ggX3_unlikeValues_X3_isFirstOfItsValue
theorem dX3_unlikeValues_0 : decode cX3_unlikeValues 0 = .ok (.iconst 0, 1) := by decide +kernel
theorem dX3_unlikeValues_1 : decode cX3_unlikeValues 1 = .ok (.istore 4, 2) := by decide +kernel
theorem dX3_unlikeValues_3 : decode cX3_unlikeValues 3 = .ok (.iload_n 1, 1) := by decide +kernel
theorem dX3_unlikeValues_4 : decode cX3_unlikeValues 4 = .ok (.istore 5, 2) := by decide +kernel
theorem dX3_unlikeValues_6 : decode cX3_unlikeValues 6 = .ok (.iload 5, 2) := by decide +kernel
theorem dX3_unlikeValues_8 : decode cX3_unlikeValues 8 = .ok (.iload_n 2, 1) := by decide +kernel
theorem dX3_unlikeValues_9 : decode cX3_unlikeValues 9 = .ok (.if_icmp .gt 23, 3) := by decide +kernel
theorem dX3_unlikeValues_12 : decode cX3_unlikeValues 12 = .ok (.aload_n 0, 1) := by decide +kernel
theorem dX3_unlikeValues_13 : decode cX3_unlikeValues 13 = .ok (.iload_n 1, 1) := by decide +kernel
theorem dX3_unlikeValues_14 : decode cX3_unlikeValues 14 = .ok (.iload 5, 2) := by decide +kernel
theorem dX3_unlikeValues_16 : decode cX3_unlikeValues 16 = .ok (.iload_n 3, 1) := by decide +kernel
theorem dX3_unlikeValues_17 : decode cX3_unlikeValues 17 = .ok (.invokevirtual 121, 3) := by decide +kernel
theorem dX3_unlikeValues_20 : decode cX3_unlikeValues 20 = .ok (.ifCond .eq 6, 3) := by decide +kernel
theorem dX3_unlikeValues_23 : decode cX3_unlikeValues 23 = .ok (.iinc 4 1, 3) := by decide +kernel
theorem dX3_unlikeValues_26 : decode cX3_unlikeValues 26 = .ok (.iinc 5 1, 3) := by decide +kernel
theorem dX3_unlikeValues_29 : decode cX3_unlikeValues 29 = .ok (.goto (-23), 3) := by decide +kernel
theorem dX3_unlikeValues_32 : decode cX3_unlikeValues 32 = .ok (.iload 4, 2) := by decide +kernel
theorem dX3_unlikeValues_34 : decode cX3_unlikeValues 34 = .ok (.ireturn, 1) := by decide +kernel
set_option maxRecDepth 20000 in
theorem ggX3_isFirstOfItsValue_X3_valueAt : GoodIn wsX3_isFirstOfItsValue wsX3_valueAt := goodIn_r _ [5, 6, 7, 8, 9, 10, 11, 12] (by decide +kernel) (by decide +kernel)
set_option maxRecDepth 20000 in
theorem gX3_isFirstOfItsValue_X3_valueAt : GoodIn wsX3_isFirstOfItsValue (wsV RX3 78 RX3 yX3_valueAt wsX3_valueAt) := goodIn_app (goodIn_of _ (by decide +kernel)) ggX3_isFirstOfItsValue_X3_valueAt
theorem dX3_isFirstOfItsValue_0 : decode cX3_isFirstOfItsValue 0 = .ok (.iload_n 1, 1) := by decide +kernel
theorem dX3_isFirstOfItsValue_1 : decode cX3_isFirstOfItsValue 1 = .ok (.istore 4, 2) := by decide +kernel
theorem dX3_isFirstOfItsValue_3 : decode cX3_isFirstOfItsValue 3 = .ok (.iload 4, 2) := by decide +kernel
theorem dX3_isFirstOfItsValue_5 : decode cX3_isFirstOfItsValue 5 = .ok (.iload_n 2, 1) := by decide +kernel
theorem dX3_isFirstOfItsValue_6 : decode cX3_isFirstOfItsValue 6 = .ok (.if_icmp .ge 27, 3) := by decide +kernel
theorem dX3_isFirstOfItsValue_9 : decode cX3_isFirstOfItsValue 9 = .ok (.aload_n 0, 1) := by decide +kernel
theorem dX3_isFirstOfItsValue_10 : decode cX3_isFirstOfItsValue 10 = .ok (.iload 4, 2) := by decide +kernel
theorem dX3_isFirstOfItsValue_12 : decode cX3_isFirstOfItsValue 12 = .ok (.iload_n 3, 1) := by decide +kernel
theorem dX3_isFirstOfItsValue_13 : decode cX3_isFirstOfItsValue 13 = .ok (.invokevirtual 78, 3) := by decide +kernel
theorem dX3_isFirstOfItsValue_16 : decode cX3_isFirstOfItsValue 16 = .ok (.aload_n 0, 1) := by decide +kernel
theorem dX3_isFirstOfItsValue_17 : decode cX3_isFirstOfItsValue 17 = .ok (.iload_n 2, 1) := by decide +kernel
theorem dX3_isFirstOfItsValue_18 : decode cX3_isFirstOfItsValue 18 = .ok (.iload_n 3, 1) := by decide +kernel
theorem dX3_isFirstOfItsValue_19 : decode cX3_isFirstOfItsValue 19 = .ok (.invokevirtual 78, 3) := by decide +kernel
theorem dX3_isFirstOfItsValue_22 : decode cX3_isFirstOfItsValue 22 = .ok (.if_icmp .ne 5, 3) := by decide +kernel
theorem dX3_isFirstOfItsValue_25 : decode cX3_isFirstOfItsValue 25 = .ok (.iconst 0, 1) := by decide +kernel
theorem dX3_isFirstOfItsValue_26 : decode cX3_isFirstOfItsValue 26 = .ok (.ireturn, 1) := by decide +kernel
theorem dX3_isFirstOfItsValue_27 : decode cX3_isFirstOfItsValue 27 = .ok (.iinc 4 1, 3) := by decide +kernel
theorem dX3_isFirstOfItsValue_30 : decode cX3_isFirstOfItsValue 30 = .ok (.goto (-27), 3) := by decide +kernel
theorem dX3_isFirstOfItsValue_33 : decode cX3_isFirstOfItsValue 33 = .ok (.iconst 1, 1) := by decide +kernel
theorem dX3_isFirstOfItsValue_34 : decode cX3_isFirstOfItsValue 34 = .ok (.ireturn, 1) := by decide +kernel
end
section
set_option maxRecDepth 20000 in
theorem ggX4_init_X3_init : GoodIn wsX4_init wsX3_init := goodIn_r _ [22, 23, 2, 3, 24, 25, 26, 27, 28, 29, 30, 31, 32, 33, 34, 67, 68, 69, 70, 71, 72] (by decide +kernel) (by decide +kernel)
set_option maxRecDepth 20000 in
theorem gX4_init_X3_init : GoodIn wsX4_init (wsX3_init) := ggX4_init_X3_init
set_option maxRecDepth 20000 in
theorem ggX4_init_X1_init : GoodIn wsX4_init wsX1_init := goodIn_r _ [37, 38, 2, 3, 39, 40, 41, 42, 5, 6, 43, 21, 22, 23, 24, 25, 26, 27, 28, 29, 30, 31, 32, 33, 34, 80, 81, 82, 67, 68, 69, 70, 71, 72] (by decide +kernel) (by decide +kernel)
set_option maxRecDepth 20000 in
theorem gX4_init_X1_init : GoodIn wsX4_init (wsX1_init) := ggX4_init_X1_init
set_option maxRecDepth 20000 in
theorem ggX4_init_X2_init : GoodIn wsX4_init wsX2_init := goodIn_r _ [46, 47, 2, 3, 48, 49, 50, 51, 52, 53, 54, 55, 56, 57, 58, 59, 60, 61, 62, 63, 64, 65, 66, 83, 84, 85, 86, 87, 88, 89, 90, 91, 92, 93] (by decide +kernel) (by decide +kernel)
set_option maxRecDepth 20000 in
theorem gX4_init_X2_init : GoodIn wsX4_init (wsX2_init) := ggX4_init_X2_init
theorem dX4_init_0 : decode cX4_init 0 = .ok (.aload_n 0, 1) := by decide +kernel
theorem dX4_init_1 : decode cX4_init 1 = .ok (.invokespecial 1, 3) := by decide +kernel
theorem dX4_init_4 : decode cX4_init 4 = .ok (.aload_n 0, 1) := by decide +kernel
theorem dX4_init_5 : decode cX4_init 5 = .ok (.new 7, 3) := by decide +kernel
theorem dX4_init_8 : decode cX4_init 8 = .ok (.dup, 1) := by decide +kernel
theorem dX4_init_9 : decode cX4_init 9 = .ok (.invokespecial 9, 3) := by decide +kernel
theorem dX4_init_12 : decode cX4_init 12 = .ok (.putfield 10, 3) := by decide +kernel
theorem dX4_init_15 : decode cX4_init 15 = .ok (.aload_n 0, 1) := by decide +kernel
theorem dX4_init_16 : decode cX4_init 16 = .ok (.new 16, 3) := by decide +kernel
theorem dX4_init_19 : decode cX4_init 19 = .ok (.dup, 1) := by decide +kernel
theorem dX4_init_20 : decode cX4_init 20 = .ok (.invokespecial 18, 3) := by decide +kernel
theorem dX4_init_23 : decode cX4_init 23 = .ok (.putfield 19, 3) := by decide +kernel
theorem dX4_init_26 : decode cX4_init 26 = .ok (.aload_n 0, 1) := by decide +kernel
theorem dX4_init_27 : decode cX4_init 27 = .ok (.new 7, 3) := by decide +kernel
theorem dX4_init_30 : decode cX4_init 30 = .ok (.dup, 1) := by decide +kernel
theorem dX4_init_31 : decode cX4_init 31 = .ok (.invokespecial 9, 3) := by decide +kernel
theorem dX4_init_34 : decode cX4_init 34 = .ok (.putfield 23, 3) := by decide +kernel
theorem dX4_init_37 : decode cX4_init 37 = .ok (.aload_n 0, 1) := by decide +kernel
theorem dX4_init_38 : decode cX4_init 38 = .ok (.iconst 0, 1) := by decide +kernel
theorem dX4_init_39 : decode cX4_init 39 = .ok (.putfield 26, 3) := by decide +kernel
theorem dX4_init_42 : decode cX4_init 42 = .ok (.aload_n 0, 1) := by decide +kernel
theorem dX4_init_43 : decode cX4_init 43 = .ok (.new 30, 3) := by decide +kernel
theorem dX4_init_46 : decode cX4_init 46 = .ok (.dup, 1) := by decide +kernel
theorem dX4_init_47 : decode cX4_init 47 = .ok (.invokespecial 32, 3) := by decide +kernel
theorem dX4_init_50 : decode cX4_init 50 = .ok (.putfield 33, 3) := by decide +kernel
theorem dX4_init_53 : decode cX4_init 53 = .ok (.aload_n 0, 1) := by decide +kernel
theorem dX4_init_54 : decode cX4_init 54 = .ok (.iconst (-1), 1) := by decide +kernel
theorem dX4_init_55 : decode cX4_init 55 = .ok (.putfield 37, 3) := by decide +kernel
theorem dX4_init_58 : decode cX4_init 58 = .ok (.aload_n 0, 1) := by decide +kernel
theorem dX4_init_59 : decode cX4_init 59 = .ok (.iconst (-1), 1) := by decide +kernel
theorem dX4_init_60 : decode cX4_init 60 = .ok (.putfield 41, 3) := by decide +kernel
theorem dX4_init_63 : decode cX4_init 63 = .ok (.return_, 1) := by decide +kernel
set_option maxRecDepth 20000 in
theorem ggX4_add_X1_prepare : GoodIn wsX4_add wsX1_prepare := goodIn_r _ [7, 8, 9, 10, 6, 11, 12, 13, 14, 15, 16, 17, 18, 19, 20, 21, 22, 23, 24, 25, 26, 27, 28, 29, 77, 78, 79, 80, 81, 82, 83, 84, 85] (by decide +kernel) (by decide +kernel)
set_option maxRecDepth 20000 in
theorem gX4_add_X1_prepare : GoodIn wsX4_add (wsV RX4 44 RX1 yX1_prepare wsX1_prepare) := goodIn_app (goodIn_of _ (by decide +kernel)) ggX4_add_X1_prepare
set_option maxRecDepth 20000 in
theorem ggX4_add_X3_addColumn : GoodIn wsX4_add wsX3_addColumn := goodIn_r _ [33, 20, 34, 35, 36, 37, 38, 39, 40, 41, 42, 43, 44, 45, 46, 47, 48, 49, 18, 50, 51, 52, 53, 54, 21, 55, 56, 57, 58, 22, 23, 24, 25, 26, 80, 81, 82, 83, 84, 85] (by decide +kernel) (by decide +kernel)
set_option maxRecDepth 20000 in
theorem gX4_add_X3_addColumn : GoodIn wsX4_add (wsV RX4 48 RX3 yX3_addColumn wsX3_addColumn) := goodIn_app (goodIn_of _ (by decide +kernel)) ggX4_add_X3_addColumn
set_option maxRecDepth 20000 in
theorem ggX4_add_X4_recordIfDone : GoodIn wsX4_add wsX4_recordIfDone := goodIn_r _ [62, 1, 63, 64, 35, 65, 66, 67, 68, 6, 69, 14, 13, 70, 71, 72, 73, 74, 75, 76, 77, 78, 79] (by decide +kernel) (by decide +kernel)
set_option maxRecDepth 20000 in
theorem gX4_add_X4_recordIfDone : GoodIn wsX4_add (wsV RX4 52 RX4 yX4_recordIfDone wsX4_recordIfDone) := goodIn_app (goodIn_of _ (by decide +kernel)) ggX4_add_X4_recordIfDone
theorem dX4_add_0 : decode cX4_add 0 = .ok (.aload_n 0, 1) := by decide +kernel
theorem dX4_add_1 : decode cX4_add 1 = .ok (.getfield 19, 3) := by decide +kernel
theorem dX4_add_4 : decode cX4_add 4 = .ok (.aload_n 0, 1) := by decide +kernel
theorem dX4_add_5 : decode cX4_add 5 = .ok (.getfield 10, 3) := by decide +kernel
theorem dX4_add_8 : decode cX4_add 8 = .ok (.invokevirtual 44, 3) := by decide +kernel
theorem dX4_add_11 : decode cX4_add 11 = .ok (.aload_n 0, 1) := by decide +kernel
theorem dX4_add_12 : decode cX4_add 12 = .ok (.aload_n 0, 1) := by decide +kernel
theorem dX4_add_13 : decode cX4_add 13 = .ok (.getfield 10, 3) := by decide +kernel
theorem dX4_add_16 : decode cX4_add 16 = .ok (.iload_n 1, 1) := by decide +kernel
theorem dX4_add_17 : decode cX4_add 17 = .ok (.iload_n 2, 1) := by decide +kernel
theorem dX4_add_18 : decode cX4_add 18 = .ok (.iload_n 3, 1) := by decide +kernel
theorem dX4_add_19 : decode cX4_add 19 = .ok (.invokevirtual 48, 3) := by decide +kernel
theorem dX4_add_22 : decode cX4_add 22 = .ok (.invokevirtual 52, 3) := by decide +kernel
theorem dX4_add_25 : decode cX4_add 25 = .ok (.ireturn, 1) := by decide +kernel
set_option maxRecDepth 20000 in
theorem ggX4_drop_X1_prepare : GoodIn wsX4_drop wsX1_prepare := goodIn_r _ [7, 8, 9, 10, 6, 11, 12, 13, 14, 15, 16, 17, 18, 19, 20, 21, 22, 23, 24, 25, 26, 27, 28, 29, 67, 68, 69, 70, 71, 72, 73, 74, 75] (by decide +kernel) (by decide +kernel)
set_option maxRecDepth 20000 in
theorem gX4_drop_X1_prepare : GoodIn wsX4_drop (wsV RX4 44 RX1 yX1_prepare wsX1_prepare) := goodIn_app (goodIn_of _ (by decide +kernel)) ggX4_drop_X1_prepare
set_option maxRecDepth 20000 in
theorem ggX4_drop_X3_dropColumn : GoodIn wsX4_drop wsX3_dropColumn := goodIn_r _ [33, 20, 34, 35, 36, 37, 38, 39, 18, 40, 41, 42, 43, 44, 21, 45, 46, 47, 48, 22, 23, 24, 25, 26, 70, 71, 72, 73, 74, 75] (by decide +kernel) (by decide +kernel)
set_option maxRecDepth 20000 in
theorem gX4_drop_X3_dropColumn : GoodIn wsX4_drop (wsV RX4 56 RX3 yX3_dropColumn wsX3_dropColumn) := goodIn_app (goodIn_of _ (by decide +kernel)) ggX4_drop_X3_dropColumn
set_option maxRecDepth 20000 in
theorem ggX4_drop_X4_recordIfDone : GoodIn wsX4_drop wsX4_recordIfDone := goodIn_r _ [52, 1, 53, 54, 35, 55, 56, 57, 58, 6, 59, 14, 13, 60, 61, 62, 63, 64, 65, 66, 67, 68, 69] (by decide +kernel) (by decide +kernel)
set_option maxRecDepth 20000 in
theorem gX4_drop_X4_recordIfDone : GoodIn wsX4_drop (wsV RX4 52 RX4 yX4_recordIfDone wsX4_recordIfDone) := goodIn_app (goodIn_of _ (by decide +kernel)) ggX4_drop_X4_recordIfDone
theorem dX4_drop_0 : decode cX4_drop 0 = .ok (.aload_n 0, 1) := by decide +kernel
theorem dX4_drop_1 : decode cX4_drop 1 = .ok (.getfield 19, 3) := by decide +kernel
theorem dX4_drop_4 : decode cX4_drop 4 = .ok (.aload_n 0, 1) := by decide +kernel
theorem dX4_drop_5 : decode cX4_drop 5 = .ok (.getfield 10, 3) := by decide +kernel
theorem dX4_drop_8 : decode cX4_drop 8 = .ok (.invokevirtual 44, 3) := by decide +kernel
theorem dX4_drop_11 : decode cX4_drop 11 = .ok (.aload_n 0, 1) := by decide +kernel
theorem dX4_drop_12 : decode cX4_drop 12 = .ok (.aload_n 0, 1) := by decide +kernel
theorem dX4_drop_13 : decode cX4_drop 13 = .ok (.getfield 10, 3) := by decide +kernel
theorem dX4_drop_16 : decode cX4_drop 16 = .ok (.iload_n 1, 1) := by decide +kernel
theorem dX4_drop_17 : decode cX4_drop 17 = .ok (.invokevirtual 56, 3) := by decide +kernel
theorem dX4_drop_20 : decode cX4_drop 20 = .ok (.invokevirtual 52, 3) := by decide +kernel
theorem dX4_drop_23 : decode cX4_drop 23 = .ok (.ireturn, 1) := by decide +kernel
set_option maxRecDepth 20000 in
theorem ggX4_kind_X1_prepare : GoodIn wsX4_kind wsX1_prepare := goodIn_r _ [7, 8, 9, 10, 6, 11, 12, 13, 14, 15, 16, 17, 18, 19, 20, 21, 22, 23, 24, 25, 26, 27, 28, 29, 88, 89, 90, 91, 92, 93, 94, 95, 96] (by decide +kernel) (by decide +kernel)
set_option maxRecDepth 20000 in
theorem gX4_kind_X1_prepare : GoodIn wsX4_kind (wsV RX4 44 RX1 yX1_prepare wsX1_prepare) := goodIn_app (goodIn_of _ (by decide +kernel)) ggX4_kind_X1_prepare
set_option maxRecDepth 20000 in
theorem ggX4_kind_X3_changeKind : GoodIn wsX4_kind wsX3_changeKind := goodIn_r _ [33, 20, 34, 35, 36, 37, 38, 39, 18, 40, 41, 42, 43, 44, 21, 45, 46, 47, 48, 49, 50, 26, 51, 52, 53, 54, 55, 56, 57, 58, 59, 60, 61, 62, 63, 64, 65, 66, 67, 68, 69, 22, 23, 24, 25, 91, 92, 93, 94, 95, 96] (by decide +kernel) (by decide +kernel)
set_option maxRecDepth 20000 in
theorem gX4_kind_X3_changeKind : GoodIn wsX4_kind (wsV RX4 59 RX3 yX3_changeKind wsX3_changeKind) := goodIn_app (goodIn_of _ (by decide +kernel)) ggX4_kind_X3_changeKind
set_option maxRecDepth 20000 in
theorem ggX4_kind_X4_recordIfDone : GoodIn wsX4_kind wsX4_recordIfDone := goodIn_r _ [73, 1, 74, 75, 35, 76, 77, 78, 79, 6, 80, 14, 13, 81, 82, 83, 84, 85, 86, 87, 88, 89, 90] (by decide +kernel) (by decide +kernel)
set_option maxRecDepth 20000 in
theorem gX4_kind_X4_recordIfDone : GoodIn wsX4_kind (wsV RX4 52 RX4 yX4_recordIfDone wsX4_recordIfDone) := goodIn_app (goodIn_of _ (by decide +kernel)) ggX4_kind_X4_recordIfDone
theorem dX4_kind_0 : decode cX4_kind 0 = .ok (.aload_n 0, 1) := by decide +kernel
theorem dX4_kind_1 : decode cX4_kind 1 = .ok (.getfield 19, 3) := by decide +kernel
theorem dX4_kind_4 : decode cX4_kind 4 = .ok (.aload_n 0, 1) := by decide +kernel
theorem dX4_kind_5 : decode cX4_kind 5 = .ok (.getfield 10, 3) := by decide +kernel
theorem dX4_kind_8 : decode cX4_kind 8 = .ok (.invokevirtual 44, 3) := by decide +kernel
theorem dX4_kind_11 : decode cX4_kind 11 = .ok (.aload_n 0, 1) := by decide +kernel
theorem dX4_kind_12 : decode cX4_kind 12 = .ok (.aload_n 0, 1) := by decide +kernel
theorem dX4_kind_13 : decode cX4_kind 13 = .ok (.getfield 10, 3) := by decide +kernel
theorem dX4_kind_16 : decode cX4_kind 16 = .ok (.iload_n 1, 1) := by decide +kernel
theorem dX4_kind_17 : decode cX4_kind 17 = .ok (.iload_n 2, 1) := by decide +kernel
theorem dX4_kind_18 : decode cX4_kind 18 = .ok (.invokevirtual 59, 3) := by decide +kernel
theorem dX4_kind_21 : decode cX4_kind 21 = .ok (.invokevirtual 52, 3) := by decide +kernel
theorem dX4_kind_24 : decode cX4_kind 24 = .ok (.ireturn, 1) := by decide +kernel
set_option maxRecDepth 20000 in
theorem ggX4_row_X1_prepare : GoodIn wsX4_row wsX1_prepare := goodIn_r _ [7, 8, 9, 10, 6, 11, 12, 13, 14, 15, 16, 17, 18, 19, 20, 21, 22, 23, 24, 25, 26, 27, 28, 29, 57, 58, 59, 60, 61, 62, 63, 64, 65] (by decide +kernel) (by decide +kernel)
set_option maxRecDepth 20000 in
theorem gX4_row_X1_prepare : GoodIn wsX4_row (wsV RX4 44 RX1 yX1_prepare wsX1_prepare) := goodIn_app (goodIn_of _ (by decide +kernel)) ggX4_row_X1_prepare
set_option maxRecDepth 20000 in
theorem ggX4_row_X3_writeRow : GoodIn wsX4_row wsX3_writeRow := goodIn_r _ [33, 27, 26, 29, 22, 23, 24, 25, 28, 34, 35, 36, 18, 37, 20, 60, 61, 62, 63, 64, 65] (by decide +kernel) (by decide +kernel)
set_option maxRecDepth 20000 in
theorem gX4_row_X3_writeRow : GoodIn wsX4_row (wsV RX4 63 RX3 yX3_writeRow wsX3_writeRow) := goodIn_app (goodIn_of _ (by decide +kernel)) ggX4_row_X3_writeRow
set_option maxRecDepth 20000 in
theorem ggX4_row_X4_recordIfDone : GoodIn wsX4_row wsX4_recordIfDone := goodIn_r _ [42, 1, 43, 44, 41, 45, 46, 47, 48, 6, 49, 14, 13, 50, 51, 52, 53, 54, 55, 56, 57, 58, 59] (by decide +kernel) (by decide +kernel)
set_option maxRecDepth 20000 in
theorem gX4_row_X4_recordIfDone : GoodIn wsX4_row (wsV RX4 52 RX4 yX4_recordIfDone wsX4_recordIfDone) := goodIn_app (goodIn_of _ (by decide +kernel)) ggX4_row_X4_recordIfDone
theorem dX4_row_0 : decode cX4_row 0 = .ok (.aload_n 0, 1) := by decide +kernel
theorem dX4_row_1 : decode cX4_row 1 = .ok (.getfield 19, 3) := by decide +kernel
theorem dX4_row_4 : decode cX4_row 4 = .ok (.aload_n 0, 1) := by decide +kernel
theorem dX4_row_5 : decode cX4_row 5 = .ok (.getfield 10, 3) := by decide +kernel
theorem dX4_row_8 : decode cX4_row 8 = .ok (.invokevirtual 44, 3) := by decide +kernel
theorem dX4_row_11 : decode cX4_row 11 = .ok (.aload_n 0, 1) := by decide +kernel
theorem dX4_row_12 : decode cX4_row 12 = .ok (.aload_n 0, 1) := by decide +kernel
theorem dX4_row_13 : decode cX4_row 13 = .ok (.getfield 10, 3) := by decide +kernel
theorem dX4_row_16 : decode cX4_row 16 = .ok (.invokevirtual 63, 3) := by decide +kernel
theorem dX4_row_19 : decode cX4_row 19 = .ok (.invokevirtual 52, 3) := by decide +kernel
theorem dX4_row_22 : decode cX4_row 22 = .ok (.ireturn, 1) := by decide +kernel
set_option maxRecDepth 20000 in
theorem ggX4_set_X1_prepare : GoodIn wsX4_set wsX1_prepare := goodIn_r _ [7, 8, 9, 10, 6, 11, 12, 13, 14, 15, 16, 17, 18, 19, 20, 21, 22, 23, 24, 25, 26, 27, 28, 29, 79, 80, 81, 82, 83, 84, 85, 86, 87] (by decide +kernel) (by decide +kernel)
set_option maxRecDepth 20000 in
theorem gX4_set_X1_prepare : GoodIn wsX4_set (wsV RX4 44 RX1 yX1_prepare wsX1_prepare) := goodIn_app (goodIn_of _ (by decide +kernel)) ggX4_set_X1_prepare
set_option maxRecDepth 20000 in
theorem ggX4_set_X3_changeValue : GoodIn wsX4_set wsX3_changeValue := goodIn_r _ [33, 29, 34, 35, 36, 18, 37, 27, 38, 39, 40, 41, 42, 43, 44, 28, 45, 46, 47, 48, 21, 49, 50, 51, 52, 53, 54, 55, 56, 57, 58, 59, 60, 82, 83, 84, 85, 86, 87] (by decide +kernel) (by decide +kernel)
set_option maxRecDepth 20000 in
theorem gX4_set_X3_changeValue : GoodIn wsX4_set (wsV RX4 67 RX3 yX3_changeValue wsX3_changeValue) := goodIn_app (goodIn_of _ (by decide +kernel)) ggX4_set_X3_changeValue
set_option maxRecDepth 20000 in
theorem ggX4_set_X4_recordIfDone : GoodIn wsX4_set wsX4_recordIfDone := goodIn_r _ [64, 1, 65, 66, 39, 67, 68, 69, 70, 6, 71, 14, 13, 72, 73, 74, 75, 76, 77, 78, 79, 80, 81] (by decide +kernel) (by decide +kernel)
set_option maxRecDepth 20000 in
theorem gX4_set_X4_recordIfDone : GoodIn wsX4_set (wsV RX4 52 RX4 yX4_recordIfDone wsX4_recordIfDone) := goodIn_app (goodIn_of _ (by decide +kernel)) ggX4_set_X4_recordIfDone
theorem dX4_set_0 : decode cX4_set 0 = .ok (.aload_n 0, 1) := by decide +kernel
theorem dX4_set_1 : decode cX4_set 1 = .ok (.getfield 19, 3) := by decide +kernel
theorem dX4_set_4 : decode cX4_set 4 = .ok (.aload_n 0, 1) := by decide +kernel
theorem dX4_set_5 : decode cX4_set 5 = .ok (.getfield 10, 3) := by decide +kernel
theorem dX4_set_8 : decode cX4_set 8 = .ok (.invokevirtual 44, 3) := by decide +kernel
theorem dX4_set_11 : decode cX4_set 11 = .ok (.aload_n 0, 1) := by decide +kernel
theorem dX4_set_12 : decode cX4_set 12 = .ok (.aload_n 0, 1) := by decide +kernel
theorem dX4_set_13 : decode cX4_set 13 = .ok (.getfield 10, 3) := by decide +kernel
theorem dX4_set_16 : decode cX4_set 16 = .ok (.iload_n 1, 1) := by decide +kernel
theorem dX4_set_17 : decode cX4_set 17 = .ok (.iload_n 2, 1) := by decide +kernel
theorem dX4_set_18 : decode cX4_set 18 = .ok (.iload_n 3, 1) := by decide +kernel
theorem dX4_set_19 : decode cX4_set 19 = .ok (.invokevirtual 67, 3) := by decide +kernel
theorem dX4_set_22 : decode cX4_set 22 = .ok (.invokevirtual 52, 3) := by decide +kernel
theorem dX4_set_25 : decode cX4_set 25 = .ok (.ireturn, 1) := by decide +kernel
set_option maxRecDepth 20000 in
theorem ggX4_remove_X1_prepare : GoodIn wsX4_remove wsX1_prepare := goodIn_r _ [7, 8, 9, 10, 6, 11, 12, 13, 14, 15, 16, 17, 18, 19, 20, 21, 22, 23, 24, 25, 26, 27, 28, 29, 57, 58, 59, 60, 61, 62, 63, 64, 65] (by decide +kernel) (by decide +kernel)
set_option maxRecDepth 20000 in
theorem gX4_remove_X1_prepare : GoodIn wsX4_remove (wsV RX4 44 RX1 yX1_prepare wsX1_prepare) := goodIn_app (goodIn_of _ (by decide +kernel)) ggX4_remove_X1_prepare
set_option maxRecDepth 20000 in
theorem ggX4_remove_X3_removeRow : GoodIn wsX4_remove wsX3_removeRow := goodIn_r _ [33, 27, 28, 22, 23, 24, 25, 29, 34, 35, 36, 18, 37, 60, 61, 62, 63, 64, 65] (by decide +kernel) (by decide +kernel)
set_option maxRecDepth 20000 in
theorem gX4_remove_X3_removeRow : GoodIn wsX4_remove (wsV RX4 70 RX3 yX3_removeRow wsX3_removeRow) := goodIn_app (goodIn_of _ (by decide +kernel)) ggX4_remove_X3_removeRow
set_option maxRecDepth 20000 in
theorem ggX4_remove_X4_recordIfDone : GoodIn wsX4_remove wsX4_recordIfDone := goodIn_r _ [42, 1, 43, 44, 41, 45, 46, 47, 48, 6, 49, 14, 13, 50, 51, 52, 53, 54, 55, 56, 57, 58, 59] (by decide +kernel) (by decide +kernel)
set_option maxRecDepth 20000 in
theorem gX4_remove_X4_recordIfDone : GoodIn wsX4_remove (wsV RX4 52 RX4 yX4_recordIfDone wsX4_recordIfDone) := goodIn_app (goodIn_of _ (by decide +kernel)) ggX4_remove_X4_recordIfDone
theorem dX4_remove_0 : decode cX4_remove 0 = .ok (.aload_n 0, 1) := by decide +kernel
theorem dX4_remove_1 : decode cX4_remove 1 = .ok (.getfield 19, 3) := by decide +kernel
theorem dX4_remove_4 : decode cX4_remove 4 = .ok (.aload_n 0, 1) := by decide +kernel
theorem dX4_remove_5 : decode cX4_remove 5 = .ok (.getfield 10, 3) := by decide +kernel
theorem dX4_remove_8 : decode cX4_remove 8 = .ok (.invokevirtual 44, 3) := by decide +kernel
theorem dX4_remove_11 : decode cX4_remove 11 = .ok (.aload_n 0, 1) := by decide +kernel
theorem dX4_remove_12 : decode cX4_remove 12 = .ok (.aload_n 0, 1) := by decide +kernel
theorem dX4_remove_13 : decode cX4_remove 13 = .ok (.getfield 10, 3) := by decide +kernel
theorem dX4_remove_16 : decode cX4_remove 16 = .ok (.iload_n 1, 1) := by decide +kernel
theorem dX4_remove_17 : decode cX4_remove 17 = .ok (.invokevirtual 70, 3) := by decide +kernel
theorem dX4_remove_20 : decode cX4_remove 20 = .ok (.invokevirtual 52, 3) := by decide +kernel
theorem dX4_remove_23 : decode cX4_remove 23 = .ok (.ireturn, 1) := by decide +kernel
set_option maxRecDepth 20000 in
theorem ggX4_makeOver_X1_prepare : GoodIn wsX4_makeOver wsX1_prepare := goodIn_r _ [7, 8, 9, 10, 6, 11, 12, 13, 14, 15, 16, 17, 18, 19, 20, 21, 22, 23, 24, 25, 26, 27, 28, 29, 107, 108, 109, 110, 111, 112, 113, 114, 115] (by decide +kernel) (by decide +kernel)
set_option maxRecDepth 20000 in
theorem gX4_makeOver_X1_prepare : GoodIn wsX4_makeOver (wsV RX4 44 RX1 yX1_prepare wsX1_prepare) := goodIn_app (goodIn_of _ (by decide +kernel)) ggX4_makeOver_X1_prepare
set_option maxRecDepth 20000 in
theorem ggX4_makeOver_X3_makeRowsOver : GoodIn wsX4_makeOver wsX3_makeRowsOver := goodIn_r _ [33, 28, 34, 35, 36, 18, 37, 27, 38, 39, 40, 41, 20, 42, 43, 44, 45, 46, 47, 48, 49, 50, 51, 52, 53, 21, 54, 55, 56, 57, 29, 58, 59, 60, 61, 62, 63, 64, 65, 66, 67, 68, 69, 70, 71, 72, 73, 74, 75, 76, 77, 78, 79, 80, 81, 82, 83, 84, 85, 86, 87, 88, 26, 110, 111, 112, 113, 114, 115] (by decide +kernel) (by decide +kernel)
set_option maxRecDepth 20000 in
theorem gX4_makeOver_X3_makeRowsOver : GoodIn wsX4_makeOver (wsV RX4 73 RX3 yX3_makeRowsOver wsX3_makeRowsOver) := goodIn_app (goodIn_of _ (by decide +kernel)) ggX4_makeOver_X3_makeRowsOver
set_option maxRecDepth 20000 in
theorem ggX4_makeOver_X4_recordIfDone : GoodIn wsX4_makeOver wsX4_recordIfDone := goodIn_r _ [92, 1, 93, 94, 59, 95, 96, 97, 98, 6, 99, 14, 13, 100, 101, 102, 103, 104, 105, 106, 107, 108, 109] (by decide +kernel) (by decide +kernel)
set_option maxRecDepth 20000 in
theorem gX4_makeOver_X4_recordIfDone : GoodIn wsX4_makeOver (wsV RX4 52 RX4 yX4_recordIfDone wsX4_recordIfDone) := goodIn_app (goodIn_of _ (by decide +kernel)) ggX4_makeOver_X4_recordIfDone
theorem dX4_makeOver_0 : decode cX4_makeOver 0 = .ok (.aload_n 0, 1) := by decide +kernel
theorem dX4_makeOver_1 : decode cX4_makeOver 1 = .ok (.getfield 19, 3) := by decide +kernel
theorem dX4_makeOver_4 : decode cX4_makeOver 4 = .ok (.aload_n 0, 1) := by decide +kernel
theorem dX4_makeOver_5 : decode cX4_makeOver 5 = .ok (.getfield 10, 3) := by decide +kernel
theorem dX4_makeOver_8 : decode cX4_makeOver 8 = .ok (.invokevirtual 44, 3) := by decide +kernel
theorem dX4_makeOver_11 : decode cX4_makeOver 11 = .ok (.aload_n 0, 1) := by decide +kernel
theorem dX4_makeOver_12 : decode cX4_makeOver 12 = .ok (.aload_n 0, 1) := by decide +kernel
theorem dX4_makeOver_13 : decode cX4_makeOver 13 = .ok (.getfield 10, 3) := by decide +kernel
theorem dX4_makeOver_16 : decode cX4_makeOver 16 = .ok (.iload_n 1, 1) := by decide +kernel
theorem dX4_makeOver_17 : decode cX4_makeOver 17 = .ok (.iload_n 2, 1) := by decide +kernel
theorem dX4_makeOver_18 : decode cX4_makeOver 18 = .ok (.invokevirtual 73, 3) := by decide +kernel
theorem dX4_makeOver_21 : decode cX4_makeOver 21 = .ok (.invokevirtual 52, 3) := by decide +kernel
theorem dX4_makeOver_24 : decode cX4_makeOver 24 = .ok (.ireturn, 1) := by decide +kernel
set_option maxRecDepth 20000 in
theorem ggX4_forget_X1_prepare : GoodIn wsX4_forget wsX1_prepare := goodIn_r _ [7, 8, 9, 10, 6, 11, 12, 13, 14, 15, 16, 17, 18, 19, 20, 21, 22, 23, 24, 25, 26, 27, 28, 29, 61, 62, 63, 64, 65, 66, 67, 68, 69] (by decide +kernel) (by decide +kernel)
set_option maxRecDepth 20000 in
theorem gX4_forget_X1_prepare : GoodIn wsX4_forget (wsV RX4 44 RX1 yX1_prepare wsX1_prepare) := goodIn_app (goodIn_of _ (by decide +kernel)) ggX4_forget_X1_prepare
set_option maxRecDepth 20000 in
theorem ggX4_forget_X3_forgetSeasons : GoodIn wsX4_forget wsX3_forgetSeasons := goodIn_r _ [33, 27, 28, 34, 35, 36, 37, 20, 21, 22, 23, 24, 25, 26, 38, 39, 40, 18, 41, 64, 65, 66, 67, 68, 69] (by decide +kernel) (by decide +kernel)
set_option maxRecDepth 20000 in
theorem gX4_forget_X3_forgetSeasons : GoodIn wsX4_forget (wsV RX4 76 RX3 yX3_forgetSeasons wsX3_forgetSeasons) := goodIn_app (goodIn_of _ (by decide +kernel)) ggX4_forget_X3_forgetSeasons
set_option maxRecDepth 20000 in
theorem ggX4_forget_X4_recordIfDone : GoodIn wsX4_forget wsX4_recordIfDone := goodIn_r _ [46, 1, 47, 48, 45, 49, 50, 51, 52, 6, 53, 14, 13, 54, 55, 56, 57, 58, 59, 60, 61, 62, 63] (by decide +kernel) (by decide +kernel)
set_option maxRecDepth 20000 in
theorem gX4_forget_X4_recordIfDone : GoodIn wsX4_forget (wsV RX4 52 RX4 yX4_recordIfDone wsX4_recordIfDone) := goodIn_app (goodIn_of _ (by decide +kernel)) ggX4_forget_X4_recordIfDone
theorem dX4_forget_0 : decode cX4_forget 0 = .ok (.aload_n 0, 1) := by decide +kernel
theorem dX4_forget_1 : decode cX4_forget 1 = .ok (.getfield 19, 3) := by decide +kernel
theorem dX4_forget_4 : decode cX4_forget 4 = .ok (.aload_n 0, 1) := by decide +kernel
theorem dX4_forget_5 : decode cX4_forget 5 = .ok (.getfield 10, 3) := by decide +kernel
theorem dX4_forget_8 : decode cX4_forget 8 = .ok (.invokevirtual 44, 3) := by decide +kernel
theorem dX4_forget_11 : decode cX4_forget 11 = .ok (.aload_n 0, 1) := by decide +kernel
theorem dX4_forget_12 : decode cX4_forget 12 = .ok (.aload_n 0, 1) := by decide +kernel
theorem dX4_forget_13 : decode cX4_forget 13 = .ok (.getfield 10, 3) := by decide +kernel
theorem dX4_forget_16 : decode cX4_forget 16 = .ok (.invokevirtual 76, 3) := by decide +kernel
theorem dX4_forget_19 : decode cX4_forget 19 = .ok (.invokevirtual 52, 3) := by decide +kernel
theorem dX4_forget_22 : decode cX4_forget 22 = .ok (.ireturn, 1) := by decide +kernel
set_option maxRecDepth 20000 in
theorem ggX4_column_X3_isSeason : GoodIn wsX4_column wsX3_isSeason := goodIn_r _ [6, 7, 29, 30, 31, 32, 33, 34] (by decide +kernel) (by decide +kernel)
set_option maxRecDepth 20000 in
theorem gX4_column_X3_isSeason : GoodIn wsX4_column (wsV RX4 121 RX3 yX3_isSeason wsX3_isSeason) := goodIn_app (goodIn_of _ (by decide +kernel)) ggX4_column_X3_isSeason
set_option maxRecDepth 20000 in
theorem ggX4_column_X4_isName : GoodIn wsX4_column wsX4_isName := goodIn_r _ [11] (by decide +kernel) (by decide +kernel)
set_option maxRecDepth 20000 in
theorem gX4_column_X4_isName : GoodIn wsX4_column (va_wsS RX4 124 yX4_isName wsX4_isName) := goodIn_app (goodIn_of _ (by decide +kernel)) ggX4_column_X4_isName
set_option maxRecDepth 20000 in
theorem ggX4_column_X3_kindIn : GoodIn wsX4_column wsX3_kindIn := goodIn_r _ [15, 16, 29, 30, 31, 32, 33, 34] (by decide +kernel) (by decide +kernel)
set_option maxRecDepth 20000 in
theorem gX4_column_X3_kindIn : GoodIn wsX4_column (wsV RX4 127 RX3 yX3_kindIn wsX3_kindIn) := goodIn_app (goodIn_of _ (by decide +kernel)) ggX4_column_X3_kindIn
set_option maxRecDepth 20000 in
theorem ggX4_column_X3_standardIn : GoodIn wsX4_column wsX3_standardIn := goodIn_r _ [20, 21, 29, 30, 31, 32, 33, 34] (by decide +kernel) (by decide +kernel)
set_option maxRecDepth 20000 in
theorem gX4_column_X3_standardIn : GoodIn wsX4_column (wsV RX4 130 RX3 yX3_standardIn wsX3_standardIn) := goodIn_app (goodIn_of _ (by decide +kernel)) ggX4_column_X3_standardIn
theorem dX4_column_0 : decode cX4_column 0 = .ok (.aload_n 0, 1) := by decide +kernel
theorem dX4_column_1 : decode cX4_column 1 = .ok (.getfield 10, 3) := by decide +kernel
theorem dX4_column_4 : decode cX4_column 4 = .ok (.iload_n 1, 1) := by decide +kernel
theorem dX4_column_5 : decode cX4_column 5 = .ok (.invokevirtual 121, 3) := by decide +kernel
theorem dX4_column_8 : decode cX4_column 8 = .ok (.ifCond .eq 10, 3) := by decide +kernel
theorem dX4_column_11 : decode cX4_column 11 = .ok (.iload_n 2, 1) := by decide +kernel
theorem dX4_column_12 : decode cX4_column 12 = .ok (.invokestatic 124, 3) := by decide +kernel
theorem dX4_column_15 : decode cX4_column 15 = .ok (.ifCond .ne 7, 3) := by decide +kernel
theorem dX4_column_18 : decode cX4_column 18 = .ok (.sipush (-10001), 3) := by decide +kernel
theorem dX4_column_21 : decode cX4_column 21 = .ok (.ireturn, 1) := by decide +kernel
theorem dX4_column_22 : decode cX4_column 22 = .ok (.iload_n 3, 1) := by decide +kernel
theorem dX4_column_23 : decode cX4_column 23 = .ok (.ifCond .lt 8, 3) := by decide +kernel
theorem dX4_column_26 : decode cX4_column 26 = .ok (.iload_n 3, 1) := by decide +kernel
theorem dX4_column_27 : decode cX4_column 27 = .ok (.iconst 1, 1) := by decide +kernel
theorem dX4_column_28 : decode cX4_column 28 = .ok (.if_icmp .le 7, 3) := by decide +kernel
theorem dX4_column_31 : decode cX4_column 31 = .ok (.sipush (-10002), 3) := by decide +kernel
theorem dX4_column_34 : decode cX4_column 34 = .ok (.ireturn, 1) := by decide +kernel
theorem dX4_column_35 : decode cX4_column 35 = .ok (.aload_n 0, 1) := by decide +kernel
theorem dX4_column_36 : decode cX4_column 36 = .ok (.getfield 10, 3) := by decide +kernel
theorem dX4_column_39 : decode cX4_column 39 = .ok (.iload_n 1, 1) := by decide +kernel
theorem dX4_column_40 : decode cX4_column 40 = .ok (.iload_n 2, 1) := by decide +kernel
theorem dX4_column_41 : decode cX4_column 41 = .ok (.invokevirtual 127, 3) := by decide +kernel
theorem dX4_column_44 : decode cX4_column 44 = .ok (.istore 4, 2) := by decide +kernel
theorem dX4_column_46 : decode cX4_column 46 = .ok (.iload 4, 2) := by decide +kernel
theorem dX4_column_48 : decode cX4_column 48 = .ok (.iconst (-1), 1) := by decide +kernel
theorem dX4_column_49 : decode cX4_column 49 = .ok (.if_icmp .ne 7, 3) := by decide +kernel
theorem dX4_column_52 : decode cX4_column 52 = .ok (.sipush (-10005), 3) := by decide +kernel
theorem dX4_column_55 : decode cX4_column 55 = .ok (.ireturn, 1) := by decide +kernel
theorem dX4_column_56 : decode cX4_column 56 = .ok (.iload_n 3, 1) := by decide +kernel
theorem dX4_column_57 : decode cX4_column 57 = .ok (.ifCond .ne 8, 3) := by decide +kernel
theorem dX4_column_60 : decode cX4_column 60 = .ok (.iload 4, 2) := by decide +kernel
theorem dX4_column_62 : decode cX4_column 62 = .ok (.goto 12, 3) := by decide +kernel
theorem dX4_column_65 : decode cX4_column 65 = .ok (.aload_n 0, 1) := by decide +kernel
theorem dX4_column_66 : decode cX4_column 66 = .ok (.getfield 10, 3) := by decide +kernel
theorem dX4_column_69 : decode cX4_column 69 = .ok (.iload_n 1, 1) := by decide +kernel
theorem dX4_column_70 : decode cX4_column 70 = .ok (.iload_n 2, 1) := by decide +kernel
theorem dX4_column_71 : decode cX4_column 71 = .ok (.invokevirtual 130, 3) := by decide +kernel
theorem dX4_column_74 : decode cX4_column 74 = .ok (.ireturn, 1) := by decide +kernel
set_option maxRecDepth 20000 in
theorem ggX4_season_X3_isSeason : GoodIn wsX4_season wsX3_isSeason := goodIn_r _ [6, 7, 41, 42, 43, 44, 45, 46] (by decide +kernel) (by decide +kernel)
set_option maxRecDepth 20000 in
theorem gX4_season_X3_isSeason : GoodIn wsX4_season (wsV RX4 121 RX3 yX3_isSeason wsX3_isSeason) := goodIn_app (goodIn_of _ (by decide +kernel)) ggX4_season_X3_isSeason
set_option maxRecDepth 20000 in
theorem ggX4_season_X3_namesIn : GoodIn wsX4_season wsX3_namesIn := goodIn_r _ [11, 12, 13, 14, 5, 15, 16, 41, 42, 43, 44, 45, 46] (by decide +kernel) (by decide +kernel)
set_option maxRecDepth 20000 in
theorem gX4_season_X3_namesIn : GoodIn wsX4_season (wsV RX4 133 RX3 yX3_namesIn wsX3_namesIn) := goodIn_app (goodIn_of _ (by decide +kernel)) ggX4_season_X3_namesIn
set_option maxRecDepth 20000 in
theorem ggX4_season_J6_bitCount_0f7a4 : GoodIn wsX4_season wsJ6_bitCount_0f7a4 := goodIn_r _ [20, 21, 22, 23] (by decide +kernel) (by decide +kernel)
set_option maxRecDepth 20000 in
theorem gX4_season_J6_bitCount_0f7a4 : GoodIn wsX4_season (va_wsS RX4 136 yJ6_bitCount_0f7a4 wsJ6_bitCount_0f7a4) := goodIn_app (goodIn_of _ (by decide +kernel)) ggX4_season_J6_bitCount_0f7a4
set_option maxRecDepth 20000 in
theorem ggX4_season_X3_rowsOfSeason : GoodIn wsX4_season wsX3_rowsOfSeason := goodIn_r _ [27, 28, 29, 41, 42, 43, 44, 45, 46] (by decide +kernel) (by decide +kernel)
set_option maxRecDepth 20000 in
theorem gX4_season_X3_rowsOfSeason : GoodIn wsX4_season (wsV RX4 141 RX3 yX3_rowsOfSeason wsX3_rowsOfSeason) := goodIn_app (goodIn_of _ (by decide +kernel)) ggX4_season_X3_rowsOfSeason
set_option maxRecDepth 20000 in
theorem ggX4_season_X3_newColumnsIn : GoodIn wsX4_season wsX3_newColumnsIn := goodIn_r _ [33, 12, 13, 14, 5, 15, 16, 41, 42, 43, 44, 45, 46] (by decide +kernel) (by decide +kernel)
set_option maxRecDepth 20000 in
theorem gX4_season_X3_newColumnsIn : GoodIn wsX4_season (wsV RX4 144 RX3 yX3_newColumnsIn wsX3_newColumnsIn) := goodIn_app (goodIn_of _ (by decide +kernel)) ggX4_season_X3_newColumnsIn
theorem dX4_season_0 : decode cX4_season 0 = .ok (.aload_n 0, 1) := by decide +kernel
theorem dX4_season_1 : decode cX4_season 1 = .ok (.getfield 10, 3) := by decide +kernel
theorem dX4_season_4 : decode cX4_season 4 = .ok (.iload_n 1, 1) := by decide +kernel
theorem dX4_season_5 : decode cX4_season 5 = .ok (.invokevirtual 121, 3) := by decide +kernel
theorem dX4_season_8 : decode cX4_season 8 = .ok (.ifCond .ne 7, 3) := by decide +kernel
theorem dX4_season_11 : decode cX4_season 11 = .ok (.sipush (-10001), 3) := by decide +kernel
theorem dX4_season_14 : decode cX4_season 14 = .ok (.ireturn, 1) := by decide +kernel
theorem dX4_season_15 : decode cX4_season 15 = .ok (.iload_n 2, 1) := by decide +kernel
theorem dX4_season_16 : decode cX4_season 16 = .ok (.tableswitch 71 0 3 #[32, 44, 53, 62], 32) := by decide +kernel
theorem dX4_season_48 : decode cX4_season 48 = .ok (.aload_n 0, 1) := by decide +kernel
theorem dX4_season_49 : decode cX4_season 49 = .ok (.getfield 10, 3) := by decide +kernel
theorem dX4_season_52 : decode cX4_season 52 = .ok (.iload_n 1, 1) := by decide +kernel
theorem dX4_season_53 : decode cX4_season 53 = .ok (.invokevirtual 133, 3) := by decide +kernel
theorem dX4_season_56 : decode cX4_season 56 = .ok (.invokestatic 136, 3) := by decide +kernel
theorem dX4_season_59 : decode cX4_season 59 = .ok (.ireturn, 1) := by decide +kernel
theorem dX4_season_60 : decode cX4_season 60 = .ok (.aload_n 0, 1) := by decide +kernel
theorem dX4_season_61 : decode cX4_season 61 = .ok (.getfield 10, 3) := by decide +kernel
theorem dX4_season_64 : decode cX4_season 64 = .ok (.iload_n 1, 1) := by decide +kernel
theorem dX4_season_65 : decode cX4_season 65 = .ok (.invokevirtual 133, 3) := by decide +kernel
theorem dX4_season_68 : decode cX4_season 68 = .ok (.ireturn, 1) := by decide +kernel
theorem dX4_season_69 : decode cX4_season 69 = .ok (.aload_n 0, 1) := by decide +kernel
theorem dX4_season_70 : decode cX4_season 70 = .ok (.getfield 10, 3) := by decide +kernel
theorem dX4_season_73 : decode cX4_season 73 = .ok (.iload_n 1, 1) := by decide +kernel
theorem dX4_season_74 : decode cX4_season 74 = .ok (.invokevirtual 141, 3) := by decide +kernel
theorem dX4_season_77 : decode cX4_season 77 = .ok (.ireturn, 1) := by decide +kernel
theorem dX4_season_78 : decode cX4_season 78 = .ok (.aload_n 0, 1) := by decide +kernel
theorem dX4_season_79 : decode cX4_season 79 = .ok (.getfield 10, 3) := by decide +kernel
theorem dX4_season_82 : decode cX4_season 82 = .ok (.iload_n 1, 1) := by decide +kernel
theorem dX4_season_83 : decode cX4_season 83 = .ok (.invokevirtual 144, 3) := by decide +kernel
theorem dX4_season_86 : decode cX4_season 86 = .ok (.ireturn, 1) := by decide +kernel
theorem dX4_season_87 : decode cX4_season 87 = .ok (.sipush (-10002), 3) := by decide +kernel
theorem dX4_season_90 : decode cX4_season 90 = .ok (.ireturn, 1) := by decide +kernel
set_option maxRecDepth 20000 in
theorem ggX4_value_X3_isRow : GoodIn wsX4_value wsX3_isRow := goodIn_r _ [6, 7, 34, 35, 36, 37, 38, 39] (by decide +kernel) (by decide +kernel)
set_option maxRecDepth 20000 in
theorem gX4_value_X3_isRow : GoodIn wsX4_value (wsV RX4 147 RX3 yX3_isRow wsX3_isRow) := goodIn_app (goodIn_of _ (by decide +kernel)) ggX4_value_X3_isRow
set_option maxRecDepth 20000 in
theorem ggX4_value_X4_isName : GoodIn wsX4_value wsX4_isName := goodIn_r _ [11] (by decide +kernel) (by decide +kernel)
set_option maxRecDepth 20000 in
theorem gX4_value_X4_isName : GoodIn wsX4_value (va_wsS RX4 124 yX4_isName wsX4_isName) := goodIn_app (goodIn_of _ (by decide +kernel)) ggX4_value_X4_isName
set_option maxRecDepth 20000 in
theorem ggX4_value_X3_kindInRow : GoodIn wsX4_value wsX3_kindInRow := goodIn_r _ [15, 16, 17, 18, 19, 5, 20, 21, 34, 35, 36, 37, 38, 39] (by decide +kernel) (by decide +kernel)
set_option maxRecDepth 20000 in
theorem gX4_value_X3_kindInRow : GoodIn wsX4_value (wsV RX4 150 RX3 yX3_kindInRow wsX3_kindInRow) := goodIn_app (goodIn_of _ (by decide +kernel)) ggX4_value_X3_kindInRow
set_option maxRecDepth 20000 in
theorem ggX4_value_X3_valueAt : GoodIn wsX4_value wsX3_valueAt := goodIn_r _ [25, 26, 34, 35, 36, 37, 38, 39] (by decide +kernel) (by decide +kernel)
set_option maxRecDepth 20000 in
theorem gX4_value_X3_valueAt : GoodIn wsX4_value (wsV RX4 153 RX3 yX3_valueAt wsX3_valueAt) := goodIn_app (goodIn_of _ (by decide +kernel)) ggX4_value_X3_valueAt
theorem dX4_value_0 : decode cX4_value 0 = .ok (.aload_n 0, 1) := by decide +kernel
theorem dX4_value_1 : decode cX4_value 1 = .ok (.getfield 10, 3) := by decide +kernel
theorem dX4_value_4 : decode cX4_value 4 = .ok (.iload_n 1, 1) := by decide +kernel
theorem dX4_value_5 : decode cX4_value 5 = .ok (.invokevirtual 147, 3) := by decide +kernel
theorem dX4_value_8 : decode cX4_value 8 = .ok (.ifCond .eq 10, 3) := by decide +kernel
theorem dX4_value_11 : decode cX4_value 11 = .ok (.iload_n 2, 1) := by decide +kernel
theorem dX4_value_12 : decode cX4_value 12 = .ok (.invokestatic 124, 3) := by decide +kernel
theorem dX4_value_15 : decode cX4_value 15 = .ok (.ifCond .ne 7, 3) := by decide +kernel
theorem dX4_value_18 : decode cX4_value 18 = .ok (.sipush (-10001), 3) := by decide +kernel
theorem dX4_value_21 : decode cX4_value 21 = .ok (.ireturn, 1) := by decide +kernel
theorem dX4_value_22 : decode cX4_value 22 = .ok (.aload_n 0, 1) := by decide +kernel
theorem dX4_value_23 : decode cX4_value 23 = .ok (.getfield 10, 3) := by decide +kernel
theorem dX4_value_26 : decode cX4_value 26 = .ok (.iload_n 1, 1) := by decide +kernel
theorem dX4_value_27 : decode cX4_value 27 = .ok (.iload_n 2, 1) := by decide +kernel
theorem dX4_value_28 : decode cX4_value 28 = .ok (.invokevirtual 150, 3) := by decide +kernel
theorem dX4_value_31 : decode cX4_value 31 = .ok (.iconst (-1), 1) := by decide +kernel
theorem dX4_value_32 : decode cX4_value 32 = .ok (.if_icmp .ne 9, 3) := by decide +kernel
theorem dX4_value_35 : decode cX4_value 35 = .ok (.sipush (-10005), 3) := by decide +kernel
theorem dX4_value_38 : decode cX4_value 38 = .ok (.goto 12, 3) := by decide +kernel
theorem dX4_value_41 : decode cX4_value 41 = .ok (.aload_n 0, 1) := by decide +kernel
theorem dX4_value_42 : decode cX4_value 42 = .ok (.getfield 10, 3) := by decide +kernel
theorem dX4_value_45 : decode cX4_value 45 = .ok (.iload_n 1, 1) := by decide +kernel
theorem dX4_value_46 : decode cX4_value 46 = .ok (.iload_n 2, 1) := by decide +kernel
theorem dX4_value_47 : decode cX4_value 47 = .ok (.invokevirtual 153, 3) := by decide +kernel
theorem dX4_value_50 : decode cX4_value 50 = .ok (.ireturn, 1) := by decide +kernel
set_option maxRecDepth 20000 in
theorem ggX4_read_X3_isRow : GoodIn wsX4_read wsX3_isRow := goodIn_r _ [6, 7, 71, 72, 73, 74, 75, 76] (by decide +kernel) (by decide +kernel)
set_option maxRecDepth 20000 in
theorem gX4_read_X3_isRow : GoodIn wsX4_read (wsV RX4 147 RX3 yX3_isRow wsX3_isRow) := goodIn_app (goodIn_of _ (by decide +kernel)) ggX4_read_X3_isRow
set_option maxRecDepth 20000 in
theorem ggX4_read_X3_isSeason : GoodIn wsX4_read wsX3_isSeason := goodIn_r _ [11, 12, 71, 72, 73, 74, 75, 76] (by decide +kernel) (by decide +kernel)
set_option maxRecDepth 20000 in
theorem gX4_read_X3_isSeason : GoodIn wsX4_read (wsV RX4 121 RX3 yX3_isSeason wsX3_isSeason) := goodIn_app (goodIn_of _ (by decide +kernel)) ggX4_read_X3_isSeason
set_option maxRecDepth 20000 in
theorem ggX4_read_X4_isName : GoodIn wsX4_read wsX4_isName := goodIn_r _ [16] (by decide +kernel) (by decide +kernel)
set_option maxRecDepth 20000 in
theorem gX4_read_X4_isName : GoodIn wsX4_read (va_wsS RX4 124 yX4_isName wsX4_isName) := goodIn_app (goodIn_of _ (by decide +kernel)) ggX4_read_X4_isName
set_option maxRecDepth 20000 in
theorem ggX4_read_X3_kindIn : GoodIn wsX4_read wsX3_kindIn := goodIn_r _ [20, 21, 71, 72, 73, 74, 75, 76] (by decide +kernel) (by decide +kernel)
set_option maxRecDepth 20000 in
theorem gX4_read_X3_kindIn : GoodIn wsX4_read (wsV RX4 127 RX3 yX3_kindIn wsX3_kindIn) := goodIn_app (goodIn_of _ (by decide +kernel)) ggX4_read_X3_kindIn
set_option maxRecDepth 20000 in
theorem ggX4_read_X3_readIn : GoodIn wsX4_read wsX3_readIn := goodIn_r _ [25, 26, 27, 28, 5, 29, 30, 31, 18, 19, 20, 21, 32, 33, 34, 35, 36, 37, 38, 39, 40, 41, 42, 15, 43, 44, 45, 46, 47, 48, 49, 50, 51, 52, 53, 54, 55, 56, 71, 72, 73, 74, 75, 76] (by decide +kernel) (by decide +kernel)
set_option maxRecDepth 20000 in
theorem gX4_read_X3_readIn : GoodIn wsX4_read (wsV RX4 156 RX3 yX3_readIn wsX3_readIn) := goodIn_app (goodIn_of _ (by decide +kernel)) ggX4_read_X3_readIn
set_option maxRecDepth 20000 in
theorem ggX4_read_X3_howReadIn : GoodIn wsX4_read wsX3_howReadIn := goodIn_r _ [60, 26, 27, 28, 5, 29, 30, 31, 18, 19, 20, 21, 37, 38, 39, 40, 41, 61, 15, 62, 63, 42, 43, 44, 45, 46, 47, 48, 49, 50, 51, 52, 53, 54, 55, 56, 71, 72, 73, 74, 75, 76] (by decide +kernel) (by decide +kernel)
set_option maxRecDepth 20000 in
theorem gX4_read_X3_howReadIn : GoodIn wsX4_read (wsV RX4 159 RX3 yX3_howReadIn wsX3_howReadIn) := goodIn_app (goodIn_of _ (by decide +kernel)) ggX4_read_X3_howReadIn
theorem dX4_read_0 : decode cX4_read 0 = .ok (.aload_n 0, 1) := by decide +kernel
theorem dX4_read_1 : decode cX4_read 1 = .ok (.getfield 10, 3) := by decide +kernel
theorem dX4_read_4 : decode cX4_read 4 = .ok (.iload_n 1, 1) := by decide +kernel
theorem dX4_read_5 : decode cX4_read 5 = .ok (.invokevirtual 147, 3) := by decide +kernel
theorem dX4_read_8 : decode cX4_read 8 = .ok (.ifCond .eq 21, 3) := by decide +kernel
theorem dX4_read_11 : decode cX4_read 11 = .ok (.aload_n 0, 1) := by decide +kernel
theorem dX4_read_12 : decode cX4_read 12 = .ok (.getfield 10, 3) := by decide +kernel
theorem dX4_read_15 : decode cX4_read 15 = .ok (.iload_n 2, 1) := by decide +kernel
theorem dX4_read_16 : decode cX4_read 16 = .ok (.invokevirtual 121, 3) := by decide +kernel
theorem dX4_read_19 : decode cX4_read 19 = .ok (.ifCond .eq 10, 3) := by decide +kernel
theorem dX4_read_22 : decode cX4_read 22 = .ok (.iload_n 3, 1) := by decide +kernel
theorem dX4_read_23 : decode cX4_read 23 = .ok (.invokestatic 124, 3) := by decide +kernel
theorem dX4_read_26 : decode cX4_read 26 = .ok (.ifCond .ne 7, 3) := by decide +kernel
theorem dX4_read_29 : decode cX4_read 29 = .ok (.sipush (-10001), 3) := by decide +kernel
theorem dX4_read_32 : decode cX4_read 32 = .ok (.ireturn, 1) := by decide +kernel
theorem dX4_read_33 : decode cX4_read 33 = .ok (.iload 4, 2) := by decide +kernel
theorem dX4_read_35 : decode cX4_read 35 = .ok (.ifCond .lt 9, 3) := by decide +kernel
theorem dX4_read_38 : decode cX4_read 38 = .ok (.iload 4, 2) := by decide +kernel
theorem dX4_read_40 : decode cX4_read 40 = .ok (.iconst 1, 1) := by decide +kernel
theorem dX4_read_41 : decode cX4_read 41 = .ok (.if_icmp .le 7, 3) := by decide +kernel
theorem dX4_read_44 : decode cX4_read 44 = .ok (.sipush (-10002), 3) := by decide +kernel
theorem dX4_read_47 : decode cX4_read 47 = .ok (.ireturn, 1) := by decide +kernel
theorem dX4_read_48 : decode cX4_read 48 = .ok (.aload_n 0, 1) := by decide +kernel
theorem dX4_read_49 : decode cX4_read 49 = .ok (.getfield 10, 3) := by decide +kernel
theorem dX4_read_52 : decode cX4_read 52 = .ok (.iload_n 2, 1) := by decide +kernel
theorem dX4_read_53 : decode cX4_read 53 = .ok (.iload_n 3, 1) := by decide +kernel
theorem dX4_read_54 : decode cX4_read 54 = .ok (.invokevirtual 127, 3) := by decide +kernel
theorem dX4_read_57 : decode cX4_read 57 = .ok (.iconst (-1), 1) := by decide +kernel
theorem dX4_read_58 : decode cX4_read 58 = .ok (.if_icmp .ne 7, 3) := by decide +kernel
theorem dX4_read_61 : decode cX4_read 61 = .ok (.sipush (-10005), 3) := by decide +kernel
theorem dX4_read_64 : decode cX4_read 64 = .ok (.ireturn, 1) := by decide +kernel
theorem dX4_read_65 : decode cX4_read 65 = .ok (.iload 4, 2) := by decide +kernel
theorem dX4_read_67 : decode cX4_read 67 = .ok (.ifCond .ne 16, 3) := by decide +kernel
theorem dX4_read_70 : decode cX4_read 70 = .ok (.aload_n 0, 1) := by decide +kernel
theorem dX4_read_71 : decode cX4_read 71 = .ok (.getfield 10, 3) := by decide +kernel
theorem dX4_read_74 : decode cX4_read 74 = .ok (.iload_n 2, 1) := by decide +kernel
theorem dX4_read_75 : decode cX4_read 75 = .ok (.iload_n 1, 1) := by decide +kernel
theorem dX4_read_76 : decode cX4_read 76 = .ok (.iload_n 3, 1) := by decide +kernel
theorem dX4_read_77 : decode cX4_read 77 = .ok (.invokevirtual 156, 3) := by decide +kernel
theorem dX4_read_80 : decode cX4_read 80 = .ok (.goto 13, 3) := by decide +kernel
theorem dX4_read_83 : decode cX4_read 83 = .ok (.aload_n 0, 1) := by decide +kernel
theorem dX4_read_84 : decode cX4_read 84 = .ok (.getfield 10, 3) := by decide +kernel
theorem dX4_read_87 : decode cX4_read 87 = .ok (.iload_n 2, 1) := by decide +kernel
theorem dX4_read_88 : decode cX4_read 88 = .ok (.iload_n 1, 1) := by decide +kernel
theorem dX4_read_89 : decode cX4_read 89 = .ok (.iload_n 3, 1) := by decide +kernel
theorem dX4_read_90 : decode cX4_read 90 = .ok (.invokevirtual 159, 3) := by decide +kernel
theorem dX4_read_93 : decode cX4_read 93 = .ok (.ireturn, 1) := by decide +kernel
set_option maxRecDepth 20000 in
theorem ggX4_seasonOf_X3_isRow : GoodIn wsX4_seasonOf wsX3_isRow := goodIn_r _ [6, 7, 20, 21, 22, 23, 24, 25] (by decide +kernel) (by decide +kernel)
set_option maxRecDepth 20000 in
theorem gX4_seasonOf_X3_isRow : GoodIn wsX4_seasonOf (wsV RX4 147 RX3 yX3_isRow wsX3_isRow) := goodIn_app (goodIn_of _ (by decide +kernel)) ggX4_seasonOf_X3_isRow
set_option maxRecDepth 20000 in
theorem ggX4_seasonOf_X3_seasonOfRow : GoodIn wsX4_seasonOf wsX3_seasonOfRow := goodIn_r _ [11, 12, 20, 21, 22, 23, 24, 25] (by decide +kernel) (by decide +kernel)
set_option maxRecDepth 20000 in
theorem gX4_seasonOf_X3_seasonOfRow : GoodIn wsX4_seasonOf (wsV RX4 162 RX3 yX3_seasonOfRow wsX3_seasonOfRow) := goodIn_app (goodIn_of _ (by decide +kernel)) ggX4_seasonOf_X3_seasonOfRow
theorem dX4_seasonOf_0 : decode cX4_seasonOf 0 = .ok (.aload_n 0, 1) := by decide +kernel
theorem dX4_seasonOf_1 : decode cX4_seasonOf 1 = .ok (.getfield 10, 3) := by decide +kernel
theorem dX4_seasonOf_4 : decode cX4_seasonOf 4 = .ok (.iload_n 1, 1) := by decide +kernel
theorem dX4_seasonOf_5 : decode cX4_seasonOf 5 = .ok (.invokevirtual 147, 3) := by decide +kernel
theorem dX4_seasonOf_8 : decode cX4_seasonOf 8 = .ok (.ifCond .eq 14, 3) := by decide +kernel
theorem dX4_seasonOf_11 : decode cX4_seasonOf 11 = .ok (.aload_n 0, 1) := by decide +kernel
theorem dX4_seasonOf_12 : decode cX4_seasonOf 12 = .ok (.getfield 10, 3) := by decide +kernel
theorem dX4_seasonOf_15 : decode cX4_seasonOf 15 = .ok (.iload_n 1, 1) := by decide +kernel
theorem dX4_seasonOf_16 : decode cX4_seasonOf 16 = .ok (.invokevirtual 162, 3) := by decide +kernel
theorem dX4_seasonOf_19 : decode cX4_seasonOf 19 = .ok (.goto 6, 3) := by decide +kernel
theorem dX4_seasonOf_22 : decode cX4_seasonOf 22 = .ok (.sipush (-10001), 3) := by decide +kernel
theorem dX4_seasonOf_25 : decode cX4_seasonOf 25 = .ok (.ireturn, 1) := by decide +kernel
set_option maxRecDepth 20000 in
theorem ggX4_view_X3_isRow : GoodIn wsX4_view wsX3_isRow := goodIn_r _ [10, 11, 56, 57, 58, 59, 60, 61] (by decide +kernel) (by decide +kernel)
set_option maxRecDepth 20000 in
theorem gX4_view_X3_isRow : GoodIn wsX4_view (wsV RX4 147 RX3 yX3_isRow wsX3_isRow) := goodIn_app (goodIn_of _ (by decide +kernel)) ggX4_view_X3_isRow
set_option maxRecDepth 20000 in
theorem ggX4_view_X3_sharedNames : GoodIn wsX4_view wsX3_sharedNames := goodIn_r _ [15, 16, 17, 18, 19, 9, 20, 21, 22, 23, 24, 25, 56, 57, 58, 59, 60, 61] (by decide +kernel) (by decide +kernel)
set_option maxRecDepth 20000 in
theorem gX4_view_X3_sharedNames : GoodIn wsX4_view (wsV RX4 165 RX3 yX3_sharedNames wsX3_sharedNames) := goodIn_app (goodIn_of _ (by decide +kernel)) ggX4_view_X3_sharedNames
set_option maxRecDepth 20000 in
theorem ggX4_view_X3_defaultsInView : GoodIn wsX4_view wsX3_defaultsInView := goodIn_r _ [29, 30, 13, 14, 9, 15, 16, 17, 18, 19, 20, 21, 22, 23, 24, 25, 31, 32, 33, 34, 35, 36, 37, 38, 39, 40, 41, 42, 43, 44, 45, 46, 47, 48, 56, 57, 58, 59, 60, 61] (by decide +kernel) (by decide +kernel)
set_option maxRecDepth 20000 in
theorem gX4_view_X3_defaultsInView : GoodIn wsX4_view (wsV RX4 173 RX3 yX3_defaultsInView wsX3_defaultsInView) := goodIn_app (goodIn_of _ (by decide +kernel)) ggX4_view_X3_defaultsInView
theorem dX4_view_0 : decode cX4_view 0 = .ok (.aload_n 0, 1) := by decide +kernel
theorem dX4_view_1 : decode cX4_view 1 = .ok (.getfield 10, 3) := by decide +kernel
theorem dX4_view_4 : decode cX4_view 4 = .ok (.iload_n 1, 1) := by decide +kernel
theorem dX4_view_5 : decode cX4_view 5 = .ok (.invokevirtual 147, 3) := by decide +kernel
theorem dX4_view_8 : decode cX4_view 8 = .ok (.ifCond .eq 14, 3) := by decide +kernel
theorem dX4_view_11 : decode cX4_view 11 = .ok (.aload_n 0, 1) := by decide +kernel
theorem dX4_view_12 : decode cX4_view 12 = .ok (.getfield 10, 3) := by decide +kernel
theorem dX4_view_15 : decode cX4_view 15 = .ok (.iload_n 2, 1) := by decide +kernel
theorem dX4_view_16 : decode cX4_view 16 = .ok (.invokevirtual 147, 3) := by decide +kernel
theorem dX4_view_19 : decode cX4_view 19 = .ok (.ifCond .ne 7, 3) := by decide +kernel
theorem dX4_view_22 : decode cX4_view 22 = .ok (.sipush (-10001), 3) := by decide +kernel
theorem dX4_view_25 : decode cX4_view 25 = .ok (.ireturn, 1) := by decide +kernel
theorem dX4_view_26 : decode cX4_view 26 = .ok (.iload_n 3, 1) := by decide +kernel
theorem dX4_view_27 : decode cX4_view 27 = .ok (.tableswitch 55 0 2 #[25, 35, 45], 25) := by decide +kernel
theorem dX4_view_52 : decode cX4_view 52 = .ok (.aload_n 0, 1) := by decide +kernel
theorem dX4_view_53 : decode cX4_view 53 = .ok (.getfield 10, 3) := by decide +kernel
theorem dX4_view_56 : decode cX4_view 56 = .ok (.iload_n 1, 1) := by decide +kernel
theorem dX4_view_57 : decode cX4_view 57 = .ok (.iload_n 2, 1) := by decide +kernel
theorem dX4_view_58 : decode cX4_view 58 = .ok (.invokevirtual 165, 3) := by decide +kernel
theorem dX4_view_61 : decode cX4_view 61 = .ok (.ireturn, 1) := by decide +kernel
theorem dX4_view_62 : decode cX4_view 62 = .ok (.iconst 0, 1) := by decide +kernel
theorem dX4_view_63 : decode cX4_view 63 = .ok (.iload_n 2, 1) := by decide +kernel
theorem dX4_view_64 : decode cX4_view 64 = .ok (.iload_n 1, 1) := by decide +kernel
theorem dX4_view_65 : decode cX4_view 65 = .ok (.isub, 1) := by decide +kernel
theorem dX4_view_66 : decode cX4_view 66 = .ok (.iconst 1, 1) := by decide +kernel
theorem dX4_view_67 : decode cX4_view 67 = .ok (.iadd, 1) := by decide +kernel
theorem dX4_view_68 : decode cX4_view 68 = .ok (.invokestatic 168, 3) := by decide +kernel
theorem dX4_view_71 : decode cX4_view 71 = .ok (.ireturn, 1) := by decide +kernel
theorem dX4_view_72 : decode cX4_view 72 = .ok (.aload_n 0, 1) := by decide +kernel
theorem dX4_view_73 : decode cX4_view 73 = .ok (.getfield 10, 3) := by decide +kernel
theorem dX4_view_76 : decode cX4_view 76 = .ok (.iload_n 1, 1) := by decide +kernel
theorem dX4_view_77 : decode cX4_view 77 = .ok (.iload_n 2, 1) := by decide +kernel
theorem dX4_view_78 : decode cX4_view 78 = .ok (.invokevirtual 173, 3) := by decide +kernel
theorem dX4_view_81 : decode cX4_view 81 = .ok (.ireturn, 1) := by decide +kernel
theorem dX4_view_82 : decode cX4_view 82 = .ok (.sipush (-10002), 3) := by decide +kernel
theorem dX4_view_85 : decode cX4_view 85 = .ok (.ireturn, 1) := by decide +kernel
set_option maxRecDepth 20000 in
theorem ggX4_viewColumn_X3_isRow : GoodIn wsX4_viewColumn wsX3_isRow := goodIn_r _ [6, 7, 76, 77, 78, 79, 80, 81] (by decide +kernel) (by decide +kernel)
set_option maxRecDepth 20000 in
theorem gX4_viewColumn_X3_isRow : GoodIn wsX4_viewColumn (wsV RX4 147 RX3 yX3_isRow wsX3_isRow) := goodIn_app (goodIn_of _ (by decide +kernel)) ggX4_viewColumn_X3_isRow
set_option maxRecDepth 20000 in
theorem ggX4_viewColumn_X4_isName : GoodIn wsX4_viewColumn wsX4_isName := goodIn_r _ [11] (by decide +kernel) (by decide +kernel)
set_option maxRecDepth 20000 in
theorem gX4_viewColumn_X4_isName : GoodIn wsX4_viewColumn (va_wsS RX4 124 yX4_isName wsX4_isName) := goodIn_app (goodIn_of _ (by decide +kernel)) ggX4_viewColumn_X4_isName
set_option maxRecDepth 20000 in
theorem ggX4_viewColumn_X3_sharedNames : GoodIn wsX4_viewColumn wsX3_sharedNames := goodIn_r _ [15, 16, 17, 18, 19, 5, 20, 21, 22, 23, 24, 25, 76, 77, 78, 79, 80, 81] (by decide +kernel) (by decide +kernel)
set_option maxRecDepth 20000 in
theorem gX4_viewColumn_X3_sharedNames : GoodIn wsX4_viewColumn (wsV RX4 165 RX3 yX3_sharedNames wsX3_sharedNames) := goodIn_app (goodIn_of _ (by decide +kernel)) ggX4_viewColumn_X3_sharedNames
set_option maxRecDepth 20000 in
theorem ggX4_viewColumn_X4_hasName : GoodIn wsX4_viewColumn wsX4_hasName := goodIn_r _ [28] (by decide +kernel) (by decide +kernel)
set_option maxRecDepth 20000 in
theorem gX4_viewColumn_X4_hasName : GoodIn wsX4_viewColumn (va_wsS RX4 176 yX4_hasName wsX4_hasName) := goodIn_app (goodIn_of _ (by decide +kernel)) ggX4_viewColumn_X4_hasName
set_option maxRecDepth 20000 in
theorem ggX4_viewColumn_X3_widestKind : GoodIn wsX4_viewColumn wsX3_widestKind := goodIn_r _ [32, 33, 34, 35, 36, 37, 38, 39, 5, 40, 16, 21, 22, 23, 24, 25, 76, 77, 78, 79, 80, 81] (by decide +kernel) (by decide +kernel)
set_option maxRecDepth 20000 in
theorem gX4_viewColumn_X3_widestKind : GoodIn wsX4_viewColumn (wsV RX4 180 RX3 yX3_widestKind wsX3_widestKind) := goodIn_app (goodIn_of _ (by decide +kernel)) ggX4_viewColumn_X3_widestKind
set_option maxRecDepth 20000 in
theorem ggX4_viewColumn_X3_sumOfValues : GoodIn wsX4_viewColumn wsX3_sumOfValues := goodIn_r _ [44, 45, 46, 47, 5, 48, 49, 76, 77, 78, 79, 80, 81] (by decide +kernel) (by decide +kernel)
set_option maxRecDepth 20000 in
theorem gX4_viewColumn_X3_sumOfValues : GoodIn wsX4_viewColumn (wsV RX4 183 RX3 yX3_sumOfValues wsX3_sumOfValues) := goodIn_app (goodIn_of _ (by decide +kernel)) ggX4_viewColumn_X3_sumOfValues
set_option maxRecDepth 20000 in
theorem ggX4_viewColumn_X3_leastValue : GoodIn wsX4_viewColumn wsX3_leastValue := goodIn_r _ [53, 54, 55, 35, 56, 45, 46, 47, 5, 48, 49, 76, 77, 78, 79, 80, 81] (by decide +kernel) (by decide +kernel)
set_option maxRecDepth 20000 in
theorem gX4_viewColumn_X3_leastValue : GoodIn wsX4_viewColumn (wsV RX4 186 RX3 yX3_leastValue wsX3_leastValue) := goodIn_app (goodIn_of _ (by decide +kernel)) ggX4_viewColumn_X3_leastValue
set_option maxRecDepth 20000 in
theorem ggX4_viewColumn_X3_greatestValue : GoodIn wsX4_viewColumn wsX3_greatestValue := goodIn_r _ [60, 33, 34, 35, 36, 45, 46, 47, 5, 48, 49, 76, 77, 78, 79, 80, 81] (by decide +kernel) (by decide +kernel)
set_option maxRecDepth 20000 in
theorem gX4_viewColumn_X3_greatestValue : GoodIn wsX4_viewColumn (wsV RX4 189 RX3 yX3_greatestValue wsX3_greatestValue) := goodIn_app (goodIn_of _ (by decide +kernel)) ggX4_viewColumn_X3_greatestValue
set_option maxRecDepth 20000 in
theorem ggX4_viewColumn_X3_unlikeValues : GoodIn wsX4_viewColumn wsX3_unlikeValues := goodIn_r _ [64, 65, 66, 67, 5, 68, 45, 46, 47, 48, 49, 76, 77, 78, 79, 80, 81] (by decide +kernel) (by decide +kernel)
set_option maxRecDepth 20000 in
theorem gX4_viewColumn_X3_unlikeValues : GoodIn wsX4_viewColumn (wsV RX4 192 RX3 yX3_unlikeValues wsX3_unlikeValues) := goodIn_app (goodIn_of _ (by decide +kernel)) ggX4_viewColumn_X3_unlikeValues
theorem dX4_viewColumn_0 : decode cX4_viewColumn 0 = .ok (.aload_n 0, 1) := by decide +kernel
theorem dX4_viewColumn_1 : decode cX4_viewColumn 1 = .ok (.getfield 10, 3) := by decide +kernel
theorem dX4_viewColumn_4 : decode cX4_viewColumn 4 = .ok (.iload_n 1, 1) := by decide +kernel
theorem dX4_viewColumn_5 : decode cX4_viewColumn 5 = .ok (.invokevirtual 147, 3) := by decide +kernel
theorem dX4_viewColumn_8 : decode cX4_viewColumn 8 = .ok (.ifCond .eq 21, 3) := by decide +kernel
theorem dX4_viewColumn_11 : decode cX4_viewColumn 11 = .ok (.aload_n 0, 1) := by decide +kernel
theorem dX4_viewColumn_12 : decode cX4_viewColumn 12 = .ok (.getfield 10, 3) := by decide +kernel
theorem dX4_viewColumn_15 : decode cX4_viewColumn 15 = .ok (.iload_n 2, 1) := by decide +kernel
theorem dX4_viewColumn_16 : decode cX4_viewColumn 16 = .ok (.invokevirtual 147, 3) := by decide +kernel
theorem dX4_viewColumn_19 : decode cX4_viewColumn 19 = .ok (.ifCond .eq 10, 3) := by decide +kernel
theorem dX4_viewColumn_22 : decode cX4_viewColumn 22 = .ok (.iload_n 3, 1) := by decide +kernel
theorem dX4_viewColumn_23 : decode cX4_viewColumn 23 = .ok (.invokestatic 124, 3) := by decide +kernel
theorem dX4_viewColumn_26 : decode cX4_viewColumn 26 = .ok (.ifCond .ne 7, 3) := by decide +kernel
theorem dX4_viewColumn_29 : decode cX4_viewColumn 29 = .ok (.sipush (-10001), 3) := by decide +kernel
theorem dX4_viewColumn_32 : decode cX4_viewColumn 32 = .ok (.ireturn, 1) := by decide +kernel
theorem dX4_viewColumn_33 : decode cX4_viewColumn 33 = .ok (.iload 4, 2) := by decide +kernel
theorem dX4_viewColumn_35 : decode cX4_viewColumn 35 = .ok (.ifCond .lt 9, 3) := by decide +kernel
theorem dX4_viewColumn_38 : decode cX4_viewColumn 38 = .ok (.iload 4, 2) := by decide +kernel
theorem dX4_viewColumn_40 : decode cX4_viewColumn 40 = .ok (.iconst 4, 1) := by decide +kernel
theorem dX4_viewColumn_41 : decode cX4_viewColumn 41 = .ok (.if_icmp .le 7, 3) := by decide +kernel
theorem dX4_viewColumn_44 : decode cX4_viewColumn 44 = .ok (.sipush (-10002), 3) := by decide +kernel
theorem dX4_viewColumn_47 : decode cX4_viewColumn 47 = .ok (.ireturn, 1) := by decide +kernel
theorem dX4_viewColumn_48 : decode cX4_viewColumn 48 = .ok (.aload_n 0, 1) := by decide +kernel
theorem dX4_viewColumn_49 : decode cX4_viewColumn 49 = .ok (.getfield 10, 3) := by decide +kernel
theorem dX4_viewColumn_52 : decode cX4_viewColumn 52 = .ok (.iload_n 1, 1) := by decide +kernel
theorem dX4_viewColumn_53 : decode cX4_viewColumn 53 = .ok (.iload_n 2, 1) := by decide +kernel
theorem dX4_viewColumn_54 : decode cX4_viewColumn 54 = .ok (.invokevirtual 165, 3) := by decide +kernel
theorem dX4_viewColumn_57 : decode cX4_viewColumn 57 = .ok (.iload_n 3, 1) := by decide +kernel
theorem dX4_viewColumn_58 : decode cX4_viewColumn 58 = .ok (.invokestatic 176, 3) := by decide +kernel
theorem dX4_viewColumn_61 : decode cX4_viewColumn 61 = .ok (.ifCond .ne 7, 3) := by decide +kernel
theorem dX4_viewColumn_64 : decode cX4_viewColumn 64 = .ok (.sipush (-10005), 3) := by decide +kernel
theorem dX4_viewColumn_67 : decode cX4_viewColumn 67 = .ok (.ireturn, 1) := by decide +kernel
theorem dX4_viewColumn_68 : decode cX4_viewColumn 68 = .ok (.iload 4, 2) := by decide +kernel
theorem dX4_viewColumn_70 : decode cX4_viewColumn 70 = .ok (.tableswitch 74 0 3 #[30, 41, 52, 63], 30) := by decide +kernel
theorem dX4_viewColumn_100 : decode cX4_viewColumn 100 = .ok (.aload_n 0, 1) := by decide +kernel
theorem dX4_viewColumn_101 : decode cX4_viewColumn 101 = .ok (.getfield 10, 3) := by decide +kernel
theorem dX4_viewColumn_104 : decode cX4_viewColumn 104 = .ok (.iload_n 1, 1) := by decide +kernel
theorem dX4_viewColumn_105 : decode cX4_viewColumn 105 = .ok (.iload_n 2, 1) := by decide +kernel
theorem dX4_viewColumn_106 : decode cX4_viewColumn 106 = .ok (.iload_n 3, 1) := by decide +kernel
theorem dX4_viewColumn_107 : decode cX4_viewColumn 107 = .ok (.invokevirtual 180, 3) := by decide +kernel
theorem dX4_viewColumn_110 : decode cX4_viewColumn 110 = .ok (.ireturn, 1) := by decide +kernel
theorem dX4_viewColumn_111 : decode cX4_viewColumn 111 = .ok (.aload_n 0, 1) := by decide +kernel
theorem dX4_viewColumn_112 : decode cX4_viewColumn 112 = .ok (.getfield 10, 3) := by decide +kernel
theorem dX4_viewColumn_115 : decode cX4_viewColumn 115 = .ok (.iload_n 1, 1) := by decide +kernel
theorem dX4_viewColumn_116 : decode cX4_viewColumn 116 = .ok (.iload_n 2, 1) := by decide +kernel
theorem dX4_viewColumn_117 : decode cX4_viewColumn 117 = .ok (.iload_n 3, 1) := by decide +kernel
theorem dX4_viewColumn_118 : decode cX4_viewColumn 118 = .ok (.invokevirtual 183, 3) := by decide +kernel
theorem dX4_viewColumn_121 : decode cX4_viewColumn 121 = .ok (.ireturn, 1) := by decide +kernel
theorem dX4_viewColumn_122 : decode cX4_viewColumn 122 = .ok (.aload_n 0, 1) := by decide +kernel
theorem dX4_viewColumn_123 : decode cX4_viewColumn 123 = .ok (.getfield 10, 3) := by decide +kernel
theorem dX4_viewColumn_126 : decode cX4_viewColumn 126 = .ok (.iload_n 1, 1) := by decide +kernel
theorem dX4_viewColumn_127 : decode cX4_viewColumn 127 = .ok (.iload_n 2, 1) := by decide +kernel
theorem dX4_viewColumn_128 : decode cX4_viewColumn 128 = .ok (.iload_n 3, 1) := by decide +kernel
theorem dX4_viewColumn_129 : decode cX4_viewColumn 129 = .ok (.invokevirtual 186, 3) := by decide +kernel
theorem dX4_viewColumn_132 : decode cX4_viewColumn 132 = .ok (.ireturn, 1) := by decide +kernel
theorem dX4_viewColumn_133 : decode cX4_viewColumn 133 = .ok (.aload_n 0, 1) := by decide +kernel
theorem dX4_viewColumn_134 : decode cX4_viewColumn 134 = .ok (.getfield 10, 3) := by decide +kernel
theorem dX4_viewColumn_137 : decode cX4_viewColumn 137 = .ok (.iload_n 1, 1) := by decide +kernel
theorem dX4_viewColumn_138 : decode cX4_viewColumn 138 = .ok (.iload_n 2, 1) := by decide +kernel
theorem dX4_viewColumn_139 : decode cX4_viewColumn 139 = .ok (.iload_n 3, 1) := by decide +kernel
theorem dX4_viewColumn_140 : decode cX4_viewColumn 140 = .ok (.invokevirtual 189, 3) := by decide +kernel
theorem dX4_viewColumn_143 : decode cX4_viewColumn 143 = .ok (.ireturn, 1) := by decide +kernel
theorem dX4_viewColumn_144 : decode cX4_viewColumn 144 = .ok (.aload_n 0, 1) := by decide +kernel
theorem dX4_viewColumn_145 : decode cX4_viewColumn 145 = .ok (.getfield 10, 3) := by decide +kernel
theorem dX4_viewColumn_148 : decode cX4_viewColumn 148 = .ok (.iload_n 1, 1) := by decide +kernel
theorem dX4_viewColumn_149 : decode cX4_viewColumn 149 = .ok (.iload_n 2, 1) := by decide +kernel
theorem dX4_viewColumn_150 : decode cX4_viewColumn 150 = .ok (.iload_n 3, 1) := by decide +kernel
theorem dX4_viewColumn_151 : decode cX4_viewColumn 151 = .ok (.invokevirtual 192, 3) := by decide +kernel
theorem dX4_viewColumn_154 : decode cX4_viewColumn 154 = .ok (.ireturn, 1) := by decide +kernel
set_option maxRecDepth 20000 in
theorem ggX4_bestSeason_X3_seasonOfFewestLosses : GoodIn wsX4_bestSeason wsX3_seasonOfFewestLosses := goodIn_r _ [6, 7, 8, 9, 5, 10, 11, 12, 13, 14, 15, 16, 17, 18, 19, 20, 21, 22, 23, 24, 25, 26, 27, 28, 29, 30, 31, 32, 33, 34, 35, 36, 37, 38, 39, 40, 41, 42, 43, 44, 45, 46, 47, 48, 49, 50, 51, 52, 53, 54, 63, 64, 65, 66, 67, 68] (by decide +kernel) (by decide +kernel)
set_option maxRecDepth 20000 in
theorem gX4_bestSeason_X3_seasonOfFewestLosses : GoodIn wsX4_bestSeason (wsV RX4 198 RX3 yX3_seasonOfFewestLosses wsX3_seasonOfFewestLosses) := goodIn_app (goodIn_of _ (by decide +kernel)) ggX4_bestSeason_X3_seasonOfFewestLosses
set_option maxRecDepth 20000 in
theorem ggX4_bestSeason_X3_lossesIn : GoodIn wsX4_bestSeason wsX3_lossesIn := goodIn_r _ [15, 16, 17, 18, 19, 5, 20, 21, 22, 23, 24, 25, 26, 27, 28, 29, 30, 31, 32, 33, 34, 35, 36, 37, 38, 39, 40, 41, 42, 43, 44, 45, 46, 47, 48, 49, 50, 51, 52, 53, 54, 63, 64, 65, 66, 67, 68] (by decide +kernel) (by decide +kernel)
set_option maxRecDepth 20000 in
theorem gX4_bestSeason_X3_lossesIn : GoodIn wsX4_bestSeason (wsV RX4 201 RX3 yX3_lossesIn wsX3_lossesIn) := goodIn_app (goodIn_of _ (by decide +kernel)) ggX4_bestSeason_X3_lossesIn
theorem dX4_bestSeason_0 : decode cX4_bestSeason 0 = .ok (.iload_n 1, 1) := by decide +kernel
theorem dX4_bestSeason_1 : decode cX4_bestSeason 1 = .ok (.ifCond .lt 8, 3) := by decide +kernel
theorem dX4_bestSeason_4 : decode cX4_bestSeason 4 = .ok (.iload_n 1, 1) := by decide +kernel
theorem dX4_bestSeason_5 : decode cX4_bestSeason 5 = .ok (.iconst 1, 1) := by decide +kernel
theorem dX4_bestSeason_6 : decode cX4_bestSeason 6 = .ok (.if_icmp .le 7, 3) := by decide +kernel
theorem dX4_bestSeason_9 : decode cX4_bestSeason 9 = .ok (.sipush (-10002), 3) := by decide +kernel
theorem dX4_bestSeason_12 : decode cX4_bestSeason 12 = .ok (.ireturn, 1) := by decide +kernel
theorem dX4_bestSeason_13 : decode cX4_bestSeason 13 = .ok (.aload_n 0, 1) := by decide +kernel
theorem dX4_bestSeason_14 : decode cX4_bestSeason 14 = .ok (.getfield 10, 3) := by decide +kernel
theorem dX4_bestSeason_17 : decode cX4_bestSeason 17 = .ok (.invokevirtual 198, 3) := by decide +kernel
theorem dX4_bestSeason_20 : decode cX4_bestSeason 20 = .ok (.istore_n 2, 1) := by decide +kernel
theorem dX4_bestSeason_21 : decode cX4_bestSeason 21 = .ok (.iload_n 1, 1) := by decide +kernel
theorem dX4_bestSeason_22 : decode cX4_bestSeason 22 = .ok (.ifCond .ne 7, 3) := by decide +kernel
theorem dX4_bestSeason_25 : decode cX4_bestSeason 25 = .ok (.iload_n 2, 1) := by decide +kernel
theorem dX4_bestSeason_26 : decode cX4_bestSeason 26 = .ok (.goto 11, 3) := by decide +kernel
theorem dX4_bestSeason_29 : decode cX4_bestSeason 29 = .ok (.aload_n 0, 1) := by decide +kernel
theorem dX4_bestSeason_30 : decode cX4_bestSeason 30 = .ok (.getfield 10, 3) := by decide +kernel
theorem dX4_bestSeason_33 : decode cX4_bestSeason 33 = .ok (.iload_n 2, 1) := by decide +kernel
theorem dX4_bestSeason_34 : decode cX4_bestSeason 34 = .ok (.invokevirtual 201, 3) := by decide +kernel
theorem dX4_bestSeason_37 : decode cX4_bestSeason 37 = .ok (.ireturn, 1) := by decide +kernel
set_option maxRecDepth 20000 in
theorem ggX4_count_X3_now : GoodIn wsX4_count wsX3_now := goodIn_r _ [8, 9, 85, 86, 87, 88, 89, 90] (by decide +kernel) (by decide +kernel)
set_option maxRecDepth 20000 in
theorem gX4_count_X3_now : GoodIn wsX4_count (wsV RX4 204 RX3 yX3_now wsX3_now) := goodIn_app (goodIn_of _ (by decide +kernel)) ggX4_count_X3_now
set_option maxRecDepth 20000 in
theorem ggX4_count_X3_namesIn : GoodIn wsX4_count wsX3_namesIn := goodIn_r _ [13, 14, 15, 16, 7, 17, 18, 85, 86, 87, 88, 89, 90] (by decide +kernel) (by decide +kernel)
set_option maxRecDepth 20000 in
theorem gX4_count_X3_namesIn : GoodIn wsX4_count (wsV RX4 133 RX3 yX3_namesIn wsX3_namesIn) := goodIn_app (goodIn_of _ (by decide +kernel)) ggX4_count_X3_namesIn
set_option maxRecDepth 20000 in
theorem ggX4_count_J6_bitCount_0f7a4 : GoodIn wsX4_count wsJ6_bitCount_0f7a4 := goodIn_r _ [22, 23, 24, 25] (by decide +kernel) (by decide +kernel)
set_option maxRecDepth 20000 in
theorem gX4_count_J6_bitCount_0f7a4 : GoodIn wsX4_count (va_wsS RX4 136 yJ6_bitCount_0f7a4 wsJ6_bitCount_0f7a4) := goodIn_app (goodIn_of _ (by decide +kernel)) ggX4_count_J6_bitCount_0f7a4
set_option maxRecDepth 20000 in
theorem ggX4_count_X3_rowsOfSeason : GoodIn wsX4_count wsX3_rowsOfSeason := goodIn_r _ [29, 30, 31, 85, 86, 87, 88, 89, 90] (by decide +kernel) (by decide +kernel)
set_option maxRecDepth 20000 in
theorem gX4_count_X3_rowsOfSeason : GoodIn wsX4_count (wsV RX4 141 RX3 yX3_rowsOfSeason wsX3_rowsOfSeason) := goodIn_app (goodIn_of _ (by decide +kernel)) ggX4_count_X3_rowsOfSeason
set_option maxRecDepth 20000 in
theorem ggX4_count_X3_valuesOfAllRows : GoodIn wsX4_count wsX3_valuesOfAllRows := goodIn_r _ [35, 30, 31, 36, 11, 12, 7, 13, 14, 15, 16, 17, 18, 37, 20, 21, 22, 23, 24, 25, 85, 86, 87, 88, 89, 90] (by decide +kernel) (by decide +kernel)
set_option maxRecDepth 20000 in
theorem gX4_count_X3_valuesOfAllRows : GoodIn wsX4_count (wsV RX4 207 RX3 yX3_valuesOfAllRows wsX3_valuesOfAllRows) := goodIn_app (goodIn_of _ (by decide +kernel)) ggX4_count_X3_valuesOfAllRows
set_option maxRecDepth 20000 in
theorem ggX4_count_X3_lossesIn : GoodIn wsX4_count wsX3_lossesIn := goodIn_r _ [41, 30, 42, 43, 44, 7, 45, 46, 47, 48, 49, 31, 14, 15, 16, 17, 18, 50, 51, 52, 53, 54, 55, 56, 57, 58, 59, 60, 61, 62, 63, 64, 65, 66, 67, 68, 69, 70, 71, 72, 73, 85, 86, 87, 88, 89, 90] (by decide +kernel) (by decide +kernel)
set_option maxRecDepth 20000 in
theorem gX4_count_X3_lossesIn : GoodIn wsX4_count (wsV RX4 201 RX3 yX3_lossesIn wsX3_lossesIn) := goodIn_app (goodIn_of _ (by decide +kernel)) ggX4_count_X3_lossesIn
set_option maxRecDepth 20000 in
theorem ggX4_count_X3_namesOfAllSeasons : GoodIn wsX4_count wsX3_namesOfAllSeasons := goodIn_r _ [77, 9, 36, 11, 12, 7, 13, 14, 15, 16, 17, 18, 85, 86, 87, 88, 89, 90] (by decide +kernel) (by decide +kernel)
set_option maxRecDepth 20000 in
theorem gX4_count_X3_namesOfAllSeasons : GoodIn wsX4_count (wsV RX4 210 RX3 yX3_namesOfAllSeasons wsX3_namesOfAllSeasons) := goodIn_app (goodIn_of _ (by decide +kernel)) ggX4_count_X3_namesOfAllSeasons
theorem dX4_count_0 : decode cX4_count 0 = .ok (.iload_n 1, 1) := by decide +kernel
theorem dX4_count_1 : decode cX4_count 1 = .ok (.tableswitch 147 0 8 #[51, 59, 77, 85, 100, 108, 123, 131, 139], 51) := by decide +kernel
theorem dX4_count_52 : decode cX4_count 52 = .ok (.aload_n 0, 1) := by decide +kernel
theorem dX4_count_53 : decode cX4_count 53 = .ok (.getfield 10, 3) := by decide +kernel
theorem dX4_count_56 : decode cX4_count 56 = .ok (.invokevirtual 204, 3) := by decide +kernel
theorem dX4_count_59 : decode cX4_count 59 = .ok (.ireturn, 1) := by decide +kernel
theorem dX4_count_60 : decode cX4_count 60 = .ok (.aload_n 0, 1) := by decide +kernel
theorem dX4_count_61 : decode cX4_count 61 = .ok (.getfield 10, 3) := by decide +kernel
theorem dX4_count_64 : decode cX4_count 64 = .ok (.aload_n 0, 1) := by decide +kernel
theorem dX4_count_65 : decode cX4_count 65 = .ok (.getfield 10, 3) := by decide +kernel
theorem dX4_count_68 : decode cX4_count 68 = .ok (.invokevirtual 204, 3) := by decide +kernel
theorem dX4_count_71 : decode cX4_count 71 = .ok (.invokevirtual 133, 3) := by decide +kernel
theorem dX4_count_74 : decode cX4_count 74 = .ok (.invokestatic 136, 3) := by decide +kernel
theorem dX4_count_77 : decode cX4_count 77 = .ok (.ireturn, 1) := by decide +kernel
theorem dX4_count_78 : decode cX4_count 78 = .ok (.aload_n 0, 1) := by decide +kernel
theorem dX4_count_79 : decode cX4_count 79 = .ok (.getfield 10, 3) := by decide +kernel
theorem dX4_count_82 : decode cX4_count 82 = .ok (.getfield 118, 3) := by decide +kernel
theorem dX4_count_85 : decode cX4_count 85 = .ok (.ireturn, 1) := by decide +kernel
theorem dX4_count_86 : decode cX4_count 86 = .ok (.aload_n 0, 1) := by decide +kernel
theorem dX4_count_87 : decode cX4_count 87 = .ok (.getfield 10, 3) := by decide +kernel
theorem dX4_count_90 : decode cX4_count 90 = .ok (.aload_n 0, 1) := by decide +kernel
theorem dX4_count_91 : decode cX4_count 91 = .ok (.getfield 10, 3) := by decide +kernel
theorem dX4_count_94 : decode cX4_count 94 = .ok (.invokevirtual 204, 3) := by decide +kernel
theorem dX4_count_97 : decode cX4_count 97 = .ok (.invokevirtual 141, 3) := by decide +kernel
theorem dX4_count_100 : decode cX4_count 100 = .ok (.ireturn, 1) := by decide +kernel
theorem dX4_count_101 : decode cX4_count 101 = .ok (.aload_n 0, 1) := by decide +kernel
theorem dX4_count_102 : decode cX4_count 102 = .ok (.getfield 10, 3) := by decide +kernel
theorem dX4_count_105 : decode cX4_count 105 = .ok (.invokevirtual 207, 3) := by decide +kernel
theorem dX4_count_108 : decode cX4_count 108 = .ok (.ireturn, 1) := by decide +kernel
theorem dX4_count_109 : decode cX4_count 109 = .ok (.aload_n 0, 1) := by decide +kernel
theorem dX4_count_110 : decode cX4_count 110 = .ok (.getfield 10, 3) := by decide +kernel
theorem dX4_count_113 : decode cX4_count 113 = .ok (.aload_n 0, 1) := by decide +kernel
theorem dX4_count_114 : decode cX4_count 114 = .ok (.getfield 10, 3) := by decide +kernel
theorem dX4_count_117 : decode cX4_count 117 = .ok (.invokevirtual 204, 3) := by decide +kernel
theorem dX4_count_120 : decode cX4_count 120 = .ok (.invokevirtual 201, 3) := by decide +kernel
theorem dX4_count_123 : decode cX4_count 123 = .ok (.ireturn, 1) := by decide +kernel
theorem dX4_count_124 : decode cX4_count 124 = .ok (.aload_n 0, 1) := by decide +kernel
theorem dX4_count_125 : decode cX4_count 125 = .ok (.getfield 10, 3) := by decide +kernel
theorem dX4_count_128 : decode cX4_count 128 = .ok (.invokevirtual 210, 3) := by decide +kernel
theorem dX4_count_131 : decode cX4_count 131 = .ok (.ireturn, 1) := by decide +kernel
theorem dX4_count_132 : decode cX4_count 132 = .ok (.aload_n 0, 1) := by decide +kernel
theorem dX4_count_133 : decode cX4_count 133 = .ok (.getfield 19, 3) := by decide +kernel
theorem dX4_count_136 : decode cX4_count 136 = .ok (.getfield 114, 3) := by decide +kernel
theorem dX4_count_139 : decode cX4_count 139 = .ok (.ireturn, 1) := by decide +kernel
theorem dX4_count_140 : decode cX4_count 140 = .ok (.aload_n 0, 1) := by decide +kernel
theorem dX4_count_141 : decode cX4_count 141 = .ok (.getfield 33, 3) := by decide +kernel
theorem dX4_count_144 : decode cX4_count 144 = .ok (.getfield 83, 3) := by decide +kernel
theorem dX4_count_147 : decode cX4_count 147 = .ok (.ireturn, 1) := by decide +kernel
theorem dX4_count_148 : decode cX4_count 148 = .ok (.sipush (-10002), 3) := by decide +kernel
theorem dX4_count_151 : decode cX4_count 151 = .ok (.ireturn, 1) := by decide +kernel
set_option maxRecDepth 20000 in
theorem ggX4_recordIfDone_X4_isError : GoodIn wsX4_recordIfDone wsX4_isError := goodIn_r _ [5] (by decide +kernel) (by decide +kernel)
set_option maxRecDepth 20000 in
theorem gX4_recordIfDone_X4_isError : GoodIn wsX4_recordIfDone (va_wsS RX4 100 yX4_isError wsX4_isError) := goodIn_app (goodIn_of _ (by decide +kernel)) ggX4_recordIfDone_X4_isError
set_option maxRecDepth 20000 in
theorem ggX4_recordIfDone_X1_record : GoodIn wsX4_recordIfDone wsX1_record := goodIn_r _ [10, 11, 12, 20, 21, 22] (by decide +kernel) (by decide +kernel)
set_option maxRecDepth 20000 in
theorem gX4_recordIfDone_X1_record : GoodIn wsX4_recordIfDone (wsV RX4 111 RX1 yX1_record wsX1_record) := goodIn_app (goodIn_of _ (by decide +kernel)) ggX4_recordIfDone_X1_record
theorem dX4_recordIfDone_0 : decode cX4_recordIfDone 0 = .ok (.iload_n 1, 1) := by decide +kernel
theorem dX4_recordIfDone_1 : decode cX4_recordIfDone 1 = .ok (.invokestatic 100, 3) := by decide +kernel
theorem dX4_recordIfDone_4 : decode cX4_recordIfDone 4 = .ok (.ifCond .ne 17, 3) := by decide +kernel
theorem dX4_recordIfDone_7 : decode cX4_recordIfDone 7 = .ok (.iload_n 1, 1) := by decide +kernel
theorem dX4_recordIfDone_8 : decode cX4_recordIfDone 8 = .ok (.sipush (-10005), 3) := by decide +kernel
theorem dX4_recordIfDone_11 : decode cX4_recordIfDone 11 = .ok (.if_icmp .eq 10, 3) := by decide +kernel
theorem dX4_recordIfDone_14 : decode cX4_recordIfDone 14 = .ok (.aload_n 0, 1) := by decide +kernel
theorem dX4_recordIfDone_15 : decode cX4_recordIfDone 15 = .ok (.getfield 19, 3) := by decide +kernel
theorem dX4_recordIfDone_18 : decode cX4_recordIfDone 18 = .ok (.invokevirtual 111, 3) := by decide +kernel
theorem dX4_recordIfDone_21 : decode cX4_recordIfDone 21 = .ok (.iload_n 1, 1) := by decide +kernel
theorem dX4_recordIfDone_22 : decode cX4_recordIfDone 22 = .ok (.ireturn, 1) := by decide +kernel
theorem dX4_isError_0 : decode cX4_isError 0 = .ok (.iload_n 0, 1) := by decide +kernel
theorem dX4_isError_1 : decode cX4_isError 1 = .ok (.sipush (-10001), 3) := by decide +kernel
theorem dX4_isError_4 : decode cX4_isError 4 = .ok (.if_icmp .gt 14, 3) := by decide +kernel
theorem dX4_isError_7 : decode cX4_isError 7 = .ok (.iload_n 0, 1) := by decide +kernel
theorem dX4_isError_8 : decode cX4_isError 8 = .ok (.sipush (-10005), 3) := by decide +kernel
theorem dX4_isError_11 : decode cX4_isError 11 = .ok (.if_icmp .eq 7, 3) := by decide +kernel
theorem dX4_isError_14 : decode cX4_isError 14 = .ok (.iconst 1, 1) := by decide +kernel
theorem dX4_isError_15 : decode cX4_isError 15 = .ok (.goto 4, 3) := by decide +kernel
theorem dX4_isError_18 : decode cX4_isError 18 = .ok (.iconst 0, 1) := by decide +kernel
theorem dX4_isError_19 : decode cX4_isError 19 = .ok (.ireturn, 1) := by decide +kernel
theorem dX4_isName_0 : decode cX4_isName 0 = .ok (.iload_n 0, 1) := by decide +kernel
theorem dX4_isName_1 : decode cX4_isName 1 = .ok (.ifCond .lt 13, 3) := by decide +kernel
theorem dX4_isName_4 : decode cX4_isName 4 = .ok (.iload_n 0, 1) := by decide +kernel
theorem dX4_isName_5 : decode cX4_isName 5 = .ok (.bipush 8, 2) := by decide +kernel
theorem dX4_isName_7 : decode cX4_isName 7 = .ok (.if_icmp .ge 7, 3) := by decide +kernel
theorem dX4_isName_10 : decode cX4_isName 10 = .ok (.iconst 1, 1) := by decide +kernel
theorem dX4_isName_11 : decode cX4_isName 11 = .ok (.goto 4, 3) := by decide +kernel
theorem dX4_isName_14 : decode cX4_isName 14 = .ok (.iconst 0, 1) := by decide +kernel
theorem dX4_isName_15 : decode cX4_isName 15 = .ok (.ireturn, 1) := by decide +kernel
theorem dX4_isKind_0 : decode cX4_isKind 0 = .ok (.iload_n 0, 1) := by decide +kernel
theorem dX4_isKind_1 : decode cX4_isKind 1 = .ok (.ifCond .lt 12, 3) := by decide +kernel
theorem dX4_isKind_4 : decode cX4_isKind 4 = .ok (.iload_n 0, 1) := by decide +kernel
theorem dX4_isKind_5 : decode cX4_isKind 5 = .ok (.iconst 2, 1) := by decide +kernel
theorem dX4_isKind_6 : decode cX4_isKind 6 = .ok (.if_icmp .gt 7, 3) := by decide +kernel
theorem dX4_isKind_9 : decode cX4_isKind 9 = .ok (.iconst 1, 1) := by decide +kernel
theorem dX4_isKind_10 : decode cX4_isKind 10 = .ok (.goto 4, 3) := by decide +kernel
theorem dX4_isKind_13 : decode cX4_isKind 13 = .ok (.iconst 0, 1) := by decide +kernel
theorem dX4_isKind_14 : decode cX4_isKind 14 = .ok (.ireturn, 1) := by decide +kernel
theorem dX4_hasName_0 : decode cX4_hasName 0 = .ok (.iload_n 0, 1) := by decide +kernel
theorem dX4_hasName_1 : decode cX4_hasName 1 = .ok (.iconst 1, 1) := by decide +kernel
theorem dX4_hasName_2 : decode cX4_hasName 2 = .ok (.iload_n 1, 1) := by decide +kernel
theorem dX4_hasName_3 : decode cX4_hasName 3 = .ok (.ishl, 1) := by decide +kernel
theorem dX4_hasName_4 : decode cX4_hasName 4 = .ok (.iand, 1) := by decide +kernel
theorem dX4_hasName_5 : decode cX4_hasName 5 = .ok (.ifCond .eq 7, 3) := by decide +kernel
theorem dX4_hasName_8 : decode cX4_hasName 8 = .ok (.iconst 1, 1) := by decide +kernel
theorem dX4_hasName_9 : decode cX4_hasName 9 = .ok (.goto 4, 3) := by decide +kernel
theorem dX4_hasName_12 : decode cX4_hasName 12 = .ok (.iconst 0, 1) := by decide +kernel
theorem dX4_hasName_13 : decode cX4_hasName 13 = .ok (.ireturn, 1) := by decide +kernel
theorem dX4_leastOfKind_0 : decode cX4_leastOfKind 0 = .ok (.iload_n 0, 1) := by decide +kernel
theorem dX4_leastOfKind_1 : decode cX4_leastOfKind 1 = .ok (.iconst 2, 1) := by decide +kernel
theorem dX4_leastOfKind_2 : decode cX4_leastOfKind 2 = .ok (.if_icmp .ne 9, 3) := by decide +kernel
theorem dX4_leastOfKind_5 : decode cX4_leastOfKind 5 = .ok (.sipush (-9999), 3) := by decide +kernel
theorem dX4_leastOfKind_8 : decode cX4_leastOfKind 8 = .ok (.goto 4, 3) := by decide +kernel
theorem dX4_leastOfKind_11 : decode cX4_leastOfKind 11 = .ok (.iconst 0, 1) := by decide +kernel
theorem dX4_leastOfKind_12 : decode cX4_leastOfKind 12 = .ok (.ireturn, 1) := by decide +kernel
theorem dX4_greatestOfKind_0 : decode cX4_greatestOfKind 0 = .ok (.iload_n 0, 1) := by decide +kernel
theorem dX4_greatestOfKind_1 : decode cX4_greatestOfKind 1 = .ok (.ifCond .ne 5, 3) := by decide +kernel
theorem dX4_greatestOfKind_4 : decode cX4_greatestOfKind 4 = .ok (.iconst 1, 1) := by decide +kernel
theorem dX4_greatestOfKind_5 : decode cX4_greatestOfKind 5 = .ok (.ireturn, 1) := by decide +kernel
theorem dX4_greatestOfKind_6 : decode cX4_greatestOfKind 6 = .ok (.iload_n 0, 1) := by decide +kernel
theorem dX4_greatestOfKind_7 : decode cX4_greatestOfKind 7 = .ok (.iconst 1, 1) := by decide +kernel
theorem dX4_greatestOfKind_8 : decode cX4_greatestOfKind 8 = .ok (.if_icmp .ne 8, 3) := by decide +kernel
theorem dX4_greatestOfKind_11 : decode cX4_greatestOfKind 11 = .ok (.bipush 9, 2) := by decide +kernel
theorem dX4_greatestOfKind_13 : decode cX4_greatestOfKind 13 = .ok (.goto 6, 3) := by decide +kernel
theorem dX4_greatestOfKind_16 : decode cX4_greatestOfKind 16 = .ok (.sipush 9999, 3) := by decide +kernel
theorem dX4_greatestOfKind_19 : decode cX4_greatestOfKind 19 = .ok (.ireturn, 1) := by decide +kernel
set_option maxRecDepth 20000 in
theorem ggX4_isOfKind_X4_leastOfKind : GoodIn wsX4_isOfKind wsX4_leastOfKind := goodIn_r _ [4] (by decide +kernel) (by decide +kernel)
set_option maxRecDepth 20000 in
theorem gX4_isOfKind_X4_leastOfKind : GoodIn wsX4_isOfKind (va_wsS RX4 230 yX4_leastOfKind wsX4_leastOfKind) := goodIn_app (goodIn_of _ (by decide +kernel)) ggX4_isOfKind_X4_leastOfKind
set_option maxRecDepth 20000 in
theorem ggX4_isOfKind_X4_greatestOfKind : GoodIn wsX4_isOfKind wsX4_greatestOfKind := goodIn_r _ [7] (by decide +kernel) (by decide +kernel)
set_option maxRecDepth 20000 in
theorem gX4_isOfKind_X4_greatestOfKind : GoodIn wsX4_isOfKind (va_wsS RX4 233 yX4_greatestOfKind wsX4_greatestOfKind) := goodIn_app (goodIn_of _ (by decide +kernel)) ggX4_isOfKind_X4_greatestOfKind
theorem dX4_isOfKind_0 : decode cX4_isOfKind 0 = .ok (.iload_n 0, 1) := by decide +kernel
theorem dX4_isOfKind_1 : decode cX4_isOfKind 1 = .ok (.iload_n 1, 1) := by decide +kernel
theorem dX4_isOfKind_2 : decode cX4_isOfKind 2 = .ok (.invokestatic 230, 3) := by decide +kernel
theorem dX4_isOfKind_5 : decode cX4_isOfKind 5 = .ok (.if_icmp .lt 15, 3) := by decide +kernel
theorem dX4_isOfKind_8 : decode cX4_isOfKind 8 = .ok (.iload_n 0, 1) := by decide +kernel
theorem dX4_isOfKind_9 : decode cX4_isOfKind 9 = .ok (.iload_n 1, 1) := by decide +kernel
theorem dX4_isOfKind_10 : decode cX4_isOfKind 10 = .ok (.invokestatic 233, 3) := by decide +kernel
theorem dX4_isOfKind_13 : decode cX4_isOfKind 13 = .ok (.if_icmp .gt 7, 3) := by decide +kernel
theorem dX4_isOfKind_16 : decode cX4_isOfKind 16 = .ok (.iconst 1, 1) := by decide +kernel
theorem dX4_isOfKind_17 : decode cX4_isOfKind 17 = .ok (.goto 4, 3) := by decide +kernel
theorem dX4_isOfKind_20 : decode cX4_isOfKind 20 = .ok (.iconst 0, 1) := by decide +kernel
theorem dX4_isOfKind_21 : decode cX4_isOfKind 21 = .ok (.ireturn, 1) := by decide +kernel
set_option maxRecDepth 20000 in
theorem ggX4_castTo_X4_leastOfKind : GoodIn wsX4_castTo wsX4_leastOfKind := goodIn_r _ [11] (by decide +kernel) (by decide +kernel)
set_option maxRecDepth 20000 in
theorem gX4_castTo_X4_leastOfKind : GoodIn wsX4_castTo (va_wsS RX4 230 yX4_leastOfKind wsX4_leastOfKind) := goodIn_app (goodIn_of _ (by decide +kernel)) ggX4_castTo_X4_leastOfKind
set_option maxRecDepth 20000 in
theorem ggX4_castTo_X4_greatestOfKind : GoodIn wsX4_castTo wsX4_greatestOfKind := goodIn_r _ [14] (by decide +kernel) (by decide +kernel)
set_option maxRecDepth 20000 in
theorem gX4_castTo_X4_greatestOfKind : GoodIn wsX4_castTo (va_wsS RX4 233 yX4_greatestOfKind wsX4_greatestOfKind) := goodIn_app (goodIn_of _ (by decide +kernel)) ggX4_castTo_X4_greatestOfKind
theorem dX4_castTo_0 : decode cX4_castTo 0 = .ok (.iload_n 0, 1) := by decide +kernel
theorem dX4_castTo_1 : decode cX4_castTo 1 = .ok (.ifCond .ne 13, 3) := by decide +kernel
theorem dX4_castTo_4 : decode cX4_castTo 4 = .ok (.iload_n 1, 1) := by decide +kernel
theorem dX4_castTo_5 : decode cX4_castTo 5 = .ok (.ifCond .ne 7, 3) := by decide +kernel
theorem dX4_castTo_8 : decode cX4_castTo 8 = .ok (.iconst 0, 1) := by decide +kernel
theorem dX4_castTo_9 : decode cX4_castTo 9 = .ok (.goto 4, 3) := by decide +kernel
theorem dX4_castTo_12 : decode cX4_castTo 12 = .ok (.iconst 1, 1) := by decide +kernel
theorem dX4_castTo_13 : decode cX4_castTo 13 = .ok (.ireturn, 1) := by decide +kernel
theorem dX4_castTo_14 : decode cX4_castTo 14 = .ok (.iload_n 0, 1) := by decide +kernel
theorem dX4_castTo_15 : decode cX4_castTo 15 = .ok (.invokestatic 230, 3) := by decide +kernel
theorem dX4_castTo_18 : decode cX4_castTo 18 = .ok (.iload_n 0, 1) := by decide +kernel
theorem dX4_castTo_19 : decode cX4_castTo 19 = .ok (.invokestatic 233, 3) := by decide +kernel
theorem dX4_castTo_22 : decode cX4_castTo 22 = .ok (.iload_n 1, 1) := by decide +kernel
theorem dX4_castTo_23 : decode cX4_castTo 23 = .ok (.invokestatic 236, 3) := by decide +kernel
theorem dX4_castTo_26 : decode cX4_castTo 26 = .ok (.invokestatic 168, 3) := by decide +kernel
theorem dX4_castTo_29 : decode cX4_castTo 29 = .ok (.ireturn, 1) := by decide +kernel
set_option maxRecDepth 20000 in
theorem ggX4_castLoses_X4_castTo : GoodIn wsX4_castLoses wsX4_castTo := goodIn_r _ [4, 5, 6, 7, 8, 9, 10, 11, 12, 13, 3, 14, 15, 16, 17] (by decide +kernel) (by decide +kernel)
set_option maxRecDepth 20000 in
theorem gX4_castLoses_X4_castTo : GoodIn wsX4_castLoses (va_wsS RX4 239 yX4_castTo wsX4_castTo) := goodIn_app (goodIn_of _ (by decide +kernel)) ggX4_castLoses_X4_castTo
theorem dX4_castLoses_0 : decode cX4_castLoses 0 = .ok (.iload_n 1, 1) := by decide +kernel
theorem dX4_castLoses_1 : decode cX4_castLoses 1 = .ok (.iload_n 2, 1) := by decide +kernel
theorem dX4_castLoses_2 : decode cX4_castLoses 2 = .ok (.iload_n 0, 1) := by decide +kernel
theorem dX4_castLoses_3 : decode cX4_castLoses 3 = .ok (.invokestatic 239, 3) := by decide +kernel
theorem dX4_castLoses_6 : decode cX4_castLoses 6 = .ok (.invokestatic 239, 3) := by decide +kernel
theorem dX4_castLoses_9 : decode cX4_castLoses 9 = .ok (.iload_n 0, 1) := by decide +kernel
theorem dX4_castLoses_10 : decode cX4_castLoses 10 = .ok (.if_icmp .eq 7, 3) := by decide +kernel
theorem dX4_castLoses_13 : decode cX4_castLoses 13 = .ok (.iconst 1, 1) := by decide +kernel
theorem dX4_castLoses_14 : decode cX4_castLoses 14 = .ok (.goto 4, 3) := by decide +kernel
theorem dX4_castLoses_17 : decode cX4_castLoses 17 = .ok (.iconst 0, 1) := by decide +kernel
theorem dX4_castLoses_18 : decode cX4_castLoses 18 = .ok (.ireturn, 1) := by decide +kernel
end
section
theorem dL_low_0 : decode cL_low 0 = .ok (.iload_n 0, 1) := by decide +kernel
theorem dL_low_1 : decode cL_low 1 = .ok (.ldc 7, 2) := by decide +kernel
theorem dL_low_3 : decode cL_low 3 = .ok (.iand, 1) := by decide +kernel
theorem dL_low_4 : decode cL_low 4 = .ok (.iload_n 1, 1) := by decide +kernel
theorem dL_low_5 : decode cL_low 5 = .ok (.irem, 1) := by decide +kernel
theorem dL_low_6 : decode cL_low 6 = .ok (.ireturn, 1) := by decide +kernel
theorem dL_cell_0 : decode cL_cell 0 = .ok (.iload_n 1, 1) := by decide +kernel
theorem dL_cell_1 : decode cL_cell 1 = .ok (.aload_n 0, 1) := by decide +kernel
theorem dL_cell_2 : decode cL_cell 2 = .ok (.arraylength, 1) := by decide +kernel
theorem dL_cell_3 : decode cL_cell 3 = .ok (.if_icmp .ge 9, 3) := by decide +kernel
theorem dL_cell_6 : decode cL_cell 6 = .ok (.aload_n 0, 1) := by decide +kernel
theorem dL_cell_7 : decode cL_cell 7 = .ok (.iload_n 1, 1) := by decide +kernel
theorem dL_cell_8 : decode cL_cell 8 = .ok (.iaload, 1) := by decide +kernel
theorem dL_cell_9 : decode cL_cell 9 = .ok (.goto 11, 3) := by decide +kernel
theorem dL_cell_12 : decode cL_cell 12 = .ok (.ldc 8, 2) := by decide +kernel
theorem dL_cell_14 : decode cL_cell 14 = .ok (.iload_n 1, 1) := by decide +kernel
theorem dL_cell_15 : decode cL_cell 15 = .ok (.imul, 1) := by decide +kernel
theorem dL_cell_16 : decode cL_cell 16 = .ok (.sipush 977, 3) := by decide +kernel
theorem dL_cell_19 : decode cL_cell 19 = .ok (.iadd, 1) := by decide +kernel
theorem dL_cell_20 : decode cL_cell 20 = .ok (.ireturn, 1) := by decide +kernel
theorem dL_least_0 : decode cL_least 0 = .ok (.iload_n 0, 1) := by decide +kernel
theorem dL_least_1 : decode cL_least 1 = .ok (.iconst 2, 1) := by decide +kernel
theorem dL_least_2 : decode cL_least 2 = .ok (.if_icmp .ne 9, 3) := by decide +kernel
theorem dL_least_5 : decode cL_least 5 = .ok (.sipush (-9999), 3) := by decide +kernel
theorem dL_least_8 : decode cL_least 8 = .ok (.goto 4, 3) := by decide +kernel
theorem dL_least_11 : decode cL_least 11 = .ok (.iconst 0, 1) := by decide +kernel
theorem dL_least_12 : decode cL_least 12 = .ok (.ireturn, 1) := by decide +kernel
theorem dL_most_0 : decode cL_most 0 = .ok (.iload_n 0, 1) := by decide +kernel
theorem dL_most_1 : decode cL_most 1 = .ok (.ifCond .ne 7, 3) := by decide +kernel
theorem dL_most_4 : decode cL_most 4 = .ok (.iconst 1, 1) := by decide +kernel
theorem dL_most_5 : decode cL_most 5 = .ok (.goto 16, 3) := by decide +kernel
theorem dL_most_8 : decode cL_most 8 = .ok (.iload_n 0, 1) := by decide +kernel
theorem dL_most_9 : decode cL_most 9 = .ok (.iconst 1, 1) := by decide +kernel
theorem dL_most_10 : decode cL_most 10 = .ok (.if_icmp .ne 8, 3) := by decide +kernel
theorem dL_most_13 : decode cL_most 13 = .ok (.bipush 9, 2) := by decide +kernel
theorem dL_most_15 : decode cL_most 15 = .ok (.goto 6, 3) := by decide +kernel
theorem dL_most_18 : decode cL_most 18 = .ok (.sipush 9999, 3) := by decide +kernel
theorem dL_most_21 : decode cL_most 21 = .ok (.ireturn, 1) := by decide +kernel
theorem dL_valued_0 : decode cL_valued 0 = .ok (.iload_n 0, 1) := by decide +kernel
theorem dL_valued_1 : decode cL_valued 1 = .ok (.bipush 13, 2) := by decide +kernel
theorem dL_valued_3 : decode cL_valued 3 = .ok (.invokestatic 9, 3) := by decide +kernel
theorem dL_valued_6 : decode cL_valued 6 = .ok (.iconst 1, 1) := by decide +kernel
theorem dL_valued_7 : decode cL_valued 7 = .ok (.isub, 1) := by decide +kernel
theorem dL_valued_8 : decode cL_valued 8 = .ok (.istore_n 2, 1) := by decide +kernel
theorem dL_valued_9 : decode cL_valued 9 = .ok (.iload_n 0, 1) := by decide +kernel
theorem dL_valued_10 : decode cL_valued 10 = .ok (.iconst 4, 1) := by decide +kernel
theorem dL_valued_11 : decode cL_valued 11 = .ok (.ishr, 1) := by decide +kernel
theorem dL_valued_12 : decode cL_valued 12 = .ok (.iconst 3, 1) := by decide +kernel
theorem dL_valued_13 : decode cL_valued 13 = .ok (.invokestatic 9, 3) := by decide +kernel
theorem dL_valued_16 : decode cL_valued 16 = .ok (.ifCond .le 7, 3) := by decide +kernel
theorem dL_valued_19 : decode cL_valued 19 = .ok (.iload_n 2, 1) := by decide +kernel
theorem dL_valued_20 : decode cL_valued 20 = .ok (.goto 17, 3) := by decide +kernel
theorem dL_valued_23 : decode cL_valued 23 = .ok (.iload_n 0, 1) := by decide +kernel
theorem dL_valued_24 : decode cL_valued 24 = .ok (.bipush 6, 2) := by decide +kernel
theorem dL_valued_26 : decode cL_valued 26 = .ok (.ishr, 1) := by decide +kernel
theorem dL_valued_27 : decode cL_valued 27 = .ok (.sipush 19999, 3) := by decide +kernel
theorem dL_valued_30 : decode cL_valued 30 = .ok (.invokestatic 9, 3) := by decide +kernel
theorem dL_valued_33 : decode cL_valued 33 = .ok (.sipush 9999, 3) := by decide +kernel
theorem dL_valued_36 : decode cL_valued 36 = .ok (.isub, 1) := by decide +kernel
theorem dL_valued_37 : decode cL_valued 37 = .ok (.istore_n 3, 1) := by decide +kernel
theorem dL_valued_38 : decode cL_valued 38 = .ok (.iload_n 3, 1) := by decide +kernel
theorem dL_valued_39 : decode cL_valued 39 = .ok (.iload_n 1, 1) := by decide +kernel
theorem dL_valued_40 : decode cL_valued 40 = .ok (.invokestatic 15, 3) := by decide +kernel
theorem dL_valued_43 : decode cL_valued 43 = .ok (.if_icmp .ge 10, 3) := by decide +kernel
theorem dL_valued_46 : decode cL_valued 46 = .ok (.iload_n 1, 1) := by decide +kernel
theorem dL_valued_47 : decode cL_valued 47 = .ok (.invokestatic 15, 3) := by decide +kernel
theorem dL_valued_50 : decode cL_valued 50 = .ok (.goto 19, 3) := by decide +kernel
theorem dL_valued_53 : decode cL_valued 53 = .ok (.iload_n 3, 1) := by decide +kernel
theorem dL_valued_54 : decode cL_valued 54 = .ok (.iload_n 1, 1) := by decide +kernel
theorem dL_valued_55 : decode cL_valued 55 = .ok (.invokestatic 19, 3) := by decide +kernel
theorem dL_valued_58 : decode cL_valued 58 = .ok (.if_icmp .le 10, 3) := by decide +kernel
theorem dL_valued_61 : decode cL_valued 61 = .ok (.iload_n 1, 1) := by decide +kernel
theorem dL_valued_62 : decode cL_valued 62 = .ok (.invokestatic 19, 3) := by decide +kernel
theorem dL_valued_65 : decode cL_valued 65 = .ok (.goto 4, 3) := by decide +kernel
theorem dL_valued_68 : decode cL_valued 68 = .ok (.iload_n 3, 1) := by decide +kernel
theorem dL_valued_69 : decode cL_valued 69 = .ok (.ireturn, 1) := by decide +kernel
theorem dL_cast_0 : decode cL_cast 0 = .ok (.iload_n 1, 1) := by decide +kernel
theorem dL_cast_1 : decode cL_cast 1 = .ok (.iconst 2, 1) := by decide +kernel
theorem dL_cast_2 : decode cL_cast 2 = .ok (.if_icmp .ne 7, 3) := by decide +kernel
theorem dL_cast_5 : decode cL_cast 5 = .ok (.iload_n 0, 1) := by decide +kernel
theorem dL_cast_6 : decode cL_cast 6 = .ok (.goto 39, 3) := by decide +kernel
theorem dL_cast_9 : decode cL_cast 9 = .ok (.iload_n 1, 1) := by decide +kernel
theorem dL_cast_10 : decode cL_cast 10 = .ok (.ifCond .ne 15, 3) := by decide +kernel
theorem dL_cast_13 : decode cL_cast 13 = .ok (.iload_n 0, 1) := by decide +kernel
theorem dL_cast_14 : decode cL_cast 14 = .ok (.ifCond .ne 7, 3) := by decide +kernel
theorem dL_cast_17 : decode cL_cast 17 = .ok (.iconst 0, 1) := by decide +kernel
theorem dL_cast_18 : decode cL_cast 18 = .ok (.goto 27, 3) := by decide +kernel
theorem dL_cast_21 : decode cL_cast 21 = .ok (.iconst 1, 1) := by decide +kernel
theorem dL_cast_22 : decode cL_cast 22 = .ok (.goto 23, 3) := by decide +kernel
theorem dL_cast_25 : decode cL_cast 25 = .ok (.iload_n 0, 1) := by decide +kernel
theorem dL_cast_26 : decode cL_cast 26 = .ok (.ifCond .ge 7, 3) := by decide +kernel
theorem dL_cast_29 : decode cL_cast 29 = .ok (.iconst 0, 1) := by decide +kernel
theorem dL_cast_30 : decode cL_cast 30 = .ok (.goto 15, 3) := by decide +kernel
theorem dL_cast_33 : decode cL_cast 33 = .ok (.iload_n 0, 1) := by decide +kernel
theorem dL_cast_34 : decode cL_cast 34 = .ok (.bipush 9, 2) := by decide +kernel
theorem dL_cast_36 : decode cL_cast 36 = .ok (.if_icmp .le 8, 3) := by decide +kernel
theorem dL_cast_39 : decode cL_cast 39 = .ok (.bipush 9, 2) := by decide +kernel
theorem dL_cast_41 : decode cL_cast 41 = .ok (.goto 4, 3) := by decide +kernel
theorem dL_cast_44 : decode cL_cast 44 = .ok (.iload_n 0, 1) := by decide +kernel
theorem dL_cast_45 : decode cL_cast 45 = .ok (.ireturn, 1) := by decide +kernel
theorem dL_table_0 : decode cL_table 0 = .ok (.aload_n 0, 1) := by decide +kernel
theorem dL_table_1 : decode cL_table 1 = .ok (.iconst 0, 1) := by decide +kernel
theorem dL_table_2 : decode cL_table 2 = .ok (.invokevirtual 22, 3) := by decide +kernel
theorem dL_table_5 : decode cL_table 5 = .ok (.istore_n 3, 1) := by decide +kernel
theorem dL_table_6 : decode cL_table 6 = .ok (.aload_n 0, 1) := by decide +kernel
theorem dL_table_7 : decode cL_table 7 = .ok (.iconst 2, 1) := by decide +kernel
theorem dL_table_8 : decode cL_table 8 = .ok (.invokevirtual 22, 3) := by decide +kernel
theorem dL_table_11 : decode cL_table 11 = .ok (.istore 4, 2) := by decide +kernel
theorem dL_table_13 : decode cL_table 13 = .ok (.iload_n 3, 1) := by decide +kernel
theorem dL_table_14 : decode cL_table 14 = .ok (.ifCond .lt 55, 3) := by decide +kernel
theorem dL_table_17 : decode cL_table 17 = .ok (.iload_n 3, 1) := by decide +kernel
theorem dL_table_18 : decode cL_table 18 = .ok (.bipush 30, 2) := by decide +kernel
theorem dL_table_20 : decode cL_table 20 = .ok (.if_icmp .ge 49, 3) := by decide +kernel
theorem dL_table_23 : decode cL_table 23 = .ok (.iload 4, 2) := by decide +kernel
theorem dL_table_25 : decode cL_table 25 = .ok (.bipush 24, 2) := by decide +kernel
theorem dL_table_27 : decode cL_table 27 = .ok (.if_icmp .gt 42, 3) := by decide +kernel
theorem dL_table_30 : decode cL_table 30 = .ok (.aload_n 0, 1) := by decide +kernel
theorem dL_table_31 : decode cL_table 31 = .ok (.iconst 5, 1) := by decide +kernel
theorem dL_table_32 : decode cL_table 32 = .ok (.invokevirtual 22, 3) := by decide +kernel
theorem dL_table_35 : decode cL_table 35 = .ok (.aload_n 0, 1) := by decide +kernel
theorem dL_table_36 : decode cL_table 36 = .ok (.iconst 4, 1) := by decide +kernel
theorem dL_table_37 : decode cL_table 37 = .ok (.invokevirtual 22, 3) := by decide +kernel
theorem dL_table_40 : decode cL_table 40 = .ok (.if_icmp .gt 29, 3) := by decide +kernel
theorem dL_table_43 : decode cL_table 43 = .ok (.aload_n 0, 1) := by decide +kernel
theorem dL_table_44 : decode cL_table 44 = .ok (.iconst 1, 1) := by decide +kernel
theorem dL_table_45 : decode cL_table 45 = .ok (.invokevirtual 27, 3) := by decide +kernel
theorem dL_table_48 : decode cL_table 48 = .ok (.aload_n 0, 1) := by decide +kernel
theorem dL_table_49 : decode cL_table 49 = .ok (.iconst 5, 1) := by decide +kernel
theorem dL_table_50 : decode cL_table 50 = .ok (.invokevirtual 22, 3) := by decide +kernel
theorem dL_table_53 : decode cL_table 53 = .ok (.if_icmp .gt 16, 3) := by decide +kernel
theorem dL_table_56 : decode cL_table 56 = .ok (.aload_n 0, 1) := by decide +kernel
theorem dL_table_57 : decode cL_table 57 = .ok (.iconst 0, 1) := by decide +kernel
theorem dL_table_58 : decode cL_table 58 = .ok (.invokevirtual 27, 3) := by decide +kernel
theorem dL_table_61 : decode cL_table 61 = .ok (.iload_n 3, 1) := by decide +kernel
theorem dL_table_62 : decode cL_table 62 = .ok (.if_icmp .gt 7, 3) := by decide +kernel
theorem dL_table_65 : decode cL_table 65 = .ok (.iconst 1, 1) := by decide +kernel
theorem dL_table_66 : decode cL_table 66 = .ok (.goto 4, 3) := by decide +kernel
theorem dL_table_69 : decode cL_table 69 = .ok (.iconst 0, 1) := by decide +kernel
theorem dL_table_70 : decode cL_table 70 = .ok (.istore 5, 2) := by decide +kernel
theorem dL_table_72 : decode cL_table 72 = .ok (.iconst 1, 1) := by decide +kernel
theorem dL_table_73 : decode cL_table 73 = .ok (.istore 6, 2) := by decide +kernel
theorem dL_table_75 : decode cL_table 75 = .ok (.iload 6, 2) := by decide +kernel
theorem dL_table_77 : decode cL_table 77 = .ok (.iload_n 3, 1) := by decide +kernel
theorem dL_table_78 : decode cL_table 78 = .ok (.if_icmp .gt 90, 3) := by decide +kernel
theorem dL_table_81 : decode cL_table 81 = .ok (.iload 5, 2) := by decide +kernel
theorem dL_table_83 : decode cL_table 83 = .ok (.ifCond .eq 85, 3) := by decide +kernel
theorem dL_table_86 : decode cL_table 86 = .ok (.iconst 0, 1) := by decide +kernel
theorem dL_table_87 : decode cL_table 87 = .ok (.istore 7, 2) := by decide +kernel
theorem dL_table_89 : decode cL_table 89 = .ok (.iconst 0, 1) := by decide +kernel
theorem dL_table_90 : decode cL_table 90 = .ok (.istore 8, 2) := by decide +kernel
theorem dL_table_92 : decode cL_table 92 = .ok (.iload 8, 2) := by decide +kernel
theorem dL_table_94 : decode cL_table 94 = .ok (.bipush 8, 2) := by decide +kernel
theorem dL_table_96 : decode cL_table 96 = .ok (.if_icmp .ge 42, 3) := by decide +kernel
theorem dL_table_99 : decode cL_table 99 = .ok (.iload 7, 2) := by decide +kernel
theorem dL_table_101 : decode cL_table 101 = .ok (.aload_n 0, 1) := by decide +kernel
theorem dL_table_102 : decode cL_table 102 = .ok (.iload 6, 2) := by decide +kernel
theorem dL_table_104 : decode cL_table 104 = .ok (.iload 8, 2) := by decide +kernel
theorem dL_table_106 : decode cL_table 106 = .ok (.iconst 0, 1) := by decide +kernel
theorem dL_table_107 : decode cL_table 107 = .ok (.invokevirtual 30, 3) := by decide +kernel
theorem dL_table_110 : decode cL_table 110 = .ok (.aload_n 0, 1) := by decide +kernel
theorem dL_table_111 : decode cL_table 111 = .ok (.iload 6, 2) := by decide +kernel
theorem dL_table_113 : decode cL_table 113 = .ok (.iconst 1, 1) := by decide +kernel
theorem dL_table_114 : decode cL_table 114 = .ok (.isub, 1) := by decide +kernel
theorem dL_table_115 : decode cL_table 115 = .ok (.iload 8, 2) := by decide +kernel
theorem dL_table_117 : decode cL_table 117 = .ok (.iconst 0, 1) := by decide +kernel
theorem dL_table_118 : decode cL_table 118 = .ok (.invokevirtual 30, 3) := by decide +kernel
theorem dL_table_121 : decode cL_table 121 = .ok (.if_icmp .ne 7, 3) := by decide +kernel
theorem dL_table_124 : decode cL_table 124 = .ok (.iconst 0, 1) := by decide +kernel
theorem dL_table_125 : decode cL_table 125 = .ok (.goto 4, 3) := by decide +kernel
theorem dL_table_128 : decode cL_table 128 = .ok (.iconst 1, 1) := by decide +kernel
theorem dL_table_129 : decode cL_table 129 = .ok (.iadd, 1) := by decide +kernel
theorem dL_table_130 : decode cL_table 130 = .ok (.istore 7, 2) := by decide +kernel
theorem dL_table_132 : decode cL_table 132 = .ok (.iinc 8 1, 3) := by decide +kernel
theorem dL_table_135 : decode cL_table 135 = .ok (.goto (-43), 3) := by decide +kernel
theorem dL_table_138 : decode cL_table 138 = .ok (.iload 7, 2) := by decide +kernel
theorem dL_table_140 : decode cL_table 140 = .ok (.iconst 1, 1) := by decide +kernel
theorem dL_table_141 : decode cL_table 141 = .ok (.if_icmp .ne 18, 3) := by decide +kernel
theorem dL_table_144 : decode cL_table 144 = .ok (.aload_n 0, 1) := by decide +kernel
theorem dL_table_145 : decode cL_table 145 = .ok (.iload 6, 2) := by decide +kernel
theorem dL_table_147 : decode cL_table 147 = .ok (.iconst 3, 1) := by decide +kernel
theorem dL_table_148 : decode cL_table 148 = .ok (.invokevirtual 34, 3) := by decide +kernel
theorem dL_table_151 : decode cL_table 151 = .ok (.iconst 1, 1) := by decide +kernel
theorem dL_table_152 : decode cL_table 152 = .ok (.if_icmp .gt 7, 3) := by decide +kernel
theorem dL_table_155 : decode cL_table 155 = .ok (.iconst 1, 1) := by decide +kernel
theorem dL_table_156 : decode cL_table 156 = .ok (.goto 4, 3) := by decide +kernel
theorem dL_table_159 : decode cL_table 159 = .ok (.iconst 0, 1) := by decide +kernel
theorem dL_table_160 : decode cL_table 160 = .ok (.istore 5, 2) := by decide +kernel
theorem dL_table_162 : decode cL_table 162 = .ok (.iinc 6 1, 3) := by decide +kernel
theorem dL_table_165 : decode cL_table 165 = .ok (.goto (-90), 3) := by decide +kernel
theorem dL_table_168 : decode cL_table 168 = .ok (.aload_n 0, 1) := by decide +kernel
theorem dL_table_169 : decode cL_table 169 = .ok (.iload_n 1, 1) := by decide +kernel
theorem dL_table_170 : decode cL_table 170 = .ok (.iload_n 2, 1) := by decide +kernel
theorem dL_table_171 : decode cL_table 171 = .ok (.iconst 0, 1) := by decide +kernel
theorem dL_table_172 : decode cL_table 172 = .ok (.invokevirtual 37, 3) := by decide +kernel
theorem dL_table_175 : decode cL_table 175 = .ok (.istore 6, 2) := by decide +kernel
theorem dL_table_177 : decode cL_table 177 = .ok (.iconst 0, 1) := by decide +kernel
theorem dL_table_178 : decode cL_table 178 = .ok (.istore 7, 2) := by decide +kernel
theorem dL_table_180 : decode cL_table 180 = .ok (.iload 7, 2) := by decide +kernel
theorem dL_table_182 : decode cL_table 182 = .ok (.bipush 8, 2) := by decide +kernel
theorem dL_table_184 : decode cL_table 184 = .ok (.if_icmp .ge 413, 3) := by decide +kernel
theorem dL_table_187 : decode cL_table 187 = .ok (.iload 5, 2) := by decide +kernel
theorem dL_table_189 : decode cL_table 189 = .ok (.ifCond .eq 408, 3) := by decide +kernel
theorem dL_table_192 : decode cL_table 192 = .ok (.iload 4, 2) := by decide +kernel
theorem dL_table_194 : decode cL_table 194 = .ok (.ifCond .le 403, 3) := by decide +kernel
theorem dL_table_197 : decode cL_table 197 = .ok (.iload_n 2, 1) := by decide +kernel
theorem dL_table_198 : decode cL_table 198 = .ok (.iload_n 1, 1) := by decide +kernel
theorem dL_table_199 : decode cL_table 199 = .ok (.if_icmp .lt 7, 3) := by decide +kernel
theorem dL_table_202 : decode cL_table 202 = .ok (.iconst 1, 1) := by decide +kernel
theorem dL_table_203 : decode cL_table 203 = .ok (.goto 4, 3) := by decide +kernel
theorem dL_table_206 : decode cL_table 206 = .ok (.iconst 0, 1) := by decide +kernel
theorem dL_table_207 : decode cL_table 207 = .ok (.istore 8, 2) := by decide +kernel
theorem dL_table_209 : decode cL_table 209 = .ok (.iconst 0, 1) := by decide +kernel
theorem dL_table_210 : decode cL_table 210 = .ok (.istore 9, 2) := by decide +kernel
theorem dL_table_212 : decode cL_table 212 = .ok (.iload_n 1, 1) := by decide +kernel
theorem dL_table_213 : decode cL_table 213 = .ok (.istore 10, 2) := by decide +kernel
theorem dL_table_215 : decode cL_table 215 = .ok (.iload 10, 2) := by decide +kernel
theorem dL_table_217 : decode cL_table 217 = .ok (.iload_n 2, 1) := by decide +kernel
theorem dL_table_218 : decode cL_table 218 = .ok (.if_icmp .gt 252, 3) := by decide +kernel
theorem dL_table_221 : decode cL_table 221 = .ok (.iload 5, 2) := by decide +kernel
theorem dL_table_223 : decode cL_table 223 = .ok (.ifCond .eq 247, 3) := by decide +kernel
theorem dL_table_226 : decode cL_table 226 = .ok (.aload_n 0, 1) := by decide +kernel
theorem dL_table_227 : decode cL_table 227 = .ok (.iload 10, 2) := by decide +kernel
theorem dL_table_229 : decode cL_table 229 = .ok (.iload 7, 2) := by decide +kernel
theorem dL_table_231 : decode cL_table 231 = .ok (.invokevirtual 40, 3) := by decide +kernel
theorem dL_table_234 : decode cL_table 234 = .ok (.istore 11, 2) := by decide +kernel
theorem dL_table_236 : decode cL_table 236 = .ok (.aload_n 0, 1) := by decide +kernel
theorem dL_table_237 : decode cL_table 237 = .ok (.aload_n 0, 1) := by decide +kernel
theorem dL_table_238 : decode cL_table 238 = .ok (.iload 10, 2) := by decide +kernel
theorem dL_table_240 : decode cL_table 240 = .ok (.invokevirtual 43, 3) := by decide +kernel
theorem dL_table_243 : decode cL_table 243 = .ok (.iload 7, 2) := by decide +kernel
theorem dL_table_245 : decode cL_table 245 = .ok (.iconst 0, 1) := by decide +kernel
theorem dL_table_246 : decode cL_table 246 = .ok (.invokevirtual 30, 3) := by decide +kernel
theorem dL_table_249 : decode cL_table 249 = .ok (.istore 12, 2) := by decide +kernel
theorem dL_table_251 : decode cL_table 251 = .ok (.iload 8, 2) := by decide +kernel
theorem dL_table_253 : decode cL_table 253 = .ok (.ifCond .eq 12, 3) := by decide +kernel
theorem dL_table_256 : decode cL_table 256 = .ok (.iload 12, 2) := by decide +kernel
theorem dL_table_258 : decode cL_table 258 = .ok (.ifCond .lt 7, 3) := by decide +kernel
theorem dL_table_261 : decode cL_table 261 = .ok (.iconst 1, 1) := by decide +kernel
theorem dL_table_262 : decode cL_table 262 = .ok (.goto 4, 3) := by decide +kernel
theorem dL_table_265 : decode cL_table 265 = .ok (.iconst 0, 1) := by decide +kernel
theorem dL_table_266 : decode cL_table 266 = .ok (.istore 8, 2) := by decide +kernel
theorem dL_table_268 : decode cL_table 268 = .ok (.iload 9, 2) := by decide +kernel
theorem dL_table_270 : decode cL_table 270 = .ok (.iload 11, 2) := by decide +kernel
theorem dL_table_272 : decode cL_table 272 = .ok (.iadd, 1) := by decide +kernel
theorem dL_table_273 : decode cL_table 273 = .ok (.istore 9, 2) := by decide +kernel
theorem dL_table_275 : decode cL_table 275 = .ok (.iload 12, 2) := by decide +kernel
theorem dL_table_277 : decode cL_table 277 = .ok (.ifCond .ge 19, 3) := by decide +kernel
theorem dL_table_280 : decode cL_table 280 = .ok (.iload 11, 2) := by decide +kernel
theorem dL_table_282 : decode cL_table 282 = .ok (.sipush (-10005), 3) := by decide +kernel
theorem dL_table_285 : decode cL_table 285 = .ok (.if_icmp .ne 7, 3) := by decide +kernel
theorem dL_table_288 : decode cL_table 288 = .ok (.iconst 1, 1) := by decide +kernel
theorem dL_table_289 : decode cL_table 289 = .ok (.goto 70, 3) := by decide +kernel
theorem dL_table_292 : decode cL_table 292 = .ok (.iconst 0, 1) := by decide +kernel
theorem dL_table_293 : decode cL_table 293 = .ok (.goto 66, 3) := by decide +kernel
theorem dL_table_296 : decode cL_table 296 = .ok (.iload 11, 2) := by decide +kernel
theorem dL_table_298 : decode cL_table 298 = .ok (.iload 12, 2) := by decide +kernel
theorem dL_table_300 : decode cL_table 300 = .ok (.invokestatic 15, 3) := by decide +kernel
theorem dL_table_303 : decode cL_table 303 = .ok (.if_icmp .lt 55, 3) := by decide +kernel
theorem dL_table_306 : decode cL_table 306 = .ok (.iload 11, 2) := by decide +kernel
theorem dL_table_308 : decode cL_table 308 = .ok (.iload 12, 2) := by decide +kernel
theorem dL_table_310 : decode cL_table 310 = .ok (.invokestatic 19, 3) := by decide +kernel
theorem dL_table_313 : decode cL_table 313 = .ok (.if_icmp .gt 45, 3) := by decide +kernel
theorem dL_table_316 : decode cL_table 316 = .ok (.aload_n 0, 1) := by decide +kernel
theorem dL_table_317 : decode cL_table 317 = .ok (.iload 10, 2) := by decide +kernel
theorem dL_table_319 : decode cL_table 319 = .ok (.aload_n 0, 1) := by decide +kernel
theorem dL_table_320 : decode cL_table 320 = .ok (.iload 10, 2) := by decide +kernel
theorem dL_table_322 : decode cL_table 322 = .ok (.invokevirtual 43, 3) := by decide +kernel
theorem dL_table_325 : decode cL_table 325 = .ok (.iload 7, 2) := by decide +kernel
theorem dL_table_327 : decode cL_table 327 = .ok (.iconst 0, 1) := by decide +kernel
theorem dL_table_328 : decode cL_table 328 = .ok (.invokevirtual 46, 3) := by decide +kernel
theorem dL_table_331 : decode cL_table 331 = .ok (.iload 11, 2) := by decide +kernel
theorem dL_table_333 : decode cL_table 333 = .ok (.if_icmp .ne 25, 3) := by decide +kernel
theorem dL_table_336 : decode cL_table 336 = .ok (.aload_n 0, 1) := by decide +kernel
theorem dL_table_337 : decode cL_table 337 = .ok (.iload 10, 2) := by decide +kernel
theorem dL_table_339 : decode cL_table 339 = .ok (.aload_n 0, 1) := by decide +kernel
theorem dL_table_340 : decode cL_table 340 = .ok (.iload 10, 2) := by decide +kernel
theorem dL_table_342 : decode cL_table 342 = .ok (.invokevirtual 43, 3) := by decide +kernel
theorem dL_table_345 : decode cL_table 345 = .ok (.iload 7, 2) := by decide +kernel
theorem dL_table_347 : decode cL_table 347 = .ok (.iconst 1, 1) := by decide +kernel
theorem dL_table_348 : decode cL_table 348 = .ok (.invokevirtual 46, 3) := by decide +kernel
theorem dL_table_351 : decode cL_table 351 = .ok (.ifCond .ne 7, 3) := by decide +kernel
theorem dL_table_354 : decode cL_table 354 = .ok (.iconst 1, 1) := by decide +kernel
theorem dL_table_355 : decode cL_table 355 = .ok (.goto 4, 3) := by decide +kernel
theorem dL_table_358 : decode cL_table 358 = .ok (.iconst 0, 1) := by decide +kernel
theorem dL_table_359 : decode cL_table 359 = .ok (.istore 5, 2) := by decide +kernel
theorem dL_table_361 : decode cL_table 361 = .ok (.aload_n 0, 1) := by decide +kernel
theorem dL_table_362 : decode cL_table 362 = .ok (.iload 10, 2) := by decide +kernel
theorem dL_table_364 : decode cL_table 364 = .ok (.iload_n 3, 1) := by decide +kernel
theorem dL_table_365 : decode cL_table 365 = .ok (.iload 7, 2) := by decide +kernel
theorem dL_table_367 : decode cL_table 367 = .ok (.iconst 1, 1) := by decide +kernel
theorem dL_table_368 : decode cL_table 368 = .ok (.invokevirtual 46, 3) := by decide +kernel
theorem dL_table_371 : decode cL_table 371 = .ok (.istore 13, 2) := by decide +kernel
theorem dL_table_373 : decode cL_table 373 = .ok (.iload 5, 2) := by decide +kernel
theorem dL_table_375 : decode cL_table 375 = .ok (.ifCond .eq 86, 3) := by decide +kernel
theorem dL_table_378 : decode cL_table 378 = .ok (.iload 13, 2) := by decide +kernel
theorem dL_table_380 : decode cL_table 380 = .ok (.iconst 1, 1) := by decide +kernel
theorem dL_table_381 : decode cL_table 381 = .ok (.if_icmp .ne 23, 3) := by decide +kernel
theorem dL_table_384 : decode cL_table 384 = .ok (.aload_n 0, 1) := by decide +kernel
theorem dL_table_385 : decode cL_table 385 = .ok (.iload 10, 2) := by decide +kernel
theorem dL_table_387 : decode cL_table 387 = .ok (.iload_n 3, 1) := by decide +kernel
theorem dL_table_388 : decode cL_table 388 = .ok (.iload 7, 2) := by decide +kernel
theorem dL_table_390 : decode cL_table 390 = .ok (.iconst 0, 1) := by decide +kernel
theorem dL_table_391 : decode cL_table 391 = .ok (.invokevirtual 46, 3) := by decide +kernel
theorem dL_table_394 : decode cL_table 394 = .ok (.iload 12, 2) := by decide +kernel
theorem dL_table_396 : decode cL_table 396 = .ok (.invokestatic 50, 3) := by decide +kernel
theorem dL_table_399 : decode cL_table 399 = .ok (.iload 11, 2) := by decide +kernel
theorem dL_table_401 : decode cL_table 401 = .ok (.if_icmp .ne 60, 3) := by decide +kernel
theorem dL_table_404 : decode cL_table 404 = .ok (.iload 13, 2) := by decide +kernel
theorem dL_table_406 : decode cL_table 406 = .ok (.iconst 2, 1) := by decide +kernel
theorem dL_table_407 : decode cL_table 407 = .ok (.if_icmp .ne 23, 3) := by decide +kernel
theorem dL_table_410 : decode cL_table 410 = .ok (.aload_n 0, 1) := by decide +kernel
theorem dL_table_411 : decode cL_table 411 = .ok (.iload 10, 2) := by decide +kernel
theorem dL_table_413 : decode cL_table 413 = .ok (.iload_n 3, 1) := by decide +kernel
theorem dL_table_414 : decode cL_table 414 = .ok (.iload 7, 2) := by decide +kernel
theorem dL_table_416 : decode cL_table 416 = .ok (.iconst 0, 1) := by decide +kernel
theorem dL_table_417 : decode cL_table 417 = .ok (.invokevirtual 46, 3) := by decide +kernel
theorem dL_table_420 : decode cL_table 420 = .ok (.iload 12, 2) := by decide +kernel
theorem dL_table_422 : decode cL_table 422 = .ok (.invokestatic 50, 3) := by decide +kernel
theorem dL_table_425 : decode cL_table 425 = .ok (.iload 11, 2) := by decide +kernel
theorem dL_table_427 : decode cL_table 427 = .ok (.if_icmp .eq 34, 3) := by decide +kernel
theorem dL_table_430 : decode cL_table 430 = .ok (.iload 13, 2) := by decide +kernel
theorem dL_table_432 : decode cL_table 432 = .ok (.iconst 3, 1) := by decide +kernel
theorem dL_table_433 : decode cL_table 433 = .ok (.if_icmp .ne 24, 3) := by decide +kernel
theorem dL_table_436 : decode cL_table 436 = .ok (.aload_n 0, 1) := by decide +kernel
theorem dL_table_437 : decode cL_table 437 = .ok (.iload 10, 2) := by decide +kernel
theorem dL_table_439 : decode cL_table 439 = .ok (.iload_n 3, 1) := by decide +kernel
theorem dL_table_440 : decode cL_table 440 = .ok (.iload 7, 2) := by decide +kernel
theorem dL_table_442 : decode cL_table 442 = .ok (.iconst 0, 1) := by decide +kernel
theorem dL_table_443 : decode cL_table 443 = .ok (.invokevirtual 46, 3) := by decide +kernel
theorem dL_table_446 : decode cL_table 446 = .ok (.aload_n 0, 1) := by decide +kernel
theorem dL_table_447 : decode cL_table 447 = .ok (.iload_n 3, 1) := by decide +kernel
theorem dL_table_448 : decode cL_table 448 = .ok (.iload 7, 2) := by decide +kernel
theorem dL_table_450 : decode cL_table 450 = .ok (.iconst 1, 1) := by decide +kernel
theorem dL_table_451 : decode cL_table 451 = .ok (.invokevirtual 30, 3) := by decide +kernel
theorem dL_table_454 : decode cL_table 454 = .ok (.if_icmp .ne 7, 3) := by decide +kernel
theorem dL_table_457 : decode cL_table 457 = .ok (.iconst 1, 1) := by decide +kernel
theorem dL_table_458 : decode cL_table 458 = .ok (.goto 4, 3) := by decide +kernel
theorem dL_table_461 : decode cL_table 461 = .ok (.iconst 0, 1) := by decide +kernel
theorem dL_table_462 : decode cL_table 462 = .ok (.istore 5, 2) := by decide +kernel
theorem dL_table_464 : decode cL_table 464 = .ok (.iinc 10 1, 3) := by decide +kernel
theorem dL_table_467 : decode cL_table 467 = .ok (.goto (-252), 3) := by decide +kernel
theorem dL_table_470 : decode cL_table 470 = .ok (.iload 5, 2) := by decide +kernel
theorem dL_table_472 : decode cL_table 472 = .ok (.ifCond .eq 116, 3) := by decide +kernel
theorem dL_table_475 : decode cL_table 475 = .ok (.iload 8, 2) := by decide +kernel
theorem dL_table_477 : decode cL_table 477 = .ok (.iload 6, 2) := by decide +kernel
theorem dL_table_479 : decode cL_table 479 = .ok (.iload 7, 2) := by decide +kernel
theorem dL_table_481 : decode cL_table 481 = .ok (.ishr, 1) := by decide +kernel
theorem dL_table_482 : decode cL_table 482 = .ok (.iconst 1, 1) := by decide +kernel
theorem dL_table_483 : decode cL_table 483 = .ok (.iand, 1) := by decide +kernel
theorem dL_table_484 : decode cL_table 484 = .ok (.iconst 1, 1) := by decide +kernel
theorem dL_table_485 : decode cL_table 485 = .ok (.if_icmp .ne 7, 3) := by decide +kernel
theorem dL_table_488 : decode cL_table 488 = .ok (.iconst 1, 1) := by decide +kernel
theorem dL_table_489 : decode cL_table 489 = .ok (.goto 4, 3) := by decide +kernel
theorem dL_table_492 : decode cL_table 492 = .ok (.iconst 0, 1) := by decide +kernel
theorem dL_table_493 : decode cL_table 493 = .ok (.if_icmp .ne 95, 3) := by decide +kernel
theorem dL_table_496 : decode cL_table 496 = .ok (.iload 8, 2) := by decide +kernel
theorem dL_table_498 : decode cL_table 498 = .ok (.ifCond .eq 71, 3) := by decide +kernel
theorem dL_table_501 : decode cL_table 501 = .ok (.aload_n 0, 1) := by decide +kernel
theorem dL_table_502 : decode cL_table 502 = .ok (.iload_n 1, 1) := by decide +kernel
theorem dL_table_503 : decode cL_table 503 = .ok (.iload_n 2, 1) := by decide +kernel
theorem dL_table_504 : decode cL_table 504 = .ok (.iload 7, 2) := by decide +kernel
theorem dL_table_506 : decode cL_table 506 = .ok (.iconst 1, 1) := by decide +kernel
theorem dL_table_507 : decode cL_table 507 = .ok (.invokevirtual 53, 3) := by decide +kernel
theorem dL_table_510 : decode cL_table 510 = .ok (.iload 9, 2) := by decide +kernel
theorem dL_table_512 : decode cL_table 512 = .ok (.if_icmp .ne 76, 3) := by decide +kernel
theorem dL_table_515 : decode cL_table 515 = .ok (.aload_n 0, 1) := by decide +kernel
theorem dL_table_516 : decode cL_table 516 = .ok (.iload_n 1, 1) := by decide +kernel
theorem dL_table_517 : decode cL_table 517 = .ok (.iload_n 2, 1) := by decide +kernel
theorem dL_table_518 : decode cL_table 518 = .ok (.iload 7, 2) := by decide +kernel
theorem dL_table_520 : decode cL_table 520 = .ok (.iconst 2, 1) := by decide +kernel
theorem dL_table_521 : decode cL_table 521 = .ok (.invokevirtual 53, 3) := by decide +kernel
theorem dL_table_524 : decode cL_table 524 = .ok (.aload_n 0, 1) := by decide +kernel
theorem dL_table_525 : decode cL_table 525 = .ok (.iload_n 1, 1) := by decide +kernel
theorem dL_table_526 : decode cL_table 526 = .ok (.iload_n 2, 1) := by decide +kernel
theorem dL_table_527 : decode cL_table 527 = .ok (.iload 7, 2) := by decide +kernel
theorem dL_table_529 : decode cL_table 529 = .ok (.iconst 3, 1) := by decide +kernel
theorem dL_table_530 : decode cL_table 530 = .ok (.invokevirtual 53, 3) := by decide +kernel
theorem dL_table_533 : decode cL_table 533 = .ok (.if_icmp .gt 55, 3) := by decide +kernel
theorem dL_table_536 : decode cL_table 536 = .ok (.aload_n 0, 1) := by decide +kernel
theorem dL_table_537 : decode cL_table 537 = .ok (.iload_n 1, 1) := by decide +kernel
theorem dL_table_538 : decode cL_table 538 = .ok (.iload_n 2, 1) := by decide +kernel
theorem dL_table_539 : decode cL_table 539 = .ok (.iload 7, 2) := by decide +kernel
theorem dL_table_541 : decode cL_table 541 = .ok (.iconst 4, 1) := by decide +kernel
theorem dL_table_542 : decode cL_table 542 = .ok (.invokevirtual 53, 3) := by decide +kernel
theorem dL_table_545 : decode cL_table 545 = .ok (.iconst 1, 1) := by decide +kernel
theorem dL_table_546 : decode cL_table 546 = .ok (.if_icmp .lt 42, 3) := by decide +kernel
theorem dL_table_549 : decode cL_table 549 = .ok (.aload_n 0, 1) := by decide +kernel
theorem dL_table_550 : decode cL_table 550 = .ok (.iload_n 1, 1) := by decide +kernel
theorem dL_table_551 : decode cL_table 551 = .ok (.iload_n 2, 1) := by decide +kernel
theorem dL_table_552 : decode cL_table 552 = .ok (.iload 7, 2) := by decide +kernel
theorem dL_table_554 : decode cL_table 554 = .ok (.iconst 4, 1) := by decide +kernel
theorem dL_table_555 : decode cL_table 555 = .ok (.invokevirtual 53, 3) := by decide +kernel
theorem dL_table_558 : decode cL_table 558 = .ok (.iload_n 2, 1) := by decide +kernel
theorem dL_table_559 : decode cL_table 559 = .ok (.iload_n 1, 1) := by decide +kernel
theorem dL_table_560 : decode cL_table 560 = .ok (.isub, 1) := by decide +kernel
theorem dL_table_561 : decode cL_table 561 = .ok (.iconst 1, 1) := by decide +kernel
theorem dL_table_562 : decode cL_table 562 = .ok (.iadd, 1) := by decide +kernel
theorem dL_table_563 : decode cL_table 563 = .ok (.if_icmp .gt 25, 3) := by decide +kernel
theorem dL_table_566 : decode cL_table 566 = .ok (.goto 18, 3) := by decide +kernel
theorem dL_table_569 : decode cL_table 569 = .ok (.aload_n 0, 1) := by decide +kernel
theorem dL_table_570 : decode cL_table 570 = .ok (.iload_n 1, 1) := by decide +kernel
theorem dL_table_571 : decode cL_table 571 = .ok (.iload_n 2, 1) := by decide +kernel
theorem dL_table_572 : decode cL_table 572 = .ok (.iload 7, 2) := by decide +kernel
theorem dL_table_574 : decode cL_table 574 = .ok (.iconst 0, 1) := by decide +kernel
theorem dL_table_575 : decode cL_table 575 = .ok (.invokevirtual 53, 3) := by decide +kernel
theorem dL_table_578 : decode cL_table 578 = .ok (.sipush (-10005), 3) := by decide +kernel
theorem dL_table_581 : decode cL_table 581 = .ok (.if_icmp .ne 7, 3) := by decide +kernel
theorem dL_table_584 : decode cL_table 584 = .ok (.iconst 1, 1) := by decide +kernel
theorem dL_table_585 : decode cL_table 585 = .ok (.goto 4, 3) := by decide +kernel
theorem dL_table_588 : decode cL_table 588 = .ok (.iconst 0, 1) := by decide +kernel
theorem dL_table_589 : decode cL_table 589 = .ok (.istore 5, 2) := by decide +kernel
theorem dL_table_591 : decode cL_table 591 = .ok (.iinc 7 1, 3) := by decide +kernel
theorem dL_table_594 : decode cL_table 594 = .ok (.goto (-414), 3) := by decide +kernel
theorem dL_table_597 : decode cL_table 597 = .ok (.iload 5, 2) := by decide +kernel
theorem dL_table_599 : decode cL_table 599 = .ok (.ireturn, 1) := by decide +kernel
end
section
theorem dL_act_0 : decode cL_act 0 = .ok (.aload_n 1, 1) := by decide +kernel
theorem dL_act_1 : decode cL_act 1 = .ok (.iload_n 2, 1) := by decide +kernel
theorem dL_act_2 : decode cL_act 2 = .ok (.iconst 1, 1) := by decide +kernel
theorem dL_act_3 : decode cL_act 3 = .ok (.iadd, 1) := by decide +kernel
theorem dL_act_4 : decode cL_act 4 = .ok (.invokestatic 56, 3) := by decide +kernel
theorem dL_act_7 : decode cL_act 7 = .ok (.istore_n 3, 1) := by decide +kernel
theorem dL_act_8 : decode cL_act 8 = .ok (.aload_n 1, 1) := by decide +kernel
theorem dL_act_9 : decode cL_act 9 = .ok (.iload_n 2, 1) := by decide +kernel
theorem dL_act_10 : decode cL_act 10 = .ok (.iconst 2, 1) := by decide +kernel
theorem dL_act_11 : decode cL_act 11 = .ok (.iadd, 1) := by decide +kernel
theorem dL_act_12 : decode cL_act 12 = .ok (.invokestatic 56, 3) := by decide +kernel
theorem dL_act_15 : decode cL_act 15 = .ok (.istore 4, 2) := by decide +kernel
theorem dL_act_17 : decode cL_act 17 = .ok (.aload_n 0, 1) := by decide +kernel
theorem dL_act_18 : decode cL_act 18 = .ok (.iconst 2, 1) := by decide +kernel
theorem dL_act_19 : decode cL_act 19 = .ok (.invokevirtual 22, 3) := by decide +kernel
theorem dL_act_22 : decode cL_act 22 = .ok (.istore 5, 2) := by decide +kernel
theorem dL_act_24 : decode cL_act 24 = .ok (.iload_n 3, 1) := by decide +kernel
theorem dL_act_25 : decode cL_act 25 = .ok (.iload_n 3, 1) := by decide +kernel
theorem dL_act_26 : decode cL_act 26 = .ok (.bipush 20, 2) := by decide +kernel
theorem dL_act_28 : decode cL_act 28 = .ok (.ishr, 1) := by decide +kernel
theorem dL_act_29 : decode cL_act 29 = .ok (.iconst 3, 1) := by decide +kernel
theorem dL_act_30 : decode cL_act 30 = .ok (.invokestatic 9, 3) := by decide +kernel
theorem dL_act_33 : decode cL_act 33 = .ok (.ifCond .le 7, 3) := by decide +kernel
theorem dL_act_36 : decode cL_act 36 = .ok (.iconst 3, 1) := by decide +kernel
theorem dL_act_37 : decode cL_act 37 = .ok (.goto 5, 3) := by decide +kernel
theorem dL_act_40 : decode cL_act 40 = .ok (.bipush 8, 2) := by decide +kernel
theorem dL_act_42 : decode cL_act 42 = .ok (.invokestatic 9, 3) := by decide +kernel
theorem dL_act_45 : decode cL_act 45 = .ok (.istore 6, 2) := by decide +kernel
theorem dL_act_47 : decode cL_act 47 = .ok (.iload 4, 2) := by decide +kernel
theorem dL_act_49 : decode cL_act 49 = .ok (.iconst 3, 1) := by decide +kernel
theorem dL_act_50 : decode cL_act 50 = .ok (.invokestatic 9, 3) := by decide +kernel
theorem dL_act_53 : decode cL_act 53 = .ok (.istore 7, 2) := by decide +kernel
theorem dL_act_55 : decode cL_act 55 = .ok (.iload 5, 2) := by decide +kernel
theorem dL_act_57 : decode cL_act 57 = .ok (.ifCond .ne 7, 3) := by decide +kernel
theorem dL_act_60 : decode cL_act 60 = .ok (.iconst 0, 1) := by decide +kernel
theorem dL_act_61 : decode cL_act 61 = .ok (.goto 11, 3) := by decide +kernel
theorem dL_act_64 : decode cL_act 64 = .ok (.iload_n 3, 1) := by decide +kernel
theorem dL_act_65 : decode cL_act 65 = .ok (.iconst 3, 1) := by decide +kernel
theorem dL_act_66 : decode cL_act 66 = .ok (.ishr, 1) := by decide +kernel
theorem dL_act_67 : decode cL_act 67 = .ok (.iload 5, 2) := by decide +kernel
theorem dL_act_69 : decode cL_act 69 = .ok (.invokestatic 9, 3) := by decide +kernel
theorem dL_act_72 : decode cL_act 72 = .ok (.istore 8, 2) := by decide +kernel
theorem dL_act_74 : decode cL_act 74 = .ok (.aload_n 1, 1) := by decide +kernel
theorem dL_act_75 : decode cL_act 75 = .ok (.iload_n 2, 1) := by decide +kernel
theorem dL_act_76 : decode cL_act 76 = .ok (.invokestatic 56, 3) := by decide +kernel
theorem dL_act_79 : decode cL_act 79 = .ok (.bipush 20, 2) := by decide +kernel
theorem dL_act_81 : decode cL_act 81 = .ok (.invokestatic 9, 3) := by decide +kernel
theorem dL_act_84 : decode cL_act 84 = .ok (.tableswitch 223 0 18 #[92, 92, 92, 92, 110, 117, 117, 126, 126, 126, 126, 131, 131, 131, 131, 131, 185, 192, 192], 92) := by decide +kernel
theorem dL_act_176 : decode cL_act 176 = .ok (.aload_n 0, 1) := by decide +kernel
theorem dL_act_177 : decode cL_act 177 = .ok (.iload 6, 2) := by decide +kernel
theorem dL_act_179 : decode cL_act 179 = .ok (.iload 7, 2) := by decide +kernel
theorem dL_act_181 : decode cL_act 181 = .ok (.iload 4, 2) := by decide +kernel
theorem dL_act_183 : decode cL_act 183 = .ok (.iconst 2, 1) := by decide +kernel
theorem dL_act_184 : decode cL_act 184 = .ok (.ishr, 1) := by decide +kernel
theorem dL_act_185 : decode cL_act 185 = .ok (.iload 7, 2) := by decide +kernel
theorem dL_act_187 : decode cL_act 187 = .ok (.invokestatic 60, 3) := by decide +kernel
theorem dL_act_190 : decode cL_act 190 = .ok (.invokevirtual 63, 3) := by decide +kernel
theorem dL_act_193 : decode cL_act 193 = .ok (.ireturn, 1) := by decide +kernel
theorem dL_act_194 : decode cL_act 194 = .ok (.aload_n 0, 1) := by decide +kernel
theorem dL_act_195 : decode cL_act 195 = .ok (.iload 6, 2) := by decide +kernel
theorem dL_act_197 : decode cL_act 197 = .ok (.invokevirtual 66, 3) := by decide +kernel
theorem dL_act_200 : decode cL_act 200 = .ok (.ireturn, 1) := by decide +kernel
theorem dL_act_201 : decode cL_act 201 = .ok (.aload_n 0, 1) := by decide +kernel
theorem dL_act_202 : decode cL_act 202 = .ok (.iload 6, 2) := by decide +kernel
theorem dL_act_204 : decode cL_act 204 = .ok (.iload 7, 2) := by decide +kernel
theorem dL_act_206 : decode cL_act 206 = .ok (.invokevirtual 69, 3) := by decide +kernel
theorem dL_act_209 : decode cL_act 209 = .ok (.ireturn, 1) := by decide +kernel
theorem dL_act_210 : decode cL_act 210 = .ok (.aload_n 0, 1) := by decide +kernel
theorem dL_act_211 : decode cL_act 211 = .ok (.invokevirtual 72, 3) := by decide +kernel
theorem dL_act_214 : decode cL_act 214 = .ok (.ireturn, 1) := by decide +kernel
theorem dL_act_215 : decode cL_act 215 = .ok (.aload_n 0, 1) := by decide +kernel
theorem dL_act_216 : decode cL_act 216 = .ok (.iload 8, 2) := by decide +kernel
theorem dL_act_218 : decode cL_act 218 = .ok (.iload 6, 2) := by decide +kernel
theorem dL_act_220 : decode cL_act 220 = .ok (.iload 4, 2) := by decide +kernel
theorem dL_act_222 : decode cL_act 222 = .ok (.iconst 2, 1) := by decide +kernel
theorem dL_act_223 : decode cL_act 223 = .ok (.ishr, 1) := by decide +kernel
theorem dL_act_224 : decode cL_act 224 = .ok (.iload 5, 2) := by decide +kernel
theorem dL_act_226 : decode cL_act 226 = .ok (.ifCond .eq 19, 3) := by decide +kernel
theorem dL_act_229 : decode cL_act 229 = .ok (.aload_n 0, 1) := by decide +kernel
theorem dL_act_230 : decode cL_act 230 = .ok (.aload_n 0, 1) := by decide +kernel
theorem dL_act_231 : decode cL_act 231 = .ok (.iload 8, 2) := by decide +kernel
theorem dL_act_233 : decode cL_act 233 = .ok (.invokevirtual 43, 3) := by decide +kernel
theorem dL_act_236 : decode cL_act 236 = .ok (.iload 6, 2) := by decide +kernel
theorem dL_act_238 : decode cL_act 238 = .ok (.iconst 0, 1) := by decide +kernel
theorem dL_act_239 : decode cL_act 239 = .ok (.invokevirtual 30, 3) := by decide +kernel
theorem dL_act_242 : decode cL_act 242 = .ok (.ifCond .ge 7, 3) := by decide +kernel
theorem dL_act_245 : decode cL_act 245 = .ok (.iconst 2, 1) := by decide +kernel
theorem dL_act_246 : decode cL_act 246 = .ok (.goto 16, 3) := by decide +kernel
theorem dL_act_249 : decode cL_act 249 = .ok (.aload_n 0, 1) := by decide +kernel
theorem dL_act_250 : decode cL_act 250 = .ok (.aload_n 0, 1) := by decide +kernel
theorem dL_act_251 : decode cL_act 251 = .ok (.iload 8, 2) := by decide +kernel
theorem dL_act_253 : decode cL_act 253 = .ok (.invokevirtual 43, 3) := by decide +kernel
theorem dL_act_256 : decode cL_act 256 = .ok (.iload 6, 2) := by decide +kernel
theorem dL_act_258 : decode cL_act 258 = .ok (.iconst 0, 1) := by decide +kernel
theorem dL_act_259 : decode cL_act 259 = .ok (.invokevirtual 30, 3) := by decide +kernel
theorem dL_act_262 : decode cL_act 262 = .ok (.invokestatic 60, 3) := by decide +kernel
theorem dL_act_265 : decode cL_act 265 = .ok (.invokevirtual 76, 3) := by decide +kernel
theorem dL_act_268 : decode cL_act 268 = .ok (.ireturn, 1) := by decide +kernel
theorem dL_act_269 : decode cL_act 269 = .ok (.aload_n 0, 1) := by decide +kernel
theorem dL_act_270 : decode cL_act 270 = .ok (.iload 8, 2) := by decide +kernel
theorem dL_act_272 : decode cL_act 272 = .ok (.invokevirtual 79, 3) := by decide +kernel
theorem dL_act_275 : decode cL_act 275 = .ok (.ireturn, 1) := by decide +kernel
theorem dL_act_276 : decode cL_act 276 = .ok (.iload 5, 2) := by decide +kernel
theorem dL_act_278 : decode cL_act 278 = .ok (.ifCond .ne 9, 3) := by decide +kernel
theorem dL_act_281 : decode cL_act 281 = .ok (.sipush (-10005), 3) := by decide +kernel
theorem dL_act_284 : decode cL_act 284 = .ok (.goto 22, 3) := by decide +kernel
theorem dL_act_287 : decode cL_act 287 = .ok (.aload_n 0, 1) := by decide +kernel
theorem dL_act_288 : decode cL_act 288 = .ok (.iload 8, 2) := by decide +kernel
theorem dL_act_290 : decode cL_act 290 = .ok (.iload 8, 2) := by decide +kernel
theorem dL_act_292 : decode cL_act 292 = .ok (.iload 4, 2) := by decide +kernel
theorem dL_act_294 : decode cL_act 294 = .ok (.iload 5, 2) := by decide +kernel
theorem dL_act_296 : decode cL_act 296 = .ok (.iload 8, 2) := by decide +kernel
theorem dL_act_298 : decode cL_act 298 = .ok (.isub, 1) := by decide +kernel
theorem dL_act_299 : decode cL_act 299 = .ok (.invokestatic 9, 3) := by decide +kernel
theorem dL_act_302 : decode cL_act 302 = .ok (.iadd, 1) := by decide +kernel
theorem dL_act_303 : decode cL_act 303 = .ok (.invokevirtual 82, 3) := by decide +kernel
theorem dL_act_306 : decode cL_act 306 = .ok (.ireturn, 1) := by decide +kernel
theorem dL_act_307 : decode cL_act 307 = .ok (.aload_n 0, 1) := by decide +kernel
theorem dL_act_308 : decode cL_act 308 = .ok (.invokevirtual 85, 3) := by decide +kernel
theorem dL_act_311 : decode cL_act 311 = .ok (.ireturn, 1) := by decide +kernel
theorem dL_law_0 : decode cL_law 0 = .ok (.new 23, 3) := by decide +kernel
theorem dL_law_3 : decode cL_law 3 = .ok (.dup, 1) := by decide +kernel
theorem dL_law_4 : decode cL_law 4 = .ok (.invokespecial 88, 3) := by decide +kernel
theorem dL_law_7 : decode cL_law 7 = .ok (.astore_n 1, 1) := by decide +kernel
theorem dL_law_8 : decode cL_law 8 = .ok (.iconst 1, 1) := by decide +kernel
theorem dL_law_9 : decode cL_law 9 = .ok (.istore_n 2, 1) := by decide +kernel
theorem dL_law_10 : decode cL_law 10 = .ok (.aload_n 0, 1) := by decide +kernel
theorem dL_law_11 : decode cL_law 11 = .ok (.arraylength, 1) := by decide +kernel
theorem dL_law_12 : decode cL_law 12 = .ok (.iconst 3, 1) := by decide +kernel
theorem dL_law_13 : decode cL_law 13 = .ok (.idiv, 1) := by decide +kernel
theorem dL_law_14 : decode cL_law 14 = .ok (.bipush 50, 2) := by decide +kernel
theorem dL_law_16 : decode cL_law 16 = .ok (.if_icmp .le 8, 3) := by decide +kernel
theorem dL_law_19 : decode cL_law 19 = .ok (.bipush 50, 2) := by decide +kernel
theorem dL_law_21 : decode cL_law 21 = .ok (.goto 7, 3) := by decide +kernel
theorem dL_law_24 : decode cL_law 24 = .ok (.aload_n 0, 1) := by decide +kernel
theorem dL_law_25 : decode cL_law 25 = .ok (.arraylength, 1) := by decide +kernel
theorem dL_law_26 : decode cL_law 26 = .ok (.iconst 3, 1) := by decide +kernel
theorem dL_law_27 : decode cL_law 27 = .ok (.idiv, 1) := by decide +kernel
theorem dL_law_28 : decode cL_law 28 = .ok (.istore_n 3, 1) := by decide +kernel
theorem dL_law_29 : decode cL_law 29 = .ok (.iconst 0, 1) := by decide +kernel
theorem dL_law_30 : decode cL_law 30 = .ok (.istore 4, 2) := by decide +kernel
theorem dL_law_32 : decode cL_law 32 = .ok (.iload 4, 2) := by decide +kernel
theorem dL_law_34 : decode cL_law 34 = .ok (.iload_n 3, 1) := by decide +kernel
theorem dL_law_35 : decode cL_law 35 = .ok (.if_icmp .ge 339, 3) := by decide +kernel
theorem dL_law_38 : decode cL_law 38 = .ok (.iload_n 2, 1) := by decide +kernel
theorem dL_law_39 : decode cL_law 39 = .ok (.ifCond .eq 335, 3) := by decide +kernel
theorem dL_law_42 : decode cL_law 42 = .ok (.aload_n 1, 1) := by decide +kernel
theorem dL_law_43 : decode cL_law 43 = .ok (.bipush 7, 2) := by decide +kernel
theorem dL_law_45 : decode cL_law 45 = .ok (.invokevirtual 22, 3) := by decide +kernel
theorem dL_law_48 : decode cL_law 48 = .ok (.istore 5, 2) := by decide +kernel
theorem dL_law_50 : decode cL_law 50 = .ok (.aload_n 1, 1) := by decide +kernel
theorem dL_law_51 : decode cL_law 51 = .ok (.iconst 0, 1) := by decide +kernel
theorem dL_law_52 : decode cL_law 52 = .ok (.invokevirtual 22, 3) := by decide +kernel
theorem dL_law_55 : decode cL_law 55 = .ok (.istore 6, 2) := by decide +kernel
theorem dL_law_57 : decode cL_law 57 = .ok (.aload_n 1, 1) := by decide +kernel
theorem dL_law_58 : decode cL_law 58 = .ok (.iconst 2, 1) := by decide +kernel
theorem dL_law_59 : decode cL_law 59 = .ok (.invokevirtual 22, 3) := by decide +kernel
theorem dL_law_62 : decode cL_law 62 = .ok (.istore 7, 2) := by decide +kernel
theorem dL_law_64 : decode cL_law 64 = .ok (.aload_n 1, 1) := by decide +kernel
theorem dL_law_65 : decode cL_law 65 = .ok (.iconst 4, 1) := by decide +kernel
theorem dL_law_66 : decode cL_law 66 = .ok (.invokevirtual 22, 3) := by decide +kernel
theorem dL_law_69 : decode cL_law 69 = .ok (.istore 8, 2) := by decide +kernel
theorem dL_law_71 : decode cL_law 71 = .ok (.aload_n 0, 1) := by decide +kernel
theorem dL_law_72 : decode cL_law 72 = .ok (.iconst 3, 1) := by decide +kernel
theorem dL_law_73 : decode cL_law 73 = .ok (.iload 4, 2) := by decide +kernel
theorem dL_law_75 : decode cL_law 75 = .ok (.imul, 1) := by decide +kernel
theorem dL_law_76 : decode cL_law 76 = .ok (.invokestatic 56, 3) := by decide +kernel
theorem dL_law_79 : decode cL_law 79 = .ok (.bipush 20, 2) := by decide +kernel
theorem dL_law_81 : decode cL_law 81 = .ok (.invokestatic 9, 3) := by decide +kernel
theorem dL_law_84 : decode cL_law 84 = .ok (.istore 9, 2) := by decide +kernel
theorem dL_law_86 : decode cL_law 86 = .ok (.aload_n 1, 1) := by decide +kernel
theorem dL_law_87 : decode cL_law 87 = .ok (.aload_n 0, 1) := by decide +kernel
theorem dL_law_88 : decode cL_law 88 = .ok (.iconst 3, 1) := by decide +kernel
theorem dL_law_89 : decode cL_law 89 = .ok (.iload 4, 2) := by decide +kernel
theorem dL_law_91 : decode cL_law 91 = .ok (.imul, 1) := by decide +kernel
theorem dL_law_92 : decode cL_law 92 = .ok (.invokestatic 89, 3) := by decide +kernel
theorem dL_law_95 : decode cL_law 95 = .ok (.istore 10, 2) := by decide +kernel
theorem dL_law_97 : decode cL_law 97 = .ok (.iload 10, 2) := by decide +kernel
theorem dL_law_99 : decode cL_law 99 = .ok (.sipush (-9999), 3) := by decide +kernel
theorem dL_law_102 : decode cL_law 102 = .ok (.if_icmp .lt 34, 3) := by decide +kernel
theorem dL_law_105 : decode cL_law 105 = .ok (.aload_n 1, 1) := by decide +kernel
theorem dL_law_106 : decode cL_law 106 = .ok (.bipush 7, 2) := by decide +kernel
theorem dL_law_108 : decode cL_law 108 = .ok (.invokevirtual 22, 3) := by decide +kernel
theorem dL_law_111 : decode cL_law 111 = .ok (.iload 5, 2) := by decide +kernel
theorem dL_law_113 : decode cL_law 113 = .ok (.iconst 4, 1) := by decide +kernel
theorem dL_law_114 : decode cL_law 114 = .ok (.if_icmp .ge 10, 3) := by decide +kernel
theorem dL_law_117 : decode cL_law 117 = .ok (.iload 5, 2) := by decide +kernel
theorem dL_law_119 : decode cL_law 119 = .ok (.iconst 1, 1) := by decide +kernel
theorem dL_law_120 : decode cL_law 120 = .ok (.iadd, 1) := by decide +kernel
theorem dL_law_121 : decode cL_law 121 = .ok (.goto 4, 3) := by decide +kernel
theorem dL_law_124 : decode cL_law 124 = .ok (.iconst 4, 1) := by decide +kernel
theorem dL_law_125 : decode cL_law 125 = .ok (.if_icmp .ne 7, 3) := by decide +kernel
theorem dL_law_128 : decode cL_law 128 = .ok (.iconst 1, 1) := by decide +kernel
theorem dL_law_129 : decode cL_law 129 = .ok (.goto 53, 3) := by decide +kernel
theorem dL_law_132 : decode cL_law 132 = .ok (.iconst 0, 1) := by decide +kernel
theorem dL_law_133 : decode cL_law 133 = .ok (.goto 49, 3) := by decide +kernel
theorem dL_law_136 : decode cL_law 136 = .ok (.aload_n 1, 1) := by decide +kernel
theorem dL_law_137 : decode cL_law 137 = .ok (.bipush 7, 2) := by decide +kernel
theorem dL_law_139 : decode cL_law 139 = .ok (.invokevirtual 22, 3) := by decide +kernel
theorem dL_law_142 : decode cL_law 142 = .ok (.iload 5, 2) := by decide +kernel
theorem dL_law_144 : decode cL_law 144 = .ok (.if_icmp .ne 37, 3) := by decide +kernel
theorem dL_law_147 : decode cL_law 147 = .ok (.aload_n 1, 1) := by decide +kernel
theorem dL_law_148 : decode cL_law 148 = .ok (.iconst 0, 1) := by decide +kernel
theorem dL_law_149 : decode cL_law 149 = .ok (.invokevirtual 22, 3) := by decide +kernel
theorem dL_law_152 : decode cL_law 152 = .ok (.iload 6, 2) := by decide +kernel
theorem dL_law_154 : decode cL_law 154 = .ok (.if_icmp .ne 27, 3) := by decide +kernel
theorem dL_law_157 : decode cL_law 157 = .ok (.aload_n 1, 1) := by decide +kernel
theorem dL_law_158 : decode cL_law 158 = .ok (.iconst 2, 1) := by decide +kernel
theorem dL_law_159 : decode cL_law 159 = .ok (.invokevirtual 22, 3) := by decide +kernel
theorem dL_law_162 : decode cL_law 162 = .ok (.iload 7, 2) := by decide +kernel
theorem dL_law_164 : decode cL_law 164 = .ok (.if_icmp .ne 17, 3) := by decide +kernel
theorem dL_law_167 : decode cL_law 167 = .ok (.aload_n 1, 1) := by decide +kernel
theorem dL_law_168 : decode cL_law 168 = .ok (.iconst 4, 1) := by decide +kernel
theorem dL_law_169 : decode cL_law 169 = .ok (.invokevirtual 22, 3) := by decide +kernel
theorem dL_law_172 : decode cL_law 172 = .ok (.iload 8, 2) := by decide +kernel
theorem dL_law_174 : decode cL_law 174 = .ok (.if_icmp .ne 7, 3) := by decide +kernel
theorem dL_law_177 : decode cL_law 177 = .ok (.iconst 1, 1) := by decide +kernel
theorem dL_law_178 : decode cL_law 178 = .ok (.goto 4, 3) := by decide +kernel
theorem dL_law_181 : decode cL_law 181 = .ok (.iconst 0, 1) := by decide +kernel
theorem dL_law_182 : decode cL_law 182 = .ok (.istore_n 2, 1) := by decide +kernel
theorem dL_law_183 : decode cL_law 183 = .ok (.iload_n 2, 1) := by decide +kernel
theorem dL_law_184 : decode cL_law 184 = .ok (.ifCond .eq 104, 3) := by decide +kernel
theorem dL_law_187 : decode cL_law 187 = .ok (.iload 9, 2) := by decide +kernel
theorem dL_law_189 : decode cL_law 189 = .ok (.bipush 6, 2) := by decide +kernel
theorem dL_law_191 : decode cL_law 191 = .ok (.if_icmp .gt 42, 3) := by decide +kernel
theorem dL_law_194 : decode cL_law 194 = .ok (.iload 10, 2) := by decide +kernel
theorem dL_law_196 : decode cL_law 196 = .ok (.sipush (-9999), 3) := by decide +kernel
theorem dL_law_199 : decode cL_law 199 = .ok (.if_icmp .lt 34, 3) := by decide +kernel
theorem dL_law_202 : decode cL_law 202 = .ok (.aload_n 1, 1) := by decide +kernel
theorem dL_law_203 : decode cL_law 203 = .ok (.iconst 0, 1) := by decide +kernel
theorem dL_law_204 : decode cL_law 204 = .ok (.invokevirtual 22, 3) := by decide +kernel
theorem dL_law_207 : decode cL_law 207 = .ok (.iload 6, 2) := by decide +kernel
theorem dL_law_209 : decode cL_law 209 = .ok (.iconst 1, 1) := by decide +kernel
theorem dL_law_210 : decode cL_law 210 = .ok (.iadd, 1) := by decide +kernel
theorem dL_law_211 : decode cL_law 211 = .ok (.if_icmp .ne 77, 3) := by decide +kernel
theorem dL_law_214 : decode cL_law 214 = .ok (.iload 10, 2) := by decide +kernel
theorem dL_law_216 : decode cL_law 216 = .ok (.iload 6, 2) := by decide +kernel
theorem dL_law_218 : decode cL_law 218 = .ok (.iconst 1, 1) := by decide +kernel
theorem dL_law_219 : decode cL_law 219 = .ok (.iadd, 1) := by decide +kernel
theorem dL_law_220 : decode cL_law 220 = .ok (.if_icmp .ne 68, 3) := by decide +kernel
theorem dL_law_223 : decode cL_law 223 = .ok (.aload_n 1, 1) := by decide +kernel
theorem dL_law_224 : decode cL_law 224 = .ok (.iconst 4, 1) := by decide +kernel
theorem dL_law_225 : decode cL_law 225 = .ok (.invokevirtual 22, 3) := by decide +kernel
theorem dL_law_228 : decode cL_law 228 = .ok (.iload 8, 2) := by decide +kernel
theorem dL_law_230 : decode cL_law 230 = .ok (.if_icmp .ne 58, 3) := by decide +kernel
theorem dL_law_233 : decode cL_law 233 = .ok (.iload 9, 2) := by decide +kernel
theorem dL_law_235 : decode cL_law 235 = .ok (.bipush 19, 2) := by decide +kernel
theorem dL_law_237 : decode cL_law 237 = .ok (.if_icmp .lt 21, 3) := by decide +kernel
theorem dL_law_240 : decode cL_law 240 = .ok (.iload 10, 2) := by decide +kernel
theorem dL_law_242 : decode cL_law 242 = .ok (.ifCond .lt 16, 3) := by decide +kernel
theorem dL_law_245 : decode cL_law 245 = .ok (.aload_n 1, 1) := by decide +kernel
theorem dL_law_246 : decode cL_law 246 = .ok (.iconst 0, 1) := by decide +kernel
theorem dL_law_247 : decode cL_law 247 = .ok (.invokevirtual 22, 3) := by decide +kernel
theorem dL_law_250 : decode cL_law 250 = .ok (.iload 6, 2) := by decide +kernel
theorem dL_law_252 : decode cL_law 252 = .ok (.iload 10, 2) := by decide +kernel
theorem dL_law_254 : decode cL_law 254 = .ok (.isub, 1) := by decide +kernel
theorem dL_law_255 : decode cL_law 255 = .ok (.if_icmp .ne 33, 3) := by decide +kernel
theorem dL_law_258 : decode cL_law 258 = .ok (.iload 9, 2) := by decide +kernel
theorem dL_law_260 : decode cL_law 260 = .ok (.bipush 17, 2) := by decide +kernel
theorem dL_law_262 : decode cL_law 262 = .ok (.if_icmp .eq 10, 3) := by decide +kernel
theorem dL_law_265 : decode cL_law 265 = .ok (.iload 9, 2) := by decide +kernel
theorem dL_law_267 : decode cL_law 267 = .ok (.bipush 18, 2) := by decide +kernel
theorem dL_law_269 : decode cL_law 269 = .ok (.if_icmp .ne 15, 3) := by decide +kernel
theorem dL_law_272 : decode cL_law 272 = .ok (.iload 10, 2) := by decide +kernel
theorem dL_law_274 : decode cL_law 274 = .ok (.ifCond .lt 10, 3) := by decide +kernel
theorem dL_law_277 : decode cL_law 277 = .ok (.iload 10, 2) := by decide +kernel
theorem dL_law_279 : decode cL_law 279 = .ok (.iload 8, 2) := by decide +kernel
theorem dL_law_281 : decode cL_law 281 = .ok (.if_icmp .gt 7, 3) := by decide +kernel
theorem dL_law_284 : decode cL_law 284 = .ok (.iconst 1, 1) := by decide +kernel
theorem dL_law_285 : decode cL_law 285 = .ok (.goto 4, 3) := by decide +kernel
theorem dL_law_288 : decode cL_law 288 = .ok (.iconst 0, 1) := by decide +kernel
theorem dL_law_289 : decode cL_law 289 = .ok (.istore_n 2, 1) := by decide +kernel
theorem dL_law_290 : decode cL_law 290 = .ok (.aload_n 1, 1) := by decide +kernel
theorem dL_law_291 : decode cL_law 291 = .ok (.iconst 2, 1) := by decide +kernel
theorem dL_law_292 : decode cL_law 292 = .ok (.invokevirtual 22, 3) := by decide +kernel
theorem dL_law_295 : decode cL_law 295 = .ok (.istore 11, 2) := by decide +kernel
theorem dL_law_297 : decode cL_law 297 = .ok (.iload_n 2, 1) := by decide +kernel
theorem dL_law_298 : decode cL_law 298 = .ok (.ifCond .eq 68, 3) := by decide +kernel
theorem dL_law_301 : decode cL_law 301 = .ok (.aload_n 1, 1) := by decide +kernel
theorem dL_law_302 : decode cL_law 302 = .ok (.iload 11, 2) := by decide +kernel
theorem dL_law_304 : decode cL_law 304 = .ok (.ifCond .ne 7, 3) := by decide +kernel
theorem dL_law_307 : decode cL_law 307 = .ok (.iconst 0, 1) := by decide +kernel
theorem dL_law_308 : decode cL_law 308 = .ok (.goto 21, 3) := by decide +kernel
theorem dL_law_311 : decode cL_law 311 = .ok (.aload_n 0, 1) := by decide +kernel
theorem dL_law_312 : decode cL_law 312 = .ok (.iconst 3, 1) := by decide +kernel
theorem dL_law_313 : decode cL_law 313 = .ok (.iload 4, 2) := by decide +kernel
theorem dL_law_315 : decode cL_law 315 = .ok (.imul, 1) := by decide +kernel
theorem dL_law_316 : decode cL_law 316 = .ok (.iconst 1, 1) := by decide +kernel
theorem dL_law_317 : decode cL_law 317 = .ok (.iadd, 1) := by decide +kernel
theorem dL_law_318 : decode cL_law 318 = .ok (.invokestatic 56, 3) := by decide +kernel
theorem dL_law_321 : decode cL_law 321 = .ok (.bipush 9, 2) := by decide +kernel
theorem dL_law_323 : decode cL_law 323 = .ok (.ishr, 1) := by decide +kernel
theorem dL_law_324 : decode cL_law 324 = .ok (.iload 11, 2) := by decide +kernel
theorem dL_law_326 : decode cL_law 326 = .ok (.invokestatic 9, 3) := by decide +kernel
theorem dL_law_329 : decode cL_law 329 = .ok (.iload 11, 2) := by decide +kernel
theorem dL_law_331 : decode cL_law 331 = .ok (.ifCond .ne 7, 3) := by decide +kernel
theorem dL_law_334 : decode cL_law 334 = .ok (.iconst (-1), 1) := by decide +kernel
theorem dL_law_335 : decode cL_law 335 = .ok (.goto 21, 3) := by decide +kernel
theorem dL_law_338 : decode cL_law 338 = .ok (.aload_n 0, 1) := by decide +kernel
theorem dL_law_339 : decode cL_law 339 = .ok (.iconst 3, 1) := by decide +kernel
theorem dL_law_340 : decode cL_law 340 = .ok (.iload 4, 2) := by decide +kernel
theorem dL_law_342 : decode cL_law 342 = .ok (.imul, 1) := by decide +kernel
theorem dL_law_343 : decode cL_law 343 = .ok (.iconst 2, 1) := by decide +kernel
theorem dL_law_344 : decode cL_law 344 = .ok (.iadd, 1) := by decide +kernel
theorem dL_law_345 : decode cL_law 345 = .ok (.invokestatic 56, 3) := by decide +kernel
theorem dL_law_348 : decode cL_law 348 = .ok (.bipush 9, 2) := by decide +kernel
theorem dL_law_350 : decode cL_law 350 = .ok (.ishr, 1) := by decide +kernel
theorem dL_law_351 : decode cL_law 351 = .ok (.iload 11, 2) := by decide +kernel
theorem dL_law_353 : decode cL_law 353 = .ok (.invokestatic 9, 3) := by decide +kernel
theorem dL_law_356 : decode cL_law 356 = .ok (.invokestatic 93, 3) := by decide +kernel
theorem dL_law_359 : decode cL_law 359 = .ok (.ifCond .eq 7, 3) := by decide +kernel
theorem dL_law_362 : decode cL_law 362 = .ok (.iconst 1, 1) := by decide +kernel
theorem dL_law_363 : decode cL_law 363 = .ok (.goto 4, 3) := by decide +kernel
theorem dL_law_366 : decode cL_law 366 = .ok (.iconst 0, 1) := by decide +kernel
theorem dL_law_367 : decode cL_law 367 = .ok (.istore_n 2, 1) := by decide +kernel
theorem dL_law_368 : decode cL_law 368 = .ok (.iinc 4 1, 3) := by decide +kernel
theorem dL_law_371 : decode cL_law 371 = .ok (.goto (-339), 3) := by decide +kernel
theorem dL_law_374 : decode cL_law 374 = .ok (.aload_n 1, 1) := by decide +kernel
theorem dL_law_375 : decode cL_law 375 = .ok (.iconst 2, 1) := by decide +kernel
theorem dL_law_376 : decode cL_law 376 = .ok (.invokevirtual 22, 3) := by decide +kernel
theorem dL_law_379 : decode cL_law 379 = .ok (.iconst 1, 1) := by decide +kernel
theorem dL_law_380 : decode cL_law 380 = .ok (.isub, 1) := by decide +kernel
theorem dL_law_381 : decode cL_law 381 = .ok (.istore 4, 2) := by decide +kernel
theorem dL_law_383 : decode cL_law 383 = .ok (.aload_n 1, 1) := by decide +kernel
theorem dL_law_384 : decode cL_law 384 = .ok (.iconst 5, 1) := by decide +kernel
theorem dL_law_385 : decode cL_law 385 = .ok (.invokevirtual 22, 3) := by decide +kernel
theorem dL_law_388 : decode cL_law 388 = .ok (.istore 5, 2) := by decide +kernel
theorem dL_law_390 : decode cL_law 390 = .ok (.iload 4, 2) := by decide +kernel
theorem dL_law_392 : decode cL_law 392 = .ok (.ifCond .ge 9, 3) := by decide +kernel
theorem dL_law_395 : decode cL_law 395 = .ok (.sipush (-10005), 3) := by decide +kernel
theorem dL_law_398 : decode cL_law 398 = .ok (.goto 10, 3) := by decide +kernel
theorem dL_law_401 : decode cL_law 401 = .ok (.aload_n 1, 1) := by decide +kernel
theorem dL_law_402 : decode cL_law 402 = .ok (.iconst 0, 1) := by decide +kernel
theorem dL_law_403 : decode cL_law 403 = .ok (.iload 4, 2) := by decide +kernel
theorem dL_law_405 : decode cL_law 405 = .ok (.invokevirtual 82, 3) := by decide +kernel
theorem dL_law_408 : decode cL_law 408 = .ok (.istore 6, 2) := by decide +kernel
theorem dL_law_410 : decode cL_law 410 = .ok (.iload_n 2, 1) := by decide +kernel
theorem dL_law_411 : decode cL_law 411 = .ok (.ifCond .eq 42, 3) := by decide +kernel
theorem dL_law_414 : decode cL_law 414 = .ok (.iload 6, 2) := by decide +kernel
theorem dL_law_416 : decode cL_law 416 = .ok (.sipush (-10005), 3) := by decide +kernel
theorem dL_law_419 : decode cL_law 419 = .ok (.if_icmp .eq 10, 3) := by decide +kernel
theorem dL_law_422 : decode cL_law 422 = .ok (.iload 6, 2) := by decide +kernel
theorem dL_law_424 : decode cL_law 424 = .ok (.iload 5, 2) := by decide +kernel
theorem dL_law_426 : decode cL_law 426 = .ok (.if_icmp .ne 27, 3) := by decide +kernel
theorem dL_law_429 : decode cL_law 429 = .ok (.aload_n 1, 1) := by decide +kernel
theorem dL_law_430 : decode cL_law 430 = .ok (.iconst 5, 1) := by decide +kernel
theorem dL_law_431 : decode cL_law 431 = .ok (.invokevirtual 22, 3) := by decide +kernel
theorem dL_law_434 : decode cL_law 434 = .ok (.ifCond .ne 19, 3) := by decide +kernel
theorem dL_law_437 : decode cL_law 437 = .ok (.aload_n 1, 1) := by decide +kernel
theorem dL_law_438 : decode cL_law 438 = .ok (.iconst 3, 1) := by decide +kernel
theorem dL_law_439 : decode cL_law 439 = .ok (.invokevirtual 22, 3) := by decide +kernel
theorem dL_law_442 : decode cL_law 442 = .ok (.iload 4, 2) := by decide +kernel
theorem dL_law_444 : decode cL_law 444 = .ok (.iconst 1, 1) := by decide +kernel
theorem dL_law_445 : decode cL_law 445 = .ok (.iadd, 1) := by decide +kernel
theorem dL_law_446 : decode cL_law 446 = .ok (.if_icmp .ne 7, 3) := by decide +kernel
theorem dL_law_449 : decode cL_law 449 = .ok (.iconst 1, 1) := by decide +kernel
theorem dL_law_450 : decode cL_law 450 = .ok (.goto 4, 3) := by decide +kernel
theorem dL_law_453 : decode cL_law 453 = .ok (.iconst 0, 1) := by decide +kernel
theorem dL_law_454 : decode cL_law 454 = .ok (.ireturn, 1) := by decide +kernel
end
section
set_option maxRecDepth 20000 in
theorem ggL_valued_L_low : GoodIn wsL_valued wsL_low := goodIn_r _ [4, 5] (by decide +kernel) (by decide +kernel)
set_option maxRecDepth 20000 in
theorem gL_valued_L_low : GoodIn wsL_valued (va_wsS RL 9 yL_low wsL_low) := goodIn_app (goodIn_of _ (by decide +kernel)) ggL_valued_L_low
set_option maxRecDepth 20000 in
theorem ggL_valued_L_least : GoodIn wsL_valued wsL_least := goodIn_r _ [8] (by decide +kernel) (by decide +kernel)
set_option maxRecDepth 20000 in
theorem gL_valued_L_least : GoodIn wsL_valued (va_wsS RL 15 yL_least wsL_least) := goodIn_app (goodIn_of _ (by decide +kernel)) ggL_valued_L_least
set_option maxRecDepth 20000 in
theorem ggL_valued_L_most : GoodIn wsL_valued wsL_most := goodIn_r _ [11] (by decide +kernel) (by decide +kernel)
set_option maxRecDepth 20000 in
theorem gL_valued_L_most : GoodIn wsL_valued (va_wsS RL 19 yL_most wsL_most) := goodIn_app (goodIn_of _ (by decide +kernel)) ggL_valued_L_most
set_option maxRecDepth 20000 in
theorem ggL_table_X4_count : GoodIn wsL_table wsX4_count := goodIn_r _ [5, 6, 7, 8, 9, 10, 11, 12, 13, 14, 15, 16, 17, 18, 19, 20, 21, 22, 23, 24, 25, 26, 27, 28, 29, 30, 31, 32, 33, 34, 35, 36, 37, 38, 39, 40, 41, 42, 43, 44, 45, 46, 47, 48, 49, 50, 51, 52, 53, 54, 55, 56, 57, 58, 59, 60, 4, 61, 62, 63, 64, 65, 66, 67, 68, 69, 70, 71, 72, 73, 74, 75, 76, 77, 78, 79, 80, 81, 204, 205, 206, 207, 208, 209, 210, 211, 212, 213, 214, 215, 216, 217, 218, 219, 220, 221, 222, 223, 224, 225] (by decide +kernel) (by decide +kernel)
set_option maxRecDepth 20000 in
theorem gL_table_X4_count : GoodIn wsL_table (wsV RL 22 RX4 yX4_count wsX4_count) := goodIn_app (goodIn_of _ (by decide +kernel)) ggL_table_X4_count
set_option maxRecDepth 20000 in
theorem ggL_table_X4_bestSeason : GoodIn wsL_table wsX4_bestSeason := goodIn_r _ [85, 6, 86, 87, 88, 12, 89, 90, 10, 11, 13, 14, 91, 44, 45, 46, 35, 47, 48, 49, 50, 51, 52, 53, 54, 36, 19, 20, 21, 22, 23, 55, 56, 57, 58, 59, 60, 4, 61, 62, 63, 64, 65, 66, 67, 68, 69, 70, 71, 72, 73, 74, 75, 76, 77, 43, 204, 205, 206, 207, 208, 209, 210, 211, 212, 213, 214, 215, 216] (by decide +kernel) (by decide +kernel)
set_option maxRecDepth 20000 in
theorem gL_table_X4_bestSeason : GoodIn wsL_table (wsV RL 27 RX4 yX4_bestSeason wsX4_bestSeason) := goodIn_app (goodIn_of _ (by decide +kernel)) ggL_table_X4_bestSeason
set_option maxRecDepth 20000 in
theorem ggL_table_X4_column : GoodIn wsL_table wsX4_column := goodIn_r _ [95, 6, 96, 97, 98, 12, 99, 14, 100, 101, 4, 102, 103, 20, 21, 22, 23, 104, 105, 106, 107, 108, 204, 205, 206, 207, 208, 209, 210, 211, 212, 213, 214, 215, 216] (by decide +kernel) (by decide +kernel)
set_option maxRecDepth 20000 in
theorem gL_table_X4_column : GoodIn wsL_table (wsV RL 30 RX4 yX4_column wsX4_column) := goodIn_app (goodIn_of _ (by decide +kernel)) ggL_table_X4_column
set_option maxRecDepth 20000 in
theorem ggL_table_X4_season : GoodIn wsL_table wsX4_season := goodIn_r _ [112, 6, 96, 97, 98, 12, 99, 14, 15, 16, 17, 18, 19, 20, 21, 22, 23, 24, 25, 26, 27, 28, 29, 30, 31, 32, 33, 34, 35, 36, 113, 114, 115, 116, 204, 205, 206, 207, 208, 209, 210, 211, 212, 213, 214, 215, 216] (by decide +kernel) (by decide +kernel)
set_option maxRecDepth 20000 in
theorem gL_table_X4_season : GoodIn wsL_table (wsV RL 34 RX4 yX4_season wsX4_season) := goodIn_app (goodIn_of _ (by decide +kernel)) ggL_table_X4_season
set_option maxRecDepth 20000 in
theorem ggL_table_X4_view : GoodIn wsL_table wsX4_view := goodIn_r _ [120, 6, 69, 70, 67, 71, 121, 122, 123, 12, 124, 35, 125, 126, 127, 128, 36, 41, 16, 17, 18, 19, 20, 21, 22, 23, 129, 130, 131, 132, 133, 90, 10, 11, 13, 14, 134, 4, 135, 55, 56, 57, 58, 59, 136, 105, 106, 107, 108, 204, 205, 206, 207, 208, 209, 210, 211, 212, 213, 214, 215, 216] (by decide +kernel) (by decide +kernel)
set_option maxRecDepth 20000 in
theorem gL_table_X4_view : GoodIn wsL_table (wsV RL 37 RX4 yX4_view wsX4_view) := goodIn_app (goodIn_of _ (by decide +kernel)) ggL_table_X4_view
set_option maxRecDepth 20000 in
theorem ggL_table_X4_value : GoodIn wsL_table wsX4_value := goodIn_r _ [140, 6, 121, 122, 123, 12, 124, 35, 100, 101, 4, 102, 141, 52, 53, 54, 36, 19, 20, 21, 22, 23, 142, 56, 57, 58, 59, 204, 205, 206, 207, 208, 209, 210, 211, 212, 213, 214, 215, 216] (by decide +kernel) (by decide +kernel)
set_option maxRecDepth 20000 in
theorem gL_table_X4_value : GoodIn wsL_table (wsV RL 40 RX4 yX4_value wsX4_value) := goodIn_app (goodIn_of _ (by decide +kernel)) ggL_table_X4_value
set_option maxRecDepth 20000 in
theorem ggL_table_X4_seasonOf : GoodIn wsL_table wsX4_seasonOf := goodIn_r _ [146, 6, 121, 122, 123, 12, 124, 35, 147, 148, 149, 150, 36, 204, 205, 206, 207, 208, 209, 210, 211, 212, 213, 214, 215, 216] (by decide +kernel) (by decide +kernel)
set_option maxRecDepth 20000 in
theorem gL_table_X4_seasonOf : GoodIn wsL_table (wsV RL 43 RX4 yX4_seasonOf wsX4_seasonOf) := goodIn_app (goodIn_of _ (by decide +kernel)) ggL_table_X4_seasonOf
set_option maxRecDepth 20000 in
theorem ggL_table_L_least : GoodIn wsL_table wsL_least := goodIn_r _ [154] (by decide +kernel) (by decide +kernel)
set_option maxRecDepth 20000 in
theorem gL_table_L_least : GoodIn wsL_table (va_wsS RL 15 yL_least wsL_least) := goodIn_app (goodIn_of _ (by decide +kernel)) ggL_table_L_least
set_option maxRecDepth 20000 in
theorem ggL_table_L_most : GoodIn wsL_table wsL_most := goodIn_r _ [157] (by decide +kernel) (by decide +kernel)
set_option maxRecDepth 20000 in
theorem gL_table_L_most : GoodIn wsL_table (va_wsS RL 19 yL_most wsL_most) := goodIn_app (goodIn_of _ (by decide +kernel)) ggL_table_L_most
set_option maxRecDepth 20000 in
theorem ggL_table_X4_read : GoodIn wsL_table wsX4_read := goodIn_r _ [161, 6, 121, 122, 123, 12, 124, 35, 96, 97, 98, 99, 14, 100, 101, 4, 102, 103, 20, 21, 22, 23, 162, 163, 164, 165, 51, 52, 53, 54, 36, 19, 136, 105, 106, 107, 108, 55, 56, 57, 58, 59, 63, 64, 65, 66, 67, 68, 69, 70, 71, 72, 73, 74, 75, 76, 77, 166, 167, 168, 169, 60, 61, 62, 204, 205, 206, 207, 208, 209, 210, 211, 212, 213, 214, 215, 216] (by decide +kernel) (by decide +kernel)
set_option maxRecDepth 20000 in
theorem gL_table_X4_read : GoodIn wsL_table (wsV RL 46 RX4 yX4_read wsX4_read) := goodIn_app (goodIn_of _ (by decide +kernel)) ggL_table_X4_read
set_option maxRecDepth 20000 in
theorem ggL_table_L_cast : GoodIn wsL_table wsL_cast := goodIn_r _ [172] (by decide +kernel) (by decide +kernel)
set_option maxRecDepth 20000 in
theorem gL_table_L_cast : GoodIn wsL_table (va_wsS RL 50 yL_cast wsL_cast) := goodIn_app (goodIn_of _ (by decide +kernel)) ggL_table_L_cast
set_option maxRecDepth 20000 in
theorem ggL_table_X4_viewColumn : GoodIn wsL_table wsX4_viewColumn := goodIn_r _ [176, 6, 121, 122, 123, 12, 124, 35, 100, 101, 4, 102, 125, 126, 127, 128, 36, 41, 16, 17, 18, 19, 20, 21, 22, 23, 177, 134, 135, 178, 179, 180, 181, 182, 70, 67, 71, 51, 52, 53, 54, 183, 184, 185, 186, 55, 56, 57, 58, 59, 187, 188, 189, 190, 191, 66, 68, 192, 193, 194, 195, 196, 197, 198, 199, 200, 201, 202, 203, 204, 205, 206, 207, 208, 209, 210, 211, 212, 213, 214, 215, 216] (by decide +kernel) (by decide +kernel)
set_option maxRecDepth 20000 in
theorem gL_table_X4_viewColumn : GoodIn wsL_table (wsV RL 53 RX4 yX4_viewColumn wsX4_viewColumn) := goodIn_app (goodIn_of _ (by decide +kernel)) ggL_table_X4_viewColumn
end
section
set_option maxRecDepth 20000 in
theorem ggL_act_L_cell : GoodIn wsL_act wsL_cell := goodIn_r _ [4, 5] (by decide +kernel) (by decide +kernel)
set_option maxRecDepth 20000 in
theorem gL_act_L_cell : GoodIn wsL_act (va_wsS RL 56 yL_cell wsL_cell) := goodIn_app (goodIn_of _ (by decide +kernel)) ggL_act_L_cell
set_option maxRecDepth 20000 in
theorem ggL_act_X4_count : GoodIn wsL_act wsX4_count := goodIn_r _ [10, 11, 12, 13, 14, 15, 16, 17, 18, 19, 20, 21, 22, 23, 24, 25, 26, 27, 28, 29, 30, 31, 32, 33, 34, 35, 36, 37, 38, 39, 40, 41, 42, 43, 44, 45, 46, 47, 48, 49, 50, 51, 52, 53, 54, 55, 56, 57, 58, 59, 60, 61, 62, 63, 64, 65, 9, 66, 67, 68, 69, 70, 71, 72, 73, 74, 75, 76, 77, 78, 79, 80, 81, 82, 83, 84, 85, 86, 244, 245, 246, 247, 248, 249, 250, 251, 252, 253, 254, 255, 256, 257, 258, 259, 260, 261, 262, 263, 264, 265] (by decide +kernel) (by decide +kernel)
set_option maxRecDepth 20000 in
theorem gL_act_X4_count : GoodIn wsL_act (wsV RL 22 RX4 yX4_count wsX4_count) := goodIn_app (goodIn_of _ (by decide +kernel)) ggL_act_X4_count
set_option maxRecDepth 20000 in
theorem ggL_act_L_low : GoodIn wsL_act wsL_low := goodIn_r _ [89, 90] (by decide +kernel) (by decide +kernel)
set_option maxRecDepth 20000 in
theorem gL_act_L_low : GoodIn wsL_act (va_wsS RL 9 yL_low wsL_low) := goodIn_app (goodIn_of _ (by decide +kernel)) ggL_act_L_low
set_option maxRecDepth 20000 in
theorem ggL_act_L_valued : GoodIn wsL_act wsL_valued := goodIn_r _ [93, 87, 88, 3, 89, 90, 94, 95, 96, 97, 98, 99] (by decide +kernel) (by decide +kernel)
set_option maxRecDepth 20000 in
theorem gL_act_L_valued : GoodIn wsL_act (va_wsS RL 60 yL_valued wsL_valued) := goodIn_app (goodIn_of _ (by decide +kernel)) ggL_act_L_valued
set_option maxRecDepth 20000 in
theorem ggL_act_X4_add : GoodIn wsL_act wsX4_add := goodIn_r _ [103, 12, 11, 104, 105, 106, 107, 108, 109, 110, 111, 112, 113, 114, 115, 116, 117, 118, 17, 119, 19, 28, 120, 121, 122, 123, 124, 40, 41, 64, 125, 126, 127, 128, 129, 9, 130, 131, 132, 133, 134, 77, 78, 79, 80, 81, 82, 135, 15, 16, 18, 24, 25, 26, 27, 136, 137, 138, 139, 140, 141, 142, 143, 144, 145, 146, 147, 148, 149, 150, 244, 245, 246, 247, 248, 249, 250, 257, 258, 259, 251, 252, 253, 254, 255, 256] (by decide +kernel) (by decide +kernel)
set_option maxRecDepth 20000 in
theorem gL_act_X4_add : GoodIn wsL_act (wsV RL 63 RX4 yX4_add wsX4_add) := goodIn_app (goodIn_of _ (by decide +kernel)) ggL_act_X4_add
set_option maxRecDepth 20000 in
theorem ggL_act_X4_drop : GoodIn wsL_act wsX4_drop := goodIn_r _ [154, 12, 11, 104, 105, 106, 107, 108, 109, 110, 111, 112, 113, 114, 115, 116, 117, 118, 17, 119, 19, 28, 120, 121, 122, 123, 124, 40, 41, 64, 155, 156, 157, 158, 129, 9, 130, 135, 15, 16, 18, 24, 25, 26, 27, 136, 137, 138, 139, 140, 141, 142, 143, 144, 145, 146, 147, 148, 149, 150, 244, 245, 246, 247, 248, 249, 250, 257, 258, 259, 251, 252, 253, 254, 255, 256] (by decide +kernel) (by decide +kernel)
set_option maxRecDepth 20000 in
theorem gL_act_X4_drop : GoodIn wsL_act (wsV RL 66 RX4 yX4_drop wsX4_drop) := goodIn_app (goodIn_of _ (by decide +kernel)) ggL_act_X4_drop
set_option maxRecDepth 20000 in
theorem ggL_act_X4_kind : GoodIn wsL_act wsX4_kind := goodIn_r _ [162, 12, 11, 104, 105, 106, 107, 108, 109, 110, 111, 112, 113, 114, 115, 116, 117, 118, 17, 119, 19, 28, 120, 121, 122, 123, 124, 40, 41, 64, 163, 164, 165, 166, 129, 9, 130, 135, 15, 16, 18, 24, 25, 26, 27, 131, 132, 167, 168, 169, 170, 68, 69, 70, 71, 72, 73, 74, 75, 76, 77, 78, 79, 80, 81, 82, 136, 137, 138, 139, 140, 141, 142, 143, 144, 145, 146, 147, 148, 149, 150, 244, 245, 246, 247, 248, 249, 250, 257, 258, 259, 251, 252, 253, 254, 255, 256] (by decide +kernel) (by decide +kernel)
set_option maxRecDepth 20000 in
theorem gL_act_X4_kind : GoodIn wsL_act (wsV RL 69 RX4 yX4_kind wsX4_kind) := goodIn_app (goodIn_of _ (by decide +kernel)) ggL_act_X4_kind
set_option maxRecDepth 20000 in
theorem ggL_act_X4_row : GoodIn wsL_act wsX4_row := goodIn_r _ [174, 12, 11, 104, 105, 106, 107, 108, 109, 110, 111, 112, 113, 114, 115, 116, 117, 118, 17, 119, 19, 28, 120, 121, 122, 123, 124, 40, 41, 64, 175, 176, 177, 178, 135, 15, 16, 18, 140, 141, 142, 9, 143, 144, 145, 146, 147, 148, 149, 150, 244, 245, 246, 247, 248, 249, 250, 257, 258, 259, 251, 252, 253, 254, 255, 256] (by decide +kernel) (by decide +kernel)
set_option maxRecDepth 20000 in
theorem gL_act_X4_row : GoodIn wsL_act (wsV RL 72 RX4 yX4_row wsX4_row) := goodIn_app (goodIn_of _ (by decide +kernel)) ggL_act_X4_row
set_option maxRecDepth 20000 in
theorem ggL_act_X4_seasonOf : GoodIn wsL_act wsX4_seasonOf := goodIn_r _ [182, 11, 183, 184, 185, 17, 186, 40, 187, 188, 189, 190, 41, 244, 245, 246, 247, 248, 249, 250, 251, 252, 253, 254, 255, 256] (by decide +kernel) (by decide +kernel)
set_option maxRecDepth 20000 in
theorem gL_act_X4_seasonOf : GoodIn wsL_act (wsV RL 43 RX4 yX4_seasonOf wsX4_seasonOf) := goodIn_app (goodIn_of _ (by decide +kernel)) ggL_act_X4_seasonOf
set_option maxRecDepth 20000 in
theorem ggL_act_X4_column : GoodIn wsL_act wsX4_column := goodIn_r _ [194, 11, 195, 196, 197, 17, 198, 19, 199, 129, 9, 130, 200, 25, 26, 27, 28, 201, 168, 169, 170, 124, 244, 245, 246, 247, 248, 249, 250, 251, 252, 253, 254, 255, 256] (by decide +kernel) (by decide +kernel)
set_option maxRecDepth 20000 in
theorem gL_act_X4_column : GoodIn wsL_act (wsV RL 30 RX4 yX4_column wsX4_column) := goodIn_app (goodIn_of _ (by decide +kernel)) ggL_act_X4_column
set_option maxRecDepth 20000 in
theorem ggL_act_X4_set : GoodIn wsL_act wsX4_set := goodIn_r _ [205, 12, 11, 104, 105, 106, 107, 108, 109, 110, 111, 112, 113, 114, 115, 116, 117, 118, 17, 119, 19, 28, 120, 121, 122, 123, 124, 40, 41, 64, 206, 207, 208, 209, 210, 184, 185, 186, 129, 9, 130, 56, 57, 58, 59, 24, 25, 26, 27, 133, 134, 77, 78, 79, 80, 81, 82, 60, 61, 62, 63, 140, 141, 142, 143, 144, 145, 146, 147, 148, 149, 150, 244, 245, 246, 247, 248, 249, 250, 257, 258, 259, 251, 252, 253, 254, 255, 256] (by decide +kernel) (by decide +kernel)
set_option maxRecDepth 20000 in
theorem gL_act_X4_set : GoodIn wsL_act (wsV RL 76 RX4 yX4_set wsX4_set) := goodIn_app (goodIn_of _ (by decide +kernel)) ggL_act_X4_set
set_option maxRecDepth 20000 in
theorem ggL_act_X4_remove : GoodIn wsL_act wsX4_remove := goodIn_r _ [214, 12, 11, 104, 105, 106, 107, 108, 109, 110, 111, 112, 113, 114, 115, 116, 117, 118, 17, 119, 19, 28, 120, 121, 122, 123, 124, 40, 41, 64, 215, 216, 217, 218, 210, 184, 185, 186, 140, 141, 142, 9, 143, 144, 145, 146, 147, 148, 149, 150, 244, 245, 246, 247, 248, 249, 250, 257, 258, 259, 251, 252, 253, 254, 255, 256] (by decide +kernel) (by decide +kernel)
set_option maxRecDepth 20000 in
theorem gL_act_X4_remove : GoodIn wsL_act (wsV RL 79 RX4 yX4_remove wsX4_remove) := goodIn_app (goodIn_of _ (by decide +kernel)) ggL_act_X4_remove
set_option maxRecDepth 20000 in
theorem ggL_act_X4_makeOver : GoodIn wsL_act wsX4_makeOver := goodIn_r _ [222, 12, 11, 104, 105, 106, 107, 108, 109, 110, 111, 112, 113, 114, 115, 116, 117, 118, 17, 119, 19, 28, 120, 121, 122, 123, 124, 40, 41, 64, 223, 224, 225, 226, 210, 184, 185, 186, 135, 15, 16, 18, 52, 53, 54, 55, 56, 57, 58, 59, 24, 25, 26, 27, 60, 61, 62, 63, 65, 9, 66, 67, 68, 69, 70, 71, 72, 73, 74, 75, 76, 77, 78, 79, 80, 81, 82, 227, 228, 229, 230, 231, 232, 233, 234, 167, 168, 169, 170, 140, 141, 142, 143, 144, 145, 146, 147, 148, 149, 150, 244, 245, 246, 247, 248, 249, 250, 257, 258, 259, 251, 252, 253, 254, 255, 256] (by decide +kernel) (by decide +kernel)
set_option maxRecDepth 20000 in
theorem gL_act_X4_makeOver : GoodIn wsL_act (wsV RL 82 RX4 yX4_makeOver wsX4_makeOver) := goodIn_app (goodIn_of _ (by decide +kernel)) ggL_act_X4_makeOver
set_option maxRecDepth 20000 in
theorem ggL_act_X4_forget : GoodIn wsL_act wsX4_forget := goodIn_r _ [238, 12, 11, 104, 105, 106, 107, 108, 109, 110, 111, 112, 113, 114, 115, 116, 117, 118, 17, 119, 19, 28, 120, 121, 122, 123, 124, 40, 41, 64, 239, 240, 241, 242, 243, 71, 72, 73, 135, 15, 16, 18, 140, 141, 142, 9, 143, 144, 145, 146, 147, 148, 149, 150, 244, 245, 246, 247, 248, 249, 250, 257, 258, 259, 251, 252, 253, 254, 255, 256] (by decide +kernel) (by decide +kernel)
set_option maxRecDepth 20000 in
theorem gL_act_X4_forget : GoodIn wsL_act (wsV RL 85 RX4 yX4_forget wsX4_forget) := goodIn_app (goodIn_of _ (by decide +kernel)) ggL_act_X4_forget
end
section
set_option maxRecDepth 20000 in
theorem ggL_law_X4_init : GoodIn wsL_law wsX4_init := goodIn_r _ [5, 6, 7, 8, 9, 10, 11, 12, 13, 14, 15, 16, 17, 18, 19, 20, 21, 22, 23, 24, 25, 26, 27, 28, 29, 30, 31, 32, 33, 34, 35, 36, 37, 38, 39, 40, 41, 42, 43, 44, 45, 46, 47, 48, 49, 50, 51, 52, 53, 54, 55, 56, 57, 58, 59, 60, 61, 62, 63, 64, 65, 66, 67, 68, 69, 70, 71, 393, 394, 395, 396, 397, 398, 386, 387, 388, 389, 390, 391, 392, 399, 400, 401, 402, 403, 404, 405, 406, 407, 408, 409, 410, 411, 412] (by decide +kernel) (by decide +kernel)
set_option maxRecDepth 20000 in
theorem gL_law_X4_init : GoodIn wsL_law (wsX4_init) := ggL_law_X4_init
set_option maxRecDepth 20000 in
theorem ggL_law_X4_count : GoodIn wsL_law wsX4_count := goodIn_r _ [75, 12, 16, 22, 76, 77, 78, 11, 79, 29, 80, 81, 82, 83, 84, 85, 86, 87, 31, 88, 89, 90, 91, 92, 93, 94, 95, 96, 97, 98, 33, 34, 99, 100, 101, 102, 103, 104, 105, 106, 107, 108, 109, 110, 111, 112, 113, 114, 115, 116, 117, 118, 119, 120, 35, 121, 2, 122, 123, 124, 125, 126, 127, 128, 129, 130, 131, 132, 133, 134, 135, 136, 137, 138, 139, 140, 141, 142, 386, 387, 388, 389, 390, 391, 392, 393, 394, 395, 396, 397, 398, 399, 400, 401, 402, 403, 404, 405, 406, 407] (by decide +kernel) (by decide +kernel)
set_option maxRecDepth 20000 in
theorem gL_law_X4_count : GoodIn wsL_law (wsV RL 22 RX4 yX4_count wsX4_count) := goodIn_app (goodIn_of _ (by decide +kernel)) ggL_law_X4_count
set_option maxRecDepth 20000 in
theorem ggL_law_L_cell : GoodIn wsL_law wsL_cell := goodIn_r _ [146, 147] (by decide +kernel) (by decide +kernel)
set_option maxRecDepth 20000 in
theorem gL_law_L_cell : GoodIn wsL_law (va_wsS RL 56 yL_cell wsL_cell) := goodIn_app (goodIn_of _ (by decide +kernel)) ggL_law_L_cell
set_option maxRecDepth 20000 in
theorem ggL_law_L_low : GoodIn wsL_law wsL_low := goodIn_r _ [150, 151] (by decide +kernel) (by decide +kernel)
set_option maxRecDepth 20000 in
theorem gL_law_L_low : GoodIn wsL_law (va_wsS RL 9 yL_low wsL_low) := goodIn_app (goodIn_of _ (by decide +kernel)) ggL_law_L_low
set_option maxRecDepth 20000 in
theorem ggL_law_X4_makeOver : GoodIn wsL_law wsX4_makeOver := goodIn_r _ [281, 16, 12, 168, 169, 170, 15, 171, 172, 173, 174, 175, 45, 46, 47, 176, 177, 178, 11, 179, 29, 31, 180, 181, 182, 183, 32, 33, 34, 35, 282, 283, 284, 285, 269, 243, 244, 245, 194, 77, 78, 79, 109, 110, 111, 112, 113, 114, 115, 116, 84, 85, 86, 87, 117, 118, 119, 120, 121, 2, 122, 123, 124, 125, 126, 127, 128, 129, 130, 131, 132, 133, 134, 135, 136, 137, 138, 286, 287, 288, 289, 290, 291, 292, 293, 226, 227, 228, 229, 199, 200, 201, 202, 203, 204, 205, 206, 207, 208, 209, 386, 387, 388, 389, 390, 391, 392, 399, 400, 401, 393, 394, 395, 396, 397, 398] (by decide +kernel) (by decide +kernel)
set_option maxRecDepth 20000 in
theorem gL_law_X4_makeOver : GoodIn wsL_law (wsV RL 82 RX4 yX4_makeOver wsX4_makeOver) := goodIn_app (goodIn_of _ (by decide +kernel)) ggL_law_X4_makeOver
end
section
theorem goodIn_cons {big l : List Cond} {c : Cond} (hc : GoodIn big [c]) (hl : GoodIn big l) : GoodIn big (c :: l) := fun w h => (List.mem_cons.mp h).elim (fun e => hc w (List.mem_cons.mpr (Or.inl e))) (hl w)
set_option maxRecDepth 20000 in
theorem ggL_law_act_c : GoodIn wsL_law [.code yL_act cL_act 9 (some .int)] := goodIn_r _ [154] (by decide +kernel) (by decide +kernel)
set_option maxRecDepth 20000 in
theorem ggL_law_act_r1 : GoodIn wsL_law wsL_act_r1 := goodIn_r _ [143, 144, 145, 146, 147, 72, 73, 74, 2, 75, 12, 16, 22, 76, 77, 78, 11, 79, 29, 80, 81, 82, 83, 84] (by decide +kernel) (by decide +kernel)
set_option maxRecDepth 20000 in
theorem ggL_law_act_r2 : GoodIn wsL_law wsL_act_r2 := goodIn_r _ [85, 86, 87, 31, 88, 89, 90, 91, 92, 93, 94, 95, 96, 97, 98, 33, 34, 99, 100, 101, 102, 103, 104, 105] (by decide +kernel) (by decide +kernel)
set_option maxRecDepth 20000 in
theorem ggL_law_act_r3 : GoodIn wsL_law wsL_act_r3 := goodIn_r _ [106, 107, 108, 109, 110, 111, 112, 113, 114, 115, 116, 117, 118, 119, 120, 35, 121, 122, 123, 124, 125, 126, 127, 128] (by decide +kernel) (by decide +kernel)
set_option maxRecDepth 20000 in
theorem ggL_law_act_r4 : GoodIn wsL_law wsL_act_r4 := goodIn_r _ [129, 130, 131, 132, 133, 134, 135, 136, 137, 138, 139, 140, 141, 142, 148, 149, 150, 151, 155, 156, 157, 158, 159, 160] (by decide +kernel) (by decide +kernel)
set_option maxRecDepth 20000 in
theorem ggL_law_act_r5 : GoodIn wsL_law wsL_act_r5 := goodIn_r _ [161, 162, 163, 164, 165, 166, 167, 168, 169, 170, 15, 171, 172, 173, 174, 175, 45, 46, 47, 176, 177, 178, 179, 180] (by decide +kernel) (by decide +kernel)
set_option maxRecDepth 20000 in
theorem ggL_law_act_r6 : GoodIn wsL_law wsL_act_r6 := goodIn_r _ [181, 182, 183, 32, 184, 185, 186, 187, 188, 189, 190, 191, 192, 193, 194, 195, 196, 197, 198, 199, 200, 201, 202, 203] (by decide +kernel) (by decide +kernel)
set_option maxRecDepth 20000 in
theorem ggL_law_act_r7 : GoodIn wsL_law wsL_act_r7 := goodIn_r _ [204, 205, 206, 207, 208, 209, 210, 211, 212, 213, 214, 215, 216, 217, 218, 219, 220, 221, 222, 223, 224, 225, 226, 227] (by decide +kernel) (by decide +kernel)
set_option maxRecDepth 20000 in
theorem ggL_law_act_r8 : GoodIn wsL_law wsL_act_r8 := goodIn_r _ [228, 229, 230, 231, 232, 233, 234, 235, 236, 237, 238, 239, 240, 241, 242, 243, 244, 245, 246, 247, 248, 249, 250, 251] (by decide +kernel) (by decide +kernel)
set_option maxRecDepth 20000 in
theorem ggL_law_act_r9 : GoodIn wsL_law wsL_act_r9 := goodIn_r _ [252, 253, 254, 255, 256, 257, 258, 259, 260, 261, 262, 263, 264, 265, 266, 267, 268, 269, 270, 271, 272, 273, 274, 275] (by decide +kernel) (by decide +kernel)
set_option maxRecDepth 20000 in
theorem ggL_law_act_r10 : GoodIn wsL_law wsL_act_r10 := goodIn_r _ [276, 277, 278, 279, 280, 281, 282, 283, 284, 285, 286, 287, 288, 289, 290, 291, 292, 293, 294, 295, 296, 297, 298, 299] (by decide +kernel) (by decide +kernel)
set_option maxRecDepth 20000 in
theorem ggL_law_act_r11 : GoodIn wsL_law wsL_act_r11 := goodIn_r _ [300, 301, 302] (by decide +kernel) (by decide +kernel)
set_option maxRecDepth 20000 in
theorem ggL_law_act_wsX40 : GoodIn wsL_law wsX40 := goodIn_r _ [386, 387, 388, 389, 390, 391, 392] (by decide +kernel) (by decide +kernel)
set_option maxRecDepth 20000 in
theorem ggL_law_act_wsX30 : GoodIn wsL_law wsX30 := goodIn_r _ [393, 394, 395, 396, 397, 398] (by decide +kernel) (by decide +kernel)
set_option maxRecDepth 20000 in
theorem ggL_law_act_wsX10 : GoodIn wsL_law wsX10 := goodIn_r _ [399, 400, 401] (by decide +kernel) (by decide +kernel)
set_option maxRecDepth 20000 in
theorem ggL_law_act_wsX20 : GoodIn wsL_law wsX20 := goodIn_r _ [402, 403, 404, 405, 406, 407] (by decide +kernel) (by decide +kernel)
set_option maxRecDepth 20000 in
theorem ggL_law_L_act : GoodIn wsL_law wsL_act := goodIn_cons ggL_law_act_c (goodIn_app (goodIn_app (goodIn_app (goodIn_app (goodIn_app ggL_law_act_r1 (goodIn_app ggL_law_act_r2 (goodIn_app ggL_law_act_r3 (goodIn_app ggL_law_act_r4 (goodIn_app ggL_law_act_r5 (goodIn_app ggL_law_act_r6 (goodIn_app ggL_law_act_r7 (goodIn_app ggL_law_act_r8 (goodIn_app ggL_law_act_r9 (goodIn_app ggL_law_act_r10 (ggL_law_act_r11))))))))))) ggL_law_act_wsX40) ggL_law_act_wsX30) ggL_law_act_wsX10) ggL_law_act_wsX20)
set_option maxRecDepth 20000 in
theorem gL_law_L_act : GoodIn wsL_law (va_wsS RL 89 yL_act wsL_act) := goodIn_app (goodIn_of _ (by decide +kernel)) ggL_law_L_act
set_option maxRecDepth 20000 in
theorem ggL_law_table_c : GoodIn wsL_law [.code yL_table cL_table 14 (some .boolean)] := goodIn_r _ [305] (by decide +kernel) (by decide +kernel)
set_option maxRecDepth 20000 in
theorem ggL_law_table_r1 : GoodIn wsL_law wsL_table_r1 := goodIn_r _ [72, 73, 74, 2, 75, 12, 16, 22, 76, 77, 78, 11, 79, 29, 80, 81, 82, 83, 84, 85, 86, 87, 31, 88] (by decide +kernel) (by decide +kernel)
set_option maxRecDepth 20000 in
theorem ggL_law_table_r2 : GoodIn wsL_law wsL_table_r2 := goodIn_r _ [89, 90, 91, 92, 93, 94, 95, 96, 97, 98, 33, 34, 99, 100, 101, 102, 103, 104, 105, 106, 107, 108, 109, 110] (by decide +kernel) (by decide +kernel)
set_option maxRecDepth 20000 in
theorem ggL_law_table_r3 : GoodIn wsL_law wsL_table_r3 := goodIn_r _ [111, 112, 113, 114, 115, 116, 117, 118, 119, 120, 35, 121, 122, 123, 124, 125, 126, 127, 128, 129, 130, 131, 132, 133] (by decide +kernel) (by decide +kernel)
set_option maxRecDepth 20000 in
theorem ggL_law_table_r4 : GoodIn wsL_law wsL_table_r4 := goodIn_r _ [134, 135, 136, 137, 138, 139, 140, 141, 142, 306, 307, 308, 309, 310, 311, 312, 313, 194, 314, 250, 251, 252, 253, 254] (by decide +kernel) (by decide +kernel)
set_option maxRecDepth 20000 in
theorem ggL_law_table_r5 : GoodIn wsL_law wsL_table_r5 := goodIn_r _ [255, 256, 257, 258, 188, 189, 259, 260, 227, 228, 229, 32, 315, 316, 317, 318, 319, 320, 321, 322, 323, 324, 325, 326] (by decide +kernel) (by decide +kernel)
set_option maxRecDepth 20000 in
theorem ggL_law_table_r6 : GoodIn wsL_law wsL_table_r6 := goodIn_r _ [242, 243, 244, 245, 327, 328, 329, 330, 331, 332, 333, 334, 335, 336, 337, 226, 338, 339, 340, 341, 342, 343, 238, 239] (by decide +kernel) (by decide +kernel)
set_option maxRecDepth 20000 in
theorem ggL_law_table_r7 : GoodIn wsL_law wsL_table_r7 := goodIn_r _ [240, 241, 246, 247, 248, 249, 158, 159, 145, 160, 161, 162, 163, 344, 345, 346, 347, 348, 291, 292, 293, 349, 350, 351] (by decide +kernel) (by decide +kernel)
set_option maxRecDepth 20000 in
theorem ggL_law_table_r8 : GoodIn wsL_law wsL_table_r8 := goodIn_r _ [352, 353, 354, 355, 356, 357, 358, 359, 360, 361, 362, 363, 364, 365, 366, 367, 368, 369, 370, 371, 372, 373, 302, 374] (by decide +kernel) (by decide +kernel)
set_option maxRecDepth 20000 in
theorem ggL_law_table_r9 : GoodIn wsL_law wsL_table_r9 := goodIn_r _ [375, 376, 377, 378, 379, 380, 381, 382, 383, 384, 385] (by decide +kernel) (by decide +kernel)
set_option maxRecDepth 20000 in
theorem ggL_law_table_wsX40 : GoodIn wsL_law wsX40 := goodIn_r _ [386, 387, 388, 389, 390, 391, 392] (by decide +kernel) (by decide +kernel)
set_option maxRecDepth 20000 in
theorem ggL_law_table_wsX30 : GoodIn wsL_law wsX30 := goodIn_r _ [393, 394, 395, 396, 397, 398] (by decide +kernel) (by decide +kernel)
set_option maxRecDepth 20000 in
theorem ggL_law_table_wsX10 : GoodIn wsL_law wsX10 := goodIn_r _ [399, 400, 401] (by decide +kernel) (by decide +kernel)
set_option maxRecDepth 20000 in
theorem ggL_law_table_wsX20 : GoodIn wsL_law wsX20 := goodIn_r _ [402, 403, 404, 405, 406, 407] (by decide +kernel) (by decide +kernel)
set_option maxRecDepth 20000 in
theorem ggL_law_L_table : GoodIn wsL_law wsL_table := goodIn_cons ggL_law_table_c (goodIn_app (goodIn_app (goodIn_app (goodIn_app (goodIn_app ggL_law_table_r1 (goodIn_app ggL_law_table_r2 (goodIn_app ggL_law_table_r3 (goodIn_app ggL_law_table_r4 (goodIn_app ggL_law_table_r5 (goodIn_app ggL_law_table_r6 (goodIn_app ggL_law_table_r7 (goodIn_app ggL_law_table_r8 (ggL_law_table_r9))))))))) ggL_law_table_wsX40) ggL_law_table_wsX30) ggL_law_table_wsX10) ggL_law_table_wsX20)
set_option maxRecDepth 20000 in
theorem gL_law_L_table : GoodIn wsL_law (va_wsS RL 93 yL_table wsL_table) := goodIn_app (goodIn_of _ (by decide +kernel)) ggL_law_L_table
end
section
def bI (P : Prop) [Decidable P] : Int32 := if P then 1 else 0
theorem bI_1 {P : Prop} [Decidable P] (h : P) : bI P = 1 := if_pos h
theorem bI_0 {P : Prop} [Decidable P] (h : ¬ P) : bI P = 0 := if_neg h
theorem bI_eq {P : Prop} [Decidable P] : bI P = 0 ↔ ¬ P := by
  by_cases h : P
  · rw [bI_1 h]; exact ⟨fun z => absurd z (by decide), fun z => absurd h z⟩
  · rw [bI_0 h]; exact ⟨fun _ => h, fun _ => rfl⟩
theorem bI_ne {P : Prop} [Decidable P] : ¬ bI P = 0 ↔ P := by
  by_cases h : P
  · rw [bI_1 h]; exact ⟨fun _ => h, fun _ => by decide⟩
  · rw [bI_0 h]; exact ⟨fun z => absurd rfl z, fun z => absurd z h⟩
theorem bI_nar {P : Prop} [Decidable P] : narrow .boolean (.int (bI P)) = .int (bI P) := by
  by_cases h : P
  · rw [bI_1 h]; rfl
  · rw [bI_0 h]; rfl
theorem bI_congr {P Q : Prop} [Decidable P] [Decidable Q] (h : P ↔ Q) : bI P = bI Q := by
  by_cases hq : Q
  · rw [bI_1 hq, bI_1 (h.mpr hq)]
  · rw [bI_0 hq, bI_0 (fun z => hq (h.mp z))]
theorem cLt {x y : Int32} {a b : Int} (hx : x.toInt = a) (hy : y.toInt = b) : x < y ↔ a < b := by rw [Int32.lt_iff_toInt_lt, hx, hy]
theorem cLe {x y : Int32} {a b : Int} (hx : x.toInt = a) (hy : y.toInt = b) : x ≤ y ↔ a ≤ b := by rw [Int32.le_iff_toInt_le, hx, hy]
theorem cEq {x y : Int32} {a b : Int} (hx : x.toInt = a) (hy : y.toInt = b) : x = y ↔ a = b := by rw [← hx, ← hy, Int32.toInt_inj]
theorem cNe {x y : Int32} {P : Prop} (h : x = y ↔ P) : (¬ x = y) ↔ ¬ P := not_congr h
/-- a number that is an index below n -/
abbrev xin (x : Int32) (n : Nat) : Prop := 0 ≤ x.toInt ∧ x.toInt < (n : Int)
theorem xin_of {x : Int32} {n : Nat} (h : xin x n) (hn : n < 2 ^ 31) : ∃ j : Nat, j < n ∧ x = nI j := vp_in_of (vp_in_iff.mpr h) hn
theorem xin_nI {j n : Nat} (h : j < n) (hn : n < 2 ^ 31) : xin (nI j) n := vp_in_iff.mp (vp_in_nI h hn)
abbrev xC : Type := Nat → va_E
/-- the classes, the cells' addresses, the array classes; the script: its address, its length, its numbers -/
abbrev xE : Type := va_G × (Nat → Nat) × (Nat → ClassId) × (Nat × Nat × (Nat → Int32))
abbrev xsb (E : xE) : Nat := E.2.2.2.1
abbrev xsl (E : xE) : Nat := E.2.2.2.2.1
abbrev xsx (E : xE) : Nat → Int32 := E.2.2.2.2.2
def xty (E : xE) : List (ClassId × FieldType) := [(E.2.2.1 0, .char), (E.2.2.1 1, .int), (E.2.2.1 2, .object "ColumnSeasons$Command"), (E.2.2.1 3, .object "ColumnSeasons$Table")]
def xnest : List Cond := [.fieldLinkNest "ColumnSeasons" 118 "ColumnSeasons$Table" "rows" "I" "ColumnSeasons", .fieldLinkNest "ColumnSeasons" 114 "ColumnSeasons$History" "length" "I" "ColumnSeasons", .fieldLinkNest "ColumnSeasons" 83 "ColumnSeasons$Script" "length" "I" "ColumnSeasons", .methodLinkNest "ColumnSeasons$Table" 43 ⟨"ColumnSeasons", "isName", "(I)Z"⟩ "ColumnSeasons", .methodLinkNest "ColumnSeasons$Table" 47 ⟨"ColumnSeasons", "isKind", "(I)Z"⟩ "ColumnSeasons", .methodLinkNest "ColumnSeasons$Table" 50 ⟨"ColumnSeasons", "isOfKind", "(II)Z"⟩ "ColumnSeasons", .methodLinkNest "ColumnSeasons$Table" 69 ⟨"ColumnSeasons", "castTo", "(II)I"⟩ "ColumnSeasons", .methodLinkNest "ColumnSeasons$Table" 105 ⟨"ColumnSeasons", "castLoses", "(III)Z"⟩ "ColumnSeasons", .methodLinkNest "ColumnSeasons$Table" 115 ⟨"ColumnSeasons", "hasName", "(II)Z"⟩ "ColumnSeasons"]
theorem xnest_form : ∀ w ∈ xnest, (∃ a i x h, w = Cond.methodLinkNest a i x h) ∨ (∃ a i b n d h, w = Cond.fieldLinkNest a i b n d h) :=
  List.forall_mem_cons.mpr ⟨Or.inr ⟨_, _, _, _, _, _, rfl⟩, List.forall_mem_cons.mpr ⟨Or.inr ⟨_, _, _, _, _, _, rfl⟩, List.forall_mem_cons.mpr ⟨Or.inr ⟨_, _, _, _, _, _, rfl⟩, List.forall_mem_cons.mpr ⟨Or.inl ⟨_, _, _, _, rfl⟩, List.forall_mem_cons.mpr ⟨Or.inl ⟨_, _, _, _, rfl⟩, List.forall_mem_cons.mpr ⟨Or.inl ⟨_, _, _, _, rfl⟩, List.forall_mem_cons.mpr ⟨Or.inl ⟨_, _, _, _, rfl⟩, List.forall_mem_cons.mpr ⟨Or.inl ⟨_, _, _, _, rfl⟩, List.forall_mem_cons.mpr ⟨Or.inl ⟨_, _, _, _, rfl⟩, fun _ h => absurd h List.not_mem_nil⟩⟩⟩⟩⟩⟩⟩⟩⟩
def xZ (E : xE) (A : Nat → Prop) (U : State) (H : Heap) : Prop := (∀ w ∈ xnest, va_Nw w U) ∧ va_X (xsb E) (xsl E) (xsx E) U H ∧ ¬ A (xsb E)
theorem va_X_lt {b L : Nat} {xs : Nat → Int32} {U : State} {H : Heap} (h : va_X b L xs U H) : b < H.size := by
  obtain ⟨scr, h1, hr⟩ := h
  exact (Array.getElem?_eq_some_iff.mp h1).1
theorem xZ_moved {E : xE} {A B : Nat → Prop} {s U : State} {H : Heap} (h : xZ E A s s.heap) (hq : ∀ a : Nat, a < s.heap.size → ¬ A a → H[a]? = s.heap[a]?) (hBA : ∀ q, B q → A q) (hU : U.heap = H) (hW : s.WarmedH U.vm) : xZ E B U U.heap := by
  obtain ⟨h1, h2, h3⟩ := h
  rw [hU]
  refine ⟨fun w hw => ?_, (h2.kept (hq _ (va_X_lt h2) h3)).moved hW.alike, fun z => h3 (hBA _ z)⟩
  rcases xnest_form w hw with ⟨a, i, x, hh, rfl⟩ | ⟨a, i, b, n, d, hh, rfl⟩
  · exact va_Nw.warmM hW (h1 _ hw)
  · exact va_Nw.warmF hW (h1 _ hw)
theorem xZ_calling {E : xE} {A : Nat → Prop} {U : State} {g : JFrame} {mk : MethodId} {a : Array Value} (h : xZ E A U U.heap) : xZ E A (U.calling g mk a) (U.calling g mk a).heap := by
  obtain ⟨h1, h2, h3⟩ := h
  refine ⟨fun w hw => ?_, va_X.moved (u := U) (U := U.calling g mk a) (Vm.Alike.refl U.vm) h2, h3⟩
  rcases xnest_form w hw with ⟨a, i, x, hh, rfl⟩ | ⟨a, i, b, n, d, hh, rfl⟩
  · exact va_Nw.same rfl rfl (h1 _ hw)
  · exact va_Nw.same rfl rfl (h1 _ hw)
def xw (E : xE) (C : xC) : va_W := (List.range 61).map (fun i => (E.2.1 i, C i))
def xA (E : xE) : Nat → Prop := fun q => ∃ i : Nat, i < 61 ∧ q = E.2.1 i
def xW (E : xE) (C : xC) (U : State) : Prop := va_P E.1 vwCl (xw E C) U.heap ∧ va_K E.1 vwCl (xty E) U ∧ va_D (fun _ => True) (xw E C) ∧ xZ E (xA E) U U.heap
theorem xw_get {E : xE} {C : xC} {i : Nat} (h : i < 61) : (xw E C)[i]? = some (E.2.1 i, C i) := by
  unfold xw
  rw [List.getElem?_map, List.getElem?_range h]
  rfl
theorem xw_len {E : xE} {C : xC} : (xw E C).length = 61 := by
  unfold xw
  rw [List.length_map, List.length_range]
theorem xw_set {E : xE} {C : xC} {i : Nat} (e : va_E) : (xw E C).set i (E.2.1 i, e) = xw E (va_up C i e) := by
  apply List.ext_getElem?
  intro j
  by_cases hij : j = i
  · subst hij
    by_cases hj : j < 61
    · rw [List.getElem?_set_self (by rw [xw_len]; exact hj), xw_get hj, va_up, if_pos rfl]
    · rw [List.getElem?_eq_none (by rw [List.length_set, xw_len]; omega), List.getElem?_eq_none (by rw [xw_len]; omega)]
  · rw [List.getElem?_set_ne (Ne.symm hij)]
    by_cases hj : j < 61
    · rw [xw_get hj, xw_get hj, va_up, if_neg hij]
    · rw [List.getElem?_eq_none (by rw [xw_len]; omega), List.getElem?_eq_none (by rw [xw_len]; omega)]
theorem xw_in {E : xE} {C : xC} {k : Nat} {q : Nat × va_E} (h : (xw E C)[k]? = some q) : k < 61 ∧ q = (E.2.1 k, C k) := by
  have hk : k < 61 := by
    have := (List.getElem?_eq_some_iff.mp h).1
    rw [xw_len] at this
    exact this
  exact ⟨hk, (Option.some.inj ((xw_get hk).symm.trans h)).symm⟩
theorem xw_D {E : xE} {C C' : xC} {A B : Nat → Prop} (h : va_D A (xw E C)) (hB : ∀ i : Nat, i < 61 → B (E.2.1 i)) : va_D B (xw E C') := by
  refine ⟨fun i j p q hi hj hpq => ?_, fun k q hk => ?_⟩
  · obtain ⟨hi1, rfl⟩ := xw_in hi
    obtain ⟨hj1, rfl⟩ := xw_in hj
    exact h.1 i j _ _ (xw_get hi1) (xw_get hj1) hpq
  · obtain ⟨hk1, rfl⟩ := xw_in hk
    exact hB k hk1
def xQ (E : xE) (post : Option Value → xC → Prop) : Array Value → State → Outcome → State → Prop := fun _ st oc t => (∃ (v : Option Value) (C' : xC), oc = .returned v ∧ post v C' ∧ xW E C' t) ∧ va_F (xA E) st t
/-- a contract: over the whole pool of cells -/
def xM (E : xE) (l : Launch) (y : MethodName) (ws : List Cond) (fr lo : Nat) (av : List Value) (C : xC) (post : Option Value → xC → Prop) : Prop :=
  Met l y ws { frames := fr, cells := 0, slots := 0, locals := lo } (va_Pc av (xW E C)) (xQ E post) 0 0 (xA E)
/-- a contract of a method that reads alone -/
abbrev xR (E : xE) (l : Launch) (y : MethodName) (ws : List Cond) (fr lo : Nat) (av : List Value) (C : xC) (r : Int32) : Prop := xM E l y ws fr lo av C (fun v C' => v = some (.int r) ∧ C' = C)
def xS (p : Program) (s : State) (m : MethodId) (args : Array Value) (meth : Method) (c : Code) (cc : ByteArray) (nL : Nat) (Ts : List Cond) (own : String) (E : xE) (A : Nat → Prop) : Prop :=
  CallFix p m c cc nL s args Ts own ∧ meth.locks = false ∧ va_K E.1 vwCl (xty E) s ∧ xZ E A s s.heap
def xY (p : Program) (l : Launch) (e : Env) (R : Room) (s : State) (m : MethodId) (args : Array Value) (below : List Frame) (meth : Method) (c : Code) (E : xE) (A : Nat → Prop) (nL cells slots : Nat) (Q : State → Prop) (C : xC) (pc : Nat) (lv : List (Nat × Value)) (st : List Value) : Prop :=
  ∀ (H : Heap) (locs : List Loc) (ls : Array Slot), va_P E.1 vwCl (xw E C) H → va_D A (xw E C) → va_S A s.heap H locs → lv_has ls nL lv → W p l e R s m args below meth c H locs cells slots Q (F0 m pc ls st)
theorem xM.weaken {E : xE} {l : Launch} {y : MethodName} {ws : List Cond} {fr lo : Nat} {av : List Value} {C : xC} {post post' : Option Value → xC → Prop} (h : xM E l y ws fr lo av C post) (hp : ∀ v C', post v C' → post' v C') : xM E l y ws fr lo av C post' := by
  intro p e ha hc hk s m args below hf hpre happ hh
  obtain ⟨k, o, h1, h2, h3, h4, h5⟩ := h p e ha hc hk s m args below hf hpre happ hh
  obtain ⟨⟨v, C', g1, g2, g3⟩, g4⟩ := h4
  exact ⟨k, o, h1, h2, h3, ⟨⟨v, C', g1, hp v C' g2, g3⟩, g4⟩, h5⟩
theorem xM_ofY {E : xE} {l : Launch} {y : MethodName} {ws ws' : List Cond} {fr lo : Nat} {av : List Value} {C : xC} {post : Option Value → xC → Prop} {cc : ByteArray} {maxL : Nat} {ret : Option FieldType} (hy : plainName y.cls = true) (hw : ws = Cond.code y cc maxL ret :: ws') (hn : (lg_sl av).length ≤ maxL)
    (body : ∀ (p : Program) (e : Env) (s : State) (m : MethodId) (args : Array Value) (below : List Frame) (meth : Method) (c : Code), xS p s m args meth c cc maxL ws y.cls E (xA E) → meth.sig.returnType = ret → xY p l e { frames := fr, cells := 0, slots := 0, locals := lo } s m args below meth c E (xA E) maxL 0 0 (MQ below (xQ E post) args s 0 0 (xA E)) C 0 (lv_args 0 av) []) : xM E l y ws fr lo av C post := by
  refine Met.ofW (cc := cc) (maxL := maxL) (ret := ret) hy hw ?_
  intro p e s m args below meth c s₁ B hml hv
  obtain ⟨rfl, hP, hK, hD, hZ⟩ := hv
  have hts := atoms_spec (ws := ws) B.pre
  have hown : s.vm.findClass y.cls = some m.cls := findClass_of_methodNamed B.named
  rw [lg_entry_eq]
  have hl := lv_entry av (n := maxL) hn
  exact body p e s m av.toArray below meth c ⟨⟨B.exec, B.bytes, hml, hown, hts⟩, B.notSynchronized, hK, hZ⟩ B.returns s.heap [] _ hP (xw_D hD (fun i hi => ⟨i, hi, rfl⟩)) va_S.rf hl
section XR
variable {p : Program} {l : Launch} {e : Env} {R : Room} {s : State} {m : MethodId} {args : Array Value} {below : List Frame} {meth : Method} {c : Code} {cc : ByteArray} {nL : Nat} {Ts : List Cond} {own : String} {E : xE} {A : Nat → Prop} {cells slots : Nat} {Q : State → Prop} {C : xC} {pc : Nat} {lv : List (Nat × Value)} {st : List Value}
theorem y_iconst (X : xS p s m args meth c cc nL Ts own E A) {n : Int} {v : Int32} (d : decode cc pc = .ok (.iconst n, 1)) (hv : Int32.ofInt n = v) (k : xY p l e R s m args below meth c E A nL cells slots Q (C) (pc + 1) (lv) (.int v :: st)) : xY p l e R s m args below meth c E A nL cells slots Q (C) (pc) (lv) (st) := by
  intro H locs ls hP hD hS h
  exact lv_iconst X.1.1 X.1.2.1 d hv (k H locs ls hP hD hS h)
theorem y_bipush (X : xS p s m args meth c cc nL Ts own E A) {n : Int} {v : Int32} (d : decode cc pc = .ok (.bipush n, 2)) (hv : (Int8.ofInt n).toInt32 = v) (k : xY p l e R s m args below meth c E A nL cells slots Q (C) (pc + 2) (lv) (.int v :: st)) : xY p l e R s m args below meth c E A nL cells slots Q (C) (pc) (lv) (st) := by
  intro H locs ls hP hD hS h
  exact lv_bipush X.1.1 X.1.2.1 d hv (k H locs ls hP hD hS h)
theorem y_sipush (X : xS p s m args meth c cc nL Ts own E A) {n : Int} {v : Int32} (d : decode cc pc = .ok (.sipush n, 3)) (hv : (Int16.ofInt n).toInt32 = v) (k : xY p l e R s m args below meth c E A nL cells slots Q (C) (pc + 3) (lv) (.int v :: st)) : xY p l e R s m args below meth c E A nL cells slots Q (C) (pc) (lv) (st) := by
  intro H locs ls hP hD hS h
  exact lv_sipush X.1.1 X.1.2.1 d hv (k H locs ls hP hD hS h)
theorem y_iload_n (X : xS p s m args meth c cc nL Ts own E A) {f : Fin 4} {x : Int32} (d : decode cc pc = .ok (.iload_n f, 1)) (j : Nat) (hl : lv[j]? = some ((f : Nat), .int x)) (k : xY p l e R s m args below meth c E A nL cells slots Q (C) (pc + 1) (lv) (.int x :: st)) : xY p l e R s m args below meth c E A nL cells slots Q (C) (pc) (lv) (st) := by
  intro H locs ls hP hD hS h
  exact lv_iload_n X.1.1 X.1.2.1 d rfl (lv_at h j hl) (k H locs ls hP hD hS h)
theorem y_iload (X : xS p s m args meth c cc nL Ts own E A) {i : Nat} {x : Int32} (d : decode cc pc = .ok (.iload i, 2)) (j : Nat) (hl : lv[j]? = some (i, .int x)) (k : xY p l e R s m args below meth c E A nL cells slots Q (C) (pc + 2) (lv) (.int x :: st)) : xY p l e R s m args below meth c E A nL cells slots Q (C) (pc) (lv) (st) := by
  intro H locs ls hP hD hS h
  exact lv_iload X.1.1 X.1.2.1 d (lv_at h j hl) (k H locs ls hP hD hS h)
theorem y_aload_n (X : xS p s m args meth c cc nL Ts own E A) {f : Fin 4} {x : Nat} (d : decode cc pc = .ok (.aload_n f, 1)) (j : Nat) (hl : lv[j]? = some ((f : Nat), .ref x)) (k : xY p l e R s m args below meth c E A nL cells slots Q (C) (pc + 1) (lv) (.ref x :: st)) : xY p l e R s m args below meth c E A nL cells slots Q (C) (pc) (lv) (st) := by
  intro H locs ls hP hD hS h
  exact lv_aload_n X.1.1 X.1.2.1 d rfl (lv_at h j hl) (k H locs ls hP hD hS h)
theorem y_istore_n (X : xS p s m args meth c cc nL Ts own E A) (lv2 : List (Nat × Value)) {f : Fin 4} {i : Nat} {x : Int32} (d : decode cc pc = .ok (.istore_n f, 1)) (hi : (f : Nat) = i) (hn : i < nL) (hl : (i, Value.int x) :: lv.filter (fun q => !(q.1 == i) && !(q.1 + 1 == i && q.2.category == 2)) = lv2) (k : xY p l e R s m args below meth c E A nL cells slots Q (C) (pc + 1) (lv2) (st)) : xY p l e R s m args below meth c E A nL cells slots Q (C) (pc) (lv) (.int x :: st) := by
  intro H locs ls hP hD hS h
  exact lv_istore_n X.1.1 X.1.2.1 d hi h hn hl (fun ls2 h2 => k H locs ls2 hP hD hS h2)
theorem y_istore (X : xS p s m args meth c cc nL Ts own E A) (lv2 : List (Nat × Value)) {i : Nat} {x : Int32} (d : decode cc pc = .ok (.istore i, 2)) (hn : i < nL) (hl : (i, Value.int x) :: lv.filter (fun q => !(q.1 == i) && !(q.1 + 1 == i && q.2.category == 2)) = lv2) (k : xY p l e R s m args below meth c E A nL cells slots Q (C) (pc + 2) (lv2) (st)) : xY p l e R s m args below meth c E A nL cells slots Q (C) (pc) (lv) (.int x :: st) := by
  intro H locs ls hP hD hS h
  exact lv_istore X.1.1 X.1.2.1 d h hn hl (fun ls2 h2 => k H locs ls2 hP hD hS h2)
theorem y_astore_n (X : xS p s m args meth c cc nL Ts own E A) (lv2 : List (Nat × Value)) {f : Fin 4} {i : Nat} {x : Nat} (d : decode cc pc = .ok (.astore_n f, 1)) (hi : (f : Nat) = i) (hn : i < nL) (hl : (i, Value.ref x) :: lv.filter (fun q => !(q.1 == i) && !(q.1 + 1 == i && q.2.category == 2)) = lv2) (k : xY p l e R s m args below meth c E A nL cells slots Q (C) (pc + 1) (lv2) (st)) : xY p l e R s m args below meth c E A nL cells slots Q (C) (pc) (lv) (.ref x :: st) := by
  intro H locs ls hP hD hS h
  exact lv_astore_n X.1.1 X.1.2.1 d hi h hn hl (fun ls2 h2 => k H locs ls2 hP hD hS h2)
theorem y_iinc (X : xS p s m args meth c cc nL Ts own E A) (lv2 : List (Nat × Value)) {i : Nat} {n : Int} {y x : Int32} (d : decode cc pc = .ok (.iinc i n, 3)) (j : Nat) (hk : lv[j]? = some (i, .int y)) (hv : y + Int32.ofInt n = x) (hn : i < nL) (hl : (i, Value.int x) :: lv.filter (fun q => !(q.1 == i) && !(q.1 + 1 == i && q.2.category == 2)) = lv2) (k : xY p l e R s m args below meth c E A nL cells slots Q (C) (pc + 3) (lv2) (st)) : xY p l e R s m args below meth c E A nL cells slots Q (C) (pc) (lv) (st) := by
  intro H locs ls hP hD hS h
  exact lv_iinc X.1.1 X.1.2.1 d h hk hv hn hl (fun ls2 h2 => k H locs ls2 hP hD hS h2)
theorem y_lv (lv2 : List (Nat × Value)) (hl : lv = lv2) (k : xY p l e R s m args below meth c E A nL cells slots Q (C) (pc) (lv2) (st)) : xY p l e R s m args below meth c E A nL cells slots Q (C) (pc) (lv) (st) := by
  subst hl
  exact k
theorem y_pick (ks : List Nat) (lv2 : List (Nat × Value)) (hl : lv_pick lv ks = lv2) (k : xY p l e R s m args below meth c E A nL cells slots Q (C) (pc) (lv2) (st)) : xY p l e R s m args below meth c E A nL cells slots Q (C) (pc) (lv) (st) := by
  intro H locs ls hP hD hS h
  exact k H locs ls hP hD hS (lv_sub h ks hl)
theorem y_mem (C2 : xC) (hC : C = C2) (k : ∀ C1 : xC, C1 = C2 → xY p l e R s m args below meth c E A nL cells slots Q (C1) (pc) (lv) (st)) : xY p l e R s m args below meth c E A nL cells slots Q (C) (pc) (lv) (st) := k C hC
theorem y_topi {x : Int32} (k : ∀ y : Int32, y = x → xY p l e R s m args below meth c E A nL cells slots Q (C) (pc) (lv) (.int y :: st)) : xY p l e R s m args below meth c E A nL cells slots Q (C) (pc) (lv) (.int x :: st) := k x rfl
theorem y_iadd (X : xS p s m args meth c cc nL Ts own E A) {x y z : Int32} (d : decode cc pc = .ok (.iadd, 1)) (hv : x + y = z) (k : xY p l e R s m args below meth c E A nL cells slots Q (C) (pc + 1) (lv) (.int z :: st)) : xY p l e R s m args below meth c E A nL cells slots Q (C) (pc) (lv) (.int y :: .int x :: st) := by
  intro H locs ls hP hD hS h
  subst hv; exact lv_iadd X.1.1 X.1.2.1 d (k H locs ls hP hD hS h)
theorem y_isub (X : xS p s m args meth c cc nL Ts own E A) {x y z : Int32} (d : decode cc pc = .ok (.isub, 1)) (hv : x - y = z) (k : xY p l e R s m args below meth c E A nL cells slots Q (C) (pc + 1) (lv) (.int z :: st)) : xY p l e R s m args below meth c E A nL cells slots Q (C) (pc) (lv) (.int y :: .int x :: st) := by
  intro H locs ls hP hD hS h
  subst hv; exact lv_isub X.1.1 X.1.2.1 d (k H locs ls hP hD hS h)
theorem y_imul (X : xS p s m args meth c cc nL Ts own E A) {x y z : Int32} (d : decode cc pc = .ok (.imul, 1)) (hv : x * y = z) (k : xY p l e R s m args below meth c E A nL cells slots Q (C) (pc + 1) (lv) (.int z :: st)) : xY p l e R s m args below meth c E A nL cells slots Q (C) (pc) (lv) (.int y :: .int x :: st) := by
  intro H locs ls hP hD hS h
  subst hv; exact lv_imul X.1.1 X.1.2.1 d (k H locs ls hP hD hS h)
theorem y_iand (X : xS p s m args meth c cc nL Ts own E A) {x y z : Int32} (d : decode cc pc = .ok (.iand, 1)) (hv : x &&& y = z) (k : xY p l e R s m args below meth c E A nL cells slots Q (C) (pc + 1) (lv) (.int z :: st)) : xY p l e R s m args below meth c E A nL cells slots Q (C) (pc) (lv) (.int y :: .int x :: st) := by
  intro H locs ls hP hD hS h
  subst hv; exact lv_iand X.1.1 X.1.2.1 d (k H locs ls hP hD hS h)
theorem y_ior (X : xS p s m args meth c cc nL Ts own E A) {x y z : Int32} (d : decode cc pc = .ok (.ior, 1)) (hv : x ||| y = z) (k : xY p l e R s m args below meth c E A nL cells slots Q (C) (pc + 1) (lv) (.int z :: st)) : xY p l e R s m args below meth c E A nL cells slots Q (C) (pc) (lv) (.int y :: .int x :: st) := by
  intro H locs ls hP hD hS h
  subst hv; exact lv_ior X.1.1 X.1.2.1 d (k H locs ls hP hD hS h)
theorem y_ishl (X : xS p s m args meth c cc nL Ts own E A) {x y z : Int32} (d : decode cc pc = .ok (.ishl, 1)) (hv : x <<< (y &&& 31) = z) (k : xY p l e R s m args below meth c E A nL cells slots Q (C) (pc + 1) (lv) (.int z :: st)) : xY p l e R s m args below meth c E A nL cells slots Q (C) (pc) (lv) (.int y :: .int x :: st) := by
  intro H locs ls hP hD hS h
  subst hv; exact lv_ishl X.1.1 X.1.2.1 d (k H locs ls hP hD hS h)
theorem y_ishr (X : xS p s m args meth c cc nL Ts own E A) {x y z : Int32} (d : decode cc pc = .ok (.ishr, 1)) (hv : x >>> (y &&& 31) = z) (k : xY p l e R s m args below meth c E A nL cells slots Q (C) (pc + 1) (lv) (.int z :: st)) : xY p l e R s m args below meth c E A nL cells slots Q (C) (pc) (lv) (.int y :: .int x :: st) := by
  intro H locs ls hP hD hS h
  subst hv; exact lv_ishr X.1.1 X.1.2.1 d (k H locs ls hP hD hS h)
theorem y_iushr (X : xS p s m args meth c cc nL Ts own E A) {x y z : Int32} (d : decode cc pc = .ok (.iushr, 1)) (hv : (x.toUInt32 >>> (y.toUInt32 &&& Int32.toUInt32 31)).toInt32 = z) (k : xY p l e R s m args below meth c E A nL cells slots Q (C) (pc + 1) (lv) (.int z :: st)) : xY p l e R s m args below meth c E A nL cells slots Q (C) (pc) (lv) (.int y :: .int x :: st) := by
  intro H locs ls hP hD hS h
  exact lv_iushr X.1.1 X.1.2.1 d hv (k H locs ls hP hD hS h)
theorem y_ldcw (X : xS p s m args meth c cc nL Ts own E A) {index : Nat} {v : Int32} (d : decode cc pc = .ok (.ldc_w index, 3)) (hc : Cond.constant own index v ∈ Ts) (k : xY p l e R s m args below meth c E A nL cells slots Q (C) (pc + 3) (lv) (.int v :: st)) : xY p l e R s m args below meth c E A nL cells slots Q (C) (pc) (lv) (st) := by
  intro H locs ls hP hD hS h
  exact lv_ldcw X.1.1 X.1.2.1 X.1.2.2.2.1 (X.1.2.2.2.2 _ hc) d (k H locs ls hP hD hS h)
theorem y_ldc (X : xS p s m args meth c cc nL Ts own E A) {index : Nat} {v : Int32} (d : decode cc pc = .ok (.ldc index, 2)) (hc : Cond.constant own index v ∈ Ts) (k : xY p l e R s m args below meth c E A nL cells slots Q (C) (pc + 2) (lv) (.int v :: st)) : xY p l e R s m args below meth c E A nL cells slots Q (C) (pc) (lv) (st) := by
  intro H locs ls hP hD hS h
  exact lv_ldc X.1.1 X.1.2.1 X.1.2.2.2.1 (X.1.2.2.2.2 _ hc) d (k H locs ls hP hD hS h)
theorem y_idiv (X : xS p s m args meth c cc nL Ts own E A) {x y z : Int32} (d : decode cc pc = .ok (.idiv, 1)) (hne : ¬ y = 0) (hv : x / y = z) (k : xY p l e R s m args below meth c E A nL cells slots Q (C) (pc + 1) (lv) (.int z :: st)) : xY p l e R s m args below meth c E A nL cells slots Q (C) (pc) (lv) (.int y :: .int x :: st) := by
  intro H locs ls hP hD hS h
  subst hv; exact lv_idiv X.1.1 X.1.2.1 d hne (k H locs ls hP hD hS h)
theorem y_sld (X : xS p s m args meth c cc nL Ts own E A) {j : Nat} {x z : Int32} (d : decode cc pc = .ok (.iaload, 1)) (hx : x = nI j) (hj : j < xsl E) (hL : xsl E < 2 ^ 31) (hz : xsx E j = z) (k : xY p l e R s m args below meth c E A nL cells slots Q (C) (pc + 1) (lv) (.int z :: st)) : xY p l e R s m args below meth c E A nL cells slots Q (C) (pc) (lv) (.int x :: .ref (xsb E) :: st) := by
  intro H locs ls hP hD hS h
  subst hx; subst hz; exact va_sld X.1.1 X.1.2.1 X.2.2.2.2.1 (va_X_lt X.2.2.2.2.1) X.2.2.2.2.2 hS (vp_in_nI hj hL) d (by rw [nI_clamp (Nat.lt_trans hj hL)]; exact k H locs ls hP hD hS h)
theorem y_slen (X : xS p s m args meth c cc nL Ts own E A) (d : decode cc pc = .ok (.arraylength, 1)) (k : xY p l e R s m args below meth c E A nL cells slots Q (C) (pc + 1) (lv) (.int (nI (xsl E)) :: st)) : xY p l e R s m args below meth c E A nL cells slots Q (C) (pc) (lv) (.ref (xsb E) :: st) := by
  intro H locs ls hP hD hS h
  exact va_slen X.1.1 X.1.2.1 X.2.2.2.2.1 (va_X_lt X.2.2.2.2.1) X.2.2.2.2.2 hS d (k H locs ls hP hD hS h)
theorem y_st (X : xS p s m args meth c cc nL Ts own E A) (st2 : List Value) (hs : st = st2) (k : xY p l e R s m args below meth c E A nL cells slots Q (C) (pc) (lv) (st2)) : xY p l e R s m args below meth c E A nL cells slots Q (C) (pc) (lv) (st) := by
  intro H locs ls hP hD hS h
  subst hs; exact k H locs ls hP hD hS h
theorem y_irem (X : xS p s m args meth c cc nL Ts own E A) {x y z : Int32} (d : decode cc pc = .ok (.irem, 1)) (hne : ¬ y = 0) (hv : x - x / y * y = z) (k : xY p l e R s m args below meth c E A nL cells slots Q (C) (pc + 1) (lv) (.int z :: st)) : xY p l e R s m args below meth c E A nL cells slots Q (C) (pc) (lv) (.int y :: .int x :: st) := by
  intro H locs ls hP hD hS h
  subst hv; exact lv_irem X.1.1 X.1.2.1 d hne (k H locs ls hP hD hS h)
theorem y_ineg (X : xS p s m args meth c cc nL Ts own E A) {x z : Int32} (d : decode cc pc = .ok (.ineg, 1)) (hv : -x = z) (k : xY p l e R s m args below meth c E A nL cells slots Q (C) (pc + 1) (lv) (.int z :: st)) : xY p l e R s m args below meth c E A nL cells slots Q (C) (pc) (lv) (.int x :: st) := by
  intro H locs ls hP hD hS h
  subst hv; exact lv_ineg X.1.1 X.1.2.1 d (k H locs ls hP hD hS h)
theorem y_i2c (X : xS p s m args meth c cc nL Ts own E A) {x z : Int32} (d : decode cc pc = .ok (.i2c, 1)) (hv : (x.toUInt32 % 65536).toInt32 = z) (k : xY p l e R s m args below meth c E A nL cells slots Q (C) (pc + 1) (lv) (.int z :: st)) : xY p l e R s m args below meth c E A nL cells slots Q (C) (pc) (lv) (.int x :: st) := by
  intro H locs ls hP hD hS h
  exact lv_i2c X.1.1 X.1.2.1 d hv (k H locs ls hP hD hS h)
theorem y_dup (X : xS p s m args meth c cc nL Ts own E A) {v : Value} (d : decode cc pc = .ok (.dup, 1)) (hv : v.category = 1) (k : xY p l e R s m args below meth c E A nL cells slots Q (C) (pc + 1) (lv) (v :: v :: st)) : xY p l e R s m args below meth c E A nL cells slots Q (C) (pc) (lv) (v :: st) := by
  intro H locs ls hP hD hS h
  exact lv_dup X.1.1 X.1.2.1 d hv (k H locs ls hP hD hS h)
theorem y_dup2 (X : xS p s m args meth c cc nL Ts own E A) {v u : Value} (d : decode cc pc = .ok (.dup2, 1)) (hv : v.category = 1) (hu : u.category = 1) (k : xY p l e R s m args below meth c E A nL cells slots Q (C) (pc + 1) (lv) (v :: u :: v :: u :: st)) : xY p l e R s m args below meth c E A nL cells slots Q (C) (pc) (lv) (v :: u :: st) := by
  intro H locs ls hP hD hS h
  exact lv_dup2_11 X.1.1 X.1.2.1 d hv hu (k H locs ls hP hD hS h)
theorem y_goto (X : xS p s m args meth c cc nL Ts own E A) (tgt : Nat) {off : Int} (d : decode cc pc = .ok (.goto off, 3)) (ht : (pc : Int) + off = (tgt : Int)) (k : xY p l e R s m args below meth c E A nL cells slots Q (C) (tgt) (lv) (st)) : xY p l e R s m args below meth c E A nL cells slots Q (C) (pc) (lv) (st) := by
  intro H locs ls hP hD hS h
  exact lv_goto X.1.1 X.1.2.1 d ht (k H locs ls hP hD hS h)
theorem y_icmp_eq (X : xS p s m args meth c cc nL Ts own E A) (tgt : Nat) {x y : Int32} {off : Int} (P : Prop) (d : decode cc pc = .ok (.if_icmp .eq off, 3)) (ht : (pc : Int) + off = (tgt : Int)) (he : (x = y) ↔ P) (kt : P → xY p l e R s m args below meth c E A nL cells slots Q (C) (tgt) (lv) (st)) (kf : ¬ P → xY p l e R s m args below meth c E A nL cells slots Q (C) (pc + 3) (lv) (st)) : xY p l e R s m args below meth c E A nL cells slots Q (C) (pc) (lv) (.int y :: .int x :: st) := by
  intro H locs ls hP hD hS h
  exact lv_icmp_eq X.1.1 X.1.2.1 d ht (fun c => kt (he.mp c) H locs ls hP hD hS h) (fun c => kf (fun z => c (he.mpr z)) H locs ls hP hD hS h)
theorem y_icmp_ne (X : xS p s m args meth c cc nL Ts own E A) (tgt : Nat) {x y : Int32} {off : Int} (P : Prop) (d : decode cc pc = .ok (.if_icmp .ne off, 3)) (ht : (pc : Int) + off = (tgt : Int)) (he : (¬ x = y) ↔ P) (kt : P → xY p l e R s m args below meth c E A nL cells slots Q (C) (tgt) (lv) (st)) (kf : ¬ P → xY p l e R s m args below meth c E A nL cells slots Q (C) (pc + 3) (lv) (st)) : xY p l e R s m args below meth c E A nL cells slots Q (C) (pc) (lv) (.int y :: .int x :: st) := by
  intro H locs ls hP hD hS h
  exact lv_icmp_ne X.1.1 X.1.2.1 d ht (fun c => kt (he.mp c) H locs ls hP hD hS h) (fun c => kf (fun z => he.mpr z c) H locs ls hP hD hS h)
theorem y_icmp_lt (X : xS p s m args meth c cc nL Ts own E A) (tgt : Nat) {x y : Int32} {off : Int} (P : Prop) (d : decode cc pc = .ok (.if_icmp .lt off, 3)) (ht : (pc : Int) + off = (tgt : Int)) (he : (x < y) ↔ P) (kt : P → xY p l e R s m args below meth c E A nL cells slots Q (C) (tgt) (lv) (st)) (kf : ¬ P → xY p l e R s m args below meth c E A nL cells slots Q (C) (pc + 3) (lv) (st)) : xY p l e R s m args below meth c E A nL cells slots Q (C) (pc) (lv) (.int y :: .int x :: st) := by
  intro H locs ls hP hD hS h
  exact lv_icmp_lt X.1.1 X.1.2.1 d ht (fun c => kt (he.mp c) H locs ls hP hD hS h) (fun c => kf (fun z => c (he.mpr z)) H locs ls hP hD hS h)
theorem y_icmp_ge (X : xS p s m args meth c cc nL Ts own E A) (tgt : Nat) {x y : Int32} {off : Int} (P : Prop) (d : decode cc pc = .ok (.if_icmp .ge off, 3)) (ht : (pc : Int) + off = (tgt : Int)) (he : (y ≤ x) ↔ P) (kt : P → xY p l e R s m args below meth c E A nL cells slots Q (C) (tgt) (lv) (st)) (kf : ¬ P → xY p l e R s m args below meth c E A nL cells slots Q (C) (pc + 3) (lv) (st)) : xY p l e R s m args below meth c E A nL cells slots Q (C) (pc) (lv) (.int y :: .int x :: st) := by
  intro H locs ls hP hD hS h
  exact lv_icmp_ge X.1.1 X.1.2.1 d ht (fun c => kt (he.mp c) H locs ls hP hD hS h) (fun c => kf (fun z => c (he.mpr z)) H locs ls hP hD hS h)
theorem y_icmp_gt (X : xS p s m args meth c cc nL Ts own E A) (tgt : Nat) {x y : Int32} {off : Int} (P : Prop) (d : decode cc pc = .ok (.if_icmp .gt off, 3)) (ht : (pc : Int) + off = (tgt : Int)) (he : (y < x) ↔ P) (kt : P → xY p l e R s m args below meth c E A nL cells slots Q (C) (tgt) (lv) (st)) (kf : ¬ P → xY p l e R s m args below meth c E A nL cells slots Q (C) (pc + 3) (lv) (st)) : xY p l e R s m args below meth c E A nL cells slots Q (C) (pc) (lv) (.int y :: .int x :: st) := by
  intro H locs ls hP hD hS h
  exact lv_icmp_gt X.1.1 X.1.2.1 d ht (fun c => kt (he.mp c) H locs ls hP hD hS h) (fun c => kf (fun z => c (he.mpr z)) H locs ls hP hD hS h)
theorem y_icmp_le (X : xS p s m args meth c cc nL Ts own E A) (tgt : Nat) {x y : Int32} {off : Int} (P : Prop) (d : decode cc pc = .ok (.if_icmp .le off, 3)) (ht : (pc : Int) + off = (tgt : Int)) (he : (x ≤ y) ↔ P) (kt : P → xY p l e R s m args below meth c E A nL cells slots Q (C) (tgt) (lv) (st)) (kf : ¬ P → xY p l e R s m args below meth c E A nL cells slots Q (C) (pc + 3) (lv) (st)) : xY p l e R s m args below meth c E A nL cells slots Q (C) (pc) (lv) (.int y :: .int x :: st) := by
  intro H locs ls hP hD hS h
  exact lv_icmp_le X.1.1 X.1.2.1 d ht (fun c => kt (he.mp c) H locs ls hP hD hS h) (fun c => kf (fun z => c (he.mpr z)) H locs ls hP hD hS h)
theorem y_if_eq (X : xS p s m args meth c cc nL Ts own E A) (tgt : Nat) {x : Int32} {off : Int} (P : Prop) (d : decode cc pc = .ok (.ifCond .eq off, 3)) (ht : (pc : Int) + off = (tgt : Int)) (he : (x = 0) ↔ P) (kt : P → xY p l e R s m args below meth c E A nL cells slots Q (C) (tgt) (lv) (st)) (kf : ¬ P → xY p l e R s m args below meth c E A nL cells slots Q (C) (pc + 3) (lv) (st)) : xY p l e R s m args below meth c E A nL cells slots Q (C) (pc) (lv) (.int x :: st) := by
  intro H locs ls hP hD hS h
  exact lv_if_eq X.1.1 X.1.2.1 d ht (fun c => kt (he.mp c) H locs ls hP hD hS h) (fun c => kf (fun z => c (he.mpr z)) H locs ls hP hD hS h)
theorem y_if_ne (X : xS p s m args meth c cc nL Ts own E A) (tgt : Nat) {x : Int32} {off : Int} (P : Prop) (d : decode cc pc = .ok (.ifCond .ne off, 3)) (ht : (pc : Int) + off = (tgt : Int)) (he : (¬ x = 0) ↔ P) (kt : P → xY p l e R s m args below meth c E A nL cells slots Q (C) (tgt) (lv) (st)) (kf : ¬ P → xY p l e R s m args below meth c E A nL cells slots Q (C) (pc + 3) (lv) (st)) : xY p l e R s m args below meth c E A nL cells slots Q (C) (pc) (lv) (.int x :: st) := by
  intro H locs ls hP hD hS h
  exact lv_if_ne X.1.1 X.1.2.1 d ht (fun c => kt (he.mp c) H locs ls hP hD hS h) (fun c => kf (fun z => he.mpr z c) H locs ls hP hD hS h)
theorem y_if_lt (X : xS p s m args meth c cc nL Ts own E A) (tgt : Nat) {x : Int32} {off : Int} (P : Prop) (d : decode cc pc = .ok (.ifCond .lt off, 3)) (ht : (pc : Int) + off = (tgt : Int)) (he : (x < 0) ↔ P) (kt : P → xY p l e R s m args below meth c E A nL cells slots Q (C) (tgt) (lv) (st)) (kf : ¬ P → xY p l e R s m args below meth c E A nL cells slots Q (C) (pc + 3) (lv) (st)) : xY p l e R s m args below meth c E A nL cells slots Q (C) (pc) (lv) (.int x :: st) := by
  intro H locs ls hP hD hS h
  exact lv_if_lt X.1.1 X.1.2.1 d ht (fun c => kt (he.mp c) H locs ls hP hD hS h) (fun c => kf (fun z => c (he.mpr z)) H locs ls hP hD hS h)
theorem y_if_ge (X : xS p s m args meth c cc nL Ts own E A) (tgt : Nat) {x : Int32} {off : Int} (P : Prop) (d : decode cc pc = .ok (.ifCond .ge off, 3)) (ht : (pc : Int) + off = (tgt : Int)) (he : (0 ≤ x) ↔ P) (kt : P → xY p l e R s m args below meth c E A nL cells slots Q (C) (tgt) (lv) (st)) (kf : ¬ P → xY p l e R s m args below meth c E A nL cells slots Q (C) (pc + 3) (lv) (st)) : xY p l e R s m args below meth c E A nL cells slots Q (C) (pc) (lv) (.int x :: st) := by
  intro H locs ls hP hD hS h
  exact lv_if_ge X.1.1 X.1.2.1 d ht (fun c => kt (he.mp c) H locs ls hP hD hS h) (fun c => kf (fun z => c (he.mpr z)) H locs ls hP hD hS h)
theorem y_if_gt (X : xS p s m args meth c cc nL Ts own E A) (tgt : Nat) {x : Int32} {off : Int} (P : Prop) (d : decode cc pc = .ok (.ifCond .gt off, 3)) (ht : (pc : Int) + off = (tgt : Int)) (he : (0 < x) ↔ P) (kt : P → xY p l e R s m args below meth c E A nL cells slots Q (C) (tgt) (lv) (st)) (kf : ¬ P → xY p l e R s m args below meth c E A nL cells slots Q (C) (pc + 3) (lv) (st)) : xY p l e R s m args below meth c E A nL cells slots Q (C) (pc) (lv) (.int x :: st) := by
  intro H locs ls hP hD hS h
  exact lv_if_gt X.1.1 X.1.2.1 d ht (fun c => kt (he.mp c) H locs ls hP hD hS h) (fun c => kf (fun z => c (he.mpr z)) H locs ls hP hD hS h)
theorem y_if_le (X : xS p s m args meth c cc nL Ts own E A) (tgt : Nat) {x : Int32} {off : Int} (P : Prop) (d : decode cc pc = .ok (.ifCond .le off, 3)) (ht : (pc : Int) + off = (tgt : Int)) (he : (x ≤ 0) ↔ P) (kt : P → xY p l e R s m args below meth c E A nL cells slots Q (C) (tgt) (lv) (st)) (kf : ¬ P → xY p l e R s m args below meth c E A nL cells slots Q (C) (pc + 3) (lv) (st)) : xY p l e R s m args below meth c E A nL cells slots Q (C) (pc) (lv) (.int x :: st) := by
  intro H locs ls hP hD hS h
  exact lv_if_le X.1.1 X.1.2.1 d ht (fun c => kt (he.mp c) H locs ls hP hD hS h) (fun c => kf (fun z => c (he.mpr z)) H locs ls hP hD hS h)
theorem y_tableOut (X : xS p s m args meth c cc nL Ts own E A) (tgt : Nat) {dflt lo hi : Int} {offs : Array Int} {len : Nat} {x : Int32} (d : decode cc pc = .ok (.tableswitch dflt lo hi offs, len)) (h0 : x.toInt < lo ∨ hi < x.toInt) (ht : (pc : Int) + dflt = (tgt : Int)) (k : xY p l e R s m args below meth c E A nL cells slots Q (C) (tgt) (lv) (st)) : xY p l e R s m args below meth c E A nL cells slots Q (C) (pc) (lv) (.int x :: st) := by
  intro H locs ls hP hD hS h
  exact lv_tableOut X.1.1 X.1.2.1 d h0 ht (k H locs ls hP hD hS h)
theorem y_tableIn (X : xS p s m args meth c cc nL Ts own E A) (tgt : Nat) {dflt lo hi off : Int} {offs : Array Int} {len : Nat} {x : Int32} (d : decode cc pc = .ok (.tableswitch dflt lo hi offs, len)) (h1 : ¬ x.toInt < lo) (h2 : ¬ hi < x.toInt) (ho : offs[(x.toInt - lo).toNat]? = some off) (ht : (pc : Int) + off = (tgt : Int)) (k : xY p l e R s m args below meth c E A nL cells slots Q (C) (tgt) (lv) (st)) : xY p l e R s m args below meth c E A nL cells slots Q (C) (pc) (lv) (.int x :: st) := by
  intro H locs ls hP hD hS h
  exact lv_tableIn X.1.1 X.1.2.1 d h1 h2 ho ht (k H locs ls hP hD hS h)
theorem y_lookup (X : xS p s m args meth c cc nL Ts own E A) (tgt : Nat) {dflt off : Int} {ps : Array (Int × Int)} {len : Nat} {x : Int32} (d : decode cc pc = .ok (.lookupswitch dflt ps, len)) (hp : (ps.toList.zip (ps.toList.drop 1)).all (fun (a, next) => a.1 < next.1) = true) (ho : Op.lookupswitch.offset ps.toList dflt x.toInt = off) (ht : (pc : Int) + off = (tgt : Int)) (k : xY p l e R s m args below meth c E A nL cells slots Q (C) (tgt) (lv) (st)) : xY p l e R s m args below meth c E A nL cells slots Q (C) (pc) (lv) (.int x :: st) := by
  intro H locs ls hP hD hS h
  exact lv_lookup X.1.1 X.1.2.1 d hp ho ht (k H locs ls hP hD hS h)
theorem y_iald (X : xS p s m args meth c cc nL Ts own E A) (i : Nat) {n j : Nat} {f : Nat → Int32} {x z : Int32} (d : decode cc pc = .ok (.iaload, 1)) (hi : i < 61) (hC : C i = .inl (E.2.2.1 1, n, .inl f)) (hx : x = nI j) (hj : j < n) (hn : n < 2 ^ 31) (hz : f j = z) (k : xY p l e R s m args below meth c E A nL cells slots Q (C) (pc + 1) (lv) (.int z :: st)) : xY p l e R s m args below meth c E A nL cells slots Q (C) (pc) (lv) (.int x :: .ref (E.2.1 i) :: st) := by
  intro H locs ls hP hD hS h
  subst hx; subst hz; exact va_iald X.1.1 X.1.2.1 X.2.2.1 hP i 1 (by rw [xw_get hi, hC]) rfl (vp_in_nI hj hn) d (by rw [nI_clamp (Nat.lt_trans hj hn)]; exact k H locs ls hP hD hS h)
theorem y_cald (X : xS p s m args meth c cc nL Ts own E A) (i : Nat) {n j : Nat} {f : Nat → Int32} {x z : Int32} (d : decode cc pc = .ok (.caload, 1)) (hi : i < 61) (hC : C i = .inl (E.2.2.1 0, n, .inl f)) (hx : x = nI j) (hj : j < n) (hn : n < 2 ^ 31) (hz : f j = z) (k : xY p l e R s m args below meth c E A nL cells slots Q (C) (pc + 1) (lv) (.int z :: st)) : xY p l e R s m args below meth c E A nL cells slots Q (C) (pc) (lv) (.int x :: .ref (E.2.1 i) :: st) := by
  intro H locs ls hP hD hS h
  subst hx; subst hz; exact va_cald X.1.1 X.1.2.1 X.2.2.1 hP i 0 (by rw [xw_get hi, hC]) rfl (vp_in_nI hj hn) d (by rw [nI_clamp (Nat.lt_trans hj hn)]; exact k H locs ls hP hD hS h)
theorem y_iast (X : xS p s m args meth c cc nL Ts own E A) (i : Nat) {n j : Nat} {f : Nat → Int32} {x v : Int32} (d : decode cc pc = .ok (.iastore, 1)) (hi : i < 61) (hC : C i = .inl (E.2.2.1 1, n, .inl f)) (hx : x = nI j) (hj : j < n) (hn : n < 2 ^ 31) (k : xY p l e R s m args below meth c E A nL cells slots Q (va_up C i (.inl (E.2.2.1 1, n, .inl (upd f j v)))) (pc + 1) (lv) (st)) : xY p l e R s m args below meth c E A nL cells slots Q (C) (pc) (lv) (.int v :: .int x :: .ref (E.2.1 i) :: st) := by
  intro H locs ls hP hD hS h
  subst hx; exact va_iast X.1.1 X.1.2.1 X.2.2.1 hP hD hS i 1 (by rw [xw_get hi, hC]) rfl (vp_in_nI hj hn) d (fun H1 locs1 hP1 hD1 hS1 => by rw [nI_clamp (Nat.lt_trans hj hn), xw_set] at hP1 hD1; exact k H1 locs1 ls hP1 hD1 hS1 h)
theorem y_cast (X : xS p s m args meth c cc nL Ts own E A) (i : Nat) {n j : Nat} {f : Nat → Int32} {x v : Int32} (d : decode cc pc = .ok (.castore, 1)) (hi : i < 61) (hC : C i = .inl (E.2.2.1 0, n, .inl f)) (hx : x = nI j) (hj : j < n) (hn : n < 2 ^ 31) (k : xY p l e R s m args below meth c E A nL cells slots Q (va_up C i (.inl (E.2.2.1 0, n, .inl (upd f j (vp_nar .char v))))) (pc + 1) (lv) (st)) : xY p l e R s m args below meth c E A nL cells slots Q (C) (pc) (lv) (.int v :: .int x :: .ref (E.2.1 i) :: st) := by
  intro H locs ls hP hD hS h
  subst hx; exact va_cast X.1.1 X.1.2.1 X.2.2.1 hP hD hS i 0 (by rw [xw_get hi, hC]) rfl (vp_in_nI hj hn) d (fun H1 locs1 hP1 hD1 hS1 => by rw [nI_clamp (Nat.lt_trans hj hn), xw_set] at hP1 hD1; exact k H1 locs1 ls hP1 hD1 hS1 h)
theorem y_aald (X : xS p s m args meth c cc nL Ts own E A) (i t0 : Nat) {n j a : Nat} {C0 : String} {f : Nat → Option Nat} {x : Int32} (d : decode cc pc = .ok (.aaload, 1)) (hi : i < 61) (ht : (xty E)[t0]? = some (E.2.2.1 t0, .object C0)) (hC : C i = .inl (E.2.2.1 t0, n, .inr (.inr (.inr (.inr f))))) (hx : x = nI j) (hj : j < n) (hn : n < 2 ^ 31) (hz : f j = some a) (k : xY p l e R s m args below meth c E A nL cells slots Q (C) (pc + 1) (lv) (.ref a :: st)) : xY p l e R s m args below meth c E A nL cells slots Q (C) (pc) (lv) (.int x :: .ref (E.2.1 i) :: st) := by
  intro H locs ls hP hD hS h
  subst hx; exact va_aldq X.1.1 X.1.2.1 X.2.2.1 hP i t0 (by rw [xw_get hi, hC]) ht (vp_in_nI hj hn) d (by rw [nI_clamp (Nat.lt_trans hj hn), hz]; exact k H locs ls hP hD hS h)
theorem y_alen (X : xS p s m args meth c cc nL Ts own E A) (i t0 : Nat) {n : Nat} {v : Int32} {ty : FieldType} {x} (d : decode cc pc = .ok (.arraylength, 1)) (hi : i < 61) (ht : (xty E)[t0]? = some (E.2.2.1 t0, ty)) (hC : C i = .inl (E.2.2.1 t0, n, x)) (hv : nI n = v) (k : xY p l e R s m args below meth c E A nL cells slots Q (C) (pc + 1) (lv) (.int v :: st)) : xY p l e R s m args below meth c E A nL cells slots Q (C) (pc) (lv) (.ref (E.2.1 i) :: st) := by
  intro H locs ls hP hD hS h
  exact va_alen X.1.1 X.1.2.1 X.2.2.1 hP i t0 (x := (n, x)) (by rw [xw_get hi, hC]) ht hv d (k H locs ls hP hD hS h)
theorem y_get (X : xS p s m args meth c cc nL Ts own E A) (i ci k : Nat) {fs : List Value} {ref Cn : String} {T : u_T} {N index : Nat}  {v : Value} (d : decode cc pc = .ok (.getfield index, 3)) (hi : i < 61) (hC : C i = .inr (ci, fs)) (hc : vwCl[ci]? = some (Cn, T, N)) (hk : k < N) (hin : ∀ w ∈ u_ws Cn T N, w ∈ Ts) (hlink : Cond.fieldLink own index ref (T k).2.1 (T k).2.2.1 ∈ Ts) (href : (T k).1 = ref) (hv : fs[k]? = some v) (kk : xY p l e R s m args below meth c E A nL cells slots Q (C) (pc + 3) (lv) (v :: st)) : xY p l e R s m args below meth c E A nL cells slots Q (C) (pc) (lv) (.ref (E.2.1 i) :: st) := by
  intro H locs ls hP hD hS h
  subst href; exact va_get X.1.1 X.1.2.1 X.1.2.2.2.2 hin X.1.2.2.2.1 X.2.2.1 hP i (by rw [xw_get hi, hC]) hc k hk (X.1.2.2.2.2 _ hlink) (fun _ h9 => h9) hv d (kk H locs ls hP hD hS h)
theorem y_put (X : xS p s m args meth c cc nL Ts own E A) (i ci k : Nat) {fs : List Value} {ref Cn : String} {T : u_T} {N index : Nat} (ty0 : Nat → FieldType) {v : Value} (d : decode cc pc = .ok (.putfield index, 3)) (hi : i < 61) (hC : C i = .inr (ci, fs)) (hc : vwCl[ci]? = some (Cn, T, N)) (hk : k < N) (hin : ∀ w ∈ u_ws Cn T N, w ∈ Ts) (hlink : Cond.fieldLink own index ref (T k).2.1 (T k).2.2.1 ∈ Ts) (href : (T k).1 = ref) (hty : ∀ k, k < N → parseFieldDescriptor (T k).2.2.1 = some (ty0 k)) (hnm : ∀ a, a < N → ∀ b, b < N → a ≠ b → (T a).2.1 ≠ (T b).2.1) (hfin : (T k).2.2.2 = false) (hn : narrow (ty0 k) v = v) (hfit : fits (ty0 k) v = true) (hl : k < fs.length) (kk : xY p l e R s m args below meth c E A nL cells slots Q (va_up C i (.inr (ci, fs.set k v))) (pc + 3) (lv) (st)) : xY p l e R s m args below meth c E A nL cells slots Q (C) (pc) (lv) (v :: .ref (E.2.1 i) :: st) := by
  intro H locs ls hP hD hS h
  subst href; exact va_put X.1.1 X.1.2.1 X.1.2.2.2.2 hin ty0 hty hnm X.1.2.2.2.1 X.2.2.1 hP hD hS i (by rw [xw_get hi, hC]) hc k hk (X.1.2.2.2.2 _ hlink) (fun _ h9 => h9) hfin (hty k hk) hn hfit hl d (fun H1 locs1 hP1 hD1 hS1 => by rw [xw_set] at hP1 hD1; exact kk H1 locs1 ls hP1 hD1 hS1 h)
theorem y_getN (X : xS p s m args meth c cc nL Ts own E A) (i ci k : Nat) {fs : List Value} {ref Cn : String} {T : u_T} {N index : Nat}  {v : Value} (d : decode cc pc = .ok (.getfield index, 3)) (hi : i < 61) (hC : C i = .inr (ci, fs)) (hc : vwCl[ci]? = some (Cn, T, N)) (hk : k < N) (hin : ∀ w ∈ u_ws Cn T N, w ∈ Ts) (hlink : Cond.fieldLinkNest own index ref (T k).2.1 (T k).2.2.1 "ColumnSeasons" ∈ xnest) (href : (T k).1 = ref) (hv : fs[k]? = some v) (kk : xY p l e R s m args below meth c E A nL cells slots Q (C) (pc + 3) (lv) (v :: st)) : xY p l e R s m args below meth c E A nL cells slots Q (C) (pc) (lv) (.ref (E.2.1 i) :: st) := by
  intro H locs ls hP hD hS h
  subst href; exact va_getN X.1.1 X.1.2.1 X.1.2.2.2.2 hin X.1.2.2.2.1 X.2.2.1 hP i (by rw [xw_get hi, hC]) hc k hk (va_Nw.use rfl (X.2.2.2.1 _ hlink)) (fun _ h9 => h9) hv d (kk H locs ls hP hD hS h)
theorem y_putN (X : xS p s m args meth c cc nL Ts own E A) (i ci k : Nat) {fs : List Value} {ref Cn : String} {T : u_T} {N index : Nat} (ty0 : Nat → FieldType) {v : Value} (d : decode cc pc = .ok (.putfield index, 3)) (hi : i < 61) (hC : C i = .inr (ci, fs)) (hc : vwCl[ci]? = some (Cn, T, N)) (hk : k < N) (hin : ∀ w ∈ u_ws Cn T N, w ∈ Ts) (hlink : Cond.fieldLinkNest own index ref (T k).2.1 (T k).2.2.1 "ColumnSeasons" ∈ xnest) (href : (T k).1 = ref) (hty : ∀ k, k < N → parseFieldDescriptor (T k).2.2.1 = some (ty0 k)) (hnm : ∀ a, a < N → ∀ b, b < N → a ≠ b → (T a).2.1 ≠ (T b).2.1) (hfin : (T k).2.2.2 = false) (hn : narrow (ty0 k) v = v) (hfit : fits (ty0 k) v = true) (hl : k < fs.length) (kk : xY p l e R s m args below meth c E A nL cells slots Q (va_up C i (.inr (ci, fs.set k v))) (pc + 3) (lv) (st)) : xY p l e R s m args below meth c E A nL cells slots Q (C) (pc) (lv) (v :: .ref (E.2.1 i) :: st) := by
  intro H locs ls hP hD hS h
  subst href; exact va_putN X.1.1 X.1.2.1 X.1.2.2.2.2 hin ty0 hty hnm X.1.2.2.2.1 X.2.2.1 hP hD hS i (by rw [xw_get hi, hC]) hc k hk (va_Nw.use rfl (X.2.2.2.1 _ hlink)) (fun _ h9 => h9) hfin (hty k hk) hn hfit hl d (fun H1 locs1 hP1 hD1 hS1 => by rw [xw_set] at hP1 hD1; exact kk H1 locs1 ls hP1 hD1 hS1 h)
theorem xA_in {C : xC} (hD : va_D A (xw E C)) : ∀ q, xA E q → A q := fun q h => by
  obtain ⟨i, hi, rfl⟩ := h
  exact hD.2 i _ (xw_get hi)
theorem xW_blind {av : List Value} : FrameBlind (va_Pc av (xW E C)) := by
  intro a U g mk h
  obtain ⟨h0, h1, h2, h3, h4⟩ := h
  exact ⟨h0, h1, va_K.moved (u := U) (U := U.calling g mk a) (Vm.Alike.refl U.vm) h2, h3, xZ_calling h4⟩
theorem xW_at (X : xS p s m args meth c cc nL Ts own E A) {H : Heap} {locs : List Loc} (hP : va_P E.1 vwCl (xw E C) H) (hD : va_D A (xw E C)) (hS : va_S A s.heap H locs) {U : State} (hU : U.heap = H) (hW : s.WarmedH U.vm) : xW E C U :=
  ⟨by rw [hU]; exact hP, va_K.moved hW.alike X.2.2.1, xw_D hD (fun _ _ => trivial), xZ_moved X.2.2.2 hS.2.1 (xA_in hD) hU hW⟩
theorem x_call {post : Option Value → xC → Prop} {a : Array Value} {H : Heap} {locs : List Loc} {ls : Array Slot} {st0 : List Value} (hr : va_Run p l e R s m args below meth c H locs cells slots 0 0 (F0 m pc ls st0) st (xQ E post a) (xA E)) (hS : va_S A s.heap H locs) (hD : va_D A (xw E C))
    (kk : ∀ (v : Option Value) (C' : xC), post v C' → ∀ (H1 : Heap) (locs1 : List Loc), va_P E.1 vwCl (xw E C') H1 → va_D A (xw E C') → va_S A s.heap H1 locs1 → W p l e R s m args below meth c H1 locs1 cells slots Q (F0 m (pc + 3) ls (v.toList ++ st))) : W p l e R s m args below meth c H locs cells slots Q (F0 m pc ls st0) := by
  have hA := xA_in hD
  intro T hT X
  obtain ⟨v, st₀, t, T', L, h0, X', hL, e1, e2, ⟨⟨v', C', hv, hp, hPw, hKw, hDw, hZw⟩, hz, hk⟩, st⟩ := hr T hT X
  cases hv
  rw [h0] at hz hk
  obtain ⟨t2, a1, b1⟩ := kk v C' hp T'.heap (locs ++ L) (by rw [e1]; exact hPw) (xw_D hD (fun i hi => hA _ ⟨i, hi, rfl⟩))
    ⟨Nat.le_trans hS.1 (by rw [e1]; exact hz), fun q h1 h2 => by rw [e1, hk q (Nat.lt_of_lt_of_le h1 hS.1) (fun z => h2 (hA q z))]; exact hS.2.1 q h1 h2, fun q hq => by
      rcases List.mem_append.mp hq with h | h
      · exact hS.2.2 q h
      · exact hA _ (hL q h)⟩ T' rfl X'
  exact ⟨t2, st t2 a1, b1⟩
theorem y_callS (X : xS p s m args meth c cc nL Ts own E A) {post : Option Value → xC → Prop} {y : MethodName} {bytes : ByteArray} {maxL fr lo index : Nat} {ret : Option FieldType} {ws ws2 : List Cond} {av : List Value} {stk : List Value} (st : List Value) (n : Nat) (hM : xM E l y ws fr lo (av) C (post)) (g : GoodIn Ts (wsS own index y ws)) (hw : ws = Cond.code y bytes maxL ret :: ws2) (hd : y.cls = own ∧ y.cls ≠ "java/lang/invoke/MethodHandle" ∧ y.cls ≠ "java/lang/invoke/VarHandle" ∧ (parseMethodDescriptor y.desc).map (fun d => d.parameters.length) = some n) (hn : av.length = n) (hR : fr + 1 ≤ R.frames ∧ 8 + (maxL + 11) + lo ≤ R.locals) (hf : cells ≤ R.cells ∧ slots ≤ R.slots) (hW : (st.map fun v => v.category).sum ≤ 8) (hs : stk = av.reverse ++ st) (d : decode cc pc = .ok (.invokestatic index, 3)) (k : ∀ (v : Option Value) (C1 : xC), post v C1 → xY p l e R s m args below meth c E A nL cells slots Q (C1) (pc + 3) (lv) (v.toList ++ st)) : xY p l e R s m args below meth c E A nL cells slots Q (C) (pc) (lv) (stk) := by
  intro H locs ls hP hD hS h
  subst hs
  exact x_call (C := C) (va_runS (As := av) (rest := st) X.1 hM (cwS n X.1.2.2.2.2 g hw rfl rfl hd hR) ⟨xW_blind, fun U hU hW2 => ⟨rfl, xW_at X hP hD hS hU hW2⟩⟩ rfl hn h.1 rfl (lv_room hW) d hf) hS hD (fun v C1 hp H1 locs1 hP1 hD1 hS1 => k v C1 hp H1 locs1 ls hP1 hD1 hS1 h)
theorem y_callSr (X : xS p s m args meth c cc nL Ts own E A) {r : Int32} {y : MethodName} {bytes : ByteArray} {maxL fr lo index : Nat} {ret : Option FieldType} {ws ws2 : List Cond} {av : List Value} {stk : List Value} (st : List Value) (n : Nat) (hM : xM E l y ws fr lo (av) C (fun v C1 => v = some (.int r) ∧ C1 = C)) (g : GoodIn Ts (wsS own index y ws)) (hw : ws = Cond.code y bytes maxL ret :: ws2) (hd : y.cls = own ∧ y.cls ≠ "java/lang/invoke/MethodHandle" ∧ y.cls ≠ "java/lang/invoke/VarHandle" ∧ (parseMethodDescriptor y.desc).map (fun d => d.parameters.length) = some n) (hn : av.length = n) (hR : fr + 1 ≤ R.frames ∧ 8 + (maxL + 11) + lo ≤ R.locals) (hf : cells ≤ R.cells ∧ slots ≤ R.slots) (hW : (st.map fun v => v.category).sum ≤ 8) (hs : stk = av.reverse ++ st) (d : decode cc pc = .ok (.invokestatic index, 3)) (k : xY p l e R s m args below meth c E A nL cells slots Q (C) (pc + 3) (lv) (.int r :: st)) : xY p l e R s m args below meth c E A nL cells slots Q (C) (pc) (lv) (stk) := by
  intro H locs ls hP hD hS h
  subst hs
  exact x_call (C := C) (va_runS (As := av) (rest := st) X.1 hM (cwS n X.1.2.2.2.2 g hw rfl rfl hd hR) ⟨xW_blind, fun U hU hW2 => ⟨rfl, xW_at X hP hD hS hU hW2⟩⟩ rfl hn h.1 rfl (lv_room hW) d hf) hS hD (fun v C1 hp H1 locs1 hP1 hD1 hS1 => by obtain ⟨rfl, rfl⟩ := hp; exact k H1 locs1 ls hP1 hD1 hS1 h)
theorem y_callJ (X : xS p s m args meth c cc nL Ts own E A) {post : Option Value → xC → Prop} {y : MethodName} {bytes : ByteArray} {maxL fr lo index : Nat} {ret : Option FieldType} {ws ws2 : List Cond} {av : List Value} {stk : List Value} (st : List Value) (n : Nat) (hM : xM E l y ws fr lo (av) C (post)) (g : GoodIn Ts (va_wsS own index y ws)) (hw : ws = Cond.code y bytes maxL ret :: ws2) (hd : y.cls ≠ "java/lang/invoke/MethodHandle" ∧ y.cls ≠ "java/lang/invoke/VarHandle" ∧ (parseMethodDescriptor y.desc).map (fun d => d.parameters.length) = some n) (hn : av.length = n) (hR : fr + 1 ≤ R.frames ∧ 8 + (maxL + 11) + lo ≤ R.locals) (hf : cells ≤ R.cells ∧ slots ≤ R.slots) (hW : (st.map fun v => v.category).sum ≤ 8) (hs : stk = av.reverse ++ st) (d : decode cc pc = .ok (.invokestatic index, 3)) (k : ∀ (v : Option Value) (C1 : xC), post v C1 → xY p l e R s m args below meth c E A nL cells slots Q (C1) (pc + 3) (lv) (v.toList ++ st)) : xY p l e R s m args below meth c E A nL cells slots Q (C) (pc) (lv) (stk) := by
  intro H locs ls hP hD hS h
  subst hs
  exact x_call (C := C) (va_runS (As := av) (rest := st) X.1 hM (va_cwS n X.1.2.2.2.2 g hw rfl rfl hd hR) ⟨xW_blind, fun U hU hW2 => ⟨rfl, xW_at X hP hD hS hU hW2⟩⟩ rfl hn h.1 rfl (lv_room hW) d hf) hS hD (fun v C1 hp H1 locs1 hP1 hD1 hS1 => k v C1 hp H1 locs1 ls hP1 hD1 hS1 h)
theorem y_callJr (X : xS p s m args meth c cc nL Ts own E A) {r : Int32} {y : MethodName} {bytes : ByteArray} {maxL fr lo index : Nat} {ret : Option FieldType} {ws ws2 : List Cond} {av : List Value} {stk : List Value} (st : List Value) (n : Nat) (hM : xM E l y ws fr lo (av) C (fun v C1 => v = some (.int r) ∧ C1 = C)) (g : GoodIn Ts (va_wsS own index y ws)) (hw : ws = Cond.code y bytes maxL ret :: ws2) (hd : y.cls ≠ "java/lang/invoke/MethodHandle" ∧ y.cls ≠ "java/lang/invoke/VarHandle" ∧ (parseMethodDescriptor y.desc).map (fun d => d.parameters.length) = some n) (hn : av.length = n) (hR : fr + 1 ≤ R.frames ∧ 8 + (maxL + 11) + lo ≤ R.locals) (hf : cells ≤ R.cells ∧ slots ≤ R.slots) (hW : (st.map fun v => v.category).sum ≤ 8) (hs : stk = av.reverse ++ st) (d : decode cc pc = .ok (.invokestatic index, 3)) (k : xY p l e R s m args below meth c E A nL cells slots Q (C) (pc + 3) (lv) (.int r :: st)) : xY p l e R s m args below meth c E A nL cells slots Q (C) (pc) (lv) (stk) := by
  intro H locs ls hP hD hS h
  subst hs
  exact x_call (C := C) (va_runS (As := av) (rest := st) X.1 hM (va_cwS n X.1.2.2.2.2 g hw rfl rfl hd hR) ⟨xW_blind, fun U hU hW2 => ⟨rfl, xW_at X hP hD hS hU hW2⟩⟩ rfl hn h.1 rfl (lv_room hW) d hf) hS hD (fun v C1 hp H1 locs1 hP1 hD1 hS1 => by obtain ⟨rfl, rfl⟩ := hp; exact k H1 locs1 ls hP1 hD1 hS1 h)
theorem y_callV (X : xS p s m args meth c cc nL Ts own E A) (i ci : Nat) {fs : List Value} {q : vw_C} {post : Option Value → xC → Prop} {y : MethodName} {bytes : ByteArray} {maxL fr lo index : Nat} {ret : Option FieldType} {ws ws2 : List Cond} {av : List Value} {stk : List Value} (st : List Value) (n : Nat) (hM : xM E l y ws fr lo (.ref (E.2.1 i) :: av) C (post)) (hi : i < 61) (hC : C i = .inr (ci, fs)) (hc : vwCl[ci]? = some q) (g : GoodIn Ts (wsV own index q.1 y ws)) (hw : ws = Cond.code y bytes maxL ret :: ws2) (hd : y.cls = q.1 ∧ y.cls ≠ "java/lang/invoke/MethodHandle" ∧ y.cls ≠ "java/lang/invoke/VarHandle" ∧ (parseMethodDescriptor y.desc).map (fun d => d.parameters.length) = some n) (hn : av.length = n) (hR : fr + 1 ≤ R.frames ∧ 8 + (maxL + 11) + lo ≤ R.locals) (hf : cells ≤ R.cells ∧ slots ≤ R.slots) (hW : (st.map fun v => v.category).sum ≤ 8) (hs : stk = av.reverse ++ .ref (E.2.1 i) :: st) (d : decode cc pc = .ok (.invokevirtual index, 3)) (k : ∀ (v : Option Value) (C1 : xC), post v C1 → xY p l e R s m args below meth c E A nL cells slots Q (C1) (pc + 3) (lv) (v.toList ++ st)) : xY p l e R s m args below meth c E A nL cells slots Q (C) (pc) (lv) (stk) := by
  intro H locs ls hP hD hS h
  subst hs
  exact x_call (C := C) (va_runV (As := av) (rest := st) X.1 hM (cwV n X.1.2.2.2.2 g hw rfl rfl hd hR) ⟨xW_blind, va_recv X.2.2.1 hP hc (by rw [xw_get hi, hC]), fun U hU hW2 => ⟨rfl, xW_at X hP hD hS hU hW2⟩⟩ rfl hn h.1 rfl (lv_room hW) d hf) hS hD (fun v C1 hp H1 locs1 hP1 hD1 hS1 => k v C1 hp H1 locs1 ls hP1 hD1 hS1 h)
theorem y_callVr (X : xS p s m args meth c cc nL Ts own E A) (i ci : Nat) {fs : List Value} {q : vw_C} {r : Int32} {y : MethodName} {bytes : ByteArray} {maxL fr lo index : Nat} {ret : Option FieldType} {ws ws2 : List Cond} {av : List Value} {stk : List Value} (st : List Value) (n : Nat) (hM : xM E l y ws fr lo (.ref (E.2.1 i) :: av) C (fun v C1 => v = some (.int r) ∧ C1 = C)) (hi : i < 61) (hC : C i = .inr (ci, fs)) (hc : vwCl[ci]? = some q) (g : GoodIn Ts (wsV own index q.1 y ws)) (hw : ws = Cond.code y bytes maxL ret :: ws2) (hd : y.cls = q.1 ∧ y.cls ≠ "java/lang/invoke/MethodHandle" ∧ y.cls ≠ "java/lang/invoke/VarHandle" ∧ (parseMethodDescriptor y.desc).map (fun d => d.parameters.length) = some n) (hn : av.length = n) (hR : fr + 1 ≤ R.frames ∧ 8 + (maxL + 11) + lo ≤ R.locals) (hf : cells ≤ R.cells ∧ slots ≤ R.slots) (hW : (st.map fun v => v.category).sum ≤ 8) (hs : stk = av.reverse ++ .ref (E.2.1 i) :: st) (d : decode cc pc = .ok (.invokevirtual index, 3)) (k : xY p l e R s m args below meth c E A nL cells slots Q (C) (pc + 3) (lv) (.int r :: st)) : xY p l e R s m args below meth c E A nL cells slots Q (C) (pc) (lv) (stk) := by
  intro H locs ls hP hD hS h
  subst hs
  exact x_call (C := C) (va_runV (As := av) (rest := st) X.1 hM (cwV n X.1.2.2.2.2 g hw rfl rfl hd hR) ⟨xW_blind, va_recv X.2.2.1 hP hc (by rw [xw_get hi, hC]), fun U hU hW2 => ⟨rfl, xW_at X hP hD hS hU hW2⟩⟩ rfl hn h.1 rfl (lv_room hW) d hf) hS hD (fun v C1 hp H1 locs1 hP1 hD1 hS1 => by obtain ⟨rfl, rfl⟩ := hp; exact k H1 locs1 ls hP1 hD1 hS1 h)
theorem y_callN (X : xS p s m args meth c cc nL Ts own E A) {post : Option Value → xC → Prop} {y : MethodName} {bytes : ByteArray} {maxL fr lo index : Nat} {ret : Option FieldType} {ws ws2 : List Cond} {av : List Value} {stk : List Value} (st : List Value) (n : Nat) (hM : xM E l y ws fr lo (av) C (post)) (g : GoodIn Ts ws) (hl : Cond.methodLinkNest own index y "ColumnSeasons" ∈ xnest) (hini : Cond.initialized y.cls ∈ Ts) (hstt : Cond.static y ∈ Ts) (hw : ws = Cond.code y bytes maxL ret :: ws2) (hd : y.cls ≠ "java/lang/invoke/MethodHandle" ∧ y.cls ≠ "java/lang/invoke/VarHandle" ∧ (parseMethodDescriptor y.desc).map (fun d => d.parameters.length) = some n) (hn : av.length = n) (hR : fr + 1 ≤ R.frames ∧ 8 + (maxL + 11) + lo ≤ R.locals) (hf : cells ≤ R.cells ∧ slots ≤ R.slots) (hW : (st.map fun v => v.category).sum ≤ 8) (hs : stk = av.reverse ++ st) (d : decode cc pc = .ok (.invokestatic index, 3)) (k : ∀ (v : Option Value) (C1 : xC), post v C1 → xY p l e R s m args below meth c E A nL cells slots Q (C1) (pc + 3) (lv) (v.toList ++ st)) : xY p l e R s m args below meth c E A nL cells slots Q (C) (pc) (lv) (stk) := by
  intro H locs ls hP hD hS h
  subst hs
  exact x_call (C := C) (va_runSN (As := av) (rest := st) X.1 hM (⟨va_cnB n X.1.2.2.2.2 g hw rfl rfl (X.2.2.2.1 _ hl) (X.1.2.2.2.2 _ hini) hd hR, X.1.2.2.2.2 _ hstt, trivial⟩) ⟨xW_blind, fun U hU hW2 => ⟨rfl, xW_at X hP hD hS hU hW2⟩⟩ rfl hn h.1 rfl (lv_room hW) d hf) hS hD (fun v C1 hp H1 locs1 hP1 hD1 hS1 => k v C1 hp H1 locs1 ls hP1 hD1 hS1 h)
theorem y_callNr (X : xS p s m args meth c cc nL Ts own E A) {r : Int32} {y : MethodName} {bytes : ByteArray} {maxL fr lo index : Nat} {ret : Option FieldType} {ws ws2 : List Cond} {av : List Value} {stk : List Value} (st : List Value) (n : Nat) (hM : xM E l y ws fr lo (av) C (fun v C1 => v = some (.int r) ∧ C1 = C)) (g : GoodIn Ts ws) (hl : Cond.methodLinkNest own index y "ColumnSeasons" ∈ xnest) (hini : Cond.initialized y.cls ∈ Ts) (hstt : Cond.static y ∈ Ts) (hw : ws = Cond.code y bytes maxL ret :: ws2) (hd : y.cls ≠ "java/lang/invoke/MethodHandle" ∧ y.cls ≠ "java/lang/invoke/VarHandle" ∧ (parseMethodDescriptor y.desc).map (fun d => d.parameters.length) = some n) (hn : av.length = n) (hR : fr + 1 ≤ R.frames ∧ 8 + (maxL + 11) + lo ≤ R.locals) (hf : cells ≤ R.cells ∧ slots ≤ R.slots) (hW : (st.map fun v => v.category).sum ≤ 8) (hs : stk = av.reverse ++ st) (d : decode cc pc = .ok (.invokestatic index, 3)) (k : xY p l e R s m args below meth c E A nL cells slots Q (C) (pc + 3) (lv) (.int r :: st)) : xY p l e R s m args below meth c E A nL cells slots Q (C) (pc) (lv) (stk) := by
  intro H locs ls hP hD hS h
  subst hs
  exact x_call (C := C) (va_runSN (As := av) (rest := st) X.1 hM (⟨va_cnB n X.1.2.2.2.2 g hw rfl rfl (X.2.2.2.1 _ hl) (X.1.2.2.2.2 _ hini) hd hR, X.1.2.2.2.2 _ hstt, trivial⟩) ⟨xW_blind, fun U hU hW2 => ⟨rfl, xW_at X hP hD hS hU hW2⟩⟩ rfl hn h.1 rfl (lv_room hW) d hf) hS hD (fun v C1 hp H1 locs1 hP1 hD1 hS1 => by obtain ⟨rfl, rfl⟩ := hp; exact k H1 locs1 ls hP1 hD1 hS1 h)
theorem y_iret (X : xS p s m args meth c cc nL Ts own E A) (hr : meth.sig.returnType = some .int) {post : Option Value → xC → Prop} {v : Int32} (d : decode cc pc = .ok (.ireturn, 1)) (hA : A = xA E) (hp : post (some (.int v)) C) : xY p l e R s m args below meth c E A nL cells slots (MQ below (xQ E post) args s cells slots A) C pc lv [.int v] := by
  intro H locs ls hP hD hS h
  subst hA
  exact W.iret X.1.1 X.1.2.1 hr (fun t ht hW => ⟨⟨some (.int v), C, rfl, hp, xW_at X hP hD hS ht hW⟩, hS.F ht⟩) hS.2.2 d X.2.1
theorem y_zret (X : xS p s m args meth c cc nL Ts own E A) {ty : FieldType} (hr : meth.sig.returnType = some ty) {post : Option Value → xC → Prop} {v : Int32} (hn : narrow ty (.int v) = .int v) (d : decode cc pc = .ok (.ireturn, 1)) (hA : A = xA E) (hp : post (some (.int v)) C) : xY p l e R s m args below meth c E A nL cells slots (MQ below (xQ E post) args s cells slots A) C pc lv [.int v] := by
  intro H locs ls hP hD hS h
  subst hA
  exact W.zret X.1.1 X.1.2.1 hr hn (fun t ht hW => ⟨⟨some (.int v), C, rfl, hp, xW_at X hP hD hS ht hW⟩, hS.F ht⟩) hS.2.2 d X.2.1
theorem y_vret (X : xS p s m args meth c cc nL Ts own E A) (hr : meth.sig.returnType = none) {post : Option Value → xC → Prop} (d : decode cc pc = .ok (.return_, 1)) (hA : A = xA E) (hp : post none C) : xY p l e R s m args below meth c E A nL cells slots (MQ below (xQ E post) args s cells slots A) C pc lv [] := by
  intro H locs ls hP hD hS h
  subst hA
  exact W.vret X.1.1 X.1.2.1 hr (fun t ht hW => ⟨⟨none, C, rfl, hp, xW_at X hP hD hS ht hW⟩, hS.F ht⟩) hS.2.2 d X.2.1
theorem y_aret (X : xS p s m args meth c cc nL Ts own E A) {rt : FieldType} (hr : meth.sig.returnType = some rt) (hrt : (∃ n, rt = .object n) ∨ ∃ t, rt = .array t) {post : Option Value → xC → Prop} {a : Nat} (d : decode cc pc = .ok (.areturn, 1)) (hA : A = xA E) (hp : post (some (.ref a)) C) : xY p l e R s m args below meth c E A nL cells slots (MQ below (xQ E post) args s cells slots A) C pc lv [.ref a] := by
  intro H locs ls hP hD hS h
  subst hA
  exact W.aret X.1.1 X.1.2.1 hr hrt (Or.inr ⟨a, rfl⟩) (fun t ht hW => ⟨⟨some (.ref a), C, rfl, hp, xW_at X hP hD hS ht hW⟩, hS.F ht⟩) hS.2.2 d X.2.1
theorem y_copyi (X : xS p s m args meth c cc nL Ts own E A) (i1 i2 : Nat) {index n1 n2 sp dp n : Nat} {f g : Nat → Int32} {x1 x2 x3 : Int32} (d : decode cc pc = .ok (.invokestatic index, 3)) (hlink : Cond.methodLink own index arraycopyName ∈ Ts) (hnat : Cond.native arraycopyName ∈ Ts) (hstat : Cond.static arraycopyName ∈ Ts) (hini : Cond.initialized "java/lang/System" ∈ Ts) (h1 : i1 < 61) (h2 : i2 < 61) (hC1 : C i1 = .inl (E.2.2.1 1, n1, .inl f)) (hC2 : C i2 = .inl (E.2.2.1 1, n2, .inl g)) (hx1 : x1 = nI sp) (hx2 : x2 = nI dp) (hx3 : x3 = nI n) (hn1 : sp + n ≤ n1) (hn2 : dp + n ≤ n2) (hb1 : n1 < 2 ^ 31) (hb2 : n2 < 2 ^ 31) (hfr : 1 ≤ R.frames) (hlo : (st.map fun v => v.category).sum + (nativeFrameWords "java/lang/System" "arraycopy" 5 + 11) ≤ R.locals) (k : xY p l e R s m args below meth c E A nL cells slots Q (va_up C i2 (.inl (E.2.2.1 1, n2, .inl (va_cpy f g sp dp n)))) (pc + 3) (lv) (st)) : xY p l e R s m args below meth c E A nL cells slots Q (C) (pc) (lv) (.int x3 :: .int x2 :: .ref (E.2.1 i2) :: .int x1 :: .ref (E.2.1 i1) :: st) := by
  intro H locs ls hP hD hS h
  subst hx1; subst hx2; subst hx3
  have e1 : (nI sp).toNatClampNeg = sp := nI_clamp (by omega)
  have e2 : (nI dp).toNatClampNeg = dp := nI_clamp (by omega)
  have e3 : (nI n).toNatClampNeg = n := nI_clamp (by omega)
  refine va_copyi X.1.1 X.1.2.1 (X.1.2.2.1.trans h.1.symm) X.1.2.2.2.1 (X.1.2.2.2.2 _ hlink) (X.1.2.2.2.2 _ hnat) (X.1.2.2.2.2 _ hstat) (X.1.2.2.2.2 _ hini) X.2.2.1 hP hD hS i1 i2 1 1 (by rw [xw_get h1, hC1]) (by rw [xw_get h2, hC2]) rfl rfl rfl (nI_pos (by omega)) (nI_pos (by omega)) (nI_pos (by omega)) (by rw [e1, e3]; exact hn1) (by rw [e2, e3]; exact hn2) (fun _ _ => rfl) hfr hlo d (fun H1 locs1 hP1 hD1 hS1 => ?_)
  rw [e1, e2, e3, xw_set] at hP1 hD1
  exact k H1 locs1 ls hP1 hD1 hS1 h
theorem y_max (X : xS p s m args meth c cc nL Ts own E A) {index : Nat} {x y z : Int32} (d : decode cc pc = .ok (.invokestatic index, 3)) (hlink : Cond.methodLink own index Lib.Math.max.name ∈ Ts) (hstat : Cond.static Lib.Math.max.name ∈ Ts) (hini : Cond.initialized "java/lang/Math" ∈ Ts) (hcode : Cond.code Lib.Math.max.name Lib.Math.max.code 2 (some .int) ∈ Ts) (hfr : 1 ≤ R.frames) (hlo : (st.map fun v => v.category).sum + 13 ≤ R.locals) (hf : cells ≤ R.cells ∧ slots ≤ R.slots) (hz : (if x < y then y else x) = z) (k : xY p l e R s m args below meth c E A nL cells slots Q (C) (pc + 3) (lv) (.int z :: st)) : xY p l e R s m args below meth c E A nL cells slots Q (C) (pc) (lv) (.int y :: .int x :: st) := by
  intro H locs ls hP hD hS h
  subst hz
  exact va_mmax X.1.1 X.1.2.1 (X.1.2.2.1.trans h.1.symm) X.1.2.2.2.1 (X.1.2.2.2.2 _ hlink) (X.1.2.2.2.2 _ hstat) (X.1.2.2.2.2 _ hini) (X.1.2.2.2.2 _ hcode) hfr hlo hf.1 hf.2 d (k H locs ls hP hD hS h)
theorem y_min (X : xS p s m args meth c cc nL Ts own E A) {index : Nat} {x y z : Int32} (d : decode cc pc = .ok (.invokestatic index, 3)) (hlink : Cond.methodLink own index Lib.Math.min.name ∈ Ts) (hstat : Cond.static Lib.Math.min.name ∈ Ts) (hini : Cond.initialized "java/lang/Math" ∈ Ts) (hcode : Cond.code Lib.Math.min.name Lib.Math.min.code 2 (some .int) ∈ Ts) (hfr : 1 ≤ R.frames) (hlo : (st.map fun v => v.category).sum + 13 ≤ R.locals) (hf : cells ≤ R.cells ∧ slots ≤ R.slots) (hz : (if y < x then y else x) = z) (k : xY p l e R s m args below meth c E A nL cells slots Q (C) (pc + 3) (lv) (.int z :: st)) : xY p l e R s m args below meth c E A nL cells slots Q (C) (pc) (lv) (.int y :: .int x :: st) := by
  intro H locs ls hP hD hS h
  subst hz
  exact va_mmin X.1.1 X.1.2.1 (X.1.2.2.1.trans h.1.symm) X.1.2.2.2.1 (X.1.2.2.2.2 _ hlink) (X.1.2.2.2.2 _ hstat) (X.1.2.2.2.2 _ hini) (X.1.2.2.2.2 _ hcode) hfr hlo hf.1 hf.2 d (k H locs ls hP hD hS h)
end XR
end
section
/-! the state of a table, as a value: seasons, rows, kinds, defaults, the rows' seasons, the values -/
abbrev Tb : Type := Nat × Nat × (Nat → Nat → Int32) × (Nat → Nat → Int32) × (Nat → Nat) × (Nat → Nat → Int32)
def tn (T : Tb) : Nat := T.1
def tr (T : Tb) : Nat := T.2.1
def tk (T : Tb) : Nat → Nat → Int32 := T.2.2.1
def td (T : Tb) : Nat → Nat → Int32 := T.2.2.2.1
def ts (T : Tb) : Nat → Nat := T.2.2.2.2.1
def tv (T : Tb) : Nat → Nat → Int32 := T.2.2.2.2.2
def loK (k : Int32) : Int32 := if k = 2 then -9999 else 0
def hiK (k : Int32) : Int32 := if k = 0 then 1 else if k = 1 then 9 else 9999
abbrev okv (v k : Int32) : Prop := (loK k).toInt ≤ v.toInt ∧ v.toInt ≤ (hiK k).toInt
/-- a value cast to a kind, as the class does it -/
def cstC (k v : Int32) : Int32 := if k = 0 then (if v = 0 then 0 else 1) else if loK k < (if v < hiK k then v else hiK k) then (if v < hiK k then v else hiK k) else loK k
/-- the same, as the reference does it -/
def cst (v k : Int32) : Int32 := if k = 2 then v else if k = 1 then (if v < 0 then 0 else if 9 < v then 9 else v) else (if v = 0 then 0 else 1)
abbrev erP (a : Int32) : Prop := a.toInt ≤ -10001 ∧ ¬ a = -10005
/-- what a table's arrays hold of it -/
def RT (T : Tb) (K D S V : Nat → Int32) : Prop := (∀ q j : Nat, q < tn T → j < 8 → K (q * 8 + j) = tk T q j) ∧ (∀ q j : Nat, q < tn T → j < 8 → D (q * 8 + j) = td T q j) ∧ (∀ i : Nat, i < tr T → S i = nI (ts T i)) ∧ (∀ i j : Nat, i < tr T → j < 8 → ¬ tk T (ts T i) j = -1 → V (i * 8 + j) = tv T i j)
/-- the cells b to b + 4 hold a table -/
def RC (E : xE) (C : xC) (b : Nat) (T : Tb) : Prop := ∃ K D S V : Nat → Int32, C (b) = .inr (3, [.int (nI (tn T)), .ref (E.2.1 (b + 1)), .ref (E.2.1 (b + 2)), .int (nI (tr T)), .ref (E.2.1 (b + 3)), .ref (E.2.1 (b + 4))]) ∧ C (b + 1) = .inl (E.2.2.1 1, 240, .inl K) ∧ C (b + 2) = .inl (E.2.2.1 1, 240, .inl D) ∧ C (b + 3) = .inl (E.2.2.1 1, 24, .inl S) ∧ C (b + 4) = .inl (E.2.2.1 1, 192, .inl V) ∧ RT T K D S V
/-- bounds of a table -/
def WB (T : Tb) : Prop := 1 ≤ tn T ∧ tn T ≤ 30 ∧ tr T ≤ 24 ∧ (∀ i : Nat, i < tr T → ts T i < tn T)
/-- a table as it may be -/
def WF (T : Tb) : Prop := WB T ∧ (∀ q j : Nat, q < tn T → j < 8 → tk T q j = -1 ∨ (xin (tk T q j) 3 ∧ okv (td T q j) (tk T q j))) ∧ (∀ i j : Nat, i < tr T → j < 8 → tk T (ts T i) j = -1 ∨ okv (tv T i j) (tk T (ts T i) j))
theorem RC_same {E : xE} {C C1 : xC} {b : Nat} {T : Tb} (h : RC E C b T) (he : ∀ i : Nat, b ≤ i → i ≤ b + 4 → C1 i = C i) : RC E C1 b T := by
  obtain ⟨K, D, S, V, h0, h1, h2, h3, h4, hR⟩ := h
  exact ⟨K, D, S, V, by rw [he _ (by omega) (by omega)]; exact h0, by rw [he _ (by omega) (by omega)]; exact h1, by rw [he _ (by omega) (by omega)]; exact h2, by rw [he _ (by omega) (by omega)]; exact h3, by rw [he _ (by omega) (by omega)]; exact h4, hR⟩
/-- a sum and a union, term by term -/
def sm (f : Nat → Int32) : Nat → Int32
  | 0 => 0
  | n + 1 => sm f n + f n
def orf (f : Nat → Int32) : Nat → Int32
  | 0 => 0
  | n + 1 => orf f n ||| f n
theorem sm_congr {f g : Nat → Int32} {n : Nat} (h : ∀ i : Nat, i < n → f i = g i) : sm f n = sm g n := by
  induction n with
  | zero => rfl
  | succ n ih => rw [sm, sm, ih (fun i hi => h i (by omega)), h n (by omega)]
theorem orf_congr {f g : Nat → Int32} {n : Nat} (h : ∀ i : Nat, i < n → f i = g i) : orf f n = orf g n := by
  induction n with
  | zero => rfl
  | succ n ih => rw [orf, orf, ih (fun i hi => h i (by omega)), h n (by omega)]
theorem pk_m1b {n : Nat} (h : 1 ≤ n) : nI n + Int32.ofInt (-1) = nI (n - 1) := by
  obtain ⟨k, rfl⟩ : ∃ k, n = k + 1 := ⟨n - 1, by omega⟩
  exact pk_m1 k
theorem pk_addm {n k : Nat} (h : k ≤ n) : nI n + (-(Int32.ofNat k)) = nI (n - k) := by
  rw [← pk_sub h, Int32.sub_eq_add_neg]
  rfl
/-- the names of a season, as a set -/
def bitN (j : Nat) : Int32 := 1 <<< (nI j &&& 31)
def nmS (T : Tb) (q : Nat) : Int32 := orf (fun j => if tk T q j = -1 then 0 else bitN j) 8
/-! what is told of a table -/
def newC (T : Tb) (q : Nat) : Int32 := if q = 0 then 0 else sm (fun j => if ¬ tk T q j = -1 ∧ ¬ tk T q j = tk T (q - 1) j then 1 else 0) 8
def wear (T : Tb) (q : Nat) : Int32 := sm (fun i => if nI (ts T i) = nI q then 1 else 0) (tr T)
/-- the number of ones, as the JDK counts them -/
def bc0 (x : Int32) : Int32 := x - (((x.toUInt32 >>> ((1 : Int32).toUInt32 &&& Int32.toUInt32 31)).toInt32) &&& 1431655765)
def bc1 (x : Int32) : Int32 := (x &&& 858993459) + (((x.toUInt32 >>> ((2 : Int32).toUInt32 &&& Int32.toUInt32 31)).toInt32) &&& 858993459)
def bc2 (x : Int32) : Int32 := (x + ((x.toUInt32 >>> ((4 : Int32).toUInt32 &&& Int32.toUInt32 31)).toInt32)) &&& 252645135
def bc3 (x : Int32) : Int32 := x + ((x.toUInt32 >>> ((8 : Int32).toUInt32 &&& Int32.toUInt32 31)).toInt32)
def bc4 (x : Int32) : Int32 := x + ((x.toUInt32 >>> ((16 : Int32).toUInt32 &&& Int32.toUInt32 31)).toInt32)
def bcn (x : Int32) : Int32 := bc4 (bc3 (bc2 (bc1 (bc0 x)))) &&& 63
def allV (T : Tb) : Int32 := sm (fun i => bcn (nmS T (ts T i))) (tr T)
def evN (T : Tb) : Int32 := orf (fun q => nmS T q) (tn T)
/-- a value of a row read in a season's dress; how it came; whether something of it is lost -/
def rdC (T : Tb) (q i j : Nat) : Int32 := if tk T (ts T i) j = -1 then td T q j else cstC (tk T q j) (tv T i j)
abbrev clos (T : Tb) (q i j : Nat) : Prop := ¬ cstC (tk T (ts T i) j) (cstC (tk T q j) (tv T i j)) = tv T i j
def howC (T : Tb) (q i j : Nat) : Int32 := if tk T (ts T i) j = -1 then 3 else if tk T (ts T i) j = tk T q j then 0 else if clos T q i j then 2 else 1
abbrev lostC (T : Tb) (q i j : Nat) : Prop := ¬ tk T (ts T i) j = -1 ∧ (tk T q j = -1 ∨ clos T q i j)
def lsR (T : Tb) (q i : Nat) : Int32 := sm (fun j => if lostC T q i j then 1 else 0) 8
def lsA (T : Tb) (q : Nat) : Int32 := sm (fun i => lsR T q i) (tr T)
/-- the best season so far, from now down to season q -/
def bsd (T : Tb) : Nat → Nat × Int32
  | 0 => (tn T - 1, lsA T (tn T - 1))
  | k + 1 => if lsA T (tn T - 1 - (k + 1)) < (bsd T k).2 then (tn T - 1 - (k + 1), lsA T (tn T - 1 - (k + 1))) else bsd T k
def bsC (T : Tb) : Nat := (bsd T (tn T - 1)).1
/-- the names that rows a to a + k share -/
def shr (T : Tb) (a : Nat) : Nat → Int32
  | 0 => nmS T (ts T a)
  | k + 1 => shr T a k &&& nmS T (ts T (a + (k + 1)))
def shN (T : Tb) (a b : Nat) : Int32 := if b < a then 0 else shr T a (b - a)
def dfR (T : Tb) (g : Int32) (i : Nat) : Int32 := sm (fun j => if ¬ (g &&& bitN j) = 0 ∧ tv T i j = td T (tn T - 1) j then 1 else 0) 8
def dfV (T : Tb) (a b : Nat) : Int32 := sm (fun k => dfR T (shN T a b &&& nmS T (tn T - 1)) (a + k)) (b + 1 - a)
def i32max (x y : Int32) : Int32 := if x < y then y else x
def i32min (x y : Int32) : Int32 := if y < x then y else x
def wdt (T : Tb) (a j : Nat) : Nat → Int32
  | 0 => 0
  | k + 1 => i32max (wdt T a j k) (tk T (ts T (a + k)) j)
def svs (T : Tb) (a j : Nat) : Nat → Int32 := sm (fun k => tv T (a + k) j)
def lea (T : Tb) (a j : Nat) : Nat → Int32
  | 0 => 9999
  | k + 1 => i32min (lea T a j k) (tv T (a + k) j)
def gre (T : Tb) (a j : Nat) : Nat → Int32
  | 0 => -9999
  | k + 1 => i32max (gre T a j k) (tv T (a + k) j)
abbrev fstV (T : Tb) (a j i : Nat) : Prop := ∀ k : Nat, k < i - a → ¬ tv T (a + k) j = tv T i j
def unl (T : Tb) (a j : Nat) : Nat → Int32 := sm (fun k => if fstV T a j (a + k) then 1 else 0)
/-- the best row from which on, upwards from the last row -/
def bfd (T : Tb) : Nat → Int32 × Nat × Int32
  | 0 => (255, 0, 0)
  | k + 1 => let g := (bfd T k).1 &&& nmS T (ts T (tr T - (k + 1))); if (bfd T k).2.2 ≤ bcn g then (g, tr T - (k + 1), bcn g) else (g, (bfd T k).2.1, (bfd T k).2.2)
def bfC (T : Tb) : Nat := (bfd T (tr T)).2.1
theorem dn_lt {r : Nat} (h : r < 2 ^ 31) : nI r - 1 < 0 ↔ r = 0 := by
  constructor
  · intro hz
    cases r with
    | zero => rfl
    | succ k =>
      rw [nI_pred] at hz
      exact absurd hz (nI_pos (by omega))
  · intro hz
    subst hz
    decide
theorem dn_eq {r : Nat} (h : 1 ≤ r) : nI r - 1 = nI (r - 1) := by
  obtain ⟨k, rfl⟩ : ∃ k, r = k + 1 := ⟨r - 1, by omega⟩
  exact nI_pred k
theorem dn_inc (x : Int32) : x + Int32.ofInt (-1) = x - 1 := by
  rw [Int32.sub_eq_add_neg]
  rfl
/-! sets of names, bit by bit -/
def hb (x : Int32) (j : Nat) : Bool := x.toBitVec.getLsbD j
theorem hb_and (x y : Int32) (j : Nat) : hb (x &&& y) j = (hb x j && hb y j) := by
  unfold hb
  rw [Int32.toBitVec_and, BitVec.getLsbD_and]
theorem hb_or (x y : Int32) (j : Nat) : hb (x ||| y) j = (hb x j || hb y j) := by
  unfold hb
  rw [Int32.toBitVec_or, BitVec.getLsbD_or]
theorem hb_zero (j : Nat) : hb 0 j = false := by
  unfold hb
  show (0#32).getLsbD j = false
  simp
theorem hb_bitN : ∀ i : Nat, i < 8 → ∀ j : Nat, j < 8 → hb (bitN i) j = decide (i = j) := by decide +kernel
theorem has_iff {x : Int32} {j : Nat} (h : j < 8) : (x &&& bitN j) = 0 ↔ hb x j = false := by
  have e1 : ∀ j : Nat, j < 8 → (bitN j).toBitVec = BitVec.twoPow 32 j := by decide +kernel
  have e2 : ∀ j : Nat, j < 8 → ¬ BitVec.twoPow 32 j = 0#32 := by decide +kernel
  unfold hb
  rw [← Int32.toBitVec_inj, Int32.toBitVec_and, e1 j h, BitVec.and_twoPow]
  show (if x.toBitVec.getLsbD j = true then BitVec.twoPow 32 j else 0#32) = 0#32 ↔ _
  cases hz : x.toBitVec.getLsbD j with
  | false => exact ⟨fun _ => rfl, fun _ => by rw [if_neg (by decide)]⟩
  | true => exact ⟨fun z => by rw [if_pos rfl] at z; exact absurd z (e2 j h), fun z => absurd z (by decide)⟩
theorem has_iff' {x : Int32} {j : Nat} (h : j < 8) : ¬ (x &&& bitN j) = 0 ↔ hb x j = true := by
  rw [has_iff h]
  cases hb x j <;> simp
theorem and_has_l {x y : Int32} {j : Nat} (h : j < 8) (hz : ¬ ((x &&& y) &&& bitN j) = 0) : ¬ (x &&& bitN j) = 0 := by
  rw [has_iff' h] at hz ⊢
  rw [hb_and] at hz
  cases hx : hb x j
  · rw [hx] at hz; exact absurd hz (by simp)
  · rfl
theorem orf_bit {f : Nat → Int32} {j : Nat} : ∀ n : Nat, hb (orf f n) j = true ↔ ∃ i : Nat, i < n ∧ hb (f i) j = true := by
  intro n
  induction n with
  | zero =>
    rw [orf, hb_zero]
    exact ⟨fun z => absurd z (by decide), fun ⟨i, hi, _⟩ => absurd hi (Nat.not_lt_zero _)⟩
  | succ n ih =>
    rw [orf, hb_or, Bool.or_eq_true, ih]
    constructor
    · rintro (⟨i, hi, h⟩ | h)
      · exact ⟨i, by omega, h⟩
      · exact ⟨n, by omega, h⟩
    · rintro ⟨i, hi, h⟩
      rcases Nat.lt_or_ge i n with q1 | q1
      · exact Or.inl ⟨i, q1, h⟩
      · rw [show i = n by omega] at h
        exact Or.inr h
theorem nmS_bit {T : Tb} {q j : Nat} (hj : j < 8) : hb (nmS T q) j = true ↔ ¬ tk T q j = -1 := by
  rw [nmS, orf_bit]
  constructor
  · rintro ⟨i, hi, h⟩
    by_cases hc : tk T q i = -1
    · rw [if_pos hc, hb_zero] at h
      exact absurd h (by decide)
    · rw [if_neg hc, hb_bitN i hi j hj] at h
      rw [← of_decide_eq_true h]
      exact hc
  · intro h
    exact ⟨j, hj, by rw [if_neg h, hb_bitN j hj j hj]; exact decide_eq_true rfl⟩
theorem shr_bit {T : Tb} {a j : Nat} (hj : j < 8) : ∀ k : Nat, hb (shr T a k) j = true ↔ ∀ z : Nat, z ≤ k → ¬ tk T (ts T (a + z)) j = -1 := by
  intro k
  induction k with
  | zero =>
    rw [shr, nmS_bit hj]
    exact ⟨fun h z hz => by rw [show z = 0 by omega]; exact h, fun h => h 0 (Nat.le_refl 0)⟩
  | succ k ih =>
    rw [shr, hb_and, Bool.and_eq_true, ih, nmS_bit hj]
    constructor
    · rintro ⟨h1, h2⟩ z hz
      rcases Nat.lt_or_ge z (k + 1) with q1 | q1
      · exact h1 z (by omega)
      · rw [show z = k + 1 by omega]
        exact h2
    · intro h
      exact ⟨fun z hz => h z (by omega), h (k + 1) (Nat.le_refl _)⟩
theorem shN_has {T : Tb} {a b i j : Nat} (hj : j < 8) (h1 : a ≤ i) (h2 : i ≤ b) (h : ¬ (shN T a b &&& bitN j) = 0) : ¬ tk T (ts T i) j = -1 := by
  rw [has_iff' hj, shN, if_neg (by omega), shr_bit hj] at h
  have := h (i - a) (by omega)
  rw [show a + (i - a) = i by omega] at this
  exact this
/-! what the acts make of a table -/
def ix (x : Int32) : Nat := x.toNatClampNeg
theorem ix_nI {j : Nat} (h : j < 2 ^ 31) : ix (nI j) = j := nI_clamp h
def bgn (T : Tb) (j : Nat) (k d : Int32) : Tb := (tn T + 1, tr T, fun q i => if q = tn T then (if i = j then k else tk T (tn T - 1) i) else tk T q i, fun q i => if q = tn T then (if i = j then d else td T (tn T - 1) i) else td T q i, ts T, tv T)
def wrt (T : Tb) : Tb := (tn T, tr T + 1, tk T, td T, fun i => if i = tr T then tn T - 1 else ts T i, fun i j => if i = tr T then td T (tn T - 1) j else tv T i j)
def setv (T : Tb) (i j : Nat) (v : Int32) : Tb := (tn T, tr T, tk T, td T, ts T, fun i2 j2 => if i2 = i ∧ j2 = j then v else tv T i2 j2)
def rmv (T : Tb) (i : Nat) : Tb := (tn T, tr T - 1, tk T, td T, fun i2 => if i2 < i then ts T i2 else ts T (i2 + 1), fun i2 j => if i2 < i then tv T i2 j else tv T (i2 + 1) j)
def fgt (T : Tb) (n : Nat) : Tb := (tn T - n, tr T, fun q j => tk T (q + n) j, fun q j => td T (q + n) j, fun i => ts T i - n, tv T)
def dre (T : Tb) (i : Nat) : Tb := (tn T, tr T, tk T, td T, fun i2 => if i2 = i then tn T - 1 else ts T i2, fun i2 j => if i2 = i then rdC T (tn T - 1) i j else tv T i2 j)
def mkP (T : Tb) (a : Nat) : Nat → Tb
  | 0 => T
  | k + 1 => if ts T (a + k) = tn T - 1 then mkP T a k else dre (mkP T a k) (a + k)
def mkL (T : Tb) (a : Nat) : Nat → Int32 := sm (fun k => if ts T (a + k) = tn T - 1 then 0 else lsR T (tn T - 1) (a + k))
abbrev mkN (T : Tb) (a n : Nat) : Prop := ∀ k : Nat, k < n → ts T (a + k) = tn T - 1
def fgF (T : Tb) : Nat → Nat
  | 0 => tn T - 1
  | k + 1 => if ts T k < fgF T k then ts T k else fgF T k
def fgm (T : Tb) : Nat := fgF T (tr T)
def sAdd (T : Tb) (x k d : Int32) : Int32 × Tb := if xin x 8 then (if xin k 3 ∧ okv d k then (if tk T (tn T - 1) (ix x) = -1 then (if tn T < 30 then (nI (tn T), bgn T (ix x) k d) else (-10003, T)) else (-10004, T)) else (-10002, T)) else (-10001, T)
def sDrop (T : Tb) (x : Int32) : Int32 × Tb := if xin x 8 ∧ ¬ tk T (tn T - 1) (ix x) = -1 then (if tn T < 30 then (nI (tn T), bgn T (ix x) (-1) 0) else (-10003, T)) else (-10001, T)
def sKind (T : Tb) (x k : Int32) : Int32 × Tb := if xin x 8 ∧ ¬ tk T (tn T - 1) (ix x) = -1 then (if xin k 3 then (if tn T < 30 then (if tk T (tn T - 1) (ix x) = k then (-10005, T) else (nI (tn T), bgn T (ix x) k (cstC k (td T (tn T - 1) (ix x))))) else (-10003, T)) else (-10002, T)) else (-10001, T)
def sRow (T : Tb) : Int32 × Tb := if tr T < 24 then (nI (tr T), wrt T) else (-10003, T)
def sSet (T : Tb) (x y v : Int32) : Int32 × Tb := if (xin x (tr T) ∧ xin y 8) ∧ ¬ tk T (ts T (ix x)) (ix y) = -1 then (if okv v (tk T (ts T (ix x)) (ix y)) then (if tv T (ix x) (ix y) = v then (-10005, T) else (tv T (ix x) (ix y), setv T (ix x) (ix y) v)) else (-10002, T)) else (-10001, T)
def sRem (T : Tb) (x : Int32) : Int32 × Tb := if xin x (tr T) then (nI (tr T - 1), rmv T (ix x)) else (-10001, T)
def sMk (T : Tb) (x y : Int32) : Int32 × Tb := if xin x (tr T) ∧ xin y (tr T) then (if ix y < ix x then (-10002, T) else if mkN T (ix x) (ix y + 1 - ix x) then (-10005, T) else (mkL T (ix x) (ix y + 1 - ix x), mkP T (ix x) (ix y + 1 - ix x))) else (-10001, T)
def sFor (T : Tb) : Int32 × Tb := if fgm T = 0 then (-10005, T) else (nI (fgm T), fgt T (fgm T))
/-! arrays behind the acts -/
theorem bgnA {A : Nat → Int32} {f : Nat → Nat → Int32} {n j : Nat} {v : Int32} (hn : 1 ≤ n) (hj : j < 8) (h : ∀ q i : Nat, q < n → i < 8 → A (q * 8 + i) = f q i) : ∀ q i : Nat, q < n + 1 → i < 8 → upd (va_cpy A A ((n - 1) * 8) ((n - 1) * 8 + 8) 8) ((n - 1) * 8 + 8 + j) v (q * 8 + i) = if q = n then (if i = j then v else f (n - 1) i) else f q i := by
  intro q i hq hi
  by_cases e1 : q = n
  · rw [if_pos e1]
    by_cases e2 : i = j
    · rw [if_pos e2, show q * 8 + i = (n - 1) * 8 + 8 + j by omega, pk_us]
    · rw [if_neg e2, pk_un (by omega), pk_cpy_in (by omega) (by omega), show (n - 1) * 8 + (q * 8 + i - ((n - 1) * 8 + 8)) = (n - 1) * 8 + i by omega]
      exact h _ _ (by omega) hi
  · rw [if_neg e1, pk_un (by omega), pk_cpy_out (by omega)]
    exact h _ _ (by omega) hi
theorem cpyA {A B : Nat → Int32} {n z : Nat} (h : z < n) : va_cpy A B 0 0 n z = A z := by
  rw [pk_cpy_in (by omega) (by omega)]
  rw [show 0 + (z - 0) = z by omega]
def rawT (n r : Nat) (K D : Nat → Int32) (s : Nat → Nat) (V : Nat → Int32) : Tb := (n, r, fun q j => K (q * 8 + j), fun q j => D (q * 8 + j), s, fun i j => V (i * 8 + j))
theorem RC_raw {E : xE} {C : xC} {b n r : Nat} {K D S V : Nat → Int32} {s : Nat → Nat} (h0 : C (b) = .inr (3, [.int (nI n), .ref (E.2.1 (b + 1)), .ref (E.2.1 (b + 2)), .int (nI r), .ref (E.2.1 (b + 3)), .ref (E.2.1 (b + 4))])) (h1 : C (b + 1) = .inl (E.2.2.1 1, 240, .inl K)) (h2 : C (b + 2) = .inl (E.2.2.1 1, 240, .inl D)) (h3 : C (b + 3) = .inl (E.2.2.1 1, 24, .inl S)) (h4 : C (b + 4) = .inl (E.2.2.1 1, 192, .inl V)) (hs : ∀ i : Nat, i < r → S i = nI (s i)) : RC E C b (rawT n r K D s V) :=
  ⟨K, D, S, V, h0, h1, h2, h3, h4, fun _ _ _ _ => rfl, fun _ _ _ _ => rfl, hs, fun _ _ _ _ _ => rfl⟩
/-- two tables that show the same -/
def eqv (T U : Tb) : Prop := tn T = tn U ∧ tr T = tr U ∧ (∀ q j : Nat, q < tn T → j < 8 → tk T q j = tk U q j) ∧ (∀ q j : Nat, q < tn T → j < 8 → td T q j = td U q j) ∧ (∀ i : Nat, i < tr T → ts T i = ts U i) ∧ (∀ i j : Nat, i < tr T → j < 8 → ¬ tk T (ts T i) j = -1 → tv T i j = tv U i j)
theorem bgnR {T : Tb} {K D S V : Nat → Int32} {j : Nat} {k d : Int32} (h : RT T K D S V) (hw : WB T) (hj : j < 8) : RT (bgn T j k d) (upd (va_cpy K K ((tn T - 1) * 8) ((tn T - 1) * 8 + 8) 8) ((tn T - 1) * 8 + 8 + j) k) (upd (va_cpy D D ((tn T - 1) * 8) ((tn T - 1) * 8 + 8) 8) ((tn T - 1) * 8 + 8 + j) d) S V := by
  obtain ⟨h1, h2, h3, h4⟩ := h
  obtain ⟨w1, w2, w3, w4⟩ := hw
  refine ⟨bgnA w1 hj h1, bgnA w1 hj h2, h3, fun i j1 q1 q2 q3 => h4 i j1 q1 q2 (fun z => q3 ?_)⟩
  have hi := w4 i q1
  show (if ts T i = tn T then (if j1 = j then k else tk T (tn T - 1) j1) else tk T (ts T i) j1) = -1
  rw [if_neg (by omega)]
  exact z
theorem wrtR {T : Tb} {K D S V : Nat → Int32} (h : RT T K D S V) (hw : WB T) : RT (wrt T) K D (upd S (tr T) (nI (tn T - 1))) (va_cpy D V ((tn T - 1) * 8) (tr T * 8) 8) := by
  obtain ⟨h1, h2, h3, h4⟩ := h
  obtain ⟨w1, w2, w3, w4⟩ := hw
  refine ⟨h1, h2, fun i hi => ?_, fun i j hi hj hc => ?_⟩
  · show upd S (tr T) (nI (tn T - 1)) i = nI (if i = tr T then tn T - 1 else ts T i)
    by_cases e : i = tr T
    · rw [if_pos e, e, pk_us]
    · rw [if_neg e, pk_un e]
      have hi2 : i < tr T + 1 := hi
      exact h3 i (by omega)
  · have hi2 : i < tr T + 1 := hi
    have hc2 : ¬ tk T (if i = tr T then tn T - 1 else ts T i) j = -1 := hc
    show va_cpy D V ((tn T - 1) * 8) (tr T * 8) 8 (i * 8 + j) = if i = tr T then td T (tn T - 1) j else tv T i j
    by_cases e : i = tr T
    · rw [if_pos e, pk_cpy_in (by omega) (by omega), show (tn T - 1) * 8 + (i * 8 + j - tr T * 8) = (tn T - 1) * 8 + j by omega]
      exact h2 _ _ (by omega) hj
    · rw [if_neg e] at hc2 ⊢
      rw [pk_cpy_out (by omega)]
      exact h4 i j (by omega) hj hc2
theorem setR {T : Tb} {K D S V : Nat → Int32} {i j : Nat} {v : Int32} (h : RT T K D S V) (hj : j < 8) : RT (setv T i j v) K D S (upd V (i * 8 + j) v) := by
  obtain ⟨h1, h2, h3, h4⟩ := h
  refine ⟨h1, h2, h3, fun i2 j2 hi hj2 hc => ?_⟩
  show upd V (i * 8 + j) v (i2 * 8 + j2) = if i2 = i ∧ j2 = j then v else tv T i2 j2
  by_cases e : i2 = i ∧ j2 = j
  · rw [if_pos e, e.1, e.2, pk_us]
  · rw [if_neg e, pk_un (fun z => e ⟨by omega, by omega⟩)]
    exact h4 i2 j2 hi hj2 hc
theorem rmvR {T : Tb} {K D S V : Nat → Int32} {i : Nat} (h : RT T K D S V) (hi : i < tr T) : RT (rmv T i) K D (va_cpy S S (i + 1) i (tr T - i - 1)) (va_cpy V V ((i + 1) * 8) (i * 8) ((tr T - i - 1) * 8)) := by
  obtain ⟨h1, h2, h3, h4⟩ := h
  refine ⟨h1, h2, fun i2 hi2 => ?_, fun i2 j hi2 hj hc => ?_⟩
  · have hi3 : i2 < tr T - 1 := hi2
    show va_cpy S S (i + 1) i (tr T - i - 1) i2 = nI (if i2 < i then ts T i2 else ts T (i2 + 1))
    by_cases e : i2 < i
    · rw [if_pos e, pk_cpy_out (by omega)]
      exact h3 i2 (by omega)
    · rw [if_neg e, pk_cpy_in (by omega) (by omega), show i + 1 + (i2 - i) = i2 + 1 by omega]
      exact h3 _ (by omega)
  · have hi3 : i2 < tr T - 1 := hi2
    have hc2 : ¬ tk T (if i2 < i then ts T i2 else ts T (i2 + 1)) j = -1 := hc
    show va_cpy V V ((i + 1) * 8) (i * 8) ((tr T - i - 1) * 8) (i2 * 8 + j) = if i2 < i then tv T i2 j else tv T (i2 + 1) j
    by_cases e : i2 < i
    · rw [if_pos e] at hc2 ⊢
      rw [pk_cpy_out (by omega)]
      exact h4 i2 j (by omega) hj hc2
    · rw [if_neg e] at hc2 ⊢
      rw [pk_cpy_in (by omega) (by omega), show (i + 1) * 8 + (i2 * 8 + j - i * 8) = (i2 + 1) * 8 + j by omega]
      exact h4 _ j (by omega) hj hc2
theorem fgtR {T : Tb} {K D S V S2 : Nat → Int32} {m : Nat} (h : RT T K D S V) (hw : WB T) (hm : m < tn T) (h0 : ∀ i : Nat, i < tr T → m ≤ ts T i) (hs : ∀ i : Nat, i < tr T → S2 i = nI (ts T i - m)) : RT (fgt T m) (va_cpy K K (m * 8) 0 ((tn T - m) * 8)) (va_cpy D D (m * 8) 0 ((tn T - m) * 8)) S2 V := by
  obtain ⟨h1, h2, h3, h4⟩ := h
  obtain ⟨w1, w2, w3, w4⟩ := hw
  refine ⟨fun q j hq hj => ?_, fun q j hq hj => ?_, hs, fun i j hi hj hc => ?_⟩
  · have hq2 : q < tn T - m := hq
    show va_cpy K K (m * 8) 0 ((tn T - m) * 8) (q * 8 + j) = tk T (q + m) j
    rw [pk_cpy_in (by omega) (by omega), show m * 8 + (q * 8 + j - 0) = (q + m) * 8 + j by omega]
    exact h1 _ _ (by omega) hj
  · have hq2 : q < tn T - m := hq
    show va_cpy D D (m * 8) 0 ((tn T - m) * 8) (q * 8 + j) = td T (q + m) j
    rw [pk_cpy_in (by omega) (by omega), show m * 8 + (q * 8 + j - 0) = (q + m) * 8 + j by omega]
    exact h2 _ _ (by omega) hj
  · have hi2 : i < tr T := hi
    have hc2 : ¬ tk T (ts T i - m + m) j = -1 := hc
    rw [show ts T i - m + m = ts T i by have := h0 i hi2; omega] at hc2
    exact h4 i j hi2 hj hc2
/-- a row made over, its values written, the season last -/
theorem dreR {T : Tb} {K D S V V2 : Nat → Int32} {i : Nat} (h : RT T K D S V) (hV : ∀ z : Nat, z < i * 8 ∨ i * 8 + 8 ≤ z → V2 z = V z) (hd : ∀ j : Nat, j < 8 → ¬ tk T (tn T - 1) j = -1 → V2 (i * 8 + j) = rdC T (tn T - 1) i j) : RT (dre T i) K D (upd S i (nI (tn T - 1))) V2 := by
  obtain ⟨h1, h2, h3, h4⟩ := h
  refine ⟨h1, h2, fun i2 hi => ?_, fun i2 j hi hj hc => ?_⟩
  · show upd S i (nI (tn T - 1)) i2 = nI (if i2 = i then tn T - 1 else ts T i2)
    by_cases e : i2 = i
    · rw [if_pos e, e, pk_us]
    · rw [if_neg e, pk_un e]
      exact h3 i2 hi
  · have hc2 : ¬ tk T (if i2 = i then tn T - 1 else ts T i2) j = -1 := hc
    show V2 (i2 * 8 + j) = if i2 = i then rdC T (tn T - 1) i j else tv T i2 j
    by_cases e : i2 = i
    · rw [if_pos e] at hc2 ⊢
      rw [e]
      exact hd j hj hc2
    · rw [if_neg e] at hc2 ⊢
      rw [hV _ (by omega)]
      exact h4 i2 j hi hj hc2
theorem fgF_le {T : Tb} : ∀ k : Nat, fgF T k ≤ tn T - 1 ∧ ∀ i : Nat, i < k → fgF T k ≤ ts T i := by
  intro k
  induction k with
  | zero => exact ⟨Nat.le_refl _, fun i hi => absurd hi (Nat.not_lt_zero _)⟩
  | succ k ih =>
    rw [fgF]
    by_cases e : ts T k < fgF T k
    · rw [if_pos e]
      refine ⟨by omega, fun i hi => ?_⟩
      rcases Nat.lt_or_ge i k with q1 | q1
      · have := ih.2 i q1
        omega
      · rw [show i = k by omega]
        exact Nat.le_refl _
    · rw [if_neg e]
      refine ⟨ih.1, fun i hi => ?_⟩
      rcases Nat.lt_or_ge i k with q1 | q1
      · exact ih.2 i q1
      · rw [show i = k by omega]
        omega
theorem mkP_out {T : Tb} {a : Nat} : ∀ k : Nat, tn (mkP T a k) = tn T ∧ tr (mkP T a k) = tr T ∧ tk (mkP T a k) = tk T ∧ td (mkP T a k) = td T ∧ (∀ i : Nat, (i < a ∨ a + k ≤ i) → ts (mkP T a k) i = ts T i ∧ tv (mkP T a k) i = tv T i) := by
  intro k
  induction k with
  | zero => exact ⟨rfl, rfl, rfl, rfl, fun i _ => ⟨rfl, rfl⟩⟩
  | succ k ih =>
    obtain ⟨i1, i2, i3, i4, i5⟩ := ih
    rw [mkP]
    by_cases e : ts T (a + k) = tn T - 1
    · rw [if_pos e]
      exact ⟨i1, i2, i3, i4, fun i hi => i5 i (by omega)⟩
    · rw [if_neg e]
      refine ⟨i1, i2, i3, i4, fun i hi => ?_⟩
      obtain ⟨e1, e2⟩ := i5 i (by omega)
      refine ⟨?_, ?_⟩
      · show (if i = a + k then _ else ts (mkP T a k) i) = _
        rw [if_neg (by omega), e1]
      · show (fun j => if i = a + k then _ else tv (mkP T a k) i j) = _
        funext j
        rw [if_neg (by omega), e2]
theorem mkP_WB {T : Tb} {a : Nat} (hw : WB T) : ∀ k : Nat, WB (mkP T a k) := by
  intro k
  induction k with
  | zero => exact hw
  | succ k ih =>
    rw [mkP]
    by_cases e : ts T (a + k) = tn T - 1
    · rw [if_pos e]
      exact ih
    · rw [if_neg e]
      obtain ⟨i1, i2, i3, i4⟩ := ih
      refine ⟨i1, i2, i3, fun i hi => ?_⟩
      show (if i = a + k then tn (mkP T a k) - 1 else ts (mkP T a k) i) < tn (mkP T a k)
      by_cases e2 : i = a + k
      · rw [if_pos e2]; omega
      · rw [if_neg e2]; exact i4 i hi
theorem lsR_mkP {T : Tb} {a k : Nat} : lsR (mkP T a k) (tn T - 1) (a + k) = lsR T (tn T - 1) (a + k) := by
  obtain ⟨i1, i2, i3, i4, i5⟩ := mkP_out (T := T) (a := a) k
  obtain ⟨e1, e2⟩ := i5 (a + k) (by omega)
  unfold lsR lostC clos
  rw [i3, e1, e2]
def wvT (T : Tb) (V : Nat → Int32) : Tb := (tn T, tr T, tk T, td T, ts T, fun i j => V (i * 8 + j))
theorem rdC_wv {T : Tb} {V : Nat → Int32} {q i j : Nat} (h : ¬ tk T (ts T i) j = -1 → V (i * 8 + j) = tv T i j) : rdC (wvT T V) q i j = rdC T q i j := by
  show (if tk T (ts T i) j = -1 then td T q j else cstC (tk T q j) (V (i * 8 + j))) = (if tk T (ts T i) j = -1 then td T q j else cstC (tk T q j) (tv T i j))
  by_cases e : tk T (ts T i) j = -1
  · rw [if_pos e, if_pos e]
  · rw [if_neg e, if_neg e, h e]
theorem nI_min {a b : Nat} (ha : a < 2 ^ 31) (hb : b < 2 ^ 31) : (if nI a < nI b then nI a else nI b) = nI (if a < b then a else b) := by
  by_cases e : a < b
  · rw [if_pos e, if_pos ((nI_ltI ha hb).mpr e)]
  · rw [if_neg e, if_neg (fun z => e ((nI_ltI ha hb).mp z))]
theorem mkP_all {E : xE} {C : xC} {b : Nat} {T : Tb} {a n k : Nat} (hk : k = n) (h : mkN T a n) (hR : RC E C b (mkP T a k)) : RC E C b T := by
  subst hk
  have e : ∀ z : Nat, z ≤ k → mkP T a z = T := by
    intro z
    induction z with
    | zero => intro _; rfl
    | succ z ih =>
      intro hz
      rw [mkP, if_pos (h z (by omega))]
      exact ih (by omega)
  rw [e k (Nat.le_refl _)] at hR
  exact hR
theorem sm_pos {f : Nat → Int32} {n : Nat} (h : f n = 1) : sm f n + 1 = sm f (n + 1) := by rw [sm, h]
theorem sm_zero {f : Nat → Int32} {n : Nat} (h : f n = 0) : sm f n = sm f (n + 1) := by rw [sm, h, Int32.add_zero]
theorem sm_add {f : Nat → Int32} {n : Nat} {v : Int32} (h : f n = v) : sm f n + v = sm f (n + 1) := by rw [sm, h]
theorem smx_pos {f : Nat → Int32} {n : Nat} {x : Int32} (h : f n = 1) : x + sm f n + 1 = x + sm f (n + 1) := by rw [sm, h, Int32.add_assoc]
theorem smx_zero {f : Nat → Int32} {n : Nat} {x : Int32} (h : f n = 0) : x + sm f n = x + sm f (n + 1) := by rw [sm, h, Int32.add_zero]
end
section
set_option maxRecDepth 100000 in
set_option maxHeartbeats 4000000 in
theorem c_X4_isName {l : Launch} {E : xE} {C : xC} {x : Int32} : xR E l yX4_isName wsX4_isName 0 0 [.int x] C (bI (xin x 8)) := by
  refine xM_ofY (cc := cX4_isName) (maxL := 1) (ret := (some .boolean)) (by decide) rfl (Nat.le_of_ble_eq_true rfl) ?_
  intro p e s m args below meth c X hr
  refine y_lv [(0, .int x)] rfl ?_
  refine y_iload_n X dX4_isName_0 0 rfl ?_
  refine y_if_lt X 14 ((x).toInt < (0 : Int)) dX4_isName_1 (by decide) (cLt rfl (by decide)) (fun c_1 => ?_) (fun c_1 => ?_)
  ·
    refine y_iconst X (v := (0)) dX4_isName_14 (by decide) ?_
    exact y_zret X hr (by rfl) dX4_isName_15 rfl (by first | exact ⟨rfl, rfl⟩ | exact ⟨congrArg (fun z => some (Value.int z)) (bI_1 (by omega)).symm, rfl⟩ | exact ⟨congrArg (fun z => some (Value.int z)) (bI_0 (by omega)).symm, rfl⟩)
  ·
    refine y_iload_n X dX4_isName_4 0 rfl ?_
    refine y_bipush X (v := (8)) dX4_isName_5 (by decide) ?_
    refine y_icmp_ge X 14 ((8 : Int) ≤ (x).toInt) dX4_isName_7 (by decide) (cLe (by decide) rfl) (fun c_2 => ?_) (fun c_2 => ?_)
    ·
      refine y_iconst X (v := (0)) dX4_isName_14 (by decide) ?_
      exact y_zret X hr (by rfl) dX4_isName_15 rfl (by first | exact ⟨rfl, rfl⟩ | exact ⟨congrArg (fun z => some (Value.int z)) (bI_1 (by omega)).symm, rfl⟩ | exact ⟨congrArg (fun z => some (Value.int z)) (bI_0 (by omega)).symm, rfl⟩)
    ·
      refine y_iconst X (v := (1)) dX4_isName_10 (by decide) ?_
      refine y_goto X 15 dX4_isName_11 (by decide) ?_
      exact y_zret X hr (by rfl) dX4_isName_15 rfl (by first | exact ⟨rfl, rfl⟩ | exact ⟨congrArg (fun z => some (Value.int z)) (bI_1 (by omega)).symm, rfl⟩ | exact ⟨congrArg (fun z => some (Value.int z)) (bI_0 (by omega)).symm, rfl⟩)

set_option maxRecDepth 100000 in
set_option maxHeartbeats 4000000 in
theorem c_X4_isKind {l : Launch} {E : xE} {C : xC} {x : Int32} : xR E l yX4_isKind wsX4_isKind 0 0 [.int x] C (bI (xin x 3)) := by
  refine xM_ofY (cc := cX4_isKind) (maxL := 1) (ret := (some .boolean)) (by decide) rfl (Nat.le_of_ble_eq_true rfl) ?_
  intro p e s m args below meth c X hr
  refine y_lv [(0, .int x)] rfl ?_
  refine y_iload_n X dX4_isKind_0 0 rfl ?_
  refine y_if_lt X 13 ((x).toInt < (0 : Int)) dX4_isKind_1 (by decide) (cLt rfl (by decide)) (fun c_1 => ?_) (fun c_1 => ?_)
  ·
    refine y_iconst X (v := (0)) dX4_isKind_13 (by decide) ?_
    exact y_zret X hr (by rfl) dX4_isKind_14 rfl (by first | exact ⟨rfl, rfl⟩ | exact ⟨congrArg (fun z => some (Value.int z)) (bI_1 (by omega)).symm, rfl⟩ | exact ⟨congrArg (fun z => some (Value.int z)) (bI_0 (by omega)).symm, rfl⟩)
  ·
    refine y_iload_n X dX4_isKind_4 0 rfl ?_
    refine y_iconst X (v := (2)) dX4_isKind_5 (by decide) ?_
    refine y_icmp_gt X 13 ((2 : Int) < (x).toInt) dX4_isKind_6 (by decide) (cLt (by decide) rfl) (fun c_2 => ?_) (fun c_2 => ?_)
    ·
      refine y_iconst X (v := (0)) dX4_isKind_13 (by decide) ?_
      exact y_zret X hr (by rfl) dX4_isKind_14 rfl (by first | exact ⟨rfl, rfl⟩ | exact ⟨congrArg (fun z => some (Value.int z)) (bI_1 (by omega)).symm, rfl⟩ | exact ⟨congrArg (fun z => some (Value.int z)) (bI_0 (by omega)).symm, rfl⟩)
    ·
      refine y_iconst X (v := (1)) dX4_isKind_9 (by decide) ?_
      refine y_goto X 14 dX4_isKind_10 (by decide) ?_
      exact y_zret X hr (by rfl) dX4_isKind_14 rfl (by first | exact ⟨rfl, rfl⟩ | exact ⟨congrArg (fun z => some (Value.int z)) (bI_1 (by omega)).symm, rfl⟩ | exact ⟨congrArg (fun z => some (Value.int z)) (bI_0 (by omega)).symm, rfl⟩)

set_option maxRecDepth 100000 in
set_option maxHeartbeats 4000000 in
theorem c_X4_isError {l : Launch} {E : xE} {C : xC} {x : Int32} : xR E l yX4_isError wsX4_isError 0 0 [.int x] C (bI (erP x)) := by
  refine xM_ofY (cc := cX4_isError) (maxL := 1) (ret := (some .boolean)) (by decide) rfl (Nat.le_of_ble_eq_true rfl) ?_
  intro p e s m args below meth c X hr
  refine y_lv [(0, .int x)] rfl ?_
  refine y_iload_n X dX4_isError_0 0 rfl ?_
  refine y_sipush X (v := (-10001)) dX4_isError_1 (by decide) ?_
  refine y_icmp_gt X 18 ((-10001 : Int) < (x).toInt) dX4_isError_4 (by decide) (cLt (by decide) rfl) (fun c_1 => ?_) (fun c_1 => ?_)
  ·
    refine y_iconst X (v := (0)) dX4_isError_18 (by decide) ?_
    exact y_zret X hr (by rfl) dX4_isError_19 rfl ⟨by first | rw [bI_1 (P := erP x) ⟨by omega, by assumption⟩] | rw [bI_0 (P := erP x) (fun z => by first | exact absurd z.1 (by omega) | exact z.2 (by assumption))], rfl⟩
  ·
    refine y_iload_n X dX4_isError_7 0 rfl ?_
    refine y_sipush X (v := (-10005)) dX4_isError_8 (by decide) ?_
    refine y_icmp_eq X 18 (x = (-10005)) dX4_isError_11 (by decide) Iff.rfl (fun c_2 => ?_) (fun c_2 => ?_)
    ·
      refine y_iconst X (v := (0)) dX4_isError_18 (by decide) ?_
      exact y_zret X hr (by rfl) dX4_isError_19 rfl ⟨by first | rw [bI_1 (P := erP x) ⟨by omega, by assumption⟩] | rw [bI_0 (P := erP x) (fun z => by first | exact absurd z.1 (by omega) | exact z.2 (by assumption))], rfl⟩
    ·
      refine y_iconst X (v := (1)) dX4_isError_14 (by decide) ?_
      refine y_goto X 19 dX4_isError_15 (by decide) ?_
      exact y_zret X hr (by rfl) dX4_isError_19 rfl ⟨by first | rw [bI_1 (P := erP x) ⟨by omega, by assumption⟩] | rw [bI_0 (P := erP x) (fun z => by first | exact absurd z.1 (by omega) | exact z.2 (by assumption))], rfl⟩

set_option maxRecDepth 100000 in
set_option maxHeartbeats 4000000 in
theorem c_X4_hasName {l : Launch} {E : xE} {C : xC} {x : Int32} {j : Nat} : xR E l yX4_hasName wsX4_hasName 0 0 [.int x, .int (nI (j))] C (bI (¬ (x &&& bitN j) = 0)) := by
  refine xM_ofY (cc := cX4_hasName) (maxL := 2) (ret := (some .boolean)) (by decide) rfl (Nat.le_of_ble_eq_true rfl) ?_
  intro p e s m args below meth c X hr
  refine y_lv [(0, .int x), (1, .int (nI (j)))] rfl ?_
  refine y_iload_n X dX4_hasName_0 0 rfl ?_
  refine y_iconst X (v := (1)) dX4_hasName_1 (by decide) ?_
  refine y_iload_n X dX4_hasName_2 1 rfl ?_
  refine y_ishl X (z := (bitN (j))) dX4_hasName_3 rfl ?_
  refine y_iand X (z := (x &&& (bitN (j)))) dX4_hasName_4 rfl ?_
  refine y_if_eq X 12 ((x &&& (bitN (j))) = (0)) dX4_hasName_5 (by decide) Iff.rfl (fun c_1 => ?_) (fun c_1 => ?_)
  ·
    refine y_iconst X (v := (0)) dX4_hasName_12 (by decide) ?_
    exact y_zret X hr (by rfl) dX4_hasName_13 rfl ⟨by first | rw [bI_1 (P := ¬ (x &&& bitN j) = 0) (by assumption)] | rw [bI_0 (P := ¬ (x &&& bitN j) = 0) (fun z => z (by assumption))], rfl⟩
  ·
    refine y_iconst X (v := (1)) dX4_hasName_8 (by decide) ?_
    refine y_goto X 13 dX4_hasName_9 (by decide) ?_
    exact y_zret X hr (by rfl) dX4_hasName_13 rfl ⟨by first | rw [bI_1 (P := ¬ (x &&& bitN j) = 0) (by assumption)] | rw [bI_0 (P := ¬ (x &&& bitN j) = 0) (fun z => z (by assumption))], rfl⟩

set_option maxRecDepth 100000 in
set_option maxHeartbeats 4000000 in
theorem c_X4_leastOfKind {l : Launch} {E : xE} {C : xC} {x : Int32} : xR E l yX4_leastOfKind wsX4_leastOfKind 0 0 [.int x] C (loK x) := by
  refine xM_ofY (cc := cX4_leastOfKind) (maxL := 1) (ret := (some .int)) (by decide) rfl (Nat.le_of_ble_eq_true rfl) ?_
  intro p e s m args below meth c X hr
  refine y_lv [(0, .int x)] rfl ?_
  refine y_iload_n X dX4_leastOfKind_0 0 rfl ?_
  refine y_iconst X (v := (2)) dX4_leastOfKind_1 (by decide) ?_
  refine y_icmp_ne X 11 (¬ (x = (2))) dX4_leastOfKind_2 (by decide) Iff.rfl (fun c_1 => ?_) (fun c_1 => ?_)
  ·
    refine y_iconst X (v := (0)) dX4_leastOfKind_11 (by decide) ?_
    exact y_iret X hr dX4_leastOfKind_12 rfl ⟨by simp [loK, c_1], rfl⟩
  ·
    have c_1 := Decidable.of_not_not c_1
    refine y_sipush X (v := (-9999)) dX4_leastOfKind_5 (by decide) ?_
    refine y_goto X 12 dX4_leastOfKind_8 (by decide) ?_
    exact y_iret X hr dX4_leastOfKind_12 rfl ⟨by simp [loK, c_1], rfl⟩

set_option maxRecDepth 100000 in
set_option maxHeartbeats 4000000 in
theorem c_X4_greatestOfKind {l : Launch} {E : xE} {C : xC} {x : Int32} : xR E l yX4_greatestOfKind wsX4_greatestOfKind 0 0 [.int x] C (hiK x) := by
  refine xM_ofY (cc := cX4_greatestOfKind) (maxL := 1) (ret := (some .int)) (by decide) rfl (Nat.le_of_ble_eq_true rfl) ?_
  intro p e s m args below meth c X hr
  refine y_lv [(0, .int x)] rfl ?_
  refine y_iload_n X dX4_greatestOfKind_0 0 rfl ?_
  refine y_if_ne X 6 (¬ (x = (0))) dX4_greatestOfKind_1 (by decide) Iff.rfl (fun c_1 => ?_) (fun c_1 => ?_)
  ·
    refine y_iload_n X dX4_greatestOfKind_6 0 rfl ?_
    refine y_iconst X (v := (1)) dX4_greatestOfKind_7 (by decide) ?_
    refine y_icmp_ne X 16 (¬ (x = (1))) dX4_greatestOfKind_8 (by decide) Iff.rfl (fun c_2 => ?_) (fun c_2 => ?_)
    ·
      refine y_sipush X (v := (9999)) dX4_greatestOfKind_16 (by decide) ?_
      exact y_iret X hr dX4_greatestOfKind_19 rfl ⟨by simp [hiK, c_1, c_2], rfl⟩
    ·
      have c_2 := Decidable.of_not_not c_2
      refine y_bipush X (v := (9)) dX4_greatestOfKind_11 (by decide) ?_
      refine y_goto X 19 dX4_greatestOfKind_13 (by decide) ?_
      exact y_iret X hr dX4_greatestOfKind_19 rfl ⟨by simp [hiK, c_1, c_2], rfl⟩
  ·
    have c_1 := Decidable.of_not_not c_1
    refine y_iconst X (v := (1)) dX4_greatestOfKind_4 (by decide) ?_
    exact y_iret X hr dX4_greatestOfKind_5 rfl ⟨by simp [hiK, c_1], rfl⟩

set_option maxRecDepth 100000 in
set_option maxHeartbeats 4000000 in
theorem c_X4_isOfKind {l : Launch} {E : xE} {C : xC} {x y : Int32} : xR E l yX4_isOfKind wsX4_isOfKind 1 20 [.int x, .int y] C (bI (okv x y)) := by
  refine xM_ofY (cc := cX4_isOfKind) (maxL := 2) (ret := (some .boolean)) (by decide) rfl (Nat.le_of_ble_eq_true rfl) ?_
  intro p e s m args below meth c X hr
  refine y_lv [(0, .int x), (1, .int y)] rfl ?_
  refine y_iload_n X dX4_isOfKind_0 0 rfl ?_
  refine y_iload_n X dX4_isOfKind_1 1 rfl ?_
  refine y_callJr X (av := [.int y]) [.int x] 1 (c_X4_leastOfKind (x := y)) gX4_isOfKind_X4_leastOfKind rfl (by decide +kernel) rfl ⟨Nat.le_of_ble_eq_true rfl, Nat.le_of_ble_eq_true rfl⟩ ⟨Nat.zero_le _, Nat.zero_le _⟩ (Nat.le_of_ble_eq_true rfl) rfl dX4_isOfKind_2 ?_
  refine y_icmp_lt X 20 ((x).toInt < ((loK y)).toInt) dX4_isOfKind_5 (by decide) (cLt rfl rfl) (fun c_1 => ?_) (fun c_1 => ?_)
  ·
    refine y_iconst X (v := (0)) dX4_isOfKind_20 (by decide) ?_
    exact y_zret X hr (by rfl) dX4_isOfKind_21 rfl (by first | exact ⟨rfl, rfl⟩ | exact ⟨congrArg (fun z => some (Value.int z)) (bI_1 (by omega)).symm, rfl⟩ | exact ⟨congrArg (fun z => some (Value.int z)) (bI_0 (by omega)).symm, rfl⟩)
  ·
    refine y_iload_n X dX4_isOfKind_8 0 rfl ?_
    refine y_iload_n X dX4_isOfKind_9 1 rfl ?_
    refine y_callJr X (av := [.int y]) [.int x] 1 (c_X4_greatestOfKind (x := y)) gX4_isOfKind_X4_greatestOfKind rfl (by decide +kernel) rfl ⟨Nat.le_of_ble_eq_true rfl, Nat.le_of_ble_eq_true rfl⟩ ⟨Nat.zero_le _, Nat.zero_le _⟩ (Nat.le_of_ble_eq_true rfl) rfl dX4_isOfKind_10 ?_
    refine y_icmp_gt X 20 (((hiK y)).toInt < (x).toInt) dX4_isOfKind_13 (by decide) (cLt rfl rfl) (fun c_2 => ?_) (fun c_2 => ?_)
    ·
      refine y_iconst X (v := (0)) dX4_isOfKind_20 (by decide) ?_
      exact y_zret X hr (by rfl) dX4_isOfKind_21 rfl (by first | exact ⟨rfl, rfl⟩ | exact ⟨congrArg (fun z => some (Value.int z)) (bI_1 (by omega)).symm, rfl⟩ | exact ⟨congrArg (fun z => some (Value.int z)) (bI_0 (by omega)).symm, rfl⟩)
    ·
      refine y_iconst X (v := (1)) dX4_isOfKind_16 (by decide) ?_
      refine y_goto X 21 dX4_isOfKind_17 (by decide) ?_
      exact y_zret X hr (by rfl) dX4_isOfKind_21 rfl (by first | exact ⟨rfl, rfl⟩ | exact ⟨congrArg (fun z => some (Value.int z)) (bI_1 (by omega)).symm, rfl⟩ | exact ⟨congrArg (fun z => some (Value.int z)) (bI_0 (by omega)).symm, rfl⟩)

set_option maxRecDepth 100000 in
set_option maxHeartbeats 4000000 in
theorem c_X4_castTo {l : Launch} {E : xE} {C : xC} {x y : Int32} : xR E l yX4_castTo wsX4_castTo 1 20 [.int x, .int y] C (cstC x y) := by
  refine xM_ofY (cc := cX4_castTo) (maxL := 2) (ret := (some .int)) (by decide) rfl (Nat.le_of_ble_eq_true rfl) ?_
  intro p e s m args below meth c X hr
  refine y_lv [(0, .int x), (1, .int y)] rfl ?_
  refine y_iload_n X dX4_castTo_0 0 rfl ?_
  refine y_if_ne X 14 (¬ (x = (0))) dX4_castTo_1 (by decide) Iff.rfl (fun c_1 => ?_) (fun c_1 => ?_)
  ·
    refine y_iload_n X dX4_castTo_14 0 rfl ?_
    refine y_callJr X (av := [.int x]) [] 1 (c_X4_leastOfKind (x := x)) gX4_castTo_X4_leastOfKind rfl (by decide +kernel) rfl ⟨Nat.le_of_ble_eq_true rfl, Nat.le_of_ble_eq_true rfl⟩ ⟨Nat.zero_le _, Nat.zero_le _⟩ (Nat.le_of_ble_eq_true rfl) rfl dX4_castTo_15 ?_
    refine y_iload_n X dX4_castTo_18 0 rfl ?_
    refine y_callJr X (av := [.int x]) [.int (loK x)] 1 (c_X4_greatestOfKind (x := x)) gX4_castTo_X4_greatestOfKind rfl (by decide +kernel) rfl ⟨Nat.le_of_ble_eq_true rfl, Nat.le_of_ble_eq_true rfl⟩ ⟨Nat.zero_le _, Nat.zero_le _⟩ (Nat.le_of_ble_eq_true rfl) rfl dX4_castTo_19 ?_
    refine y_iload_n X dX4_castTo_22 1 rfl ?_
    refine y_min X (z := (if y < (hiK x) then y else (hiK x))) dX4_castTo_23 (by decide +kernel) (by decide +kernel) (by decide +kernel) (by decide +kernel) (Nat.le_of_ble_eq_true rfl) (Nat.le_of_ble_eq_true rfl) ⟨Nat.zero_le _, Nat.zero_le _⟩ rfl ?_
    refine y_max X (z := (if (loK x) < (if y < (hiK x) then y else (hiK x)) then (if y < (hiK x) then y else (hiK x)) else (loK x))) dX4_castTo_26 (by decide +kernel) (by decide +kernel) (by decide +kernel) (by decide +kernel) (Nat.le_of_ble_eq_true rfl) (Nat.le_of_ble_eq_true rfl) ⟨Nat.zero_le _, Nat.zero_le _⟩ rfl ?_
    exact y_iret X hr dX4_castTo_29 rfl ⟨by simp [cstC, c_1], rfl⟩
  ·
    have c_1 := Decidable.of_not_not c_1
    refine y_iload_n X dX4_castTo_4 1 rfl ?_
    refine y_if_ne X 12 (¬ (y = (0))) dX4_castTo_5 (by decide) Iff.rfl (fun c_2 => ?_) (fun c_2 => ?_)
    ·
      refine y_iconst X (v := (1)) dX4_castTo_12 (by decide) ?_
      exact y_iret X hr dX4_castTo_13 rfl ⟨by simp [cstC, c_1, c_2], rfl⟩
    ·
      have c_2 := Decidable.of_not_not c_2
      refine y_iconst X (v := (0)) dX4_castTo_8 (by decide) ?_
      refine y_goto X 13 dX4_castTo_9 (by decide) ?_
      exact y_iret X hr dX4_castTo_13 rfl ⟨by simp [cstC, c_1, c_2], rfl⟩

set_option maxRecDepth 100000 in
set_option maxHeartbeats 4000000 in
theorem c_X4_castLoses {l : Launch} {E : xE} {C : xC} {x y z : Int32} : xR E l yX4_castLoses wsX4_castLoses 2 41 [.int x, .int y, .int z] C (bI (¬ cstC y (cstC z x) = x)) := by
  refine xM_ofY (cc := cX4_castLoses) (maxL := 3) (ret := (some .boolean)) (by decide) rfl (Nat.le_of_ble_eq_true rfl) ?_
  intro p e s m args below meth c X hr
  refine y_lv [(0, .int x), (1, .int y), (2, .int z)] rfl ?_
  refine y_iload_n X dX4_castLoses_0 1 rfl ?_
  refine y_iload_n X dX4_castLoses_1 2 rfl ?_
  refine y_iload_n X dX4_castLoses_2 0 rfl ?_
  refine y_callJr X (av := [.int z, .int x]) [.int y] 2 (c_X4_castTo (x := z) (y := x)) gX4_castLoses_X4_castTo rfl (by decide +kernel) rfl ⟨Nat.le_of_ble_eq_true rfl, Nat.le_of_ble_eq_true rfl⟩ ⟨Nat.zero_le _, Nat.zero_le _⟩ (Nat.le_of_ble_eq_true rfl) rfl dX4_castLoses_3 ?_
  refine y_callJr X (av := [.int y, .int (cstC z x)]) [] 2 (c_X4_castTo (x := y) (y := (cstC z x))) gX4_castLoses_X4_castTo rfl (by decide +kernel) rfl ⟨Nat.le_of_ble_eq_true rfl, Nat.le_of_ble_eq_true rfl⟩ ⟨Nat.zero_le _, Nat.zero_le _⟩ (Nat.le_of_ble_eq_true rfl) rfl dX4_castLoses_6 ?_
  refine y_iload_n X dX4_castLoses_9 0 rfl ?_
  refine y_icmp_eq X 17 ((cstC y (cstC z x)) = x) dX4_castLoses_10 (by decide) Iff.rfl (fun c_1 => ?_) (fun c_1 => ?_)
  ·
    refine y_iconst X (v := (0)) dX4_castLoses_17 (by decide) ?_
    exact y_zret X hr (by rfl) dX4_castLoses_18 rfl ⟨by first | rw [bI_1 (P := ¬ cstC y (cstC z x) = x) (by assumption)] | rw [bI_0 (P := ¬ cstC y (cstC z x) = x) (fun w => w (by assumption))], rfl⟩
  ·
    refine y_iconst X (v := (1)) dX4_castLoses_13 (by decide) ?_
    refine y_goto X 18 dX4_castLoses_14 (by decide) ?_
    exact y_zret X hr (by rfl) dX4_castLoses_18 rfl ⟨by first | rw [bI_1 (P := ¬ cstC y (cstC z x) = x) (by assumption)] | rw [bI_0 (P := ¬ cstC y (cstC z x) = x) (fun w => w (by assumption))], rfl⟩

set_option maxRecDepth 100000 in
set_option maxHeartbeats 4000000 in
theorem c_X3_now {l : Launch} {E : xE} {C : xC} {b n : Nat} {fs : List Value} (gb : b < 61) (gn : 1 ≤ n) (g0 : C (b) = .inr (3, .int (nI n) :: fs)) : xR E l yX3_now wsX3_now 0 0 [.ref (E.2.1 (b))] C (nI (n - 1)) := by
  refine xM_ofY (cc := cX3_now) (maxL := 1) (ret := (some .int)) (by decide) rfl (Nat.le_of_ble_eq_true rfl) ?_
  intro p e s m args below meth c X hr
  have inX3 : ∀ w ∈ wsX30, w ∈ wsX3_now := by decide +kernel
  refine y_lv [(0, .ref (E.2.1 (b)))] rfl ?_
  refine y_aload_n X dX3_now_0 0 rfl ?_
  refine y_get X (b) 3 0 (Cn := RX3) (T := TX3) (N := 6) (index := 9) (v := .int (nI (n))) dX3_now_1 (by omega) g0 rfl (by decide) inX3 (by decide +kernel : Cond.fieldLink RX3 9 "ColumnSeasons$Table" "seasons" "I" ∈ wsX3_now) rfl rfl ?_
  refine y_iconst X (v := (1)) dX3_now_4 (by decide) ?_
  refine y_isub X (z := (nI ((n) - (1)))) dX3_now_5 (pk_sub (a := n) (b := 1) (by omega)) ?_
  exact y_iret X hr dX3_now_6 rfl (by first | exact ⟨rfl, rfl⟩ | exact ⟨congrArg (fun z => some (Value.int z)) (bI_1 (by omega)).symm, rfl⟩ | exact ⟨congrArg (fun z => some (Value.int z)) (bI_0 (by omega)).symm, rfl⟩)

set_option maxRecDepth 100000 in
set_option maxHeartbeats 4000000 in
theorem c_X3_isSeason {l : Launch} {E : xE} {C : xC} {b : Nat} {T : Tb} (gb : b + 4 < 61) (gT : RC E C b T) (gw : WB T) {x : Int32} : xR E l yX3_isSeason wsX3_isSeason 0 0 [.ref (E.2.1 (b)), .int x] C (bI (xin x (tn T))) := by
  obtain ⟨zK, zD, zS, zV, h0, h1, h2, h3, h4, gK, gD, gS, gV⟩ := id gT
  obtain ⟨gw1, gw2, gw3, gw4⟩ := id gw
  refine xM_ofY (cc := cX3_isSeason) (maxL := 2) (ret := (some .boolean)) (by decide) rfl (Nat.le_of_ble_eq_true rfl) ?_
  intro p e s m args below meth c X hr
  have inX3 : ∀ w ∈ wsX30, w ∈ wsX3_isSeason := by decide +kernel
  refine y_lv [(0, .ref (E.2.1 (b))), (1, .int x)] rfl ?_
  refine y_iload_n X dX3_isSeason_0 1 rfl ?_
  refine y_if_lt X 16 ((x).toInt < (0 : Int)) dX3_isSeason_1 (by decide) (cLt rfl (by decide)) (fun c_1 => ?_) (fun c_1 => ?_)
  ·
    refine y_iconst X (v := (0)) dX3_isSeason_16 (by decide) ?_
    exact y_zret X hr (by rfl) dX3_isSeason_17 rfl (by first | exact ⟨rfl, rfl⟩ | exact ⟨congrArg (fun z => some (Value.int z)) (bI_1 (by omega)).symm, rfl⟩ | exact ⟨congrArg (fun z => some (Value.int z)) (bI_0 (by omega)).symm, rfl⟩)
  ·
    refine y_iload_n X dX3_isSeason_4 1 rfl ?_
    refine y_aload_n X dX3_isSeason_5 0 rfl ?_
    refine y_get X (b) 3 0 (Cn := RX3) (T := TX3) (N := 6) (index := 9) (v := .int (nI (tn T))) dX3_isSeason_6 (by omega) h0 rfl (by decide) inX3 (by decide +kernel : Cond.fieldLink RX3 9 "ColumnSeasons$Table" "seasons" "I" ∈ wsX3_isSeason) rfl rfl ?_
    refine y_icmp_ge X 16 ((((tn T) : Nat) : Int) ≤ (x).toInt) dX3_isSeason_9 (by decide) (cLe (nI_toInt (by omega)) rfl) (fun c_2 => ?_) (fun c_2 => ?_)
    ·
      refine y_iconst X (v := (0)) dX3_isSeason_16 (by decide) ?_
      exact y_zret X hr (by rfl) dX3_isSeason_17 rfl (by first | exact ⟨rfl, rfl⟩ | exact ⟨congrArg (fun z => some (Value.int z)) (bI_1 (by omega)).symm, rfl⟩ | exact ⟨congrArg (fun z => some (Value.int z)) (bI_0 (by omega)).symm, rfl⟩)
    ·
      refine y_iconst X (v := (1)) dX3_isSeason_12 (by decide) ?_
      refine y_goto X 17 dX3_isSeason_13 (by decide) ?_
      exact y_zret X hr (by rfl) dX3_isSeason_17 rfl (by first | exact ⟨rfl, rfl⟩ | exact ⟨congrArg (fun z => some (Value.int z)) (bI_1 (by omega)).symm, rfl⟩ | exact ⟨congrArg (fun z => some (Value.int z)) (bI_0 (by omega)).symm, rfl⟩)

set_option maxRecDepth 100000 in
set_option maxHeartbeats 4000000 in
theorem c_X3_isRow {l : Launch} {E : xE} {C : xC} {b : Nat} {T : Tb} (gb : b + 4 < 61) (gT : RC E C b T) (gw : WB T) {x : Int32} : xR E l yX3_isRow wsX3_isRow 0 0 [.ref (E.2.1 (b)), .int x] C (bI (xin x (tr T))) := by
  obtain ⟨zK, zD, zS, zV, h0, h1, h2, h3, h4, gK, gD, gS, gV⟩ := id gT
  obtain ⟨gw1, gw2, gw3, gw4⟩ := id gw
  refine xM_ofY (cc := cX3_isRow) (maxL := 2) (ret := (some .boolean)) (by decide) rfl (Nat.le_of_ble_eq_true rfl) ?_
  intro p e s m args below meth c X hr
  have inX3 : ∀ w ∈ wsX30, w ∈ wsX3_isRow := by decide +kernel
  refine y_lv [(0, .ref (E.2.1 (b))), (1, .int x)] rfl ?_
  refine y_iload_n X dX3_isRow_0 1 rfl ?_
  refine y_if_lt X 16 ((x).toInt < (0 : Int)) dX3_isRow_1 (by decide) (cLt rfl (by decide)) (fun c_1 => ?_) (fun c_1 => ?_)
  ·
    refine y_iconst X (v := (0)) dX3_isRow_16 (by decide) ?_
    exact y_zret X hr (by rfl) dX3_isRow_17 rfl (by first | exact ⟨rfl, rfl⟩ | exact ⟨congrArg (fun z => some (Value.int z)) (bI_1 (by omega)).symm, rfl⟩ | exact ⟨congrArg (fun z => some (Value.int z)) (bI_0 (by omega)).symm, rfl⟩)
  ·
    refine y_iload_n X dX3_isRow_4 1 rfl ?_
    refine y_aload_n X dX3_isRow_5 0 rfl ?_
    refine y_get X (b) 3 3 (Cn := RX3) (T := TX3) (N := 6) (index := 22) (v := .int (nI (tr T))) dX3_isRow_6 (by omega) h0 rfl (by decide) inX3 (by decide +kernel : Cond.fieldLink RX3 22 "ColumnSeasons$Table" "rows" "I" ∈ wsX3_isRow) rfl rfl ?_
    refine y_icmp_ge X 16 ((((tr T) : Nat) : Int) ≤ (x).toInt) dX3_isRow_9 (by decide) (cLe (nI_toInt (by omega)) rfl) (fun c_2 => ?_) (fun c_2 => ?_)
    ·
      refine y_iconst X (v := (0)) dX3_isRow_16 (by decide) ?_
      exact y_zret X hr (by rfl) dX3_isRow_17 rfl (by first | exact ⟨rfl, rfl⟩ | exact ⟨congrArg (fun z => some (Value.int z)) (bI_1 (by omega)).symm, rfl⟩ | exact ⟨congrArg (fun z => some (Value.int z)) (bI_0 (by omega)).symm, rfl⟩)
    ·
      refine y_iconst X (v := (1)) dX3_isRow_12 (by decide) ?_
      refine y_goto X 17 dX3_isRow_13 (by decide) ?_
      exact y_zret X hr (by rfl) dX3_isRow_17 rfl (by first | exact ⟨rfl, rfl⟩ | exact ⟨congrArg (fun z => some (Value.int z)) (bI_1 (by omega)).symm, rfl⟩ | exact ⟨congrArg (fun z => some (Value.int z)) (bI_0 (by omega)).symm, rfl⟩)

set_option maxRecDepth 100000 in
set_option maxHeartbeats 4000000 in
theorem c_X3_kindIn {l : Launch} {E : xE} {C : xC} {b : Nat} {T : Tb} (gb : b + 4 < 61) (gT : RC E C b T) (gw : WB T) {q j : Nat} (gq : q < tn T) (gj : j < 8) : xR E l yX3_kindIn wsX3_kindIn 0 0 [.ref (E.2.1 (b)), .int (nI (q)), .int (nI (j))] C ((tk T q j)) := by
  obtain ⟨zK, zD, zS, zV, h0, h1, h2, h3, h4, gK, gD, gS, gV⟩ := id gT
  obtain ⟨gw1, gw2, gw3, gw4⟩ := id gw
  refine xM_ofY (cc := cX3_kindIn) (maxL := 3) (ret := (some .int)) (by decide) rfl (Nat.le_of_ble_eq_true rfl) ?_
  intro p e s m args below meth c X hr
  have inX3 : ∀ w ∈ wsX30, w ∈ wsX3_kindIn := by decide +kernel
  refine y_lv [(0, .ref (E.2.1 (b))), (1, .int (nI (q))), (2, .int (nI (j)))] rfl ?_
  refine y_aload_n X dX3_kindIn_0 0 rfl ?_
  refine y_get X (b) 3 1 (Cn := RX3) (T := TX3) (N := 6) (index := 15) (v := .ref (E.2.1 (b + 1))) dX3_kindIn_1 (by omega) h0 rfl (by decide) inX3 (by decide +kernel : Cond.fieldLink RX3 15 "ColumnSeasons$Table" "kinds" "[I" ∈ wsX3_kindIn) rfl rfl ?_
  refine y_iload_n X dX3_kindIn_4 1 rfl ?_
  refine y_bipush X (v := (8)) dX3_kindIn_5 (by decide) ?_
  refine y_imul X (z := (nI ((q) * (8)))) dX3_kindIn_7 (pk_mul (q) (8)) ?_
  refine y_iload_n X dX3_kindIn_8 2 rfl ?_
  refine y_iadd X (z := (nI ((q) * (8) + j))) dX3_kindIn_9 (nI_add ((q) * (8)) (j)) ?_
  refine y_iald X (b + 1) dX3_kindIn_10 (by omega) h1 (j := (q) * (8) + j) rfl (by omega) (by omega) (z := (tk T q j)) (gK q j gq gj) ?_
  exact y_iret X hr dX3_kindIn_11 rfl (by first | exact ⟨rfl, rfl⟩ | exact ⟨congrArg (fun z => some (Value.int z)) (bI_1 (by omega)).symm, rfl⟩ | exact ⟨congrArg (fun z => some (Value.int z)) (bI_0 (by omega)).symm, rfl⟩)

set_option maxRecDepth 100000 in
set_option maxHeartbeats 4000000 in
theorem c_X3_standardIn {l : Launch} {E : xE} {C : xC} {b : Nat} {T : Tb} (gb : b + 4 < 61) (gT : RC E C b T) (gw : WB T) {q j : Nat} (gq : q < tn T) (gj : j < 8) : xR E l yX3_standardIn wsX3_standardIn 0 0 [.ref (E.2.1 (b)), .int (nI (q)), .int (nI (j))] C ((td T q j)) := by
  obtain ⟨zK, zD, zS, zV, h0, h1, h2, h3, h4, gK, gD, gS, gV⟩ := id gT
  obtain ⟨gw1, gw2, gw3, gw4⟩ := id gw
  refine xM_ofY (cc := cX3_standardIn) (maxL := 3) (ret := (some .int)) (by decide) rfl (Nat.le_of_ble_eq_true rfl) ?_
  intro p e s m args below meth c X hr
  have inX3 : ∀ w ∈ wsX30, w ∈ wsX3_standardIn := by decide +kernel
  refine y_lv [(0, .ref (E.2.1 (b))), (1, .int (nI (q))), (2, .int (nI (j)))] rfl ?_
  refine y_aload_n X dX3_standardIn_0 0 rfl ?_
  refine y_get X (b) 3 2 (Cn := RX3) (T := TX3) (N := 6) (index := 19) (v := .ref (E.2.1 (b + 2))) dX3_standardIn_1 (by omega) h0 rfl (by decide) inX3 (by decide +kernel : Cond.fieldLink RX3 19 "ColumnSeasons$Table" "standards" "[I" ∈ wsX3_standardIn) rfl rfl ?_
  refine y_iload_n X dX3_standardIn_4 1 rfl ?_
  refine y_bipush X (v := (8)) dX3_standardIn_5 (by decide) ?_
  refine y_imul X (z := (nI ((q) * (8)))) dX3_standardIn_7 (pk_mul (q) (8)) ?_
  refine y_iload_n X dX3_standardIn_8 2 rfl ?_
  refine y_iadd X (z := (nI ((q) * (8) + j))) dX3_standardIn_9 (nI_add ((q) * (8)) (j)) ?_
  refine y_iald X (b + 2) dX3_standardIn_10 (by omega) h2 (j := (q) * (8) + j) rfl (by omega) (by omega) (z := (td T q j)) (gD q j gq gj) ?_
  exact y_iret X hr dX3_standardIn_11 rfl (by first | exact ⟨rfl, rfl⟩ | exact ⟨congrArg (fun z => some (Value.int z)) (bI_1 (by omega)).symm, rfl⟩ | exact ⟨congrArg (fun z => some (Value.int z)) (bI_0 (by omega)).symm, rfl⟩)

set_option maxRecDepth 100000 in
set_option maxHeartbeats 4000000 in
theorem c_X3_valueAt {l : Launch} {E : xE} {C : xC} {b : Nat} {T : Tb} (gb : b + 4 < 61) (gT : RC E C b T) (gw : WB T) {i j : Nat} (gi : i < tr T) (gj : j < 8) (gc : ¬ tk T (ts T i) j = -1) : xR E l yX3_valueAt wsX3_valueAt 0 0 [.ref (E.2.1 (b)), .int (nI (i)), .int (nI (j))] C ((tv T i j)) := by
  obtain ⟨zK, zD, zS, zV, h0, h1, h2, h3, h4, gK, gD, gS, gV⟩ := id gT
  obtain ⟨gw1, gw2, gw3, gw4⟩ := id gw
  refine xM_ofY (cc := cX3_valueAt) (maxL := 3) (ret := (some .int)) (by decide) rfl (Nat.le_of_ble_eq_true rfl) ?_
  intro p e s m args below meth c X hr
  have inX3 : ∀ w ∈ wsX30, w ∈ wsX3_valueAt := by decide +kernel
  refine y_lv [(0, .ref (E.2.1 (b))), (1, .int (nI (i))), (2, .int (nI (j)))] rfl ?_
  refine y_aload_n X dX3_valueAt_0 0 rfl ?_
  refine y_get X (b) 3 5 (Cn := RX3) (T := TX3) (N := 6) (index := 28) (v := .ref (E.2.1 (b + 4))) dX3_valueAt_1 (by omega) h0 rfl (by decide) inX3 (by decide +kernel : Cond.fieldLink RX3 28 "ColumnSeasons$Table" "values" "[I" ∈ wsX3_valueAt) rfl rfl ?_
  refine y_iload_n X dX3_valueAt_4 1 rfl ?_
  refine y_bipush X (v := (8)) dX3_valueAt_5 (by decide) ?_
  refine y_imul X (z := (nI ((i) * (8)))) dX3_valueAt_7 (pk_mul (i) (8)) ?_
  refine y_iload_n X dX3_valueAt_8 2 rfl ?_
  refine y_iadd X (z := (nI ((i) * (8) + j))) dX3_valueAt_9 (nI_add ((i) * (8)) (j)) ?_
  refine y_iald X (b + 4) dX3_valueAt_10 (by omega) h4 (j := (i) * (8) + j) rfl (by omega) (by omega) (z := (tv T i j)) (gV i j gi gj gc) ?_
  exact y_iret X hr dX3_valueAt_11 rfl (by first | exact ⟨rfl, rfl⟩ | exact ⟨congrArg (fun z => some (Value.int z)) (bI_1 (by omega)).symm, rfl⟩ | exact ⟨congrArg (fun z => some (Value.int z)) (bI_0 (by omega)).symm, rfl⟩)

set_option maxRecDepth 100000 in
set_option maxHeartbeats 4000000 in
theorem c_X3_seasonOfRow {l : Launch} {E : xE} {C : xC} {b : Nat} {T : Tb} (gb : b + 4 < 61) (gT : RC E C b T) (gw : WB T) {i : Nat} (gi : i < tr T) : xR E l yX3_seasonOfRow wsX3_seasonOfRow 0 0 [.ref (E.2.1 (b)), .int (nI (i))] C (nI (ts T i)) := by
  obtain ⟨zK, zD, zS, zV, h0, h1, h2, h3, h4, gK, gD, gS, gV⟩ := id gT
  obtain ⟨gw1, gw2, gw3, gw4⟩ := id gw
  refine xM_ofY (cc := cX3_seasonOfRow) (maxL := 2) (ret := (some .int)) (by decide) rfl (Nat.le_of_ble_eq_true rfl) ?_
  intro p e s m args below meth c X hr
  have inX3 : ∀ w ∈ wsX30, w ∈ wsX3_seasonOfRow := by decide +kernel
  refine y_lv [(0, .ref (E.2.1 (b))), (1, .int (nI (i)))] rfl ?_
  refine y_aload_n X dX3_seasonOfRow_0 0 rfl ?_
  refine y_get X (b) 3 4 (Cn := RX3) (T := TX3) (N := 6) (index := 25) (v := .ref (E.2.1 (b + 3))) dX3_seasonOfRow_1 (by omega) h0 rfl (by decide) inX3 (by decide +kernel : Cond.fieldLink RX3 25 "ColumnSeasons$Table" "rowSeasons" "[I" ∈ wsX3_seasonOfRow) rfl rfl ?_
  refine y_iload_n X dX3_seasonOfRow_4 1 rfl ?_
  refine y_iald X (b + 3) dX3_seasonOfRow_5 (by omega) h3 (j := i) rfl (by omega) (by omega) (z := (nI (ts T i))) (gS i gi) ?_
  exact y_iret X hr dX3_seasonOfRow_6 rfl (by first | exact ⟨rfl, rfl⟩ | exact ⟨congrArg (fun z => some (Value.int z)) (bI_1 (by omega)).symm, rfl⟩ | exact ⟨congrArg (fun z => some (Value.int z)) (bI_0 (by omega)).symm, rfl⟩)

set_option maxRecDepth 100000 in
set_option maxHeartbeats 4000000 in
theorem c_X3_kindInRow {l : Launch} {E : xE} {C : xC} {b : Nat} {T : Tb} (gb : b + 4 < 61) (gT : RC E C b T) (gw : WB T) {i j : Nat} (gi : i < tr T) (gj : j < 8) : xR E l yX3_kindInRow wsX3_kindInRow 1 22 [.ref (E.2.1 (b)), .int (nI (i)), .int (nI (j))] C (tk T (ts T i) j) := by
  obtain ⟨zK, zD, zS, zV, h0, h1, h2, h3, h4, gK, gD, gS, gV⟩ := id gT
  obtain ⟨gw1, gw2, gw3, gw4⟩ := id gw
  refine xM_ofY (cc := cX3_kindInRow) (maxL := 3) (ret := (some .int)) (by decide) rfl (Nat.le_of_ble_eq_true rfl) ?_
  intro p e s m args below meth c X hr
  have inX3 : ∀ w ∈ wsX30, w ∈ wsX3_kindInRow := by decide +kernel
  refine y_lv [(0, .ref (E.2.1 (b))), (1, .int (nI (i))), (2, .int (nI (j)))] rfl ?_
  have hs := gw4 i gi
  refine y_aload_n X dX3_kindInRow_0 0 rfl ?_
  refine y_aload_n X dX3_kindInRow_1 0 rfl ?_
  refine y_get X (b) 3 4 (Cn := RX3) (T := TX3) (N := 6) (index := 25) (v := .ref (E.2.1 (b + 3))) dX3_kindInRow_2 (by omega) h0 rfl (by decide) inX3 (by decide +kernel : Cond.fieldLink RX3 25 "ColumnSeasons$Table" "rowSeasons" "[I" ∈ wsX3_kindInRow) rfl rfl ?_
  refine y_iload_n X dX3_kindInRow_5 1 rfl ?_
  refine y_iald X (b + 3) dX3_kindInRow_6 (by omega) h3 (j := i) rfl (by omega) (by omega) (z := (nI (ts T i))) (gS i gi) ?_
  refine y_iload_n X dX3_kindInRow_7 2 rfl ?_
  refine y_callVr X (b) 3 (av := [.int (nI (ts T i)), .int (nI (j))]) [] 2 (c_X3_kindIn (b := b) (by omega) gT gw (q := ts T i) (j := j) (by omega) (by omega)) (by omega) h0 rfl gX3_kindInRow_X3_kindIn rfl (by decide +kernel) rfl ⟨Nat.le_of_ble_eq_true rfl, Nat.le_of_ble_eq_true rfl⟩ ⟨Nat.zero_le _, Nat.zero_le _⟩ (Nat.le_of_ble_eq_true rfl) rfl dX3_kindInRow_8 ?_
  exact y_iret X hr dX3_kindInRow_11 rfl (by first | exact ⟨rfl, rfl⟩ | exact ⟨congrArg (fun z => some (Value.int z)) (bI_1 (by omega)).symm, rfl⟩ | exact ⟨congrArg (fun z => some (Value.int z)) (bI_0 (by omega)).symm, rfl⟩)
end
section
set_option maxRecDepth 100000 in
set_option maxHeartbeats 4000000 in
theorem c_X3_namesIn {l : Launch} {E : xE} {C : xC} {b : Nat} {T : Tb} (gb : b + 4 < 61) (gT : RC E C b T) (gw : WB T) {q : Nat} (gq : q < tn T) : xR E l yX3_namesIn wsX3_namesIn 1 22 [.ref (E.2.1 (b)), .int (nI (q))] C (nmS T q) := by
  obtain ⟨zK, zD, zS, zV, h0, h1, h2, h3, h4, gK, gD, gS, gV⟩ := id gT
  obtain ⟨gw1, gw2, gw3, gw4⟩ := id gw
  refine xM_ofY (cc := cX3_namesIn) (maxL := 4) (ret := (some .int)) (by decide) rfl (Nat.le_of_ble_eq_true rfl) ?_
  intro p e s m args below meth c X hr
  refine y_lv [(0, .ref (E.2.1 (b))), (1, .int (nI (q)))] rfl ?_
  refine y_iconst X (v := (0)) dX3_namesIn_0 (by decide) ?_
  refine y_istore_n X [(2, .int (0)), (0, .ref (E.2.1 (b))), (1, .int (nI (q)))] dX3_namesIn_1 rfl (by decide) rfl ?_
  refine y_iconst X (v := (0)) dX3_namesIn_2 (by decide) ?_
  refine y_istore_n X [(3, .int (0)), (2, .int (0)), (0, .ref (E.2.1 (b))), (1, .int (nI (q)))] dX3_namesIn_3 rfl (by decide) rfl ?_
  have L_4 : ∀ (n : Nat) (j : Nat) (x2 : Int32), 8 - j < n → (j ≤ 8) → (x2 = orf (fun j => if tk T q j = -1 then 0 else bitN j) j) → xY p l e ({ frames := 1, cells := 0, slots := 0, locals := 22 } : Room) s m args below meth c E (xA E) 4 0 0 (MQ below (xQ E (fun v C1 => v = some (.int (nmS T q)) ∧ C1 = C)) args s 0 0 (xA E)) C 4 [(0, .ref (E.2.1 (b))), (1, .int (nI (q))), (2, .int x2), (3, .int (nI (j)))] [] := by
    intro n4
    induction n4 with
    | zero => intro _ _ hm4; exact absurd hm4 (Nat.not_lt_zero _)
    | succ n4 ih4 =>
      intro j x2 hm4 gj gx
      refine y_iload_n X dX3_namesIn_4 3 rfl ?_
      refine y_bipush X (v := (8)) dX3_namesIn_5 (by decide) ?_
      refine y_icmp_ge X 32 ((8) ≤ (j)) dX3_namesIn_7 (by decide) (nI_leI (a := 8) (b := j) (by omega) (by omega)) (fun c_1 => ?_) (fun c_1 => ?_)
      ·
        refine y_iload_n X dX3_namesIn_32 2 rfl ?_
        exact y_iret X hr dX3_namesIn_33 rfl ⟨by rw [gx, show j = 8 by omega]; rfl, rfl⟩
      ·
        refine y_aload_n X dX3_namesIn_10 0 rfl ?_
        refine y_iload_n X dX3_namesIn_11 1 rfl ?_
        refine y_iload_n X dX3_namesIn_12 3 rfl ?_
        refine y_callVr X (b) 3 (av := [.int (nI (q)), .int (nI (j))]) [] 2 (c_X3_kindIn (b := b) (by omega) gT gw (q := q) (j := j) (by omega) (by omega)) (by omega) h0 rfl gX3_namesIn_X3_kindIn rfl (by decide +kernel) rfl ⟨Nat.le_of_ble_eq_true rfl, Nat.le_of_ble_eq_true rfl⟩ ⟨Nat.zero_le _, Nat.zero_le _⟩ (Nat.le_of_ble_eq_true rfl) rfl dX3_namesIn_13 ?_
        refine y_iconst X (v := (-1)) dX3_namesIn_16 (by decide) ?_
        refine y_icmp_eq X 26 ((tk T (q) (j)) = (-1)) dX3_namesIn_17 (by decide) Iff.rfl (fun c_2 => ?_) (fun c_2 => ?_)
        ·
          refine y_iinc X [(3, .int (nI (j + 1))), (0, .ref (E.2.1 (b))), (1, .int (nI (q))), (2, .int x2)] dX3_namesIn_26 3 rfl (nI_1 _) (by decide) rfl ?_
          refine y_goto X 4 dX3_namesIn_29 (by decide) ?_
          refine y_pick [1, 2, 3, 0] [(0, .ref (E.2.1 (b))), (1, .int (nI (q))), (2, .int x2), (3, .int (nI (j + 1)))] rfl ?_
          exact ih4 (j + 1) (x2) (by omega) (by omega) (by rw [gx]; show _ = orf _ _ ||| (if _ then _ else _); rw [if_pos c_2, Int32.or_zero])
        ·
          refine y_iload_n X dX3_namesIn_20 2 rfl ?_
          refine y_iconst X (v := (1)) dX3_namesIn_21 (by decide) ?_
          refine y_iload_n X dX3_namesIn_22 3 rfl ?_
          refine y_ishl X (z := (bitN (j))) dX3_namesIn_23 rfl ?_
          refine y_ior X (z := (x2 ||| (bitN (j)))) dX3_namesIn_24 rfl ?_
          refine y_istore_n X [(2, .int (x2 ||| (bitN (j)))), (0, .ref (E.2.1 (b))), (1, .int (nI (q))), (3, .int (nI (j)))] dX3_namesIn_25 rfl (by decide) rfl ?_
          refine y_iinc X [(3, .int (nI (j + 1))), (2, .int (x2 ||| (bitN (j)))), (0, .ref (E.2.1 (b))), (1, .int (nI (q)))] dX3_namesIn_26 3 rfl (nI_1 _) (by decide) rfl ?_
          refine y_goto X 4 dX3_namesIn_29 (by decide) ?_
          refine y_pick [2, 3, 1, 0] [(0, .ref (E.2.1 (b))), (1, .int (nI (q))), (2, .int (x2 ||| (bitN (j)))), (3, .int (nI (j + 1)))] rfl ?_
          exact ih4 (j + 1) ((x2 ||| (bitN (j)))) (by omega) (by omega) (by rw [gx]; show _ = orf _ _ ||| (if _ then _ else _); rw [if_neg c_2])
  refine y_pick [2, 3, 1, 0] [(0, .ref (E.2.1 (b))), (1, .int (nI (q))), (2, .int (0)), (3, .int (0))] rfl ?_
  exact L_4 _ (0) (0) (Nat.lt_succ_self _) (by omega) rfl

set_option maxRecDepth 100000 in
set_option maxHeartbeats 4000000 in
theorem c_X3_namesOfAllSeasons {l : Launch} {E : xE} {C : xC} {b : Nat} {T : Tb} (gb : b + 4 < 61) (gT : RC E C b T) (gw : WB T) : xR E l yX3_namesOfAllSeasons wsX3_namesOfAllSeasons 2 45 [.ref (E.2.1 (b))] C (evN T) := by
  obtain ⟨zK, zD, zS, zV, h0, h1, h2, h3, h4, gK, gD, gS, gV⟩ := id gT
  obtain ⟨gw1, gw2, gw3, gw4⟩ := id gw
  refine xM_ofY (cc := cX3_namesOfAllSeasons) (maxL := 3) (ret := (some .int)) (by decide) rfl (Nat.le_of_ble_eq_true rfl) ?_
  intro p e s m args below meth c X hr
  have inX3 : ∀ w ∈ wsX30, w ∈ wsX3_namesOfAllSeasons := by decide +kernel
  refine y_lv [(0, .ref (E.2.1 (b)))] rfl ?_
  refine y_iconst X (v := (0)) dX3_namesOfAllSeasons_0 (by decide) ?_
  refine y_istore_n X [(1, .int (0)), (0, .ref (E.2.1 (b)))] dX3_namesOfAllSeasons_1 rfl (by decide) rfl ?_
  refine y_iconst X (v := (0)) dX3_namesOfAllSeasons_2 (by decide) ?_
  refine y_istore_n X [(2, .int (0)), (1, .int (0)), (0, .ref (E.2.1 (b)))] dX3_namesOfAllSeasons_3 rfl (by decide) rfl ?_
  have L_4 : ∀ (n : Nat) (j : Nat) (x2 : Int32), tn T - j < n → (j ≤ tn T) → (x2 = orf (fun q => nmS T q) j) → xY p l e ({ frames := 2, cells := 0, slots := 0, locals := 45 } : Room) s m args below meth c E (xA E) 3 0 0 (MQ below (xQ E (fun v C1 => v = some (.int (evN T)) ∧ C1 = C)) args s 0 0 (xA E)) C 4 [(0, .ref (E.2.1 (b))), (1, .int x2), (2, .int (nI (j)))] [] := by
    intro n4
    induction n4 with
    | zero => intro _ _ hm4; exact absurd hm4 (Nat.not_lt_zero _)
    | succ n4 ih4 =>
      intro j x2 hm4 gj gx
      refine y_iload_n X dX3_namesOfAllSeasons_4 2 rfl ?_
      refine y_aload_n X dX3_namesOfAllSeasons_5 0 rfl ?_
      refine y_get X (b) 3 0 (Cn := RX3) (T := TX3) (N := 6) (index := 9) (v := .int (nI (tn T))) dX3_namesOfAllSeasons_6 (by omega) h0 rfl (by decide) inX3 (by decide +kernel : Cond.fieldLink RX3 9 "ColumnSeasons$Table" "seasons" "I" ∈ wsX3_namesOfAllSeasons) rfl rfl ?_
      refine y_icmp_ge X 26 ((tn T) ≤ (j)) dX3_namesOfAllSeasons_9 (by decide) (nI_leI (a := tn T) (b := j) (by omega) (by omega)) (fun c_1 => ?_) (fun c_1 => ?_)
      ·
        refine y_iload_n X dX3_namesOfAllSeasons_26 1 rfl ?_
        exact y_iret X hr dX3_namesOfAllSeasons_27 rfl ⟨by rw [gx, show j = tn T by omega]; rfl, rfl⟩
      ·
        refine y_iload_n X dX3_namesOfAllSeasons_12 1 rfl ?_
        refine y_aload_n X dX3_namesOfAllSeasons_13 0 rfl ?_
        refine y_iload_n X dX3_namesOfAllSeasons_14 2 rfl ?_
        refine y_callVr X (b) 3 (av := [.int (nI (j))]) [.int x2] 1 (c_X3_namesIn (b := b) (by omega) gT gw (q := j) (by omega)) (by omega) h0 rfl gX3_namesOfAllSeasons_X3_namesIn rfl (by decide +kernel) rfl ⟨Nat.le_of_ble_eq_true rfl, Nat.le_of_ble_eq_true rfl⟩ ⟨Nat.zero_le _, Nat.zero_le _⟩ (Nat.le_of_ble_eq_true rfl) rfl dX3_namesOfAllSeasons_15 ?_
        refine y_ior X (z := (x2 ||| (nmS T (j)))) dX3_namesOfAllSeasons_18 rfl ?_
        refine y_istore_n X [(1, .int (x2 ||| (nmS T (j)))), (0, .ref (E.2.1 (b))), (2, .int (nI (j)))] dX3_namesOfAllSeasons_19 rfl (by decide) rfl ?_
        refine y_iinc X [(2, .int (nI (j + 1))), (1, .int (x2 ||| (nmS T (j)))), (0, .ref (E.2.1 (b)))] dX3_namesOfAllSeasons_20 2 rfl (nI_1 _) (by decide) rfl ?_
        refine y_goto X 4 dX3_namesOfAllSeasons_23 (by decide) ?_
        refine y_pick [2, 1, 0] [(0, .ref (E.2.1 (b))), (1, .int (x2 ||| (nmS T (j)))), (2, .int (nI (j + 1)))] rfl ?_
        exact ih4 (j + 1) ((x2 ||| (nmS T (j)))) (by omega) (by omega) (by rw [gx]; rfl)
  refine y_pick [2, 1, 0] [(0, .ref (E.2.1 (b))), (1, .int (0)), (2, .int (0))] rfl ?_
  exact L_4 _ (0) (0) (Nat.lt_succ_self _) (by omega) rfl

set_option maxRecDepth 100000 in
set_option maxHeartbeats 4000000 in
theorem c_X3_newColumnsIn {l : Launch} {E : xE} {C : xC} {b : Nat} {T : Tb} (gb : b + 4 < 61) (gT : RC E C b T) (gw : WB T) {q : Nat} (gq : q < tn T) : xR E l yX3_newColumnsIn wsX3_newColumnsIn 1 22 [.ref (E.2.1 (b)), .int (nI (q))] C (newC T q) := by
  obtain ⟨zK, zD, zS, zV, h0, h1, h2, h3, h4, gK, gD, gS, gV⟩ := id gT
  obtain ⟨gw1, gw2, gw3, gw4⟩ := id gw
  refine xM_ofY (cc := cX3_newColumnsIn) (maxL := 5) (ret := (some .int)) (by decide) rfl (Nat.le_of_ble_eq_true rfl) ?_
  intro p e s m args below meth c X hr
  refine y_lv [(0, .ref (E.2.1 (b))), (1, .int (nI (q)))] rfl ?_
  refine y_iload_n X dX3_newColumnsIn_0 1 rfl ?_
  refine y_if_ne X 6 (¬ ((q) = (0))) dX3_newColumnsIn_1 (by decide) (cNe (nI_eq (a := q) (b := 0) (by omega) (by omega))) (fun c_1 => ?_) (fun c_1 => ?_)
  ·
    refine y_iconst X (v := (0)) dX3_newColumnsIn_6 (by decide) ?_
    refine y_istore_n X [(2, .int (0)), (0, .ref (E.2.1 (b))), (1, .int (nI (q)))] dX3_newColumnsIn_7 rfl (by decide) rfl ?_
    refine y_iconst X (v := (0)) dX3_newColumnsIn_8 (by decide) ?_
    refine y_istore_n X [(3, .int (0)), (2, .int (0)), (0, .ref (E.2.1 (b))), (1, .int (nI (q)))] dX3_newColumnsIn_9 rfl (by decide) rfl ?_
    have L_10 : ∀ (n : Nat) (j : Nat) (x2 : Int32), 8 - j < n → (j ≤ 8) → (x2 = sm (fun j => if ¬ tk T q j = -1 ∧ ¬ tk T q j = tk T (q - 1) j then 1 else 0) j) → xY p l e ({ frames := 1, cells := 0, slots := 0, locals := 22 } : Room) s m args below meth c E (xA E) 5 0 0 (MQ below (xQ E (fun v C1 => v = some (.int (newC T q)) ∧ C1 = C)) args s 0 0 (xA E)) C 10 [(0, .ref (E.2.1 (b))), (1, .int (nI (q))), (2, .int x2), (3, .int (nI (j)))] [] := by
      intro n10
      induction n10 with
      | zero => intro _ _ hm10; exact absurd hm10 (Nat.not_lt_zero _)
      | succ n10 ih10 =>
        intro j x2 hm10 gj gx
        refine y_iload_n X dX3_newColumnsIn_10 3 rfl ?_
        refine y_bipush X (v := (8)) dX3_newColumnsIn_11 (by decide) ?_
        refine y_icmp_ge X 52 ((8) ≤ (j)) dX3_newColumnsIn_13 (by decide) (nI_leI (a := 8) (b := j) (by omega) (by omega)) (fun c_2 => ?_) (fun c_2 => ?_)
        ·
          refine y_iload_n X dX3_newColumnsIn_52 2 rfl ?_
          exact y_iret X hr dX3_newColumnsIn_53 rfl ⟨by rw [gx, show j = 8 by omega]; show _ = some (Value.int (newC T q)); rw [newC, if_neg (by omega)], rfl⟩
        ·
          refine y_aload_n X dX3_newColumnsIn_16 0 rfl ?_
          refine y_iload_n X dX3_newColumnsIn_17 1 rfl ?_
          refine y_iload_n X dX3_newColumnsIn_18 3 rfl ?_
          refine y_callVr X (b) 3 (av := [.int (nI (q)), .int (nI (j))]) [] 2 (c_X3_kindIn (b := b) (by omega) gT gw (q := q) (j := j) (by omega) (by omega)) (by omega) h0 rfl gX3_newColumnsIn_X3_kindIn rfl (by decide +kernel) rfl ⟨Nat.le_of_ble_eq_true rfl, Nat.le_of_ble_eq_true rfl⟩ ⟨Nat.zero_le _, Nat.zero_le _⟩ (Nat.le_of_ble_eq_true rfl) rfl dX3_newColumnsIn_19 ?_
          refine y_istore X [(4, .int (tk T (q) (j))), (0, .ref (E.2.1 (b))), (1, .int (nI (q))), (2, .int x2), (3, .int (nI (j)))] dX3_newColumnsIn_22 (by decide) rfl ?_
          refine y_iload X dX3_newColumnsIn_24 0 rfl ?_
          refine y_iconst X (v := (-1)) dX3_newColumnsIn_26 (by decide) ?_
          refine y_icmp_eq X 46 ((tk T (q) (j)) = (-1)) dX3_newColumnsIn_27 (by decide) Iff.rfl (fun c_3 => ?_) (fun c_3 => ?_)
          ·
            refine y_iinc X [(3, .int (nI (j + 1))), (4, .int (tk T (q) (j))), (0, .ref (E.2.1 (b))), (1, .int (nI (q))), (2, .int x2)] dX3_newColumnsIn_46 4 rfl (nI_1 _) (by decide) rfl ?_
            refine y_goto X 10 dX3_newColumnsIn_49 (by decide) ?_
            refine y_pick [2, 3, 4, 0] [(0, .ref (E.2.1 (b))), (1, .int (nI (q))), (2, .int x2), (3, .int (nI (j + 1)))] rfl ?_
            exact ih10 (j + 1) (x2) (by omega) (by omega) (by rw [gx]; show _ = sm _ _ + (if _ then _ else _); rw [if_neg (fun z => by first | exact z.1 c_3 | exact z.2 c_3), Int32.add_zero])
          ·
            refine y_iload X dX3_newColumnsIn_30 0 rfl ?_
            refine y_aload_n X dX3_newColumnsIn_32 1 rfl ?_
            refine y_iload_n X dX3_newColumnsIn_33 2 rfl ?_
            refine y_iconst X (v := (1)) dX3_newColumnsIn_34 (by decide) ?_
            refine y_isub X (z := (nI ((q) - (1)))) dX3_newColumnsIn_35 (pk_sub (a := q) (b := 1) (by omega)) ?_
            refine y_iload_n X dX3_newColumnsIn_36 4 rfl ?_
            refine y_callVr X (b) 3 (av := [.int (nI ((q) - (1))), .int (nI (j))]) [.int (tk T (q) (j))] 2 (c_X3_kindIn (b := b) (by omega) gT gw (q := (q) - (1)) (j := j) (by omega) (by omega)) (by omega) h0 rfl gX3_newColumnsIn_X3_kindIn rfl (by decide +kernel) rfl ⟨Nat.le_of_ble_eq_true rfl, Nat.le_of_ble_eq_true rfl⟩ ⟨Nat.zero_le _, Nat.zero_le _⟩ (Nat.le_of_ble_eq_true rfl) rfl dX3_newColumnsIn_37 ?_
            refine y_icmp_eq X 46 ((tk T (q) (j)) = (tk T ((q) - (1)) (j))) dX3_newColumnsIn_40 (by decide) Iff.rfl (fun c_4 => ?_) (fun c_4 => ?_)
            ·
              refine y_iinc X [(3, .int (nI (j + 1))), (4, .int (tk T (q) (j))), (0, .ref (E.2.1 (b))), (1, .int (nI (q))), (2, .int x2)] dX3_newColumnsIn_46 4 rfl (nI_1 _) (by decide) rfl ?_
              refine y_goto X 10 dX3_newColumnsIn_49 (by decide) ?_
              refine y_pick [2, 3, 4, 0] [(0, .ref (E.2.1 (b))), (1, .int (nI (q))), (2, .int x2), (3, .int (nI (j + 1)))] rfl ?_
              exact ih10 (j + 1) (x2) (by omega) (by omega) (by rw [gx]; show _ = sm _ _ + (if _ then _ else _); rw [if_neg (fun z => by first | exact z.1 c_4 | exact z.2 c_4), Int32.add_zero])
            ·
              refine y_iinc X [(2, .int (x2 + 1)), (4, .int (tk T (q) (j))), (0, .ref (E.2.1 (b))), (1, .int (nI (q))), (3, .int (nI (j)))] dX3_newColumnsIn_43 3 rfl rfl (by decide) rfl ?_
              refine y_iinc X [(3, .int (nI (j + 1))), (2, .int (x2 + 1)), (4, .int (tk T (q) (j))), (0, .ref (E.2.1 (b))), (1, .int (nI (q)))] dX3_newColumnsIn_46 4 rfl (nI_1 _) (by decide) rfl ?_
              refine y_goto X 10 dX3_newColumnsIn_49 (by decide) ?_
              refine y_pick [3, 4, 1, 0] [(0, .ref (E.2.1 (b))), (1, .int (nI (q))), (2, .int (x2 + 1)), (3, .int (nI (j + 1)))] rfl ?_
              exact ih10 (j + 1) ((x2 + 1)) (by omega) (by omega) (by rw [gx]; show _ = sm _ _ + (if _ then _ else _); rw [if_pos ⟨c_3, c_4⟩])
    refine y_pick [2, 3, 1, 0] [(0, .ref (E.2.1 (b))), (1, .int (nI (q))), (2, .int (0)), (3, .int (0))] rfl ?_
    exact L_10 _ (0) (0) (Nat.lt_succ_self _) (by omega) rfl
  ·
    have c_1 := Decidable.of_not_not c_1
    refine y_iconst X (v := (0)) dX3_newColumnsIn_4 (by decide) ?_
    exact y_iret X hr dX3_newColumnsIn_5 rfl ⟨by show _ = some (Value.int (newC T q)); rw [newC, if_pos (by omega)], rfl⟩

set_option maxRecDepth 100000 in
set_option maxHeartbeats 4000000 in
theorem c_X3_rowsOfSeason {l : Launch} {E : xE} {C : xC} {b : Nat} {T : Tb} (gb : b + 4 < 61) (gT : RC E C b T) (gw : WB T) {q : Nat} (gq : q < tn T) : xR E l yX3_rowsOfSeason wsX3_rowsOfSeason 0 0 [.ref (E.2.1 (b)), .int (nI (q))] C (wear T q) := by
  obtain ⟨zK, zD, zS, zV, h0, h1, h2, h3, h4, gK, gD, gS, gV⟩ := id gT
  obtain ⟨gw1, gw2, gw3, gw4⟩ := id gw
  refine xM_ofY (cc := cX3_rowsOfSeason) (maxL := 4) (ret := (some .int)) (by decide) rfl (Nat.le_of_ble_eq_true rfl) ?_
  intro p e s m args below meth c X hr
  have inX3 : ∀ w ∈ wsX30, w ∈ wsX3_rowsOfSeason := by decide +kernel
  refine y_lv [(0, .ref (E.2.1 (b))), (1, .int (nI (q)))] rfl ?_
  refine y_iconst X (v := (0)) dX3_rowsOfSeason_0 (by decide) ?_
  refine y_istore_n X [(2, .int (0)), (0, .ref (E.2.1 (b))), (1, .int (nI (q)))] dX3_rowsOfSeason_1 rfl (by decide) rfl ?_
  refine y_iconst X (v := (0)) dX3_rowsOfSeason_2 (by decide) ?_
  refine y_istore_n X [(3, .int (0)), (2, .int (0)), (0, .ref (E.2.1 (b))), (1, .int (nI (q)))] dX3_rowsOfSeason_3 rfl (by decide) rfl ?_
  have L_4 : ∀ (n : Nat) (j : Nat) (x2 : Int32), tr T - j < n → (j ≤ tr T) → (x2 = sm (fun i => if nI (ts T i) = nI q then 1 else 0) j) → xY p l e ({ frames := 0, cells := 0, slots := 0, locals := 0 } : Room) s m args below meth c E (xA E) 4 0 0 (MQ below (xQ E (fun v C1 => v = some (.int (wear T q)) ∧ C1 = C)) args s 0 0 (xA E)) C 4 [(0, .ref (E.2.1 (b))), (1, .int (nI (q))), (2, .int x2), (3, .int (nI (j)))] [] := by
    intro n4
    induction n4 with
    | zero => intro _ _ hm4; exact absurd hm4 (Nat.not_lt_zero _)
    | succ n4 ih4 =>
      intro j x2 hm4 gj gx
      refine y_iload_n X dX3_rowsOfSeason_4 3 rfl ?_
      refine y_aload_n X dX3_rowsOfSeason_5 0 rfl ?_
      refine y_get X (b) 3 3 (Cn := RX3) (T := TX3) (N := 6) (index := 22) (v := .int (nI (tr T))) dX3_rowsOfSeason_6 (by omega) h0 rfl (by decide) inX3 (by decide +kernel : Cond.fieldLink RX3 22 "ColumnSeasons$Table" "rows" "I" ∈ wsX3_rowsOfSeason) rfl rfl ?_
      refine y_icmp_ge X 31 ((tr T) ≤ (j)) dX3_rowsOfSeason_9 (by decide) (nI_leI (a := tr T) (b := j) (by omega) (by omega)) (fun c_1 => ?_) (fun c_1 => ?_)
      ·
        refine y_iload_n X dX3_rowsOfSeason_31 2 rfl ?_
        exact y_iret X hr dX3_rowsOfSeason_32 rfl ⟨by rw [gx, show j = tr T by omega]; rfl, rfl⟩
      ·
        refine y_aload_n X dX3_rowsOfSeason_12 0 rfl ?_
        refine y_get X (b) 3 4 (Cn := RX3) (T := TX3) (N := 6) (index := 25) (v := .ref (E.2.1 (b + 3))) dX3_rowsOfSeason_13 (by omega) h0 rfl (by decide) inX3 (by decide +kernel : Cond.fieldLink RX3 25 "ColumnSeasons$Table" "rowSeasons" "[I" ∈ wsX3_rowsOfSeason) rfl rfl ?_
        refine y_iload_n X dX3_rowsOfSeason_16 3 rfl ?_
        refine y_iald X (b + 3) dX3_rowsOfSeason_17 (by omega) h3 (j := j) rfl (by omega) (by omega) (z := (nI (ts T (j)))) (gS _ (by omega)) ?_
        refine y_iload_n X dX3_rowsOfSeason_18 1 rfl ?_
        refine y_icmp_ne X 25 (¬ ((nI (ts T (j))) = (nI (q)))) dX3_rowsOfSeason_19 (by decide) Iff.rfl (fun c_2 => ?_) (fun c_2 => ?_)
        ·
          refine y_iinc X [(3, .int (nI (j + 1))), (0, .ref (E.2.1 (b))), (1, .int (nI (q))), (2, .int x2)] dX3_rowsOfSeason_25 3 rfl (nI_1 _) (by decide) rfl ?_
          refine y_goto X 4 dX3_rowsOfSeason_28 (by decide) ?_
          refine y_pick [1, 2, 3, 0] [(0, .ref (E.2.1 (b))), (1, .int (nI (q))), (2, .int x2), (3, .int (nI (j + 1)))] rfl ?_
          exact ih4 (j + 1) (x2) (by omega) (by omega) (by rw [gx]; show _ = sm _ _ + (if _ then _ else _); rw [if_neg c_2, Int32.add_zero])
        ·
          have c_2 := Decidable.of_not_not c_2
          refine y_iinc X [(2, .int (x2 + 1)), (0, .ref (E.2.1 (b))), (1, .int (nI (q))), (3, .int (nI (j)))] dX3_rowsOfSeason_22 2 rfl rfl (by decide) rfl ?_
          refine y_iinc X [(3, .int (nI (j + 1))), (2, .int (x2 + 1)), (0, .ref (E.2.1 (b))), (1, .int (nI (q)))] dX3_rowsOfSeason_25 3 rfl (nI_1 _) (by decide) rfl ?_
          refine y_goto X 4 dX3_rowsOfSeason_28 (by decide) ?_
          refine y_pick [2, 3, 1, 0] [(0, .ref (E.2.1 (b))), (1, .int (nI (q))), (2, .int (x2 + 1)), (3, .int (nI (j + 1)))] rfl ?_
          exact ih4 (j + 1) ((x2 + 1)) (by omega) (by omega) (by rw [gx]; show _ = sm _ _ + (if _ then _ else _); rw [if_pos c_2])
  refine y_pick [2, 3, 1, 0] [(0, .ref (E.2.1 (b))), (1, .int (nI (q))), (2, .int (0)), (3, .int (0))] rfl ?_
  exact L_4 _ (0) (0) (Nat.lt_succ_self _) (by omega) rfl
end
section
set_option maxRecDepth 100000 in
set_option maxHeartbeats 4000000 in
theorem c_J6_bitCount_0f7a4 {l : Launch} {E : xE} {C : xC} {x : Int32} : xR E l yJ6_bitCount_0f7a4 wsJ6_bitCount_0f7a4 0 0 [.int x] C (bcn x) := by
  refine xM_ofY (cc := cJ6_bitCount_0f7a4) (maxL := 1) (ret := (some .int)) (by decide) rfl (Nat.le_of_ble_eq_true rfl) ?_
  intro p e s m args below meth c X hr
  refine y_lv [(0, .int x)] rfl ?_
  refine y_iload_n X dJ6_bitCount_0f7a4_0 0 rfl ?_
  refine y_iload_n X dJ6_bitCount_0f7a4_1 0 rfl ?_
  refine y_iconst X (v := (1)) dJ6_bitCount_0f7a4_2 (by decide) ?_
  refine y_iushr X (z := ((x.toUInt32 >>> (((1) : Int32).toUInt32 &&& Int32.toUInt32 31)).toInt32)) dJ6_bitCount_0f7a4_3 rfl ?_
  refine y_ldcw X (v := 1431655765) dJ6_bitCount_0f7a4_4 (by decide +kernel) ?_
  refine y_iand X (z := (((x.toUInt32 >>> (((1) : Int32).toUInt32 &&& Int32.toUInt32 31)).toInt32) &&& (1431655765))) dJ6_bitCount_0f7a4_7 rfl ?_
  refine y_isub X (z := (x - (((x.toUInt32 >>> (((1) : Int32).toUInt32 &&& Int32.toUInt32 31)).toInt32) &&& (1431655765)))) dJ6_bitCount_0f7a4_8 rfl ?_
  refine y_topi (fun xb1 exb1 => ?_)
  refine y_istore_n X [(0, .int xb1)] dJ6_bitCount_0f7a4_9 rfl (by decide) rfl ?_
  refine y_iload_n X dJ6_bitCount_0f7a4_10 0 rfl ?_
  refine y_ldcw X (v := 858993459) dJ6_bitCount_0f7a4_11 (by decide +kernel) ?_
  refine y_iand X (z := (xb1 &&& (858993459))) dJ6_bitCount_0f7a4_14 rfl ?_
  refine y_iload_n X dJ6_bitCount_0f7a4_15 0 rfl ?_
  refine y_iconst X (v := (2)) dJ6_bitCount_0f7a4_16 (by decide) ?_
  refine y_iushr X (z := ((xb1.toUInt32 >>> (((2) : Int32).toUInt32 &&& Int32.toUInt32 31)).toInt32)) dJ6_bitCount_0f7a4_17 rfl ?_
  refine y_ldcw X (v := 858993459) dJ6_bitCount_0f7a4_18 (by decide +kernel) ?_
  refine y_iand X (z := (((xb1.toUInt32 >>> (((2) : Int32).toUInt32 &&& Int32.toUInt32 31)).toInt32) &&& (858993459))) dJ6_bitCount_0f7a4_21 rfl ?_
  refine y_iadd X (z := ((xb1 &&& (858993459)) + (((xb1.toUInt32 >>> (((2) : Int32).toUInt32 &&& Int32.toUInt32 31)).toInt32) &&& (858993459)))) dJ6_bitCount_0f7a4_22 rfl ?_
  refine y_topi (fun xb2 exb2 => ?_)
  refine y_istore_n X [(0, .int xb2)] dJ6_bitCount_0f7a4_23 rfl (by decide) rfl ?_
  refine y_iload_n X dJ6_bitCount_0f7a4_24 0 rfl ?_
  refine y_iload_n X dJ6_bitCount_0f7a4_25 0 rfl ?_
  refine y_iconst X (v := (4)) dJ6_bitCount_0f7a4_26 (by decide) ?_
  refine y_iushr X (z := ((xb2.toUInt32 >>> (((4) : Int32).toUInt32 &&& Int32.toUInt32 31)).toInt32)) dJ6_bitCount_0f7a4_27 rfl ?_
  refine y_iadd X (z := (xb2 + ((xb2.toUInt32 >>> (((4) : Int32).toUInt32 &&& Int32.toUInt32 31)).toInt32))) dJ6_bitCount_0f7a4_28 rfl ?_
  refine y_ldcw X (v := 252645135) dJ6_bitCount_0f7a4_29 (by decide +kernel) ?_
  refine y_iand X (z := ((xb2 + ((xb2.toUInt32 >>> (((4) : Int32).toUInt32 &&& Int32.toUInt32 31)).toInt32)) &&& (252645135))) dJ6_bitCount_0f7a4_32 rfl ?_
  refine y_topi (fun xb3 exb3 => ?_)
  refine y_istore_n X [(0, .int xb3)] dJ6_bitCount_0f7a4_33 rfl (by decide) rfl ?_
  refine y_iload_n X dJ6_bitCount_0f7a4_34 0 rfl ?_
  refine y_iload_n X dJ6_bitCount_0f7a4_35 0 rfl ?_
  refine y_bipush X (v := (8)) dJ6_bitCount_0f7a4_36 (by decide) ?_
  refine y_iushr X (z := ((xb3.toUInt32 >>> (((8) : Int32).toUInt32 &&& Int32.toUInt32 31)).toInt32)) dJ6_bitCount_0f7a4_38 rfl ?_
  refine y_iadd X (z := (xb3 + ((xb3.toUInt32 >>> (((8) : Int32).toUInt32 &&& Int32.toUInt32 31)).toInt32))) dJ6_bitCount_0f7a4_39 rfl ?_
  refine y_topi (fun xb4 exb4 => ?_)
  refine y_istore_n X [(0, .int xb4)] dJ6_bitCount_0f7a4_40 rfl (by decide) rfl ?_
  refine y_iload_n X dJ6_bitCount_0f7a4_41 0 rfl ?_
  refine y_iload_n X dJ6_bitCount_0f7a4_42 0 rfl ?_
  refine y_bipush X (v := (16)) dJ6_bitCount_0f7a4_43 (by decide) ?_
  refine y_iushr X (z := ((xb4.toUInt32 >>> (((16) : Int32).toUInt32 &&& Int32.toUInt32 31)).toInt32)) dJ6_bitCount_0f7a4_45 rfl ?_
  refine y_iadd X (z := (xb4 + ((xb4.toUInt32 >>> (((16) : Int32).toUInt32 &&& Int32.toUInt32 31)).toInt32))) dJ6_bitCount_0f7a4_46 rfl ?_
  refine y_topi (fun xb5 exb5 => ?_)
  refine y_istore_n X [(0, .int xb5)] dJ6_bitCount_0f7a4_47 rfl (by decide) rfl ?_
  refine y_iload_n X dJ6_bitCount_0f7a4_48 0 rfl ?_
  refine y_bipush X (v := (63)) dJ6_bitCount_0f7a4_49 (by decide) ?_
  refine y_iand X (z := (xb5 &&& (63))) dJ6_bitCount_0f7a4_51 rfl ?_
  exact y_iret X hr dJ6_bitCount_0f7a4_52 rfl ⟨by rw [exb5, exb4, exb3, exb2, exb1]; rfl, rfl⟩
end
section
set_option maxRecDepth 100000 in
set_option maxHeartbeats 4000000 in
theorem c_X3_valuesOfAllRows {l : Launch} {E : xE} {C : xC} {b : Nat} {T : Tb} (gb : b + 4 < 61) (gT : RC E C b T) (gw : WB T) : xR E l yX3_valuesOfAllRows wsX3_valuesOfAllRows 2 45 [.ref (E.2.1 (b))] C (allV T) := by
  obtain ⟨zK, zD, zS, zV, h0, h1, h2, h3, h4, gK, gD, gS, gV⟩ := id gT
  obtain ⟨gw1, gw2, gw3, gw4⟩ := id gw
  refine xM_ofY (cc := cX3_valuesOfAllRows) (maxL := 3) (ret := (some .int)) (by decide) rfl (Nat.le_of_ble_eq_true rfl) ?_
  intro p e s m args below meth c X hr
  have inX3 : ∀ w ∈ wsX30, w ∈ wsX3_valuesOfAllRows := by decide +kernel
  refine y_lv [(0, .ref (E.2.1 (b)))] rfl ?_
  refine y_iconst X (v := (0)) dX3_valuesOfAllRows_0 (by decide) ?_
  refine y_istore_n X [(1, .int (0)), (0, .ref (E.2.1 (b)))] dX3_valuesOfAllRows_1 rfl (by decide) rfl ?_
  refine y_iconst X (v := (0)) dX3_valuesOfAllRows_2 (by decide) ?_
  refine y_istore_n X [(2, .int (0)), (1, .int (0)), (0, .ref (E.2.1 (b)))] dX3_valuesOfAllRows_3 rfl (by decide) rfl ?_
  have L_4 : ∀ (n : Nat) (j : Nat) (x2 : Int32), tr T - j < n → (j ≤ tr T) → (x2 = sm (fun i => bcn (nmS T (ts T i))) j) → xY p l e ({ frames := 2, cells := 0, slots := 0, locals := 45 } : Room) s m args below meth c E (xA E) 3 0 0 (MQ below (xQ E (fun v C1 => v = some (.int (allV T)) ∧ C1 = C)) args s 0 0 (xA E)) C 4 [(0, .ref (E.2.1 (b))), (1, .int x2), (2, .int (nI (j)))] [] := by
    intro n4
    induction n4 with
    | zero => intro _ _ hm4; exact absurd hm4 (Nat.not_lt_zero _)
    | succ n4 ih4 =>
      intro j x2 hm4 gj gx
      refine y_iload_n X dX3_valuesOfAllRows_4 2 rfl ?_
      refine y_aload_n X dX3_valuesOfAllRows_5 0 rfl ?_
      refine y_get X (b) 3 3 (Cn := RX3) (T := TX3) (N := 6) (index := 22) (v := .int (nI (tr T))) dX3_valuesOfAllRows_6 (by omega) h0 rfl (by decide) inX3 (by decide +kernel : Cond.fieldLink RX3 22 "ColumnSeasons$Table" "rows" "I" ∈ wsX3_valuesOfAllRows) rfl rfl ?_
      refine y_icmp_ge X 34 ((tr T) ≤ (j)) dX3_valuesOfAllRows_9 (by decide) (nI_leI (a := tr T) (b := j) (by omega) (by omega)) (fun c_1 => ?_) (fun c_1 => ?_)
      ·
        refine y_iload_n X dX3_valuesOfAllRows_34 1 rfl ?_
        exact y_iret X hr dX3_valuesOfAllRows_35 rfl ⟨by rw [gx, show j = tr T by omega]; rfl, rfl⟩
      ·
        refine y_iload_n X dX3_valuesOfAllRows_12 1 rfl ?_
        refine y_aload_n X dX3_valuesOfAllRows_13 0 rfl ?_
        refine y_aload_n X dX3_valuesOfAllRows_14 0 rfl ?_
        refine y_get X (b) 3 4 (Cn := RX3) (T := TX3) (N := 6) (index := 25) (v := .ref (E.2.1 (b + 3))) dX3_valuesOfAllRows_15 (by omega) h0 rfl (by decide) inX3 (by decide +kernel : Cond.fieldLink RX3 25 "ColumnSeasons$Table" "rowSeasons" "[I" ∈ wsX3_valuesOfAllRows) rfl rfl ?_
        refine y_iload_n X dX3_valuesOfAllRows_18 2 rfl ?_
        have gts := gw4 j (by omega)
        refine y_iald X (b + 3) dX3_valuesOfAllRows_19 (by omega) h3 (j := j) rfl (by omega) (by omega) (z := (nI (ts T (j)))) (gS _ (by omega)) ?_
        refine y_callVr X (b) 3 (av := [.int (nI (ts T (j)))]) [.int x2] 1 (c_X3_namesIn (b := b) (by omega) gT gw (q := ts T (j)) (by omega)) (by omega) h0 rfl gX3_valuesOfAllRows_X3_namesIn rfl (by decide +kernel) rfl ⟨Nat.le_of_ble_eq_true rfl, Nat.le_of_ble_eq_true rfl⟩ ⟨Nat.zero_le _, Nat.zero_le _⟩ (Nat.le_of_ble_eq_true rfl) rfl dX3_valuesOfAllRows_20 ?_
        refine y_callJr X (av := [.int (nmS T (ts T (j)))]) [.int x2] 1 (c_J6_bitCount_0f7a4 (x := (nmS T (ts T (j))))) gX3_valuesOfAllRows_J6_bitCount_0f7a4 rfl (by decide +kernel) rfl ⟨Nat.le_of_ble_eq_true rfl, Nat.le_of_ble_eq_true rfl⟩ ⟨Nat.zero_le _, Nat.zero_le _⟩ (Nat.le_of_ble_eq_true rfl) rfl dX3_valuesOfAllRows_23 ?_
        refine y_iadd X (z := (x2 + (bcn (nmS T (ts T (j)))))) dX3_valuesOfAllRows_26 rfl ?_
        refine y_istore_n X [(1, .int (x2 + (bcn (nmS T (ts T (j)))))), (0, .ref (E.2.1 (b))), (2, .int (nI (j)))] dX3_valuesOfAllRows_27 rfl (by decide) rfl ?_
        refine y_iinc X [(2, .int (nI (j + 1))), (1, .int (x2 + (bcn (nmS T (ts T (j)))))), (0, .ref (E.2.1 (b)))] dX3_valuesOfAllRows_28 2 rfl (nI_1 _) (by decide) rfl ?_
        refine y_goto X 4 dX3_valuesOfAllRows_31 (by decide) ?_
        refine y_pick [2, 1, 0] [(0, .ref (E.2.1 (b))), (1, .int (x2 + (bcn (nmS T (ts T (j)))))), (2, .int (nI (j + 1)))] rfl ?_
        exact ih4 (j + 1) ((x2 + (bcn (nmS T (ts T (j)))))) (by omega) (by omega) (by rw [gx]; rfl)
  refine y_pick [2, 1, 0] [(0, .ref (E.2.1 (b))), (1, .int (0)), (2, .int (0))] rfl ?_
  exact L_4 _ (0) (0) (Nat.lt_succ_self _) (by omega) rfl

set_option maxRecDepth 100000 in
set_option maxHeartbeats 4000000 in
theorem c_X3_readIn {l : Launch} {E : xE} {C : xC} {b : Nat} {T : Tb} (gb : b + 4 < 61) (gT : RC E C b T) (gw : WB T) {q i j : Nat} (gq : q < tn T) (gi : i < tr T) (gj : j < 8) : xR E l yX3_readIn wsX3_readIn 2 44 [.ref (E.2.1 (b)), .int (nI (q)), .int (nI (i)), .int (nI (j))] C (rdC T q i j) := by
  obtain ⟨zK, zD, zS, zV, h0, h1, h2, h3, h4, gK, gD, gS, gV⟩ := id gT
  obtain ⟨gw1, gw2, gw3, gw4⟩ := id gw
  refine xM_ofY (cc := cX3_readIn) (maxL := 4) (ret := (some .int)) (by decide) rfl (Nat.le_of_ble_eq_true rfl) ?_
  intro p e s m args below meth c X hr
  refine y_lv [(0, .ref (E.2.1 (b))), (1, .int (nI (q))), (2, .int (nI (i))), (3, .int (nI (j)))] rfl ?_
  refine y_aload_n X dX3_readIn_0 0 rfl ?_
  refine y_iload_n X dX3_readIn_1 2 rfl ?_
  refine y_iload_n X dX3_readIn_2 3 rfl ?_
  refine y_callVr X (b) 3 (av := [.int (nI (i)), .int (nI (j))]) [] 2 (c_X3_kindInRow (b := b) (by omega) gT gw (i := i) (j := j) (by omega) (by omega)) (by omega) h0 rfl gX3_readIn_X3_kindInRow rfl (by decide +kernel) rfl ⟨Nat.le_of_ble_eq_true rfl, Nat.le_of_ble_eq_true rfl⟩ ⟨Nat.zero_le _, Nat.zero_le _⟩ (Nat.le_of_ble_eq_true rfl) rfl dX3_readIn_3 ?_
  refine y_iconst X (v := (-1)) dX3_readIn_6 (by decide) ?_
  refine y_icmp_ne X 17 (¬ ((tk T (ts T (i)) (j)) = (-1))) dX3_readIn_7 (by decide) Iff.rfl (fun c_1 => ?_) (fun c_1 => ?_)
  ·
    refine y_aload_n X dX3_readIn_17 0 rfl ?_
    refine y_iload_n X dX3_readIn_18 1 rfl ?_
    refine y_iload_n X dX3_readIn_19 3 rfl ?_
    refine y_callVr X (b) 3 (av := [.int (nI (q)), .int (nI (j))]) [] 2 (c_X3_kindIn (b := b) (by omega) gT gw (q := q) (j := j) (by omega) (by omega)) (by omega) h0 rfl gX3_readIn_X3_kindIn rfl (by decide +kernel) rfl ⟨Nat.le_of_ble_eq_true rfl, Nat.le_of_ble_eq_true rfl⟩ ⟨Nat.zero_le _, Nat.zero_le _⟩ (Nat.le_of_ble_eq_true rfl) rfl dX3_readIn_20 ?_
    refine y_aload_n X dX3_readIn_23 0 rfl ?_
    refine y_iload_n X dX3_readIn_24 2 rfl ?_
    refine y_iload_n X dX3_readIn_25 3 rfl ?_
    refine y_callVr X (b) 3 (av := [.int (nI (i)), .int (nI (j))]) [.int (tk T (q) (j))] 2 (c_X3_valueAt (b := b) (by omega) gT gw (i := i) (j := j) (by omega) (by omega) (by assumption)) (by omega) h0 rfl gX3_readIn_X3_valueAt rfl (by decide +kernel) rfl ⟨Nat.le_of_ble_eq_true rfl, Nat.le_of_ble_eq_true rfl⟩ ⟨Nat.zero_le _, Nat.zero_le _⟩ (Nat.le_of_ble_eq_true rfl) rfl dX3_readIn_26 ?_
    refine y_callNr X (av := [.int (tk T (q) (j)), .int (tv T (i) (j))]) [] 2 (c_X4_castTo (x := (tk T (q) (j))) (y := (tv T (i) (j)))) gX3_readIn_X4_castTo_n69 (by decide +kernel) (by decide +kernel) (by decide +kernel) rfl (by decide +kernel) rfl ⟨Nat.le_of_ble_eq_true rfl, Nat.le_of_ble_eq_true rfl⟩ ⟨Nat.zero_le _, Nat.zero_le _⟩ (Nat.le_of_ble_eq_true rfl) rfl dX3_readIn_29 ?_
    exact y_iret X hr dX3_readIn_32 rfl ⟨by simp [rdC, c_1], rfl⟩
  ·
    have c_1 := Decidable.of_not_not c_1
    refine y_aload_n X dX3_readIn_10 0 rfl ?_
    refine y_iload_n X dX3_readIn_11 1 rfl ?_
    refine y_iload_n X dX3_readIn_12 3 rfl ?_
    refine y_callVr X (b) 3 (av := [.int (nI (q)), .int (nI (j))]) [] 2 (c_X3_standardIn (b := b) (by omega) gT gw (q := q) (j := j) (by omega) (by omega)) (by omega) h0 rfl gX3_readIn_X3_standardIn rfl (by decide +kernel) rfl ⟨Nat.le_of_ble_eq_true rfl, Nat.le_of_ble_eq_true rfl⟩ ⟨Nat.zero_le _, Nat.zero_le _⟩ (Nat.le_of_ble_eq_true rfl) rfl dX3_readIn_13 ?_
    exact y_iret X hr dX3_readIn_16 rfl ⟨by simp [rdC, c_1], rfl⟩

set_option maxRecDepth 100000 in
set_option maxHeartbeats 4000000 in
theorem c_X3_howReadIn {l : Launch} {E : xE} {C : xC} {b : Nat} {T : Tb} (gb : b + 4 < 61) (gT : RC E C b T) (gw : WB T) {q i j : Nat} (gq : q < tn T) (gi : i < tr T) (gj : j < 8) : xR E l yX3_howReadIn wsX3_howReadIn 3 63 [.ref (E.2.1 (b)), .int (nI (q)), .int (nI (i)), .int (nI (j))] C (howC T q i j) := by
  obtain ⟨zK, zD, zS, zV, h0, h1, h2, h3, h4, gK, gD, gS, gV⟩ := id gT
  obtain ⟨gw1, gw2, gw3, gw4⟩ := id gw
  refine xM_ofY (cc := cX3_howReadIn) (maxL := 6) (ret := (some .int)) (by decide) rfl (Nat.le_of_ble_eq_true rfl) ?_
  intro p e s m args below meth c X hr
  refine y_lv [(0, .ref (E.2.1 (b))), (1, .int (nI (q))), (2, .int (nI (i))), (3, .int (nI (j)))] rfl ?_
  refine y_aload_n X dX3_howReadIn_0 0 rfl ?_
  refine y_iload_n X dX3_howReadIn_1 2 rfl ?_
  refine y_iload_n X dX3_howReadIn_2 3 rfl ?_
  refine y_callVr X (b) 3 (av := [.int (nI (i)), .int (nI (j))]) [] 2 (c_X3_kindInRow (b := b) (by omega) gT gw (i := i) (j := j) (by omega) (by omega)) (by omega) h0 rfl gX3_howReadIn_X3_kindInRow rfl (by decide +kernel) rfl ⟨Nat.le_of_ble_eq_true rfl, Nat.le_of_ble_eq_true rfl⟩ ⟨Nat.zero_le _, Nat.zero_le _⟩ (Nat.le_of_ble_eq_true rfl) rfl dX3_howReadIn_3 ?_
  refine y_istore X [(4, .int (tk T (ts T (i)) (j))), (0, .ref (E.2.1 (b))), (1, .int (nI (q))), (2, .int (nI (i))), (3, .int (nI (j)))] dX3_howReadIn_6 (by decide) rfl ?_
  refine y_aload_n X dX3_howReadIn_8 1 rfl ?_
  refine y_iload_n X dX3_howReadIn_9 2 rfl ?_
  refine y_iload_n X dX3_howReadIn_10 4 rfl ?_
  refine y_callVr X (b) 3 (av := [.int (nI (q)), .int (nI (j))]) [] 2 (c_X3_kindIn (b := b) (by omega) gT gw (q := q) (j := j) (by omega) (by omega)) (by omega) h0 rfl gX3_howReadIn_X3_kindIn rfl (by decide +kernel) rfl ⟨Nat.le_of_ble_eq_true rfl, Nat.le_of_ble_eq_true rfl⟩ ⟨Nat.zero_le _, Nat.zero_le _⟩ (Nat.le_of_ble_eq_true rfl) rfl dX3_howReadIn_11 ?_
  refine y_istore X [(5, .int (tk T (q) (j))), (4, .int (tk T (ts T (i)) (j))), (0, .ref (E.2.1 (b))), (1, .int (nI (q))), (2, .int (nI (i))), (3, .int (nI (j)))] dX3_howReadIn_14 (by decide) rfl ?_
  refine y_iload X dX3_howReadIn_16 1 rfl ?_
  refine y_iconst X (v := (-1)) dX3_howReadIn_18 (by decide) ?_
  refine y_icmp_ne X 24 (¬ ((tk T (ts T (i)) (j)) = (-1))) dX3_howReadIn_19 (by decide) Iff.rfl (fun c_1 => ?_) (fun c_1 => ?_)
  ·
    refine y_iload X dX3_howReadIn_24 1 rfl ?_
    refine y_iload X dX3_howReadIn_26 0 rfl ?_
    refine y_icmp_ne X 33 (¬ ((tk T (ts T (i)) (j)) = (tk T (q) (j)))) dX3_howReadIn_28 (by decide) Iff.rfl (fun c_2 => ?_) (fun c_2 => ?_)
    ·
      refine y_aload_n X dX3_howReadIn_33 2 rfl ?_
      refine y_iload_n X dX3_howReadIn_34 4 rfl ?_
      refine y_iload_n X dX3_howReadIn_35 5 rfl ?_
      refine y_callVr X (b) 3 (av := [.int (nI (i)), .int (nI (j))]) [] 2 (c_X3_valueAt (b := b) (by omega) gT gw (i := i) (j := j) (by omega) (by omega) (by assumption)) (by omega) h0 rfl gX3_howReadIn_X3_valueAt rfl (by decide +kernel) rfl ⟨Nat.le_of_ble_eq_true rfl, Nat.le_of_ble_eq_true rfl⟩ ⟨Nat.zero_le _, Nat.zero_le _⟩ (Nat.le_of_ble_eq_true rfl) rfl dX3_howReadIn_36 ?_
      refine y_iload X dX3_howReadIn_39 1 rfl ?_
      refine y_iload X dX3_howReadIn_41 0 rfl ?_
      refine y_callNr X (av := [.int (tv T (i) (j)), .int (tk T (ts T (i)) (j)), .int (tk T (q) (j))]) [] 3 (c_X4_castLoses (x := (tv T (i) (j))) (y := (tk T (ts T (i)) (j))) (z := (tk T (q) (j)))) gX3_howReadIn_X4_castLoses_n105 (by decide +kernel) (by decide +kernel) (by decide +kernel) rfl (by decide +kernel) rfl ⟨Nat.le_of_ble_eq_true rfl, Nat.le_of_ble_eq_true rfl⟩ ⟨Nat.zero_le _, Nat.zero_le _⟩ (Nat.le_of_ble_eq_true rfl) rfl dX3_howReadIn_43 ?_
      refine y_if_eq X 53 (¬ (¬ cstC (tk T (ts T (i)) (j)) (cstC (tk T (q) (j)) (tv T (i) (j))) = (tv T (i) (j)))) dX3_howReadIn_46 (by decide) bI_eq (fun c_3 => ?_) (fun c_3 => ?_)
      ·
        refine y_iconst X (v := (1)) dX3_howReadIn_53 (by decide) ?_
        exact y_iret X hr dX3_howReadIn_54 rfl ⟨by show _ = some (Value.int (howC T q i j)); rw [howC, if_neg c_1, if_neg c_2, if_neg c_3], rfl⟩
      ·
        have c_3 := Decidable.of_not_not c_3
        refine y_iconst X (v := (2)) dX3_howReadIn_49 (by decide) ?_
        refine y_goto X 54 dX3_howReadIn_50 (by decide) ?_
        exact y_iret X hr dX3_howReadIn_54 rfl ⟨by show _ = some (Value.int (howC T q i j)); rw [howC, if_neg c_1, if_neg c_2, if_pos c_3], rfl⟩
    ·
      have c_2 := Decidable.of_not_not c_2
      refine y_iconst X (v := (0)) dX3_howReadIn_31 (by decide) ?_
      exact y_iret X hr dX3_howReadIn_32 rfl ⟨by show _ = some (Value.int (howC T q i j)); rw [howC, if_neg c_1, if_pos c_2], rfl⟩
  ·
    have c_1 := Decidable.of_not_not c_1
    refine y_iconst X (v := (3)) dX3_howReadIn_22 (by decide) ?_
    exact y_iret X hr dX3_howReadIn_23 rfl ⟨by show _ = some (Value.int (howC T q i j)); rw [howC, if_pos c_1], rfl⟩

set_option maxRecDepth 100000 in
set_option maxHeartbeats 4000000 in
theorem c_X3_lossesOfRowIn {l : Launch} {E : xE} {C : xC} {b : Nat} {T : Tb} (gb : b + 4 < 61) (gT : RC E C b T) (gw : WB T) {q i : Nat} (gq : q < tn T) (gi : i < tr T) : xR E l yX3_lossesOfRowIn wsX3_lossesOfRowIn 3 63 [.ref (E.2.1 (b)), .int (nI (q)), .int (nI (i))] C (lsR T q i) := by
  obtain ⟨zK, zD, zS, zV, h0, h1, h2, h3, h4, gK, gD, gS, gV⟩ := id gT
  obtain ⟨gw1, gw2, gw3, gw4⟩ := id gw
  refine xM_ofY (cc := cX3_lossesOfRowIn) (maxL := 7) (ret := (some .int)) (by decide) rfl (Nat.le_of_ble_eq_true rfl) ?_
  intro p e s m args below meth c X hr
  refine y_lv [(0, .ref (E.2.1 (b))), (1, .int (nI (q))), (2, .int (nI (i)))] rfl ?_
  refine y_iconst X (v := (0)) dX3_lossesOfRowIn_0 (by decide) ?_
  refine y_istore_n X [(3, .int (0)), (0, .ref (E.2.1 (b))), (1, .int (nI (q))), (2, .int (nI (i)))] dX3_lossesOfRowIn_1 rfl (by decide) rfl ?_
  refine y_iconst X (v := (0)) dX3_lossesOfRowIn_2 (by decide) ?_
  refine y_istore X [(4, .int (0)), (3, .int (0)), (0, .ref (E.2.1 (b))), (1, .int (nI (q))), (2, .int (nI (i)))] dX3_lossesOfRowIn_3 (by decide) rfl ?_
  have L_5 : ∀ (n : Nat) (j : Nat) (x2 : Int32), 8 - j < n → (j ≤ 8) → (x2 = sm (fun j => if lostC T q i j then 1 else 0) j) → xY p l e ({ frames := 3, cells := 0, slots := 0, locals := 63 } : Room) s m args below meth c E (xA E) 7 0 0 (MQ below (xQ E (fun v C1 => v = some (.int (lsR T q i)) ∧ C1 = C)) args s 0 0 (xA E)) C 5 [(0, .ref (E.2.1 (b))), (1, .int (nI (q))), (2, .int (nI (i))), (3, .int x2), (4, .int (nI (j)))] [] := by
    intro n5
    induction n5 with
    | zero => intro _ _ hm5; exact absurd hm5 (Nat.not_lt_zero _)
    | succ n5 ih5 =>
      intro j x2 hm5 gj gx
      refine y_iload X dX3_lossesOfRowIn_5 4 rfl ?_
      refine y_bipush X (v := (8)) dX3_lossesOfRowIn_7 (by decide) ?_
      refine y_icmp_ge X 68 ((8) ≤ (j)) dX3_lossesOfRowIn_9 (by decide) (nI_leI (a := 8) (b := j) (by omega) (by omega)) (fun c_1 => ?_) (fun c_1 => ?_)
      ·
        refine y_iload_n X dX3_lossesOfRowIn_68 3 rfl ?_
        exact y_iret X hr dX3_lossesOfRowIn_69 rfl ⟨by rw [gx, show j = 8 by omega]; rfl, rfl⟩
      ·
        refine y_aload_n X dX3_lossesOfRowIn_12 0 rfl ?_
        refine y_iload_n X dX3_lossesOfRowIn_13 2 rfl ?_
        refine y_iload X dX3_lossesOfRowIn_14 4 rfl ?_
        refine y_callVr X (b) 3 (av := [.int (nI (i)), .int (nI (j))]) [] 2 (c_X3_kindInRow (b := b) (by omega) gT gw (i := i) (j := j) (by omega) (by omega)) (by omega) h0 rfl gX3_lossesOfRowIn_X3_kindInRow rfl (by decide +kernel) rfl ⟨Nat.le_of_ble_eq_true rfl, Nat.le_of_ble_eq_true rfl⟩ ⟨Nat.zero_le _, Nat.zero_le _⟩ (Nat.le_of_ble_eq_true rfl) rfl dX3_lossesOfRowIn_16 ?_
        refine y_istore X [(5, .int (tk T (ts T (i)) (j))), (0, .ref (E.2.1 (b))), (1, .int (nI (q))), (2, .int (nI (i))), (3, .int x2), (4, .int (nI (j)))] dX3_lossesOfRowIn_19 (by decide) rfl ?_
        refine y_aload_n X dX3_lossesOfRowIn_21 1 rfl ?_
        refine y_iload_n X dX3_lossesOfRowIn_22 2 rfl ?_
        refine y_iload X dX3_lossesOfRowIn_23 5 rfl ?_
        refine y_callVr X (b) 3 (av := [.int (nI (q)), .int (nI (j))]) [] 2 (c_X3_kindIn (b := b) (by omega) gT gw (q := q) (j := j) (by omega) (by omega)) (by omega) h0 rfl gX3_lossesOfRowIn_X3_kindIn rfl (by decide +kernel) rfl ⟨Nat.le_of_ble_eq_true rfl, Nat.le_of_ble_eq_true rfl⟩ ⟨Nat.zero_le _, Nat.zero_le _⟩ (Nat.le_of_ble_eq_true rfl) rfl dX3_lossesOfRowIn_25 ?_
        refine y_istore X [(6, .int (tk T (q) (j))), (5, .int (tk T (ts T (i)) (j))), (0, .ref (E.2.1 (b))), (1, .int (nI (q))), (2, .int (nI (i))), (3, .int x2), (4, .int (nI (j)))] dX3_lossesOfRowIn_28 (by decide) rfl ?_
        refine y_iload X dX3_lossesOfRowIn_30 1 rfl ?_
        refine y_iconst X (v := (-1)) dX3_lossesOfRowIn_32 (by decide) ?_
        refine y_icmp_eq X 62 ((tk T (ts T (i)) (j)) = (-1)) dX3_lossesOfRowIn_33 (by decide) Iff.rfl (fun c_2 => ?_) (fun c_2 => ?_)
        ·
          refine y_iinc X [(4, .int (nI (j + 1))), (6, .int (tk T (q) (j))), (5, .int (tk T (ts T (i)) (j))), (0, .ref (E.2.1 (b))), (1, .int (nI (q))), (2, .int (nI (i))), (3, .int x2)] dX3_lossesOfRowIn_62 6 rfl (nI_1 _) (by decide) rfl ?_
          refine y_goto X 5 dX3_lossesOfRowIn_65 (by decide) ?_
          refine y_pick [3, 4, 5, 6, 0] [(0, .ref (E.2.1 (b))), (1, .int (nI (q))), (2, .int (nI (i))), (3, .int x2), (4, .int (nI (j + 1)))] rfl ?_
          exact ih5 (j + 1) (x2) (by omega) (by omega) (by rw [gx]; show _ = sm _ _ + (if _ then _ else _); rw [if_neg (fun z => z.1 c_2), Int32.add_zero])
        ·
          refine y_iload X dX3_lossesOfRowIn_36 0 rfl ?_
          refine y_iconst X (v := (-1)) dX3_lossesOfRowIn_38 (by decide) ?_
          refine y_icmp_eq X 59 ((tk T (q) (j)) = (-1)) dX3_lossesOfRowIn_39 (by decide) Iff.rfl (fun c_3 => ?_) (fun c_3 => ?_)
          ·
            refine y_iinc X [(3, .int (x2 + 1)), (6, .int (tk T (q) (j))), (5, .int (tk T (ts T (i)) (j))), (0, .ref (E.2.1 (b))), (1, .int (nI (q))), (2, .int (nI (i))), (4, .int (nI (j)))] dX3_lossesOfRowIn_59 5 rfl rfl (by decide) rfl ?_
            refine y_iinc X [(4, .int (nI (j + 1))), (3, .int (x2 + 1)), (6, .int (tk T (q) (j))), (5, .int (tk T (ts T (i)) (j))), (0, .ref (E.2.1 (b))), (1, .int (nI (q))), (2, .int (nI (i)))] dX3_lossesOfRowIn_62 6 rfl (nI_1 _) (by decide) rfl ?_
            refine y_goto X 5 dX3_lossesOfRowIn_65 (by decide) ?_
            refine y_pick [4, 5, 6, 1, 0] [(0, .ref (E.2.1 (b))), (1, .int (nI (q))), (2, .int (nI (i))), (3, .int (x2 + 1)), (4, .int (nI (j + 1)))] rfl ?_
            exact ih5 (j + 1) ((x2 + 1)) (by omega) (by omega) (by rw [gx]; show _ = sm _ _ + (if _ then _ else _); rw [if_pos ⟨c_2, Or.inl c_3⟩])
          ·
            refine y_aload_n X dX3_lossesOfRowIn_42 2 rfl ?_
            refine y_iload_n X dX3_lossesOfRowIn_43 4 rfl ?_
            refine y_iload X dX3_lossesOfRowIn_44 6 rfl ?_
            refine y_callVr X (b) 3 (av := [.int (nI (i)), .int (nI (j))]) [] 2 (c_X3_valueAt (b := b) (by omega) gT gw (i := i) (j := j) (by omega) (by omega) (by assumption)) (by omega) h0 rfl gX3_lossesOfRowIn_X3_valueAt rfl (by decide +kernel) rfl ⟨Nat.le_of_ble_eq_true rfl, Nat.le_of_ble_eq_true rfl⟩ ⟨Nat.zero_le _, Nat.zero_le _⟩ (Nat.le_of_ble_eq_true rfl) rfl dX3_lossesOfRowIn_46 ?_
            refine y_iload X dX3_lossesOfRowIn_49 1 rfl ?_
            refine y_iload X dX3_lossesOfRowIn_51 0 rfl ?_
            refine y_callNr X (av := [.int (tv T (i) (j)), .int (tk T (ts T (i)) (j)), .int (tk T (q) (j))]) [] 3 (c_X4_castLoses (x := (tv T (i) (j))) (y := (tk T (ts T (i)) (j))) (z := (tk T (q) (j)))) gX3_lossesOfRowIn_X4_castLoses_n105 (by decide +kernel) (by decide +kernel) (by decide +kernel) rfl (by decide +kernel) rfl ⟨Nat.le_of_ble_eq_true rfl, Nat.le_of_ble_eq_true rfl⟩ ⟨Nat.zero_le _, Nat.zero_le _⟩ (Nat.le_of_ble_eq_true rfl) rfl dX3_lossesOfRowIn_53 ?_
            refine y_if_eq X 62 (¬ (¬ cstC (tk T (ts T (i)) (j)) (cstC (tk T (q) (j)) (tv T (i) (j))) = (tv T (i) (j)))) dX3_lossesOfRowIn_56 (by decide) bI_eq (fun c_4 => ?_) (fun c_4 => ?_)
            ·
              refine y_iinc X [(4, .int (nI (j + 1))), (6, .int (tk T (q) (j))), (5, .int (tk T (ts T (i)) (j))), (0, .ref (E.2.1 (b))), (1, .int (nI (q))), (2, .int (nI (i))), (3, .int x2)] dX3_lossesOfRowIn_62 6 rfl (nI_1 _) (by decide) rfl ?_
              refine y_goto X 5 dX3_lossesOfRowIn_65 (by decide) ?_
              refine y_pick [3, 4, 5, 6, 0] [(0, .ref (E.2.1 (b))), (1, .int (nI (q))), (2, .int (nI (i))), (3, .int x2), (4, .int (nI (j + 1)))] rfl ?_
              exact ih5 (j + 1) (x2) (by omega) (by omega) (by rw [gx]; show _ = sm _ _ + (if _ then _ else _); rw [if_neg (fun z => z.2.elim c_3 c_4), Int32.add_zero])
            ·
              have c_4 := Decidable.of_not_not c_4
              refine y_iinc X [(3, .int (x2 + 1)), (6, .int (tk T (q) (j))), (5, .int (tk T (ts T (i)) (j))), (0, .ref (E.2.1 (b))), (1, .int (nI (q))), (2, .int (nI (i))), (4, .int (nI (j)))] dX3_lossesOfRowIn_59 5 rfl rfl (by decide) rfl ?_
              refine y_iinc X [(4, .int (nI (j + 1))), (3, .int (x2 + 1)), (6, .int (tk T (q) (j))), (5, .int (tk T (ts T (i)) (j))), (0, .ref (E.2.1 (b))), (1, .int (nI (q))), (2, .int (nI (i)))] dX3_lossesOfRowIn_62 6 rfl (nI_1 _) (by decide) rfl ?_
              refine y_goto X 5 dX3_lossesOfRowIn_65 (by decide) ?_
              refine y_pick [4, 5, 6, 1, 0] [(0, .ref (E.2.1 (b))), (1, .int (nI (q))), (2, .int (nI (i))), (3, .int (x2 + 1)), (4, .int (nI (j + 1)))] rfl ?_
              exact ih5 (j + 1) ((x2 + 1)) (by omega) (by omega) (by rw [gx]; show _ = sm _ _ + (if _ then _ else _); rw [if_pos ⟨c_2, Or.inr c_4⟩])
  refine y_pick [2, 3, 4, 1, 0] [(0, .ref (E.2.1 (b))), (1, .int (nI (q))), (2, .int (nI (i))), (3, .int (0)), (4, .int (0))] rfl ?_
  exact L_5 _ (0) (0) (Nat.lt_succ_self _) (by omega) rfl

set_option maxRecDepth 100000 in
set_option maxHeartbeats 4000000 in
theorem c_X3_lossesIn {l : Launch} {E : xE} {C : xC} {b : Nat} {T : Tb} (gb : b + 4 < 61) (gT : RC E C b T) (gw : WB T) {q : Nat} (gq : q < tn T) : xR E l yX3_lossesIn wsX3_lossesIn 4 89 [.ref (E.2.1 (b)), .int (nI (q))] C (lsA T q) := by
  obtain ⟨zK, zD, zS, zV, h0, h1, h2, h3, h4, gK, gD, gS, gV⟩ := id gT
  obtain ⟨gw1, gw2, gw3, gw4⟩ := id gw
  refine xM_ofY (cc := cX3_lossesIn) (maxL := 4) (ret := (some .int)) (by decide) rfl (Nat.le_of_ble_eq_true rfl) ?_
  intro p e s m args below meth c X hr
  have inX3 : ∀ w ∈ wsX30, w ∈ wsX3_lossesIn := by decide +kernel
  refine y_lv [(0, .ref (E.2.1 (b))), (1, .int (nI (q)))] rfl ?_
  refine y_iconst X (v := (0)) dX3_lossesIn_0 (by decide) ?_
  refine y_istore_n X [(2, .int (0)), (0, .ref (E.2.1 (b))), (1, .int (nI (q)))] dX3_lossesIn_1 rfl (by decide) rfl ?_
  refine y_iconst X (v := (0)) dX3_lossesIn_2 (by decide) ?_
  refine y_istore_n X [(3, .int (0)), (2, .int (0)), (0, .ref (E.2.1 (b))), (1, .int (nI (q)))] dX3_lossesIn_3 rfl (by decide) rfl ?_
  have L_4 : ∀ (n : Nat) (j : Nat) (x2 : Int32), tr T - j < n → (j ≤ tr T) → (x2 = sm (fun i => lsR T q i) j) → xY p l e ({ frames := 4, cells := 0, slots := 0, locals := 89 } : Room) s m args below meth c E (xA E) 4 0 0 (MQ below (xQ E (fun v C1 => v = some (.int (lsA T q)) ∧ C1 = C)) args s 0 0 (xA E)) C 4 [(0, .ref (E.2.1 (b))), (1, .int (nI (q))), (2, .int x2), (3, .int (nI (j)))] [] := by
    intro n4
    induction n4 with
    | zero => intro _ _ hm4; exact absurd hm4 (Nat.not_lt_zero _)
    | succ n4 ih4 =>
      intro j x2 hm4 gj gx
      refine y_iload_n X dX3_lossesIn_4 3 rfl ?_
      refine y_aload_n X dX3_lossesIn_5 0 rfl ?_
      refine y_get X (b) 3 3 (Cn := RX3) (T := TX3) (N := 6) (index := 22) (v := .int (nI (tr T))) dX3_lossesIn_6 (by omega) h0 rfl (by decide) inX3 (by decide +kernel : Cond.fieldLink RX3 22 "ColumnSeasons$Table" "rows" "I" ∈ wsX3_lossesIn) rfl rfl ?_
      refine y_icmp_ge X 27 ((tr T) ≤ (j)) dX3_lossesIn_9 (by decide) (nI_leI (a := tr T) (b := j) (by omega) (by omega)) (fun c_1 => ?_) (fun c_1 => ?_)
      ·
        refine y_iload_n X dX3_lossesIn_27 2 rfl ?_
        exact y_iret X hr dX3_lossesIn_28 rfl ⟨by rw [gx, show j = tr T by omega]; rfl, rfl⟩
      ·
        refine y_iload_n X dX3_lossesIn_12 2 rfl ?_
        refine y_aload_n X dX3_lossesIn_13 0 rfl ?_
        refine y_iload_n X dX3_lossesIn_14 1 rfl ?_
        refine y_iload_n X dX3_lossesIn_15 3 rfl ?_
        refine y_callVr X (b) 3 (av := [.int (nI (q)), .int (nI (j))]) [.int x2] 2 (c_X3_lossesOfRowIn (b := b) (by omega) gT gw (q := q) (i := j) (by omega) (by omega)) (by omega) h0 rfl gX3_lossesIn_X3_lossesOfRowIn rfl (by decide +kernel) rfl ⟨Nat.le_of_ble_eq_true rfl, Nat.le_of_ble_eq_true rfl⟩ ⟨Nat.zero_le _, Nat.zero_le _⟩ (Nat.le_of_ble_eq_true rfl) rfl dX3_lossesIn_16 ?_
        refine y_iadd X (z := (x2 + (lsR T (q) (j)))) dX3_lossesIn_19 rfl ?_
        refine y_istore_n X [(2, .int (x2 + (lsR T (q) (j)))), (0, .ref (E.2.1 (b))), (1, .int (nI (q))), (3, .int (nI (j)))] dX3_lossesIn_20 rfl (by decide) rfl ?_
        refine y_iinc X [(3, .int (nI (j + 1))), (2, .int (x2 + (lsR T (q) (j)))), (0, .ref (E.2.1 (b))), (1, .int (nI (q)))] dX3_lossesIn_21 3 rfl (nI_1 _) (by decide) rfl ?_
        refine y_goto X 4 dX3_lossesIn_24 (by decide) ?_
        refine y_pick [2, 3, 1, 0] [(0, .ref (E.2.1 (b))), (1, .int (nI (q))), (2, .int (x2 + (lsR T (q) (j)))), (3, .int (nI (j + 1)))] rfl ?_
        exact ih4 (j + 1) ((x2 + (lsR T (q) (j)))) (by omega) (by omega) (by rw [gx]; rfl)
  refine y_pick [2, 3, 1, 0] [(0, .ref (E.2.1 (b))), (1, .int (nI (q))), (2, .int (0)), (3, .int (0))] rfl ?_
  exact L_4 _ (0) (0) (Nat.lt_succ_self _) (by omega) rfl

set_option maxRecDepth 100000 in
set_option maxHeartbeats 4000000 in
theorem c_X3_seasonOfFewestLosses {l : Launch} {E : xE} {C : xC} {b : Nat} {T : Tb} (gb : b + 4 < 61) (gT : RC E C b T) (gw : WB T) : xR E l yX3_seasonOfFewestLosses wsX3_seasonOfFewestLosses 5 112 [.ref (E.2.1 (b))] C (nI (bsC T)) := by
  obtain ⟨zK, zD, zS, zV, h0, h1, h2, h3, h4, gK, gD, gS, gV⟩ := id gT
  obtain ⟨gw1, gw2, gw3, gw4⟩ := id gw
  refine xM_ofY (cc := cX3_seasonOfFewestLosses) (maxL := 5) (ret := (some .int)) (by decide) rfl (Nat.le_of_ble_eq_true rfl) ?_
  intro p e s m args below meth c X hr
  refine y_lv [(0, .ref (E.2.1 (b)))] rfl ?_
  refine y_aload_n X dX3_seasonOfFewestLosses_0 0 rfl ?_
  refine y_callVr X (b) 3 (av := []) [] 0 (c_X3_now (b := b) (n := tn T) (by omega) (by omega) h0) (by omega) h0 rfl gX3_seasonOfFewestLosses_X3_now rfl (by decide +kernel) rfl ⟨Nat.le_of_ble_eq_true rfl, Nat.le_of_ble_eq_true rfl⟩ ⟨Nat.zero_le _, Nat.zero_le _⟩ (Nat.le_of_ble_eq_true rfl) rfl dX3_seasonOfFewestLosses_1 ?_
  refine y_istore_n X [(1, .int (nI ((tn T) - 1))), (0, .ref (E.2.1 (b)))] dX3_seasonOfFewestLosses_4 rfl (by decide) rfl ?_
  refine y_aload_n X dX3_seasonOfFewestLosses_5 1 rfl ?_
  refine y_iload_n X dX3_seasonOfFewestLosses_6 0 rfl ?_
  refine y_callVr X (b) 3 (av := [.int (nI ((tn T) - 1))]) [] 1 (c_X3_lossesIn (b := b) (by omega) gT gw (q := (tn T) - 1) (by omega)) (by omega) h0 rfl gX3_seasonOfFewestLosses_X3_lossesIn rfl (by decide +kernel) rfl ⟨Nat.le_of_ble_eq_true rfl, Nat.le_of_ble_eq_true rfl⟩ ⟨Nat.zero_le _, Nat.zero_le _⟩ (Nat.le_of_ble_eq_true rfl) rfl dX3_seasonOfFewestLosses_7 ?_
  refine y_istore_n X [(2, .int (lsA T ((tn T) - 1))), (1, .int (nI ((tn T) - 1))), (0, .ref (E.2.1 (b)))] dX3_seasonOfFewestLosses_10 rfl (by decide) rfl ?_
  refine y_iload_n X dX3_seasonOfFewestLosses_11 1 rfl ?_
  refine y_iconst X (v := (1)) dX3_seasonOfFewestLosses_12 (by decide) ?_
  refine y_isub X (z := (nI (tn T - 1) - 1)) dX3_seasonOfFewestLosses_13 rfl ?_
  refine y_istore_n X [(3, .int (nI (tn T - 1) - 1)), (2, .int (lsA T ((tn T) - 1))), (1, .int (nI ((tn T) - 1))), (0, .ref (E.2.1 (b)))] dX3_seasonOfFewestLosses_14 rfl (by decide) rfl ?_
  have L_15 : ∀ (n : Nat) (r : Nat) (y1 : Nat) (x2 : Int32), r < n → (r ≤ tn T - 1) → ((y1, x2) = bsd T (tn T - 1 - r)) → xY p l e ({ frames := 5, cells := 0, slots := 0, locals := 112 } : Room) s m args below meth c E (xA E) 5 0 0 (MQ below (xQ E (fun v C1 => v = some (.int (nI (bsC T))) ∧ C1 = C)) args s 0 0 (xA E)) C 15 [(0, .ref (E.2.1 (b))), (1, .int (nI (y1))), (2, .int x2), (3, .int (nI r - 1))] [] := by
    intro n15
    induction n15 with
    | zero => intro _ _ _ hm15; exact absurd hm15 (Nat.not_lt_zero _)
    | succ n15 ih15 =>
      intro r y1 x2 hm15 gr gx
      refine y_iload_n X dX3_seasonOfFewestLosses_15 3 rfl ?_
      refine y_if_lt X 43 (r = 0) dX3_seasonOfFewestLosses_16 (by decide) (dn_lt (by omega)) (fun c_1 => ?_) (fun c_1 => ?_)
      ·
        refine y_iload_n X dX3_seasonOfFewestLosses_43 1 rfl ?_
        exact y_iret X hr dX3_seasonOfFewestLosses_44 rfl ⟨by rw [bsC, show tn T - 1 = tn T - 1 - r by omega, ← gx], rfl⟩
      ·
        rw [dn_eq (show 1 ≤ r by omega)]
        refine y_aload_n X dX3_seasonOfFewestLosses_19 0 rfl ?_
        refine y_iload_n X dX3_seasonOfFewestLosses_20 3 rfl ?_
        refine y_callVr X (b) 3 (av := [.int (nI (r - 1))]) [] 1 (c_X3_lossesIn (b := b) (by omega) gT gw (q := r - 1) (by omega)) (by omega) h0 rfl gX3_seasonOfFewestLosses_X3_lossesIn rfl (by decide +kernel) rfl ⟨Nat.le_of_ble_eq_true rfl, Nat.le_of_ble_eq_true rfl⟩ ⟨Nat.zero_le _, Nat.zero_le _⟩ (Nat.le_of_ble_eq_true rfl) rfl dX3_seasonOfFewestLosses_21 ?_
        refine y_istore X [(4, .int (lsA T (r - 1))), (0, .ref (E.2.1 (b))), (1, .int (nI (y1))), (2, .int x2), (3, .int (nI (r - 1)))] dX3_seasonOfFewestLosses_24 (by decide) rfl ?_
        refine y_iload X dX3_seasonOfFewestLosses_26 0 rfl ?_
        refine y_iload_n X dX3_seasonOfFewestLosses_28 3 rfl ?_
        refine y_icmp_ge X 37 (x2 ≤ (lsA T (r - 1))) dX3_seasonOfFewestLosses_29 (by decide) Iff.rfl (fun c_2 => ?_) (fun c_2 => ?_)
        ·
          refine y_iinc X [(3, .int (nI (r - 1) - 1)), (4, .int (lsA T (r - 1))), (0, .ref (E.2.1 (b))), (1, .int (nI (y1))), (2, .int x2)] dX3_seasonOfFewestLosses_37 4 rfl (dn_inc _) (by decide) rfl ?_
          refine y_goto X 15 dX3_seasonOfFewestLosses_40 (by decide) ?_
          refine y_pick [2, 3, 4, 0] [(0, .ref (E.2.1 (b))), (1, .int (nI (y1))), (2, .int x2), (3, .int (nI (r - 1) - 1))] rfl ?_
          exact ih15 (r - 1) (y1) (x2) (by omega) (by omega) (by have ez : tn T - 1 - (r - 1) = (tn T - 1 - r) + 1 := (by omega); have ey : tn T - 1 - (tn T - 1 - r + 1) = r - 1 := (by omega); rw [ez]; show _ = if _ < _ then _ else _; rw [ey, ← gx]; rw [if_neg (Int32.not_lt.mpr c_2)])
        ·
          refine y_iload_n X dX3_seasonOfFewestLosses_32 4 rfl ?_
          refine y_istore_n X [(1, .int (nI (r - 1))), (4, .int (lsA T (r - 1))), (0, .ref (E.2.1 (b))), (2, .int x2), (3, .int (nI (r - 1)))] dX3_seasonOfFewestLosses_33 rfl (by decide) rfl ?_
          refine y_iload X dX3_seasonOfFewestLosses_34 1 rfl ?_
          refine y_istore_n X [(2, .int (lsA T (r - 1))), (1, .int (nI (r - 1))), (4, .int (lsA T (r - 1))), (0, .ref (E.2.1 (b))), (3, .int (nI (r - 1)))] dX3_seasonOfFewestLosses_36 rfl (by decide) rfl ?_
          refine y_iinc X [(3, .int (nI (r - 1) - 1)), (2, .int (lsA T (r - 1))), (1, .int (nI (r - 1))), (4, .int (lsA T (r - 1))), (0, .ref (E.2.1 (b)))] dX3_seasonOfFewestLosses_37 4 rfl (dn_inc _) (by decide) rfl ?_
          refine y_goto X 15 dX3_seasonOfFewestLosses_40 (by decide) ?_
          refine y_pick [4, 2, 1, 0] [(0, .ref (E.2.1 (b))), (1, .int (nI (r - 1))), (2, .int (lsA T (r - 1))), (3, .int (nI (r - 1) - 1))] rfl ?_
          exact ih15 (r - 1) (r - 1) ((lsA T (r - 1))) (by omega) (by omega) (by have ez : tn T - 1 - (r - 1) = (tn T - 1 - r) + 1 := (by omega); have ey : tn T - 1 - (tn T - 1 - r + 1) = r - 1 := (by omega); rw [ez]; show _ = if _ < _ then _ else _; rw [ey, ← gx]; rw [if_pos (Int32.not_le.mp c_2)])
  refine y_pick [3, 2, 1, 0] [(0, .ref (E.2.1 (b))), (1, .int (nI ((tn T) - 1))), (2, .int (lsA T ((tn T) - 1))), (3, .int (nI (tn T - 1) - 1))] rfl ?_
  exact L_15 _ (tn T - 1) (tn T - 1) ((lsA T (tn T - 1))) (Nat.lt_succ_self _) (by omega) (by rw [Nat.sub_self]; rfl)

set_option maxRecDepth 100000 in
set_option maxHeartbeats 4000000 in
theorem c_X3_sharedNames {l : Launch} {E : xE} {C : xC} {b : Nat} {T : Tb} (gb : b + 4 < 61) (gT : RC E C b T) (gw : WB T) {a b0 : Nat} (ga : a < tr T) (gz : b0 < tr T) : xR E l yX3_sharedNames wsX3_sharedNames 2 45 [.ref (E.2.1 (b)), .int (nI (a)), .int (nI (b0))] C (shN T a b0) := by
  obtain ⟨zK, zD, zS, zV, h0, h1, h2, h3, h4, gK, gD, gS, gV⟩ := id gT
  obtain ⟨gw1, gw2, gw3, gw4⟩ := id gw
  refine xM_ofY (cc := cX3_sharedNames) (maxL := 5) (ret := (some .int)) (by decide) rfl (Nat.le_of_ble_eq_true rfl) ?_
  intro p e s m args below meth c X hr
  have inX3 : ∀ w ∈ wsX30, w ∈ wsX3_sharedNames := by decide +kernel
  refine y_lv [(0, .ref (E.2.1 (b))), (1, .int (nI (a))), (2, .int (nI (b0)))] rfl ?_
  refine y_iload_n X dX3_sharedNames_0 2 rfl ?_
  refine y_iload_n X dX3_sharedNames_1 1 rfl ?_
  refine y_icmp_ge X 7 ((a) ≤ (b0)) dX3_sharedNames_2 (by decide) (nI_leI (a := a) (b := b0) (by omega) (by omega)) (fun c_1 => ?_) (fun c_1 => ?_)
  ·
    refine y_aload_n X dX3_sharedNames_7 0 rfl ?_
    refine y_aload_n X dX3_sharedNames_8 0 rfl ?_
    refine y_get X (b) 3 4 (Cn := RX3) (T := TX3) (N := 6) (index := 25) (v := .ref (E.2.1 (b + 3))) dX3_sharedNames_9 (by omega) h0 rfl (by decide) inX3 (by decide +kernel : Cond.fieldLink RX3 25 "ColumnSeasons$Table" "rowSeasons" "[I" ∈ wsX3_sharedNames) rfl rfl ?_
    refine y_iload_n X dX3_sharedNames_12 1 rfl ?_
    have gts13 := gw4 (a) (by omega)
    refine y_iald X (b + 3) dX3_sharedNames_13 (by omega) h3 (j := a) rfl (by omega) (by omega) (z := (nI (ts T (a)))) (gS _ (by omega)) ?_
    refine y_callVr X (b) 3 (av := [.int (nI (ts T (a)))]) [] 1 (c_X3_namesIn (b := b) (by omega) gT gw (q := ts T (a)) (by omega)) (by omega) h0 rfl gX3_sharedNames_X3_namesIn rfl (by decide +kernel) rfl ⟨Nat.le_of_ble_eq_true rfl, Nat.le_of_ble_eq_true rfl⟩ ⟨Nat.zero_le _, Nat.zero_le _⟩ (Nat.le_of_ble_eq_true rfl) rfl dX3_sharedNames_14 ?_
    refine y_istore_n X [(3, .int (nmS T (ts T (a)))), (0, .ref (E.2.1 (b))), (1, .int (nI (a))), (2, .int (nI (b0)))] dX3_sharedNames_17 rfl (by decide) rfl ?_
    refine y_iload_n X dX3_sharedNames_18 2 rfl ?_
    refine y_iconst X (v := (1)) dX3_sharedNames_19 (by decide) ?_
    refine y_iadd X (z := (nI (a + 1))) dX3_sharedNames_20 (nI_add (a) (1)) ?_
    refine y_istore X [(4, .int (nI (a + 1))), (3, .int (nmS T (ts T (a)))), (0, .ref (E.2.1 (b))), (1, .int (nI (a))), (2, .int (nI (b0)))] dX3_sharedNames_21 (by decide) rfl ?_
    have L_23 : ∀ (n : Nat) (k : Nat) (x3 : Int32), b0 - (a + k) < n → (a + k ≤ b0) → (x3 = shr T a k) → xY p l e ({ frames := 2, cells := 0, slots := 0, locals := 45 } : Room) s m args below meth c E (xA E) 5 0 0 (MQ below (xQ E (fun v C1 => v = some (.int (shN T a b0)) ∧ C1 = C)) args s 0 0 (xA E)) C 23 [(0, .ref (E.2.1 (b))), (1, .int (nI (a))), (2, .int (nI (b0))), (3, .int x3), (4, .int (nI (a + (k + 1))))] [] := by
      intro n23
      induction n23 with
      | zero => intro _ _ hm23; exact absurd hm23 (Nat.not_lt_zero _)
      | succ n23 ih23 =>
        intro k x3 hm23 gk gx
        refine y_iload X dX3_sharedNames_23 4 rfl ?_
        refine y_iload_n X dX3_sharedNames_25 2 rfl ?_
        refine y_icmp_gt X 49 ((b0) < (a + (k + 1))) dX3_sharedNames_26 (by decide) (nI_ltI (a := b0) (b := a + (k + 1)) (by omega) (by omega)) (fun c_2 => ?_) (fun c_2 => ?_)
        ·
          refine y_iload_n X dX3_sharedNames_49 3 rfl ?_
          exact y_iret X hr dX3_sharedNames_50 rfl ⟨by rw [gx]; show _ = some (Value.int (shN T a b0)); rw [shN, if_neg (by omega), show b0 - a = k by omega], rfl⟩
        ·
          refine y_iload_n X dX3_sharedNames_29 3 rfl ?_
          refine y_aload_n X dX3_sharedNames_30 0 rfl ?_
          refine y_aload_n X dX3_sharedNames_31 0 rfl ?_
          refine y_get X (b) 3 4 (Cn := RX3) (T := TX3) (N := 6) (index := 25) (v := .ref (E.2.1 (b + 3))) dX3_sharedNames_32 (by omega) h0 rfl (by decide) inX3 (by decide +kernel : Cond.fieldLink RX3 25 "ColumnSeasons$Table" "rowSeasons" "[I" ∈ wsX3_sharedNames) rfl rfl ?_
          refine y_iload X dX3_sharedNames_35 4 rfl ?_
          have gts37 := gw4 (a + (k + 1)) (by omega)
          refine y_iald X (b + 3) dX3_sharedNames_37 (by omega) h3 (j := a + (k + 1)) rfl (by omega) (by omega) (z := (nI (ts T (a + (k + 1))))) (gS _ (by omega)) ?_
          refine y_callVr X (b) 3 (av := [.int (nI (ts T (a + (k + 1))))]) [.int x3] 1 (c_X3_namesIn (b := b) (by omega) gT gw (q := ts T (a + (k + 1))) (by omega)) (by omega) h0 rfl gX3_sharedNames_X3_namesIn rfl (by decide +kernel) rfl ⟨Nat.le_of_ble_eq_true rfl, Nat.le_of_ble_eq_true rfl⟩ ⟨Nat.zero_le _, Nat.zero_le _⟩ (Nat.le_of_ble_eq_true rfl) rfl dX3_sharedNames_38 ?_
          refine y_iand X (z := (x3 &&& (nmS T (ts T (a + (k + 1)))))) dX3_sharedNames_41 rfl ?_
          refine y_istore_n X [(3, .int (x3 &&& (nmS T (ts T (a + (k + 1)))))), (0, .ref (E.2.1 (b))), (1, .int (nI (a))), (2, .int (nI (b0))), (4, .int (nI (a + (k + 1))))] dX3_sharedNames_42 rfl (by decide) rfl ?_
          refine y_iinc X [(4, .int (nI (a + (k + 1) + 1))), (3, .int (x3 &&& (nmS T (ts T (a + (k + 1)))))), (0, .ref (E.2.1 (b))), (1, .int (nI (a))), (2, .int (nI (b0)))] dX3_sharedNames_43 4 rfl (nI_1 _) (by decide) rfl ?_
          refine y_goto X 23 dX3_sharedNames_46 (by decide) ?_
          refine y_pick [2, 3, 4, 1, 0] [(0, .ref (E.2.1 (b))), (1, .int (nI (a))), (2, .int (nI (b0))), (3, .int (x3 &&& (nmS T (ts T (a + (k + 1)))))), (4, .int (nI (a + (k + 1) + 1)))] rfl ?_
          exact ih23 (k + 1) ((x3 &&& (nmS T (ts T (a + (k + 1)))))) (by omega) (by omega) (by rw [gx]; rfl)
    refine y_pick [2, 3, 4, 1, 0] [(0, .ref (E.2.1 (b))), (1, .int (nI (a))), (2, .int (nI (b0))), (3, .int (nmS T (ts T (a)))), (4, .int (nI (a + 1)))] rfl ?_
    exact L_23 _ (0) ((nmS T (ts T (a)))) (Nat.lt_succ_self _) (by omega) rfl
  ·
    refine y_iconst X (v := (0)) dX3_sharedNames_5 (by decide) ?_
    exact y_iret X hr dX3_sharedNames_6 rfl ⟨by show _ = some (Value.int (shN T a b0)); rw [shN, if_pos (by omega)], rfl⟩

set_option maxRecDepth 100000 in
set_option maxHeartbeats 4000000 in
theorem c_X3_defaultsInView {l : Launch} {E : xE} {C : xC} {b : Nat} {T : Tb} (gb : b + 4 < 61) (gT : RC E C b T) (gw : WB T) {a b0 : Nat} (ga : a < tr T) (gz : b0 < tr T) : xR E l yX3_defaultsInView wsX3_defaultsInView 3 69 [.ref (E.2.1 (b)), .int (nI (a)), .int (nI (b0))] C (dfV T a b0) := by
  obtain ⟨zK, zD, zS, zV, h0, h1, h2, h3, h4, gK, gD, gS, gV⟩ := id gT
  obtain ⟨gw1, gw2, gw3, gw4⟩ := id gw
  refine xM_ofY (cc := cX3_defaultsInView) (maxL := 7) (ret := (some .int)) (by decide) rfl (Nat.le_of_ble_eq_true rfl) ?_
  intro p e s m args below meth c X hr
  refine y_lv [(0, .ref (E.2.1 (b))), (1, .int (nI (a))), (2, .int (nI (b0)))] rfl ?_
  refine y_aload_n X dX3_defaultsInView_0 0 rfl ?_
  refine y_iload_n X dX3_defaultsInView_1 1 rfl ?_
  refine y_iload_n X dX3_defaultsInView_2 2 rfl ?_
  refine y_callVr X (b) 3 (av := [.int (nI (a)), .int (nI (b0))]) [] 2 (c_X3_sharedNames (b := b) (by omega) gT gw (a := a) (b0 := b0) (by omega) (by omega)) (by omega) h0 rfl gX3_defaultsInView_X3_sharedNames rfl (by decide +kernel) rfl ⟨Nat.le_of_ble_eq_true rfl, Nat.le_of_ble_eq_true rfl⟩ ⟨Nat.zero_le _, Nat.zero_le _⟩ (Nat.le_of_ble_eq_true rfl) rfl dX3_defaultsInView_3 ?_
  refine y_aload_n X dX3_defaultsInView_6 0 rfl ?_
  refine y_aload_n X dX3_defaultsInView_7 0 rfl ?_
  refine y_callVr X (b) 3 (av := []) [.ref (E.2.1 (b)), .int (shN T (a) (b0))] 0 (c_X3_now (b := b) (n := tn T) (by omega) (by omega) h0) (by omega) h0 rfl gX3_defaultsInView_X3_now rfl (by decide +kernel) rfl ⟨Nat.le_of_ble_eq_true rfl, Nat.le_of_ble_eq_true rfl⟩ ⟨Nat.zero_le _, Nat.zero_le _⟩ (Nat.le_of_ble_eq_true rfl) rfl dX3_defaultsInView_8 ?_
  refine y_callVr X (b) 3 (av := [.int (nI ((tn T) - 1))]) [.int (shN T (a) (b0))] 1 (c_X3_namesIn (b := b) (by omega) gT gw (q := (tn T) - 1) (by omega)) (by omega) h0 rfl gX3_defaultsInView_X3_namesIn rfl (by decide +kernel) rfl ⟨Nat.le_of_ble_eq_true rfl, Nat.le_of_ble_eq_true rfl⟩ ⟨Nat.zero_le _, Nat.zero_le _⟩ (Nat.le_of_ble_eq_true rfl) rfl dX3_defaultsInView_11 ?_
  refine y_iand X (z := ((shN T (a) (b0)) &&& (nmS T ((tn T) - 1)))) dX3_defaultsInView_14 rfl ?_
  refine y_topi (fun g eg => ?_)
  refine y_istore_n X [(3, .int g), (0, .ref (E.2.1 (b))), (1, .int (nI (a))), (2, .int (nI (b0)))] dX3_defaultsInView_15 rfl (by decide) rfl ?_
  refine y_iconst X (v := (0)) dX3_defaultsInView_16 (by decide) ?_
  refine y_istore X [(4, .int (0)), (3, .int g), (0, .ref (E.2.1 (b))), (1, .int (nI (a))), (2, .int (nI (b0)))] dX3_defaultsInView_17 (by decide) rfl ?_
  refine y_iload_n X dX3_defaultsInView_19 3 rfl ?_
  refine y_istore X [(5, .int (nI (a))), (4, .int (0)), (3, .int g), (0, .ref (E.2.1 (b))), (1, .int (nI (a))), (2, .int (nI (b0)))] dX3_defaultsInView_20 (by decide) rfl ?_
  have L_22 : ∀ (n : Nat) (k : Nat) (x4 : Int32), b0 + 1 - a - k < n → (k ≤ b0 + 1 - a) → (x4 = sm (fun k => dfR T g (a + k)) k) → xY p l e ({ frames := 3, cells := 0, slots := 0, locals := 69 } : Room) s m args below meth c E (xA E) 7 0 0 (MQ below (xQ E (fun v C1 => v = some (.int (dfV T a b0)) ∧ C1 = C)) args s 0 0 (xA E)) C 22 [(0, .ref (E.2.1 (b))), (1, .int (nI (a))), (2, .int (nI (b0))), (3, .int g), (4, .int x4), (5, .int (nI (a + k)))] [] := by
    intro n22
    induction n22 with
    | zero => intro _ _ hm22; exact absurd hm22 (Nat.not_lt_zero _)
    | succ n22 ih22 =>
      intro k x4 hm22 gk gx
      refine y_iload X dX3_defaultsInView_22 5 rfl ?_
      refine y_iload_n X dX3_defaultsInView_24 2 rfl ?_
      refine y_icmp_gt X 83 ((b0) < (a + k)) dX3_defaultsInView_25 (by decide) (nI_ltI (a := b0) (b := a + k) (by omega) (by omega)) (fun c_1 => ?_) (fun c_1 => ?_)
      ·
        refine y_iload X dX3_defaultsInView_83 4 rfl ?_
        exact y_iret X hr dX3_defaultsInView_85 rfl ⟨by rw [gx, eg, show k = b0 + 1 - a by omega]; rfl, rfl⟩
      ·
        refine y_iconst X (v := (0)) dX3_defaultsInView_28 (by decide) ?_
        refine y_istore X [(6, .int (0)), (0, .ref (E.2.1 (b))), (1, .int (nI (a))), (2, .int (nI (b0))), (3, .int g), (4, .int x4), (5, .int (nI (a + k)))] dX3_defaultsInView_29 (by decide) rfl ?_
        have L_31 : ∀ (n : Nat) (j : Nat) (y4 : Int32), 8 - j < n → (j ≤ 8) → (y4 = x4 + sm (fun j => if ¬ (g &&& bitN j) = 0 ∧ tv T (a + k) j = td T (tn T - 1) j then 1 else 0) j) → xY p l e ({ frames := 3, cells := 0, slots := 0, locals := 69 } : Room) s m args below meth c E (xA E) 7 0 0 (MQ below (xQ E (fun v C1 => v = some (.int (dfV T a b0)) ∧ C1 = C)) args s 0 0 (xA E)) C 31 [(0, .ref (E.2.1 (b))), (1, .int (nI (a))), (2, .int (nI (b0))), (3, .int g), (4, .int y4), (5, .int (nI (a + k))), (6, .int (nI (j)))] [] := by
          intro n31
          induction n31 with
          | zero => intro _ _ hm31; exact absurd hm31 (Nat.not_lt_zero _)
          | succ n31 ih31 =>
            intro j y4 hm31 gj gy
            refine y_iload X dX3_defaultsInView_31 6 rfl ?_
            refine y_bipush X (v := (8)) dX3_defaultsInView_33 (by decide) ?_
            refine y_icmp_ge X 77 ((8) ≤ (j)) dX3_defaultsInView_35 (by decide) (nI_leI (a := 8) (b := j) (by omega) (by omega)) (fun c_2 => ?_) (fun c_2 => ?_)
            ·
              refine y_iinc X [(5, .int (nI (a + k + 1))), (0, .ref (E.2.1 (b))), (1, .int (nI (a))), (2, .int (nI (b0))), (3, .int g), (4, .int y4), (6, .int (nI (j)))] dX3_defaultsInView_77 5 rfl (nI_1 _) (by decide) rfl ?_
              refine y_goto X 22 dX3_defaultsInView_80 (by decide) ?_
              refine y_pick [1, 2, 3, 4, 5, 0] [(0, .ref (E.2.1 (b))), (1, .int (nI (a))), (2, .int (nI (b0))), (3, .int g), (4, .int y4), (5, .int (nI (a + k + 1)))] rfl ?_
              exact ih22 (k + 1) (y4) (by omega) (by omega) (by rw [gy, gx, show j = 8 by omega]; rfl)
            ·
              refine y_iload_n X dX3_defaultsInView_38 3 rfl ?_
              refine y_iload X dX3_defaultsInView_39 6 rfl ?_
              refine y_callNr X (av := [.int g, .int (nI (j))]) [] 2 (c_X4_hasName (x := g) (j := j)) gX3_defaultsInView_X4_hasName_n115 (by decide +kernel) (by decide +kernel) (by decide +kernel) rfl (by decide +kernel) rfl ⟨Nat.le_of_ble_eq_true rfl, Nat.le_of_ble_eq_true rfl⟩ ⟨Nat.zero_le _, Nat.zero_le _⟩ (Nat.le_of_ble_eq_true rfl) rfl dX3_defaultsInView_41 ?_
              refine y_if_eq X 71 (¬ (¬ (g &&& bitN (j)) = 0)) dX3_defaultsInView_44 (by decide) bI_eq (fun c_3 => ?_) (fun c_3 => ?_)
              ·
                refine y_iinc X [(6, .int (nI (j + 1))), (0, .ref (E.2.1 (b))), (1, .int (nI (a))), (2, .int (nI (b0))), (3, .int g), (4, .int y4), (5, .int (nI (a + k)))] dX3_defaultsInView_71 6 rfl (nI_1 _) (by decide) rfl ?_
                refine y_goto X 31 dX3_defaultsInView_74 (by decide) ?_
                refine y_pick [1, 2, 3, 4, 5, 6, 0] [(0, .ref (E.2.1 (b))), (1, .int (nI (a))), (2, .int (nI (b0))), (3, .int g), (4, .int y4), (5, .int (nI (a + k))), (6, .int (nI (j + 1)))] rfl ?_
                exact ih31 (j + 1) (y4) (by omega) (by omega) (by rw [gy]; exact smx_zero (if_neg (fun z => c_3 z.1)))
              ·
                have c_3 := Decidable.of_not_not c_3
                have gpr : ¬ tk T (ts T (a + k)) j = -1 := shN_has (T := T) (a := a) (b := b0) (i := a + k) (by omega) (by omega) (by omega) (and_has_l (by omega) (by rw [← eg]; exact c_3))
                refine y_aload_n X dX3_defaultsInView_47 0 rfl ?_
                refine y_iload X dX3_defaultsInView_48 5 rfl ?_
                refine y_iload X dX3_defaultsInView_50 6 rfl ?_
                refine y_callVr X (b) 3 (av := [.int (nI (a + k)), .int (nI (j))]) [] 2 (c_X3_valueAt (b := b) (by omega) gT gw (i := a + k) (j := j) (by omega) (by omega) (by assumption)) (by omega) h0 rfl gX3_defaultsInView_X3_valueAt rfl (by decide +kernel) rfl ⟨Nat.le_of_ble_eq_true rfl, Nat.le_of_ble_eq_true rfl⟩ ⟨Nat.zero_le _, Nat.zero_le _⟩ (Nat.le_of_ble_eq_true rfl) rfl dX3_defaultsInView_52 ?_
                refine y_aload_n X dX3_defaultsInView_55 0 rfl ?_
                refine y_aload_n X dX3_defaultsInView_56 0 rfl ?_
                refine y_callVr X (b) 3 (av := []) [.ref (E.2.1 (b)), .int (tv T (a + k) (j))] 0 (c_X3_now (b := b) (n := tn T) (by omega) (by omega) h0) (by omega) h0 rfl gX3_defaultsInView_X3_now rfl (by decide +kernel) rfl ⟨Nat.le_of_ble_eq_true rfl, Nat.le_of_ble_eq_true rfl⟩ ⟨Nat.zero_le _, Nat.zero_le _⟩ (Nat.le_of_ble_eq_true rfl) rfl dX3_defaultsInView_57 ?_
                refine y_iload X dX3_defaultsInView_60 6 rfl ?_
                refine y_callVr X (b) 3 (av := [.int (nI ((tn T) - 1)), .int (nI (j))]) [.int (tv T (a + k) (j))] 2 (c_X3_standardIn (b := b) (by omega) gT gw (q := (tn T) - 1) (j := j) (by omega) (by omega)) (by omega) h0 rfl gX3_defaultsInView_X3_standardIn rfl (by decide +kernel) rfl ⟨Nat.le_of_ble_eq_true rfl, Nat.le_of_ble_eq_true rfl⟩ ⟨Nat.zero_le _, Nat.zero_le _⟩ (Nat.le_of_ble_eq_true rfl) rfl dX3_defaultsInView_62 ?_
                refine y_icmp_ne X 71 (¬ ((tv T (a + k) (j)) = (td T ((tn T) - 1) (j)))) dX3_defaultsInView_65 (by decide) Iff.rfl (fun c_4 => ?_) (fun c_4 => ?_)
                ·
                  refine y_iinc X [(6, .int (nI (j + 1))), (0, .ref (E.2.1 (b))), (1, .int (nI (a))), (2, .int (nI (b0))), (3, .int g), (4, .int y4), (5, .int (nI (a + k)))] dX3_defaultsInView_71 6 rfl (nI_1 _) (by decide) rfl ?_
                  refine y_goto X 31 dX3_defaultsInView_74 (by decide) ?_
                  refine y_pick [1, 2, 3, 4, 5, 6, 0] [(0, .ref (E.2.1 (b))), (1, .int (nI (a))), (2, .int (nI (b0))), (3, .int g), (4, .int y4), (5, .int (nI (a + k))), (6, .int (nI (j + 1)))] rfl ?_
                  exact ih31 (j + 1) (y4) (by omega) (by omega) (by rw [gy]; exact smx_zero (if_neg (fun z => c_4 z.2)))
                ·
                  have c_4 := Decidable.of_not_not c_4
                  refine y_iinc X [(4, .int (y4 + 1)), (0, .ref (E.2.1 (b))), (1, .int (nI (a))), (2, .int (nI (b0))), (3, .int g), (5, .int (nI (a + k))), (6, .int (nI (j)))] dX3_defaultsInView_68 4 rfl rfl (by decide) rfl ?_
                  refine y_iinc X [(6, .int (nI (j + 1))), (4, .int (y4 + 1)), (0, .ref (E.2.1 (b))), (1, .int (nI (a))), (2, .int (nI (b0))), (3, .int g), (5, .int (nI (a + k)))] dX3_defaultsInView_71 6 rfl (nI_1 _) (by decide) rfl ?_
                  refine y_goto X 31 dX3_defaultsInView_74 (by decide) ?_
                  refine y_pick [2, 3, 4, 5, 1, 6, 0] [(0, .ref (E.2.1 (b))), (1, .int (nI (a))), (2, .int (nI (b0))), (3, .int g), (4, .int (y4 + 1)), (5, .int (nI (a + k))), (6, .int (nI (j + 1)))] rfl ?_
                  exact ih31 (j + 1) ((y4 + 1)) (by omega) (by omega) (by rw [gy]; exact smx_pos (if_pos ⟨c_3, c_4⟩))
        refine y_pick [1, 2, 3, 4, 5, 6, 0] [(0, .ref (E.2.1 (b))), (1, .int (nI (a))), (2, .int (nI (b0))), (3, .int g), (4, .int x4), (5, .int (nI (a + k))), (6, .int (0))] rfl ?_
        exact L_31 _ (0) (x4) (Nat.lt_succ_self _) (by omega) (by show x4 = x4 + 0; rw [Int32.add_zero])
  refine y_pick [3, 4, 5, 2, 1, 0] [(0, .ref (E.2.1 (b))), (1, .int (nI (a))), (2, .int (nI (b0))), (3, .int g), (4, .int (0)), (5, .int (nI (a)))] rfl ?_
  exact L_22 _ (0) (0) (Nat.lt_succ_self _) (by omega) rfl

set_option maxRecDepth 100000 in
set_option maxHeartbeats 4000000 in
theorem c_X3_widestKind {l : Launch} {E : xE} {C : xC} {b : Nat} {T : Tb} (gb : b + 4 < 61) (gT : RC E C b T) (gw : WB T) {a b0 j : Nat} (ga : a < tr T) (gz : b0 < tr T) (gj : j < 8) (gh : ∀ i : Nat, a ≤ i → i ≤ b0 → ¬ tk T (ts T i) j = -1) : xR E l yX3_widestKind wsX3_widestKind 2 44 [.ref (E.2.1 (b)), .int (nI (a)), .int (nI (b0)), .int (nI (j))] C (wdt T a j (b0 + 1 - a)) := by
  obtain ⟨zK, zD, zS, zV, h0, h1, h2, h3, h4, gK, gD, gS, gV⟩ := id gT
  obtain ⟨gw1, gw2, gw3, gw4⟩ := id gw
  refine xM_ofY (cc := cX3_widestKind) (maxL := 6) (ret := (some .int)) (by decide) rfl (Nat.le_of_ble_eq_true rfl) ?_
  intro p e s m args below meth c X hr
  refine y_lv [(0, .ref (E.2.1 (b))), (1, .int (nI (a))), (2, .int (nI (b0))), (3, .int (nI (j)))] rfl ?_
  refine y_iconst X (v := (0)) dX3_widestKind_0 (by decide) ?_
  refine y_istore X [(4, .int (0)), (0, .ref (E.2.1 (b))), (1, .int (nI (a))), (2, .int (nI (b0))), (3, .int (nI (j)))] dX3_widestKind_1 (by decide) rfl ?_
  refine y_iload_n X dX3_widestKind_3 2 rfl ?_
  refine y_istore X [(5, .int (nI (a))), (4, .int (0)), (0, .ref (E.2.1 (b))), (1, .int (nI (a))), (2, .int (nI (b0))), (3, .int (nI (j)))] dX3_widestKind_4 (by decide) rfl ?_
  have L_6 : ∀ (n : Nat) (k : Nat) (x4 : Int32), b0 + 1 - a - k < n → (k ≤ b0 + 1 - a) → (x4 = wdt T a j k) → xY p l e ({ frames := 2, cells := 0, slots := 0, locals := 44 } : Room) s m args below meth c E (xA E) 6 0 0 (MQ below (xQ E (fun v C1 => v = some (.int (wdt T a j (b0 + 1 - a))) ∧ C1 = C)) args s 0 0 (xA E)) C 6 [(0, .ref (E.2.1 (b))), (1, .int (nI (a))), (2, .int (nI (b0))), (3, .int (nI (j))), (4, .int x4), (5, .int (nI (a + k)))] [] := by
    intro n6
    induction n6 with
    | zero => intro _ _ hm6; exact absurd hm6 (Nat.not_lt_zero _)
    | succ n6 ih6 =>
      intro k x4 hm6 gk gx
      refine y_iload X dX3_widestKind_6 5 rfl ?_
      refine y_iload_n X dX3_widestKind_8 2 rfl ?_
      refine y_icmp_gt X 32 ((b0) < (a + k)) dX3_widestKind_9 (by decide) (nI_ltI (a := b0) (b := a + k) (by omega) (by omega)) (fun c_1 => ?_) (fun c_1 => ?_)
      ·
        refine y_iload X dX3_widestKind_32 4 rfl ?_
        exact y_iret X hr dX3_widestKind_34 rfl ⟨by rw [gx, show k = b0 + 1 - a by omega], rfl⟩
      ·
        refine y_iload X dX3_widestKind_12 4 rfl ?_
        refine y_aload_n X dX3_widestKind_14 0 rfl ?_
        refine y_iload X dX3_widestKind_15 5 rfl ?_
        refine y_iload_n X dX3_widestKind_17 3 rfl ?_
        have gpr := gh (a + k) (by omega) (by omega)
        refine y_callVr X (b) 3 (av := [.int (nI (a + k)), .int (nI (j))]) [.int x4] 2 (c_X3_kindInRow (b := b) (by omega) gT gw (i := a + k) (j := j) (by omega) (by omega)) (by omega) h0 rfl gX3_widestKind_X3_kindInRow rfl (by decide +kernel) rfl ⟨Nat.le_of_ble_eq_true rfl, Nat.le_of_ble_eq_true rfl⟩ ⟨Nat.zero_le _, Nat.zero_le _⟩ (Nat.le_of_ble_eq_true rfl) rfl dX3_widestKind_18 ?_
        refine y_max X (z := (if x4 < (tk T (ts T (a + k)) (j)) then (tk T (ts T (a + k)) (j)) else x4)) dX3_widestKind_21 (by decide +kernel) (by decide +kernel) (by decide +kernel) (by decide +kernel) (Nat.le_of_ble_eq_true rfl) (Nat.le_of_ble_eq_true rfl) ⟨Nat.zero_le _, Nat.zero_le _⟩ rfl ?_
        refine y_istore X [(4, .int (if x4 < (tk T (ts T (a + k)) (j)) then (tk T (ts T (a + k)) (j)) else x4)), (0, .ref (E.2.1 (b))), (1, .int (nI (a))), (2, .int (nI (b0))), (3, .int (nI (j))), (5, .int (nI (a + k)))] dX3_widestKind_24 (by decide) rfl ?_
        refine y_iinc X [(5, .int (nI (a + k + 1))), (4, .int (if x4 < (tk T (ts T (a + k)) (j)) then (tk T (ts T (a + k)) (j)) else x4)), (0, .ref (E.2.1 (b))), (1, .int (nI (a))), (2, .int (nI (b0))), (3, .int (nI (j)))] dX3_widestKind_26 5 rfl (nI_1 _) (by decide) rfl ?_
        refine y_goto X 6 dX3_widestKind_29 (by decide) ?_
        refine y_pick [2, 3, 4, 5, 1, 0] [(0, .ref (E.2.1 (b))), (1, .int (nI (a))), (2, .int (nI (b0))), (3, .int (nI (j))), (4, .int (if x4 < (tk T (ts T (a + k)) (j)) then (tk T (ts T (a + k)) (j)) else x4)), (5, .int (nI (a + k + 1)))] rfl ?_
        exact ih6 (k + 1) ((if x4 < (tk T (ts T (a + k)) (j)) then (tk T (ts T (a + k)) (j)) else x4)) (by omega) (by omega) (by rw [gx]; rfl)
  refine y_pick [2, 3, 4, 5, 1, 0] [(0, .ref (E.2.1 (b))), (1, .int (nI (a))), (2, .int (nI (b0))), (3, .int (nI (j))), (4, .int (0)), (5, .int (nI (a)))] rfl ?_
  exact L_6 _ (0) ((0)) (Nat.lt_succ_self _) (by omega) rfl

set_option maxRecDepth 100000 in
set_option maxHeartbeats 4000000 in
theorem c_X3_sumOfValues {l : Launch} {E : xE} {C : xC} {b : Nat} {T : Tb} (gb : b + 4 < 61) (gT : RC E C b T) (gw : WB T) {a b0 j : Nat} (ga : a < tr T) (gz : b0 < tr T) (gj : j < 8) (gh : ∀ i : Nat, a ≤ i → i ≤ b0 → ¬ tk T (ts T i) j = -1) : xR E l yX3_sumOfValues wsX3_sumOfValues 1 22 [.ref (E.2.1 (b)), .int (nI (a)), .int (nI (b0)), .int (nI (j))] C (svs T a j (b0 + 1 - a)) := by
  obtain ⟨zK, zD, zS, zV, h0, h1, h2, h3, h4, gK, gD, gS, gV⟩ := id gT
  obtain ⟨gw1, gw2, gw3, gw4⟩ := id gw
  refine xM_ofY (cc := cX3_sumOfValues) (maxL := 6) (ret := (some .int)) (by decide) rfl (Nat.le_of_ble_eq_true rfl) ?_
  intro p e s m args below meth c X hr
  refine y_lv [(0, .ref (E.2.1 (b))), (1, .int (nI (a))), (2, .int (nI (b0))), (3, .int (nI (j)))] rfl ?_
  refine y_iconst X (v := (0)) dX3_sumOfValues_0 (by decide) ?_
  refine y_istore X [(4, .int (0)), (0, .ref (E.2.1 (b))), (1, .int (nI (a))), (2, .int (nI (b0))), (3, .int (nI (j)))] dX3_sumOfValues_1 (by decide) rfl ?_
  refine y_iload_n X dX3_sumOfValues_3 2 rfl ?_
  refine y_istore X [(5, .int (nI (a))), (4, .int (0)), (0, .ref (E.2.1 (b))), (1, .int (nI (a))), (2, .int (nI (b0))), (3, .int (nI (j)))] dX3_sumOfValues_4 (by decide) rfl ?_
  have L_6 : ∀ (n : Nat) (k : Nat) (x4 : Int32), b0 + 1 - a - k < n → (k ≤ b0 + 1 - a) → (x4 = svs T a j k) → xY p l e ({ frames := 1, cells := 0, slots := 0, locals := 22 } : Room) s m args below meth c E (xA E) 6 0 0 (MQ below (xQ E (fun v C1 => v = some (.int (svs T a j (b0 + 1 - a))) ∧ C1 = C)) args s 0 0 (xA E)) C 6 [(0, .ref (E.2.1 (b))), (1, .int (nI (a))), (2, .int (nI (b0))), (3, .int (nI (j))), (4, .int x4), (5, .int (nI (a + k)))] [] := by
    intro n6
    induction n6 with
    | zero => intro _ _ hm6; exact absurd hm6 (Nat.not_lt_zero _)
    | succ n6 ih6 =>
      intro k x4 hm6 gk gx
      refine y_iload X dX3_sumOfValues_6 5 rfl ?_
      refine y_iload_n X dX3_sumOfValues_8 2 rfl ?_
      refine y_icmp_gt X 30 ((b0) < (a + k)) dX3_sumOfValues_9 (by decide) (nI_ltI (a := b0) (b := a + k) (by omega) (by omega)) (fun c_1 => ?_) (fun c_1 => ?_)
      ·
        refine y_iload X dX3_sumOfValues_30 4 rfl ?_
        exact y_iret X hr dX3_sumOfValues_32 rfl ⟨by rw [gx, show k = b0 + 1 - a by omega], rfl⟩
      ·
        refine y_iload X dX3_sumOfValues_12 4 rfl ?_
        refine y_aload_n X dX3_sumOfValues_14 0 rfl ?_
        refine y_iload X dX3_sumOfValues_15 5 rfl ?_
        refine y_iload_n X dX3_sumOfValues_17 3 rfl ?_
        have gpr := gh (a + k) (by omega) (by omega)
        refine y_callVr X (b) 3 (av := [.int (nI (a + k)), .int (nI (j))]) [.int x4] 2 (c_X3_valueAt (b := b) (by omega) gT gw (i := a + k) (j := j) (by omega) (by omega) (by assumption)) (by omega) h0 rfl gX3_sumOfValues_X3_valueAt rfl (by decide +kernel) rfl ⟨Nat.le_of_ble_eq_true rfl, Nat.le_of_ble_eq_true rfl⟩ ⟨Nat.zero_le _, Nat.zero_le _⟩ (Nat.le_of_ble_eq_true rfl) rfl dX3_sumOfValues_18 ?_
        refine y_iadd X (z := (x4 + (tv T (a + k) (j)))) dX3_sumOfValues_21 rfl ?_
        refine y_istore X [(4, .int (x4 + (tv T (a + k) (j)))), (0, .ref (E.2.1 (b))), (1, .int (nI (a))), (2, .int (nI (b0))), (3, .int (nI (j))), (5, .int (nI (a + k)))] dX3_sumOfValues_22 (by decide) rfl ?_
        refine y_iinc X [(5, .int (nI (a + k + 1))), (4, .int (x4 + (tv T (a + k) (j)))), (0, .ref (E.2.1 (b))), (1, .int (nI (a))), (2, .int (nI (b0))), (3, .int (nI (j)))] dX3_sumOfValues_24 5 rfl (nI_1 _) (by decide) rfl ?_
        refine y_goto X 6 dX3_sumOfValues_27 (by decide) ?_
        refine y_pick [2, 3, 4, 5, 1, 0] [(0, .ref (E.2.1 (b))), (1, .int (nI (a))), (2, .int (nI (b0))), (3, .int (nI (j))), (4, .int (x4 + (tv T (a + k) (j)))), (5, .int (nI (a + k + 1)))] rfl ?_
        exact ih6 (k + 1) ((x4 + (tv T (a + k) (j)))) (by omega) (by omega) (by rw [gx]; rfl)
  refine y_pick [2, 3, 4, 5, 1, 0] [(0, .ref (E.2.1 (b))), (1, .int (nI (a))), (2, .int (nI (b0))), (3, .int (nI (j))), (4, .int (0)), (5, .int (nI (a)))] rfl ?_
  exact L_6 _ (0) ((0)) (Nat.lt_succ_self _) (by omega) rfl

set_option maxRecDepth 100000 in
set_option maxHeartbeats 4000000 in
theorem c_X3_leastValue {l : Launch} {E : xE} {C : xC} {b : Nat} {T : Tb} (gb : b + 4 < 61) (gT : RC E C b T) (gw : WB T) {a b0 j : Nat} (ga : a < tr T) (gz : b0 < tr T) (gj : j < 8) (gh : ∀ i : Nat, a ≤ i → i ≤ b0 → ¬ tk T (ts T i) j = -1) : xR E l yX3_leastValue wsX3_leastValue 1 22 [.ref (E.2.1 (b)), .int (nI (a)), .int (nI (b0)), .int (nI (j))] C (lea T a j (b0 + 1 - a)) := by
  obtain ⟨zK, zD, zS, zV, h0, h1, h2, h3, h4, gK, gD, gS, gV⟩ := id gT
  obtain ⟨gw1, gw2, gw3, gw4⟩ := id gw
  refine xM_ofY (cc := cX3_leastValue) (maxL := 6) (ret := (some .int)) (by decide) rfl (Nat.le_of_ble_eq_true rfl) ?_
  intro p e s m args below meth c X hr
  refine y_lv [(0, .ref (E.2.1 (b))), (1, .int (nI (a))), (2, .int (nI (b0))), (3, .int (nI (j)))] rfl ?_
  refine y_sipush X (v := (9999)) dX3_leastValue_0 (by decide) ?_
  refine y_istore X [(4, .int (9999)), (0, .ref (E.2.1 (b))), (1, .int (nI (a))), (2, .int (nI (b0))), (3, .int (nI (j)))] dX3_leastValue_3 (by decide) rfl ?_
  refine y_iload_n X dX3_leastValue_5 2 rfl ?_
  refine y_istore X [(5, .int (nI (a))), (4, .int (9999)), (0, .ref (E.2.1 (b))), (1, .int (nI (a))), (2, .int (nI (b0))), (3, .int (nI (j)))] dX3_leastValue_6 (by decide) rfl ?_
  have L_8 : ∀ (n : Nat) (k : Nat) (x4 : Int32), b0 + 1 - a - k < n → (k ≤ b0 + 1 - a) → (x4 = lea T a j k) → xY p l e ({ frames := 1, cells := 0, slots := 0, locals := 22 } : Room) s m args below meth c E (xA E) 6 0 0 (MQ below (xQ E (fun v C1 => v = some (.int (lea T a j (b0 + 1 - a))) ∧ C1 = C)) args s 0 0 (xA E)) C 8 [(0, .ref (E.2.1 (b))), (1, .int (nI (a))), (2, .int (nI (b0))), (3, .int (nI (j))), (4, .int x4), (5, .int (nI (a + k)))] [] := by
    intro n8
    induction n8 with
    | zero => intro _ _ hm8; exact absurd hm8 (Nat.not_lt_zero _)
    | succ n8 ih8 =>
      intro k x4 hm8 gk gx
      refine y_iload X dX3_leastValue_8 5 rfl ?_
      refine y_iload_n X dX3_leastValue_10 2 rfl ?_
      refine y_icmp_gt X 34 ((b0) < (a + k)) dX3_leastValue_11 (by decide) (nI_ltI (a := b0) (b := a + k) (by omega) (by omega)) (fun c_1 => ?_) (fun c_1 => ?_)
      ·
        refine y_iload X dX3_leastValue_34 4 rfl ?_
        exact y_iret X hr dX3_leastValue_36 rfl ⟨by rw [gx, show k = b0 + 1 - a by omega], rfl⟩
      ·
        refine y_iload X dX3_leastValue_14 4 rfl ?_
        refine y_aload_n X dX3_leastValue_16 0 rfl ?_
        refine y_iload X dX3_leastValue_17 5 rfl ?_
        refine y_iload_n X dX3_leastValue_19 3 rfl ?_
        have gpr := gh (a + k) (by omega) (by omega)
        refine y_callVr X (b) 3 (av := [.int (nI (a + k)), .int (nI (j))]) [.int x4] 2 (c_X3_valueAt (b := b) (by omega) gT gw (i := a + k) (j := j) (by omega) (by omega) (by assumption)) (by omega) h0 rfl gX3_leastValue_X3_valueAt rfl (by decide +kernel) rfl ⟨Nat.le_of_ble_eq_true rfl, Nat.le_of_ble_eq_true rfl⟩ ⟨Nat.zero_le _, Nat.zero_le _⟩ (Nat.le_of_ble_eq_true rfl) rfl dX3_leastValue_20 ?_
        refine y_min X (z := (if (tv T (a + k) (j)) < x4 then (tv T (a + k) (j)) else x4)) dX3_leastValue_23 (by decide +kernel) (by decide +kernel) (by decide +kernel) (by decide +kernel) (Nat.le_of_ble_eq_true rfl) (Nat.le_of_ble_eq_true rfl) ⟨Nat.zero_le _, Nat.zero_le _⟩ rfl ?_
        refine y_istore X [(4, .int (if (tv T (a + k) (j)) < x4 then (tv T (a + k) (j)) else x4)), (0, .ref (E.2.1 (b))), (1, .int (nI (a))), (2, .int (nI (b0))), (3, .int (nI (j))), (5, .int (nI (a + k)))] dX3_leastValue_26 (by decide) rfl ?_
        refine y_iinc X [(5, .int (nI (a + k + 1))), (4, .int (if (tv T (a + k) (j)) < x4 then (tv T (a + k) (j)) else x4)), (0, .ref (E.2.1 (b))), (1, .int (nI (a))), (2, .int (nI (b0))), (3, .int (nI (j)))] dX3_leastValue_28 5 rfl (nI_1 _) (by decide) rfl ?_
        refine y_goto X 8 dX3_leastValue_31 (by decide) ?_
        refine y_pick [2, 3, 4, 5, 1, 0] [(0, .ref (E.2.1 (b))), (1, .int (nI (a))), (2, .int (nI (b0))), (3, .int (nI (j))), (4, .int (if (tv T (a + k) (j)) < x4 then (tv T (a + k) (j)) else x4)), (5, .int (nI (a + k + 1)))] rfl ?_
        exact ih8 (k + 1) ((if (tv T (a + k) (j)) < x4 then (tv T (a + k) (j)) else x4)) (by omega) (by omega) (by rw [gx]; rfl)
  refine y_pick [2, 3, 4, 5, 1, 0] [(0, .ref (E.2.1 (b))), (1, .int (nI (a))), (2, .int (nI (b0))), (3, .int (nI (j))), (4, .int (9999)), (5, .int (nI (a)))] rfl ?_
  exact L_8 _ (0) ((9999)) (Nat.lt_succ_self _) (by omega) rfl

set_option maxRecDepth 100000 in
set_option maxHeartbeats 4000000 in
theorem c_X3_greatestValue {l : Launch} {E : xE} {C : xC} {b : Nat} {T : Tb} (gb : b + 4 < 61) (gT : RC E C b T) (gw : WB T) {a b0 j : Nat} (ga : a < tr T) (gz : b0 < tr T) (gj : j < 8) (gh : ∀ i : Nat, a ≤ i → i ≤ b0 → ¬ tk T (ts T i) j = -1) : xR E l yX3_greatestValue wsX3_greatestValue 1 22 [.ref (E.2.1 (b)), .int (nI (a)), .int (nI (b0)), .int (nI (j))] C (gre T a j (b0 + 1 - a)) := by
  obtain ⟨zK, zD, zS, zV, h0, h1, h2, h3, h4, gK, gD, gS, gV⟩ := id gT
  obtain ⟨gw1, gw2, gw3, gw4⟩ := id gw
  refine xM_ofY (cc := cX3_greatestValue) (maxL := 6) (ret := (some .int)) (by decide) rfl (Nat.le_of_ble_eq_true rfl) ?_
  intro p e s m args below meth c X hr
  refine y_lv [(0, .ref (E.2.1 (b))), (1, .int (nI (a))), (2, .int (nI (b0))), (3, .int (nI (j)))] rfl ?_
  refine y_sipush X (v := (-9999)) dX3_greatestValue_0 (by decide) ?_
  refine y_istore X [(4, .int (-9999)), (0, .ref (E.2.1 (b))), (1, .int (nI (a))), (2, .int (nI (b0))), (3, .int (nI (j)))] dX3_greatestValue_3 (by decide) rfl ?_
  refine y_iload_n X dX3_greatestValue_5 2 rfl ?_
  refine y_istore X [(5, .int (nI (a))), (4, .int (-9999)), (0, .ref (E.2.1 (b))), (1, .int (nI (a))), (2, .int (nI (b0))), (3, .int (nI (j)))] dX3_greatestValue_6 (by decide) rfl ?_
  have L_8 : ∀ (n : Nat) (k : Nat) (x4 : Int32), b0 + 1 - a - k < n → (k ≤ b0 + 1 - a) → (x4 = gre T a j k) → xY p l e ({ frames := 1, cells := 0, slots := 0, locals := 22 } : Room) s m args below meth c E (xA E) 6 0 0 (MQ below (xQ E (fun v C1 => v = some (.int (gre T a j (b0 + 1 - a))) ∧ C1 = C)) args s 0 0 (xA E)) C 8 [(0, .ref (E.2.1 (b))), (1, .int (nI (a))), (2, .int (nI (b0))), (3, .int (nI (j))), (4, .int x4), (5, .int (nI (a + k)))] [] := by
    intro n8
    induction n8 with
    | zero => intro _ _ hm8; exact absurd hm8 (Nat.not_lt_zero _)
    | succ n8 ih8 =>
      intro k x4 hm8 gk gx
      refine y_iload X dX3_greatestValue_8 5 rfl ?_
      refine y_iload_n X dX3_greatestValue_10 2 rfl ?_
      refine y_icmp_gt X 34 ((b0) < (a + k)) dX3_greatestValue_11 (by decide) (nI_ltI (a := b0) (b := a + k) (by omega) (by omega)) (fun c_1 => ?_) (fun c_1 => ?_)
      ·
        refine y_iload X dX3_greatestValue_34 4 rfl ?_
        exact y_iret X hr dX3_greatestValue_36 rfl ⟨by rw [gx, show k = b0 + 1 - a by omega], rfl⟩
      ·
        refine y_iload X dX3_greatestValue_14 4 rfl ?_
        refine y_aload_n X dX3_greatestValue_16 0 rfl ?_
        refine y_iload X dX3_greatestValue_17 5 rfl ?_
        refine y_iload_n X dX3_greatestValue_19 3 rfl ?_
        have gpr := gh (a + k) (by omega) (by omega)
        refine y_callVr X (b) 3 (av := [.int (nI (a + k)), .int (nI (j))]) [.int x4] 2 (c_X3_valueAt (b := b) (by omega) gT gw (i := a + k) (j := j) (by omega) (by omega) (by assumption)) (by omega) h0 rfl gX3_greatestValue_X3_valueAt rfl (by decide +kernel) rfl ⟨Nat.le_of_ble_eq_true rfl, Nat.le_of_ble_eq_true rfl⟩ ⟨Nat.zero_le _, Nat.zero_le _⟩ (Nat.le_of_ble_eq_true rfl) rfl dX3_greatestValue_20 ?_
        refine y_max X (z := (if x4 < (tv T (a + k) (j)) then (tv T (a + k) (j)) else x4)) dX3_greatestValue_23 (by decide +kernel) (by decide +kernel) (by decide +kernel) (by decide +kernel) (Nat.le_of_ble_eq_true rfl) (Nat.le_of_ble_eq_true rfl) ⟨Nat.zero_le _, Nat.zero_le _⟩ rfl ?_
        refine y_istore X [(4, .int (if x4 < (tv T (a + k) (j)) then (tv T (a + k) (j)) else x4)), (0, .ref (E.2.1 (b))), (1, .int (nI (a))), (2, .int (nI (b0))), (3, .int (nI (j))), (5, .int (nI (a + k)))] dX3_greatestValue_26 (by decide) rfl ?_
        refine y_iinc X [(5, .int (nI (a + k + 1))), (4, .int (if x4 < (tv T (a + k) (j)) then (tv T (a + k) (j)) else x4)), (0, .ref (E.2.1 (b))), (1, .int (nI (a))), (2, .int (nI (b0))), (3, .int (nI (j)))] dX3_greatestValue_28 5 rfl (nI_1 _) (by decide) rfl ?_
        refine y_goto X 8 dX3_greatestValue_31 (by decide) ?_
        refine y_pick [2, 3, 4, 5, 1, 0] [(0, .ref (E.2.1 (b))), (1, .int (nI (a))), (2, .int (nI (b0))), (3, .int (nI (j))), (4, .int (if x4 < (tv T (a + k) (j)) then (tv T (a + k) (j)) else x4)), (5, .int (nI (a + k + 1)))] rfl ?_
        exact ih8 (k + 1) ((if x4 < (tv T (a + k) (j)) then (tv T (a + k) (j)) else x4)) (by omega) (by omega) (by rw [gx]; rfl)
  refine y_pick [2, 3, 4, 5, 1, 0] [(0, .ref (E.2.1 (b))), (1, .int (nI (a))), (2, .int (nI (b0))), (3, .int (nI (j))), (4, .int (-9999)), (5, .int (nI (a)))] rfl ?_
  exact L_8 _ (0) ((-9999)) (Nat.lt_succ_self _) (by omega) rfl

set_option maxRecDepth 100000 in
set_option maxHeartbeats 4000000 in
theorem c_X3_isFirstOfItsValue {l : Launch} {E : xE} {C : xC} {b : Nat} {T : Tb} (gb : b + 4 < 61) (gT : RC E C b T) (gw : WB T) {a i j : Nat} (ga : a ≤ i) (gz : i < tr T) (gj : j < 8) (gh : ∀ r : Nat, a ≤ r → r ≤ i → ¬ tk T (ts T r) j = -1) : xR E l yX3_isFirstOfItsValue wsX3_isFirstOfItsValue 1 22 [.ref (E.2.1 (b)), .int (nI (a)), .int (nI (i)), .int (nI (j))] C (bI (fstV T a j i)) := by
  obtain ⟨zK, zD, zS, zV, h0, h1, h2, h3, h4, gK, gD, gS, gV⟩ := id gT
  obtain ⟨gw1, gw2, gw3, gw4⟩ := id gw
  refine xM_ofY (cc := cX3_isFirstOfItsValue) (maxL := 5) (ret := (some .boolean)) (by decide) rfl (Nat.le_of_ble_eq_true rfl) ?_
  intro p e s m args below meth c X hr
  refine y_lv [(0, .ref (E.2.1 (b))), (1, .int (nI (a))), (2, .int (nI (i))), (3, .int (nI (j)))] rfl ?_
  refine y_iload_n X dX3_isFirstOfItsValue_0 1 rfl ?_
  refine y_istore X [(4, .int (nI (a))), (0, .ref (E.2.1 (b))), (1, .int (nI (a))), (2, .int (nI (i))), (3, .int (nI (j)))] dX3_isFirstOfItsValue_1 (by decide) rfl ?_
  have L_3 : ∀ (n : Nat) (k : Nat), i - (a + k) < n → (a + k ≤ i) → (∀ z : Nat, z < k → ¬ tv T (a + z) j = tv T i j) → xY p l e ({ frames := 1, cells := 0, slots := 0, locals := 22 } : Room) s m args below meth c E (xA E) 5 0 0 (MQ below (xQ E (fun v C1 => v = some (.int (bI (fstV T a j i))) ∧ C1 = C)) args s 0 0 (xA E)) C 3 [(0, .ref (E.2.1 (b))), (1, .int (nI (a))), (2, .int (nI (i))), (3, .int (nI (j))), (4, .int (nI (a + k)))] [] := by
    intro n3
    induction n3 with
    | zero => intro _ hm3; exact absurd hm3 (Nat.not_lt_zero _)
    | succ n3 ih3 =>
      intro k hm3 gk gx
      refine y_iload X dX3_isFirstOfItsValue_3 4 rfl ?_
      refine y_iload_n X dX3_isFirstOfItsValue_5 2 rfl ?_
      refine y_icmp_ge X 33 ((i) ≤ (a + k)) dX3_isFirstOfItsValue_6 (by decide) (nI_leI (a := i) (b := a + k) (by omega) (by omega)) (fun c_1 => ?_) (fun c_1 => ?_)
      ·
        refine y_iconst X (v := (1)) dX3_isFirstOfItsValue_33 (by decide) ?_
        exact y_zret X hr (by rfl) dX3_isFirstOfItsValue_34 rfl ⟨by rw [bI_1 (P := fstV T a j i) (fun z hz => gx z (by omega))], rfl⟩
      ·
        refine y_aload_n X dX3_isFirstOfItsValue_9 0 rfl ?_
        refine y_iload X dX3_isFirstOfItsValue_10 4 rfl ?_
        refine y_iload_n X dX3_isFirstOfItsValue_12 3 rfl ?_
        have gpr := gh (a + k) (by omega) (by omega)
        refine y_callVr X (b) 3 (av := [.int (nI (a + k)), .int (nI (j))]) [] 2 (c_X3_valueAt (b := b) (by omega) gT gw (i := a + k) (j := j) (by omega) (by omega) (by assumption)) (by omega) h0 rfl gX3_isFirstOfItsValue_X3_valueAt rfl (by decide +kernel) rfl ⟨Nat.le_of_ble_eq_true rfl, Nat.le_of_ble_eq_true rfl⟩ ⟨Nat.zero_le _, Nat.zero_le _⟩ (Nat.le_of_ble_eq_true rfl) rfl dX3_isFirstOfItsValue_13 ?_
        refine y_aload_n X dX3_isFirstOfItsValue_16 0 rfl ?_
        refine y_iload_n X dX3_isFirstOfItsValue_17 2 rfl ?_
        refine y_iload_n X dX3_isFirstOfItsValue_18 3 rfl ?_
        have gpr2 := gh i (by omega) (by omega)
        refine y_callVr X (b) 3 (av := [.int (nI (i)), .int (nI (j))]) [.int (tv T (a + k) (j))] 2 (c_X3_valueAt (b := b) (by omega) gT gw (i := i) (j := j) (by omega) (by omega) (by assumption)) (by omega) h0 rfl gX3_isFirstOfItsValue_X3_valueAt rfl (by decide +kernel) rfl ⟨Nat.le_of_ble_eq_true rfl, Nat.le_of_ble_eq_true rfl⟩ ⟨Nat.zero_le _, Nat.zero_le _⟩ (Nat.le_of_ble_eq_true rfl) rfl dX3_isFirstOfItsValue_19 ?_
        refine y_icmp_ne X 27 (¬ ((tv T (a + k) (j)) = (tv T (i) (j)))) dX3_isFirstOfItsValue_22 (by decide) Iff.rfl (fun c_2 => ?_) (fun c_2 => ?_)
        ·
          refine y_iinc X [(4, .int (nI (a + k + 1))), (0, .ref (E.2.1 (b))), (1, .int (nI (a))), (2, .int (nI (i))), (3, .int (nI (j)))] dX3_isFirstOfItsValue_27 4 rfl (nI_1 _) (by decide) rfl ?_
          refine y_goto X 3 dX3_isFirstOfItsValue_30 (by decide) ?_
          refine y_pick [1, 2, 3, 4, 0] [(0, .ref (E.2.1 (b))), (1, .int (nI (a))), (2, .int (nI (i))), (3, .int (nI (j))), (4, .int (nI (a + k + 1)))] rfl ?_
          exact ih3 (k + 1) (by omega) (by omega) (fun z hz => by rcases Nat.lt_or_ge z k with q1 | q1; exact gx z q1; rw [show z = k by omega]; exact c_2)
        ·
          have c_2 := Decidable.of_not_not c_2
          refine y_iconst X (v := (0)) dX3_isFirstOfItsValue_25 (by decide) ?_
          exact y_zret X hr (by rfl) dX3_isFirstOfItsValue_26 rfl ⟨by rw [bI_0 (P := fstV T a j i) (fun z => z k (by omega) (by first | exact c_2 | exact Decidable.of_not_not c_2))], rfl⟩
  refine y_pick [1, 2, 3, 4, 0] [(0, .ref (E.2.1 (b))), (1, .int (nI (a))), (2, .int (nI (i))), (3, .int (nI (j))), (4, .int (nI (a)))] rfl ?_
  exact L_3 _ (0) (Nat.lt_succ_self _) (by omega) (fun z hz => absurd hz (Nat.not_lt_zero _))

set_option maxRecDepth 100000 in
set_option maxHeartbeats 4000000 in
theorem c_X3_unlikeValues {l : Launch} {E : xE} {C : xC} {b : Nat} {T : Tb} (gb : b + 4 < 61) (gT : RC E C b T) (gw : WB T) {a b0 j : Nat} (ga : a < tr T) (gz : b0 < tr T) (gj : j < 8) (gh : ∀ i : Nat, a ≤ i → i ≤ b0 → ¬ tk T (ts T i) j = -1) : xR E l yX3_unlikeValues wsX3_unlikeValues 2 46 [.ref (E.2.1 (b)), .int (nI (a)), .int (nI (b0)), .int (nI (j))] C (unl T a j (b0 + 1 - a)) := by
  obtain ⟨zK, zD, zS, zV, h0, h1, h2, h3, h4, gK, gD, gS, gV⟩ := id gT
  obtain ⟨gw1, gw2, gw3, gw4⟩ := id gw
  refine xM_ofY (cc := cX3_unlikeValues) (maxL := 6) (ret := (some .int)) (by decide) rfl (Nat.le_of_ble_eq_true rfl) ?_
  intro p e s m args below meth c X hr
  refine y_lv [(0, .ref (E.2.1 (b))), (1, .int (nI (a))), (2, .int (nI (b0))), (3, .int (nI (j)))] rfl ?_
  refine y_iconst X (v := (0)) dX3_unlikeValues_0 (by decide) ?_
  refine y_istore X [(4, .int (0)), (0, .ref (E.2.1 (b))), (1, .int (nI (a))), (2, .int (nI (b0))), (3, .int (nI (j)))] dX3_unlikeValues_1 (by decide) rfl ?_
  refine y_iload_n X dX3_unlikeValues_3 2 rfl ?_
  refine y_istore X [(5, .int (nI (a))), (4, .int (0)), (0, .ref (E.2.1 (b))), (1, .int (nI (a))), (2, .int (nI (b0))), (3, .int (nI (j)))] dX3_unlikeValues_4 (by decide) rfl ?_
  have L_6 : ∀ (n : Nat) (k : Nat) (x4 : Int32), b0 + 1 - a - k < n → (k ≤ b0 + 1 - a) → (x4 = unl T a j k) → xY p l e ({ frames := 2, cells := 0, slots := 0, locals := 46 } : Room) s m args below meth c E (xA E) 6 0 0 (MQ below (xQ E (fun v C1 => v = some (.int (unl T a j (b0 + 1 - a))) ∧ C1 = C)) args s 0 0 (xA E)) C 6 [(0, .ref (E.2.1 (b))), (1, .int (nI (a))), (2, .int (nI (b0))), (3, .int (nI (j))), (4, .int x4), (5, .int (nI (a + k)))] [] := by
    intro n6
    induction n6 with
    | zero => intro _ _ hm6; exact absurd hm6 (Nat.not_lt_zero _)
    | succ n6 ih6 =>
      intro k x4 hm6 gk gx
      refine y_iload X dX3_unlikeValues_6 5 rfl ?_
      refine y_iload_n X dX3_unlikeValues_8 2 rfl ?_
      refine y_icmp_gt X 32 ((b0) < (a + k)) dX3_unlikeValues_9 (by decide) (nI_ltI (a := b0) (b := a + k) (by omega) (by omega)) (fun c_1 => ?_) (fun c_1 => ?_)
      ·
        refine y_iload X dX3_unlikeValues_32 4 rfl ?_
        exact y_iret X hr dX3_unlikeValues_34 rfl ⟨by rw [gx, show k = b0 + 1 - a by omega], rfl⟩
      ·
        refine y_aload_n X dX3_unlikeValues_12 0 rfl ?_
        refine y_iload_n X dX3_unlikeValues_13 1 rfl ?_
        refine y_iload X dX3_unlikeValues_14 5 rfl ?_
        refine y_iload_n X dX3_unlikeValues_16 3 rfl ?_
        refine y_callVr X (b) 3 (av := [.int (nI (a)), .int (nI (a + k)), .int (nI (j))]) [] 3 (c_X3_isFirstOfItsValue (b := b) (by omega) gT gw (a := a) (i := a + k) (j := j) (by omega) (by omega) (by omega) (fun r q1 q2 => gh r (by omega) (by omega))) (by omega) h0 rfl gX3_unlikeValues_X3_isFirstOfItsValue rfl (by decide +kernel) rfl ⟨Nat.le_of_ble_eq_true rfl, Nat.le_of_ble_eq_true rfl⟩ ⟨Nat.zero_le _, Nat.zero_le _⟩ (Nat.le_of_ble_eq_true rfl) rfl dX3_unlikeValues_17 ?_
        refine y_if_eq X 26 (¬ (fstV T (a) (j) (a + k))) dX3_unlikeValues_20 (by decide) bI_eq (fun c_2 => ?_) (fun c_2 => ?_)
        ·
          refine y_iinc X [(5, .int (nI (a + k + 1))), (0, .ref (E.2.1 (b))), (1, .int (nI (a))), (2, .int (nI (b0))), (3, .int (nI (j))), (4, .int x4)] dX3_unlikeValues_26 5 rfl (nI_1 _) (by decide) rfl ?_
          refine y_goto X 6 dX3_unlikeValues_29 (by decide) ?_
          refine y_pick [1, 2, 3, 4, 5, 0] [(0, .ref (E.2.1 (b))), (1, .int (nI (a))), (2, .int (nI (b0))), (3, .int (nI (j))), (4, .int x4), (5, .int (nI (a + k + 1)))] rfl ?_
          exact ih6 (k + 1) (x4) (by omega) (by omega) (by rw [gx]; show _ = sm _ _ + (if _ then _ else _); rw [if_neg c_2, Int32.add_zero]; rfl)
        ·
          have c_2 := Decidable.of_not_not c_2
          refine y_iinc X [(4, .int (x4 + 1)), (0, .ref (E.2.1 (b))), (1, .int (nI (a))), (2, .int (nI (b0))), (3, .int (nI (j))), (5, .int (nI (a + k)))] dX3_unlikeValues_23 4 rfl rfl (by decide) rfl ?_
          refine y_iinc X [(5, .int (nI (a + k + 1))), (4, .int (x4 + 1)), (0, .ref (E.2.1 (b))), (1, .int (nI (a))), (2, .int (nI (b0))), (3, .int (nI (j)))] dX3_unlikeValues_26 5 rfl (nI_1 _) (by decide) rfl ?_
          refine y_goto X 6 dX3_unlikeValues_29 (by decide) ?_
          refine y_pick [2, 3, 4, 5, 1, 0] [(0, .ref (E.2.1 (b))), (1, .int (nI (a))), (2, .int (nI (b0))), (3, .int (nI (j))), (4, .int (x4 + 1)), (5, .int (nI (a + k + 1)))] rfl ?_
          exact ih6 (k + 1) ((x4 + 1)) (by omega) (by omega) (by rw [gx]; show _ = sm _ _ + (if _ then _ else _); rw [if_pos c_2]; rfl)
  refine y_pick [2, 3, 4, 5, 1, 0] [(0, .ref (E.2.1 (b))), (1, .int (nI (a))), (2, .int (nI (b0))), (3, .int (nI (j))), (4, .int (0)), (5, .int (nI (a)))] rfl ?_
  exact L_6 _ (0) (0) (Nat.lt_succ_self _) (by omega) rfl
end
section
set_option maxRecDepth 100000 in
set_option maxHeartbeats 4000000 in
theorem c_X3_beginSeasonWith {l : Launch} {E : xE} {C : xC} {b : Nat} {T : Tb} (gb : b + 4 < 61) (gT : RC E C b T) (gw : WB T) {j : Nat} {k0 d0 : Int32} (gj : j < 8) (gm : tn T < 30) : xM E l yX3_beginSeasonWith wsX3_beginSeasonWith 1 40 [.ref (E.2.1 (b)), .int (nI (j)), .int k0, .int d0] C (fun v C1 => v = some (.int (nI (tn T))) ∧ RC E C1 b (bgn T j k0 d0) ∧ (∀ i : Nat, (i < b ∨ b + 4 < i) → C1 i = C i)) := by
  obtain ⟨zK, zD, zS, zV, h0, h1, h2, h3, h4, gK, gD, gS, gV⟩ := id gT
  obtain ⟨gw1, gw2, gw3, gw4⟩ := id gw
  refine xM_ofY (cc := cX3_beginSeasonWith) (maxL := 6) (ret := (some .int)) (by decide) rfl (Nat.le_of_ble_eq_true rfl) ?_
  intro p e s m args below meth c X hr
  have inX3 : ∀ w ∈ wsX30, w ∈ wsX3_beginSeasonWith := by decide +kernel
  refine y_lv [(0, .ref (E.2.1 (b))), (1, .int (nI (j))), (2, .int k0), (3, .int d0)] rfl ?_
  refine y_aload_n X dX3_beginSeasonWith_0 0 rfl ?_
  refine y_callVr X (b) 3 (av := []) [] 0 (c_X3_now (b := b) (n := tn T) (by omega) (by omega) h0) (by omega) h0 rfl gX3_beginSeasonWith_X3_now rfl (by decide +kernel) rfl ⟨Nat.le_of_ble_eq_true rfl, Nat.le_of_ble_eq_true rfl⟩ ⟨Nat.zero_le _, Nat.zero_le _⟩ (Nat.le_of_ble_eq_true rfl) rfl dX3_beginSeasonWith_1 ?_
  refine y_bipush X (v := (8)) dX3_beginSeasonWith_4 (by decide) ?_
  refine y_imul X (z := (nI (((tn T) - 1) * (8)))) dX3_beginSeasonWith_6 (pk_mul ((tn T) - 1) (8)) ?_
  refine y_istore X [(4, .int (nI (((tn T) - 1) * (8)))), (0, .ref (E.2.1 (b))), (1, .int (nI (j))), (2, .int k0), (3, .int d0)] dX3_beginSeasonWith_7 (by decide) rfl ?_
  refine y_iload X dX3_beginSeasonWith_9 0 rfl ?_
  refine y_bipush X (v := (8)) dX3_beginSeasonWith_11 (by decide) ?_
  refine y_iadd X (z := (nI (((tn T) - 1) * (8) + 8))) dX3_beginSeasonWith_13 (nI_add (((tn T) - 1) * (8)) (8)) ?_
  refine y_istore X [(5, .int (nI (((tn T) - 1) * (8) + 8))), (4, .int (nI (((tn T) - 1) * (8)))), (0, .ref (E.2.1 (b))), (1, .int (nI (j))), (2, .int k0), (3, .int d0)] dX3_beginSeasonWith_14 (by decide) rfl ?_
  refine y_aload_n X dX3_beginSeasonWith_16 2 rfl ?_
  refine y_get X (b) 3 1 (Cn := RX3) (T := TX3) (N := 6) (index := 15) (v := .ref (E.2.1 (b + 1))) dX3_beginSeasonWith_17 (by omega) h0 rfl (by decide) inX3 (by decide +kernel : Cond.fieldLink RX3 15 "ColumnSeasons$Table" "kinds" "[I" ∈ wsX3_beginSeasonWith) rfl rfl ?_
  refine y_iload X dX3_beginSeasonWith_20 1 rfl ?_
  refine y_aload_n X dX3_beginSeasonWith_22 2 rfl ?_
  refine y_get X (b) 3 1 (Cn := RX3) (T := TX3) (N := 6) (index := 15) (v := .ref (E.2.1 (b + 1))) dX3_beginSeasonWith_23 (by omega) h0 rfl (by decide) inX3 (by decide +kernel : Cond.fieldLink RX3 15 "ColumnSeasons$Table" "kinds" "[I" ∈ wsX3_beginSeasonWith) rfl rfl ?_
  refine y_iload X dX3_beginSeasonWith_26 0 rfl ?_
  refine y_bipush X (v := (8)) dX3_beginSeasonWith_28 (by decide) ?_
  refine y_copyi X (b + 1) (b + 1) (sp := ((tn T) - 1) * (8)) (dp := ((tn T) - 1) * (8) + 8) (n := 8) dX3_beginSeasonWith_30 (by decide +kernel) (by decide +kernel) (by decide +kernel) (by decide +kernel) (by omega) (by omega) h1 h1 rfl rfl rfl (by omega) (by omega) (by omega) (by omega) (Nat.le_of_ble_eq_true rfl) (Nat.le_of_ble_eq_true rfl) ?_
  refine y_mem (va_up C (b + 1) (.inl (E.2.2.1 1, 240, .inl (va_cpy zK zK (((tn T) - 1) * (8)) (((tn T) - 1) * (8) + 8) (8))))) rfl (fun C_1 eC_2 => ?_)
  have h_3 : C_1 (b) = .inr (3, [.int (nI (tn T)), .ref (E.2.1 (b + 1)), .ref (E.2.1 (b + 2)), .int (nI (tr T)), .ref (E.2.1 (b + 3)), .ref (E.2.1 (b + 4))]) := by rw [eC_2, va_up, if_neg (by omega)]; exact h0
  have h_4 : C_1 (b + 1) = .inl (E.2.2.1 1, 240, .inl (va_cpy zK zK (((tn T) - 1) * (8)) (((tn T) - 1) * (8) + 8) (8))) := by rw [eC_2, va_up, if_pos rfl]
  have h_5 : C_1 (b + 2) = .inl (E.2.2.1 1, 240, .inl zD) := by rw [eC_2, va_up, if_neg (by omega)]; exact h2
  have h_6 : C_1 (b + 3) = .inl (E.2.2.1 1, 24, .inl zS) := by rw [eC_2, va_up, if_neg (by omega)]; exact h3
  have h_7 : C_1 (b + 4) = .inl (E.2.2.1 1, 192, .inl zV) := by rw [eC_2, va_up, if_neg (by omega)]; exact h4
  refine y_aload_n X dX3_beginSeasonWith_33 2 rfl ?_
  refine y_get X (b) 3 2 (Cn := RX3) (T := TX3) (N := 6) (index := 19) (v := .ref (E.2.1 (b + 2))) dX3_beginSeasonWith_34 (by omega) h_3 rfl (by decide) inX3 (by decide +kernel : Cond.fieldLink RX3 19 "ColumnSeasons$Table" "standards" "[I" ∈ wsX3_beginSeasonWith) rfl rfl ?_
  refine y_iload X dX3_beginSeasonWith_37 1 rfl ?_
  refine y_aload_n X dX3_beginSeasonWith_39 2 rfl ?_
  refine y_get X (b) 3 2 (Cn := RX3) (T := TX3) (N := 6) (index := 19) (v := .ref (E.2.1 (b + 2))) dX3_beginSeasonWith_40 (by omega) h_3 rfl (by decide) inX3 (by decide +kernel : Cond.fieldLink RX3 19 "ColumnSeasons$Table" "standards" "[I" ∈ wsX3_beginSeasonWith) rfl rfl ?_
  refine y_iload X dX3_beginSeasonWith_43 0 rfl ?_
  refine y_bipush X (v := (8)) dX3_beginSeasonWith_45 (by decide) ?_
  refine y_copyi X (b + 2) (b + 2) (sp := ((tn T) - 1) * (8)) (dp := ((tn T) - 1) * (8) + 8) (n := 8) dX3_beginSeasonWith_47 (by decide +kernel) (by decide +kernel) (by decide +kernel) (by decide +kernel) (by omega) (by omega) h_5 h_5 rfl rfl rfl (by omega) (by omega) (by omega) (by omega) (Nat.le_of_ble_eq_true rfl) (Nat.le_of_ble_eq_true rfl) ?_
  refine y_mem (va_up C_1 (b + 2) (.inl (E.2.2.1 1, 240, .inl (va_cpy zD zD (((tn T) - 1) * (8)) (((tn T) - 1) * (8) + 8) (8))))) rfl (fun C_8 eC_9 => ?_)
  have h_10 : C_8 (b) = .inr (3, [.int (nI (tn T)), .ref (E.2.1 (b + 1)), .ref (E.2.1 (b + 2)), .int (nI (tr T)), .ref (E.2.1 (b + 3)), .ref (E.2.1 (b + 4))]) := by rw [eC_9, va_up, if_neg (by omega)]; exact h_3
  have h_11 : C_8 (b + 1) = .inl (E.2.2.1 1, 240, .inl (va_cpy zK zK (((tn T) - 1) * (8)) (((tn T) - 1) * (8) + 8) (8))) := by rw [eC_9, va_up, if_neg (by omega)]; exact h_4
  have h_12 : C_8 (b + 2) = .inl (E.2.2.1 1, 240, .inl (va_cpy zD zD (((tn T) - 1) * (8)) (((tn T) - 1) * (8) + 8) (8))) := by rw [eC_9, va_up, if_pos rfl]
  have h_13 : C_8 (b + 3) = .inl (E.2.2.1 1, 24, .inl zS) := by rw [eC_9, va_up, if_neg (by omega)]; exact h_6
  have h_14 : C_8 (b + 4) = .inl (E.2.2.1 1, 192, .inl zV) := by rw [eC_9, va_up, if_neg (by omega)]; exact h_7
  refine y_aload_n X dX3_beginSeasonWith_50 2 rfl ?_
  refine y_get X (b) 3 1 (Cn := RX3) (T := TX3) (N := 6) (index := 15) (v := .ref (E.2.1 (b + 1))) dX3_beginSeasonWith_51 (by omega) h_10 rfl (by decide) inX3 (by decide +kernel : Cond.fieldLink RX3 15 "ColumnSeasons$Table" "kinds" "[I" ∈ wsX3_beginSeasonWith) rfl rfl ?_
  refine y_iload X dX3_beginSeasonWith_54 0 rfl ?_
  refine y_iload_n X dX3_beginSeasonWith_56 3 rfl ?_
  refine y_iadd X (z := (nI (((tn T) - 1) * (8) + 8 + j))) dX3_beginSeasonWith_57 (nI_add (((tn T) - 1) * (8) + 8) (j)) ?_
  refine y_iload_n X dX3_beginSeasonWith_58 4 rfl ?_
  refine y_iast X (b + 1) dX3_beginSeasonWith_59 (by omega) h_11 (j := ((tn T) - 1) * (8) + 8 + j) rfl (by omega) (by omega) ?_
  refine y_mem (va_up C_8 (b + 1) (.inl (E.2.2.1 1, 240, .inl (upd (va_cpy zK zK (((tn T) - 1) * (8)) (((tn T) - 1) * (8) + 8) (8)) (((tn T) - 1) * (8) + 8 + j) k0)))) rfl (fun C_15 eC_16 => ?_)
  have h_17 : C_15 (b) = .inr (3, [.int (nI (tn T)), .ref (E.2.1 (b + 1)), .ref (E.2.1 (b + 2)), .int (nI (tr T)), .ref (E.2.1 (b + 3)), .ref (E.2.1 (b + 4))]) := by rw [eC_16, va_up, if_neg (by omega)]; exact h_10
  have h_18 : C_15 (b + 1) = .inl (E.2.2.1 1, 240, .inl (upd (va_cpy zK zK (((tn T) - 1) * (8)) (((tn T) - 1) * (8) + 8) (8)) (((tn T) - 1) * (8) + 8 + j) k0)) := by rw [eC_16, va_up, if_pos rfl]
  have h_19 : C_15 (b + 2) = .inl (E.2.2.1 1, 240, .inl (va_cpy zD zD (((tn T) - 1) * (8)) (((tn T) - 1) * (8) + 8) (8))) := by rw [eC_16, va_up, if_neg (by omega)]; exact h_12
  have h_20 : C_15 (b + 3) = .inl (E.2.2.1 1, 24, .inl zS) := by rw [eC_16, va_up, if_neg (by omega)]; exact h_13
  have h_21 : C_15 (b + 4) = .inl (E.2.2.1 1, 192, .inl zV) := by rw [eC_16, va_up, if_neg (by omega)]; exact h_14
  refine y_aload_n X dX3_beginSeasonWith_60 2 rfl ?_
  refine y_get X (b) 3 2 (Cn := RX3) (T := TX3) (N := 6) (index := 19) (v := .ref (E.2.1 (b + 2))) dX3_beginSeasonWith_61 (by omega) h_17 rfl (by decide) inX3 (by decide +kernel : Cond.fieldLink RX3 19 "ColumnSeasons$Table" "standards" "[I" ∈ wsX3_beginSeasonWith) rfl rfl ?_
  refine y_iload X dX3_beginSeasonWith_64 0 rfl ?_
  refine y_iload_n X dX3_beginSeasonWith_66 3 rfl ?_
  refine y_iadd X (z := (nI (((tn T) - 1) * (8) + 8 + j))) dX3_beginSeasonWith_67 (nI_add (((tn T) - 1) * (8) + 8) (j)) ?_
  refine y_iload_n X dX3_beginSeasonWith_68 5 rfl ?_
  refine y_iast X (b + 2) dX3_beginSeasonWith_69 (by omega) h_19 (j := ((tn T) - 1) * (8) + 8 + j) rfl (by omega) (by omega) ?_
  refine y_mem (va_up C_15 (b + 2) (.inl (E.2.2.1 1, 240, .inl (upd (va_cpy zD zD (((tn T) - 1) * (8)) (((tn T) - 1) * (8) + 8) (8)) (((tn T) - 1) * (8) + 8 + j) d0)))) rfl (fun C_22 eC_23 => ?_)
  have h_24 : C_22 (b) = .inr (3, [.int (nI (tn T)), .ref (E.2.1 (b + 1)), .ref (E.2.1 (b + 2)), .int (nI (tr T)), .ref (E.2.1 (b + 3)), .ref (E.2.1 (b + 4))]) := by rw [eC_23, va_up, if_neg (by omega)]; exact h_17
  have h_25 : C_22 (b + 1) = .inl (E.2.2.1 1, 240, .inl (upd (va_cpy zK zK (((tn T) - 1) * (8)) (((tn T) - 1) * (8) + 8) (8)) (((tn T) - 1) * (8) + 8 + j) k0)) := by rw [eC_23, va_up, if_neg (by omega)]; exact h_18
  have h_26 : C_22 (b + 2) = .inl (E.2.2.1 1, 240, .inl (upd (va_cpy zD zD (((tn T) - 1) * (8)) (((tn T) - 1) * (8) + 8) (8)) (((tn T) - 1) * (8) + 8 + j) d0)) := by rw [eC_23, va_up, if_pos rfl]
  have h_27 : C_22 (b + 3) = .inl (E.2.2.1 1, 24, .inl zS) := by rw [eC_23, va_up, if_neg (by omega)]; exact h_20
  have h_28 : C_22 (b + 4) = .inl (E.2.2.1 1, 192, .inl zV) := by rw [eC_23, va_up, if_neg (by omega)]; exact h_21
  refine y_aload_n X dX3_beginSeasonWith_70 2 rfl ?_
  refine y_dup X dX3_beginSeasonWith_71 rfl ?_
  refine y_get X (b) 3 0 (Cn := RX3) (T := TX3) (N := 6) (index := 9) (v := .int (nI (tn T))) dX3_beginSeasonWith_72 (by omega) h_24 rfl (by decide) inX3 (by decide +kernel : Cond.fieldLink RX3 9 "ColumnSeasons$Table" "seasons" "I" ∈ wsX3_beginSeasonWith) rfl rfl ?_
  refine y_iconst X (v := (1)) dX3_beginSeasonWith_75 (by decide) ?_
  refine y_iadd X (z := (nI (tn T + 1))) dX3_beginSeasonWith_76 (nI_add (tn T) (1)) ?_
  refine y_put X (b) 3 0 (Cn := RX3) (T := TX3) (N := 6) (index := 9) tyX3 (v := .int (nI (tn T + 1))) dX3_beginSeasonWith_77 (by omega) h_24 rfl (by decide) inX3 (by decide +kernel : Cond.fieldLink RX3 9 "ColumnSeasons$Table" "seasons" "I" ∈ wsX3_beginSeasonWith) rfl tyX3_ok nmX3 rfl rfl rfl (Nat.le_of_ble_eq_true rfl) ?_
  refine y_mem (va_up C_22 (b) (.inr (3, [.int (nI (tn T + 1)), .ref (E.2.1 (b + 1)), .ref (E.2.1 (b + 2)), .int (nI (tr T)), .ref (E.2.1 (b + 3)), .ref (E.2.1 (b + 4))]))) rfl (fun C_29 eC_30 => ?_)
  have h_31 : C_29 (b) = .inr (3, [.int (nI (tn T + 1)), .ref (E.2.1 (b + 1)), .ref (E.2.1 (b + 2)), .int (nI (tr T)), .ref (E.2.1 (b + 3)), .ref (E.2.1 (b + 4))]) := by rw [eC_30, va_up, if_pos rfl]
  have h_32 : C_29 (b + 1) = .inl (E.2.2.1 1, 240, .inl (upd (va_cpy zK zK (((tn T) - 1) * (8)) (((tn T) - 1) * (8) + 8) (8)) (((tn T) - 1) * (8) + 8 + j) k0)) := by rw [eC_30, va_up, if_neg (by omega)]; exact h_25
  have h_33 : C_29 (b + 2) = .inl (E.2.2.1 1, 240, .inl (upd (va_cpy zD zD (((tn T) - 1) * (8)) (((tn T) - 1) * (8) + 8) (8)) (((tn T) - 1) * (8) + 8 + j) d0)) := by rw [eC_30, va_up, if_neg (by omega)]; exact h_26
  have h_34 : C_29 (b + 3) = .inl (E.2.2.1 1, 24, .inl zS) := by rw [eC_30, va_up, if_neg (by omega)]; exact h_27
  have h_35 : C_29 (b + 4) = .inl (E.2.2.1 1, 192, .inl zV) := by rw [eC_30, va_up, if_neg (by omega)]; exact h_28
  refine y_aload_n X dX3_beginSeasonWith_80 2 rfl ?_
  refine y_callVr X (b) 3 (av := []) [] 0 (c_X3_now (b := b) (n := tn T + 1) (by omega) (by omega) h_31) (by omega) h_31 rfl gX3_beginSeasonWith_X3_now rfl (by decide +kernel) rfl ⟨Nat.le_of_ble_eq_true rfl, Nat.le_of_ble_eq_true rfl⟩ ⟨Nat.zero_le _, Nat.zero_le _⟩ (Nat.le_of_ble_eq_true rfl) rfl dX3_beginSeasonWith_81 ?_
  exact y_iret X hr dX3_beginSeasonWith_84 rfl ⟨rfl, ⟨_, _, _, _, h_31, h_32, h_33, h_34, h_35, bgnR ⟨gK, gD, gS, gV⟩ gw gj⟩, (fun i9 g9 => by rw [eC_30, va_up, if_neg (by omega)]; rw [eC_23, va_up, if_neg (by omega)]; rw [eC_16, va_up, if_neg (by omega)]; rw [eC_9, va_up, if_neg (by omega)]; rw [eC_2, va_up, if_neg (by omega)])⟩

set_option maxRecDepth 100000 in
set_option maxHeartbeats 4000000 in
theorem c_X3_addColumn {l : Launch} {E : xE} {C : xC} {b : Nat} {T : Tb} (gb : b + 4 < 61) (gT : RC E C b T) (gw : WB T) {x k0 d0 : Int32} : xM E l yX3_addColumn wsX3_addColumn 2 65 [.ref (E.2.1 (b)), .int x, .int k0, .int d0] C (fun v C1 => v = some (.int (sAdd T x k0 d0).1) ∧ RC E C1 b (sAdd T x k0 d0).2 ∧ (∀ i : Nat, (i < b ∨ b + 4 < i) → C1 i = C i)) := by
  obtain ⟨zK, zD, zS, zV, h0, h1, h2, h3, h4, gK, gD, gS, gV⟩ := id gT
  obtain ⟨gw1, gw2, gw3, gw4⟩ := id gw
  refine xM_ofY (cc := cX3_addColumn) (maxL := 4) (ret := (some .int)) (by decide) rfl (Nat.le_of_ble_eq_true rfl) ?_
  intro p e s m args below meth c X hr
  have inX3 : ∀ w ∈ wsX30, w ∈ wsX3_addColumn := by decide +kernel
  refine y_lv [(0, .ref (E.2.1 (b))), (1, .int x), (2, .int k0), (3, .int d0)] rfl ?_
  refine y_iload_n X dX3_addColumn_0 1 rfl ?_
  refine y_callNr X (av := [.int x]) [] 1 (c_X4_isName (x := x)) gX3_addColumn_X4_isName_n43 (by decide +kernel) (by decide +kernel) (by decide +kernel) rfl (by decide +kernel) rfl ⟨Nat.le_of_ble_eq_true rfl, Nat.le_of_ble_eq_true rfl⟩ ⟨Nat.zero_le _, Nat.zero_le _⟩ (Nat.le_of_ble_eq_true rfl) rfl dX3_addColumn_1 ?_
  refine y_if_ne X 11 (xin x 8) dX3_addColumn_4 (by decide) bI_ne (fun c_1 => ?_) (fun c_1 => ?_)
  ·
    obtain ⟨j, gj, gej⟩ := xin_of c_1 (by decide)
    subst gej
    refine y_iload_n X dX3_addColumn_11 2 rfl ?_
    refine y_callNr X (av := [.int k0]) [] 1 (c_X4_isKind (x := k0)) gX3_addColumn_X4_isKind_n47 (by decide +kernel) (by decide +kernel) (by decide +kernel) rfl (by decide +kernel) rfl ⟨Nat.le_of_ble_eq_true rfl, Nat.le_of_ble_eq_true rfl⟩ ⟨Nat.zero_le _, Nat.zero_le _⟩ (Nat.le_of_ble_eq_true rfl) rfl dX3_addColumn_12 ?_
    refine y_if_eq X 26 (¬ (xin k0 3)) dX3_addColumn_15 (by decide) bI_eq (fun c_2 => ?_) (fun c_2 => ?_)
    ·
      refine y_sipush X (v := (-10002)) dX3_addColumn_26 (by decide) ?_
      exact y_iret X hr dX3_addColumn_29 rfl (by have ez : sAdd T (nI j) k0 d0 = ((-10002), T) := (by rw [sAdd, if_pos c_1, if_neg (fun z => c_2 z.1)]); rw [ez]; exact ⟨rfl, gT, fun _ _ => rfl⟩)
    ·
      have c_2 := Decidable.of_not_not c_2
      refine y_iload_n X dX3_addColumn_18 3 rfl ?_
      refine y_iload_n X dX3_addColumn_19 2 rfl ?_
      refine y_callNr X (av := [.int d0, .int k0]) [] 2 (c_X4_isOfKind (x := d0) (y := k0)) gX3_addColumn_X4_isOfKind_n50 (by decide +kernel) (by decide +kernel) (by decide +kernel) rfl (by decide +kernel) rfl ⟨Nat.le_of_ble_eq_true rfl, Nat.le_of_ble_eq_true rfl⟩ ⟨Nat.zero_le _, Nat.zero_le _⟩ (Nat.le_of_ble_eq_true rfl) rfl dX3_addColumn_20 ?_
      refine y_if_ne X 30 (okv d0 k0) dX3_addColumn_23 (by decide) bI_ne (fun c_3 => ?_) (fun c_3 => ?_)
      ·
        refine y_aload_n X dX3_addColumn_30 0 rfl ?_
        refine y_aload_n X dX3_addColumn_31 0 rfl ?_
        refine y_callVr X (b) 3 (av := []) [.ref (E.2.1 (b))] 0 (c_X3_now (b := b) (n := tn T) (by omega) (by omega) h0) (by omega) h0 rfl gX3_addColumn_X3_now rfl (by decide +kernel) rfl ⟨Nat.le_of_ble_eq_true rfl, Nat.le_of_ble_eq_true rfl⟩ ⟨Nat.zero_le _, Nat.zero_le _⟩ (Nat.le_of_ble_eq_true rfl) rfl dX3_addColumn_32 ?_
        refine y_iload_n X dX3_addColumn_35 1 rfl ?_
        refine y_callVr X (b) 3 (av := [.int (nI ((tn T) - 1)), .int (nI (j))]) [] 2 (c_X3_kindIn (b := b) (by omega) gT gw (q := (tn T) - 1) (j := j) (by omega) (by omega)) (by omega) h0 rfl gX3_addColumn_X3_kindIn rfl (by decide +kernel) rfl ⟨Nat.le_of_ble_eq_true rfl, Nat.le_of_ble_eq_true rfl⟩ ⟨Nat.zero_le _, Nat.zero_le _⟩ (Nat.le_of_ble_eq_true rfl) rfl dX3_addColumn_36 ?_
        refine y_iconst X (v := (-1)) dX3_addColumn_39 (by decide) ?_
        refine y_icmp_eq X 47 ((tk T ((tn T) - 1) (j)) = (-1)) dX3_addColumn_40 (by decide) Iff.rfl (fun c_4 => ?_) (fun c_4 => ?_)
        ·
          refine y_aload_n X dX3_addColumn_47 0 rfl ?_
          refine y_get X (b) 3 0 (Cn := RX3) (T := TX3) (N := 6) (index := 9) (v := .int (nI (tn T))) dX3_addColumn_48 (by omega) h0 rfl (by decide) inX3 (by decide +kernel : Cond.fieldLink RX3 9 "ColumnSeasons$Table" "seasons" "I" ∈ wsX3_addColumn) rfl rfl ?_
          refine y_bipush X (v := (30)) dX3_addColumn_51 (by decide) ?_
          refine y_icmp_lt X 60 ((tn T) < (30)) dX3_addColumn_53 (by decide) (nI_ltI (a := tn T) (b := 30) (by omega) (by omega)) (fun c_5 => ?_) (fun c_5 => ?_)
          ·
            refine y_aload_n X dX3_addColumn_60 0 rfl ?_
            refine y_iload_n X dX3_addColumn_61 1 rfl ?_
            refine y_iload_n X dX3_addColumn_62 2 rfl ?_
            refine y_iload_n X dX3_addColumn_63 3 rfl ?_
            refine y_callV X (b) 3 (av := [.int (nI (j)), .int k0, .int d0]) [] 3 (c_X3_beginSeasonWith (b := b) (T := T) (j := j) (k0 := k0) (d0 := d0) (by omega) gT gw (by omega) (by omega)) (by omega) h0 rfl gX3_addColumn_X3_beginSeasonWith rfl (by decide +kernel) rfl ⟨Nat.le_of_ble_eq_true rfl, Nat.le_of_ble_eq_true rfl⟩ ⟨Nat.zero_le _, Nat.zero_le _⟩ (Nat.le_of_ble_eq_true rfl) rfl dX3_addColumn_64 (fun v_6 C_7 hp_8 => ?_)
            obtain ⟨gv, gR, gF⟩ := hp_8
            subst gv
            exact y_iret X hr dX3_addColumn_67 rfl (by have ez : sAdd T (nI j) k0 d0 = ((nI (tn T)), bgn T j k0 d0) := (by rw [sAdd, if_pos c_1, if_pos ⟨c_2, c_3⟩, ix_nI (by omega), if_pos c_4, if_pos c_5]); rw [ez]; exact ⟨rfl, gR, (fun i9 g9 => by rw [gF i9 g9])⟩)
          ·
            refine y_sipush X (v := (-10003)) dX3_addColumn_56 (by decide) ?_
            exact y_iret X hr dX3_addColumn_59 rfl (by have ez : sAdd T (nI j) k0 d0 = ((-10003), T) := (by rw [sAdd, if_pos c_1, if_pos ⟨c_2, c_3⟩, ix_nI (by omega), if_pos c_4, if_neg c_5]); rw [ez]; exact ⟨rfl, gT, fun _ _ => rfl⟩)
        ·
          refine y_sipush X (v := (-10004)) dX3_addColumn_43 (by decide) ?_
          exact y_iret X hr dX3_addColumn_46 rfl (by have ez : sAdd T (nI j) k0 d0 = ((-10004), T) := (by rw [sAdd, if_pos c_1, if_pos ⟨c_2, c_3⟩, ix_nI (by omega), if_neg c_4]); rw [ez]; exact ⟨rfl, gT, fun _ _ => rfl⟩)
      ·
        refine y_sipush X (v := (-10002)) dX3_addColumn_26 (by decide) ?_
        exact y_iret X hr dX3_addColumn_29 rfl (by have ez : sAdd T (nI j) k0 d0 = ((-10002), T) := (by rw [sAdd, if_pos c_1, if_neg (fun z => c_3 z.2)]); rw [ez]; exact ⟨rfl, gT, fun _ _ => rfl⟩)
  ·
    refine y_sipush X (v := (-10001)) dX3_addColumn_7 (by decide) ?_
    exact y_iret X hr dX3_addColumn_10 rfl (by have ez : sAdd T x k0 d0 = ((-10001), T) := (by rw [sAdd, if_neg c_1]); rw [ez]; exact ⟨rfl, gT, fun _ _ => rfl⟩)

set_option maxRecDepth 100000 in
set_option maxHeartbeats 4000000 in
theorem c_X3_dropColumn {l : Launch} {E : xE} {C : xC} {b : Nat} {T : Tb} (gb : b + 4 < 61) (gT : RC E C b T) (gw : WB T) {x : Int32} : xM E l yX3_dropColumn wsX3_dropColumn 2 65 [.ref (E.2.1 (b)), .int x] C (fun v C1 => v = some (.int (sDrop T x).1) ∧ RC E C1 b (sDrop T x).2 ∧ (∀ i : Nat, (i < b ∨ b + 4 < i) → C1 i = C i)) := by
  obtain ⟨zK, zD, zS, zV, h0, h1, h2, h3, h4, gK, gD, gS, gV⟩ := id gT
  obtain ⟨gw1, gw2, gw3, gw4⟩ := id gw
  refine xM_ofY (cc := cX3_dropColumn) (maxL := 2) (ret := (some .int)) (by decide) rfl (Nat.le_of_ble_eq_true rfl) ?_
  intro p e s m args below meth c X hr
  have inX3 : ∀ w ∈ wsX30, w ∈ wsX3_dropColumn := by decide +kernel
  refine y_lv [(0, .ref (E.2.1 (b))), (1, .int x)] rfl ?_
  refine y_iload_n X dX3_dropColumn_0 1 rfl ?_
  refine y_callNr X (av := [.int x]) [] 1 (c_X4_isName (x := x)) gX3_dropColumn_X4_isName_n43 (by decide +kernel) (by decide +kernel) (by decide +kernel) rfl (by decide +kernel) rfl ⟨Nat.le_of_ble_eq_true rfl, Nat.le_of_ble_eq_true rfl⟩ ⟨Nat.zero_le _, Nat.zero_le _⟩ (Nat.le_of_ble_eq_true rfl) rfl dX3_dropColumn_1 ?_
  refine y_if_eq X 20 (¬ (xin x 8)) dX3_dropColumn_4 (by decide) bI_eq (fun c_1 => ?_) (fun c_1 => ?_)
  ·
    refine y_sipush X (v := (-10001)) dX3_dropColumn_20 (by decide) ?_
    exact y_iret X hr dX3_dropColumn_23 rfl (by have ez : sDrop T x = ((-10001), T) := (by rw [sDrop, if_neg (fun z => c_1 z.1)]); rw [ez]; exact ⟨rfl, gT, fun _ _ => rfl⟩)
  ·
    have c_1 := Decidable.of_not_not c_1
    obtain ⟨j, gj, gej⟩ := xin_of c_1 (by decide)
    subst gej
    refine y_aload_n X dX3_dropColumn_7 0 rfl ?_
    refine y_aload_n X dX3_dropColumn_8 0 rfl ?_
    refine y_callVr X (b) 3 (av := []) [.ref (E.2.1 (b))] 0 (c_X3_now (b := b) (n := tn T) (by omega) (by omega) h0) (by omega) h0 rfl gX3_dropColumn_X3_now rfl (by decide +kernel) rfl ⟨Nat.le_of_ble_eq_true rfl, Nat.le_of_ble_eq_true rfl⟩ ⟨Nat.zero_le _, Nat.zero_le _⟩ (Nat.le_of_ble_eq_true rfl) rfl dX3_dropColumn_9 ?_
    refine y_iload_n X dX3_dropColumn_12 1 rfl ?_
    refine y_callVr X (b) 3 (av := [.int (nI ((tn T) - 1)), .int (nI (j))]) [] 2 (c_X3_kindIn (b := b) (by omega) gT gw (q := (tn T) - 1) (j := j) (by omega) (by omega)) (by omega) h0 rfl gX3_dropColumn_X3_kindIn rfl (by decide +kernel) rfl ⟨Nat.le_of_ble_eq_true rfl, Nat.le_of_ble_eq_true rfl⟩ ⟨Nat.zero_le _, Nat.zero_le _⟩ (Nat.le_of_ble_eq_true rfl) rfl dX3_dropColumn_13 ?_
    refine y_iconst X (v := (-1)) dX3_dropColumn_16 (by decide) ?_
    refine y_icmp_ne X 24 (¬ ((tk T ((tn T) - 1) (j)) = (-1))) dX3_dropColumn_17 (by decide) Iff.rfl (fun c_2 => ?_) (fun c_2 => ?_)
    ·
      refine y_aload_n X dX3_dropColumn_24 0 rfl ?_
      refine y_get X (b) 3 0 (Cn := RX3) (T := TX3) (N := 6) (index := 9) (v := .int (nI (tn T))) dX3_dropColumn_25 (by omega) h0 rfl (by decide) inX3 (by decide +kernel : Cond.fieldLink RX3 9 "ColumnSeasons$Table" "seasons" "I" ∈ wsX3_dropColumn) rfl rfl ?_
      refine y_bipush X (v := (30)) dX3_dropColumn_28 (by decide) ?_
      refine y_icmp_lt X 37 ((tn T) < (30)) dX3_dropColumn_30 (by decide) (nI_ltI (a := tn T) (b := 30) (by omega) (by omega)) (fun c_3 => ?_) (fun c_3 => ?_)
      ·
        refine y_aload_n X dX3_dropColumn_37 0 rfl ?_
        refine y_iload_n X dX3_dropColumn_38 1 rfl ?_
        refine y_iconst X (v := (-1)) dX3_dropColumn_39 (by decide) ?_
        refine y_iconst X (v := (0)) dX3_dropColumn_40 (by decide) ?_
        refine y_callV X (b) 3 (av := [.int (nI (j)), .int (-1), .int (0)]) [] 3 (c_X3_beginSeasonWith (b := b) (T := T) (j := j) (k0 := (-1)) (d0 := (0)) (by omega) gT gw (by omega) (by omega)) (by omega) h0 rfl gX3_dropColumn_X3_beginSeasonWith rfl (by decide +kernel) rfl ⟨Nat.le_of_ble_eq_true rfl, Nat.le_of_ble_eq_true rfl⟩ ⟨Nat.zero_le _, Nat.zero_le _⟩ (Nat.le_of_ble_eq_true rfl) rfl dX3_dropColumn_41 (fun v_4 C_5 hp_6 => ?_)
        obtain ⟨gv, gR, gF⟩ := hp_6
        subst gv
        exact y_iret X hr dX3_dropColumn_44 rfl (by have ez : sDrop T (nI j) = ((nI (tn T)), bgn T j (-1) 0) := (by rw [sDrop, if_pos ⟨c_1, by rw [ix_nI (by omega)]; exact c_2⟩, if_pos c_3, ix_nI (by omega)]); rw [ez]; exact ⟨rfl, gR, (fun i9 g9 => by rw [gF i9 g9])⟩)
      ·
        refine y_sipush X (v := (-10003)) dX3_dropColumn_33 (by decide) ?_
        exact y_iret X hr dX3_dropColumn_36 rfl (by have ez : sDrop T (nI j) = ((-10003), T) := (by rw [sDrop, if_pos ⟨c_1, by rw [ix_nI (by omega)]; exact c_2⟩, if_neg c_3]); rw [ez]; exact ⟨rfl, gT, fun _ _ => rfl⟩)
    ·
      have c_2 := Decidable.of_not_not c_2
      refine y_sipush X (v := (-10001)) dX3_dropColumn_20 (by decide) ?_
      exact y_iret X hr dX3_dropColumn_23 rfl (by have ez : sDrop T (nI j) = ((-10001), T) := (by rw [sDrop, if_neg (fun z => z.2 (by rw [ix_nI (by omega)]; exact c_2))]); rw [ez]; exact ⟨rfl, gT, fun _ _ => rfl⟩)

set_option maxRecDepth 100000 in
set_option maxHeartbeats 4000000 in
theorem c_X3_changeKind {l : Launch} {E : xE} {C : xC} {b : Nat} {T : Tb} (gb : b + 4 < 61) (gT : RC E C b T) (gw : WB T) {x k0 : Int32} : xM E l yX3_changeKind wsX3_changeKind 2 65 [.ref (E.2.1 (b)), .int x, .int k0] C (fun v C1 => v = some (.int (sKind T x k0).1) ∧ RC E C1 b (sKind T x k0).2 ∧ (∀ i : Nat, (i < b ∨ b + 4 < i) → C1 i = C i)) := by
  obtain ⟨zK, zD, zS, zV, h0, h1, h2, h3, h4, gK, gD, gS, gV⟩ := id gT
  obtain ⟨gw1, gw2, gw3, gw4⟩ := id gw
  refine xM_ofY (cc := cX3_changeKind) (maxL := 3) (ret := (some .int)) (by decide) rfl (Nat.le_of_ble_eq_true rfl) ?_
  intro p e s m args below meth c X hr
  have inX3 : ∀ w ∈ wsX30, w ∈ wsX3_changeKind := by decide +kernel
  refine y_lv [(0, .ref (E.2.1 (b))), (1, .int x), (2, .int k0)] rfl ?_
  refine y_iload_n X dX3_changeKind_0 1 rfl ?_
  refine y_callNr X (av := [.int x]) [] 1 (c_X4_isName (x := x)) gX3_changeKind_X4_isName_n43 (by decide +kernel) (by decide +kernel) (by decide +kernel) rfl (by decide +kernel) rfl ⟨Nat.le_of_ble_eq_true rfl, Nat.le_of_ble_eq_true rfl⟩ ⟨Nat.zero_le _, Nat.zero_le _⟩ (Nat.le_of_ble_eq_true rfl) rfl dX3_changeKind_1 ?_
  refine y_if_eq X 20 (¬ (xin x 8)) dX3_changeKind_4 (by decide) bI_eq (fun c_1 => ?_) (fun c_1 => ?_)
  ·
    refine y_sipush X (v := (-10001)) dX3_changeKind_20 (by decide) ?_
    exact y_iret X hr dX3_changeKind_23 rfl (by have ez : sKind T x k0 = ((-10001), T) := (by rw [sKind, if_neg (fun z => c_1 z.1)]); rw [ez]; exact ⟨rfl, gT, fun _ _ => rfl⟩)
  ·
    have c_1 := Decidable.of_not_not c_1
    obtain ⟨j, gj, gej⟩ := xin_of c_1 (by decide)
    subst gej
    refine y_aload_n X dX3_changeKind_7 0 rfl ?_
    refine y_aload_n X dX3_changeKind_8 0 rfl ?_
    refine y_callVr X (b) 3 (av := []) [.ref (E.2.1 (b))] 0 (c_X3_now (b := b) (n := tn T) (by omega) (by omega) h0) (by omega) h0 rfl gX3_changeKind_X3_now rfl (by decide +kernel) rfl ⟨Nat.le_of_ble_eq_true rfl, Nat.le_of_ble_eq_true rfl⟩ ⟨Nat.zero_le _, Nat.zero_le _⟩ (Nat.le_of_ble_eq_true rfl) rfl dX3_changeKind_9 ?_
    refine y_iload_n X dX3_changeKind_12 1 rfl ?_
    refine y_callVr X (b) 3 (av := [.int (nI ((tn T) - 1)), .int (nI (j))]) [] 2 (c_X3_kindIn (b := b) (by omega) gT gw (q := (tn T) - 1) (j := j) (by omega) (by omega)) (by omega) h0 rfl gX3_changeKind_X3_kindIn rfl (by decide +kernel) rfl ⟨Nat.le_of_ble_eq_true rfl, Nat.le_of_ble_eq_true rfl⟩ ⟨Nat.zero_le _, Nat.zero_le _⟩ (Nat.le_of_ble_eq_true rfl) rfl dX3_changeKind_13 ?_
    refine y_iconst X (v := (-1)) dX3_changeKind_16 (by decide) ?_
    refine y_icmp_ne X 24 (¬ ((tk T ((tn T) - 1) (j)) = (-1))) dX3_changeKind_17 (by decide) Iff.rfl (fun c_2 => ?_) (fun c_2 => ?_)
    ·
      refine y_iload_n X dX3_changeKind_24 2 rfl ?_
      refine y_callNr X (av := [.int k0]) [] 1 (c_X4_isKind (x := k0)) gX3_changeKind_X4_isKind_n47 (by decide +kernel) (by decide +kernel) (by decide +kernel) rfl (by decide +kernel) rfl ⟨Nat.le_of_ble_eq_true rfl, Nat.le_of_ble_eq_true rfl⟩ ⟨Nat.zero_le _, Nat.zero_le _⟩ (Nat.le_of_ble_eq_true rfl) rfl dX3_changeKind_25 ?_
      refine y_if_ne X 35 (xin k0 3) dX3_changeKind_28 (by decide) bI_ne (fun c_3 => ?_) (fun c_3 => ?_)
      ·
        refine y_aload_n X dX3_changeKind_35 0 rfl ?_
        refine y_get X (b) 3 0 (Cn := RX3) (T := TX3) (N := 6) (index := 9) (v := .int (nI (tn T))) dX3_changeKind_36 (by omega) h0 rfl (by decide) inX3 (by decide +kernel : Cond.fieldLink RX3 9 "ColumnSeasons$Table" "seasons" "I" ∈ wsX3_changeKind) rfl rfl ?_
        refine y_bipush X (v := (30)) dX3_changeKind_39 (by decide) ?_
        refine y_icmp_lt X 48 ((tn T) < (30)) dX3_changeKind_41 (by decide) (nI_ltI (a := tn T) (b := 30) (by omega) (by omega)) (fun c_4 => ?_) (fun c_4 => ?_)
        ·
          refine y_aload_n X dX3_changeKind_48 0 rfl ?_
          refine y_aload_n X dX3_changeKind_49 0 rfl ?_
          refine y_callVr X (b) 3 (av := []) [.ref (E.2.1 (b))] 0 (c_X3_now (b := b) (n := tn T) (by omega) (by omega) h0) (by omega) h0 rfl gX3_changeKind_X3_now rfl (by decide +kernel) rfl ⟨Nat.le_of_ble_eq_true rfl, Nat.le_of_ble_eq_true rfl⟩ ⟨Nat.zero_le _, Nat.zero_le _⟩ (Nat.le_of_ble_eq_true rfl) rfl dX3_changeKind_50 ?_
          refine y_iload_n X dX3_changeKind_53 1 rfl ?_
          refine y_callVr X (b) 3 (av := [.int (nI ((tn T) - 1)), .int (nI (j))]) [] 2 (c_X3_kindIn (b := b) (by omega) gT gw (q := (tn T) - 1) (j := j) (by omega) (by omega)) (by omega) h0 rfl gX3_changeKind_X3_kindIn rfl (by decide +kernel) rfl ⟨Nat.le_of_ble_eq_true rfl, Nat.le_of_ble_eq_true rfl⟩ ⟨Nat.zero_le _, Nat.zero_le _⟩ (Nat.le_of_ble_eq_true rfl) rfl dX3_changeKind_54 ?_
          refine y_iload_n X dX3_changeKind_57 2 rfl ?_
          refine y_icmp_ne X 65 (¬ ((tk T ((tn T) - 1) (j)) = k0)) dX3_changeKind_58 (by decide) Iff.rfl (fun c_5 => ?_) (fun c_5 => ?_)
          ·
            refine y_aload_n X dX3_changeKind_65 0 rfl ?_
            refine y_iload_n X dX3_changeKind_66 1 rfl ?_
            refine y_iload_n X dX3_changeKind_67 2 rfl ?_
            refine y_iload_n X dX3_changeKind_68 2 rfl ?_
            refine y_aload_n X dX3_changeKind_69 0 rfl ?_
            refine y_aload_n X dX3_changeKind_70 0 rfl ?_
            refine y_callVr X (b) 3 (av := []) [.ref (E.2.1 (b)), .int k0, .int k0, .int (nI (j)), .ref (E.2.1 (b))] 0 (c_X3_now (b := b) (n := tn T) (by omega) (by omega) h0) (by omega) h0 rfl gX3_changeKind_X3_now rfl (by decide +kernel) rfl ⟨Nat.le_of_ble_eq_true rfl, Nat.le_of_ble_eq_true rfl⟩ ⟨Nat.zero_le _, Nat.zero_le _⟩ (Nat.le_of_ble_eq_true rfl) rfl dX3_changeKind_71 ?_
            refine y_iload_n X dX3_changeKind_74 1 rfl ?_
            refine y_callVr X (b) 3 (av := [.int (nI ((tn T) - 1)), .int (nI (j))]) [.int k0, .int k0, .int (nI (j)), .ref (E.2.1 (b))] 2 (c_X3_standardIn (b := b) (by omega) gT gw (q := (tn T) - 1) (j := j) (by omega) (by omega)) (by omega) h0 rfl gX3_changeKind_X3_standardIn rfl (by decide +kernel) rfl ⟨Nat.le_of_ble_eq_true rfl, Nat.le_of_ble_eq_true rfl⟩ ⟨Nat.zero_le _, Nat.zero_le _⟩ (Nat.le_of_ble_eq_true rfl) rfl dX3_changeKind_75 ?_
            refine y_callNr X (av := [.int k0, .int (td T ((tn T) - 1) (j))]) [.int k0, .int (nI (j)), .ref (E.2.1 (b))] 2 (c_X4_castTo (x := k0) (y := (td T ((tn T) - 1) (j)))) gX3_changeKind_X4_castTo_n69 (by decide +kernel) (by decide +kernel) (by decide +kernel) rfl (by decide +kernel) rfl ⟨Nat.le_of_ble_eq_true rfl, Nat.le_of_ble_eq_true rfl⟩ ⟨Nat.zero_le _, Nat.zero_le _⟩ (Nat.le_of_ble_eq_true rfl) rfl dX3_changeKind_78 ?_
            refine y_callV X (b) 3 (av := [.int (nI (j)), .int k0, .int (cstC k0 (td T ((tn T) - 1) (j)))]) [] 3 (c_X3_beginSeasonWith (b := b) (T := T) (j := j) (k0 := k0) (d0 := (cstC k0 (td T ((tn T) - 1) (j)))) (by omega) gT gw (by omega) (by omega)) (by omega) h0 rfl gX3_changeKind_X3_beginSeasonWith rfl (by decide +kernel) rfl ⟨Nat.le_of_ble_eq_true rfl, Nat.le_of_ble_eq_true rfl⟩ ⟨Nat.zero_le _, Nat.zero_le _⟩ (Nat.le_of_ble_eq_true rfl) rfl dX3_changeKind_81 (fun v_6 C_7 hp_8 => ?_)
            obtain ⟨gv, gR, gF⟩ := hp_8
            subst gv
            exact y_iret X hr dX3_changeKind_84 rfl (by have ez : sKind T (nI j) k0 = ((nI (tn T)), bgn T j k0 (cstC k0 (td T (tn T - 1) j))) := (by rw [sKind, if_pos ⟨c_1, by rw [ix_nI (by omega)]; exact c_2⟩, if_pos c_3, if_pos c_4, ix_nI (by omega), if_neg c_5]); rw [ez]; exact ⟨rfl, gR, (fun i9 g9 => by rw [gF i9 g9])⟩)
          ·
            have c_5 := Decidable.of_not_not c_5
            refine y_sipush X (v := (-10005)) dX3_changeKind_61 (by decide) ?_
            exact y_iret X hr dX3_changeKind_64 rfl (by have ez : sKind T (nI j) k0 = ((-10005), T) := (by rw [sKind, if_pos ⟨c_1, by rw [ix_nI (by omega)]; exact c_2⟩, if_pos c_3, if_pos c_4, ix_nI (by omega), if_pos c_5]); rw [ez]; exact ⟨rfl, gT, fun _ _ => rfl⟩)
        ·
          refine y_sipush X (v := (-10003)) dX3_changeKind_44 (by decide) ?_
          exact y_iret X hr dX3_changeKind_47 rfl (by have ez : sKind T (nI j) k0 = ((-10003), T) := (by rw [sKind, if_pos ⟨c_1, by rw [ix_nI (by omega)]; exact c_2⟩, if_pos c_3, if_neg c_4]); rw [ez]; exact ⟨rfl, gT, fun _ _ => rfl⟩)
      ·
        refine y_sipush X (v := (-10002)) dX3_changeKind_31 (by decide) ?_
        exact y_iret X hr dX3_changeKind_34 rfl (by have ez : sKind T (nI j) k0 = ((-10002), T) := (by rw [sKind, if_pos ⟨c_1, by rw [ix_nI (by omega)]; exact c_2⟩, if_neg c_3]); rw [ez]; exact ⟨rfl, gT, fun _ _ => rfl⟩)
    ·
      have c_2 := Decidable.of_not_not c_2
      refine y_sipush X (v := (-10001)) dX3_changeKind_20 (by decide) ?_
      exact y_iret X hr dX3_changeKind_23 rfl (by have ez : sKind T (nI j) k0 = ((-10001), T) := (by rw [sKind, if_neg (fun z => z.2 (by rw [ix_nI (by omega)]; exact c_2))]); rw [ez]; exact ⟨rfl, gT, fun _ _ => rfl⟩)

set_option maxRecDepth 100000 in
set_option maxHeartbeats 4000000 in
theorem c_X3_writeRow {l : Launch} {E : xE} {C : xC} {b : Nat} {T : Tb} (gb : b + 4 < 61) (gT : RC E C b T) (gw : WB T) : xM E l yX3_writeRow wsX3_writeRow 1 40 [.ref (E.2.1 (b))] C (fun v C1 => v = some (.int (sRow T).1) ∧ RC E C1 b (sRow T).2 ∧ (∀ i : Nat, (i < b ∨ b + 4 < i) → C1 i = C i)) := by
  obtain ⟨zK, zD, zS, zV, h0, h1, h2, h3, h4, gK, gD, gS, gV⟩ := id gT
  obtain ⟨gw1, gw2, gw3, gw4⟩ := id gw
  refine xM_ofY (cc := cX3_writeRow) (maxL := 1) (ret := (some .int)) (by decide) rfl (Nat.le_of_ble_eq_true rfl) ?_
  intro p e s m args below meth c X hr
  have inX3 : ∀ w ∈ wsX30, w ∈ wsX3_writeRow := by decide +kernel
  refine y_lv [(0, .ref (E.2.1 (b)))] rfl ?_
  refine y_aload_n X dX3_writeRow_0 0 rfl ?_
  refine y_get X (b) 3 3 (Cn := RX3) (T := TX3) (N := 6) (index := 22) (v := .int (nI (tr T))) dX3_writeRow_1 (by omega) h0 rfl (by decide) inX3 (by decide +kernel : Cond.fieldLink RX3 22 "ColumnSeasons$Table" "rows" "I" ∈ wsX3_writeRow) rfl rfl ?_
  refine y_bipush X (v := (24)) dX3_writeRow_4 (by decide) ?_
  refine y_icmp_lt X 13 ((tr T) < (24)) dX3_writeRow_6 (by decide) (nI_ltI (a := tr T) (b := 24) (by omega) (by omega)) (fun c_1 => ?_) (fun c_1 => ?_)
  ·
    refine y_aload_n X dX3_writeRow_13 0 rfl ?_
    refine y_get X (b) 3 2 (Cn := RX3) (T := TX3) (N := 6) (index := 19) (v := .ref (E.2.1 (b + 2))) dX3_writeRow_14 (by omega) h0 rfl (by decide) inX3 (by decide +kernel : Cond.fieldLink RX3 19 "ColumnSeasons$Table" "standards" "[I" ∈ wsX3_writeRow) rfl rfl ?_
    refine y_aload_n X dX3_writeRow_17 0 rfl ?_
    refine y_callVr X (b) 3 (av := []) [.ref (E.2.1 (b + 2))] 0 (c_X3_now (b := b) (n := tn T) (by omega) (by omega) h0) (by omega) h0 rfl gX3_writeRow_X3_now rfl (by decide +kernel) rfl ⟨Nat.le_of_ble_eq_true rfl, Nat.le_of_ble_eq_true rfl⟩ ⟨Nat.zero_le _, Nat.zero_le _⟩ (Nat.le_of_ble_eq_true rfl) rfl dX3_writeRow_18 ?_
    refine y_bipush X (v := (8)) dX3_writeRow_21 (by decide) ?_
    refine y_imul X (z := (nI (((tn T) - 1) * (8)))) dX3_writeRow_23 (pk_mul ((tn T) - 1) (8)) ?_
    refine y_aload_n X dX3_writeRow_24 0 rfl ?_
    refine y_get X (b) 3 5 (Cn := RX3) (T := TX3) (N := 6) (index := 28) (v := .ref (E.2.1 (b + 4))) dX3_writeRow_25 (by omega) h0 rfl (by decide) inX3 (by decide +kernel : Cond.fieldLink RX3 28 "ColumnSeasons$Table" "values" "[I" ∈ wsX3_writeRow) rfl rfl ?_
    refine y_aload_n X dX3_writeRow_28 0 rfl ?_
    refine y_get X (b) 3 3 (Cn := RX3) (T := TX3) (N := 6) (index := 22) (v := .int (nI (tr T))) dX3_writeRow_29 (by omega) h0 rfl (by decide) inX3 (by decide +kernel : Cond.fieldLink RX3 22 "ColumnSeasons$Table" "rows" "I" ∈ wsX3_writeRow) rfl rfl ?_
    refine y_bipush X (v := (8)) dX3_writeRow_32 (by decide) ?_
    refine y_imul X (z := (nI ((tr T) * (8)))) dX3_writeRow_34 (pk_mul (tr T) (8)) ?_
    refine y_bipush X (v := (8)) dX3_writeRow_35 (by decide) ?_
    refine y_copyi X (b + 2) (b + 4) (sp := ((tn T) - 1) * (8)) (dp := (tr T) * (8)) (n := 8) dX3_writeRow_37 (by decide +kernel) (by decide +kernel) (by decide +kernel) (by decide +kernel) (by omega) (by omega) h2 h4 rfl rfl rfl (by omega) (by omega) (by omega) (by omega) (Nat.le_of_ble_eq_true rfl) (Nat.le_of_ble_eq_true rfl) ?_
    refine y_mem (va_up C (b + 4) (.inl (E.2.2.1 1, 192, .inl (va_cpy zD zV (((tn T) - 1) * (8)) ((tr T) * (8)) (8))))) rfl (fun C_2 eC_3 => ?_)
    have h_4 : C_2 (b) = .inr (3, [.int (nI (tn T)), .ref (E.2.1 (b + 1)), .ref (E.2.1 (b + 2)), .int (nI (tr T)), .ref (E.2.1 (b + 3)), .ref (E.2.1 (b + 4))]) := by rw [eC_3, va_up, if_neg (by omega)]; exact h0
    have h_5 : C_2 (b + 1) = .inl (E.2.2.1 1, 240, .inl zK) := by rw [eC_3, va_up, if_neg (by omega)]; exact h1
    have h_6 : C_2 (b + 2) = .inl (E.2.2.1 1, 240, .inl zD) := by rw [eC_3, va_up, if_neg (by omega)]; exact h2
    have h_7 : C_2 (b + 3) = .inl (E.2.2.1 1, 24, .inl zS) := by rw [eC_3, va_up, if_neg (by omega)]; exact h3
    have h_8 : C_2 (b + 4) = .inl (E.2.2.1 1, 192, .inl (va_cpy zD zV (((tn T) - 1) * (8)) ((tr T) * (8)) (8))) := by rw [eC_3, va_up, if_pos rfl]
    refine y_aload_n X dX3_writeRow_40 0 rfl ?_
    refine y_get X (b) 3 4 (Cn := RX3) (T := TX3) (N := 6) (index := 25) (v := .ref (E.2.1 (b + 3))) dX3_writeRow_41 (by omega) h_4 rfl (by decide) inX3 (by decide +kernel : Cond.fieldLink RX3 25 "ColumnSeasons$Table" "rowSeasons" "[I" ∈ wsX3_writeRow) rfl rfl ?_
    refine y_aload_n X dX3_writeRow_44 0 rfl ?_
    refine y_get X (b) 3 3 (Cn := RX3) (T := TX3) (N := 6) (index := 22) (v := .int (nI (tr T))) dX3_writeRow_45 (by omega) h_4 rfl (by decide) inX3 (by decide +kernel : Cond.fieldLink RX3 22 "ColumnSeasons$Table" "rows" "I" ∈ wsX3_writeRow) rfl rfl ?_
    refine y_aload_n X dX3_writeRow_48 0 rfl ?_
    refine y_callVr X (b) 3 (av := []) [.int (nI (tr T)), .ref (E.2.1 (b + 3))] 0 (c_X3_now (b := b) (n := tn T) (by omega) (by omega) h_4) (by omega) h_4 rfl gX3_writeRow_X3_now rfl (by decide +kernel) rfl ⟨Nat.le_of_ble_eq_true rfl, Nat.le_of_ble_eq_true rfl⟩ ⟨Nat.zero_le _, Nat.zero_le _⟩ (Nat.le_of_ble_eq_true rfl) rfl dX3_writeRow_49 ?_
    refine y_iast X (b + 3) dX3_writeRow_52 (by omega) h_7 (j := tr T) rfl (by omega) (by omega) ?_
    refine y_mem (va_up C_2 (b + 3) (.inl (E.2.2.1 1, 24, .inl (upd zS (tr T) (nI ((tn T) - 1)))))) rfl (fun C_9 eC_10 => ?_)
    have h_11 : C_9 (b) = .inr (3, [.int (nI (tn T)), .ref (E.2.1 (b + 1)), .ref (E.2.1 (b + 2)), .int (nI (tr T)), .ref (E.2.1 (b + 3)), .ref (E.2.1 (b + 4))]) := by rw [eC_10, va_up, if_neg (by omega)]; exact h_4
    have h_12 : C_9 (b + 1) = .inl (E.2.2.1 1, 240, .inl zK) := by rw [eC_10, va_up, if_neg (by omega)]; exact h_5
    have h_13 : C_9 (b + 2) = .inl (E.2.2.1 1, 240, .inl zD) := by rw [eC_10, va_up, if_neg (by omega)]; exact h_6
    have h_14 : C_9 (b + 3) = .inl (E.2.2.1 1, 24, .inl (upd zS (tr T) (nI ((tn T) - 1)))) := by rw [eC_10, va_up, if_pos rfl]
    have h_15 : C_9 (b + 4) = .inl (E.2.2.1 1, 192, .inl (va_cpy zD zV (((tn T) - 1) * (8)) ((tr T) * (8)) (8))) := by rw [eC_10, va_up, if_neg (by omega)]; exact h_8
    refine y_aload_n X dX3_writeRow_53 0 rfl ?_
    refine y_dup X dX3_writeRow_54 rfl ?_
    refine y_get X (b) 3 3 (Cn := RX3) (T := TX3) (N := 6) (index := 22) (v := .int (nI (tr T))) dX3_writeRow_55 (by omega) h_11 rfl (by decide) inX3 (by decide +kernel : Cond.fieldLink RX3 22 "ColumnSeasons$Table" "rows" "I" ∈ wsX3_writeRow) rfl rfl ?_
    refine y_iconst X (v := (1)) dX3_writeRow_58 (by decide) ?_
    refine y_iadd X (z := (nI (tr T + 1))) dX3_writeRow_59 (nI_add (tr T) (1)) ?_
    refine y_put X (b) 3 3 (Cn := RX3) (T := TX3) (N := 6) (index := 22) tyX3 (v := .int (nI (tr T + 1))) dX3_writeRow_60 (by omega) h_11 rfl (by decide) inX3 (by decide +kernel : Cond.fieldLink RX3 22 "ColumnSeasons$Table" "rows" "I" ∈ wsX3_writeRow) rfl tyX3_ok nmX3 rfl rfl rfl (Nat.le_of_ble_eq_true rfl) ?_
    refine y_mem (va_up C_9 (b) (.inr (3, [.int (nI (tn T)), .ref (E.2.1 (b + 1)), .ref (E.2.1 (b + 2)), .int (nI (tr T + 1)), .ref (E.2.1 (b + 3)), .ref (E.2.1 (b + 4))]))) rfl (fun C_16 eC_17 => ?_)
    have h_18 : C_16 (b) = .inr (3, [.int (nI (tn T)), .ref (E.2.1 (b + 1)), .ref (E.2.1 (b + 2)), .int (nI (tr T + 1)), .ref (E.2.1 (b + 3)), .ref (E.2.1 (b + 4))]) := by rw [eC_17, va_up, if_pos rfl]
    have h_19 : C_16 (b + 1) = .inl (E.2.2.1 1, 240, .inl zK) := by rw [eC_17, va_up, if_neg (by omega)]; exact h_12
    have h_20 : C_16 (b + 2) = .inl (E.2.2.1 1, 240, .inl zD) := by rw [eC_17, va_up, if_neg (by omega)]; exact h_13
    have h_21 : C_16 (b + 3) = .inl (E.2.2.1 1, 24, .inl (upd zS (tr T) (nI ((tn T) - 1)))) := by rw [eC_17, va_up, if_neg (by omega)]; exact h_14
    have h_22 : C_16 (b + 4) = .inl (E.2.2.1 1, 192, .inl (va_cpy zD zV (((tn T) - 1) * (8)) ((tr T) * (8)) (8))) := by rw [eC_17, va_up, if_neg (by omega)]; exact h_15
    refine y_aload_n X dX3_writeRow_63 0 rfl ?_
    refine y_get X (b) 3 3 (Cn := RX3) (T := TX3) (N := 6) (index := 22) (v := .int (nI (tr T + 1))) dX3_writeRow_64 (by omega) h_18 rfl (by decide) inX3 (by decide +kernel : Cond.fieldLink RX3 22 "ColumnSeasons$Table" "rows" "I" ∈ wsX3_writeRow) rfl rfl ?_
    refine y_iconst X (v := (1)) dX3_writeRow_67 (by decide) ?_
    refine y_isub X (z := (nI ((tr T + 1) - (1)))) dX3_writeRow_68 (pk_sub (a := tr T + 1) (b := 1) (by omega)) ?_
    exact y_iret X hr dX3_writeRow_69 rfl (by have ez : sRow T = (nI (tr T), wrt T) := (by rw [sRow, if_pos c_1]); rw [ez]; exact ⟨rfl, ⟨_, _, _, _, h_18, h_19, h_20, h_21, h_22, wrtR ⟨gK, gD, gS, gV⟩ gw⟩, (fun i9 g9 => by rw [eC_17, va_up, if_neg (by omega)]; rw [eC_10, va_up, if_neg (by omega)]; rw [eC_3, va_up, if_neg (by omega)])⟩)
  ·
    refine y_sipush X (v := (-10003)) dX3_writeRow_9 (by decide) ?_
    exact y_iret X hr dX3_writeRow_12 rfl (by have ez : sRow T = ((-10003), T) := (by rw [sRow, if_neg c_1]); rw [ez]; exact ⟨rfl, gT, fun _ _ => rfl⟩)

set_option maxRecDepth 100000 in
set_option maxHeartbeats 4000000 in
theorem c_X3_changeValue {l : Launch} {E : xE} {C : xC} {b : Nat} {T : Tb} (gb : b + 4 < 61) (gT : RC E C b T) (gw : WB T) {x y v0 : Int32} : xM E l yX3_changeValue wsX3_changeValue 2 44 [.ref (E.2.1 (b)), .int x, .int y, .int v0] C (fun v C1 => v = some (.int (sSet T x y v0).1) ∧ RC E C1 b (sSet T x y v0).2 ∧ (∀ i : Nat, (i < b ∨ b + 4 < i) → C1 i = C i)) := by
  obtain ⟨zK, zD, zS, zV, h0, h1, h2, h3, h4, gK, gD, gS, gV⟩ := id gT
  obtain ⟨gw1, gw2, gw3, gw4⟩ := id gw
  refine xM_ofY (cc := cX3_changeValue) (maxL := 5) (ret := (some .int)) (by decide) rfl (Nat.le_of_ble_eq_true rfl) ?_
  intro p e s m args below meth c X hr
  have inX3 : ∀ w ∈ wsX30, w ∈ wsX3_changeValue := by decide +kernel
  refine y_lv [(0, .ref (E.2.1 (b))), (1, .int x), (2, .int y), (3, .int v0)] rfl ?_
  refine y_aload_n X dX3_changeValue_0 0 rfl ?_
  refine y_iload_n X dX3_changeValue_1 1 rfl ?_
  refine y_callVr X (b) 3 (av := [.int x]) [] 1 (c_X3_isRow (b := b) (by omega) gT gw (x := x)) (by omega) h0 rfl gX3_changeValue_X3_isRow rfl (by decide +kernel) rfl ⟨Nat.le_of_ble_eq_true rfl, Nat.le_of_ble_eq_true rfl⟩ ⟨Nat.zero_le _, Nat.zero_le _⟩ (Nat.le_of_ble_eq_true rfl) rfl dX3_changeValue_2 ?_
  refine y_if_eq X 25 (¬ (xin x (tr T))) dX3_changeValue_5 (by decide) bI_eq (fun c_1 => ?_) (fun c_1 => ?_)
  ·
    refine y_sipush X (v := (-10001)) dX3_changeValue_25 (by decide) ?_
    exact y_iret X hr dX3_changeValue_28 rfl (by have ez : sSet T x y v0 = ((-10001), T) := (by rw [sSet, if_neg (fun z => c_1 z.1.1)]); rw [ez]; exact ⟨rfl, gT, fun _ _ => rfl⟩)
  ·
    have c_1 := Decidable.of_not_not c_1
    obtain ⟨i, gi, gei⟩ := xin_of c_1 (by omega)
    subst gei
    refine y_iload_n X dX3_changeValue_8 2 rfl ?_
    refine y_callNr X (av := [.int y]) [] 1 (c_X4_isName (x := y)) gX3_changeValue_X4_isName_n43 (by decide +kernel) (by decide +kernel) (by decide +kernel) rfl (by decide +kernel) rfl ⟨Nat.le_of_ble_eq_true rfl, Nat.le_of_ble_eq_true rfl⟩ ⟨Nat.zero_le _, Nat.zero_le _⟩ (Nat.le_of_ble_eq_true rfl) rfl dX3_changeValue_9 ?_
    refine y_if_eq X 25 (¬ (xin y 8)) dX3_changeValue_12 (by decide) bI_eq (fun c_2 => ?_) (fun c_2 => ?_)
    ·
      refine y_sipush X (v := (-10001)) dX3_changeValue_25 (by decide) ?_
      exact y_iret X hr dX3_changeValue_28 rfl (by have ez : sSet T (nI i) y v0 = ((-10001), T) := (by rw [sSet, if_neg (fun z => c_2 z.1.2)]); rw [ez]; exact ⟨rfl, gT, fun _ _ => rfl⟩)
    ·
      have c_2 := Decidable.of_not_not c_2
      obtain ⟨j, gj, gej⟩ := xin_of c_2 (by decide)
      subst gej
      refine y_aload_n X dX3_changeValue_15 0 rfl ?_
      refine y_iload_n X dX3_changeValue_16 1 rfl ?_
      refine y_iload_n X dX3_changeValue_17 2 rfl ?_
      refine y_callVr X (b) 3 (av := [.int (nI (i)), .int (nI (j))]) [] 2 (c_X3_kindInRow (b := b) (by omega) gT gw (i := i) (j := j) (by omega) (by omega)) (by omega) h0 rfl gX3_changeValue_X3_kindInRow rfl (by decide +kernel) rfl ⟨Nat.le_of_ble_eq_true rfl, Nat.le_of_ble_eq_true rfl⟩ ⟨Nat.zero_le _, Nat.zero_le _⟩ (Nat.le_of_ble_eq_true rfl) rfl dX3_changeValue_18 ?_
      refine y_iconst X (v := (-1)) dX3_changeValue_21 (by decide) ?_
      refine y_icmp_ne X 29 (¬ ((tk T (ts T (i)) (j)) = (-1))) dX3_changeValue_22 (by decide) Iff.rfl (fun c_3 => ?_) (fun c_3 => ?_)
      ·
        refine y_iload_n X dX3_changeValue_29 3 rfl ?_
        refine y_aload_n X dX3_changeValue_30 0 rfl ?_
        refine y_iload_n X dX3_changeValue_31 1 rfl ?_
        refine y_iload_n X dX3_changeValue_32 2 rfl ?_
        refine y_callVr X (b) 3 (av := [.int (nI (i)), .int (nI (j))]) [.int v0] 2 (c_X3_kindInRow (b := b) (by omega) gT gw (i := i) (j := j) (by omega) (by omega)) (by omega) h0 rfl gX3_changeValue_X3_kindInRow rfl (by decide +kernel) rfl ⟨Nat.le_of_ble_eq_true rfl, Nat.le_of_ble_eq_true rfl⟩ ⟨Nat.zero_le _, Nat.zero_le _⟩ (Nat.le_of_ble_eq_true rfl) rfl dX3_changeValue_33 ?_
        refine y_callNr X (av := [.int v0, .int (tk T (ts T (i)) (j))]) [] 2 (c_X4_isOfKind (x := v0) (y := (tk T (ts T (i)) (j)))) gX3_changeValue_X4_isOfKind_n50 (by decide +kernel) (by decide +kernel) (by decide +kernel) rfl (by decide +kernel) rfl ⟨Nat.le_of_ble_eq_true rfl, Nat.le_of_ble_eq_true rfl⟩ ⟨Nat.zero_le _, Nat.zero_le _⟩ (Nat.le_of_ble_eq_true rfl) rfl dX3_changeValue_36 ?_
        refine y_if_ne X 46 (okv v0 (tk T (ts T (i)) (j))) dX3_changeValue_39 (by decide) bI_ne (fun c_4 => ?_) (fun c_4 => ?_)
        ·
          refine y_aload_n X dX3_changeValue_46 0 rfl ?_
          refine y_iload_n X dX3_changeValue_47 1 rfl ?_
          refine y_iload_n X dX3_changeValue_48 2 rfl ?_
          refine y_callVr X (b) 3 (av := [.int (nI (i)), .int (nI (j))]) [] 2 (c_X3_valueAt (b := b) (by omega) gT gw (i := i) (j := j) (by omega) (by omega) (by assumption)) (by omega) h0 rfl gX3_changeValue_X3_valueAt rfl (by decide +kernel) rfl ⟨Nat.le_of_ble_eq_true rfl, Nat.le_of_ble_eq_true rfl⟩ ⟨Nat.zero_le _, Nat.zero_le _⟩ (Nat.le_of_ble_eq_true rfl) rfl dX3_changeValue_49 ?_
          refine y_istore X [(4, .int (tv T (i) (j))), (0, .ref (E.2.1 (b))), (1, .int (nI (i))), (2, .int (nI (j))), (3, .int v0)] dX3_changeValue_52 (by decide) rfl ?_
          refine y_iload X dX3_changeValue_54 0 rfl ?_
          refine y_iload_n X dX3_changeValue_56 4 rfl ?_
          refine y_icmp_ne X 64 (¬ ((tv T (i) (j)) = v0)) dX3_changeValue_57 (by decide) Iff.rfl (fun c_5 => ?_) (fun c_5 => ?_)
          ·
            refine y_aload_n X dX3_changeValue_64 1 rfl ?_
            refine y_get X (b) 3 5 (Cn := RX3) (T := TX3) (N := 6) (index := 28) (v := .ref (E.2.1 (b + 4))) dX3_changeValue_65 (by omega) h0 rfl (by decide) inX3 (by decide +kernel : Cond.fieldLink RX3 28 "ColumnSeasons$Table" "values" "[I" ∈ wsX3_changeValue) rfl rfl ?_
            refine y_iload_n X dX3_changeValue_68 2 rfl ?_
            refine y_bipush X (v := (8)) dX3_changeValue_69 (by decide) ?_
            refine y_imul X (z := (nI ((i) * (8)))) dX3_changeValue_71 (pk_mul (i) (8)) ?_
            refine y_iload_n X dX3_changeValue_72 3 rfl ?_
            refine y_iadd X (z := (nI ((i) * (8) + j))) dX3_changeValue_73 (nI_add ((i) * (8)) (j)) ?_
            refine y_iload_n X dX3_changeValue_74 4 rfl ?_
            refine y_iast X (b + 4) dX3_changeValue_75 (by omega) h4 (j := (i) * (8) + j) rfl (by omega) (by omega) ?_
            refine y_mem (va_up C (b + 4) (.inl (E.2.2.1 1, 192, .inl (upd zV ((i) * (8) + j) v0)))) rfl (fun C_6 eC_7 => ?_)
            have h_8 : C_6 (b) = .inr (3, [.int (nI (tn T)), .ref (E.2.1 (b + 1)), .ref (E.2.1 (b + 2)), .int (nI (tr T)), .ref (E.2.1 (b + 3)), .ref (E.2.1 (b + 4))]) := by rw [eC_7, va_up, if_neg (by omega)]; exact h0
            have h_9 : C_6 (b + 1) = .inl (E.2.2.1 1, 240, .inl zK) := by rw [eC_7, va_up, if_neg (by omega)]; exact h1
            have h_10 : C_6 (b + 2) = .inl (E.2.2.1 1, 240, .inl zD) := by rw [eC_7, va_up, if_neg (by omega)]; exact h2
            have h_11 : C_6 (b + 3) = .inl (E.2.2.1 1, 24, .inl zS) := by rw [eC_7, va_up, if_neg (by omega)]; exact h3
            have h_12 : C_6 (b + 4) = .inl (E.2.2.1 1, 192, .inl (upd zV ((i) * (8) + j) v0)) := by rw [eC_7, va_up, if_pos rfl]
            refine y_iload X dX3_changeValue_76 0 rfl ?_
            exact y_iret X hr dX3_changeValue_78 rfl (by have ez : sSet T (nI i) (nI j) v0 = (tv T i j, setv T i j v0) := (by rw [sSet, if_pos ⟨⟨c_1, c_2⟩, by rw [ix_nI (by omega), ix_nI (by omega)]; exact c_3⟩, ix_nI (by omega), ix_nI (by omega), if_pos c_4, if_neg c_5]); rw [ez]; exact ⟨rfl, ⟨_, _, _, _, h_8, h_9, h_10, h_11, h_12, setR ⟨gK, gD, gS, gV⟩ (by omega)⟩, (fun i9 g9 => by rw [eC_7, va_up, if_neg (by omega)])⟩)
          ·
            have c_5 := Decidable.of_not_not c_5
            refine y_sipush X (v := (-10005)) dX3_changeValue_60 (by decide) ?_
            exact y_iret X hr dX3_changeValue_63 rfl (by have ez : sSet T (nI i) (nI j) v0 = ((-10005), T) := (by rw [sSet, if_pos ⟨⟨c_1, c_2⟩, by rw [ix_nI (by omega), ix_nI (by omega)]; exact c_3⟩, ix_nI (by omega), ix_nI (by omega), if_pos c_4, if_pos c_5]); rw [ez]; exact ⟨rfl, gT, fun _ _ => rfl⟩)
        ·
          refine y_sipush X (v := (-10002)) dX3_changeValue_42 (by decide) ?_
          exact y_iret X hr dX3_changeValue_45 rfl (by have ez : sSet T (nI i) (nI j) v0 = ((-10002), T) := (by rw [sSet, if_pos ⟨⟨c_1, c_2⟩, by rw [ix_nI (by omega), ix_nI (by omega)]; exact c_3⟩, ix_nI (by omega), ix_nI (by omega), if_neg c_4]); rw [ez]; exact ⟨rfl, gT, fun _ _ => rfl⟩)
      ·
        have c_3 := Decidable.of_not_not c_3
        refine y_sipush X (v := (-10001)) dX3_changeValue_25 (by decide) ?_
        exact y_iret X hr dX3_changeValue_28 rfl (by have ez : sSet T (nI i) (nI j) v0 = ((-10001), T) := (by rw [sSet, if_neg (fun z => z.2 (by rw [ix_nI (by omega), ix_nI (by omega)]; exact c_3))]); rw [ez]; exact ⟨rfl, gT, fun _ _ => rfl⟩)

set_option maxRecDepth 100000 in
set_option maxHeartbeats 4000000 in
theorem c_X3_removeRow {l : Launch} {E : xE} {C : xC} {b : Nat} {T : Tb} (gb : b + 4 < 61) (gT : RC E C b T) (gw : WB T) {x : Int32} : xM E l yX3_removeRow wsX3_removeRow 1 40 [.ref (E.2.1 (b)), .int x] C (fun v C1 => v = some (.int (sRem T x).1) ∧ RC E C1 b (sRem T x).2 ∧ (∀ i : Nat, (i < b ∨ b + 4 < i) → C1 i = C i)) := by
  obtain ⟨zK, zD, zS, zV, h0, h1, h2, h3, h4, gK, gD, gS, gV⟩ := id gT
  obtain ⟨gw1, gw2, gw3, gw4⟩ := id gw
  refine xM_ofY (cc := cX3_removeRow) (maxL := 3) (ret := (some .int)) (by decide) rfl (Nat.le_of_ble_eq_true rfl) ?_
  intro p e s m args below meth c X hr
  have inX3 : ∀ w ∈ wsX30, w ∈ wsX3_removeRow := by decide +kernel
  refine y_lv [(0, .ref (E.2.1 (b))), (1, .int x)] rfl ?_
  refine y_aload_n X dX3_removeRow_0 0 rfl ?_
  refine y_iload_n X dX3_removeRow_1 1 rfl ?_
  refine y_callVr X (b) 3 (av := [.int x]) [] 1 (c_X3_isRow (b := b) (by omega) gT gw (x := x)) (by omega) h0 rfl gX3_removeRow_X3_isRow rfl (by decide +kernel) rfl ⟨Nat.le_of_ble_eq_true rfl, Nat.le_of_ble_eq_true rfl⟩ ⟨Nat.zero_le _, Nat.zero_le _⟩ (Nat.le_of_ble_eq_true rfl) rfl dX3_removeRow_2 ?_
  refine y_if_ne X 12 (xin x (tr T)) dX3_removeRow_5 (by decide) bI_ne (fun c_1 => ?_) (fun c_1 => ?_)
  ·
    obtain ⟨i, gi, gei⟩ := xin_of c_1 (by omega)
    subst gei
    refine y_aload_n X dX3_removeRow_12 0 rfl ?_
    refine y_get X (b) 3 3 (Cn := RX3) (T := TX3) (N := 6) (index := 22) (v := .int (nI (tr T))) dX3_removeRow_13 (by omega) h0 rfl (by decide) inX3 (by decide +kernel : Cond.fieldLink RX3 22 "ColumnSeasons$Table" "rows" "I" ∈ wsX3_removeRow) rfl rfl ?_
    refine y_iload_n X dX3_removeRow_16 1 rfl ?_
    refine y_isub X (z := (nI ((tr T) - (i)))) dX3_removeRow_17 (pk_sub (a := tr T) (b := i) (by omega)) ?_
    refine y_iconst X (v := (1)) dX3_removeRow_18 (by decide) ?_
    refine y_isub X (z := (nI (((tr T) - (i)) - (1)))) dX3_removeRow_19 (pk_sub (a := (tr T) - (i)) (b := 1) (by omega)) ?_
    refine y_istore_n X [(2, .int (nI (((tr T) - (i)) - (1)))), (0, .ref (E.2.1 (b))), (1, .int (nI (i)))] dX3_removeRow_20 rfl (by decide) rfl ?_
    refine y_aload_n X dX3_removeRow_21 1 rfl ?_
    refine y_get X (b) 3 4 (Cn := RX3) (T := TX3) (N := 6) (index := 25) (v := .ref (E.2.1 (b + 3))) dX3_removeRow_22 (by omega) h0 rfl (by decide) inX3 (by decide +kernel : Cond.fieldLink RX3 25 "ColumnSeasons$Table" "rowSeasons" "[I" ∈ wsX3_removeRow) rfl rfl ?_
    refine y_iload_n X dX3_removeRow_25 2 rfl ?_
    refine y_iconst X (v := (1)) dX3_removeRow_26 (by decide) ?_
    refine y_iadd X (z := (nI (i + 1))) dX3_removeRow_27 (nI_add (i) (1)) ?_
    refine y_aload_n X dX3_removeRow_28 1 rfl ?_
    refine y_get X (b) 3 4 (Cn := RX3) (T := TX3) (N := 6) (index := 25) (v := .ref (E.2.1 (b + 3))) dX3_removeRow_29 (by omega) h0 rfl (by decide) inX3 (by decide +kernel : Cond.fieldLink RX3 25 "ColumnSeasons$Table" "rowSeasons" "[I" ∈ wsX3_removeRow) rfl rfl ?_
    refine y_iload_n X dX3_removeRow_32 2 rfl ?_
    refine y_iload_n X dX3_removeRow_33 0 rfl ?_
    refine y_copyi X (b + 3) (b + 3) (sp := i + 1) (dp := i) (n := ((tr T) - (i)) - (1)) dX3_removeRow_34 (by decide +kernel) (by decide +kernel) (by decide +kernel) (by decide +kernel) (by omega) (by omega) h3 h3 rfl rfl rfl (by omega) (by omega) (by omega) (by omega) (Nat.le_of_ble_eq_true rfl) (Nat.le_of_ble_eq_true rfl) ?_
    refine y_mem (va_up C (b + 3) (.inl (E.2.2.1 1, 24, .inl (va_cpy zS zS (i + 1) (i) (((tr T) - (i)) - (1)))))) rfl (fun C_2 eC_3 => ?_)
    have h_4 : C_2 (b) = .inr (3, [.int (nI (tn T)), .ref (E.2.1 (b + 1)), .ref (E.2.1 (b + 2)), .int (nI (tr T)), .ref (E.2.1 (b + 3)), .ref (E.2.1 (b + 4))]) := by rw [eC_3, va_up, if_neg (by omega)]; exact h0
    have h_5 : C_2 (b + 1) = .inl (E.2.2.1 1, 240, .inl zK) := by rw [eC_3, va_up, if_neg (by omega)]; exact h1
    have h_6 : C_2 (b + 2) = .inl (E.2.2.1 1, 240, .inl zD) := by rw [eC_3, va_up, if_neg (by omega)]; exact h2
    have h_7 : C_2 (b + 3) = .inl (E.2.2.1 1, 24, .inl (va_cpy zS zS (i + 1) (i) (((tr T) - (i)) - (1)))) := by rw [eC_3, va_up, if_pos rfl]
    have h_8 : C_2 (b + 4) = .inl (E.2.2.1 1, 192, .inl zV) := by rw [eC_3, va_up, if_neg (by omega)]; exact h4
    refine y_aload_n X dX3_removeRow_37 1 rfl ?_
    refine y_get X (b) 3 5 (Cn := RX3) (T := TX3) (N := 6) (index := 28) (v := .ref (E.2.1 (b + 4))) dX3_removeRow_38 (by omega) h_4 rfl (by decide) inX3 (by decide +kernel : Cond.fieldLink RX3 28 "ColumnSeasons$Table" "values" "[I" ∈ wsX3_removeRow) rfl rfl ?_
    refine y_iload_n X dX3_removeRow_41 2 rfl ?_
    refine y_iconst X (v := (1)) dX3_removeRow_42 (by decide) ?_
    refine y_iadd X (z := (nI (i + 1))) dX3_removeRow_43 (nI_add (i) (1)) ?_
    refine y_bipush X (v := (8)) dX3_removeRow_44 (by decide) ?_
    refine y_imul X (z := (nI ((i + 1) * (8)))) dX3_removeRow_46 (pk_mul (i + 1) (8)) ?_
    refine y_aload_n X dX3_removeRow_47 1 rfl ?_
    refine y_get X (b) 3 5 (Cn := RX3) (T := TX3) (N := 6) (index := 28) (v := .ref (E.2.1 (b + 4))) dX3_removeRow_48 (by omega) h_4 rfl (by decide) inX3 (by decide +kernel : Cond.fieldLink RX3 28 "ColumnSeasons$Table" "values" "[I" ∈ wsX3_removeRow) rfl rfl ?_
    refine y_iload_n X dX3_removeRow_51 2 rfl ?_
    refine y_bipush X (v := (8)) dX3_removeRow_52 (by decide) ?_
    refine y_imul X (z := (nI ((i) * (8)))) dX3_removeRow_54 (pk_mul (i) (8)) ?_
    refine y_iload_n X dX3_removeRow_55 0 rfl ?_
    refine y_bipush X (v := (8)) dX3_removeRow_56 (by decide) ?_
    refine y_imul X (z := (nI ((((tr T) - (i)) - (1)) * (8)))) dX3_removeRow_58 (pk_mul (((tr T) - (i)) - (1)) (8)) ?_
    refine y_copyi X (b + 4) (b + 4) (sp := (i + 1) * (8)) (dp := (i) * (8)) (n := (((tr T) - (i)) - (1)) * (8)) dX3_removeRow_59 (by decide +kernel) (by decide +kernel) (by decide +kernel) (by decide +kernel) (by omega) (by omega) h_8 h_8 rfl rfl rfl (by omega) (by omega) (by omega) (by omega) (Nat.le_of_ble_eq_true rfl) (Nat.le_of_ble_eq_true rfl) ?_
    refine y_mem (va_up C_2 (b + 4) (.inl (E.2.2.1 1, 192, .inl (va_cpy zV zV ((i + 1) * (8)) ((i) * (8)) ((((tr T) - (i)) - (1)) * (8)))))) rfl (fun C_9 eC_10 => ?_)
    have h_11 : C_9 (b) = .inr (3, [.int (nI (tn T)), .ref (E.2.1 (b + 1)), .ref (E.2.1 (b + 2)), .int (nI (tr T)), .ref (E.2.1 (b + 3)), .ref (E.2.1 (b + 4))]) := by rw [eC_10, va_up, if_neg (by omega)]; exact h_4
    have h_12 : C_9 (b + 1) = .inl (E.2.2.1 1, 240, .inl zK) := by rw [eC_10, va_up, if_neg (by omega)]; exact h_5
    have h_13 : C_9 (b + 2) = .inl (E.2.2.1 1, 240, .inl zD) := by rw [eC_10, va_up, if_neg (by omega)]; exact h_6
    have h_14 : C_9 (b + 3) = .inl (E.2.2.1 1, 24, .inl (va_cpy zS zS (i + 1) (i) (((tr T) - (i)) - (1)))) := by rw [eC_10, va_up, if_neg (by omega)]; exact h_7
    have h_15 : C_9 (b + 4) = .inl (E.2.2.1 1, 192, .inl (va_cpy zV zV ((i + 1) * (8)) ((i) * (8)) ((((tr T) - (i)) - (1)) * (8)))) := by rw [eC_10, va_up, if_pos rfl]
    refine y_aload_n X dX3_removeRow_62 1 rfl ?_
    refine y_dup X dX3_removeRow_63 rfl ?_
    refine y_get X (b) 3 3 (Cn := RX3) (T := TX3) (N := 6) (index := 22) (v := .int (nI (tr T))) dX3_removeRow_64 (by omega) h_11 rfl (by decide) inX3 (by decide +kernel : Cond.fieldLink RX3 22 "ColumnSeasons$Table" "rows" "I" ∈ wsX3_removeRow) rfl rfl ?_
    refine y_iconst X (v := (1)) dX3_removeRow_67 (by decide) ?_
    refine y_isub X (z := (nI ((tr T) - (1)))) dX3_removeRow_68 (pk_sub (a := tr T) (b := 1) (by omega)) ?_
    refine y_put X (b) 3 3 (Cn := RX3) (T := TX3) (N := 6) (index := 22) tyX3 (v := .int (nI ((tr T) - (1)))) dX3_removeRow_69 (by omega) h_11 rfl (by decide) inX3 (by decide +kernel : Cond.fieldLink RX3 22 "ColumnSeasons$Table" "rows" "I" ∈ wsX3_removeRow) rfl tyX3_ok nmX3 rfl rfl rfl (Nat.le_of_ble_eq_true rfl) ?_
    refine y_mem (va_up C_9 (b) (.inr (3, [.int (nI (tn T)), .ref (E.2.1 (b + 1)), .ref (E.2.1 (b + 2)), .int (nI ((tr T) - (1))), .ref (E.2.1 (b + 3)), .ref (E.2.1 (b + 4))]))) rfl (fun C_16 eC_17 => ?_)
    have h_18 : C_16 (b) = .inr (3, [.int (nI (tn T)), .ref (E.2.1 (b + 1)), .ref (E.2.1 (b + 2)), .int (nI ((tr T) - (1))), .ref (E.2.1 (b + 3)), .ref (E.2.1 (b + 4))]) := by rw [eC_17, va_up, if_pos rfl]
    have h_19 : C_16 (b + 1) = .inl (E.2.2.1 1, 240, .inl zK) := by rw [eC_17, va_up, if_neg (by omega)]; exact h_12
    have h_20 : C_16 (b + 2) = .inl (E.2.2.1 1, 240, .inl zD) := by rw [eC_17, va_up, if_neg (by omega)]; exact h_13
    have h_21 : C_16 (b + 3) = .inl (E.2.2.1 1, 24, .inl (va_cpy zS zS (i + 1) (i) (((tr T) - (i)) - (1)))) := by rw [eC_17, va_up, if_neg (by omega)]; exact h_14
    have h_22 : C_16 (b + 4) = .inl (E.2.2.1 1, 192, .inl (va_cpy zV zV ((i + 1) * (8)) ((i) * (8)) ((((tr T) - (i)) - (1)) * (8)))) := by rw [eC_17, va_up, if_neg (by omega)]; exact h_15
    refine y_aload_n X dX3_removeRow_72 1 rfl ?_
    refine y_get X (b) 3 3 (Cn := RX3) (T := TX3) (N := 6) (index := 22) (v := .int (nI ((tr T) - (1)))) dX3_removeRow_73 (by omega) h_18 rfl (by decide) inX3 (by decide +kernel : Cond.fieldLink RX3 22 "ColumnSeasons$Table" "rows" "I" ∈ wsX3_removeRow) rfl rfl ?_
    exact y_iret X hr dX3_removeRow_76 rfl (by have ez : sRem T (nI i) = ((nI ((tr T) - (1))), rmv T i) := (by rw [sRem, if_pos c_1, ix_nI (by omega)]); rw [ez]; exact ⟨rfl, ⟨_, _, _, _, h_18, h_19, h_20, h_21, h_22, rmvR ⟨gK, gD, gS, gV⟩ gi⟩, (fun i9 g9 => by rw [eC_17, va_up, if_neg (by omega)]; rw [eC_10, va_up, if_neg (by omega)]; rw [eC_3, va_up, if_neg (by omega)])⟩)
  ·
    refine y_sipush X (v := (-10001)) dX3_removeRow_8 (by decide) ?_
    exact y_iret X hr dX3_removeRow_11 rfl (by have ez : sRem T x = ((-10001), T) := (by rw [sRem, if_neg c_1]); rw [ez]; exact ⟨rfl, gT, fun _ _ => rfl⟩)

set_option maxRecDepth 100000 in
set_option maxHeartbeats 4000000 in
theorem c_X3_dressRowInNow {l : Launch} {E : xE} {C : xC} {b : Nat} {T : Tb} (gb : b + 4 < 61) (gT : RC E C b T) (gw : WB T) {i : Nat} (gi : i < tr T) : xM E l yX3_dressRowInNow wsX3_dressRowInNow 3 67 [.ref (E.2.1 (b)), .int (nI (i))] C (fun v C1 => v = none ∧ RC E C1 b (dre T i) ∧ (∀ i : Nat, (i < b ∨ b + 4 < i) → C1 i = C i)) := by
  obtain ⟨zK, zD, zS, zV, h0, h1, h2, h3, h4, gK, gD, gS, gV⟩ := id gT
  obtain ⟨gw1, gw2, gw3, gw4⟩ := id gw
  refine xM_ofY (cc := cX3_dressRowInNow) (maxL := 3) (ret := none) (by decide) rfl (Nat.le_of_ble_eq_true rfl) ?_
  intro p e s m args below meth c X hr
  have inX3 : ∀ w ∈ wsX30, w ∈ wsX3_dressRowInNow := by decide +kernel
  refine y_lv [(0, .ref (E.2.1 (b))), (1, .int (nI (i)))] rfl ?_
  refine y_iconst X (v := (0)) dX3_dressRowInNow_0 (by decide) ?_
  refine y_istore_n X [(2, .int (0)), (0, .ref (E.2.1 (b))), (1, .int (nI (i)))] dX3_dressRowInNow_1 rfl (by decide) rfl ?_
  have L_2 : ∀ (n : Nat) (C2 : xC) (zV2 : Nat → Int32) (j : Nat), 8 - j < n → (C2 (b) = .inr (3, [.int (nI (tn T)), .ref (E.2.1 (b + 1)), .ref (E.2.1 (b + 2)), .int (nI (tr T)), .ref (E.2.1 (b + 3)), .ref (E.2.1 (b + 4))])) → (C2 (b + 1) = .inl (E.2.2.1 1, 240, .inl zK)) → (C2 (b + 2) = .inl (E.2.2.1 1, 240, .inl zD)) → (C2 (b + 3) = .inl (E.2.2.1 1, 24, .inl zS)) → (C2 (b + 4) = .inl (E.2.2.1 1, 192, .inl zV2)) → ((∀ i9 : Nat, (i9 < b ∨ b + 4 < i9) → C2 i9 = C i9)) → (∀ z : Nat, z < i * 8 ∨ i * 8 + 8 ≤ z → zV2 z = zV z) → (∀ j2 : Nat, j2 < j → ¬ tk T (tn T - 1) j2 = -1 → zV2 (i * 8 + j2) = rdC T (tn T - 1) i j2) → (∀ j2 : Nat, j ≤ j2 → j2 < 8 → zV2 (i * 8 + j2) = zV (i * 8 + j2)) → (j ≤ 8) → xY p l e ({ frames := 3, cells := 0, slots := 0, locals := 67 } : Room) s m args below meth c E (xA E) 3 0 0 (MQ below (xQ E (fun v C1 => v = none ∧ RC E C1 b (dre T i) ∧ (∀ i : Nat, (i < b ∨ b + 4 < i) → C1 i = C i))) args s 0 0 (xA E)) C2 2 [(0, .ref (E.2.1 (b))), (1, .int (nI (i))), (2, .int (nI (j)))] [] := by
    intro n2
    induction n2 with
    | zero => intro _ _ _ hm2; exact absurd hm2 (Nat.not_lt_zero _)
    | succ n2 ih2 =>
      intro C2 zV2 j hm2 k0 k1 k2 k3 k4 gF2 gA gB gC gj
      refine y_iload_n X dX3_dressRowInNow_2 2 rfl ?_
      refine y_bipush X (v := (8)) dX3_dressRowInNow_3 (by decide) ?_
      refine y_icmp_ge X 48 ((8) ≤ (j)) dX3_dressRowInNow_5 (by decide) (nI_leI (a := 8) (b := j) (by omega) (by omega)) (fun c_1 => ?_) (fun c_1 => ?_)
      ·
        refine y_aload_n X dX3_dressRowInNow_48 0 rfl ?_
        refine y_get X (b) 3 4 (Cn := RX3) (T := TX3) (N := 6) (index := 25) (v := .ref (E.2.1 (b + 3))) dX3_dressRowInNow_49 (by omega) k0 rfl (by decide) inX3 (by decide +kernel : Cond.fieldLink RX3 25 "ColumnSeasons$Table" "rowSeasons" "[I" ∈ wsX3_dressRowInNow) rfl rfl ?_
        refine y_iload_n X dX3_dressRowInNow_52 1 rfl ?_
        refine y_aload_n X dX3_dressRowInNow_53 0 rfl ?_
        refine y_callVr X (b) 3 (av := []) [.int (nI (i)), .ref (E.2.1 (b + 3))] 0 (c_X3_now (b := b) (n := tn T) (by omega) (by omega) k0) (by omega) k0 rfl gX3_dressRowInNow_X3_now rfl (by decide +kernel) rfl ⟨Nat.le_of_ble_eq_true rfl, Nat.le_of_ble_eq_true rfl⟩ ⟨Nat.zero_le _, Nat.zero_le _⟩ (Nat.le_of_ble_eq_true rfl) rfl dX3_dressRowInNow_54 ?_
        refine y_iast X (b + 3) dX3_dressRowInNow_57 (by omega) k3 (j := i) rfl (by omega) (by omega) ?_
        refine y_mem (va_up C2 (b + 3) (.inl (E.2.2.1 1, 24, .inl (upd zS (i) (nI ((tn T) - 1)))))) rfl (fun C_2 eC_3 => ?_)
        have h_4 : C_2 (b) = .inr (3, [.int (nI (tn T)), .ref (E.2.1 (b + 1)), .ref (E.2.1 (b + 2)), .int (nI (tr T)), .ref (E.2.1 (b + 3)), .ref (E.2.1 (b + 4))]) := by rw [eC_3, va_up, if_neg (by omega)]; exact k0
        have h_5 : C_2 (b + 1) = .inl (E.2.2.1 1, 240, .inl zK) := by rw [eC_3, va_up, if_neg (by omega)]; exact k1
        have h_6 : C_2 (b + 2) = .inl (E.2.2.1 1, 240, .inl zD) := by rw [eC_3, va_up, if_neg (by omega)]; exact k2
        have h_7 : C_2 (b + 3) = .inl (E.2.2.1 1, 24, .inl (upd zS (i) (nI ((tn T) - 1)))) := by rw [eC_3, va_up, if_pos rfl]
        have h_8 : C_2 (b + 4) = .inl (E.2.2.1 1, 192, .inl zV2) := by rw [eC_3, va_up, if_neg (by omega)]; exact k4
        exact y_vret X hr dX3_dressRowInNow_58 rfl ⟨rfl, ⟨_, _, _, _, h_4, h_5, h_6, h_7, h_8, dreR ⟨gK, gD, gS, gV⟩ gA (fun j2 q1 q2 => gB j2 (by omega) q2)⟩, (fun i9 g9 => by rw [eC_3, va_up, if_neg (by omega)]; rw [gF2 i9 g9])⟩
      ·
        have gT2 : RC E C2 b (wvT T zV2) := ⟨zK, zD, zS, zV2, k0, k1, k2, k3, k4, gK, gD, gS, fun _ _ _ _ _ => rfl⟩
        have gW2 : WB (wvT T zV2) := gw
        refine y_aload_n X dX3_dressRowInNow_8 0 rfl ?_
        refine y_aload_n X dX3_dressRowInNow_9 0 rfl ?_
        refine y_callVr X (b) 3 (av := []) [.ref (E.2.1 (b))] 0 (c_X3_now (b := b) (n := tn T) (by omega) (by omega) k0) (by omega) k0 rfl gX3_dressRowInNow_X3_now rfl (by decide +kernel) rfl ⟨Nat.le_of_ble_eq_true rfl, Nat.le_of_ble_eq_true rfl⟩ ⟨Nat.zero_le _, Nat.zero_le _⟩ (Nat.le_of_ble_eq_true rfl) rfl dX3_dressRowInNow_10 ?_
        refine y_iload_n X dX3_dressRowInNow_13 2 rfl ?_
        refine y_callVr X (b) 3 (av := [.int (nI ((tn T) - 1)), .int (nI (j))]) [] 2 (c_X3_kindIn (b := b) (T := wvT T zV2) (by omega) gT2 gW2 (q := (tn T) - 1) (j := j) (by show _ < tn T; omega) (by omega)) (by omega) k0 rfl gX3_dressRowInNow_X3_kindIn rfl (by decide +kernel) rfl ⟨Nat.le_of_ble_eq_true rfl, Nat.le_of_ble_eq_true rfl⟩ ⟨Nat.zero_le _, Nat.zero_le _⟩ (Nat.le_of_ble_eq_true rfl) rfl dX3_dressRowInNow_14 ?_
        refine y_iconst X (v := (-1)) dX3_dressRowInNow_17 (by decide) ?_
        refine y_icmp_eq X 42 ((tk T ((tn T) - 1) (j)) = (-1)) dX3_dressRowInNow_18 (by decide) Iff.rfl (fun c_9 => ?_) (fun c_9 => ?_)
        ·
          refine y_iinc X [(2, .int (nI (j + 1))), (0, .ref (E.2.1 (b))), (1, .int (nI (i)))] dX3_dressRowInNow_42 2 rfl (nI_1 _) (by decide) rfl ?_
          refine y_goto X 2 dX3_dressRowInNow_45 (by decide) ?_
          refine y_pick [1, 2, 0] [(0, .ref (E.2.1 (b))), (1, .int (nI (i))), (2, .int (nI (j + 1)))] rfl ?_
          exact ih2 (C2) (zV2) (j + 1) (by omega) k0 k1 k2 k3 k4 gF2 gA (fun j2 q1 q2 => by rcases Nat.lt_or_ge j2 j with q3 | q3; exact gB j2 q3 q2; exact absurd (by rw [show j2 = j by omega]; exact c_9) q2) (fun j2 q1 q2 => gC j2 (by omega) q2) (by omega)
        ·
          refine y_aload_n X dX3_dressRowInNow_21 0 rfl ?_
          refine y_get X (b) 3 5 (Cn := RX3) (T := TX3) (N := 6) (index := 28) (v := .ref (E.2.1 (b + 4))) dX3_dressRowInNow_22 (by omega) k0 rfl (by decide) inX3 (by decide +kernel : Cond.fieldLink RX3 28 "ColumnSeasons$Table" "values" "[I" ∈ wsX3_dressRowInNow) rfl rfl ?_
          refine y_iload_n X dX3_dressRowInNow_25 1 rfl ?_
          refine y_bipush X (v := (8)) dX3_dressRowInNow_26 (by decide) ?_
          refine y_imul X (z := (nI ((i) * (8)))) dX3_dressRowInNow_28 (pk_mul (i) (8)) ?_
          refine y_iload_n X dX3_dressRowInNow_29 2 rfl ?_
          refine y_iadd X (z := (nI ((i) * (8) + j))) dX3_dressRowInNow_30 (nI_add ((i) * (8)) (j)) ?_
          refine y_aload_n X dX3_dressRowInNow_31 0 rfl ?_
          refine y_aload_n X dX3_dressRowInNow_32 0 rfl ?_
          refine y_callVr X (b) 3 (av := []) [.ref (E.2.1 (b)), .int (nI ((i) * (8) + j)), .ref (E.2.1 (b + 4))] 0 (c_X3_now (b := b) (n := tn T) (by omega) (by omega) k0) (by omega) k0 rfl gX3_dressRowInNow_X3_now rfl (by decide +kernel) rfl ⟨Nat.le_of_ble_eq_true rfl, Nat.le_of_ble_eq_true rfl⟩ ⟨Nat.zero_le _, Nat.zero_le _⟩ (Nat.le_of_ble_eq_true rfl) rfl dX3_dressRowInNow_33 ?_
          refine y_iload_n X dX3_dressRowInNow_36 1 rfl ?_
          refine y_iload_n X dX3_dressRowInNow_37 2 rfl ?_
          refine y_callVr X (b) 3 (av := [.int (nI ((tn T) - 1)), .int (nI (i)), .int (nI (j))]) [.int (nI ((i) * (8) + j)), .ref (E.2.1 (b + 4))] 3 (c_X3_readIn (b := b) (T := wvT T zV2) (by omega) gT2 gW2 (q := (tn T) - 1) (i := i) (j := j) (by show _ < tn T; omega) (by show _ < tr T; omega) (by omega)) (by omega) k0 rfl gX3_dressRowInNow_X3_readIn rfl (by decide +kernel) rfl ⟨Nat.le_of_ble_eq_true rfl, Nat.le_of_ble_eq_true rfl⟩ ⟨Nat.zero_le _, Nat.zero_le _⟩ (Nat.le_of_ble_eq_true rfl) rfl dX3_dressRowInNow_38 ?_
          refine y_iast X (b + 4) dX3_dressRowInNow_41 (by omega) k4 (j := (i) * (8) + j) rfl (by omega) (by omega) ?_
          refine y_mem (va_up C2 (b + 4) (.inl (E.2.2.1 1, 192, .inl (upd zV2 ((i) * (8) + j) (rdC (wvT T zV2) ((tn T) - 1) (i) (j)))))) rfl (fun C_10 eC_11 => ?_)
          have h_12 : C_10 (b) = .inr (3, [.int (nI (tn T)), .ref (E.2.1 (b + 1)), .ref (E.2.1 (b + 2)), .int (nI (tr T)), .ref (E.2.1 (b + 3)), .ref (E.2.1 (b + 4))]) := by rw [eC_11, va_up, if_neg (by omega)]; exact k0
          have h_13 : C_10 (b + 1) = .inl (E.2.2.1 1, 240, .inl zK) := by rw [eC_11, va_up, if_neg (by omega)]; exact k1
          have h_14 : C_10 (b + 2) = .inl (E.2.2.1 1, 240, .inl zD) := by rw [eC_11, va_up, if_neg (by omega)]; exact k2
          have h_15 : C_10 (b + 3) = .inl (E.2.2.1 1, 24, .inl zS) := by rw [eC_11, va_up, if_neg (by omega)]; exact k3
          have h_16 : C_10 (b + 4) = .inl (E.2.2.1 1, 192, .inl (upd zV2 ((i) * (8) + j) (rdC (wvT T zV2) ((tn T) - 1) (i) (j)))) := by rw [eC_11, va_up, if_pos rfl]
          refine y_iinc X [(2, .int (nI (j + 1))), (0, .ref (E.2.1 (b))), (1, .int (nI (i)))] dX3_dressRowInNow_42 2 rfl (nI_1 _) (by decide) rfl ?_
          refine y_goto X 2 dX3_dressRowInNow_45 (by decide) ?_
          refine y_pick [1, 2, 0] [(0, .ref (E.2.1 (b))), (1, .int (nI (i))), (2, .int (nI (j + 1)))] rfl ?_
          exact ih2 (C_10) ((upd zV2 ((i) * (8) + j) (rdC (wvT T zV2) ((tn T) - 1) (i) (j)))) (j + 1) (by omega) h_12 h_13 h_14 h_15 h_16 (fun i9 g9 => by rw [eC_11, va_up, if_neg (by omega)]; rw [gF2 i9 g9]) (fun z q1 => by rw [pk_un (by omega)]; exact gA z q1) (fun j2 q1 q2 => by rcases Nat.lt_or_ge j2 j with q3 | q3; rw [pk_un (by omega)]; exact gB j2 q3 q2; rw [show j2 = j by omega, pk_us]; exact rdC_wv (fun q4 => by rw [gC j (Nat.le_refl _) (by omega)]; exact gV i j gi (by omega) q4)) (fun j2 q1 q2 => by rw [pk_un (by omega)]; exact gC j2 (by omega) q2) (by omega)
  refine y_pick [1, 2, 0] [(0, .ref (E.2.1 (b))), (1, .int (nI (i))), (2, .int (0))] rfl ?_
  exact L_2 _ (C) (zV) (0) (Nat.lt_succ_self _) h0 h1 h2 h3 h4 (fun _ _ => rfl) (fun _ _ => rfl) (fun _ q1 _ => absurd q1 (Nat.not_lt_zero _)) (fun _ _ _ => rfl) (by omega)

set_option maxRecDepth 100000 in
set_option maxHeartbeats 4000000 in
theorem c_X3_makeRowsOver {l : Launch} {E : xE} {C : xC} {b : Nat} {T : Tb} (gb : b + 4 < 61) (gT : RC E C b T) (gw : WB T) {x y : Int32} : xM E l yX3_makeRowsOver wsX3_makeRowsOver 4 89 [.ref (E.2.1 (b)), .int x, .int y] C (fun v C1 => v = some (.int (sMk T x y).1) ∧ RC E C1 b (sMk T x y).2 ∧ (∀ i : Nat, (i < b ∨ b + 4 < i) → C1 i = C i)) := by
  obtain ⟨zK, zD, zS, zV, h0, h1, h2, h3, h4, gK, gD, gS, gV⟩ := id gT
  obtain ⟨gw1, gw2, gw3, gw4⟩ := id gw
  refine xM_ofY (cc := cX3_makeRowsOver) (maxL := 6) (ret := (some .int)) (by decide) rfl (Nat.le_of_ble_eq_true rfl) ?_
  intro p e s m args below meth c X hr
  have inX3 : ∀ w ∈ wsX30, w ∈ wsX3_makeRowsOver := by decide +kernel
  refine y_lv [(0, .ref (E.2.1 (b))), (1, .int x), (2, .int y)] rfl ?_
  refine y_aload_n X dX3_makeRowsOver_0 0 rfl ?_
  refine y_iload_n X dX3_makeRowsOver_1 1 rfl ?_
  refine y_callVr X (b) 3 (av := [.int x]) [] 1 (c_X3_isRow (b := b) (by omega) gT gw (x := x)) (by omega) h0 rfl gX3_makeRowsOver_X3_isRow rfl (by decide +kernel) rfl ⟨Nat.le_of_ble_eq_true rfl, Nat.le_of_ble_eq_true rfl⟩ ⟨Nat.zero_le _, Nat.zero_le _⟩ (Nat.le_of_ble_eq_true rfl) rfl dX3_makeRowsOver_2 ?_
  refine y_if_eq X 16 (¬ (xin x (tr T))) dX3_makeRowsOver_5 (by decide) bI_eq (fun c_1 => ?_) (fun c_1 => ?_)
  ·
    refine y_sipush X (v := (-10001)) dX3_makeRowsOver_16 (by decide) ?_
    exact y_iret X hr dX3_makeRowsOver_19 rfl (by have ez : sMk T x y = ((-10001), T) := (by rw [sMk, if_neg (fun z => c_1 z.1)]); rw [ez]; exact ⟨rfl, gT, fun _ _ => rfl⟩)
  ·
    have c_1 := Decidable.of_not_not c_1
    obtain ⟨a, ga, gea⟩ := xin_of c_1 (by omega)
    subst gea
    refine y_aload_n X dX3_makeRowsOver_8 0 rfl ?_
    refine y_iload_n X dX3_makeRowsOver_9 2 rfl ?_
    refine y_callVr X (b) 3 (av := [.int y]) [] 1 (c_X3_isRow (b := b) (by omega) gT gw (x := y)) (by omega) h0 rfl gX3_makeRowsOver_X3_isRow rfl (by decide +kernel) rfl ⟨Nat.le_of_ble_eq_true rfl, Nat.le_of_ble_eq_true rfl⟩ ⟨Nat.zero_le _, Nat.zero_le _⟩ (Nat.le_of_ble_eq_true rfl) rfl dX3_makeRowsOver_10 ?_
    refine y_if_ne X 20 (xin y (tr T)) dX3_makeRowsOver_13 (by decide) bI_ne (fun c_2 => ?_) (fun c_2 => ?_)
    ·
      obtain ⟨b0, gb0, geb0⟩ := xin_of c_2 (by omega)
      subst geb0
      refine y_iload_n X dX3_makeRowsOver_20 2 rfl ?_
      refine y_iload_n X dX3_makeRowsOver_21 1 rfl ?_
      refine y_icmp_ge X 29 ((a) ≤ (b0)) dX3_makeRowsOver_22 (by decide) (nI_leI (a := a) (b := b0) (by omega) (by omega)) (fun c_3 => ?_) (fun c_3 => ?_)
      ·
        refine y_iconst X (v := (0)) dX3_makeRowsOver_29 (by decide) ?_
        refine y_istore_n X [(3, .int (0)), (0, .ref (E.2.1 (b))), (1, .int (nI (a))), (2, .int (nI (b0)))] dX3_makeRowsOver_30 rfl (by decide) rfl ?_
        refine y_iconst X (v := (0)) dX3_makeRowsOver_31 (by decide) ?_
        refine y_istore X [(4, .int (0)), (3, .int (0)), (0, .ref (E.2.1 (b))), (1, .int (nI (a))), (2, .int (nI (b0)))] dX3_makeRowsOver_32 (by decide) rfl ?_
        refine y_iload_n X dX3_makeRowsOver_34 3 rfl ?_
        refine y_istore X [(5, .int (nI (a))), (4, .int (0)), (3, .int (0)), (0, .ref (E.2.1 (b))), (1, .int (nI (a))), (2, .int (nI (b0)))] dX3_makeRowsOver_35 (by decide) rfl ?_
        have L_37 : ∀ (n : Nat) (C2 : xC) (x3 : Int32) (x4 : Int32) (k : Nat), b0 + 1 - a - k < n → (RC E C2 b (mkP T a k)) → ((∀ i9 : Nat, (i9 < b ∨ b + 4 < i9) → C2 i9 = C i9)) → (x3 = bI (¬ mkN T a k)) → (x4 = mkL T a k) → (k ≤ b0 + 1 - a) → xY p l e ({ frames := 4, cells := 0, slots := 0, locals := 89 } : Room) s m args below meth c E (xA E) 6 0 0 (MQ below (xQ E (fun v C1 => v = some (.int (sMk T (nI a) (nI b0)).1) ∧ RC E C1 b (sMk T (nI a) (nI b0)).2 ∧ (∀ i : Nat, (i < b ∨ b + 4 < i) → C1 i = C i))) args s 0 0 (xA E)) C2 37 [(0, .ref (E.2.1 (b))), (1, .int (nI (a))), (2, .int (nI (b0))), (3, .int x3), (4, .int x4), (5, .int (nI (a + k)))] [] := by
          intro n37
          induction n37 with
          | zero => intro _ _ _ _ hm37; exact absurd hm37 (Nat.not_lt_zero _)
          | succ n37 ih37 =>
            intro C2 x3 x4 k hm37 gR2 gF2 gf gx gk
            refine y_iload X dX3_makeRowsOver_37 5 rfl ?_
            refine y_iload_n X dX3_makeRowsOver_39 2 rfl ?_
            refine y_icmp_gt X 86 ((b0) < (a + k)) dX3_makeRowsOver_40 (by decide) (nI_ltI (a := b0) (b := a + k) (by omega) (by omega)) (fun c_4 => ?_) (fun c_4 => ?_)
            ·
              have gk8 : k = b0 + 1 - a := by omega
              refine y_iload_n X dX3_makeRowsOver_86 3 rfl ?_
              refine y_if_eq X 95 (mkN T a (b0 + 1 - a)) dX3_makeRowsOver_87 (by decide) (by rw [gf, gk8]; exact bI_eq.trans Decidable.not_not) (fun c_5 => ?_) (fun c_5 => ?_)
              ·
                refine y_sipush X (v := (-10005)) dX3_makeRowsOver_95 (by decide) ?_
                exact y_iret X hr dX3_makeRowsOver_98 rfl (by have ez : sMk T (nI a) (nI b0) = (-10005, T) := (by rw [sMk, if_pos ⟨c_1, c_2⟩, ix_nI (by omega), ix_nI (by omega), if_neg (by omega), if_pos c_5]); rw [ez]; exact ⟨rfl, mkP_all gk8 c_5 gR2, gF2⟩)
              ·
                refine y_iload X dX3_makeRowsOver_90 4 rfl ?_
                refine y_goto X 98 dX3_makeRowsOver_92 (by decide) ?_
                exact y_iret X hr dX3_makeRowsOver_98 rfl (by have ez : sMk T (nI a) (nI b0) = (mkL T a (b0 + 1 - a), mkP T a (b0 + 1 - a)) := (by rw [sMk, if_pos ⟨c_1, c_2⟩, ix_nI (by omega), ix_nI (by omega), if_neg (by omega), if_neg c_5]); rw [ez]; exact ⟨by rw [gx, gk8], by rw [← gk8]; exact gR2, gF2⟩)
            ·
              obtain ⟨zK2, zD2, zS2, zV2, k0, k1, k2, k3, k4, gK2, gD2, gS2, gV2⟩ := id gR2
              obtain ⟨o1, o2, o3, o4, o5⟩ := mkP_out (T := T) (a := a) k
              have gW2 := mkP_WB (a := a) gw k
              rw [o1, o2] at k0
              refine y_aload_n X dX3_makeRowsOver_43 0 rfl ?_
              refine y_get X (b) 3 4 (Cn := RX3) (T := TX3) (N := 6) (index := 25) (v := .ref (E.2.1 (b + 3))) dX3_makeRowsOver_44 (by omega) k0 rfl (by decide) inX3 (by decide +kernel : Cond.fieldLink RX3 25 "ColumnSeasons$Table" "rowSeasons" "[I" ∈ wsX3_makeRowsOver) rfl rfl ?_
              refine y_iload X dX3_makeRowsOver_47 5 rfl ?_
              have gts := gw4 (a + k) (by omega)
              refine y_iald X (b + 3) dX3_makeRowsOver_49 (by omega) k3 (j := a + k) rfl (by omega) (by omega) (z := (nI (ts T (a + k)))) (by rw [gS2 _ (by omega), (o5 _ (by omega)).1]) ?_
              refine y_aload_n X dX3_makeRowsOver_50 0 rfl ?_
              refine y_callVr X (b) 3 (av := []) [.int (nI (ts T (a + k)))] 0 (c_X3_now (b := b) (n := tn T) (by omega) (by omega) k0) (by omega) k0 rfl gX3_makeRowsOver_X3_now rfl (by decide +kernel) rfl ⟨Nat.le_of_ble_eq_true rfl, Nat.le_of_ble_eq_true rfl⟩ ⟨Nat.zero_le _, Nat.zero_le _⟩ (Nat.le_of_ble_eq_true rfl) rfl dX3_makeRowsOver_51 ?_
              refine y_icmp_eq X 80 ((ts T (a + k)) = ((tn T) - 1)) dX3_makeRowsOver_54 (by decide) (nI_eq (a := ts T (a + k)) (b := (tn T) - 1) (by omega) (by omega)) (fun c_6 => ?_) (fun c_6 => ?_)
              ·
                refine y_iinc X [(5, .int (nI (a + k + 1))), (0, .ref (E.2.1 (b))), (1, .int (nI (a))), (2, .int (nI (b0))), (3, .int x3), (4, .int x4)] dX3_makeRowsOver_80 5 rfl (nI_1 _) (by decide) rfl ?_
                refine y_goto X 37 dX3_makeRowsOver_83 (by decide) ?_
                refine y_pick [1, 2, 3, 4, 5, 0] [(0, .ref (E.2.1 (b))), (1, .int (nI (a))), (2, .int (nI (b0))), (3, .int x3), (4, .int x4), (5, .int (nI (a + k + 1)))] rfl ?_
                exact ih37 (C2) (x3) (x4) (k + 1) (by omega) (by rw [mkP, if_pos c_6]; exact gR2) gF2 (by rw [gf]; exact bI_congr (not_congr ⟨fun z k9 q9 => by rcases Nat.lt_or_ge k9 k with q3 | q3; exact z k9 q3; rw [show k9 = k by omega]; exact c_6, fun z k9 q9 => z k9 (by omega)⟩)) (by rw [gx]; show _ = sm _ _ + (if _ then _ else _); rw [if_pos c_6, Int32.add_zero]; rfl) (by omega)
              ·
                refine y_iconst X (v := (1)) dX3_makeRowsOver_57 (by decide) ?_
                refine y_istore_n X [(3, .int (1)), (0, .ref (E.2.1 (b))), (1, .int (nI (a))), (2, .int (nI (b0))), (4, .int x4), (5, .int (nI (a + k)))] dX3_makeRowsOver_58 rfl (by decide) rfl ?_
                refine y_iload X dX3_makeRowsOver_59 4 rfl ?_
                refine y_aload_n X dX3_makeRowsOver_61 1 rfl ?_
                refine y_aload_n X dX3_makeRowsOver_62 1 rfl ?_
                refine y_callVr X (b) 3 (av := []) [.ref (E.2.1 (b)), .int x4] 0 (c_X3_now (b := b) (n := tn T) (by omega) (by omega) k0) (by omega) k0 rfl gX3_makeRowsOver_X3_now rfl (by decide +kernel) rfl ⟨Nat.le_of_ble_eq_true rfl, Nat.le_of_ble_eq_true rfl⟩ ⟨Nat.zero_le _, Nat.zero_le _⟩ (Nat.le_of_ble_eq_true rfl) rfl dX3_makeRowsOver_63 ?_
                refine y_iload X dX3_makeRowsOver_66 5 rfl ?_
                refine y_callVr X (b) 3 (av := [.int (nI ((tn T) - 1)), .int (nI (a + k))]) [.int x4] 2 (c_X3_lossesOfRowIn (b := b) (T := mkP T a k) (by omega) gR2 gW2 (q := (tn T) - 1) (i := a + k) (by omega) (by omega)) (by omega) k0 rfl gX3_makeRowsOver_X3_lossesOfRowIn rfl (by decide +kernel) rfl ⟨Nat.le_of_ble_eq_true rfl, Nat.le_of_ble_eq_true rfl⟩ ⟨Nat.zero_le _, Nat.zero_le _⟩ (Nat.le_of_ble_eq_true rfl) rfl dX3_makeRowsOver_68 ?_
                refine y_iadd X (z := (x4 + (lsR (mkP T a k) ((tn T) - 1) (a + k)))) dX3_makeRowsOver_71 rfl ?_
                refine y_istore X [(4, .int (x4 + (lsR (mkP T a k) ((tn T) - 1) (a + k)))), (3, .int (1)), (0, .ref (E.2.1 (b))), (1, .int (nI (a))), (2, .int (nI (b0))), (5, .int (nI (a + k)))] dX3_makeRowsOver_72 (by decide) rfl ?_
                refine y_aload_n X dX3_makeRowsOver_74 2 rfl ?_
                refine y_iload X dX3_makeRowsOver_75 5 rfl ?_
                refine y_callV X (b) 3 (av := [.int (nI (a + k))]) [] 1 (c_X3_dressRowInNow (b := b) (T := mkP T a k) (i := a + k) (by omega) gR2 gW2 (by omega)) (by omega) k0 rfl gX3_makeRowsOver_X3_dressRowInNow rfl (by decide +kernel) rfl ⟨Nat.le_of_ble_eq_true rfl, Nat.le_of_ble_eq_true rfl⟩ ⟨Nat.zero_le _, Nat.zero_le _⟩ (Nat.le_of_ble_eq_true rfl) rfl dX3_makeRowsOver_77 (fun v_7 C_8 hp_9 => ?_)
                obtain ⟨gv, gR3, gF3⟩ := hp_9
                subst gv
                refine y_iinc X [(5, .int (nI (a + k + 1))), (4, .int (x4 + (lsR (mkP T a k) ((tn T) - 1) (a + k)))), (3, .int (1)), (0, .ref (E.2.1 (b))), (1, .int (nI (a))), (2, .int (nI (b0)))] dX3_makeRowsOver_80 5 rfl (nI_1 _) (by decide) rfl ?_
                refine y_goto X 37 dX3_makeRowsOver_83 (by decide) ?_
                refine y_pick [3, 4, 5, 2, 1, 0] [(0, .ref (E.2.1 (b))), (1, .int (nI (a))), (2, .int (nI (b0))), (3, .int (1)), (4, .int (x4 + (lsR (mkP T a k) ((tn T) - 1) (a + k)))), (5, .int (nI (a + k + 1)))] rfl ?_
                exact ih37 (C_8) ((1)) ((x4 + (lsR (mkP T a k) ((tn T) - 1) (a + k)))) (k + 1) (by omega) (by rw [mkP, if_neg c_6]; exact gR3) (fun i9 g9 => by rw [gF3 i9 g9]; rw [gF2 i9 g9]) (bI_1 (P := ¬ mkN T a (k + 1)) (fun z => c_6 (z k (by omega)))).symm (by rw [gx, lsR_mkP]; show _ = sm _ _ + (if _ then _ else _); rw [if_neg c_6]; rfl) (by omega)
        refine y_pick [3, 4, 5, 2, 1, 0] [(0, .ref (E.2.1 (b))), (1, .int (nI (a))), (2, .int (nI (b0))), (3, .int (0)), (4, .int (0)), (5, .int (nI (a)))] rfl ?_
        exact L_37 _ (C) (0) (0) (0) (Nat.lt_succ_self _) gT (fun _ _ => rfl) (bI_0 (P := ¬ mkN T a 0) (fun z => z (fun _ q => absurd q (Nat.not_lt_zero _)))).symm rfl (by omega)
      ·
        refine y_sipush X (v := (-10002)) dX3_makeRowsOver_25 (by decide) ?_
        exact y_iret X hr dX3_makeRowsOver_28 rfl (by have ez : sMk T (nI a) (nI b0) = ((-10002), T) := (by rw [sMk, if_pos ⟨c_1, c_2⟩, ix_nI (by omega), ix_nI (by omega), if_pos (by omega)]); rw [ez]; exact ⟨rfl, gT, fun _ _ => rfl⟩)
    ·
      refine y_sipush X (v := (-10001)) dX3_makeRowsOver_16 (by decide) ?_
      exact y_iret X hr dX3_makeRowsOver_19 rfl (by have ez : sMk T (nI a) y = ((-10001), T) := (by rw [sMk, if_neg (fun z => c_2 z.2)]); rw [ez]; exact ⟨rfl, gT, fun _ _ => rfl⟩)

set_option maxRecDepth 100000 in
set_option maxHeartbeats 4000000 in
theorem c_X3_forgetSeasons {l : Launch} {E : xE} {C : xC} {b : Nat} {T : Tb} (gb : b + 4 < 61) (gT : RC E C b T) (gw : WB T) : xM E l yX3_forgetSeasons wsX3_forgetSeasons 1 40 [.ref (E.2.1 (b))] C (fun v C1 => v = some (.int (sFor T).1) ∧ RC E C1 b (sFor T).2 ∧ (∀ i : Nat, (i < b ∨ b + 4 < i) → C1 i = C i)) := by
  obtain ⟨zK, zD, zS, zV, h0, h1, h2, h3, h4, gK, gD, gS, gV⟩ := id gT
  obtain ⟨gw1, gw2, gw3, gw4⟩ := id gw
  refine xM_ofY (cc := cX3_forgetSeasons) (maxL := 3) (ret := (some .int)) (by decide) rfl (Nat.le_of_ble_eq_true rfl) ?_
  intro p e s m args below meth c X hr
  have inX3 : ∀ w ∈ wsX30, w ∈ wsX3_forgetSeasons := by decide +kernel
  refine y_lv [(0, .ref (E.2.1 (b)))] rfl ?_
  refine y_aload_n X dX3_forgetSeasons_0 0 rfl ?_
  refine y_callVr X (b) 3 (av := []) [] 0 (c_X3_now (b := b) (n := tn T) (by omega) (by omega) h0) (by omega) h0 rfl gX3_forgetSeasons_X3_now rfl (by decide +kernel) rfl ⟨Nat.le_of_ble_eq_true rfl, Nat.le_of_ble_eq_true rfl⟩ ⟨Nat.zero_le _, Nat.zero_le _⟩ (Nat.le_of_ble_eq_true rfl) rfl dX3_forgetSeasons_1 ?_
  refine y_istore_n X [(1, .int (nI ((tn T) - 1))), (0, .ref (E.2.1 (b)))] dX3_forgetSeasons_4 rfl (by decide) rfl ?_
  refine y_iconst X (v := (0)) dX3_forgetSeasons_5 (by decide) ?_
  refine y_istore_n X [(2, .int (0)), (1, .int (nI ((tn T) - 1))), (0, .ref (E.2.1 (b)))] dX3_forgetSeasons_6 rfl (by decide) rfl ?_
  have L_7 : ∀ (n : Nat) (y1 : Nat) (k : Nat), tr T - k < n → (y1 = fgF T k) → (k ≤ tr T) → xY p l e ({ frames := 1, cells := 0, slots := 0, locals := 40 } : Room) s m args below meth c E (xA E) 3 0 0 (MQ below (xQ E (fun v C1 => v = some (.int (sFor T).1) ∧ RC E C1 b (sFor T).2 ∧ (∀ i : Nat, (i < b ∨ b + 4 < i) → C1 i = C i))) args s 0 0 (xA E)) C 7 [(0, .ref (E.2.1 (b))), (1, .int (nI (y1))), (2, .int (nI (k)))] [] := by
    intro n7
    induction n7 with
    | zero => intro _ _ hm7; exact absurd hm7 (Nat.not_lt_zero _)
    | succ n7 ih7 =>
      intro y1 k hm7 gx gk
      refine y_iload_n X dX3_forgetSeasons_7 2 rfl ?_
      refine y_aload_n X dX3_forgetSeasons_8 0 rfl ?_
      refine y_get X (b) 3 3 (Cn := RX3) (T := TX3) (N := 6) (index := 22) (v := .int (nI (tr T))) dX3_forgetSeasons_9 (by omega) h0 rfl (by decide) inX3 (by decide +kernel : Cond.fieldLink RX3 22 "ColumnSeasons$Table" "rows" "I" ∈ wsX3_forgetSeasons) rfl rfl ?_
      refine y_icmp_ge X 32 ((tr T) ≤ (k)) dX3_forgetSeasons_12 (by decide) (nI_leI (a := tr T) (b := k) (by omega) (by omega)) (fun c_1 => ?_) (fun c_1 => ?_)
      ·
        have gk7 : k = tr T := by omega
        have gle := fgF_le (T := T) k
        rw [← gx] at gle
        refine y_iload_n X dX3_forgetSeasons_32 1 rfl ?_
        refine y_if_ne X 40 (¬ ((y1) = (0))) dX3_forgetSeasons_33 (by decide) (cNe (nI_eq (a := y1) (b := 0) (by omega) (by omega))) (fun c_2 => ?_) (fun c_2 => ?_)
        ·
          refine y_aload_n X dX3_forgetSeasons_40 0 rfl ?_
          refine y_dup X dX3_forgetSeasons_41 rfl ?_
          refine y_get X (b) 3 0 (Cn := RX3) (T := TX3) (N := 6) (index := 9) (v := .int (nI (tn T))) dX3_forgetSeasons_42 (by omega) h0 rfl (by decide) inX3 (by decide +kernel : Cond.fieldLink RX3 9 "ColumnSeasons$Table" "seasons" "I" ∈ wsX3_forgetSeasons) rfl rfl ?_
          refine y_iload_n X dX3_forgetSeasons_45 1 rfl ?_
          refine y_isub X (z := (nI ((tn T) - (y1)))) dX3_forgetSeasons_46 (pk_sub (a := tn T) (b := y1) (by omega)) ?_
          refine y_put X (b) 3 0 (Cn := RX3) (T := TX3) (N := 6) (index := 9) tyX3 (v := .int (nI ((tn T) - (y1)))) dX3_forgetSeasons_47 (by omega) h0 rfl (by decide) inX3 (by decide +kernel : Cond.fieldLink RX3 9 "ColumnSeasons$Table" "seasons" "I" ∈ wsX3_forgetSeasons) rfl tyX3_ok nmX3 rfl rfl rfl (Nat.le_of_ble_eq_true rfl) ?_
          refine y_mem (va_up C (b) (.inr (3, [.int (nI ((tn T) - (y1))), .ref (E.2.1 (b + 1)), .ref (E.2.1 (b + 2)), .int (nI (tr T)), .ref (E.2.1 (b + 3)), .ref (E.2.1 (b + 4))]))) rfl (fun C_3 eC_4 => ?_)
          have h_5 : C_3 (b) = .inr (3, [.int (nI ((tn T) - (y1))), .ref (E.2.1 (b + 1)), .ref (E.2.1 (b + 2)), .int (nI (tr T)), .ref (E.2.1 (b + 3)), .ref (E.2.1 (b + 4))]) := by rw [eC_4, va_up, if_pos rfl]
          have h_6 : C_3 (b + 1) = .inl (E.2.2.1 1, 240, .inl zK) := by rw [eC_4, va_up, if_neg (by omega)]; exact h1
          have h_7 : C_3 (b + 2) = .inl (E.2.2.1 1, 240, .inl zD) := by rw [eC_4, va_up, if_neg (by omega)]; exact h2
          have h_8 : C_3 (b + 3) = .inl (E.2.2.1 1, 24, .inl zS) := by rw [eC_4, va_up, if_neg (by omega)]; exact h3
          have h_9 : C_3 (b + 4) = .inl (E.2.2.1 1, 192, .inl zV) := by rw [eC_4, va_up, if_neg (by omega)]; exact h4
          refine y_aload_n X dX3_forgetSeasons_50 0 rfl ?_
          refine y_get X (b) 3 1 (Cn := RX3) (T := TX3) (N := 6) (index := 15) (v := .ref (E.2.1 (b + 1))) dX3_forgetSeasons_51 (by omega) h_5 rfl (by decide) inX3 (by decide +kernel : Cond.fieldLink RX3 15 "ColumnSeasons$Table" "kinds" "[I" ∈ wsX3_forgetSeasons) rfl rfl ?_
          refine y_iload_n X dX3_forgetSeasons_54 1 rfl ?_
          refine y_bipush X (v := (8)) dX3_forgetSeasons_55 (by decide) ?_
          refine y_imul X (z := (nI ((y1) * (8)))) dX3_forgetSeasons_57 (pk_mul (y1) (8)) ?_
          refine y_aload_n X dX3_forgetSeasons_58 0 rfl ?_
          refine y_get X (b) 3 1 (Cn := RX3) (T := TX3) (N := 6) (index := 15) (v := .ref (E.2.1 (b + 1))) dX3_forgetSeasons_59 (by omega) h_5 rfl (by decide) inX3 (by decide +kernel : Cond.fieldLink RX3 15 "ColumnSeasons$Table" "kinds" "[I" ∈ wsX3_forgetSeasons) rfl rfl ?_
          refine y_iconst X (v := (0)) dX3_forgetSeasons_62 (by decide) ?_
          refine y_aload_n X dX3_forgetSeasons_63 0 rfl ?_
          refine y_get X (b) 3 0 (Cn := RX3) (T := TX3) (N := 6) (index := 9) (v := .int (nI ((tn T) - (y1)))) dX3_forgetSeasons_64 (by omega) h_5 rfl (by decide) inX3 (by decide +kernel : Cond.fieldLink RX3 9 "ColumnSeasons$Table" "seasons" "I" ∈ wsX3_forgetSeasons) rfl rfl ?_
          refine y_bipush X (v := (8)) dX3_forgetSeasons_67 (by decide) ?_
          refine y_imul X (z := (nI (((tn T) - (y1)) * (8)))) dX3_forgetSeasons_69 (pk_mul ((tn T) - (y1)) (8)) ?_
          refine y_copyi X (b + 1) (b + 1) (sp := (y1) * (8)) (dp := 0) (n := ((tn T) - (y1)) * (8)) dX3_forgetSeasons_70 (by decide +kernel) (by decide +kernel) (by decide +kernel) (by decide +kernel) (by omega) (by omega) h_6 h_6 rfl rfl rfl (by omega) (by omega) (by omega) (by omega) (Nat.le_of_ble_eq_true rfl) (Nat.le_of_ble_eq_true rfl) ?_
          refine y_mem (va_up C_3 (b + 1) (.inl (E.2.2.1 1, 240, .inl (va_cpy zK zK ((y1) * (8)) (0) (((tn T) - (y1)) * (8)))))) rfl (fun C_10 eC_11 => ?_)
          have h_12 : C_10 (b) = .inr (3, [.int (nI ((tn T) - (y1))), .ref (E.2.1 (b + 1)), .ref (E.2.1 (b + 2)), .int (nI (tr T)), .ref (E.2.1 (b + 3)), .ref (E.2.1 (b + 4))]) := by rw [eC_11, va_up, if_neg (by omega)]; exact h_5
          have h_13 : C_10 (b + 1) = .inl (E.2.2.1 1, 240, .inl (va_cpy zK zK ((y1) * (8)) (0) (((tn T) - (y1)) * (8)))) := by rw [eC_11, va_up, if_pos rfl]
          have h_14 : C_10 (b + 2) = .inl (E.2.2.1 1, 240, .inl zD) := by rw [eC_11, va_up, if_neg (by omega)]; exact h_7
          have h_15 : C_10 (b + 3) = .inl (E.2.2.1 1, 24, .inl zS) := by rw [eC_11, va_up, if_neg (by omega)]; exact h_8
          have h_16 : C_10 (b + 4) = .inl (E.2.2.1 1, 192, .inl zV) := by rw [eC_11, va_up, if_neg (by omega)]; exact h_9
          refine y_aload_n X dX3_forgetSeasons_73 0 rfl ?_
          refine y_get X (b) 3 2 (Cn := RX3) (T := TX3) (N := 6) (index := 19) (v := .ref (E.2.1 (b + 2))) dX3_forgetSeasons_74 (by omega) h_12 rfl (by decide) inX3 (by decide +kernel : Cond.fieldLink RX3 19 "ColumnSeasons$Table" "standards" "[I" ∈ wsX3_forgetSeasons) rfl rfl ?_
          refine y_iload_n X dX3_forgetSeasons_77 1 rfl ?_
          refine y_bipush X (v := (8)) dX3_forgetSeasons_78 (by decide) ?_
          refine y_imul X (z := (nI ((y1) * (8)))) dX3_forgetSeasons_80 (pk_mul (y1) (8)) ?_
          refine y_aload_n X dX3_forgetSeasons_81 0 rfl ?_
          refine y_get X (b) 3 2 (Cn := RX3) (T := TX3) (N := 6) (index := 19) (v := .ref (E.2.1 (b + 2))) dX3_forgetSeasons_82 (by omega) h_12 rfl (by decide) inX3 (by decide +kernel : Cond.fieldLink RX3 19 "ColumnSeasons$Table" "standards" "[I" ∈ wsX3_forgetSeasons) rfl rfl ?_
          refine y_iconst X (v := (0)) dX3_forgetSeasons_85 (by decide) ?_
          refine y_aload_n X dX3_forgetSeasons_86 0 rfl ?_
          refine y_get X (b) 3 0 (Cn := RX3) (T := TX3) (N := 6) (index := 9) (v := .int (nI ((tn T) - (y1)))) dX3_forgetSeasons_87 (by omega) h_12 rfl (by decide) inX3 (by decide +kernel : Cond.fieldLink RX3 9 "ColumnSeasons$Table" "seasons" "I" ∈ wsX3_forgetSeasons) rfl rfl ?_
          refine y_bipush X (v := (8)) dX3_forgetSeasons_90 (by decide) ?_
          refine y_imul X (z := (nI (((tn T) - (y1)) * (8)))) dX3_forgetSeasons_92 (pk_mul ((tn T) - (y1)) (8)) ?_
          refine y_copyi X (b + 2) (b + 2) (sp := (y1) * (8)) (dp := 0) (n := ((tn T) - (y1)) * (8)) dX3_forgetSeasons_93 (by decide +kernel) (by decide +kernel) (by decide +kernel) (by decide +kernel) (by omega) (by omega) h_14 h_14 rfl rfl rfl (by omega) (by omega) (by omega) (by omega) (Nat.le_of_ble_eq_true rfl) (Nat.le_of_ble_eq_true rfl) ?_
          refine y_mem (va_up C_10 (b + 2) (.inl (E.2.2.1 1, 240, .inl (va_cpy zD zD ((y1) * (8)) (0) (((tn T) - (y1)) * (8)))))) rfl (fun C_17 eC_18 => ?_)
          have h_19 : C_17 (b) = .inr (3, [.int (nI ((tn T) - (y1))), .ref (E.2.1 (b + 1)), .ref (E.2.1 (b + 2)), .int (nI (tr T)), .ref (E.2.1 (b + 3)), .ref (E.2.1 (b + 4))]) := by rw [eC_18, va_up, if_neg (by omega)]; exact h_12
          have h_20 : C_17 (b + 1) = .inl (E.2.2.1 1, 240, .inl (va_cpy zK zK ((y1) * (8)) (0) (((tn T) - (y1)) * (8)))) := by rw [eC_18, va_up, if_neg (by omega)]; exact h_13
          have h_21 : C_17 (b + 2) = .inl (E.2.2.1 1, 240, .inl (va_cpy zD zD ((y1) * (8)) (0) (((tn T) - (y1)) * (8)))) := by rw [eC_18, va_up, if_pos rfl]
          have h_22 : C_17 (b + 3) = .inl (E.2.2.1 1, 24, .inl zS) := by rw [eC_18, va_up, if_neg (by omega)]; exact h_15
          have h_23 : C_17 (b + 4) = .inl (E.2.2.1 1, 192, .inl zV) := by rw [eC_18, va_up, if_neg (by omega)]; exact h_16
          refine y_iconst X (v := (0)) dX3_forgetSeasons_96 (by decide) ?_
          refine y_istore_n X [(2, .int (0)), (0, .ref (E.2.1 (b))), (1, .int (nI (y1)))] dX3_forgetSeasons_97 rfl (by decide) rfl ?_
          have L_98 : ∀ (n : Nat) (C2 : xC) (zK2 : Nat → Int32) (zD2 : Nat → Int32) (zS2 : Nat → Int32) (k : Nat), tr T - k < n → (C2 (b) = .inr (3, [.int (nI ((tn T) - (y1))), .ref (E.2.1 (b + 1)), .ref (E.2.1 (b + 2)), .int (nI (tr T)), .ref (E.2.1 (b + 3)), .ref (E.2.1 (b + 4))])) → (C2 (b + 1) = .inl (E.2.2.1 1, 240, .inl zK2)) → (C2 (b + 2) = .inl (E.2.2.1 1, 240, .inl zD2)) → (C2 (b + 3) = .inl (E.2.2.1 1, 24, .inl zS2)) → (C2 (b + 4) = .inl (E.2.2.1 1, 192, .inl zV)) → ((∀ i9 : Nat, (i9 < b ∨ b + 4 < i9) → C2 i9 = C i9)) → (zK2 = va_cpy zK zK (y1 * 8) 0 ((tn T - y1) * 8)) → (zD2 = va_cpy zD zD (y1 * 8) 0 ((tn T - y1) * 8)) → (∀ i : Nat, i < k → zS2 i = nI (ts T i - y1)) → (∀ i : Nat, k ≤ i → zS2 i = zS i) → (k ≤ tr T) → xY p l e ({ frames := 1, cells := 0, slots := 0, locals := 40 } : Room) s m args below meth c E (xA E) 3 0 0 (MQ below (xQ E (fun v C1 => v = some (.int (sFor T).1) ∧ RC E C1 b (sFor T).2 ∧ (∀ i : Nat, (i < b ∨ b + 4 < i) → C1 i = C i))) args s 0 0 (xA E)) C2 98 [(0, .ref (E.2.1 (b))), (1, .int (nI (y1))), (2, .int (nI (k)))] [] := by
            intro n98
            induction n98 with
            | zero => intro _ _ _ _ _ hm98; exact absurd hm98 (Nat.not_lt_zero _)
            | succ n98 ih98 =>
              intro C2 zK2 zD2 zS2 k hm98 k0 k1 k2 k3 k4 gF2 gk5 gk6 gA gC gk
              refine y_iload_n X dX3_forgetSeasons_98 2 rfl ?_
              refine y_aload_n X dX3_forgetSeasons_99 0 rfl ?_
              refine y_get X (b) 3 3 (Cn := RX3) (T := TX3) (N := 6) (index := 22) (v := .int (nI (tr T))) dX3_forgetSeasons_100 (by omega) k0 rfl (by decide) inX3 (by decide +kernel : Cond.fieldLink RX3 22 "ColumnSeasons$Table" "rows" "I" ∈ wsX3_forgetSeasons) rfl rfl ?_
              refine y_icmp_ge X 122 ((tr T) ≤ (k)) dX3_forgetSeasons_103 (by decide) (nI_leI (a := tr T) (b := k) (by omega) (by omega)) (fun c_24 => ?_) (fun c_24 => ?_)
              ·
                refine y_iload_n X dX3_forgetSeasons_122 1 rfl ?_
                exact y_iret X hr dX3_forgetSeasons_123 rfl (by have ez : sFor T = (nI y1, fgt T y1) := (by rw [sFor, if_neg (by rw [fgm, ← gk7, ← gx]; omega), fgm, ← gk7, ← gx]); rw [ez]; exact ⟨rfl, ⟨zK2, zD2, zS2, zV, k0, k1, k2, k3, k4, by rw [gk5, gk6]; exact fgtR ⟨gK, gD, gS, gV⟩ gw (by omega) (fun i q1 => gle.2 i (by omega)) (fun i q1 => gA i (by omega))⟩, gF2⟩)
              ·
                have gts := gle.2 k (by omega)
                have gts2 := gw4 k (by omega)
                refine y_aload_n X dX3_forgetSeasons_106 0 rfl ?_
                refine y_get X (b) 3 4 (Cn := RX3) (T := TX3) (N := 6) (index := 25) (v := .ref (E.2.1 (b + 3))) dX3_forgetSeasons_107 (by omega) k0 rfl (by decide) inX3 (by decide +kernel : Cond.fieldLink RX3 25 "ColumnSeasons$Table" "rowSeasons" "[I" ∈ wsX3_forgetSeasons) rfl rfl ?_
                refine y_iload_n X dX3_forgetSeasons_110 2 rfl ?_
                refine y_dup2 X dX3_forgetSeasons_111 rfl rfl ?_
                refine y_iald X (b + 3) dX3_forgetSeasons_112 (by omega) k3 (j := k) rfl (by omega) (by omega) (z := (nI (ts T k))) (by rw [gC k (Nat.le_refl _)]; exact gS k (by omega)) ?_
                refine y_iload_n X dX3_forgetSeasons_113 1 rfl ?_
                refine y_isub X (z := (nI ((ts T k) - (y1)))) dX3_forgetSeasons_114 (pk_sub (a := ts T k) (b := y1) (by omega)) ?_
                refine y_iast X (b + 3) dX3_forgetSeasons_115 (by omega) k3 (j := k) rfl (by omega) (by omega) ?_
                refine y_mem (va_up C2 (b + 3) (.inl (E.2.2.1 1, 24, .inl (upd zS2 (k) (nI ((ts T k) - (y1))))))) rfl (fun C_25 eC_26 => ?_)
                have h_27 : C_25 (b) = .inr (3, [.int (nI ((tn T) - (y1))), .ref (E.2.1 (b + 1)), .ref (E.2.1 (b + 2)), .int (nI (tr T)), .ref (E.2.1 (b + 3)), .ref (E.2.1 (b + 4))]) := by rw [eC_26, va_up, if_neg (by omega)]; exact k0
                have h_28 : C_25 (b + 1) = .inl (E.2.2.1 1, 240, .inl zK2) := by rw [eC_26, va_up, if_neg (by omega)]; exact k1
                have h_29 : C_25 (b + 2) = .inl (E.2.2.1 1, 240, .inl zD2) := by rw [eC_26, va_up, if_neg (by omega)]; exact k2
                have h_30 : C_25 (b + 3) = .inl (E.2.2.1 1, 24, .inl (upd zS2 (k) (nI ((ts T k) - (y1))))) := by rw [eC_26, va_up, if_pos rfl]
                have h_31 : C_25 (b + 4) = .inl (E.2.2.1 1, 192, .inl zV) := by rw [eC_26, va_up, if_neg (by omega)]; exact k4
                refine y_iinc X [(2, .int (nI (k + 1))), (0, .ref (E.2.1 (b))), (1, .int (nI (y1)))] dX3_forgetSeasons_116 2 rfl (nI_1 _) (by decide) rfl ?_
                refine y_goto X 98 dX3_forgetSeasons_119 (by decide) ?_
                refine y_pick [1, 2, 0] [(0, .ref (E.2.1 (b))), (1, .int (nI (y1))), (2, .int (nI (k + 1)))] rfl ?_
                exact ih98 (C_25) (zK2) (zD2) ((upd zS2 (k) (nI ((ts T k) - (y1))))) (k + 1) (by omega) h_27 h_28 h_29 h_30 h_31 (fun i9 g9 => by rw [eC_26, va_up, if_neg (by omega)]; rw [gF2 i9 g9]) gk5 gk6 (fun i q1 => by rcases Nat.lt_or_ge i k with q3 | q3; rw [pk_un (by omega)]; exact gA i q3; rw [show i = k by omega, pk_us]) (fun i q1 => by rw [pk_un (by omega)]; exact gC i (by omega)) (by omega)
          refine y_pick [1, 2, 0] [(0, .ref (E.2.1 (b))), (1, .int (nI (y1))), (2, .int (0))] rfl ?_
          exact L_98 _ (C_17) ((va_cpy zK zK ((y1) * (8)) (0) (((tn T) - (y1)) * (8)))) ((va_cpy zD zD ((y1) * (8)) (0) (((tn T) - (y1)) * (8)))) (zS) (0) (Nat.lt_succ_self _) h_19 h_20 h_21 h_22 h_23 (fun i9 g9 => by rw [eC_18, va_up, if_neg (by omega)]; rw [eC_11, va_up, if_neg (by omega)]; rw [eC_4, va_up, if_neg (by omega)]) rfl rfl (fun _ q1 => absurd q1 (Nat.not_lt_zero _)) (fun _ _ => rfl) (by omega)
        ·
          have c_2 := Decidable.of_not_not c_2
          refine y_sipush X (v := (-10005)) dX3_forgetSeasons_36 (by decide) ?_
          exact y_iret X hr dX3_forgetSeasons_39 rfl (by have ez : sFor T = (-10005, T) := (by rw [sFor, if_pos (by rw [fgm, ← gk7, ← gx]; omega)]); rw [ez]; exact ⟨rfl, gT, fun _ _ => rfl⟩)
      ·
        have gts := gw4 k (by omega)
        have gle := fgF_le (T := T) k
        refine y_iload_n X dX3_forgetSeasons_15 1 rfl ?_
        refine y_aload_n X dX3_forgetSeasons_16 0 rfl ?_
        refine y_get X (b) 3 4 (Cn := RX3) (T := TX3) (N := 6) (index := 25) (v := .ref (E.2.1 (b + 3))) dX3_forgetSeasons_17 (by omega) h0 rfl (by decide) inX3 (by decide +kernel : Cond.fieldLink RX3 25 "ColumnSeasons$Table" "rowSeasons" "[I" ∈ wsX3_forgetSeasons) rfl rfl ?_
        refine y_iload_n X dX3_forgetSeasons_20 2 rfl ?_
        refine y_iald X (b + 3) dX3_forgetSeasons_21 (by omega) h3 (j := k) rfl (by omega) (by omega) (z := (nI (ts T k))) (gS _ (by omega)) ?_
        refine y_min X (z := (nI ((if ts T k < y1 then ts T k else y1)))) dX3_forgetSeasons_22 (by decide +kernel) (by decide +kernel) (by decide +kernel) (by decide +kernel) (Nat.le_of_ble_eq_true rfl) (Nat.le_of_ble_eq_true rfl) ⟨Nat.zero_le _, Nat.zero_le _⟩ (nI_min (by omega) (by omega)) ?_
        refine y_istore_n X [(1, .int (nI ((if ts T k < y1 then ts T k else y1)))), (0, .ref (E.2.1 (b))), (2, .int (nI (k)))] dX3_forgetSeasons_25 rfl (by decide) rfl ?_
        refine y_iinc X [(2, .int (nI (k + 1))), (1, .int (nI ((if ts T k < y1 then ts T k else y1)))), (0, .ref (E.2.1 (b)))] dX3_forgetSeasons_26 2 rfl (nI_1 _) (by decide) rfl ?_
        refine y_goto X 7 dX3_forgetSeasons_29 (by decide) ?_
        refine y_pick [2, 1, 0] [(0, .ref (E.2.1 (b))), (1, .int (nI ((if ts T k < y1 then ts T k else y1)))), (2, .int (nI (k + 1)))] rfl ?_
        exact ih7 ((if ts T k < y1 then ts T k else y1)) (k + 1) (by omega) (by rw [fgF, ← gx]) (by omega)
  refine y_pick [2, 1, 0] [(0, .ref (E.2.1 (b))), (1, .int (nI ((tn T) - 1))), (2, .int (0))] rfl ?_
  exact L_7 _ (tn T - 1) (0) (Nat.lt_succ_self _) rfl (by omega)

set_option maxRecDepth 100000 in
set_option maxHeartbeats 4000000 in
theorem c_X3_copyFrom {l : Launch} {E : xE} {C : xC} {b b2 : Nat} {T0 T : Tb} (gb : b + 4 < 61) (gb2 : b2 + 4 < 61) (gd : b + 4 < b2 ∨ b2 + 4 < b) (gT0 : RC E C b T0) (gT : RC E C b2 T) (gw : WB T) : xM E l yX3_copyFrom wsX3_copyFrom 1 40 [.ref (E.2.1 (b)), .ref (E.2.1 (b2))] C (fun v C1 => v = none ∧ RC E C1 b T ∧ (∀ i : Nat, (i < b ∨ b + 4 < i) → C1 i = C i)) := by
  obtain ⟨zK0, zD0, zS0, zV0, h0, h1, h2, h3, h4, gK0, gD0, gS0, gV0⟩ := id gT0
  obtain ⟨zK, zD, zS, zV, m0, m1, m2, m3, m4, gK, gD, gS, gV⟩ := id gT
  obtain ⟨gw1, gw2, gw3, gw4⟩ := id gw
  refine xM_ofY (cc := cX3_copyFrom) (maxL := 2) (ret := none) (by decide) rfl (Nat.le_of_ble_eq_true rfl) ?_
  intro p e s m args below meth c X hr
  have inX3 : ∀ w ∈ wsX30, w ∈ wsX3_copyFrom := by decide +kernel
  refine y_lv [(0, .ref (E.2.1 (b))), (1, .ref (E.2.1 (b2)))] rfl ?_
  refine y_aload_n X dX3_copyFrom_0 0 rfl ?_
  refine y_aload_n X dX3_copyFrom_1 1 rfl ?_
  refine y_get X (b2) 3 0 (Cn := RX3) (T := TX3) (N := 6) (index := 9) (v := .int (nI (tn T))) dX3_copyFrom_2 (by omega) m0 rfl (by decide) inX3 (by decide +kernel : Cond.fieldLink RX3 9 "ColumnSeasons$Table" "seasons" "I" ∈ wsX3_copyFrom) rfl rfl ?_
  refine y_put X (b) 3 0 (Cn := RX3) (T := TX3) (N := 6) (index := 9) tyX3 (v := .int (nI (tn T))) dX3_copyFrom_5 (by omega) h0 rfl (by decide) inX3 (by decide +kernel : Cond.fieldLink RX3 9 "ColumnSeasons$Table" "seasons" "I" ∈ wsX3_copyFrom) rfl tyX3_ok nmX3 rfl rfl rfl (Nat.le_of_ble_eq_true rfl) ?_
  refine y_mem (va_up C (b) (.inr (3, [.int (nI (tn T)), .ref (E.2.1 (b + 1)), .ref (E.2.1 (b + 2)), .int (nI (tr T0)), .ref (E.2.1 (b + 3)), .ref (E.2.1 (b + 4))]))) rfl (fun C_1 eC_2 => ?_)
  have h_3 : C_1 (b) = .inr (3, [.int (nI (tn T)), .ref (E.2.1 (b + 1)), .ref (E.2.1 (b + 2)), .int (nI (tr T0)), .ref (E.2.1 (b + 3)), .ref (E.2.1 (b + 4))]) := by rw [eC_2, va_up, if_pos rfl]
  have h_4 : C_1 (b + 1) = .inl (E.2.2.1 1, 240, .inl zK0) := by rw [eC_2, va_up, if_neg (by omega)]; exact h1
  have h_5 : C_1 (b + 2) = .inl (E.2.2.1 1, 240, .inl zD0) := by rw [eC_2, va_up, if_neg (by omega)]; exact h2
  have h_6 : C_1 (b + 3) = .inl (E.2.2.1 1, 24, .inl zS0) := by rw [eC_2, va_up, if_neg (by omega)]; exact h3
  have h_7 : C_1 (b + 4) = .inl (E.2.2.1 1, 192, .inl zV0) := by rw [eC_2, va_up, if_neg (by omega)]; exact h4
  have h_8 : C_1 (b2) = .inr (3, [.int (nI (tn T)), .ref (E.2.1 (b2 + 1)), .ref (E.2.1 (b2 + 2)), .int (nI (tr T)), .ref (E.2.1 (b2 + 3)), .ref (E.2.1 (b2 + 4))]) := by rw [eC_2, va_up, if_neg (by omega)]; exact m0
  have h_9 : C_1 (b2 + 1) = .inl (E.2.2.1 1, 240, .inl zK) := by rw [eC_2, va_up, if_neg (by omega)]; exact m1
  have h_10 : C_1 (b2 + 2) = .inl (E.2.2.1 1, 240, .inl zD) := by rw [eC_2, va_up, if_neg (by omega)]; exact m2
  have h_11 : C_1 (b2 + 3) = .inl (E.2.2.1 1, 24, .inl zS) := by rw [eC_2, va_up, if_neg (by omega)]; exact m3
  have h_12 : C_1 (b2 + 4) = .inl (E.2.2.1 1, 192, .inl zV) := by rw [eC_2, va_up, if_neg (by omega)]; exact m4
  refine y_aload_n X dX3_copyFrom_8 1 rfl ?_
  refine y_get X (b2) 3 1 (Cn := RX3) (T := TX3) (N := 6) (index := 15) (v := .ref (E.2.1 (b2 + 1))) dX3_copyFrom_9 (by omega) h_8 rfl (by decide) inX3 (by decide +kernel : Cond.fieldLink RX3 15 "ColumnSeasons$Table" "kinds" "[I" ∈ wsX3_copyFrom) rfl rfl ?_
  refine y_iconst X (v := (0)) dX3_copyFrom_12 (by decide) ?_
  refine y_aload_n X dX3_copyFrom_13 0 rfl ?_
  refine y_get X (b) 3 1 (Cn := RX3) (T := TX3) (N := 6) (index := 15) (v := .ref (E.2.1 (b + 1))) dX3_copyFrom_14 (by omega) h_3 rfl (by decide) inX3 (by decide +kernel : Cond.fieldLink RX3 15 "ColumnSeasons$Table" "kinds" "[I" ∈ wsX3_copyFrom) rfl rfl ?_
  refine y_iconst X (v := (0)) dX3_copyFrom_17 (by decide) ?_
  refine y_aload_n X dX3_copyFrom_18 0 rfl ?_
  refine y_get X (b) 3 1 (Cn := RX3) (T := TX3) (N := 6) (index := 15) (v := .ref (E.2.1 (b + 1))) dX3_copyFrom_19 (by omega) h_3 rfl (by decide) inX3 (by decide +kernel : Cond.fieldLink RX3 15 "ColumnSeasons$Table" "kinds" "[I" ∈ wsX3_copyFrom) rfl rfl ?_
  refine y_alen X (b + 1) 1 dX3_copyFrom_22 (by omega) rfl h_4 rfl ?_
  refine y_copyi X (b2 + 1) (b + 1) (sp := 0) (dp := 0) (n := 240) dX3_copyFrom_23 (by decide +kernel) (by decide +kernel) (by decide +kernel) (by decide +kernel) (by omega) (by omega) h_9 h_4 rfl rfl rfl (by omega) (by omega) (by omega) (by omega) (Nat.le_of_ble_eq_true rfl) (Nat.le_of_ble_eq_true rfl) ?_
  refine y_mem (va_up C_1 (b + 1) (.inl (E.2.2.1 1, 240, .inl (va_cpy zK zK0 (0) (0) (240))))) rfl (fun C_13 eC_14 => ?_)
  have h_15 : C_13 (b) = .inr (3, [.int (nI (tn T)), .ref (E.2.1 (b + 1)), .ref (E.2.1 (b + 2)), .int (nI (tr T0)), .ref (E.2.1 (b + 3)), .ref (E.2.1 (b + 4))]) := by rw [eC_14, va_up, if_neg (by omega)]; exact h_3
  have h_16 : C_13 (b + 1) = .inl (E.2.2.1 1, 240, .inl (va_cpy zK zK0 (0) (0) (240))) := by rw [eC_14, va_up, if_pos rfl]
  have h_17 : C_13 (b + 2) = .inl (E.2.2.1 1, 240, .inl zD0) := by rw [eC_14, va_up, if_neg (by omega)]; exact h_5
  have h_18 : C_13 (b + 3) = .inl (E.2.2.1 1, 24, .inl zS0) := by rw [eC_14, va_up, if_neg (by omega)]; exact h_6
  have h_19 : C_13 (b + 4) = .inl (E.2.2.1 1, 192, .inl zV0) := by rw [eC_14, va_up, if_neg (by omega)]; exact h_7
  have h_20 : C_13 (b2) = .inr (3, [.int (nI (tn T)), .ref (E.2.1 (b2 + 1)), .ref (E.2.1 (b2 + 2)), .int (nI (tr T)), .ref (E.2.1 (b2 + 3)), .ref (E.2.1 (b2 + 4))]) := by rw [eC_14, va_up, if_neg (by omega)]; exact h_8
  have h_21 : C_13 (b2 + 1) = .inl (E.2.2.1 1, 240, .inl zK) := by rw [eC_14, va_up, if_neg (by omega)]; exact h_9
  have h_22 : C_13 (b2 + 2) = .inl (E.2.2.1 1, 240, .inl zD) := by rw [eC_14, va_up, if_neg (by omega)]; exact h_10
  have h_23 : C_13 (b2 + 3) = .inl (E.2.2.1 1, 24, .inl zS) := by rw [eC_14, va_up, if_neg (by omega)]; exact h_11
  have h_24 : C_13 (b2 + 4) = .inl (E.2.2.1 1, 192, .inl zV) := by rw [eC_14, va_up, if_neg (by omega)]; exact h_12
  refine y_aload_n X dX3_copyFrom_26 1 rfl ?_
  refine y_get X (b2) 3 2 (Cn := RX3) (T := TX3) (N := 6) (index := 19) (v := .ref (E.2.1 (b2 + 2))) dX3_copyFrom_27 (by omega) h_20 rfl (by decide) inX3 (by decide +kernel : Cond.fieldLink RX3 19 "ColumnSeasons$Table" "standards" "[I" ∈ wsX3_copyFrom) rfl rfl ?_
  refine y_iconst X (v := (0)) dX3_copyFrom_30 (by decide) ?_
  refine y_aload_n X dX3_copyFrom_31 0 rfl ?_
  refine y_get X (b) 3 2 (Cn := RX3) (T := TX3) (N := 6) (index := 19) (v := .ref (E.2.1 (b + 2))) dX3_copyFrom_32 (by omega) h_15 rfl (by decide) inX3 (by decide +kernel : Cond.fieldLink RX3 19 "ColumnSeasons$Table" "standards" "[I" ∈ wsX3_copyFrom) rfl rfl ?_
  refine y_iconst X (v := (0)) dX3_copyFrom_35 (by decide) ?_
  refine y_aload_n X dX3_copyFrom_36 0 rfl ?_
  refine y_get X (b) 3 2 (Cn := RX3) (T := TX3) (N := 6) (index := 19) (v := .ref (E.2.1 (b + 2))) dX3_copyFrom_37 (by omega) h_15 rfl (by decide) inX3 (by decide +kernel : Cond.fieldLink RX3 19 "ColumnSeasons$Table" "standards" "[I" ∈ wsX3_copyFrom) rfl rfl ?_
  refine y_alen X (b + 2) 1 dX3_copyFrom_40 (by omega) rfl h_17 rfl ?_
  refine y_copyi X (b2 + 2) (b + 2) (sp := 0) (dp := 0) (n := 240) dX3_copyFrom_41 (by decide +kernel) (by decide +kernel) (by decide +kernel) (by decide +kernel) (by omega) (by omega) h_22 h_17 rfl rfl rfl (by omega) (by omega) (by omega) (by omega) (Nat.le_of_ble_eq_true rfl) (Nat.le_of_ble_eq_true rfl) ?_
  refine y_mem (va_up C_13 (b + 2) (.inl (E.2.2.1 1, 240, .inl (va_cpy zD zD0 (0) (0) (240))))) rfl (fun C_25 eC_26 => ?_)
  have h_27 : C_25 (b) = .inr (3, [.int (nI (tn T)), .ref (E.2.1 (b + 1)), .ref (E.2.1 (b + 2)), .int (nI (tr T0)), .ref (E.2.1 (b + 3)), .ref (E.2.1 (b + 4))]) := by rw [eC_26, va_up, if_neg (by omega)]; exact h_15
  have h_28 : C_25 (b + 1) = .inl (E.2.2.1 1, 240, .inl (va_cpy zK zK0 (0) (0) (240))) := by rw [eC_26, va_up, if_neg (by omega)]; exact h_16
  have h_29 : C_25 (b + 2) = .inl (E.2.2.1 1, 240, .inl (va_cpy zD zD0 (0) (0) (240))) := by rw [eC_26, va_up, if_pos rfl]
  have h_30 : C_25 (b + 3) = .inl (E.2.2.1 1, 24, .inl zS0) := by rw [eC_26, va_up, if_neg (by omega)]; exact h_18
  have h_31 : C_25 (b + 4) = .inl (E.2.2.1 1, 192, .inl zV0) := by rw [eC_26, va_up, if_neg (by omega)]; exact h_19
  have h_32 : C_25 (b2) = .inr (3, [.int (nI (tn T)), .ref (E.2.1 (b2 + 1)), .ref (E.2.1 (b2 + 2)), .int (nI (tr T)), .ref (E.2.1 (b2 + 3)), .ref (E.2.1 (b2 + 4))]) := by rw [eC_26, va_up, if_neg (by omega)]; exact h_20
  have h_33 : C_25 (b2 + 1) = .inl (E.2.2.1 1, 240, .inl zK) := by rw [eC_26, va_up, if_neg (by omega)]; exact h_21
  have h_34 : C_25 (b2 + 2) = .inl (E.2.2.1 1, 240, .inl zD) := by rw [eC_26, va_up, if_neg (by omega)]; exact h_22
  have h_35 : C_25 (b2 + 3) = .inl (E.2.2.1 1, 24, .inl zS) := by rw [eC_26, va_up, if_neg (by omega)]; exact h_23
  have h_36 : C_25 (b2 + 4) = .inl (E.2.2.1 1, 192, .inl zV) := by rw [eC_26, va_up, if_neg (by omega)]; exact h_24
  refine y_aload_n X dX3_copyFrom_44 0 rfl ?_
  refine y_aload_n X dX3_copyFrom_45 1 rfl ?_
  refine y_get X (b2) 3 3 (Cn := RX3) (T := TX3) (N := 6) (index := 22) (v := .int (nI (tr T))) dX3_copyFrom_46 (by omega) h_32 rfl (by decide) inX3 (by decide +kernel : Cond.fieldLink RX3 22 "ColumnSeasons$Table" "rows" "I" ∈ wsX3_copyFrom) rfl rfl ?_
  refine y_put X (b) 3 3 (Cn := RX3) (T := TX3) (N := 6) (index := 22) tyX3 (v := .int (nI (tr T))) dX3_copyFrom_49 (by omega) h_27 rfl (by decide) inX3 (by decide +kernel : Cond.fieldLink RX3 22 "ColumnSeasons$Table" "rows" "I" ∈ wsX3_copyFrom) rfl tyX3_ok nmX3 rfl rfl rfl (Nat.le_of_ble_eq_true rfl) ?_
  refine y_mem (va_up C_25 (b) (.inr (3, [.int (nI (tn T)), .ref (E.2.1 (b + 1)), .ref (E.2.1 (b + 2)), .int (nI (tr T)), .ref (E.2.1 (b + 3)), .ref (E.2.1 (b + 4))]))) rfl (fun C_37 eC_38 => ?_)
  have h_39 : C_37 (b) = .inr (3, [.int (nI (tn T)), .ref (E.2.1 (b + 1)), .ref (E.2.1 (b + 2)), .int (nI (tr T)), .ref (E.2.1 (b + 3)), .ref (E.2.1 (b + 4))]) := by rw [eC_38, va_up, if_pos rfl]
  have h_40 : C_37 (b + 1) = .inl (E.2.2.1 1, 240, .inl (va_cpy zK zK0 (0) (0) (240))) := by rw [eC_38, va_up, if_neg (by omega)]; exact h_28
  have h_41 : C_37 (b + 2) = .inl (E.2.2.1 1, 240, .inl (va_cpy zD zD0 (0) (0) (240))) := by rw [eC_38, va_up, if_neg (by omega)]; exact h_29
  have h_42 : C_37 (b + 3) = .inl (E.2.2.1 1, 24, .inl zS0) := by rw [eC_38, va_up, if_neg (by omega)]; exact h_30
  have h_43 : C_37 (b + 4) = .inl (E.2.2.1 1, 192, .inl zV0) := by rw [eC_38, va_up, if_neg (by omega)]; exact h_31
  have h_44 : C_37 (b2) = .inr (3, [.int (nI (tn T)), .ref (E.2.1 (b2 + 1)), .ref (E.2.1 (b2 + 2)), .int (nI (tr T)), .ref (E.2.1 (b2 + 3)), .ref (E.2.1 (b2 + 4))]) := by rw [eC_38, va_up, if_neg (by omega)]; exact h_32
  have h_45 : C_37 (b2 + 1) = .inl (E.2.2.1 1, 240, .inl zK) := by rw [eC_38, va_up, if_neg (by omega)]; exact h_33
  have h_46 : C_37 (b2 + 2) = .inl (E.2.2.1 1, 240, .inl zD) := by rw [eC_38, va_up, if_neg (by omega)]; exact h_34
  have h_47 : C_37 (b2 + 3) = .inl (E.2.2.1 1, 24, .inl zS) := by rw [eC_38, va_up, if_neg (by omega)]; exact h_35
  have h_48 : C_37 (b2 + 4) = .inl (E.2.2.1 1, 192, .inl zV) := by rw [eC_38, va_up, if_neg (by omega)]; exact h_36
  refine y_aload_n X dX3_copyFrom_52 1 rfl ?_
  refine y_get X (b2) 3 4 (Cn := RX3) (T := TX3) (N := 6) (index := 25) (v := .ref (E.2.1 (b2 + 3))) dX3_copyFrom_53 (by omega) h_44 rfl (by decide) inX3 (by decide +kernel : Cond.fieldLink RX3 25 "ColumnSeasons$Table" "rowSeasons" "[I" ∈ wsX3_copyFrom) rfl rfl ?_
  refine y_iconst X (v := (0)) dX3_copyFrom_56 (by decide) ?_
  refine y_aload_n X dX3_copyFrom_57 0 rfl ?_
  refine y_get X (b) 3 4 (Cn := RX3) (T := TX3) (N := 6) (index := 25) (v := .ref (E.2.1 (b + 3))) dX3_copyFrom_58 (by omega) h_39 rfl (by decide) inX3 (by decide +kernel : Cond.fieldLink RX3 25 "ColumnSeasons$Table" "rowSeasons" "[I" ∈ wsX3_copyFrom) rfl rfl ?_
  refine y_iconst X (v := (0)) dX3_copyFrom_61 (by decide) ?_
  refine y_aload_n X dX3_copyFrom_62 0 rfl ?_
  refine y_get X (b) 3 4 (Cn := RX3) (T := TX3) (N := 6) (index := 25) (v := .ref (E.2.1 (b + 3))) dX3_copyFrom_63 (by omega) h_39 rfl (by decide) inX3 (by decide +kernel : Cond.fieldLink RX3 25 "ColumnSeasons$Table" "rowSeasons" "[I" ∈ wsX3_copyFrom) rfl rfl ?_
  refine y_alen X (b + 3) 1 dX3_copyFrom_66 (by omega) rfl h_42 rfl ?_
  refine y_copyi X (b2 + 3) (b + 3) (sp := 0) (dp := 0) (n := 24) dX3_copyFrom_67 (by decide +kernel) (by decide +kernel) (by decide +kernel) (by decide +kernel) (by omega) (by omega) h_47 h_42 rfl rfl rfl (by omega) (by omega) (by omega) (by omega) (Nat.le_of_ble_eq_true rfl) (Nat.le_of_ble_eq_true rfl) ?_
  refine y_mem (va_up C_37 (b + 3) (.inl (E.2.2.1 1, 24, .inl (va_cpy zS zS0 (0) (0) (24))))) rfl (fun C_49 eC_50 => ?_)
  have h_51 : C_49 (b) = .inr (3, [.int (nI (tn T)), .ref (E.2.1 (b + 1)), .ref (E.2.1 (b + 2)), .int (nI (tr T)), .ref (E.2.1 (b + 3)), .ref (E.2.1 (b + 4))]) := by rw [eC_50, va_up, if_neg (by omega)]; exact h_39
  have h_52 : C_49 (b + 1) = .inl (E.2.2.1 1, 240, .inl (va_cpy zK zK0 (0) (0) (240))) := by rw [eC_50, va_up, if_neg (by omega)]; exact h_40
  have h_53 : C_49 (b + 2) = .inl (E.2.2.1 1, 240, .inl (va_cpy zD zD0 (0) (0) (240))) := by rw [eC_50, va_up, if_neg (by omega)]; exact h_41
  have h_54 : C_49 (b + 3) = .inl (E.2.2.1 1, 24, .inl (va_cpy zS zS0 (0) (0) (24))) := by rw [eC_50, va_up, if_pos rfl]
  have h_55 : C_49 (b + 4) = .inl (E.2.2.1 1, 192, .inl zV0) := by rw [eC_50, va_up, if_neg (by omega)]; exact h_43
  have h_56 : C_49 (b2) = .inr (3, [.int (nI (tn T)), .ref (E.2.1 (b2 + 1)), .ref (E.2.1 (b2 + 2)), .int (nI (tr T)), .ref (E.2.1 (b2 + 3)), .ref (E.2.1 (b2 + 4))]) := by rw [eC_50, va_up, if_neg (by omega)]; exact h_44
  have h_57 : C_49 (b2 + 1) = .inl (E.2.2.1 1, 240, .inl zK) := by rw [eC_50, va_up, if_neg (by omega)]; exact h_45
  have h_58 : C_49 (b2 + 2) = .inl (E.2.2.1 1, 240, .inl zD) := by rw [eC_50, va_up, if_neg (by omega)]; exact h_46
  have h_59 : C_49 (b2 + 3) = .inl (E.2.2.1 1, 24, .inl zS) := by rw [eC_50, va_up, if_neg (by omega)]; exact h_47
  have h_60 : C_49 (b2 + 4) = .inl (E.2.2.1 1, 192, .inl zV) := by rw [eC_50, va_up, if_neg (by omega)]; exact h_48
  refine y_aload_n X dX3_copyFrom_70 1 rfl ?_
  refine y_get X (b2) 3 5 (Cn := RX3) (T := TX3) (N := 6) (index := 28) (v := .ref (E.2.1 (b2 + 4))) dX3_copyFrom_71 (by omega) h_56 rfl (by decide) inX3 (by decide +kernel : Cond.fieldLink RX3 28 "ColumnSeasons$Table" "values" "[I" ∈ wsX3_copyFrom) rfl rfl ?_
  refine y_iconst X (v := (0)) dX3_copyFrom_74 (by decide) ?_
  refine y_aload_n X dX3_copyFrom_75 0 rfl ?_
  refine y_get X (b) 3 5 (Cn := RX3) (T := TX3) (N := 6) (index := 28) (v := .ref (E.2.1 (b + 4))) dX3_copyFrom_76 (by omega) h_51 rfl (by decide) inX3 (by decide +kernel : Cond.fieldLink RX3 28 "ColumnSeasons$Table" "values" "[I" ∈ wsX3_copyFrom) rfl rfl ?_
  refine y_iconst X (v := (0)) dX3_copyFrom_79 (by decide) ?_
  refine y_aload_n X dX3_copyFrom_80 0 rfl ?_
  refine y_get X (b) 3 5 (Cn := RX3) (T := TX3) (N := 6) (index := 28) (v := .ref (E.2.1 (b + 4))) dX3_copyFrom_81 (by omega) h_51 rfl (by decide) inX3 (by decide +kernel : Cond.fieldLink RX3 28 "ColumnSeasons$Table" "values" "[I" ∈ wsX3_copyFrom) rfl rfl ?_
  refine y_alen X (b + 4) 1 dX3_copyFrom_84 (by omega) rfl h_55 rfl ?_
  refine y_copyi X (b2 + 4) (b + 4) (sp := 0) (dp := 0) (n := 192) dX3_copyFrom_85 (by decide +kernel) (by decide +kernel) (by decide +kernel) (by decide +kernel) (by omega) (by omega) h_60 h_55 rfl rfl rfl (by omega) (by omega) (by omega) (by omega) (Nat.le_of_ble_eq_true rfl) (Nat.le_of_ble_eq_true rfl) ?_
  refine y_mem (va_up C_49 (b + 4) (.inl (E.2.2.1 1, 192, .inl (va_cpy zV zV0 (0) (0) (192))))) rfl (fun C_61 eC_62 => ?_)
  have h_63 : C_61 (b) = .inr (3, [.int (nI (tn T)), .ref (E.2.1 (b + 1)), .ref (E.2.1 (b + 2)), .int (nI (tr T)), .ref (E.2.1 (b + 3)), .ref (E.2.1 (b + 4))]) := by rw [eC_62, va_up, if_neg (by omega)]; exact h_51
  have h_64 : C_61 (b + 1) = .inl (E.2.2.1 1, 240, .inl (va_cpy zK zK0 (0) (0) (240))) := by rw [eC_62, va_up, if_neg (by omega)]; exact h_52
  have h_65 : C_61 (b + 2) = .inl (E.2.2.1 1, 240, .inl (va_cpy zD zD0 (0) (0) (240))) := by rw [eC_62, va_up, if_neg (by omega)]; exact h_53
  have h_66 : C_61 (b + 3) = .inl (E.2.2.1 1, 24, .inl (va_cpy zS zS0 (0) (0) (24))) := by rw [eC_62, va_up, if_neg (by omega)]; exact h_54
  have h_67 : C_61 (b + 4) = .inl (E.2.2.1 1, 192, .inl (va_cpy zV zV0 (0) (0) (192))) := by rw [eC_62, va_up, if_pos rfl]
  have h_68 : C_61 (b2) = .inr (3, [.int (nI (tn T)), .ref (E.2.1 (b2 + 1)), .ref (E.2.1 (b2 + 2)), .int (nI (tr T)), .ref (E.2.1 (b2 + 3)), .ref (E.2.1 (b2 + 4))]) := by rw [eC_62, va_up, if_neg (by omega)]; exact h_56
  have h_69 : C_61 (b2 + 1) = .inl (E.2.2.1 1, 240, .inl zK) := by rw [eC_62, va_up, if_neg (by omega)]; exact h_57
  have h_70 : C_61 (b2 + 2) = .inl (E.2.2.1 1, 240, .inl zD) := by rw [eC_62, va_up, if_neg (by omega)]; exact h_58
  have h_71 : C_61 (b2 + 3) = .inl (E.2.2.1 1, 24, .inl zS) := by rw [eC_62, va_up, if_neg (by omega)]; exact h_59
  have h_72 : C_61 (b2 + 4) = .inl (E.2.2.1 1, 192, .inl zV) := by rw [eC_62, va_up, if_neg (by omega)]; exact h_60
  exact y_vret X hr dX3_copyFrom_88 rfl ⟨rfl, ⟨_, _, _, _, h_63, h_64, h_65, h_66, h_67, ⟨fun q j q1 q2 => by rw [cpyA (by omega)]; exact gK q j q1 q2, fun q j q1 q2 => by rw [cpyA (by omega)]; exact gD q j q1 q2, fun i q1 => by rw [cpyA (by omega)]; exact gS i q1, fun i j q1 q2 q3 => by rw [cpyA (by omega)]; exact gV i j q1 q2 q3⟩⟩, (fun i9 g9 => by rw [eC_62, va_up, if_neg (by omega)]; rw [eC_50, va_up, if_neg (by omega)]; rw [eC_38, va_up, if_neg (by omega)]; rw [eC_26, va_up, if_neg (by omega)]; rw [eC_14, va_up, if_neg (by omega)]; rw [eC_2, va_up, if_neg (by omega)])⟩
end
section
theorem xin3 {k : Int32} (h : xin k 3) : k = 0 ∨ k = 1 ∨ k = 2 := by
  obtain ⟨j, hj, rfl⟩ := xin_of h (by decide)
  rcases (show j = 0 ∨ j = 1 ∨ j = 2 by omega) with rfl | rfl | rfl
  · exact Or.inl rfl
  · exact Or.inr (Or.inl rfl)
  · exact Or.inr (Or.inr rfl)
theorem dn_toInt {r : Nat} (h : r < 2 ^ 31) : (nI r - 1).toInt = (r : Int) - 1 := by
  cases r with
  | zero => decide
  | succ k =>
    rw [nI_pred, nI_toInt (by omega)]
    omega
/-- numbers in the widest range -/
abbrev rng (v : Int32) : Prop := -9999 ≤ v.toInt ∧ v.toInt ≤ 9999
theorem okv_rng {v k : Int32} (hk : xin k 3) (h : okv v k) : rng v := by
  rcases xin3 hk with rfl | rfl | rfl
  · have h1 : (0 : Int) ≤ v.toInt := h.1
    have h2 : v.toInt ≤ 1 := h.2
    exact ⟨by omega, by omega⟩
  · have h1 : (0 : Int) ≤ v.toInt := h.1
    have h2 : v.toInt ≤ 9 := h.2
    exact ⟨by omega, by omega⟩
  · have h1 : (-9999 : Int) ≤ v.toInt := h.1
    have h2 : v.toInt ≤ 9999 := h.2
    exact ⟨h1, h2⟩
theorem i32lt {x y : Int32} : x < y ↔ x.toInt < y.toInt := Int32.lt_iff_toInt_lt
theorem cst_eq {v k : Int32} (hk : xin k 3) (hv : rng v) : cst v k = cstC k v := by
  have e9 : (9 : Int32).toInt = 9 := by decide
  have e0 : (0 : Int32).toInt = 0 := by decide
  have e99 : (9999 : Int32).toInt = 9999 := by decide
  have en : (-9999 : Int32).toInt = -9999 := by decide
  rcases xin3 hk with rfl | rfl | rfl
  · rfl
  · show (if v < 0 then (0 : Int32) else if 9 < v then 9 else v) = if (0 : Int32) < (if v < 9 then v else 9) then (if v < 9 then v else 9) else 0
    by_cases h3 : v < 9
    · rw [if_pos h3]
      by_cases h4 : (0 : Int32) < v
      · rw [if_pos h4, if_neg (show ¬ v < 0 by rw [i32lt] at h4 ⊢; omega), if_neg (show ¬ 9 < v by rw [i32lt] at h3 ⊢; omega)]
      · rw [if_neg h4]
        by_cases h1 : v < 0
        · rw [if_pos h1]
        · rw [if_neg h1, if_neg (show ¬ 9 < v by rw [i32lt] at h3 ⊢; omega), ← Int32.toInt_inj]
          rw [i32lt] at h1 h4
          omega
    · rw [if_neg h3, if_pos (show (0 : Int32) < 9 by decide), if_neg (show ¬ v < 0 by rw [i32lt] at h3 ⊢; omega)]
      by_cases h2 : 9 < v
      · rw [if_pos h2]
      · rw [if_neg h2, ← Int32.toInt_inj]
        rw [i32lt] at h2 h3
        omega
  · show v = if (-9999 : Int32) < (if v < 9999 then v else 9999) then (if v < 9999 then v else 9999) else -9999
    obtain ⟨r1, r2⟩ := hv
    by_cases h3 : v < 9999
    · rw [if_pos h3]
      by_cases h4 : -9999 < v
      · rw [if_pos h4]
      · rw [if_neg h4, ← Int32.toInt_inj]
        rw [i32lt] at h4
        omega
    · rw [if_neg h3, if_pos (by decide), ← Int32.toInt_inj]
      rw [i32lt] at h3
      omega
theorem cst_ok {v k : Int32} (hk : xin k 3) (hv : rng v) : okv (cstC k v) k := by
  rw [← cst_eq hk hv]
  have e9 : (9 : Int32).toInt = 9 := by decide
  have e0 : (0 : Int32).toInt = 0 := by decide
  rcases xin3 hk with rfl | rfl | rfl
  · show (0 : Int32).toInt ≤ (if v = 0 then (0 : Int32) else 1).toInt ∧ (if v = 0 then (0 : Int32) else 1).toInt ≤ (1 : Int32).toInt
    by_cases h : v = 0
    · rw [if_pos h]; decide
    · rw [if_neg h]; decide
  · show (0 : Int32).toInt ≤ (if v < 0 then (0 : Int32) else if 9 < v then 9 else v).toInt ∧ (if v < 0 then (0 : Int32) else if 9 < v then 9 else v).toInt ≤ (9 : Int32).toInt
    by_cases h1 : v < 0
    · rw [if_pos h1]; decide
    · rw [if_neg h1]
      by_cases h2 : 9 < v
      · rw [if_pos h2]; decide
      · rw [if_neg h2]
        rw [i32lt] at h1 h2
        omega
  · show (-9999 : Int32).toInt ≤ v.toInt ∧ v.toInt ≤ (9999 : Int32).toInt
    exact hv
/-- a value of its own kind is cast to itself -/
theorem cst_id {v k : Int32} (hk : xin k 3) (h : okv v k) : cstC k v = v := by
  rw [← cst_eq hk (okv_rng hk h)]
  have e9 : (9 : Int32).toInt = 9 := by decide
  have e0 : (0 : Int32).toInt = 0 := by decide
  have e1 : (1 : Int32).toInt = 1 := by decide
  rcases xin3 hk with rfl | rfl | rfl
  · show (if v = 0 then (0 : Int32) else 1) = v
    have h1 : (0 : Int) ≤ v.toInt := h.1
    have h2 : v.toInt ≤ 1 := h.2
    by_cases hz : v = 0
    · rw [if_pos hz, hz]
    · rw [if_neg hz, ← Int32.toInt_inj]
      rw [← Int32.toInt_inj] at hz
      omega
  · show (if v < 0 then (0 : Int32) else if 9 < v then 9 else v) = v
    have h1 : (0 : Int) ≤ v.toInt := h.1
    have h2 : v.toInt ≤ 9 := h.2
    rw [if_neg (by rw [i32lt]; omega), if_neg (by rw [i32lt]; omega)]
  · rfl
theorem WF_B {T : Tb} (h : WF T) : WB T := h.1
theorem WF_k {T : Tb} (h : WF T) {q j : Nat} (hq : q < tn T) (hj : j < 8) : tk T q j = -1 ∨ xin (tk T q j) 3 := by
  rcases h.2.1 q j hq hj with e | e
  · exact Or.inl e
  · exact Or.inr e.1
theorem kge {x : Int32} (h : x = -1 ∨ xin x 3) : (0 : Int) ≤ x.toInt ↔ ¬ x = -1 := by
  rcases h with e | e
  · subst e
    exact ⟨fun z => absurd z (by decide), fun z => absurd rfl z⟩
  · exact ⟨fun _ z => by subst z; exact absurd e.1 (by decide), fun _ => e.1⟩
theorem klt {x : Int32} (h : x = -1 ∨ xin x 3) : x.toInt < (0 : Int) ↔ x = -1 := by
  have := kge h
  constructor
  · intro z
    exact Decidable.by_contra fun w => absurd (this.mpr w) (by omega)
  · intro z
    exact Decidable.by_contra fun w => absurd z (this.mp (by omega))
theorem i1s (x : Int32) : x + 1 - 1 = x := Int32.add_sub_cancel x 1
/-- sets of names are below 256 -/
def m8 (x : Int32) : Prop := x &&& 255 = x
theorem m8_hb {x : Int32} : m8 x ↔ ∀ i : Nat, 8 ≤ i → hb x i = false := by
  unfold m8
  have e255 : ∀ i : Nat, hb 255 i = decide (i < 8) := by
    intro i
    rcases Nat.lt_or_ge i 32 with q1 | q1
    · exact (show ∀ i : Nat, i < 32 → hb 255 i = decide (i < 8) by decide +kernel) i q1
    · unfold hb
      rw [BitVec.getLsbD_of_ge _ _ q1]
      exact (decide_eq_false (by omega)).symm
  constructor
  · intro h i hi
    rw [← h, hb_and, e255 i, decide_eq_false (by omega), Bool.and_false]
  · intro h
    rw [← Int32.toBitVec_inj]
    apply BitVec.eq_of_getLsbD_eq
    intro i _
    show hb (x &&& 255) i = hb x i
    rw [hb_and, e255]
    by_cases hi : i < 8
    · rw [decide_eq_true hi, Bool.and_true]
    · rw [h i (by omega), Bool.false_and]
theorem m8_and {x y : Int32} (h : m8 x) : m8 (x &&& y) := m8_hb.mpr fun i hi => by rw [hb_and, m8_hb.mp h i hi, Bool.false_and]
theorem m8_and' {x y : Int32} (h : m8 y) : m8 (x &&& y) := m8_hb.mpr fun i hi => by rw [hb_and, m8_hb.mp h i hi, Bool.and_false]
theorem m8_or {x y : Int32} (h : m8 x) (h2 : m8 y) : m8 (x ||| y) := m8_hb.mpr fun i hi => by rw [hb_or, m8_hb.mp h i hi, m8_hb.mp h2 i hi, Bool.or_false]
theorem m8_0 : m8 0 := by
  unfold m8
  decide
theorem m8_bitN : ∀ j : Nat, j < 8 → m8 (bitN j) := by
  intro j hj
  exact (show ∀ j : Nat, j < 8 → bitN j &&& 255 = bitN j by decide +kernel) j hj
theorem m8_orf {f : Nat → Int32} : ∀ n : Nat, (∀ i : Nat, i < n → m8 (f i)) → m8 (orf f n) := by
  intro n
  induction n with
  | zero => intro _; exact m8_0
  | succ n ih => intro h; exact m8_or (ih fun i hi => h i (by omega)) (h n (by omega))
theorem m8_nmS {T : Tb} {q : Nat} : m8 (nmS T q) := m8_orf 8 fun i hi => by
  by_cases e : tk T q i = -1
  · rw [if_pos e]; exact m8_0
  · rw [if_neg e]; exact m8_bitN i hi
theorem m8_shr {T : Tb} {a : Nat} : ∀ k : Nat, m8 (shr T a k)
  | 0 => m8_nmS
  | _ + 1 => m8_and (m8_shr _)
theorem m8_shN {T : Tb} {a b : Nat} : m8 (shN T a b) := by
  unfold shN
  by_cases e : b < a
  · rw [if_pos e]; exact m8_0
  · rw [if_neg e]; exact m8_shr _
theorem m8_255 {x : Int32} (h : m8 x) : 255 &&& x = x := by
  rw [Int32.and_comm]
  exact h
theorem m8_nI {x : Int32} (h : m8 x) : ∃ w : Nat, w < 256 ∧ x = nI w := by
  obtain ⟨w, hw, e⟩ := pk_andE x (m := 255) 8 (by decide)
  exact ⟨w, hw, h.symm.trans e⟩
/-- Kernighan's step -/
theorem onesStep : ∀ w : Nat, w < 256 → 0 < w → nI w &&& (nI w - 1) = nI (w &&& (w - 1)) ∧ bcn (nI w) = bcn (nI (w &&& (w - 1))) + 1 := by decide +kernel
theorem onesLess {w : Nat} (h : 0 < w) : w &&& (w - 1) < w := Nat.lt_of_le_of_lt Nat.and_le_right (by omega)
theorem bcn0 : bcn (nI 0) = 0 := by decide
/-- a bit of a set, as the reference asks for it -/
theorem bit1 : ∀ j : Nat, j < 8 → ∀ w : Nat, w < 256 → (((nI w) >>> (nI j &&& 31)) &&& 1 = 1 ↔ hb (nI w) j = true) := by decide +kernel
theorem bit1z : ∀ j : Nat, j < 8 → ∀ w : Nat, w < 256 → (((nI w) >>> (nI j &&& 31)) &&& 1 = 0 ↔ hb (nI w) j = false) := by decide +kernel
theorem bitOne {x : Int32} {j : Nat} (h : m8 x) (hj : j < 8) : (x >>> (nI j &&& 31)) &&& 1 = 1 ↔ ¬ (x &&& bitN j) = 0 := by
  obtain ⟨w, hw, rfl⟩ := m8_nI h
  rw [has_iff' hj]
  exact bit1 j hj w hw
theorem bitZero {x : Int32} {j : Nat} (h : m8 x) (hj : j < 8) : (x >>> (nI j &&& 31)) &&& 1 = 0 ↔ (x &&& bitN j) = 0 := by
  obtain ⟨w, hw, rfl⟩ := m8_nI h
  rw [has_iff hj]
  exact bit1z j hj w hw
theorem kltI {x : Int32} (h : x = -1 ∨ xin x 3) : x < 0 ↔ x = -1 := (cLt rfl (by decide)).trans (klt h)
theorem kgeI {x : Int32} (h : x = -1 ∨ xin x 3) : 0 ≤ x ↔ ¬ x = -1 := (cLe (by decide) rfl).trans (kge h)
theorem orf_add {f : Nat → Int32} {n : Nat} {v : Int32} (h : f n = v) : orf f n ||| v = orf f (n + 1) := by rw [orf, h]
theorem clos_iff {T : Tb} {q i j : Nat} (hv : WF T) (hq : q < tn T) (hi : i < tr T) (hj : j < 8) (h1 : ¬ tk T (ts T i) j = -1) (h2 : ¬ tk T q j = -1) : (¬ cst (cst (tv T i j) (tk T q j)) (tk T (ts T i) j) = tv T i j) ↔ clos T q i j := by
  have hs := hv.1.2.2.2 i hi
  have k1 := (WF_k hv hs hj).resolve_left h1
  have k2 := (WF_k hv hq hj).resolve_left h2
  have o1 := (hv.2.2 i j hi hj).resolve_left h1
  rw [cst_eq k2 (okv_rng k1 o1), cst_eq k1 (okv_rng k2 (cst_ok k2 (okv_rng k1 o1)))]
theorem rd_eq {T : Tb} {q i j : Nat} (hv : WF T) (hq : q < tn T) (hi : i < tr T) (hj : j < 8) (h1 : ¬ tk T (ts T i) j = -1) (h2 : ¬ tk T q j = -1) : cst (tv T i j) (tk T q j) = cstC (tk T q j) (tv T i j) := by
  have hs := hv.1.2.2.2 i hi
  have k1 := (WF_k hv hs hj).resolve_left h1
  have k2 := (WF_k hv hq hj).resolve_left h2
  have o1 := (hv.2.2 i j hi hj).resolve_left h1
  exact cst_eq k2 (okv_rng k1 o1)
/-- the names that n rows from a on share, from all names downwards -/
def cmF (T : Tb) (a : Nat) : Nat → Int32
  | 0 => 255
  | k + 1 => cmF T a k &&& nmS T (ts T (a + k))
theorem cmF_shr {T : Tb} {a : Nat} : ∀ k : Nat, cmF T a (k + 1) = shr T a k := by
  intro k
  induction k with
  | zero =>
    rw [cmF, cmF, shr]
    exact m8_255 m8_nmS
  | succ k ih => rw [cmF, ih, shr]
theorem cmF_shN {T : Tb} {a b : Nat} (h : ¬ b < a) : cmF T a (b + 1 - a) = shN T a b := by
  rw [shN, if_neg h, show b + 1 - a = (b - a) + 1 by omega]
  exact cmF_shr _
abbrev dfJ (T : Tb) (a b j : Nat) : Prop := ¬ (shN T a b &&& bitN j) = 0 ∧ ¬ tk T (tn T - 1) j = -1
def dfC (T : Tb) (a j : Nat) : Nat → Int32 := sm (fun k => if tv T (a + k) j = td T (tn T - 1) j then 1 else 0)
def dfM (T : Tb) (a b : Nat) : Nat → Int32 := sm (fun j => if dfJ T a b j then dfC T a j (b + 1 - a) else 0)
theorem sm_0 {n : Nat} : sm (fun _ => 0) n = 0 := by
  induction n with
  | zero => rfl
  | succ n ih => rw [sm, ih]; rfl
theorem sm_plus {f g : Nat → Int32} {n : Nat} : sm (fun i => f i + g i) n = sm f n + sm g n := by
  induction n with
  | zero => rfl
  | succ n ih =>
    rw [sm, sm, sm, ih, Int32.add_assoc, Int32.add_assoc]
    rw [← Int32.add_assoc (sm g n), Int32.add_comm (sm g n) (f n), Int32.add_assoc (f n)]
theorem sm_swap {f : Nat → Nat → Int32} {m : Nat} : ∀ n : Nat, sm (fun i => sm (fun j => f i j) m) n = sm (fun j => sm (fun i => f i j) n) m := by
  intro n
  induction n with
  | zero => exact sm_0.symm
  | succ n ih =>
    rw [sm, ih]
    show _ = sm (fun j => sm (fun i => f i j) n + f n j) m
    rw [sm_plus]
theorem dfM_eq {T : Tb} {a b : Nat} : dfM T a b 8 = dfV T a b := by
  unfold dfM dfV dfR dfC
  rw [sm_swap]
  apply sm_congr
  intro j hj
  have e : (¬ (shN T a b &&& nmS T (tn T - 1) &&& bitN j) = 0) ↔ dfJ T a b j := by
    rw [has_iff' hj, hb_and, Bool.and_eq_true, ← has_iff' hj, nmS_bit hj]
  by_cases h : dfJ T a b j
  · rw [if_pos h]
    apply sm_congr
    intro k hk
    by_cases h2 : tv T (a + k) j = td T (tn T - 1) j
    · rw [if_pos h2, if_pos ⟨e.mpr h, h2⟩]
    · rw [if_neg h2, if_neg (fun z => h2 z.2)]
  · rw [if_neg h]
    refine (Eq.trans (sm_congr (g := fun _ => 0) ?_) sm_0).symm
    intro k hk
    rw [if_neg (fun z => h (e.mp z.1))]
abbrev oldV (T : Tb) (a j i k : Nat) : Prop := ¬ ∀ z : Nat, z < k → ¬ tv T (a + z) j = tv T i j
/-! the whole state: the table, the history, the snapshot, the text, the latest stop -/
def recH (h : Nat → Tb) (n : Nat) (T : Tb) : Nat → Tb := if n = 4 then (fun k => if k = 3 then T else h (k + 1)) else (fun k => if k = n then T else h k)
def recN (n : Nat) : Nat := if n = 4 then 4 else n + 1
def flg : Option Tb → Int32
  | none => 0
  | some _ => 1
def soM : Option (Nat × Int32) → Int32
  | none => -10005
  | some q => nI q.1
def seM : Option (Nat × Int32) → Int32
  | none => -10005
  | some q => q.2
/-- a state as it may be -/
def WX (T : Tb) (hh : Nat → Tb) (hn : Nat) (sn : Option Tb) (tx : Nat → Int32) (ln : Nat) (sp : Option (Nat × Int32)) : Prop := WF T ∧ hn ≤ 4 ∧ (∀ k : Nat, k < hn → WF (hh k)) ∧ (∀ S : Tb, sn = some S → WF S) ∧ ln ≤ 80 ∧ (∀ z : Nat, z < ln → xin (tx z) 65536) ∧ (∀ k : Nat × Int32, sp = some k → k.1 < 20)
/-- an act: what becomes of the table and of the history -/
def acT (r : Int32 × Tb) (T : Tb) : Tb := if -10001 < r.1 then r.2 else T
def acH (r : Int32 × Tb) (T : Tb) (hh : Nat → Tb) (hn : Nat) : Nat → Tb := if -10001 < r.1 then recH hh hn T else hh
def acN (r : Int32 × Tb) (hn : Nat) : Nat := if -10001 < r.1 then recN hn else hn
theorem recN_le {n : Nat} (h : n ≤ 4) : recN n ≤ 4 := by
  unfold recN
  by_cases e : n = 4
  · rw [if_pos e]; omega
  · rw [if_neg e]; omega
def aAdd (T : Tb) (j : Nat) (kd d : Int32) : Int32 × Tb := if tk T (tn T - 1) j = -1 then (if tn T < 30 then (nI (tn T), bgn T j kd d) else (-10003, T)) else (-10004, T)
def aDrop (T : Tb) (j : Nat) : Int32 × Tb := if ¬ tk T (tn T - 1) j = -1 then (if tn T < 30 then (nI (tn T), bgn T j (-1) 0) else (-10003, T)) else (-10001, T)
def aKind (T : Tb) (j : Nat) (kd : Int32) : Int32 × Tb := if ¬ tk T (tn T - 1) j = -1 then (if tn T < 30 then (if tk T (tn T - 1) j = kd then (-10005, T) else (nI (tn T), bgn T j kd (cstC kd (td T (tn T - 1) j)))) else (-10003, T)) else (-10001, T)
theorem sAdd_a {T : Tb} {j : Nat} {kd d : Int32} (hj : j < 8) (h1 : xin kd 3) (h2 : okv d kd) : sAdd T (nI j) kd d = aAdd T j kd d := by
  rw [sAdd, if_pos (xin_nI hj (by decide)), if_pos ⟨h1, h2⟩, ix_nI (by omega), aAdd]
theorem sDrop_a {T : Tb} {j : Nat} (hj : j < 8) : sDrop T (nI j) = aDrop T j := by
  rw [sDrop, aDrop, ix_nI (by omega)]
  by_cases h : tk T (tn T - 1) j = -1
  · rw [if_neg (fun z => z.2 h), if_neg (fun z => z h)]
  · rw [if_pos ⟨xin_nI hj (by decide), h⟩, if_pos h]
theorem sKind_a {T : Tb} {j : Nat} {kd : Int32} (hj : j < 8) (h1 : xin kd 3) : sKind T (nI j) kd = aKind T j kd := by
  rw [sKind, aKind, ix_nI (by omega)]
  by_cases h : tk T (tn T - 1) j = -1
  · rw [if_neg (fun z => z.2 h), if_neg (fun z => z h)]
  · rw [if_pos ⟨xin_nI hj (by decide), h⟩, if_pos h, if_pos h1]
/-! the acts keep a table as it may be -/
theorem WF_bgn {T : Tb} {j : Nat} {kd d : Int32} (h : WF T) (hm : tn T < 30) (hj : j < 8) (hk : kd = -1 ∨ (xin kd 3 ∧ okv d kd)) : WF (bgn T j kd d) := by
  obtain ⟨⟨w1, w2, w3, w4⟩, w5, w6⟩ := h
  refine ⟨⟨Nat.le_add_left 1 _, hm, w3, fun i hi => Nat.lt_succ_of_lt (w4 i hi)⟩, fun q i hq hi => ?_, fun i j1 hi hj1 => ?_⟩
  · have hq2 : q < tn T + 1 := hq
    show (if q = tn T then (if i = j then kd else tk T (tn T - 1) i) else tk T q i) = -1 ∨ (xin (if q = tn T then (if i = j then kd else tk T (tn T - 1) i) else tk T q i) 3 ∧ okv (if q = tn T then (if i = j then d else td T (tn T - 1) i) else td T q i) (if q = tn T then (if i = j then kd else tk T (tn T - 1) i) else tk T q i))
    by_cases c1 : q = tn T
    · simp only [if_pos c1]
      by_cases c2 : i = j
      · simp only [if_pos c2]; exact hk
      · simp only [if_neg c2]; exact w5 _ i (by omega) hi
    · simp only [if_neg c1]; exact w5 q i (by omega) hi
  · have hs := w4 i hi
    have e : tk (bgn T j kd d) (ts (bgn T j kd d) i) j1 = tk T (ts T i) j1 := by
      show (if ts T i = tn T then _ else tk T (ts T i) j1) = _
      rw [if_neg (by omega)]
    rw [e]
    exact w6 i j1 hi hj1
theorem WF_wrt {T : Tb} (h : WF T) (hm : tr T < 24) : WF (wrt T) := by
  obtain ⟨⟨w1, w2, w3, w4⟩, w5, w6⟩ := h
  refine ⟨⟨w1, w2, hm, fun i hi => ?_⟩, fun q i hq hi => w5 q i hq hi, fun i j hi hj => ?_⟩
  · have hi2 : i < tr T + 1 := hi
    show (if i = tr T then tn T - 1 else ts T i) < tn T
    by_cases e : i = tr T
    · rw [if_pos e]; omega
    · rw [if_neg e]; exact w4 i (by omega)
  · have hi2 : i < tr T + 1 := hi
    show tk T (if i = tr T then tn T - 1 else ts T i) j = -1 ∨ okv (if i = tr T then td T (tn T - 1) j else tv T i j) (tk T (if i = tr T then tn T - 1 else ts T i) j)
    by_cases e : i = tr T
    · simp only [if_pos e]
      rcases w5 (tn T - 1) j (by omega) hj with z | z
      · exact Or.inl z
      · exact Or.inr z.2
    · simp only [if_neg e]; exact w6 i j (by omega) hj
theorem WF_setv {T : Tb} {i j : Nat} {v : Int32} (h : WF T) (hv : okv v (tk T (ts T i) j)) : WF (setv T i j v) := by
  obtain ⟨w0, w5, w6⟩ := h
  refine ⟨w0, w5, fun i2 j2 hi hj => ?_⟩
  show tk T (ts T i2) j2 = -1 ∨ okv (if i2 = i ∧ j2 = j then v else tv T i2 j2) (tk T (ts T i2) j2)
  by_cases e : i2 = i ∧ j2 = j
  · simp only [if_pos e]; rw [e.1, e.2]; exact Or.inr hv
  · simp only [if_neg e]; exact w6 i2 j2 hi hj
theorem WF_rmv {T : Tb} {i : Nat} (h : WF T) (hi : i < tr T) : WF (rmv T i) := by
  obtain ⟨⟨w1, w2, w3, w4⟩, w5, w6⟩ := h
  refine ⟨⟨w1, w2, Nat.le_trans (Nat.sub_le _ _) w3, fun i2 hi2 => ?_⟩, w5, fun i2 j hi2 hj => ?_⟩
  · have hi3 : i2 < tr T - 1 := hi2
    show (if i2 < i then ts T i2 else ts T (i2 + 1)) < tn T
    by_cases e : i2 < i
    · rw [if_pos e]; exact w4 _ (by omega)
    · rw [if_neg e]; exact w4 _ (by omega)
  · have hi3 : i2 < tr T - 1 := hi2
    show tk T (if i2 < i then ts T i2 else ts T (i2 + 1)) j = -1 ∨ okv (if i2 < i then tv T i2 j else tv T (i2 + 1) j) (tk T (if i2 < i then ts T i2 else ts T (i2 + 1)) j)
    by_cases e : i2 < i
    · simp only [if_pos e]; exact w6 _ j (by omega) hj
    · simp only [if_neg e]; exact w6 _ j (by omega) hj
theorem WF_fgt {T : Tb} {n : Nat} (h : WF T) (hn : n < tn T) (hs : ∀ i : Nat, i < tr T → n ≤ ts T i) : WF (fgt T n) := by
  obtain ⟨⟨w1, w2, w3, w4⟩, w5, w6⟩ := h
  refine ⟨⟨?_, Nat.le_trans (Nat.sub_le _ _) w2, w3, fun i hi => ?_⟩, fun q j hq hj => ?_, fun i j hi hj => ?_⟩
  · show 1 ≤ tn T - n; omega
  · have hi2 : i < tr T := hi
    have a1 := w4 i hi2
    have a2 := hs i hi2
    show ts T i - n < tn T - n
    omega
  · have hq2 : q < tn T - n := hq
    exact w5 (q + n) j (by omega) hj
  · have hi2 : i < tr T := hi
    have a2 := hs i hi2
    have e : tk (fgt T n) (ts (fgt T n) i) j = tk T (ts T i) j := by
      show tk T (ts T i - n + n) j = _
      rw [show ts T i - n + n = ts T i by omega]
    rw [e]
    exact w6 i j hi2 hj
theorem WF_dre {T : Tb} {i : Nat} (h : WF T) (hi : i < tr T) : WF (dre T i) := by
  obtain ⟨⟨w1, w2, w3, w4⟩, w5, w6⟩ := id h
  refine ⟨⟨w1, w2, w3, fun i2 hi2 => ?_⟩, w5, fun i2 j hi2 hj => ?_⟩
  · have hi3 : i2 < tr T := hi2
    show (if i2 = i then tn T - 1 else ts T i2) < tn T
    by_cases e : i2 = i
    · rw [if_pos e]; omega
    · rw [if_neg e]; exact w4 _ hi3
  · have hi3 : i2 < tr T := hi2
    show tk T (if i2 = i then tn T - 1 else ts T i2) j = -1 ∨ okv (if i2 = i then rdC T (tn T - 1) i j else tv T i2 j) (tk T (if i2 = i then tn T - 1 else ts T i2) j)
    by_cases e : i2 = i
    · simp only [if_pos e]
      rcases w5 (tn T - 1) j (by omega) hj with z | z
      · exact Or.inl z
      · right
        unfold rdC
        by_cases c : tk T (ts T i) j = -1
        · rw [if_pos c]; exact z.2
        · rw [if_neg c]
          have k1 := (WF_k h (w4 i hi) hj).resolve_left c
          exact cst_ok z.1 (okv_rng k1 ((w6 i j hi hj).resolve_left c))
    · simp only [if_neg e]; exact w6 _ j hi3 hj
theorem WF_mkP {T : Tb} {a : Nat} (h : WF T) : ∀ k : Nat, a + k ≤ tr T → WF (mkP T a k) := by
  intro k
  induction k with
  | zero => intro _; exact h
  | succ k ih =>
    intro hk
    rw [mkP]
    by_cases e : ts T (a + k) = tn T - 1
    · rw [if_pos e]; exact ih (by omega)
    · rw [if_neg e]
      refine WF_dre (ih (by omega)) ?_
      rw [(mkP_out k).2.1]
      omega
theorem WF_aAdd {T : Tb} {j : Nat} {kd d : Int32} (h : WF T) (hj : j < 8) (h1 : xin kd 3) (h2 : okv d kd) : WF (aAdd T j kd d).2 := by
  unfold aAdd
  by_cases c : tk T (tn T - 1) j = -1
  · rw [if_pos c]
    by_cases c2 : tn T < 30
    · rw [if_pos c2]; exact WF_bgn h c2 hj (Or.inr ⟨h1, h2⟩)
    · rw [if_neg c2]; exact h
  · rw [if_neg c]; exact h
theorem WF_aDrop {T : Tb} {j : Nat} (h : WF T) (hj : j < 8) : WF (aDrop T j).2 := by
  unfold aDrop
  by_cases c : ¬ tk T (tn T - 1) j = -1
  · rw [if_pos c]
    by_cases c2 : tn T < 30
    · rw [if_pos c2]; exact WF_bgn h c2 hj (Or.inl rfl)
    · rw [if_neg c2]; exact h
  · rw [if_neg c]; exact h
theorem WF_aKind {T : Tb} {j : Nat} {kd : Int32} (h : WF T) (hj : j < 8) (h1 : xin kd 3) : WF (aKind T j kd).2 := by
  unfold aKind
  by_cases c : ¬ tk T (tn T - 1) j = -1
  · rw [if_pos c]
    by_cases c2 : tn T < 30
    · rw [if_pos c2]
      by_cases c3 : tk T (tn T - 1) j = kd
      · rw [if_pos c3]; exact h
      · rw [if_neg c3]
        have o := (h.2.1 (tn T - 1) j (by have := h.1.1; omega) hj).resolve_left c
        exact WF_bgn h c2 hj (Or.inr ⟨h1, cst_ok h1 (okv_rng o.1 o.2)⟩)
    · rw [if_neg c2]; exact h
  · rw [if_neg c]; exact h
theorem WF_sRow {T : Tb} (h : WF T) : WF (sRow T).2 := by
  unfold sRow
  by_cases c : tr T < 24
  · rw [if_pos c]; exact WF_wrt h c
  · rw [if_neg c]; exact h
theorem WF_sSet {T : Tb} {x y v : Int32} (h : WF T) : WF (sSet T x y v).2 := by
  unfold sSet
  by_cases c : (xin x (tr T) ∧ xin y 8) ∧ ¬ tk T (ts T (ix x)) (ix y) = -1
  · rw [if_pos c]
    by_cases c2 : okv v (tk T (ts T (ix x)) (ix y))
    · rw [if_pos c2]
      by_cases c3 : tv T (ix x) (ix y) = v
      · rw [if_pos c3]; exact h
      · rw [if_neg c3]; exact WF_setv h c2
    · rw [if_neg c2]; exact h
  · rw [if_neg c]; exact h
theorem act_pos {n : Nat} (h : n < 2 ^ 31) : (-10001 : Int32) < nI n := by
  rw [i32lt, nI_toInt h, show (-10001 : Int32).toInt = -10001 by decide]
  omega
/-- rows of a season, counted -/
def wrC (T : Tb) (q : Nat) : Nat → Nat
  | 0 => 0
  | n + 1 => wrC T q n + (if ts T n = q then 1 else 0)
theorem wrC_le {T : Tb} {q : Nat} : ∀ n : Nat, wrC T q n ≤ n := by
  intro n
  induction n with
  | zero => exact Nat.le_refl 0
  | succ n ih =>
    rw [wrC]
    by_cases e : ts T n = q
    · rw [if_pos e]; omega
    · rw [if_neg e]; omega
theorem wrC_0 {T : Tb} {q : Nat} : ∀ n : Nat, wrC T q n = 0 ↔ ∀ i : Nat, i < n → ¬ ts T i = q := by
  intro n
  induction n with
  | zero => exact ⟨fun _ i hi => absurd hi (Nat.not_lt_zero _), fun _ => rfl⟩
  | succ n ih =>
    rw [wrC]
    by_cases e : ts T n = q
    · rw [if_pos e]
      exact ⟨fun z => absurd z (by omega), fun z => absurd e (z n (by omega))⟩
    · rw [if_neg e, Nat.add_zero, ih]
      constructor
      · intro z i hi
        rcases Nat.lt_or_ge i n with q1 | q1
        · exact z i q1
        · rw [show i = n by omega]; exact e
      · intro z i hi
        exact z i (by omega)
theorem wear_C {T : Tb} {q : Nat} (hw : WB T) (hq : q < 2 ^ 31) : wear T q = nI (wrC T q (tr T)) := by
  have key : ∀ n : Nat, n ≤ tr T → sm (fun i => if nI (ts T i) = nI q then 1 else 0) n = nI (wrC T q n) := by
    intro n
    induction n with
    | zero => intro _; rfl
    | succ n ih =>
      intro hn
      have hs := hw.2.2.2 n (by omega)
      have h30 := hw.2.1
      rw [sm, ih (by omega), wrC]
      by_cases e : ts T n = q
      · rw [if_pos (by rw [e]), if_pos e]; exact nI_1 _
      · rw [if_neg (fun z => e ((nI_eq (by omega) hq).mp z)), if_neg e, Int32.add_zero, Nat.add_zero]
  exact key _ (Nat.le_refl _)
theorem wear_0 {T : Tb} {q : Nat} (hw : WB T) (hq : q < 2 ^ 31) : wear T q = 0 ↔ ∀ i : Nat, i < tr T → ¬ ts T i = q := by
  have := wrC_le (T := T) (q := q) (tr T)
  have := hw.2.2.1
  rw [wear_C hw hq, ← wrC_0]
  exact nI_eq (b := 0) (by omega) (by omega)
theorem fgF_at {T : Tb} : ∀ k : Nat, fgF T k = tn T - 1 ∨ ∃ i : Nat, i < k ∧ ts T i = fgF T k := by
  intro k
  induction k with
  | zero => exact Or.inl rfl
  | succ k ih =>
    rw [fgF]
    by_cases e : ts T k < fgF T k
    · rw [if_pos e]; exact Or.inr ⟨k, by omega, rfl⟩
    · rw [if_neg e]
      rcases ih with z | ⟨i, z1, z2⟩
      · exact Or.inl z
      · exact Or.inr ⟨i, by omega, z2⟩
theorem fgm_is {T : Tb} {n : Nat} (h1 : n ≤ tn T - 1) (h2 : ∀ q : Nat, q < n → ∀ i : Nat, i < tr T → ¬ ts T i = q) (h3 : n = tn T - 1 ∨ ∃ i : Nat, i < tr T ∧ ts T i = n) : fgm T = n := by
  have a1 := fgF_le (T := T) (tr T)
  have a2 := fgF_at (T := T) (tr T)
  unfold fgm
  apply Nat.le_antisymm
  · rcases h3 with z | ⟨i, z1, z2⟩
    · rw [z]; exact a1.1
    · rw [← z2]; exact a1.2 i z1
  · rcases a2 with z | ⟨i, z1, z2⟩
    · rw [z]; exact h1
    · rcases Nat.lt_or_ge (fgF T (tr T)) n with q1 | q1
      · exact absurd z2 (h2 _ q1 i z1)
      · exact q1
theorem lsR_own {T : Tb} {i : Nat} (h : WF T) (hi : i < tr T) : lsR T (ts T i) i = 0 := by
  unfold lsR
  refine Eq.trans (sm_congr (g := fun _ => 0) ?_) sm_0
  intro j hj
  refine if_neg (fun z => ?_)
  rcases z with ⟨z1, z2 | z2⟩
  · exact z1 z2
  · have k1 := (WF_k h (h.1.2.2.2 i hi) hj).resolve_left z1
    have o1 := (h.2.2 i j hi hj).resolve_left z1
    exact z2 (by rw [cst_id k1 o1, cst_id k1 o1])
theorem mkL_eq {T : Tb} {a : Nat} (h : WF T) : ∀ n : Nat, a + n ≤ tr T → mkL T a n = sm (fun k => lsR T (tn T - 1) (a + k)) n := by
  intro n hn
  unfold mkL
  apply sm_congr
  intro k hk
  by_cases e : ts T (a + k) = tn T - 1
  · rw [if_pos e, ← e, lsR_own h (by omega)]
  · rw [if_neg e]
theorem rd_own {T : Tb} {i j : Nat} (h : WF T) (hi : i < tr T) (hj : j < 8) (hc : ¬ tk T (ts T i) j = -1) : rdC T (ts T i) i j = tv T i j := by
  unfold rdC
  rw [if_neg hc]
  exact cst_id ((WF_k h (h.1.2.2.2 i hi) hj).resolve_left hc) ((h.2.2 i j hi hj).resolve_left hc)
theorem mkP_in {T : Tb} {a : Nat} (h : WF T) : ∀ n : Nat, a + n ≤ tr T → ∀ i : Nat, a ≤ i → i < a + n → ts (mkP T a n) i = tn T - 1 ∧ ∀ j : Nat, j < 8 → ¬ tk T (tn T - 1) j = -1 → tv (mkP T a n) i j = rdC T (tn T - 1) i j := by
  intro n
  induction n with
  | zero => intro _ i h1 h2; exact absurd h2 (by omega)
  | succ n ih =>
    intro hn i h1 h2
    obtain ⟨o1, o2, o3, o4, o5⟩ := mkP_out (T := T) (a := a) n
    rw [mkP]
    by_cases e : ts T (a + n) = tn T - 1
    · rw [if_pos e]
      rcases Nat.lt_or_ge i (a + n) with q1 | q1
      · exact ih (by omega) i h1 q1
      · obtain ⟨e1, e2⟩ := o5 i (by omega)
        have ei : i = a + n := by omega
        rw [e1, e2, ei]
        refine ⟨e, fun j hj hc => ?_⟩
        have := rd_own h (show a + n < tr T by omega) hj (by rw [e]; exact hc)
        rw [e] at this
        exact this.symm
    · rw [if_neg e]
      by_cases ei : i = a + n
      · refine ⟨?_, fun j hj hc => ?_⟩
        · show (if i = a + n then tn (mkP T a n) - 1 else _) = _
          rw [if_pos ei, o1]
        · show (if i = a + n then rdC (mkP T a n) (tn (mkP T a n) - 1) (a + n) j else _) = _
          obtain ⟨e1, e2⟩ := o5 (a + n) (by omega)
          rw [if_pos ei, ei]
          unfold rdC
          rw [o1, o3, o4, e1, e2]
      · obtain ⟨i1, i2⟩ := ih (by omega) i h1 (by omega)
        refine ⟨?_, fun j hj hc => ?_⟩
        · show (if i = a + n then _ else ts (mkP T a n) i) = _
          rw [if_neg ei, i1]
        · show (if i = a + n then _ else tv (mkP T a n) i j) = _
          rw [if_neg ei]
          exact i2 j hj hc
theorem mkL_pos {T : Tb} {a n : Nat} (hn : n ≤ 24) : (-10001 : Int32) < mkL T a n := by
  have key : ∀ n : Nat, n ≤ 24 → ∃ w : Nat, w ≤ 8 * n ∧ mkL T a n = nI w := by
    intro n
    induction n with
    | zero => intro _; exact ⟨0, Nat.le_refl 0, rfl⟩
    | succ n ih =>
      intro h
      obtain ⟨w, w1, w2⟩ := ih (by omega)
      have k8 : ∀ q i m : Nat, m ≤ 8 → ∃ u : Nat, u ≤ m ∧ sm (fun j => if lostC T q i j then 1 else 0) m = nI u := by
        intro q i m
        induction m with
        | zero => intro _; exact ⟨0, Nat.le_refl 0, rfl⟩
        | succ m im =>
          intro h9
          obtain ⟨u, u1, u2⟩ := im (by omega)
          by_cases e : lostC T q i m
          · exact ⟨u + 1, by omega, by rw [sm, u2, if_pos e]; exact nI_1 u⟩
          · exact ⟨u, by omega, by rw [sm, u2, if_neg e, Int32.add_zero]⟩
      by_cases e : ts T (a + n) = tn T - 1
      · exact ⟨w, by omega, by rw [mkL, sm, if_pos e, Int32.add_zero]; exact w2⟩
      · obtain ⟨u, u1, u2⟩ := k8 (tn T - 1) (a + n) 8 (Nat.le_refl 8)
        refine ⟨w + u, by omega, ?_⟩
        rw [mkL, sm, if_neg e]
        show mkL T a n + lsR T (tn T - 1) (a + n) = _
        rw [w2, lsR, u2, nI_add]
  obtain ⟨w, w1, w2⟩ := key n hn
  rw [w2]
  exact act_pos (by omega)
/-! what the telling calls answer -/
def rCol (T : Tb) (q x w : Int32) : Int32 := if xin q (tn T) ∧ xin x 8 then (if xin w 2 then (if tk T (ix q) (ix x) = -1 then -10005 else if w = 0 then tk T (ix q) (ix x) else td T (ix q) (ix x)) else -10002) else -10001
def rSea (T : Tb) (q w : Int32) : Int32 := if xin q (tn T) then (if w = 0 then bcn (nmS T (ix q)) else if w = 1 then nmS T (ix q) else if w = 2 then wear T (ix q) else if w = 3 then newC T (ix q) else -10002) else -10001
def rVal (T : Tb) (x y : Int32) : Int32 := if xin x (tr T) ∧ xin y 8 then (if tk T (ts T (ix x)) (ix y) = -1 then -10005 else tv T (ix x) (ix y)) else -10001
def rRead (T : Tb) (x q y w : Int32) : Int32 := if (xin x (tr T) ∧ xin q (tn T)) ∧ xin y 8 then (if xin w 2 then (if tk T (ix q) (ix y) = -1 then -10005 else if w = 0 then rdC T (ix q) (ix x) (ix y) else howC T (ix q) (ix x) (ix y)) else -10002) else -10001
def rSof (T : Tb) (x : Int32) : Int32 := if xin x (tr T) then nI (ts T (ix x)) else -10001
def rView (T : Tb) (x y w : Int32) : Int32 := if xin x (tr T) ∧ xin y (tr T) then (if w = 0 then shN T (ix x) (ix y) else if w = 1 then nI (ix y + 1 - ix x) else if w = 2 then dfV T (ix x) (ix y) else -10002) else -10001
def vcV (T : Tb) (a b j : Nat) (w : Int32) : Int32 := if w = 0 then wdt T a j (b + 1 - a) else if w = 1 then svs T a j (b + 1 - a) else if w = 2 then lea T a j (b + 1 - a) else if w = 3 then gre T a j (b + 1 - a) else unl T a j (b + 1 - a)
def rVC (T : Tb) (x y z w : Int32) : Int32 := if (xin x (tr T) ∧ xin y (tr T)) ∧ xin z 8 then (if xin w 5 then (if (shN T (ix x) (ix y) &&& bitN (ix z)) = 0 then -10005 else vcV T (ix x) (ix y) (ix z) w) else -10002) else -10001
def rBf (T : Tb) : Int32 := if tr T = 0 then -10005 else nI (bfC T)
def rBs (T : Tb) (w : Int32) : Int32 := if xin w 2 then (if w = 0 then nI (bsC T) else lsA T (bsC T)) else -10002
def rCt (T : Tb) (hn ln : Nat) (w : Int32) : Int32 := if w = 0 then nI (tn T - 1) else if w = 1 then bcn (nmS T (tn T - 1)) else if w = 2 then nI (tr T) else if w = 3 then wear T (tn T - 1) else if w = 4 then allV T else if w = 5 then lsA T (tn T - 1) else if w = 6 then evN T else if w = 7 then nI hn else if w = 8 then nI ln else -10002
/-- the reference's least and greatest: they begin with the first row's value -/
def leM (T : Tb) (a j : Nat) : Nat → Int32
  | 0 => tv T a j
  | k + 1 => if tv T (a + k) j < leM T a j k then tv T (a + k) j else leM T a j k
def grM (T : Tb) (a j : Nat) : Nat → Int32
  | 0 => tv T a j
  | k + 1 => if grM T a j k < tv T (a + k) j then tv T (a + k) j else grM T a j k
theorem i32irr {x : Int32} : ¬ x < x := by
  rw [i32lt]
  omega
theorem leM_eq {T : Tb} {a j : Nat} (h : ∀ i : Nat, rng (tv T (a + i) j) ∨ True) (h0 : rng (tv T a j)) : ∀ k : Nat, leM T a j (k + 1) = lea T a j (k + 1) := by
  intro k
  induction k with
  | zero =>
    show (if tv T (a + 0) j < tv T a j then tv T (a + 0) j else tv T a j) = (if tv T (a + 0) j < 9999 then tv T (a + 0) j else 9999)
    rw [Nat.add_zero, if_neg i32irr]
    by_cases e : tv T a j < 9999
    · rw [if_pos e]
    · rw [if_neg e, ← Int32.toInt_inj]
      rw [i32lt] at e
      have e9 : (9999 : Int32).toInt = 9999 := by decide
      have := h0.2
      omega
  | succ k ih =>
    show (if tv T (a + (k + 1)) j < leM T a j (k + 1) then tv T (a + (k + 1)) j else leM T a j (k + 1)) = i32min (lea T a j (k + 1)) (tv T (a + (k + 1)) j)
    rw [ih]
    rfl
theorem grM_eq {T : Tb} {a j : Nat} (h0 : rng (tv T a j)) : ∀ k : Nat, grM T a j (k + 1) = gre T a j (k + 1) := by
  intro k
  induction k with
  | zero =>
    show (if tv T a j < tv T (a + 0) j then tv T (a + 0) j else tv T a j) = (if -9999 < tv T (a + 0) j then tv T (a + 0) j else -9999)
    rw [Nat.add_zero, if_neg i32irr]
    by_cases e : -9999 < tv T a j
    · rw [if_pos e]
    · rw [if_neg e, ← Int32.toInt_inj]
      rw [i32lt] at e
      have e9 : (-9999 : Int32).toInt = -9999 := by decide
      have := h0.1
      omega
  | succ k ih =>
    show (if grM T a j (k + 1) < tv T (a + (k + 1)) j then tv T (a + (k + 1)) j else grM T a j (k + 1)) = i32max (gre T a j (k + 1)) (tv T (a + (k + 1)) j)
    rw [ih]
    rfl
/-- the reference's search for the best row, downwards in what is left -/
def bfM (T : Tb) : Nat → Int32 × Int32
  | 0 => (-10005, -1)
  | k + 1 => (if (bfM T k).2 < bcn (shN T k (tr T - 1)) then nI k else (bfM T k).1, if (bfM T k).2 < bcn (shN T k (tr T - 1)) then bcn (shN T k (tr T - 1)) else (bfM T k).2)
/-- the same for the seasons -/
def bsM (T : Tb) : Nat → Nat × Int32
  | 0 => (0, lsA T 0)
  | k + 1 => (if lsA T (k + 1) ≤ (bsM T k).2 then k + 1 else (bsM T k).1, if lsA T (k + 1) ≤ (bsM T k).2 then lsA T (k + 1) else (bsM T k).2)
theorem bcn_pos : ∀ w : Nat, w < 256 → (0 : Int) ≤ (bcn (nI w)).toInt := by decide +kernel
theorem bcn_ge {x : Int32} (h : m8 x) : (0 : Int) ≤ (bcn x).toInt := by
  obtain ⟨w, hw, rfl⟩ := m8_nI h
  exact bcn_pos w hw
/-- what is found: the first of the greatest ones -/
theorem bfM_is {T : Tb} : ∀ k : Nat, 1 ≤ k → ∃ b : Nat, b < k ∧ bfM T k = (nI b, bcn (shN T b (tr T - 1))) ∧ (∀ i : Nat, i < k → (bcn (shN T i (tr T - 1))).toInt ≤ (bcn (shN T b (tr T - 1))).toInt) ∧ ∀ i : Nat, i < b → (bcn (shN T i (tr T - 1))).toInt < (bcn (shN T b (tr T - 1))).toInt := by
  intro k
  induction k with
  | zero => intro h; exact absurd h (by omega)
  | succ k ih =>
    intro _
    rcases Nat.eq_zero_or_pos k with e | e
    · subst e
      refine ⟨0, by omega, ?_, fun i hi => by rw [show i = 0 by omega]; exact Int.le_refl _, fun i hi => absurd hi (Nat.not_lt_zero _)⟩
      have hp : (-1 : Int32) < bcn (shN T 0 (tr T - 1)) := by
        rw [i32lt, show (-1 : Int32).toInt = -1 by decide]
        have := bcn_ge (m8_shN (T := T) (a := 0) (b := tr T - 1))
        omega
      show (if (-1 : Int32) < bcn (shN T 0 (tr T - 1)) then nI 0 else -10005, if (-1 : Int32) < bcn (shN T 0 (tr T - 1)) then bcn (shN T 0 (tr T - 1)) else -1) = _
      rw [if_pos hp, if_pos hp]
    · obtain ⟨b, b1, b2, b3, b4⟩ := ih e
      rw [bfM, b2]
      by_cases c : bcn (shN T b (tr T - 1)) < bcn (shN T k (tr T - 1))
      · refine ⟨k, by omega, by simp only [if_pos c], fun i hi => ?_, fun i hi => ?_⟩
        · rcases Nat.lt_or_ge i k with q1 | q1
          · have := b3 i q1
            rw [i32lt] at c
            omega
          · rw [show i = k by omega]
            exact Int.le_refl _
        · have := b3 i hi
          rw [i32lt] at c
          omega
      · refine ⟨b, by omega, by simp only [if_neg c], fun i hi => ?_, b4⟩
        rcases Nat.lt_or_ge i k with q1 | q1
        · exact b3 i q1
        · rw [show i = k by omega]
          rw [i32lt] at c
          omega
/-- the class's search, upwards from the last row -/
theorem bfd_is {T : Tb} (hT : 1 ≤ tr T) : ∀ k : Nat, 1 ≤ k → k ≤ tr T → (bfd T k).1 = shr T (tr T - k) (k - 1) ∧ ∃ b : Nat, tr T - k ≤ b ∧ b < tr T ∧ (bfd T k).2 = (b, bcn (shr T b (tr T - 1 - b))) ∧ (∀ i : Nat, tr T - k ≤ i → i < tr T → (bcn (shr T i (tr T - 1 - i))).toInt ≤ (bcn (shr T b (tr T - 1 - b))).toInt) ∧ ∀ i : Nat, tr T - k ≤ i → i < b → (bcn (shr T i (tr T - 1 - i))).toInt < (bcn (shr T b (tr T - 1 - b))).toInt := by
  intro k
  induction k with
  | zero => intro h; exact absurd h (by omega)
  | succ k ih =>
    intro _ hk
    have hsh : ∀ z : Nat, ∀ a : Nat, shr T a (z + 1) = nmS T (ts T a) &&& shr T (a + 1) z := by
      intro z
      induction z with
      | zero => intro a; rfl
      | succ z iz =>
        intro a
        rw [shr, iz, shr, Int32.and_assoc, show a + (z + 1 + 1) = a + 1 + (z + 1) by omega]
    rcases Nat.eq_zero_or_pos k with e | e
    · subst e
      have g1 : (bfd T 0).1 &&& nmS T (ts T (tr T - 1)) = shr T (tr T - 1) 0 := m8_255 m8_nmS
      have hp : (bfd T 0).2.2 ≤ bcn ((bfd T 0).1 &&& nmS T (ts T (tr T - (0 + 1)))) := by
        show (0 : Int32) ≤ bcn ((bfd T 0).1 &&& nmS T (ts T (tr T - 1)))
        rw [g1, Int32.le_iff_toInt_le]
        exact bcn_ge m8_nmS
      refine ⟨?_, tr T - 1, by omega, by omega, ?_, fun i h1 h2 => by rw [show i = tr T - 1 by omega]; exact Int.le_refl _, fun i h1 h2 => absurd h2 (by omega)⟩
      · rw [bfd]
        simp only [if_pos hp]
        exact g1
      · rw [bfd]
        simp only [if_pos hp]
        show (tr T - 1, bcn ((bfd T 0).1 &&& nmS T (ts T (tr T - 1)))) = _
        rw [g1, show tr T - 1 - (tr T - 1) = 0 by omega]
    · obtain ⟨a1, b, b1, b2, b3, b4, b5⟩ := ih e (by omega)
      have g1 : (bfd T k).1 &&& nmS T (ts T (tr T - (k + 1))) = shr T (tr T - (k + 1)) k := by
        rw [a1, Int32.and_comm, show tr T - k = tr T - (k + 1) + 1 by omega, ← hsh, show k - 1 + 1 = k by omega]
      have b3' : (bfd T k).2.2 = bcn (shr T b (tr T - 1 - b)) := by rw [b3]
      have b3'' : (bfd T k).2.1 = b := by rw [b3]
      rw [bfd]
      simp only [g1, b3', b3'']
      have ek : tr T - 1 - (tr T - (k + 1)) = k := by omega
      by_cases c : bcn (shr T b (tr T - 1 - b)) ≤ bcn (shr T (tr T - (k + 1)) k)
      · simp only [if_pos c]
        rw [Int32.le_iff_toInt_le] at c
        refine ⟨by rw [show k + 1 - 1 = k by omega], tr T - (k + 1), by omega, by omega, by rw [ek], fun i h1 h2 => ?_, fun i h1 h2 => absurd h2 (by omega)⟩
        rw [ek]
        rcases Nat.lt_or_ge (tr T - (k + 1)) i with q1 | q1
        · have := b4 i (by omega) h2
          omega
        · rw [show i = tr T - (k + 1) by omega, ek]
          exact Int.le_refl _
      · simp only [if_neg c]
        rw [Int32.le_iff_toInt_le] at c
        refine ⟨by rw [show k + 1 - 1 = k by omega], b, by omega, b2, rfl, fun i h1 h2 => ?_, fun i h1 h2 => ?_⟩
        · rcases Nat.lt_or_ge (tr T - (k + 1)) i with q1 | q1
          · exact b4 i (by omega) h2
          · rw [show i = tr T - (k + 1) by omega, ek]
            omega
        · rcases Nat.lt_or_ge (tr T - (k + 1)) i with q1 | q1
          · exact b5 i (by omega) h2
          · rw [show i = tr T - (k + 1) by omega, ek]
            omega
theorem bf_eq {T : Tb} (hT : 1 ≤ tr T) : (bfM T (tr T)).1 = nI (bfC T) := by
  obtain ⟨b, b1, b2, b3, b4⟩ := bfM_is (T := T) (tr T) hT
  obtain ⟨-, d, d1, d2, d3, d4, d5⟩ := bfd_is hT (tr T) hT (Nat.le_refl _)
  have es : ∀ i : Nat, i < tr T → shN T i (tr T - 1) = shr T i (tr T - 1 - i) := fun i hi => by rw [shN, if_neg (by omega)]
  have ebd : b = d := by
    rcases Nat.lt_trichotomy b d with q | q | q
    · have x1 := d5 b (by omega) q
      have x2 := b3 d d2
      rw [es d d2, es b b1] at x2
      omega
    · exact q
    · have x1 := b4 d q
      have x2 := d4 b (by omega) b1
      rw [es d d2, es b b1] at x1
      omega
  rw [b2, bfC, d3, ebd]
theorem bsM_is {T : Tb} : ∀ k : Nat, (bsM T k).1 ≤ k ∧ (bsM T k).2 = lsA T (bsM T k).1 ∧ (∀ i : Nat, i ≤ k → (lsA T (bsM T k).1).toInt ≤ (lsA T i).toInt) ∧ ∀ i : Nat, (bsM T k).1 < i → i ≤ k → (lsA T (bsM T k).1).toInt < (lsA T i).toInt := by
  intro k
  induction k with
  | zero => exact ⟨Nat.le_refl 0, rfl, fun i hi => by rw [show i = 0 by omega]; exact Int.le_refl _, fun i h1 h2 => absurd h2 (by omega)⟩
  | succ k ih =>
    obtain ⟨b1, b2, b3, b4⟩ := ih
    rw [bsM]
    by_cases c : lsA T (k + 1) ≤ (bsM T k).2
    · simp only [if_pos c]
      rw [b2, Int32.le_iff_toInt_le] at c
      refine ⟨Nat.le_refl _, trivial, fun i hi => ?_, fun i h1 h2 => absurd h2 (by omega)⟩
      rcases Nat.lt_or_ge k i with q | q
      · rw [show i = k + 1 by omega]; exact Int.le_refl _
      · have := b3 i q
        omega
    · simp only [if_neg c]
      rw [b2, Int32.le_iff_toInt_le] at c
      refine ⟨by omega, b2, fun i hi => ?_, fun i h1 h2 => ?_⟩
      · rcases Nat.lt_or_ge k i with q | q
        · rw [show i = k + 1 by omega]; omega
        · exact b3 i q
      · rcases Nat.lt_or_ge k i with q | q
        · rw [show i = k + 1 by omega]; omega
        · exact b4 i h1 q
theorem bsd_is {T : Tb} (hT : 1 ≤ tn T) : ∀ k : Nat, k ≤ tn T - 1 → tn T - 1 - k ≤ (bsd T k).1 ∧ (bsd T k).1 ≤ tn T - 1 ∧ (bsd T k).2 = lsA T (bsd T k).1 ∧ (∀ i : Nat, tn T - 1 - k ≤ i → i ≤ tn T - 1 → (lsA T (bsd T k).1).toInt ≤ (lsA T i).toInt) ∧ ∀ i : Nat, (bsd T k).1 < i → i ≤ tn T - 1 → (lsA T (bsd T k).1).toInt < (lsA T i).toInt := by
  intro k
  induction k with
  | zero => intro _; exact ⟨Nat.le_refl _, Nat.le_refl _, rfl, fun i h1 h2 => by rw [show i = tn T - 1 by omega]; exact Int.le_refl _, fun i h1 h2 => absurd h2 (by have : (bsd T 0).1 = tn T - 1 := rfl; omega)⟩
  | succ k ih =>
    intro hk
    obtain ⟨b0, b1, b2, b3, b4⟩ := ih (by omega)
    rw [bsd]
    by_cases c : lsA T (tn T - 1 - (k + 1)) < (bsd T k).2
    · simp only [if_pos c]
      rw [b2, i32lt] at c
      refine ⟨Nat.le_refl _, by omega, trivial, fun i h1 h2 => ?_, fun i h1 h2 => ?_⟩
      · rcases Nat.lt_or_ge (tn T - 1 - (k + 1)) i with q | q
        · have := b3 i (by omega) h2
          omega
        · rw [show i = tn T - 1 - (k + 1) by omega]; exact Int.le_refl _
      · have := b3 i (by omega) h2
        omega
    · simp only [if_neg c]
      rw [b2, i32lt] at c
      refine ⟨by omega, b1, b2, fun i h1 h2 => ?_, b4⟩
      rcases Nat.lt_or_ge (tn T - 1 - (k + 1)) i with q | q
      · exact b3 i (by omega) h2
      · rw [show i = tn T - 1 - (k + 1) by omega]; omega
theorem bs_eq {T : Tb} (hT : 1 ≤ tn T) : bsM T (tn T - 1) = (bsC T, lsA T (bsC T)) := by
  obtain ⟨b1, b2, b3, b4⟩ := bsM_is (T := T) (tn T - 1)
  obtain ⟨d0, d1, d2, d3, d4⟩ := bsd_is hT (tn T - 1) (Nat.le_refl _)
  have e : (bsM T (tn T - 1)).1 = bsC T := by
    show (bsM T (tn T - 1)).1 = (bsd T (tn T - 1)).1
    rcases Nat.lt_trichotomy (bsM T (tn T - 1)).1 (bsd T (tn T - 1)).1 with q | q | q
    · have x1 := b4 _ q d1
      have x2 := d3 _ (by omega) b1
      omega
    · exact q
    · have x1 := d4 _ q b1
      have x2 := b3 _ d1
      omega
  exact Prod.ext e (by rw [b2, e])
theorem shN_le {T : Tb} {a b : Nat} {m : Int32} (h : ¬ (shN T a b &&& m) = 0) : a ≤ b := by
  rcases Nat.lt_or_ge b a with q | q
  · exact absurd (by rw [shN, if_pos q, Int32.zero_and]) h
  · exact q
end
section
/-! the class's cells: 0 the object, 1 to 5 the table, 6 the history, 7 its slots, 8 + 5 i the tables in them, 33 to 37 the snapshot, 38 the script, 39 the text, 40 the commands, 41 + i each of them -/
def scC : Option (Nat × Int32) → Int32
  | none => -1
  | some q => nI q.1
def seC : Option (Nat × Int32) → Int32
  | none => -1
  | some q => q.2
def cmd (C : xC) : Prop := ∀ i : Nat, i < 20 → ∃ a b c d e : Int32, C (41 + i) = .inr (0, [.int a, .int b, .int c, .int d, .int e])
/-- the history's ring: o the oldest one -/
def RG (E : xE) (C : xC) (o : Nat) (hh : Nat → Tb) (hn : Nat) : Prop := (∀ i : Nat, i < 5 → ∃ S : Tb, RC E C (8 + 5 * i) S) ∧ ∀ k : Nat, k < hn → RC E C (8 + 5 * ((o + k) % 5)) (hh k)
def CXo (E : xE) (C : xC) (o : Nat) (T : Tb) (hh : Nat → Tb) (hn : Nat) (sn : Option Tb) (tx : Nat → Int32) (ln : Nat) (sp : Option (Nat × Int32)) : Prop := ∃ (sl cm : Nat → Option Nat) (xt : Nat → Int32) (cc pl nu : Int32),
  C (0) = .inr (4, [.ref (E.2.1 (1)), .ref (E.2.1 (6)), .ref (E.2.1 (33)), .int (flg sn), .ref (E.2.1 (38)), .int (scC sp), .int (seC sp)]) ∧ C (6) = .inr (1, [.ref (E.2.1 (7)), .int (nI (o)), .int (nI (hn))]) ∧ C (7) = .inl (E.2.2.1 3, 5, .inr (.inr (.inr (.inr sl)))) ∧ C (38) = .inr (2, [.ref (E.2.1 (39)), .int (nI (ln)), .ref (E.2.1 (40)), .int cc, .int pl, .int nu]) ∧ C (39) = .inl (E.2.2.1 0, 80, .inl xt) ∧ C (40) = .inl (E.2.2.1 2, 20, .inr (.inr (.inr (.inr cm)))) ∧
  o < 5 ∧ (∀ i : Nat, i < 5 → sl i = some (E.2.1 (8 + 5 * i))) ∧ (∀ i : Nat, i < 20 → cm i = some (E.2.1 (41 + i))) ∧ RC E C 1 T ∧ RG E C o hh hn ∧ (∃ S : Tb, RC E C 33 S) ∧ (∀ S : Tb, sn = some S → RC E C 33 S) ∧ (∀ z : Nat, z < ln → xt z = tx z) ∧ cmd C
def CX (E : xE) (C : xC) (T : Tb) (hh : Nat → Tb) (hn : Nat) (sn : Option Tb) (tx : Nat → Int32) (ln : Nat) (sp : Option (Nat × Int32)) : Prop := ∃ o : Nat, CXo E C o T hh hn sn tx ln sp
theorem xin_2 {w : Int32} (h1 : ¬ w.toInt < 0) (h2 : w.toInt ≤ 1) : xin w 2 := ⟨by omega, by omega⟩
theorem nI_max0 {a b : Nat} (ha : a < 2 ^ 20) (hb : b < 2 ^ 20) : (if (0 : Int32) < nI b - nI a + 1 then nI b - nI a + 1 else 0) = nI (b + 1 - a) := by
  rcases Nat.lt_or_ge b a with q | q
  · have e : (nI b - nI a + 1).toInt = (b : Int) - a + 1 := by
      have h1 := pk_sub_toInt (a := b) (b := a) (by omega) (by omega)
      have h2 : nI b - nI a + 1 = nI (b + 1) - nI a := by
        rw [← nI_1, Int32.sub_eq_add_neg, Int32.sub_eq_add_neg, Int32.add_assoc, Int32.add_comm (-nI a), ← Int32.add_assoc]
      rw [h2, pk_sub_toInt (by omega) (by omega)]
      omega
    rw [if_neg (by rw [i32lt, e, show (0 : Int32).toInt = 0 by decide]; omega), show b + 1 - a = 0 by omega]
    rfl
  · rw [pk_sub q, nI_1, if_pos (by rw [i32lt, nI_toInt (by omega), show (0 : Int32).toInt = 0 by decide]; omega), show b - a + 1 = b + 1 - a by omega]
theorem bsC_lt {T : Tb} (hT : 1 ≤ tn T) : bsC T < tn T := by
  have := (bsd_is hT (tn T - 1) (Nat.le_refl _)).2.1
  show (bsd T (tn T - 1)).1 < tn T
  omega
theorem xin2 {w : Int32} (h : xin w 2) : w = 0 ∨ w = 1 := by
  obtain ⟨j, hj, rfl⟩ := xin_of h (by decide)
  rcases (show j = 0 ∨ j = 1 by omega) with rfl | rfl
  · exact Or.inl rfl
  · exact Or.inr rfl
theorem scC_iff {sp : Option (Nat × Int32)} (h : ∀ k : Nat × Int32, sp = some k → k.1 < 2 ^ 31) : scC sp = -1 ↔ sp = none := by
  cases sp with
  | none => exact ⟨fun _ => rfl, fun _ => rfl⟩
  | some q =>
    refine ⟨fun z => ?_, fun z => by cases z⟩
    have z2 : nI q.1 = -1 := z
    have e := nI_toInt (h q rfl)
    rw [z2, show (-1 : Int32).toInt = -1 by decide] at e
    omega
theorem scC_none {sp : Option (Nat × Int32)} (h : sp = none) : sp = none := h
theorem soM_some {sp : Option (Nat × Int32)} (h : ¬ sp = none) : scC sp = soM sp := by
  cases sp with
  | none => exact absurd rfl h
  | some q => rfl
theorem seM_some {sp : Option (Nat × Int32)} (h : ¬ sp = none) : seC sp = seM sp := by
  cases sp with
  | none => exact absurd rfl h
  | some q => rfl
/-! the class's acts -/
def recO (o hn : Nat) : Nat := if hn = 4 then (o + 1) % 5 else o
def DRo (E : xE) (C C1 : xC) (r0 : Int32) (o hn : Nat) : Prop := (-10001 < r0 ∧ C1 (6) = .inr (1, [.ref (E.2.1 (7)), .int (nI (recO o hn)), .int (nI (recN hn))]) ∧ ∀ i : Nat, ¬ i = 6 → C1 i = C i) ∨ (¬ -10001 < r0 ∧ C1 = C)
theorem erP_iff {r : Int32} : (-10001 : Int32) < r ↔ ¬ erP r ∧ ¬ r = -10005 := by
  have e1 : (-10001 : Int32).toInt = -10001 := by decide
  have e5 : (-10005 : Int32).toInt = -10005 := by decide
  rw [i32lt, e1]
  constructor
  · intro h
    refine ⟨fun z => ?_, fun z => ?_⟩
    · have := z.1
      omega
    · rw [z, e5] at h
      omega
  · intro h
    exact Decidable.by_contra fun z => h.1 ⟨by omega, h.2⟩
theorem RG_rec {E : xE} {C C2 C3 : xC} {o hn : Nat} {hh : Nat → Tb} {T : Tb} (ho : o < 5) (hn4 : hn ≤ 4) (h : RG E C o hh hn) (hs : RC E C2 (8 + 5 * ((o + hn) % 5)) T) (hk : ∀ i : Nat, 8 ≤ i → i ≤ 32 → (i < 8 + 5 * ((o + hn) % 5) ∨ 8 + 5 * ((o + hn) % 5) + 4 < i) → C2 i = C i) (he : ∀ i : Nat, 8 ≤ i → i ≤ 32 → C3 i = C2 i) : RG E C3 (recO o hn) (recH hh hn T) (recN hn) := by
  have keep : ∀ (m : Nat) (S : Tb), m < 5 → ¬ m = (o + hn) % 5 → RC E C (8 + 5 * m) S → RC E C3 (8 + 5 * m) S := fun m S hm hne hr => RC_same hr (fun i h1 h2 => by rw [he i (by omega) (by omega), hk i (by omega) (by omega) (by omega)])
  have new : RC E C3 (8 + 5 * ((o + hn) % 5)) T := RC_same hs (fun i h1 h2 => he i (by omega) (by omega))
  refine ⟨fun i hi => ?_, fun k hk2 => ?_⟩
  · by_cases e : i = (o + hn) % 5
    · rw [e]; exact ⟨T, new⟩
    · obtain ⟨S, hS⟩ := h.1 i hi
      exact ⟨S, keep i S hi e hS⟩
  · unfold recN at hk2
    unfold recO recH
    by_cases e4 : hn = 4
    · rw [if_pos e4] at hk2
      rw [if_pos e4, if_pos e4]
      show RC E C3 (8 + 5 * (((o + 1) % 5 + k) % 5)) (if k = 3 then T else hh (k + 1))
      by_cases e3 : k = 3
      · rw [if_pos e3, show ((o + 1) % 5 + k) % 5 = (o + hn) % 5 by omega]
        exact new
      · rw [if_neg e3, show ((o + 1) % 5 + k) % 5 = (o + (k + 1)) % 5 by omega]
        exact keep _ _ (by omega) (by omega) (h.2 (k + 1) (by omega))
    · rw [if_neg e4] at hk2
      rw [if_neg e4, if_neg e4]
      show RC E C3 (8 + 5 * ((o + k) % 5)) (if k = hn then T else hh k)
      by_cases e3 : k = hn
      · rw [if_pos e3, e3]
        exact new
      · rw [if_neg e3]
        exact keep _ _ (by omega) (by omega) (h.2 k (by omega))
/-- prepared, but not recorded: the ring is as it was -/
theorem RG_keep {E : xE} {C C2 C3 : xC} {o hn : Nat} {hh : Nat → Tb} {T : Tb} (ho : o < 5) (hn4 : hn ≤ 4) (h : RG E C o hh hn) (hs : RC E C2 (8 + 5 * ((o + hn) % 5)) T) (hk : ∀ i : Nat, 8 ≤ i → i ≤ 32 → (i < 8 + 5 * ((o + hn) % 5) ∨ 8 + 5 * ((o + hn) % 5) + 4 < i) → C2 i = C i) (he : ∀ i : Nat, 8 ≤ i → i ≤ 32 → C3 i = C2 i) : RG E C3 o hh hn := by
  have keep : ∀ (m : Nat) (S : Tb), m < 5 → ¬ m = (o + hn) % 5 → RC E C (8 + 5 * m) S → RC E C3 (8 + 5 * m) S := fun m S hm hne hr => RC_same hr (fun i h1 h2 => by rw [he i (by omega) (by omega), hk i (by omega) (by omega) (by omega)])
  refine ⟨fun i hi => ?_, fun k hk2 => keep _ _ (by omega) (by omega) (h.2 k hk2)⟩
  by_cases e : i = (o + hn) % 5
  · rw [e]; exact ⟨T, RC_same hs (fun i h1 h2 => he i (by omega) (by omega))⟩
  · obtain ⟨S, hS⟩ := h.1 i hi
    exact ⟨S, keep i S hi e hS⟩
theorem CX_act {E : xE} {C C1 C2 C3 : xC} {r : Int32 × Tb} {o : Nat} {T : Tb} {hh : Nat → Tb} {hn : Nat} {sn : Option Tb} {tx : Nat → Int32} {ln : Nat} {sp : Option (Nat × Int32)} (g : CXo E C o T hh hn sn tx ln sp) (hn4 : hn ≤ 4) (p1 : RC E C1 (8 + 5 * ((o + hn) % 5)) T) (f1 : ∀ i : Nat, i < 8 + 5 * ((o + hn) % 5) ∨ 8 + 5 * ((o + hn) % 5) + 4 < i → C1 i = C i) (p2 : RC E C2 1 r.2) (f2 : ∀ i : Nat, i < 1 ∨ 1 + 4 < i → C2 i = C1 i) (p3 : DRo E C2 C3 r.1 o hn) (hr : ¬ -10001 < r.1 → r.2 = T) : CX E C3 (acT r T) (acH r T hh hn) (acN r hn) sn tx ln sp ∧ ∀ i : Nat, 61 ≤ i → C3 i = C i := by
  obtain ⟨sl, cm, xt, cc, pl, nu, h0, h6, h7, h38, h39, h40, go5, gSL, gCM, gT, gRG, ⟨S0, gSN0⟩, gSN, gTX, gCD⟩ := g
  have q2 : ∀ i : Nat, (i < 1 ∨ 1 + 4 < i) → (i < 8 + 5 * ((o + hn) % 5) ∨ 8 + 5 * ((o + hn) % 5) + 4 < i) → C2 i = C i := fun i a b => (f2 i a).trans (f1 i b)
  rcases p3 with ⟨c, e6, f3⟩ | ⟨c, e3⟩
  · have q3 : ∀ i : Nat, (i < 1 ∨ 1 + 4 < i) → (i < 8 + 5 * ((o + hn) % 5) ∨ 8 + 5 * ((o + hn) % 5) + 4 < i) → ¬ i = 6 → C3 i = C i := fun i a b d => (f3 i d).trans (q2 i a b)
    rw [acT, acH, acN, if_pos c, if_pos c, if_pos c]
    refine ⟨⟨recO o hn, sl, cm, xt, cc, pl, nu, (q3 _ (by omega) (by omega) (by omega)).trans h0, e6, (q3 _ (by omega) (by omega) (by omega)).trans h7, (q3 _ (by omega) (by omega) (by omega)).trans h38, (q3 _ (by omega) (by omega) (by omega)).trans h39, (q3 _ (by omega) (by omega) (by omega)).trans h40, ?_, gSL, gCM, RC_same p2 (fun i a b => f3 i (by omega)), RG_rec go5 hn4 gRG (RC_same p1 (fun i a b => f2 i (by omega))) (fun i a b d => q2 i (by omega) d) (fun i a b => f3 i (by omega)), ⟨S0, RC_same gSN0 (fun i a b => q3 i (by omega) (by omega) (by omega))⟩, fun S hS => RC_same (gSN S hS) (fun i a b => q3 i (by omega) (by omega) (by omega)), gTX, fun i hi => ?_⟩, fun i hi => q3 i (by omega) (by omega) (by omega)⟩
    · unfold recO
      by_cases e : hn = 4
      · rw [if_pos e]; omega
      · rw [if_neg e]; exact go5
    · obtain ⟨a, b, d, e, f, hc⟩ := gCD i hi
      exact ⟨a, b, d, e, f, (q3 _ (by omega) (by omega) (by omega)).trans hc⟩
  · subst e3
    rw [acT, acH, acN, if_neg c, if_neg c, if_neg c]
    rw [hr c] at p2
    refine ⟨⟨o, sl, cm, xt, cc, pl, nu, (q2 _ (by omega) (by omega)).trans h0, (q2 _ (by omega) (by omega)).trans h6, (q2 _ (by omega) (by omega)).trans h7, (q2 _ (by omega) (by omega)).trans h38, (q2 _ (by omega) (by omega)).trans h39, (q2 _ (by omega) (by omega)).trans h40, go5, gSL, gCM, p2, RG_keep go5 hn4 gRG (RC_same p1 (fun i a b => f2 i (by omega))) (fun i a b d => q2 i (by omega) d) (fun i a b => rfl), ⟨S0, RC_same gSN0 (fun i a b => q2 i (by omega) (by omega))⟩, fun S hS => RC_same (gSN S hS) (fun i a b => q2 i (by omega) (by omega)), gTX, fun i hi => ?_⟩, fun i hi => q2 i (by omega) (by omega)⟩
    obtain ⟨a, b, d, e, f, hc⟩ := gCD i hi
    exact ⟨a, b, d, e, f, (q2 _ (by omega) (by omega)).trans hc⟩
theorem e_sAdd {T : Tb} {x k d : Int32} (hw : WB T) (h : ¬ -10001 < (sAdd T x k d).1) : (sAdd T x k d).2 = T := by
  unfold sAdd at h ⊢
  by_cases c1 : xin x 8
  · rw [if_pos c1] at h ⊢
    by_cases c2 : xin k 3 ∧ okv d k
    · rw [if_pos c2] at h ⊢
      by_cases c3 : tk T (tn T - 1) (ix x) = -1
      · rw [if_pos c3] at h ⊢
        by_cases c4 : tn T < 30
        · rw [if_pos c4] at h
          exact absurd (act_pos (by omega)) h
        · rw [if_neg c4]
      · rw [if_neg c3]
    · rw [if_neg c2]
  · rw [if_neg c1]
theorem e_sDrop {T : Tb} {x : Int32} (hw : WB T) (h : ¬ -10001 < (sDrop T x).1) : (sDrop T x).2 = T := by
  unfold sDrop at h ⊢
  by_cases c1 : xin x 8 ∧ ¬ tk T (tn T - 1) (ix x) = -1
  · rw [if_pos c1] at h ⊢
    by_cases c4 : tn T < 30
    · rw [if_pos c4] at h
      exact absurd (act_pos (by omega)) h
    · rw [if_neg c4]
  · rw [if_neg c1]
theorem e_sKind {T : Tb} {x k : Int32} (hw : WB T) (h : ¬ -10001 < (sKind T x k).1) : (sKind T x k).2 = T := by
  unfold sKind at h ⊢
  by_cases c1 : xin x 8 ∧ ¬ tk T (tn T - 1) (ix x) = -1
  · rw [if_pos c1] at h ⊢
    by_cases c2 : xin k 3
    · rw [if_pos c2] at h ⊢
      by_cases c4 : tn T < 30
      · rw [if_pos c4] at h ⊢
        by_cases c5 : tk T (tn T - 1) (ix x) = k
        · rw [if_pos c5]
        · rw [if_neg c5] at h
          exact absurd (act_pos (by omega)) h
      · rw [if_neg c4]
    · rw [if_neg c2]
  · rw [if_neg c1]
theorem e_sRow {T : Tb} (h : ¬ -10001 < (sRow T).1) : (sRow T).2 = T := by
  unfold sRow at h ⊢
  by_cases c1 : tr T < 24
  · rw [if_pos c1] at h
    exact absurd (act_pos (by omega)) h
  · rw [if_neg c1]
theorem rng_pos {v : Int32} (h : rng v) : (-10001 : Int32) < v := by
  have e1 : (-10001 : Int32).toInt = -10001 := by decide
  have := h.1
  rw [i32lt, e1]
  omega
theorem e_sSet {T : Tb} {x y v : Int32} (hw : WF T) (h : ¬ -10001 < (sSet T x y v).1) : (sSet T x y v).2 = T := by
  unfold sSet at h ⊢
  by_cases c1 : (xin x (tr T) ∧ xin y 8) ∧ ¬ tk T (ts T (ix x)) (ix y) = -1
  · rw [if_pos c1] at h ⊢
    by_cases c2 : okv v (tk T (ts T (ix x)) (ix y))
    · rw [if_pos c2] at h ⊢
      by_cases c3 : tv T (ix x) (ix y) = v
      · rw [if_pos c3]
      · rw [if_neg c3] at h
        obtain ⟨i, hi, ei⟩ := xin_of c1.1.1 (by have := hw.1.2.2.1; omega)
        obtain ⟨j, hj, ej⟩ := xin_of c1.1.2 (by decide)
        have hix : ix x < tr T := by rw [ei, ix_nI (by have := hw.1.2.2.1; omega)]; exact hi
        have hjx : ix y < 8 := by rw [ej, ix_nI (by omega)]; exact hj
        have k1 := (WF_k hw (hw.1.2.2.2 _ hix) hjx).resolve_left c1.2
        exact absurd (rng_pos (okv_rng k1 ((hw.2.2 _ _ hix hjx).resolve_left c1.2))) h
    · rw [if_neg c2]
  · rw [if_neg c1]
theorem e_sRem {T : Tb} {x : Int32} (hw : WB T) (h : ¬ -10001 < (sRem T x).1) : (sRem T x).2 = T := by
  unfold sRem at h ⊢
  by_cases c1 : xin x (tr T)
  · rw [if_pos c1] at h
    exact absurd (act_pos (by have := hw.2.2.1; omega)) h
  · rw [if_neg c1]
theorem e_sMk {T : Tb} {x y : Int32} (hw : WB T) (h : ¬ -10001 < (sMk T x y).1) : (sMk T x y).2 = T := by
  unfold sMk at h ⊢
  by_cases c1 : xin x (tr T) ∧ xin y (tr T)
  · rw [if_pos c1] at h ⊢
    by_cases c2 : ix y < ix x
    · rw [if_pos c2]
    · rw [if_neg c2] at h ⊢
      by_cases c3 : mkN T (ix x) (ix y + 1 - ix x)
      · rw [if_pos c3]
      · rw [if_neg c3] at h
        obtain ⟨j, hj, ej⟩ := xin_of c1.2 (by have := hw.2.2.1; omega)
        have : ix y < tr T := by rw [ej, ix_nI (by have := hw.2.2.1; omega)]; exact hj
        exact absurd (mkL_pos (by have := hw.2.2.1; omega)) h
  · rw [if_neg c1]
theorem e_sFor {T : Tb} (hw : WB T) (h : ¬ -10001 < (sFor T).1) : (sFor T).2 = T := by
  unfold sFor at h ⊢
  by_cases c1 : fgm T = 0
  · rw [if_pos c1]
  · rw [if_neg c1] at h
    have := (fgF_le (T := T) (tr T)).1
    have e : fgm T ≤ tn T - 1 := this
    exact absurd (act_pos (by have := hw.2.1; omega)) h
theorem WF_sMk {T : Tb} {x y : Int32} (h : WF T) : WF (sMk T x y).2 := by
  unfold sMk
  by_cases c1 : xin x (tr T) ∧ xin y (tr T)
  · rw [if_pos c1]
    by_cases c2 : ix y < ix x
    · rw [if_pos c2]; exact h
    · rw [if_neg c2]
      by_cases c3 : mkN T (ix x) (ix y + 1 - ix x)
      · rw [if_pos c3]; exact h
      · rw [if_neg c3]
        obtain ⟨j, hj, ej⟩ := xin_of c1.2 (by have := h.1.2.2.1; omega)
        have : ix y < tr T := by rw [ej, ix_nI (by have := h.1.2.2.1; omega)]; exact hj
        exact WF_mkP h _ (by omega)
  · rw [if_neg c1]; exact h
theorem vp_char {x : Int32} (h : xin x 65536) : vp_nar .char x = x := by
  obtain ⟨w, hw, rfl⟩ := xin_of h (by decide)
  unfold vp_nar
  rw [(pk_charN hw).1]
theorem WF_sRem {T : Tb} {x : Int32} (h : WF T) : WF (sRem T x).2 := by
  unfold sRem
  by_cases c : xin x (tr T)
  · rw [if_pos c]
    have h24 := h.1.2.2.1
    obtain ⟨j, hj, rfl⟩ := xin_of c (by omega)
    rw [ix_nI (by omega)]
    exact WF_rmv h hj
  · rw [if_neg c]; exact h
theorem WF_recH {T : Tb} {hh : Nat → Tb} {hn : Nat} (hT : WF T) (h4 : hn ≤ 4) (h : ∀ k : Nat, k < hn → WF (hh k)) : recN hn ≤ 4 ∧ ∀ k : Nat, k < recN hn → WF (recH hh hn T k) := by
  refine ⟨recN_le h4, fun k hk => ?_⟩
  unfold recN at hk
  unfold recH
  by_cases e : hn = 4
  · rw [if_pos e] at hk ⊢
    show WF (if k = 3 then T else hh (k + 1))
    by_cases q : k = 3
    · rw [if_pos q]; exact hT
    · rw [if_neg q]; exact h _ (by omega)
  · rw [if_neg e] at hk ⊢
    show WF (if k = hn then T else hh k)
    by_cases q : k = hn
    · rw [if_pos q]; exact hT
    · rw [if_neg q]; exact h _ (by omega)
theorem WX_act {r : Int32 × Tb} {T : Tb} {hh : Nat → Tb} {hn : Nat} {sn : Option Tb} {tx : Nat → Int32} {ln : Nat} {sp : Option (Nat × Int32)} (h : WX T hh hn sn tx ln sp) (hr : WF r.2) : WX (acT r T) (acH r T hh hn) (acN r hn) sn tx ln sp := by
  unfold acT acH acN
  by_cases c : -10001 < r.1
  · rw [if_pos c, if_pos c, if_pos c]
    have z := WF_recH h.1 h.2.1 h.2.2.1
    exact ⟨hr, z.1, z.2, h.2.2.2⟩
  · rw [if_neg c, if_neg c, if_neg c]
    exact h
theorem WX_undo {T : Tb} {hh : Nat → Tb} {hn : Nat} {sn : Option Tb} {tx : Nat → Int32} {ln : Nat} {sp : Option (Nat × Int32)} (h : WX T hh hn sn tx ln sp) : WX (if hn = 0 then T else hh (hn - 1)) hh (hn - 1) sn tx ln sp := by
  have h4 := h.2.1
  refine ⟨?_, by omega, fun k hk => h.2.2.1 k (by omega), h.2.2.2⟩
  by_cases c : hn = 0
  · rw [if_pos c]; exact h.1
  · rw [if_neg c]; exact h.2.2.1 _ (by omega)
theorem WX_keep {T : Tb} {hh : Nat → Tb} {hn : Nat} {sn : Option Tb} {tx : Nat → Int32} {ln : Nat} {sp : Option (Nat × Int32)} (h : WX T hh hn sn tx ln sp) : WX T hh hn (some T) tx ln sp :=
  ⟨h.1, h.2.1, h.2.2.1, fun S e => by cases e; exact h.1, h.2.2.2.2⟩
theorem WX_type {T : Tb} {hh : Nat → Tb} {hn : Nat} {sn : Option Tb} {tx : Nat → Int32} {ln : Nat} {sp : Option (Nat × Int32)} {x : Int32} (h : WX T hh hn sn tx ln sp) (hx : xin x 65536) : WX T hh hn sn (if ln = 80 then tx else upd tx ln x) (if ln = 80 then ln else ln + 1) sp := by
  by_cases c : ln = 80
  · rw [if_pos c, if_pos c]; exact h
  · rw [if_neg c, if_neg c]
    have h80 := h.2.2.2.2.1
    refine ⟨h.1, h.2.1, h.2.2.1, h.2.2.2.1, by omega, fun z hz => ?_, h.2.2.2.2.2.2⟩
    rcases Nat.lt_or_ge z ln with q | q
    · rw [pk_un (by omega)]; exact h.2.2.2.2.2.1 z q
    · rw [show z = ln by omega, pk_us]; exact hx
theorem WX_clear {T : Tb} {hh : Nat → Tb} {hn : Nat} {sn : Option Tb} {tx : Nat → Int32} {ln : Nat} {sp : Option (Nat × Int32)} (h : WX T hh hn sn tx ln sp) : WX T hh hn sn tx 0 sp :=
  ⟨h.1, h.2.1, h.2.2.1, h.2.2.2.1, by omega, fun z hz => absurd hz (Nat.not_lt_zero _), h.2.2.2.2.2.2⟩
theorem WF_sFor {T : Tb} (h : WF T) : WF (sFor T).2 := by
  have a := fgF_le (T := T) (tr T)
  have h1 := h.1.1
  unfold sFor
  by_cases c : fgm T = 0
  · rw [if_pos c]; exact h
  · rw [if_neg c]
    unfold fgm
    exact WF_fgt h (by omega) (fun i hi => a.2 i hi)
/-- the first state -/
def T00 : Tb := (1, 0, fun _ _ => -1, fun _ _ => 0, fun _ => 0, fun _ _ => 0)
theorem WF_T00 : WF T00 := by
  refine ⟨⟨by decide, by decide, by decide, fun i hi => absurd hi (Nat.not_lt_zero _)⟩, fun q j _ _ => Or.inl rfl, fun i j hi _ => absurd hi (Nat.not_lt_zero _)⟩
theorem WX_T00 : WX T00 (fun _ => T00) 0 none (fun _ => 0) 0 none :=
  ⟨WF_T00, (by omega), (fun k hk => absurd hk (Nat.not_lt_zero _)), (fun S e => (by cases e)), (by omega), (fun z hz => absurd hz (Nat.not_lt_zero _)), (fun k e => (by cases e))⟩
theorem WF_sAdd {T : Tb} {x k d : Int32} (h : WF T) : WF (sAdd T x k d).2 := by
  by_cases c1 : xin x 8
  · by_cases c2 : xin k 3 ∧ okv d k
    · obtain ⟨j, hj, rfl⟩ := xin_of c1 (by decide)
      rw [sAdd_a hj c2.1 c2.2]
      exact WF_aAdd h hj c2.1 c2.2
    · unfold sAdd
      rw [if_pos c1, if_neg c2]
      exact h
  · unfold sAdd
    rw [if_neg c1]
    exact h
theorem WF_sDrop {T : Tb} {x : Int32} (h : WF T) : WF (sDrop T x).2 := by
  by_cases c1 : xin x 8
  · obtain ⟨j, hj, rfl⟩ := xin_of c1 (by decide)
    rw [sDrop_a hj]
    exact WF_aDrop h hj
  · unfold sDrop
    rw [if_neg (fun z => c1 z.1)]
    exact h
theorem WF_sKind {T : Tb} {x k : Int32} (h : WF T) : WF (sKind T x k).2 := by
  by_cases c1 : xin x 8
  · by_cases c2 : xin k 3
    · obtain ⟨j, hj, rfl⟩ := xin_of c1 (by decide)
      rw [sKind_a hj c2]
      exact WF_aKind h hj c2
    · unfold sKind
      by_cases c3 : xin x 8 ∧ ¬ tk T (tn T - 1) (ix x) = -1
      · rw [if_pos c3, if_neg c2]; exact h
      · rw [if_neg c3]; exact h
  · unfold sKind
    rw [if_neg (fun z => c1 z.1)]
    exact h
end
