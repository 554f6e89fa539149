def xRow : String := "RowDesk$Row"
def T_BT : u_T := fun k => match k with
  | _ => ("RowDesk$ByteTable", "numbers", "[I", true)
def ty_BT : Nat → FieldType := fun k => match k with
  | _ => .array .int
theorem nm_BT : ∀ a, a < 1 → ∀ b, b < 1 → a ≠ b → (T_BT a).2.1 ≠ (T_BT b).2.1 := by decide +kernel
theorem ty_BT_ok : ∀ k, k < 1 → parseFieldDescriptor (T_BT k).2.2.1 = some (ty_BT k) := by decide +kernel
def T_RW : u_T := fun k => match k with
  | 0 => ("RowDesk$Row", "bytes", "[I", true)
  | _ => ("RowDesk$Row", "length", "I", false)
def ty_RW : Nat → FieldType := fun k => match k with
  | 0 => .array .int
  | _ => .int
theorem nm_RW : ∀ a, a < 2 → ∀ b, b < 2 → a ≠ b → (T_RW a).2.1 ≠ (T_RW b).2.1 := by decide +kernel
theorem ty_RW_ok : ∀ k, k < 2 → parseFieldDescriptor (T_RW k).2.2.1 = some (ty_RW k) := by decide +kernel
def T_WL : u_T := fun k => match k with
  | 0 => ("RowDesk$WordList", "starts", "[I", true)
  | 1 => ("RowDesk$WordList", "stops", "[I", true)
  | 2 => ("RowDesk$WordList", "ranked", "[I", true)
  | 3 => ("RowDesk$WordList", "count", "I", false)
  | _ => ("RowDesk$WordList", "rowLength", "I", false)
def ty_WL : Nat → FieldType := fun k => match k with
  | 0 => .array .int
  | 1 => .array .int
  | 2 => .array .int
  | 3 => .int
  | _ => .int
theorem nm_WL : ∀ a, a < 5 → ∀ b, b < 5 → a ≠ b → (T_WL a).2.1 ≠ (T_WL b).2.1 := by decide +kernel
theorem ty_WL_ok : ∀ k, k < 5 → parseFieldDescriptor (T_WL k).2.2.1 = some (ty_WL k) := by decide +kernel
def T_RD : u_T := fun k => match k with
  | 0 => ("RowDesk", "tape", "LRowDesk$Row;", true)
  | 1 => ("RowDesk", "registers", "[LRowDesk$Row;", true)
  | 2 => ("RowDesk", "made", "LRowDesk$Row;", true)
  | 3 => ("RowDesk", "wordList", "LRowDesk$WordList;", true)
  | 4 => ("RowDesk", "soughtWords", "LRowDesk$WordList;", true)
  | 5 => ("RowDesk", "table", "LRowDesk$ByteTable;", true)
  | _ => ("RowDesk", "padByte", "I", false)
def ty_RD : Nat → FieldType := fun k => match k with
  | 0 => .object "RowDesk$Row"
  | 1 => .array (.object "RowDesk$Row")
  | 2 => .object "RowDesk$Row"
  | 3 => .object "RowDesk$WordList"
  | 4 => .object "RowDesk$WordList"
  | 5 => .object "RowDesk$ByteTable"
  | _ => .int
theorem nm_RD : ∀ a, a < 7 → ∀ b, b < 7 → a ≠ b → (T_RD a).2.1 ≠ (T_RD b).2.1 := by decide +kernel
theorem ty_RD_ok : ∀ k, k < 7 → parseFieldDescriptor (T_RD k).2.2.1 = some (ty_RD k) := by decide +kernel
def T_MO : u_T := fun k => match k with
  | 0 => ("RowDeskModel", "tape", "[I", true)
  | 1 => ("RowDeskModel", "rows", "[I", true)
  | 2 => ("RowDeskModel", "sizes", "[I", true)
  | 3 => ("RowDeskModel", "made", "[I", true)
  | 4 => ("RowDeskModel", "used", "[I", true)
  | 5 => ("RowDeskModel", "taped", "I", false)
  | 6 => ("RowDeskModel", "many", "I", false)
  | 7 => ("RowDeskModel", "pad", "I", false)
  | 8 => ("RowDeskModel", "starts", "[I", true)
  | _ => ("RowDeskModel", "stands", "[I", true)
def ty_MO : Nat → FieldType := fun k => match k with
  | 0 => .array .int
  | 1 => .array .int
  | 2 => .array .int
  | 3 => .array .int
  | 4 => .array .int
  | 5 => .int
  | 6 => .int
  | 7 => .int
  | 8 => .array .int
  | _ => .array .int
theorem nm_MO : ∀ a, a < 10 → ∀ b, b < 10 → a ≠ b → (T_MO a).2.1 ≠ (T_MO b).2.1 := by decide +kernel
theorem ty_MO_ok : ∀ k, k < 10 → parseFieldDescriptor (T_MO k).2.2.1 = some (ty_MO k) := by decide +kernel
abbrev vwCl : List vw_C := [("RowDesk$ByteTable", T_BT, 1), ("RowDesk$Row", T_RW, 2), ("RowDesk$WordList", T_WL, 5), ("RowDesk", T_RD, 7), ("RowDeskModel", T_MO, 10)]
def xtb : List Cond := lw_tbl.filter (fun w => w.onTables && w.keeps)
theorem xin {w : Cond} (i : Nat) (h : lw_tbl[i]? = some w) (g : (w.onTables && w.keeps) = true) : w ∈ xtb := List.mem_filter.mpr ⟨List.mem_of_getElem? h, g⟩
theorem xtb_sub {w : Cond} (h : w ∈ xtb) : w ∈ lw_tbl := (List.mem_filter.mp h).1
abbrev XMi : Type := MethodName × ByteArray × Nat × Option FieldType × Nat × Nat
abbrev xy (m : XMi) : MethodName := m.1
abbrev xown (m : XMi) : String := m.1.cls
abbrev xcode (m : XMi) : ByteArray := m.2.1
abbrev xmaxL (m : XMi) : Nat := m.2.2.1
abbrev xret (m : XMi) : Option FieldType := m.2.2.2.1
abbrev xfr (m : XMi) : Nat := m.2.2.2.2.1
abbrev xloc (m : XMi) : Nat := m.2.2.2.2.2
theorem in_BT : ∀ w ∈ u_ws "RowDesk$ByteTable" T_BT 1, w ∈ xtb := by
  intro w h
  obtain ⟨k, hk, rfl⟩ := List.mem_map.mp h
  have hk := List.mem_range.mp hk
  match k, hk with
  | 0, _ => exact xin 85 (by decide +kernel) (by decide +kernel)
  | k + 1, hk => exact absurd hk (by omega)
theorem in_RW : ∀ w ∈ u_ws "RowDesk$Row" T_RW 2, w ∈ xtb := by
  intro w h
  obtain ⟨k, hk, rfl⟩ := List.mem_map.mp h
  have hk := List.mem_range.mp hk
  match k, hk with
  | 0, _ => exact xin 49 (by decide +kernel) (by decide +kernel)
  | 1, _ => exact xin 51 (by decide +kernel) (by decide +kernel)
  | k + 2, hk => exact absurd hk (by omega)
theorem in_WL : ∀ w ∈ u_ws "RowDesk$WordList" T_WL 5, w ∈ xtb := by
  intro w h
  obtain ⟨k, hk, rfl⟩ := List.mem_map.mp h
  have hk := List.mem_range.mp hk
  match k, hk with
  | 0, _ => exact xin 67 (by decide +kernel) (by decide +kernel)
  | 1, _ => exact xin 69 (by decide +kernel) (by decide +kernel)
  | 2, _ => exact xin 71 (by decide +kernel) (by decide +kernel)
  | 3, _ => exact xin 73 (by decide +kernel) (by decide +kernel)
  | 4, _ => exact xin 75 (by decide +kernel) (by decide +kernel)
  | k + 5, hk => exact absurd hk (by omega)
theorem in_RD : ∀ w ∈ u_ws "RowDesk" T_RD 7, w ∈ xtb := by
  intro w h
  obtain ⟨k, hk, rfl⟩ := List.mem_map.mp h
  have hk := List.mem_range.mp hk
  match k, hk with
  | 0, _ => exact xin 95 (by decide +kernel) (by decide +kernel)
  | 1, _ => exact xin 97 (by decide +kernel) (by decide +kernel)
  | 2, _ => exact xin 99 (by decide +kernel) (by decide +kernel)
  | 3, _ => exact xin 101 (by decide +kernel) (by decide +kernel)
  | 4, _ => exact xin 103 (by decide +kernel) (by decide +kernel)
  | 5, _ => exact xin 105 (by decide +kernel) (by decide +kernel)
  | 6, _ => exact xin 107 (by decide +kernel) (by decide +kernel)
  | k + 7, hk => exact absurd hk (by omega)
theorem in_MO : ∀ w ∈ u_ws "RowDeskModel" T_MO 10, w ∈ xtb := by
  intro w h
  obtain ⟨k, hk, rfl⟩ := List.mem_map.mp h
  have hk := List.mem_range.mp hk
  match k, hk with
  | 0, _ => exact xin 406 (by decide +kernel) (by decide +kernel)
  | 1, _ => exact xin 408 (by decide +kernel) (by decide +kernel)
  | 2, _ => exact xin 410 (by decide +kernel) (by decide +kernel)
  | 3, _ => exact xin 412 (by decide +kernel) (by decide +kernel)
  | 4, _ => exact xin 414 (by decide +kernel) (by decide +kernel)
  | 5, _ => exact xin 416 (by decide +kernel) (by decide +kernel)
  | 6, _ => exact xin 418 (by decide +kernel) (by decide +kernel)
  | 7, _ => exact xin 420 (by decide +kernel) (by decide +kernel)
  | 8, _ => exact xin 422 (by decide +kernel) (by decide +kernel)
  | 9, _ => exact xin 424 (by decide +kernel) (by decide +kernel)
  | k + 10, hk => exact absurd hk (by omega)
theorem xcls_in {ci N : Nat} {C : String} {T : u_T} (h : vwCl[ci]? = some (C, T, N)) : ∀ w ∈ u_ws C T N, w ∈ xtb := by
  match ci, h with
  | 0, h => cases h; exact in_BT
  | 1, h => cases h; exact in_RW
  | 2, h => cases h; exact in_WL
  | 3, h => cases h; exact in_RD
  | 4, h => cases h; exact in_MO
  | k + 5, h => simp [vwCl] at h
theorem xcls_ty {ci N : Nat} {C : String} {T : u_T} (h : vwCl[ci]? = some (C, T, N)) : ∃ ty0 : Nat → FieldType, (∀ k, k < N → parseFieldDescriptor (T k).2.2.1 = some (ty0 k)) ∧ (∀ a, a < N → ∀ b, b < N → a ≠ b → (T a).2.1 ≠ (T b).2.1) := by
  match ci, h with
  | 0, h => cases h; exact ⟨ty_BT, ty_BT_ok, nm_BT⟩
  | 1, h => cases h; exact ⟨ty_RW, ty_RW_ok, nm_RW⟩
  | 2, h => cases h; exact ⟨ty_WL, ty_WL_ok, nm_WL⟩
  | 3, h => cases h; exact ⟨ty_RD, ty_RD_ok, nm_RD⟩
  | 4, h => cases h; exact ⟨ty_MO, ty_MO_ok, nm_MO⟩
  | k + 5, h => simp [vwCl] at h
def m_RD_init : XMi := (⟨"RowDesk", "<init>", "()V"⟩, prog_1_method_1_code, 2, none, 2, 44)
def m_RW_init : XMi := (⟨"RowDesk$Row", "<init>", "(I)V"⟩, prog_3_method_1_code, 2, none, 1, 23)
def m_WL_init : XMi := (⟨"RowDesk$WordList", "<init>", "()V"⟩, prog_4_method_1_code, 1, none, 1, 12)
def m_BT_init : XMi := (⟨"RowDesk$ByteTable", "<init>", "()V"⟩, prog_2_method_1_code, 1, none, 1, 12)
def m_RD_feed : XMi := (⟨"RowDesk", "feed", "(IIIII)I"⟩, prog_1_method_2_code, 6, (some .int), 2, 43)
def m_RW_length : XMi := (⟨"RowDesk$Row", "length", "()I"⟩, prog_3_method_2_code, 1, (some .int), 0, 0)
def m_RW_addFourBytes : XMi := (⟨"RowDesk$Row", "addFourBytes", "(I)V"⟩, prog_3_method_5_code, 3, none, 1, 21)
def m_RW_add : XMi := (⟨"RowDesk$Row", "add", "(I)V"⟩, prog_3_method_4_code, 2, none, 0, 0)
def m_RD_end : XMi := (⟨"RowDesk", "end", "(I)I"⟩, prog_1_method_3_code, 2, (some .int), 1, 21)
def m_RW_shortenTo : XMi := (⟨"RowDesk$Row", "shortenTo", "(I)V"⟩, prog_3_method_10_code, 2, none, 0, 0)
def m_RD_put : XMi := (⟨"RowDesk", "put", "(I)I"⟩, prog_1_method_4_code, 3, (some .int), 4, 90)
def m_RD_register : XMi := (⟨"RowDesk", "register", "(I)LRowDesk$Row;"⟩, prog_1_method_28_code, 2, (some (.object "RowDesk$Row")), 0, 0)
def m_RW_become : XMi := (⟨"RowDesk$Row", "become", "(LRowDesk$Row;)V"⟩, prog_3_method_9_code, 2, none, 3, 69)
def m_RW_addRow : XMi := (⟨"RowDesk$Row", "addRow", "(LRowDesk$Row;)V"⟩, prog_3_method_8_code, 2, none, 2, 48)
def m_RW_addRange : XMi := (⟨"RowDesk$Row", "addRange", "(LRowDesk$Row;II)V"⟩, prog_3_method_7_code, 6, none, 1, 23)
def m_RD_at : XMi := (⟨"RowDesk", "at", "(II)I"⟩, prog_1_method_5_code, 4, (some .int), 1, 22)
def m_RW_byteOr : XMi := (⟨"RowDesk$Row", "byteOr", "(II)I"⟩, prog_3_method_3_code, 3, (some .int), 0, 0)
def m_RD_size : XMi := (⟨"RowDesk", "size", "(I)I"⟩, prog_1_method_6_code, 3, (some .int), 1, 21)
def m_RD_pad : XMi := (⟨"RowDesk", "pad", "(I)I"⟩, prog_1_method_7_code, 3, (some .int), 0, 0)
def m_RD_fill : XMi := (⟨"RowDesk", "fill", "(IIII)I"⟩, prog_1_method_8_code, 9, (some .int), 5, 111)
def m_RW_addTimes : XMi := (⟨"RowDesk$Row", "addTimes", "(II)V"⟩, prog_3_method_6_code, 4, none, 1, 21)
def m_RW_lengthenTo : XMi := (⟨"RowDesk$Row", "lengthenTo", "(II)V"⟩, prog_3_method_11_code, 3, none, 2, 44)
def m_RD_keepMade : XMi := (⟨"RowDesk", "keepMade", "(LRowDesk$Row;)I"⟩, prog_1_method_29_code, 2, (some .int), 4, 90)
def m_RD_part : XMi := (⟨"RowDesk", "part", "(IIII)I"⟩, prog_1_method_9_code, 7, (some .int), 5, 111)
def m_RD_behindRun : XMi := (⟨"RowDesk", "behindRun", "(III)I"⟩, prog_1_method_30_code, 3, (some .int), 1, 23)
def m_RD_cut : XMi := (⟨"RowDesk", "cut", "(IIII)I"⟩, prog_1_method_10_code, 7, (some .int), 5, 111)
def m_RD_join : XMi := (⟨"RowDesk", "join", "(IIII)I"⟩, prog_1_method_11_code, 8, (some .int), 5, 111)
def m_RD_copies : XMi := (⟨"RowDesk", "copies", "(III)I"⟩, prog_1_method_12_code, 9, (some .int), 5, 111)
def m_RD_set : XMi := (⟨"RowDesk", "set", "(IIIZI)I"⟩, prog_1_method_13_code, 13, (some .int), 5, 111)
def m_RD_find : XMi := (⟨"RowDesk", "find", "(IIIZ)I"⟩, prog_1_method_14_code, 8, (some .int), 4, 92)
def m_RD_lastPlace : XMi := (⟨"RowDesk", "lastPlace", "(LRowDesk$Row;LRowDesk$Row;I)I"⟩, prog_1_method_32_code, 4, (some .int), 3, 69)
def m_RW_hasAt : XMi := (⟨"RowDesk$Row", "hasAt", "(ILRowDesk$Row;)Z"⟩, prog_3_method_12_code, 3, (some .boolean), 2, 47)
def m_RW_hasRangeAt : XMi := (⟨"RowDesk$Row", "hasRangeAt", "(ILRowDesk$Row;II)Z"⟩, prog_3_method_13_code, 6, (some .boolean), 1, 22)
def m_RD_firstPlace : XMi := (⟨"RowDesk", "firstPlace", "(LRowDesk$Row;LRowDesk$Row;I)I"⟩, prog_1_method_31_code, 4, (some .int), 3, 69)
def m_RD_change : XMi := (⟨"RowDesk", "change", "(IIII)I"⟩, prog_1_method_15_code, 9, (some .int), 5, 111)
def m_RD_countOf : XMi := (⟨"RowDesk", "countOf", "(LRowDesk$Row;LRowDesk$Row;)I"⟩, prog_1_method_33_code, 5, (some .int), 3, 69)
def m_RD_makeChanged : XMi := (⟨"RowDesk", "makeChanged", "(LRowDesk$Row;LRowDesk$Row;LRowDesk$Row;)V"⟩, prog_1_method_34_code, 6, none, 3, 69)
def m_RD_often : XMi := (⟨"RowDesk", "often", "(II)I"⟩, prog_1_method_16_code, 5, (some .int), 4, 93)
def m_RD_unlike : XMi := (⟨"RowDesk", "unlike", "(II)I"⟩, prog_1_method_17_code, 7, (some .int), 1, 23)
def m_RD_strip : XMi := (⟨"RowDesk", "strip", "(III)I"⟩, prog_1_method_18_code, 8, (some .int), 5, 111)
def m_RD_turn : XMi := (⟨"RowDesk", "turn", "(III)I"⟩, prog_1_method_19_code, 6, (some .int), 5, 111)
def m_RD_makeTurnedAbout : XMi := (⟨"RowDesk", "makeTurnedAbout", "(LRowDesk$Row;)V"⟩, prog_1_method_35_code, 3, none, 1, 22)
def m_RD_makeWithLettersMoved : XMi := (⟨"RowDesk", "makeWithLettersMoved", "(LRowDesk$Row;II)V"⟩, prog_1_method_36_code, 7, none, 1, 22)
def m_RD_makeInOrder : XMi := (⟨"RowDesk", "makeInOrder", "(LRowDesk$Row;)V"⟩, prog_1_method_37_code, 4, none, 2, 44)
def m_BT_setAll : XMi := (⟨"RowDesk$ByteTable", "setAll", "(I)V"⟩, prog_2_method_2_code, 3, none, 0, 0)
def m_BT_noted : XMi := (⟨"RowDesk$ByteTable", "noted", "(I)I"⟩, prog_2_method_4_code, 2, (some .int), 0, 0)
def m_BT_note : XMi := (⟨"RowDesk$ByteTable", "note", "(II)V"⟩, prog_2_method_3_code, 3, none, 0, 0)
def m_RD_makeEachOnce : XMi := (⟨"RowDesk", "makeEachOnce", "(LRowDesk$Row;)V"⟩, prog_1_method_38_code, 4, none, 1, 22)
def m_RD_translate : XMi := (⟨"RowDesk", "translate", "(IIII)I"⟩, prog_1_method_20_code, 12, (some .int), 5, 111)
def m_RD_verify : XMi := (⟨"RowDesk", "verify", "(IIIZ)I"⟩, prog_1_method_21_code, 9, (some .int), 1, 22)
def m_RD_space : XMi := (⟨"RowDesk", "space", "(III)I"⟩, prog_1_method_22_code, 9, (some .int), 5, 111)
def m_WL_read : XMi := (⟨"RowDesk$WordList", "read", "(LRowDesk$Row;)V"⟩, prog_4_method_2_code, 5, none, 1, 22)
def m_WL_addWord : XMi := (⟨"RowDesk$WordList", "addWord", "(II)V"⟩, prog_4_method_3_code, 3, none, 0, 0)
def m_WL_count : XMi := (⟨"RowDesk$WordList", "count", "()I"⟩, prog_4_method_4_code, 1, (some .int), 0, 0)
def m_WL_bytesInWords : XMi := (⟨"RowDesk$WordList", "bytesInWords", "()I"⟩, prog_4_method_8_code, 3, (some .int), 2, 42)
def m_WL_lengthOf : XMi := (⟨"RowDesk$WordList", "lengthOf", "(I)I"⟩, prog_4_method_7_code, 2, (some .int), 1, 21)
def m_WL_stopOf : XMi := (⟨"RowDesk$WordList", "stopOf", "(I)I"⟩, prog_4_method_6_code, 2, (some .int), 0, 0)
def m_WL_startOf : XMi := (⟨"RowDesk$WordList", "startOf", "(I)I"⟩, prog_4_method_5_code, 2, (some .int), 0, 0)
def m_RD_words : XMi := (⟨"RowDesk", "words", "(I)I"⟩, prog_1_method_23_code, 3, (some .int), 2, 46)
def m_RD_word : XMi := (⟨"RowDesk", "word", "(III)I"⟩, prog_1_method_24_code, 5, (some .int), 2, 46)
def m_RD_some : XMi := (⟨"RowDesk", "some", "(IIIZI)I"⟩, prog_1_method_25_code, 10, (some .int), 5, 111)
def m_RD_order : XMi := (⟨"RowDesk", "order", "(III)I"⟩, prog_1_method_26_code, 6, (some .int), 5, 111)
def m_WL_rankLastFirst : XMi := (⟨"RowDesk$WordList", "rankLastFirst", "()V"⟩, prog_4_method_10_code, 2, none, 0, 0)
def m_WL_rankByBytes : XMi := (⟨"RowDesk$WordList", "rankByBytes", "(LRowDesk$Row;)V"⟩, prog_4_method_11_code, 4, none, 3, 68)
def m_WL_compareWords : XMi := (⟨"RowDesk$WordList", "compareWords", "(LRowDesk$Row;II)I"⟩, prog_4_method_12_code, 7, (some .int), 2, 42)
def m_RD_makeRanked : XMi := (⟨"RowDesk", "makeRanked", "(LRowDesk$Row;)V"⟩, prog_1_method_39_code, 5, none, 2, 48)
def m_WL_rankedAt : XMi := (⟨"RowDesk$WordList", "rankedAt", "(I)I"⟩, prog_4_method_9_code, 2, (some .int), 0, 0)
def m_RD_place : XMi := (⟨"RowDesk", "place", "(III)I"⟩, prog_1_method_27_code, 7, (some .int), 3, 72)
def m_RD_soughtWordsStandAt : XMi := (⟨"RowDesk", "soughtWordsStandAt", "(ILRowDesk$Row;LRowDesk$Row;)Z"⟩, prog_1_method_40_code, 6, (some .boolean), 2, 47)
def m_MO_init : XMi := (⟨"RowDeskModel", "<init>", "()V"⟩, prog_6_method_1_code, 1, none, 1, 12)
def m_MO_feed : XMi := (⟨"RowDeskModel", "feed", "(IIIII)I"⟩, prog_6_method_3_code, 6, (some .int), 1, 22)
def m_MO_four : XMi := (⟨"RowDeskModel", "four", "(I)V"⟩, prog_6_method_2_code, 3, none, 0, 0)
def m_MO_end : XMi := (⟨"RowDeskModel", "end", "(I)I"⟩, prog_6_method_4_code, 2, (some .int), 0, 0)
def m_MO_put : XMi := (⟨"RowDeskModel", "put", "(I)I"⟩, prog_6_method_7_code, 3, (some .int), 1, 20)
def m_MO_is : XMi := (⟨"RowDeskModel", "is", "(I)Z"⟩, prog_6_method_5_code, 1, (some .boolean), 0, 0)
def m_MO_at : XMi := (⟨"RowDeskModel", "at", "(II)I"⟩, prog_6_method_8_code, 3, (some .int), 1, 22)
def m_MO_of : XMi := (⟨"RowDeskModel", "of", "(II)I"⟩, prog_6_method_6_code, 3, (some .int), 0, 0)
def m_MO_size : XMi := (⟨"RowDeskModel", "size", "(I)I"⟩, prog_6_method_9_code, 2, (some .int), 1, 20)
def m_MO_pad : XMi := (⟨"RowDeskModel", "pad", "(I)I"⟩, prog_6_method_10_code, 3, (some .int), 0, 0)
def m_MO_fill : XMi := (⟨"RowDeskModel", "fill", "(IIII)I"⟩, prog_6_method_15_code, 9, (some .int), 2, 49)
def m_MO_pads : XMi := (⟨"RowDeskModel", "pads", "(J)V"⟩, prog_6_method_13_code, 5, none, 1, 21)
def m_MO_add : XMi := (⟨"RowDeskModel", "add", "(I)V"⟩, prog_6_method_11_code, 2, none, 0, 0)
def m_MO_lay : XMi := (⟨"RowDeskModel", "lay", "(IJJ)V"⟩, prog_6_method_12_code, 8, none, 1, 22)
def m_MO_keep : XMi := (⟨"RowDeskModel", "keep", "(I)I"⟩, prog_6_method_14_code, 3, (some .int), 0, 0)
def m_MO_part : XMi := (⟨"RowDeskModel", "part", "(IIII)I"⟩, prog_6_method_16_code, 7, (some .int), 2, 49)
def m_MO_cut : XMi := (⟨"RowDeskModel", "cut", "(IIII)I"⟩, prog_6_method_17_code, 5, (some .int), 2, 49)
def m_MO_join : XMi := (⟨"RowDeskModel", "join", "(IIII)I"⟩, prog_6_method_18_code, 5, (some .int), 2, 49)
def m_MO_copies : XMi := (⟨"RowDeskModel", "copies", "(III)I"⟩, prog_6_method_19_code, 5, (some .int), 2, 49)
def m_MO_set : XMi := (⟨"RowDeskModel", "set", "(IIIZI)I"⟩, prog_6_method_20_code, 6, (some .int), 2, 49)
def m_MO_find : XMi := (⟨"RowDeskModel", "find", "(IIIZ)I"⟩, prog_6_method_22_code, 9, (some .int), 2, 46)
def m_MO_stands : XMi := (⟨"RowDeskModel", "stands", "(III)Z"⟩, prog_6_method_21_code, 5, (some .boolean), 1, 22)
def m_MO_change : XMi := (⟨"RowDeskModel", "change", "(IIII)I"⟩, prog_6_method_23_code, 6, (some .int), 2, 49)
def m_MO_often : XMi := (⟨"RowDeskModel", "often", "(II)I"⟩, prog_6_method_24_code, 6, (some .int), 2, 46)
def m_MO_unlike : XMi := (⟨"RowDeskModel", "unlike", "(II)I"⟩, prog_6_method_25_code, 6, (some .int), 1, 22)
def m_MO_strip : XMi := (⟨"RowDeskModel", "strip", "(III)I"⟩, prog_6_method_26_code, 6, (some .int), 2, 49)
def m_MO_turn : XMi := (⟨"RowDeskModel", "turn", "(III)I"⟩, prog_6_method_29_code, 7, (some .int), 1, 22)
def m_MO_large : XMi := (⟨"RowDeskModel", "large", "(I)I"⟩, prog_6_method_27_code, 1, (some .int), 0, 0)
def m_MO_small : XMi := (⟨"RowDeskModel", "small", "(I)I"⟩, prog_6_method_28_code, 1, (some .int), 0, 0)
def m_MO_translate : XMi := (⟨"RowDeskModel", "translate", "(IIII)I"⟩, prog_6_method_31_code, 7, (some .int), 2, 45)
def m_MO_placeOf : XMi := (⟨"RowDeskModel", "placeOf", "(II)I"⟩, prog_6_method_30_code, 4, (some .int), 1, 22)
def m_MO_verify : XMi := (⟨"RowDeskModel", "verify", "(IIIZ)I"⟩, prog_6_method_32_code, 6, (some .int), 2, 45)
def m_MO_space : XMi := (⟨"RowDeskModel", "space", "(III)I"⟩, prog_6_method_35_code, 6, (some .int), 3, 69)
def m_MO_words : XMi := (⟨"RowDeskModel", "words", "(I)I"⟩, prog_6_method_36_code, 3, (some .int), 2, 47)
def m_MO_begin : XMi := (⟨"RowDeskModel", "begin", "(II)I"⟩, prog_6_method_33_code, 6, (some .int), 1, 22)
def m_MO_wordEnd : XMi := (⟨"RowDeskModel", "wordEnd", "(II)I"⟩, prog_6_method_34_code, 4, (some .int), 1, 22)
def m_MO_word : XMi := (⟨"RowDeskModel", "word", "(III)I"⟩, prog_6_method_37_code, 5, (some .int), 2, 47)
def m_MO_some : XMi := (⟨"RowDeskModel", "some", "(IIIZI)I"⟩, prog_6_method_38_code, 11, (some .int), 3, 69)
def m_MO_order : XMi := (⟨"RowDeskModel", "order", "(III)I"⟩, prog_6_method_40_code, 8, (some .int), 2, 49)
def m_MO_isAhead : XMi := (⟨"RowDeskModel", "isAhead", "(III)Z"⟩, prog_6_method_39_code, 8, (some .boolean), 1, 22)
def m_MO_place : XMi := (⟨"RowDeskModel", "place", "(III)I"⟩, prog_6_method_41_code, 9, (some .int), 3, 72)
def m_MO_areAlike : XMi := (⟨"RowDeskModel", "areAlike", "(IIII)Z"⟩, prog_6_method_42_code, 8, (some .boolean), 2, 45)
def m_LA_law : XMi := (⟨"RowDeskLaw", "law", "([I)Z"⟩, code, 4, some .boolean, 8, 284)
def xshp : List ((Nat × Nat) ⊕ (List Nat ⊕ (Nat × List (Nat ⊕ Nat)))) := [
  .inr (.inr (1, [.inl 12, .inr 0])),
  .inr (.inr (1, [.inl 13, .inr 1])),
  .inr (.inr (1, [.inl 14, .inr 2])),
  .inr (.inr (1, [.inl 15, .inr 3])),
  .inr (.inr (1, [.inl 16, .inr 4])),
  .inr (.inr (1, [.inl 17, .inr 5])),
  .inr (.inr (1, [.inl 18, .inr 6])),
  .inr (.inr (1, [.inl 19, .inr 7])),
  .inr (.inr (1, [.inl 20, .inr 8])),
  .inr (.inr (1, [.inl 21, .inr 9])),
  .inr (.inr (1, [.inl 22, .inr 10])),
  .inr (.inr (1, [.inl 23, .inr 11])),
  .inl (200, 0),
  .inl (200, 1),
  .inl (200, 2),
  .inl (200, 3),
  .inl (200, 4),
  .inl (200, 5),
  .inl (200, 6),
  .inl (200, 7),
  .inl (200, 8),
  .inl (200, 9),
  .inl (200, 10),
  .inl (240, 11),
  .inr (.inr (3, [.inl 11, .inl 25, .inl 10, .inl 26, .inl 30, .inl 34, .inr 12])),
  .inr (.inl [0, 1, 2, 3, 4, 5, 6, 7, 8, 9]),
  .inr (.inr (2, [.inl 27, .inl 28, .inl 29, .inr 13, .inr 14])),
  .inl (100, 12),
  .inl (100, 13),
  .inl (100, 14),
  .inr (.inr (2, [.inl 31, .inl 32, .inl 33, .inr 15, .inr 16])),
  .inl (100, 15),
  .inl (100, 16),
  .inl (100, 17),
  .inr (.inr (0, [.inl 35])),
  .inl (256, 18),
  .inr (.inr (4, [.inl 37, .inl 38, .inl 39, .inl 40, .inl 41, .inr 17, .inr 18, .inr 19, .inl 42, .inl 43])),
  .inl (240, 19),
  .inl (2000, 20),
  .inl (10, 21),
  .inl (220, 22),
  .inl (256, 23),
  .inl (102, 24),
  .inl (102, 25)]
def xiown (x : Nat) : Nat × Nat := ([(0, 1), (1, 1), (2, 1), (3, 1), (4, 1), (5, 1), (6, 1), (7, 1), (8, 1), (9, 1), (10, 1), (11, 1), (24, 6), (26, 3), (26, 4), (30, 3), (30, 4), (36, 5), (36, 6), (36, 7)] : List (Nat × Nat)).getD x (0, 0)
def xaown (x : Nat) : Nat := ([12, 13, 14, 15, 16, 17, 18, 19, 20, 21, 22, 23, 27, 28, 29, 31, 32, 33, 35, 37, 38, 39, 40, 41, 42, 43] : List Nat).getD x 0
