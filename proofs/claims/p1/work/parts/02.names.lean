def R_LF : String := "LayoutFront"
def F_LF : u_T := fun k => match k with
  | 0 => ("LayoutFront", "text", "LLayoutFront$Text;", true)
  | 1 => ("LayoutFront", "fixities", "LLayoutFront$Fixities;", true)
  | 2 => ("LayoutFront", "cutter", "LLayoutFront$Cutter;", true)
  | 3 => ("LayoutFront", "blocks", "LLayoutFront$Blocks;", true)
  | 4 => ("LayoutFront", "rows", "LLayoutFront$Rows;", true)
  | 5 => ("LayoutFront", "tokens", "LLayoutFront$Tokens;", true)
  | 6 => ("LayoutFront", "counts", "[I", true)
  | _ => ("LayoutFront", "wrongPlace", "I", false)
def t_LF : Nat → FieldType := fun k => match k with
  | 0 => .object "LayoutFront$Text"
  | 1 => .object "LayoutFront$Fixities"
  | 2 => .object "LayoutFront$Cutter"
  | 3 => .object "LayoutFront$Blocks"
  | 4 => .object "LayoutFront$Rows"
  | 5 => .object "LayoutFront$Tokens"
  | 6 => .array (.int)
  | _ => .int
theorem n_LF : ∀ a, a < 8 → ∀ b, b < 8 → a ≠ b → (F_LF a).2.1 ≠ (F_LF b).2.1 := by decide +kernel
theorem t_LF_ok : ∀ k, k < 8 → parseFieldDescriptor (F_LF k).2.2.1 = some (t_LF k) := by decide +kernel
theorem df_LF : ∀ j, j < 8 → defaultValue (t_LF j) = vp_V [.null, .null, .null, .null, .null, .null, .null, .int 0] j := by decide +kernel
def R_Model : String := "LayoutFrontModel"
def F_Model : u_T := fun k => match k with
  | 0 => ("LayoutFrontModel", "thrown", "I", false)
  | 1 => ("LayoutFrontModel", "length", "I", false)
  | 2 => ("LayoutFrontModel", "text", "[I", true)
  | 3 => ("LayoutFrontModel", "bad", "I", false)
  | 4 => ("LayoutFrontModel", "place", "I", false)
  | 5 => ("LayoutFrontModel", "at", "I", false)
  | 6 => ("LayoutFrontModel", "lexemes", "I", false)
  | 7 => ("LayoutFrontModel", "kind", "[I", true)
  | 8 => ("LayoutFrontModel", "value", "[J", true)
  | 9 => ("LayoutFrontModel", "where", "[I", true)
  | 10 => ("LayoutFrontModel", "column", "[I", true)
  | 11 => ("LayoutFrontModel", "leads", "[Z", true)
  | 12 => ("LayoutFrontModel", "open", "I", false)
  | 13 => ("LayoutFrontModel", "highest", "I", false)
  | 14 => ("LayoutFrontModel", "row", "[I", true)
  | 15 => ("LayoutFrontModel", "tokens", "I", false)
  | 16 => ("LayoutFrontModel", "blocks", "I", false)
  | 17 => ("LayoutFrontModel", "sort", "[I", true)
  | 18 => ("LayoutFrontModel", "is", "[J", true)
  | 19 => ("LayoutFrontModel", "before", "[I", true)
  | 20 => ("LayoutFrontModel", "behind", "[I", true)
  | 21 => ("LayoutFrontModel", "partner", "[I", true)
  | 22 => ("LayoutFrontModel", "done", "[Z", true)
  | 23 => ("LayoutFrontModel", "all", "I", false)
  | 24 => ("LayoutFrontModel", "kinds", "[I", true)
  | 25 => ("LayoutFrontModel", "values", "[J", true)
  | 26 => ("LayoutFrontModel", "told", "I", false)
  | 27 => ("LayoutFrontModel", "toldBlocks", "I", false)
  | 28 => ("LayoutFrontModel", "toldRows", "I", false)
  | 29 => ("LayoutFrontModel", "toldConflicts", "I", false)
  | 30 => ("LayoutFrontModel", "toldHighest", "I", false)
  | 31 => ("LayoutFrontModel", "set", "I", false)
  | 32 => ("LayoutFrontModel", "names", "[J", true)
  | 33 => ("LayoutFrontModel", "sides", "[I", true)
  | 34 => ("LayoutFrontModel", "levels", "[I", true)
  | 35 => ("LayoutFrontModel", "items", "I", false)
  | 36 => ("LayoutFrontModel", "operands", "I", false)
  | 37 => ("LayoutFrontModel", "waiting", "I", false)
  | 38 => ("LayoutFrontModel", "pairs", "I", false)
  | 39 => ("LayoutFrontModel", "rows", "I", false)
  | 40 => ("LayoutFrontModel", "conflicts", "I", false)
  | 41 => ("LayoutFrontModel", "from", "[I", true)
  | 42 => ("LayoutFrontModel", "to", "[I", true)
  | 43 => ("LayoutFrontModel", "what", "[I", true)
  | 44 => ("LayoutFrontModel", "left", "[I", true)
  | 45 => ("LayoutFrontModel", "right", "[I", true)
  | 46 => ("LayoutFrontModel", "waits", "[I", true)
  | 47 => ("LayoutFrontModel", "opens", "[I", true)
  | 48 => ("LayoutFrontModel", "closes", "[I", true)
  | _ => ("LayoutFrontModel", "waitsFor", "[I", true)
def t_Model : Nat → FieldType := fun k => match k with
  | 0 => .int
  | 1 => .int
  | 2 => .array (.int)
  | 3 => .int
  | 4 => .int
  | 5 => .int
  | 6 => .int
  | 7 => .array (.int)
  | 8 => .array (.long)
  | 9 => .array (.int)
  | 10 => .array (.int)
  | 11 => .array (.boolean)
  | 12 => .int
  | 13 => .int
  | 14 => .array (.int)
  | 15 => .int
  | 16 => .int
  | 17 => .array (.int)
  | 18 => .array (.long)
  | 19 => .array (.int)
  | 20 => .array (.int)
  | 21 => .array (.int)
  | 22 => .array (.boolean)
  | 23 => .int
  | 24 => .array (.int)
  | 25 => .array (.long)
  | 26 => .int
  | 27 => .int
  | 28 => .int
  | 29 => .int
  | 30 => .int
  | 31 => .int
  | 32 => .array (.long)
  | 33 => .array (.int)
  | 34 => .array (.int)
  | 35 => .int
  | 36 => .int
  | 37 => .int
  | 38 => .int
  | 39 => .int
  | 40 => .int
  | 41 => .array (.int)
  | 42 => .array (.int)
  | 43 => .array (.int)
  | 44 => .array (.int)
  | 45 => .array (.int)
  | 46 => .array (.int)
  | 47 => .array (.int)
  | 48 => .array (.int)
  | _ => .array (.int)
theorem n_Model : ∀ a, a < 50 → ∀ b, b < 50 → a ≠ b → (F_Model a).2.1 ≠ (F_Model b).2.1 := by decide +kernel
theorem t_Model_ok : ∀ k, k < 50 → parseFieldDescriptor (F_Model k).2.2.1 = some (t_Model k) := by decide +kernel
theorem df_Model : ∀ j, j < 50 → defaultValue (t_Model j) = vp_V [.int 0, .int 0, .null, .int 0, .int 0, .int 0, .int 0, .null, .null, .null, .null, .null, .int 0, .int 0, .null, .int 0, .int 0, .null, .null, .null, .null, .null, .null, .int 0, .null, .null, .int 0, .int 0, .int 0, .int 0, .int 0, .int 0, .null, .null, .null, .int 0, .int 0, .int 0, .int 0, .int 0, .int 0, .null, .null, .null, .null, .null, .null, .null, .null, .null] j := by decide +kernel
def R_Blocks : String := "LayoutFront$Blocks"
def F_Blocks : u_T := fun k => match k with
  | 0 => ("LayoutFront$Blocks", "open", "LLayoutFront$Open;", true)
  | 1 => ("LayoutFront$Blocks", "laid", "LLayoutFront$Tokens;", true)
  | _ => ("LayoutFront$Blocks", "begun", "I", false)
def t_Blocks : Nat → FieldType := fun k => match k with
  | 0 => .object "LayoutFront$Open"
  | 1 => .object "LayoutFront$Tokens"
  | _ => .int
theorem n_Blocks : ∀ a, a < 3 → ∀ b, b < 3 → a ≠ b → (F_Blocks a).2.1 ≠ (F_Blocks b).2.1 := by decide +kernel
theorem t_Blocks_ok : ∀ k, k < 3 → parseFieldDescriptor (F_Blocks k).2.2.1 = some (t_Blocks k) := by decide +kernel
theorem df_Blocks : ∀ j, j < 3 → defaultValue (t_Blocks j) = vp_V [.null, .null, .int 0] j := by decide +kernel
def R_Cutter : String := "LayoutFront$Cutter"
def F_Cutter : u_T := fun k => match k with
  | 0 => ("LayoutFront$Cutter", "lexemes", "LLayoutFront$Lexemes;", true)
  | 1 => ("LayoutFront$Cutter", "at", "I", false)
  | 2 => ("LayoutFront$Cutter", "lineStart", "I", false)
  | 3 => ("LayoutFront$Cutter", "lineIsFresh", "Z", false)
  | 4 => ("LayoutFront$Cutter", "wrongPlace", "I", false)
  | _ => ("LayoutFront$Cutter", "tooMany", "Z", false)
def t_Cutter : Nat → FieldType := fun k => match k with
  | 0 => .object "LayoutFront$Lexemes"
  | 1 => .int
  | 2 => .int
  | 3 => .boolean
  | 4 => .int
  | _ => .boolean
theorem n_Cutter : ∀ a, a < 6 → ∀ b, b < 6 → a ≠ b → (F_Cutter a).2.1 ≠ (F_Cutter b).2.1 := by decide +kernel
theorem t_Cutter_ok : ∀ k, k < 6 → parseFieldDescriptor (F_Cutter k).2.2.1 = some (t_Cutter k) := by decide +kernel
theorem df_Cutter : ∀ j, j < 6 → defaultValue (t_Cutter j) = vp_V [.null, .int 0, .int 0, .int 0, .int 0, .int 0] j := by decide +kernel
def R_Fixities : String := "LayoutFront$Fixities"
def F_Fixities : u_T := fun k => match k with
  | 0 => ("LayoutFront$Fixities", "names", "[J", true)
  | 1 => ("LayoutFront$Fixities", "sides", "[I", true)
  | 2 => ("LayoutFront$Fixities", "levels", "[I", true)
  | _ => ("LayoutFront$Fixities", "size", "I", false)
def t_Fixities : Nat → FieldType := fun k => match k with
  | 0 => .array (.long)
  | 1 => .array (.int)
  | 2 => .array (.int)
  | _ => .int
theorem n_Fixities : ∀ a, a < 4 → ∀ b, b < 4 → a ≠ b → (F_Fixities a).2.1 ≠ (F_Fixities b).2.1 := by decide +kernel
theorem t_Fixities_ok : ∀ k, k < 4 → parseFieldDescriptor (F_Fixities k).2.2.1 = some (t_Fixities k) := by decide +kernel
theorem df_Fixities : ∀ j, j < 4 → defaultValue (t_Fixities j) = vp_V [.null, .null, .null, .int 0] j := by decide +kernel
def R_Lexemes : String := "LayoutFront$Lexemes"
def F_Lexemes : u_T := fun k => match k with
  | 0 => ("LayoutFront$Lexemes", "tokens", "LLayoutFront$Tokens;", true)
  | 1 => ("LayoutFront$Lexemes", "places", "[I", true)
  | 2 => ("LayoutFront$Lexemes", "columns", "[I", true)
  | _ => ("LayoutFront$Lexemes", "lineFirsts", "[Z", true)
def t_Lexemes : Nat → FieldType := fun k => match k with
  | 0 => .object "LayoutFront$Tokens"
  | 1 => .array (.int)
  | 2 => .array (.int)
  | _ => .array (.boolean)
theorem n_Lexemes : ∀ a, a < 4 → ∀ b, b < 4 → a ≠ b → (F_Lexemes a).2.1 ≠ (F_Lexemes b).2.1 := by decide +kernel
theorem t_Lexemes_ok : ∀ k, k < 4 → parseFieldDescriptor (F_Lexemes k).2.2.1 = some (t_Lexemes k) := by decide +kernel
theorem df_Lexemes : ∀ j, j < 4 → defaultValue (t_Lexemes j) = vp_V [.null, .null, .null, .null] j := by decide +kernel
def R_Open : String := "LayoutFront$Open"
def F_Open : u_T := fun k => match k with
  | 0 => ("LayoutFront$Open", "things", "[I", true)
  | 1 => ("LayoutFront$Open", "size", "I", false)
  | _ => ("LayoutFront$Open", "most", "I", false)
def t_Open : Nat → FieldType := fun k => match k with
  | 0 => .array (.int)
  | 1 => .int
  | _ => .int
theorem n_Open : ∀ a, a < 3 → ∀ b, b < 3 → a ≠ b → (F_Open a).2.1 ≠ (F_Open b).2.1 := by decide +kernel
theorem t_Open_ok : ∀ k, k < 3 → parseFieldDescriptor (F_Open k).2.2.1 = some (t_Open k) := by decide +kernel
theorem df_Open : ∀ j, j < 3 → defaultValue (t_Open j) = vp_V [.null, .int 0, .int 0] j := by decide +kernel
def R_Resolver : String := "LayoutFront$Resolver"
def F_Resolver : u_T := fun k => match k with
  | 0 => ("LayoutFront$Resolver", "pairFirsts", "[I", true)
  | 1 => ("LayoutFront$Resolver", "pairLasts", "[I", true)
  | 2 => ("LayoutFront$Resolver", "pairs", "I", false)
  | 3 => ("LayoutFront$Resolver", "pairsBefore", "I", false)
  | 4 => ("LayoutFront$Resolver", "firsts", "[I", true)
  | 5 => ("LayoutFront$Resolver", "lasts", "[I", true)
  | 6 => ("LayoutFront$Resolver", "operands", "I", false)
  | 7 => ("LayoutFront$Resolver", "levels", "[I", true)
  | 8 => ("LayoutFront$Resolver", "sides", "[I", true)
  | 9 => ("LayoutFront$Resolver", "minusPlaces", "[I", true)
  | _ => ("LayoutFront$Resolver", "waiting", "I", false)
def t_Resolver : Nat → FieldType := fun k => match k with
  | 0 => .array (.int)
  | 1 => .array (.int)
  | 2 => .int
  | 3 => .int
  | 4 => .array (.int)
  | 5 => .array (.int)
  | 6 => .int
  | 7 => .array (.int)
  | 8 => .array (.int)
  | 9 => .array (.int)
  | _ => .int
theorem n_Resolver : ∀ a, a < 11 → ∀ b, b < 11 → a ≠ b → (F_Resolver a).2.1 ≠ (F_Resolver b).2.1 := by decide +kernel
theorem t_Resolver_ok : ∀ k, k < 11 → parseFieldDescriptor (F_Resolver k).2.2.1 = some (t_Resolver k) := by decide +kernel
theorem df_Resolver : ∀ j, j < 11 → defaultValue (t_Resolver j) = vp_V [.null, .null, .int 0, .int 0, .null, .null, .int 0, .null, .null, .null, .int 0] j := by decide +kernel
def R_Row : String := "LayoutFront$Row"
def F_Row : u_T := fun k => match k with
  | 0 => ("LayoutFront$Row", "parts", "[I", true)
  | 1 => ("LayoutFront$Row", "firsts", "[I", true)
  | 2 => ("LayoutFront$Row", "lasts", "[I", true)
  | 3 => ("LayoutFront$Row", "size", "I", false)
  | 4 => ("LayoutFront$Row", "operates", "Z", false)
  | _ => ("LayoutFront$Row", "lacksOperand", "Z", false)
def t_Row : Nat → FieldType := fun k => match k with
  | 0 => .array (.int)
  | 1 => .array (.int)
  | 2 => .array (.int)
  | 3 => .int
  | 4 => .boolean
  | _ => .boolean
theorem n_Row : ∀ a, a < 6 → ∀ b, b < 6 → a ≠ b → (F_Row a).2.1 ≠ (F_Row b).2.1 := by decide +kernel
theorem t_Row_ok : ∀ k, k < 6 → parseFieldDescriptor (F_Row k).2.2.1 = some (t_Row k) := by decide +kernel
theorem df_Row : ∀ j, j < 6 → defaultValue (t_Row j) = vp_V [.null, .null, .null, .int 0, .int 0, .int 0] j := by decide +kernel
def R_Rows : String := "LayoutFront$Rows"
def F_Rows : u_T := fun k => match k with
  | 0 => ("LayoutFront$Rows", "closers", "[I", true)
  | 1 => ("LayoutFront$Rows", "openers", "[I", true)
  | 2 => ("LayoutFront$Rows", "opened", "[I", true)
  | 3 => ("LayoutFront$Rows", "closed", "[I", true)
  | 4 => ("LayoutFront$Rows", "row", "LLayoutFront$Row;", true)
  | 5 => ("LayoutFront$Rows", "resolver", "LLayoutFront$Resolver;", true)
  | 6 => ("LayoutFront$Rows", "together", "I", false)
  | _ => ("LayoutFront$Rows", "inConflict", "I", false)
def t_Rows : Nat → FieldType := fun k => match k with
  | 0 => .array (.int)
  | 1 => .array (.int)
  | 2 => .array (.int)
  | 3 => .array (.int)
  | 4 => .object "LayoutFront$Row"
  | 5 => .object "LayoutFront$Resolver"
  | 6 => .int
  | _ => .int
theorem n_Rows : ∀ a, a < 8 → ∀ b, b < 8 → a ≠ b → (F_Rows a).2.1 ≠ (F_Rows b).2.1 := by decide +kernel
theorem t_Rows_ok : ∀ k, k < 8 → parseFieldDescriptor (F_Rows k).2.2.1 = some (t_Rows k) := by decide +kernel
theorem df_Rows : ∀ j, j < 8 → defaultValue (t_Rows j) = vp_V [.null, .null, .null, .null, .null, .null, .int 0, .int 0] j := by decide +kernel
def R_Text : String := "LayoutFront$Text"
def F_Text : u_T := fun k => match k with
  | 0 => ("LayoutFront$Text", "characters", "[C", true)
  | _ => ("LayoutFront$Text", "length", "I", false)
def t_Text : Nat → FieldType := fun k => match k with
  | 0 => .array (.char)
  | _ => .int
theorem n_Text : ∀ a, a < 2 → ∀ b, b < 2 → a ≠ b → (F_Text a).2.1 ≠ (F_Text b).2.1 := by decide +kernel
theorem t_Text_ok : ∀ k, k < 2 → parseFieldDescriptor (F_Text k).2.2.1 = some (t_Text k) := by decide +kernel
theorem df_Text : ∀ j, j < 2 → defaultValue (t_Text j) = vp_V [.null, .int 0] j := by decide +kernel
def R_Tokens : String := "LayoutFront$Tokens"
def F_Tokens : u_T := fun k => match k with
  | 0 => ("LayoutFront$Tokens", "kinds", "[I", true)
  | 1 => ("LayoutFront$Tokens", "values", "[J", true)
  | _ => ("LayoutFront$Tokens", "size", "I", false)
def t_Tokens : Nat → FieldType := fun k => match k with
  | 0 => .array (.int)
  | 1 => .array (.long)
  | _ => .int
theorem n_Tokens : ∀ a, a < 3 → ∀ b, b < 3 → a ≠ b → (F_Tokens a).2.1 ≠ (F_Tokens b).2.1 := by decide +kernel
theorem t_Tokens_ok : ∀ k, k < 3 → parseFieldDescriptor (F_Tokens k).2.2.1 = some (t_Tokens k) := by decide +kernel
theorem df_Tokens : ∀ j, j < 3 → defaultValue (t_Tokens j) = vp_V [.null, .null, .int 0] j := by decide +kernel
def R_Law : String := "LayoutFrontLaw"
abbrev vcl : List vw_C := [(R_LF, F_LF, 8), (R_Model, F_Model, 50), (R_Blocks, F_Blocks, 3), (R_Cutter, F_Cutter, 6), (R_Fixities, F_Fixities, 4), (R_Lexemes, F_Lexemes, 4), (R_Open, F_Open, 3), (R_Resolver, F_Resolver, 11), (R_Row, F_Row, 6), (R_Rows, F_Rows, 8), (R_Text, F_Text, 2), (R_Tokens, F_Tokens, 3)]
def y_LF_init : MethodName := ⟨R_LF, "<init>", "()V"⟩
abbrev b_LF_init : ByteArray := prog_1_method_1_code
def y_LF_write : MethodName := ⟨R_LF, "write", "(JI)I"⟩
abbrev b_LF_write : ByteArray := prog_1_method_2_code
def y_LF_erase : MethodName := ⟨R_LF, "erase", "()I"⟩
abbrev b_LF_erase : ByteArray := prog_1_method_3_code
def y_LF_fixity : MethodName := ⟨R_LF, "fixity", "(JII)I"⟩
abbrev b_LF_fixity : ByteArray := prog_1_method_4_code
def y_LF_read : MethodName := ⟨R_LF, "read", "()I"⟩
abbrev b_LF_read : ByteArray := prog_1_method_5_code
def y_LF_keepCounts : MethodName := ⟨R_LF, "keepCounts", "()V"⟩
abbrev b_LF_keepCounts : ByteArray := prog_1_method_6_code
def y_LF_place : MethodName := ⟨R_LF, "place", "()I"⟩
abbrev b_LF_place : ByteArray := prog_1_method_7_code
def y_LF_kind : MethodName := ⟨R_LF, "kind", "(I)I"⟩
abbrev b_LF_kind : ByteArray := prog_1_method_8_code
def y_LF_token : MethodName := ⟨R_LF, "token", "(I)J"⟩
abbrev b_LF_token : ByteArray := prog_1_method_9_code
def y_LF_count : MethodName := ⟨R_LF, "count", "(I)I"⟩
abbrev b_LF_count : ByteArray := prog_1_method_10_code
def y_Model_init : MethodName := ⟨R_Model, "<init>", "()V"⟩
abbrev b_Model_init : ByteArray := prog_13_method_1_code
def y_Model_thrown : MethodName := ⟨R_Model, "thrown", "()I"⟩
abbrev b_Model_thrown : ByteArray := prog_13_method_2_code
def y_Model_fail : MethodName := ⟨R_Model, "fail", "(I)I"⟩
abbrev b_Model_fail : ByteArray := prog_13_method_3_code
def y_Model_within : MethodName := ⟨R_Model, "within", "(III)Z"⟩
abbrev b_Model_within : ByteArray := prog_13_method_4_code
def y_Model_write : MethodName := ⟨R_Model, "write", "(JI)I"⟩
abbrev b_Model_write : ByteArray := prog_13_method_5_code
def y_Model_erase : MethodName := ⟨R_Model, "erase", "()I"⟩
abbrev b_Model_erase : ByteArray := prog_13_method_6_code
def y_Model_find : MethodName := ⟨R_Model, "find", "(J)I"⟩
abbrev b_Model_find : ByteArray := prog_13_method_7_code
def y_Model_fixity : MethodName := ⟨R_Model, "fixity", "(JII)I"⟩
abbrev b_Model_fixity : ByteArray := prog_13_method_8_code
def y_Model_cut : MethodName := ⟨R_Model, "cut", "()V"⟩
abbrev b_Model_cut : ByteArray := prog_13_method_20_code
def y_Model_emit : MethodName := ⟨R_Model, "emit", "(IJ)V"⟩
abbrev b_Model_emit : ByteArray := prog_13_method_22_code
def y_Model_top : MethodName := ⟨R_Model, "top", "()I"⟩
abbrev b_Model_top : ByteArray := prog_13_method_24_code
def y_Model_leave : MethodName := ⟨R_Model, "leave", "(Z)V"⟩
abbrev b_Model_leave : ByteArray := prog_13_method_28_code
def y_Model_begins : MethodName := ⟨R_Model, "begins", "(I)Z"⟩
abbrev b_Model_begins : ByteArray := prog_13_method_33_code
def y_Model_begin : MethodName := ⟨R_Model, "begin", "(I)V"⟩
abbrev b_Model_begin : ByteArray := prog_13_method_34_code
def y_Model_lay : MethodName := ⟨R_Model, "lay", "()V"⟩
abbrev b_Model_lay : ByteArray := prog_13_method_35_code
def y_Model_partners : MethodName := ⟨R_Model, "partners", "()V"⟩
abbrev b_Model_partners : ByteArray := prog_13_method_37_code
def y_Model_plainName : MethodName := ⟨R_Model, "plainName", "(I)Z"⟩
abbrev b_Model_plainName : ByteArray := prog_13_method_38_code
def y_Model_tick : MethodName := ⟨R_Model, "tick", "(I)Z"⟩
abbrev b_Model_tick : ByteArray := prog_13_method_39_code
def y_Model_extent : MethodName := ⟨R_Model, "extent", "(I)I"⟩
abbrev b_Model_extent : ByteArray := prog_13_method_40_code
def y_Model_around : MethodName := ⟨R_Model, "around", "()V"⟩
abbrev b_Model_around : ByteArray := prog_13_method_52_code
def y_Model_add : MethodName := ⟨R_Model, "add", "(IJ)V"⟩
abbrev b_Model_add : ByteArray := prog_13_method_53_code
def y_Model_read : MethodName := ⟨R_Model, "read", "()I"⟩
abbrev b_Model_read : ByteArray := prog_13_method_54_code
def y_Model_place : MethodName := ⟨R_Model, "place", "()I"⟩
abbrev b_Model_place : ByteArray := prog_13_method_55_code
def y_Model_kind : MethodName := ⟨R_Model, "kind", "(I)I"⟩
abbrev b_Model_kind : ByteArray := prog_13_method_56_code
def y_Model_token : MethodName := ⟨R_Model, "token", "(I)J"⟩
abbrev b_Model_token : ByteArray := prog_13_method_57_code
def y_Model_count : MethodName := ⟨R_Model, "count", "(I)I"⟩
abbrev b_Model_count : ByteArray := prog_13_method_58_code
def y_Blocks_init : MethodName := ⟨R_Blocks, "<init>", "()V"⟩
abbrev b_Blocks_init : ByteArray := prog_2_method_1_code
def y_Blocks_laid : MethodName := ⟨R_Blocks, "laid", "()LLayoutFront$Tokens;"⟩
abbrev b_Blocks_laid : ByteArray := prog_2_method_2_code
def y_Blocks_begun : MethodName := ⟨R_Blocks, "begun", "()I"⟩
abbrev b_Blocks_begun : ByteArray := prog_2_method_3_code
def y_Blocks_mostOpen : MethodName := ⟨R_Blocks, "mostOpen", "()I"⟩
abbrev b_Blocks_mostOpen : ByteArray := prog_2_method_4_code
def y_Blocks_lay : MethodName := ⟨R_Blocks, "lay", "(LLayoutFront$Lexemes;I)I"⟩
abbrev b_Blocks_lay : ByteArray := prog_2_method_5_code
def y_Blocks_putBefore : MethodName := ⟨R_Blocks, "putBefore", "(LLayoutFront$Lexemes;I)V"⟩
abbrev b_Blocks_putBefore : ByteArray := prog_2_method_6_code
def y_Blocks_beginsBlock : MethodName := ⟨R_Blocks, "beginsBlock", "(LLayoutFront$Tokens;I)Z"⟩
abbrev b_Blocks_beginsBlock : ByteArray := prog_2_method_7_code
def y_Blocks_begin : MethodName := ⟨R_Blocks, "begin", "(I)V"⟩
abbrev b_Blocks_begin : ByteArray := prog_2_method_8_code
def y_Blocks_putIn : MethodName := ⟨R_Blocks, "putIn", "(C)V"⟩
abbrev b_Blocks_putIn : ByteArray := prog_2_method_10_code
def y_Blocks_closeBlocks : MethodName := ⟨R_Blocks, "closeBlocks", "(Z)V"⟩
abbrev b_Blocks_closeBlocks : ByteArray := prog_2_method_16_code
def y_Cutter_init : MethodName := ⟨R_Cutter, "<init>", "()V"⟩
abbrev b_Cutter_init : ByteArray := prog_3_method_1_code
def y_Cutter_lexemes : MethodName := ⟨R_Cutter, "lexemes", "()LLayoutFront$Lexemes;"⟩
abbrev b_Cutter_lexemes : ByteArray := prog_3_method_2_code
def y_Cutter_foundTooMany : MethodName := ⟨R_Cutter, "foundTooMany", "()Z"⟩
abbrev b_Cutter_foundTooMany : ByteArray := prog_3_method_3_code
def y_Cutter_cut : MethodName := ⟨R_Cutter, "cut", "(LLayoutFront$Text;)I"⟩
abbrev b_Cutter_cut : ByteArray := prog_3_method_4_code
def y_Fixities_init : MethodName := ⟨R_Fixities, "<init>", "()V"⟩
abbrev b_Fixities_init : ByteArray := prog_4_method_1_code
def y_Fixities_size : MethodName := ⟨R_Fixities, "size", "()I"⟩
abbrev b_Fixities_size : ByteArray := prog_4_method_2_code
def y_Fixities_hasRoomFor : MethodName := ⟨R_Fixities, "hasRoomFor", "(J)Z"⟩
abbrev b_Fixities_hasRoomFor : ByteArray := prog_4_method_3_code
def y_Fixities_set : MethodName := ⟨R_Fixities, "set", "(JII)V"⟩
abbrev b_Fixities_set : ByteArray := prog_4_method_4_code
def y_Fixities_find : MethodName := ⟨R_Fixities, "find", "(J)I"⟩
abbrev b_Fixities_find : ByteArray := prog_4_method_7_code
def y_Lexemes_init : MethodName := ⟨R_Lexemes, "<init>", "()V"⟩
abbrev b_Lexemes_init : ByteArray := prog_5_method_1_code
def y_Lexemes_clear : MethodName := ⟨R_Lexemes, "clear", "()V"⟩
abbrev b_Lexemes_clear : ByteArray := prog_5_method_2_code
def y_Lexemes_size : MethodName := ⟨R_Lexemes, "size", "()I"⟩
abbrev b_Lexemes_size : ByteArray := prog_5_method_3_code
def y_Lexemes_tokens : MethodName := ⟨R_Lexemes, "tokens", "()LLayoutFront$Tokens;"⟩
abbrev b_Lexemes_tokens : ByteArray := prog_5_method_5_code
def y_Lexemes_columnAt : MethodName := ⟨R_Lexemes, "columnAt", "(I)I"⟩
abbrev b_Lexemes_columnAt : ByteArray := prog_5_method_8_code
def y_Open_init : MethodName := ⟨R_Open, "<init>", "()V"⟩
abbrev b_Open_init : ByteArray := prog_6_method_1_code
def y_Open_clear : MethodName := ⟨R_Open, "clear", "()V"⟩
abbrev b_Open_clear : ByteArray := prog_6_method_2_code
def y_Open_size : MethodName := ⟨R_Open, "size", "()I"⟩
abbrev b_Open_size : ByteArray := prog_6_method_3_code
def y_Open_most : MethodName := ⟨R_Open, "most", "()I"⟩
abbrev b_Open_most : ByteArray := prog_6_method_4_code
def y_Open_latestColumn : MethodName := ⟨R_Open, "latestColumn", "()I"⟩
abbrev b_Open_latestColumn : ByteArray := prog_6_method_12_code
def y_Resolver_init : MethodName := ⟨R_Resolver, "<init>", "()V"⟩
abbrev b_Resolver_init : ByteArray := prog_7_method_1_code
def y_Resolver_clear : MethodName := ⟨R_Resolver, "clear", "()V"⟩
abbrev b_Resolver_clear : ByteArray := prog_7_method_2_code
def y_Resolver_startRow : MethodName := ⟨R_Resolver, "startRow", "()V"⟩
abbrev b_Resolver_startRow : ByteArray := prog_7_method_3_code
def y_Resolver_tally : MethodName := ⟨R_Resolver, "tally", "([I[I)V"⟩
abbrev b_Resolver_tally : ByteArray := prog_7_method_11_code
def y_Row_init : MethodName := ⟨R_Row, "<init>", "()V"⟩
abbrev b_Row_init : ByteArray := prog_8_method_1_code
def y_Row_clear : MethodName := ⟨R_Row, "clear", "()V"⟩
abbrev b_Row_clear : ByteArray := prog_8_method_2_code
def y_Row_isWhole : MethodName := ⟨R_Row, "isWhole", "()Z"⟩
abbrev b_Row_isWhole : ByteArray := prog_8_method_4_code
def y_Rows_init : MethodName := ⟨R_Rows, "<init>", "()V"⟩
abbrev b_Rows_init : ByteArray := prog_9_method_1_code
def y_Rows_together : MethodName := ⟨R_Rows, "together", "()I"⟩
abbrev b_Rows_together : ByteArray := prog_9_method_2_code
def y_Rows_inConflict : MethodName := ⟨R_Rows, "inConflict", "()I"⟩
abbrev b_Rows_inConflict : ByteArray := prog_9_method_3_code
def y_Rows_putTogether : MethodName := ⟨R_Rows, "putTogether", "(LLayoutFront$Tokens;LLayoutFront$Fixities;)V"⟩
abbrev b_Rows_putTogether : ByteArray := prog_9_method_4_code
def y_Rows_copyInto : MethodName := ⟨R_Rows, "copyInto", "(LLayoutFront$Tokens;LLayoutFront$Tokens;)V"⟩
abbrev b_Rows_copyInto : ByteArray := prog_9_method_5_code
def y_Rows_matchBrackets : MethodName := ⟨R_Rows, "matchBrackets", "(LLayoutFront$Tokens;)V"⟩
abbrev b_Rows_matchBrackets : ByteArray := prog_9_method_6_code
def y_Rows_putLevelTogether : MethodName := ⟨R_Rows, "putLevelTogether", "(LLayoutFront$Tokens;IILLayoutFront$Fixities;)V"⟩
abbrev b_Rows_putLevelTogether : ByteArray := prog_9_method_8_code
def y_Rows_collectRow : MethodName := ⟨R_Rows, "collectRow", "(LLayoutFront$Tokens;II)I"⟩
abbrev b_Rows_collectRow : ByteArray := prog_9_method_9_code
def y_Rows_behindOperand : MethodName := ⟨R_Rows, "behindOperand", "(LLayoutFront$Tokens;I)I"⟩
abbrev b_Rows_behindOperand : ByteArray := prog_9_method_10_code
def y_Rows_behindOperation : MethodName := ⟨R_Rows, "behindOperation", "(LLayoutFront$Tokens;I)I"⟩
abbrev b_Rows_behindOperation : ByteArray := prog_9_method_11_code
def y_Text_init : MethodName := ⟨R_Text, "<init>", "()V"⟩
abbrev b_Text_init : ByteArray := prog_10_method_1_code
def y_Text_areCharacters : MethodName := ⟨R_Text, "areCharacters", "(JI)Z"⟩
abbrev b_Text_areCharacters : ByteArray := prog_10_method_2_code
def y_Text_byteOf : MethodName := ⟨R_Text, "byteOf", "(JI)I"⟩
abbrev b_Text_byteOf : ByteArray := prog_10_method_3_code
def y_Text_length : MethodName := ⟨R_Text, "length", "()I"⟩
abbrev b_Text_length : ByteArray := prog_10_method_4_code
def y_Text_hasRoomFor : MethodName := ⟨R_Text, "hasRoomFor", "(I)Z"⟩
abbrev b_Text_hasRoomFor : ByteArray := prog_10_method_5_code
def y_Text_append : MethodName := ⟨R_Text, "append", "(JI)V"⟩
abbrev b_Text_append : ByteArray := prog_10_method_6_code
def y_Text_clear : MethodName := ⟨R_Text, "clear", "()V"⟩
abbrev b_Text_clear : ByteArray := prog_10_method_7_code
def y_Tokens_init : MethodName := ⟨R_Tokens, "<init>", "(I)V"⟩
abbrev b_Tokens_init : ByteArray := prog_11_method_1_code
def y_Tokens_clear : MethodName := ⟨R_Tokens, "clear", "()V"⟩
abbrev b_Tokens_clear : ByteArray := prog_11_method_2_code
def y_Tokens_size : MethodName := ⟨R_Tokens, "size", "()I"⟩
abbrev b_Tokens_size : ByteArray := prog_11_method_3_code
def y_Tokens_add : MethodName := ⟨R_Tokens, "add", "(IJ)V"⟩
abbrev b_Tokens_add : ByteArray := prog_11_method_4_code
def y_Tokens_addTimes : MethodName := ⟨R_Tokens, "addTimes", "(IIJ)V"⟩
abbrev b_Tokens_addTimes : ByteArray := prog_11_method_5_code
def y_Tokens_has : MethodName := ⟨R_Tokens, "has", "(I)Z"⟩
abbrev b_Tokens_has : ByteArray := prog_11_method_6_code
def y_Tokens_kindAt : MethodName := ⟨R_Tokens, "kindAt", "(I)I"⟩
abbrev b_Tokens_kindAt : ByteArray := prog_11_method_7_code
def y_Tokens_valueAt : MethodName := ⟨R_Tokens, "valueAt", "(I)J"⟩
abbrev b_Tokens_valueAt : ByteArray := prog_11_method_8_code
def y_Tokens_isSign : MethodName := ⟨R_Tokens, "isSign", "(IC)Z"⟩
abbrev b_Tokens_isSign : ByteArray := prog_11_method_9_code
def y_Tokens_opensBracket : MethodName := ⟨R_Tokens, "opensBracket", "(I)Z"⟩
abbrev b_Tokens_opensBracket : ByteArray := prog_11_method_10_code
def y_Tokens_closesBracket : MethodName := ⟨R_Tokens, "closesBracket", "(I)Z"⟩
abbrev b_Tokens_closesBracket : ByteArray := prog_11_method_11_code
def y_Tokens_wordAt : MethodName := ⟨R_Tokens, "wordAt", "(I)I"⟩
abbrev b_Tokens_wordAt : ByteArray := prog_11_method_12_code
def y_Tokens_isFreeName : MethodName := ⟨R_Tokens, "isFreeName", "(I)Z"⟩
abbrev b_Tokens_isFreeName : ByteArray := prog_11_method_13_code
def y_Tokens_isFreeOperator : MethodName := ⟨R_Tokens, "isFreeOperator", "(I)Z"⟩
abbrev b_Tokens_isFreeOperator : ByteArray := prog_11_method_14_code
def y_Law_write : MethodName := ⟨R_Law, "write", "(LLayoutFront;JI[J)I"⟩
abbrev b_Law_write : ByteArray := method_3_code
def y_Law_fixity : MethodName := ⟨R_Law, "fixity", "(LLayoutFront;JII[J)I"⟩
abbrev b_Law_fixity : ByteArray := method_4_code
def y_Law_read : MethodName := ⟨R_Law, "read", "(LLayoutFront;[J)I"⟩
abbrev b_Law_read : ByteArray := method_5_code
def y_Law_kind : MethodName := ⟨R_Law, "kind", "(LLayoutFront;I[J)I"⟩
abbrev b_Law_kind : ByteArray := method_6_code
def y_Law_token : MethodName := ⟨R_Law, "token", "(LLayoutFront;I[J)I"⟩
abbrev b_Law_token : ByteArray := method_7_code
def y_Law_count : MethodName := ⟨R_Law, "count", "(LLayoutFront;I[J)I"⟩
abbrev b_Law_count : ByteArray := method_8_code
def y_Law_law : MethodName := ⟨R_Law, "law", "([I)Z"⟩
def xIAE : String := "java/lang/IllegalArgumentException"
def xIOB : String := "java/lang/IndexOutOfBoundsException"
def wz_0 : List Cond := [.methodLink R_Text 3 objectInit, .instanceMethod objectInit, .code objectInit ⟨#[0xb1]⟩ 1 none, .arrayClass .char, .fieldLink R_Text 9 "LayoutFront$Text" "characters" "[C", .methodLink R_Fixities 3 objectInit, .arrayClass .long, .fieldLink R_Fixities 9 "LayoutFront$Fixities" "names" "[J", .arrayClass .int, .fieldLink R_Fixities 15 "LayoutFront$Fixities" "sides" "[I", .fieldLink R_Fixities 19 "LayoutFront$Fixities" "levels" "[I", .methodLink R_Tokens 3 objectInit, .fieldLink R_Tokens 9 "LayoutFront$Tokens" "kinds" "[I", .fieldLink R_Tokens 15 "LayoutFront$Tokens" "values" "[J", .methodLink R_Lexemes 3 objectInit, .classLink R_Lexemes 9 R_Tokens, .instantiable R_Tokens 3, .initialized R_Tokens, .code y_Tokens_init b_Tokens_init 2 none, .methodLink R_Lexemes 11 y_Tokens_init, .instanceMethod y_Tokens_init, .fieldLink R_Lexemes 14 "LayoutFront$Lexemes" "tokens" "LLayoutFront$Tokens;", .fieldLink R_Lexemes 20 "LayoutFront$Lexemes" "places" "[I", .fieldLink R_Lexemes 24 "LayoutFront$Lexemes" "columns" "[I", .arrayClass .boolean, .fieldLink R_Lexemes 27 "LayoutFront$Lexemes" "lineFirsts" "[Z", .methodLink R_Cutter 3 objectInit, .classLink R_Cutter 9 R_Lexemes, .instantiable R_Lexemes 4, .initialized R_Lexemes]
def wz_1 : List Cond := [.code y_Lexemes_init b_Lexemes_init 1 none, .instanceMethod y_Lexemes_init, .fieldLink R_Cutter 12 "LayoutFront$Cutter" "lexemes" "LLayoutFront$Lexemes;", .fieldLink R_Cutter 18 "LayoutFront$Cutter" "wrongPlace" "I", .methodLink R_Open 3 objectInit, .fieldLink R_Open 9 "LayoutFront$Open" "things" "[I", .methodLink R_Blocks 3 objectInit, .classLink R_Blocks 9 R_Open, .instantiable R_Open 3, .initialized R_Open, .code y_Open_init b_Open_init 1 none, .instanceMethod y_Open_init, .fieldLink R_Blocks 12 "LayoutFront$Blocks" "open" "LLayoutFront$Open;", .classLink R_Blocks 18 R_Tokens, .methodLink R_Blocks 20 y_Tokens_init, .fieldLink R_Blocks 23 "LayoutFront$Blocks" "laid" "LLayoutFront$Tokens;", .methodLink R_Row 3 objectInit, .fieldLink R_Row 9 "LayoutFront$Row" "parts" "[I", .fieldLink R_Row 15 "LayoutFront$Row" "firsts" "[I", .fieldLink R_Row 18 "LayoutFront$Row" "lasts" "[I", .methodLink R_Resolver 3 objectInit, .fieldLink R_Resolver 9 "LayoutFront$Resolver" "pairFirsts" "[I", .fieldLink R_Resolver 15 "LayoutFront$Resolver" "pairLasts" "[I", .fieldLink R_Resolver 18 "LayoutFront$Resolver" "firsts" "[I", .fieldLink R_Resolver 21 "LayoutFront$Resolver" "lasts" "[I", .fieldLink R_Resolver 24 "LayoutFront$Resolver" "levels" "[I", .fieldLink R_Resolver 27 "LayoutFront$Resolver" "sides" "[I", .fieldLink R_Resolver 30 "LayoutFront$Resolver" "minusPlaces" "[I", .methodLink R_Rows 3 objectInit, .fieldLink R_Rows 9 "LayoutFront$Rows" "closers" "[I"]
def wz_2 : List Cond := [.fieldLink R_Rows 15 "LayoutFront$Rows" "openers" "[I", .fieldLink R_Rows 18 "LayoutFront$Rows" "opened" "[I", .fieldLink R_Rows 21 "LayoutFront$Rows" "closed" "[I", .classLink R_Rows 24 R_Row, .instantiable R_Row 6, .initialized R_Row, .code y_Row_init b_Row_init 1 none, .instanceMethod y_Row_init, .fieldLink R_Rows 27 "LayoutFront$Rows" "row" "LLayoutFront$Row;", .classLink R_Rows 31 R_Resolver, .instantiable R_Resolver 11, .initialized R_Resolver, .code y_Resolver_init b_Resolver_init 1 none, .instanceMethod y_Resolver_init, .fieldLink R_Rows 34 "LayoutFront$Rows" "resolver" "LLayoutFront$Resolver;", .methodLink R_LF 3 objectInit, .classLink R_LF 9 R_Text, .instantiable R_Text 2, .initialized R_Text, .code y_Text_init b_Text_init 1 none, .instanceMethod y_Text_init, .fieldLink R_LF 12 "LayoutFront" "text" "LLayoutFront$Text;", .classLink R_LF 16 R_Fixities, .instantiable R_Fixities 4, .initialized R_Fixities, .code y_Fixities_init b_Fixities_init 1 none, .instanceMethod y_Fixities_init, .fieldLink R_LF 19 "LayoutFront" "fixities" "LLayoutFront$Fixities;", .classLink R_LF 23 R_Cutter, .instantiable R_Cutter 6]
def wz_3 : List Cond := [.initialized R_Cutter, .code y_Cutter_init b_Cutter_init 1 none, .instanceMethod y_Cutter_init, .fieldLink R_LF 26 "LayoutFront" "cutter" "LLayoutFront$Cutter;", .classLink R_LF 30 R_Blocks, .instantiable R_Blocks 3, .initialized R_Blocks, .code y_Blocks_init b_Blocks_init 1 none, .instanceMethod y_Blocks_init, .fieldLink R_LF 33 "LayoutFront" "blocks" "LLayoutFront$Blocks;", .classLink R_LF 37 R_Rows, .instantiable R_Rows 8, .initialized R_Rows, .code y_Rows_init b_Rows_init 1 none, .instanceMethod y_Rows_init, .fieldLink R_LF 40 "LayoutFront" "rows" "LLayoutFront$Rows;", .classLink R_LF 44 R_Tokens, .methodLink R_LF 46 y_Tokens_init, .fieldLink R_LF 49 "LayoutFront" "tokens" "LLayoutFront$Tokens;", .fieldLink R_LF 53 "LayoutFront" "counts" "[I", .fieldLink R_LF 57 "LayoutFront" "wrongPlace" "I", .fieldLink R_Tokens 19 "LayoutFront$Tokens" "size" "I", .methodLink R_Lexemes 31 y_Tokens_clear, .instanceMethod y_Tokens_clear, .selects R_Tokens y_Tokens_clear y_Tokens_clear, .code y_Tokens_clear b_Tokens_clear 1 none, .fieldLink R_Text 19 "LayoutFront$Text" "length" "I", .methodLink R_Cutter 26 y_Lexemes_clear, .instanceMethod y_Lexemes_clear, .selects R_Lexemes y_Lexemes_clear y_Lexemes_clear]
def wz_4 : List Cond := [.code y_Lexemes_clear b_Lexemes_clear 1 none, .fieldLink R_Cutter 29 "LayoutFront$Cutter" "at" "I", .fieldLink R_Cutter 32 "LayoutFront$Cutter" "lineStart" "I", .fieldLink R_Cutter 35 "LayoutFront$Cutter" "lineIsFresh" "Z", .fieldLink R_Cutter 22 "LayoutFront$Cutter" "tooMany" "Z", .methodLink R_Cutter 38 y_Text_length, .instanceMethod y_Text_length, .selects R_Text y_Text_length y_Text_length, .code y_Text_length b_Text_length 1 (some .int), .fieldLink R_Open 15 "LayoutFront$Open" "size" "I", .fieldLink R_Open 19 "LayoutFront$Open" "most" "I", .methodLink R_Lexemes 34 y_Tokens_size, .instanceMethod y_Tokens_size, .selects R_Tokens y_Tokens_size y_Tokens_size, .code y_Tokens_size b_Tokens_size 1 (some .int), .methodLink R_Tokens 27 y_Tokens_has, .instanceMethod y_Tokens_has, .selects R_Tokens y_Tokens_has y_Tokens_has, .code y_Tokens_has b_Tokens_has 2 (some .boolean), .methodLink R_Blocks 99 y_Tokens_isSign, .instanceMethod y_Tokens_isSign, .selects R_Tokens y_Tokens_isSign y_Tokens_isSign, .code y_Tokens_isSign b_Tokens_isSign 3 (some .boolean), .methodLink R_Blocks 64 y_Tokens_wordAt, .instanceMethod y_Tokens_wordAt, .selects R_Tokens y_Tokens_wordAt y_Tokens_wordAt, .code y_Tokens_wordAt b_Tokens_wordAt 2 (some .int), .methodLink R_Lexemes 42 y_Tokens_has, .methodLink R_Blocks 74 y_Tokens_add, .instanceMethod y_Tokens_add]
def wz_5 : List Cond := [.selects R_Tokens y_Tokens_add y_Tokens_add, .code y_Tokens_add b_Tokens_add 4 none, .fieldLink R_Blocks 27 "LayoutFront$Blocks" "begun" "I", .methodLink R_Blocks 103 y_Blocks_putIn, .instanceMethod y_Blocks_putIn, .selects R_Blocks y_Blocks_putIn y_Blocks_putIn, .code y_Blocks_putIn b_Blocks_putIn 2 none, .methodLink R_Blocks 107 y_Open_latestColumn, .instanceMethod y_Open_latestColumn, .selects R_Open y_Open_latestColumn y_Open_latestColumn, .code y_Open_latestColumn b_Open_latestColumn 2 (some .int), .methodLink R_Blocks 48 y_Lexemes_tokens, .instanceMethod y_Lexemes_tokens, .selects R_Lexemes y_Lexemes_tokens y_Lexemes_tokens, .code y_Lexemes_tokens b_Lexemes_tokens 1 (some (.object "LayoutFront$Tokens")), .methodLink R_Blocks 83 y_Blocks_beginsBlock, .static y_Blocks_beginsBlock, .code y_Blocks_beginsBlock b_Blocks_beginsBlock 2 (some .boolean), .methodLink R_Blocks 87 y_Lexemes_columnAt, .instanceMethod y_Lexemes_columnAt, .selects R_Lexemes y_Lexemes_columnAt y_Lexemes_columnAt, .code y_Lexemes_columnAt b_Lexemes_columnAt 2 (some .int), .methodLink R_Blocks 90 y_Blocks_begin, .instanceMethod y_Blocks_begin, .selects R_Blocks y_Blocks_begin y_Blocks_begin, .code y_Blocks_begin b_Blocks_begin 2 none, .methodLink R_Blocks 82 y_Open_size, .instanceMethod y_Open_size, .selects R_Open y_Open_size y_Open_size, .code y_Open_size b_Open_size 1 (some .int)]
def wz_6 : List Cond := [.methodLink R_Blocks 35 y_Open_clear, .instanceMethod y_Open_clear, .selects R_Open y_Open_clear y_Open_clear, .code y_Open_clear b_Open_clear 1 none, .methodLink R_Blocks 38 y_Tokens_clear, .methodLink R_Blocks 39 y_Lexemes_size, .instanceMethod y_Lexemes_size, .selects R_Lexemes y_Lexemes_size y_Lexemes_size, .code y_Lexemes_size b_Lexemes_size 1 (some .int), .methodLink R_Blocks 44 y_Blocks_putBefore, .instanceMethod y_Blocks_putBefore, .selects R_Blocks y_Blocks_putBefore y_Blocks_putBefore, .code y_Blocks_putBefore b_Blocks_putBefore 3 none, .methodLink R_Blocks 78 y_Blocks_closeBlocks, .instanceMethod y_Blocks_closeBlocks, .selects R_Blocks y_Blocks_closeBlocks y_Blocks_closeBlocks, .code y_Blocks_closeBlocks b_Blocks_closeBlocks 3 none, .fieldLink R_Resolver 33 "LayoutFront$Resolver" "pairs" "I", .fieldLink R_Resolver 40 "LayoutFront$Resolver" "pairsBefore" "I", .fieldLink R_Resolver 43 "LayoutFront$Resolver" "operands" "I", .fieldLink R_Resolver 46 "LayoutFront$Resolver" "waiting" "I", .methodLink R_Resolver 37 y_Resolver_startRow, .instanceMethod y_Resolver_startRow, .selects R_Resolver y_Resolver_startRow y_Resolver_startRow, .code y_Resolver_startRow b_Resolver_startRow 1 none, .methodLink R_Tokens 31 y_Tokens_isSign, .methodLink R_Rows 52 y_Tokens_size, .methodLink R_Rows 62 y_Tokens_opensBracket, .instanceMethod y_Tokens_opensBracket, .selects R_Tokens y_Tokens_opensBracket y_Tokens_opensBracket]
def wz_7 : List Cond := [.code y_Tokens_opensBracket b_Tokens_opensBracket 2 (some .boolean), .methodLink R_Rows 93 y_Tokens_closesBracket, .instanceMethod y_Tokens_closesBracket, .selects R_Tokens y_Tokens_closesBracket y_Tokens_closesBracket, .code y_Tokens_closesBracket b_Tokens_closesBracket 2 (some .boolean), .fieldLink R_Row 21 "LayoutFront$Row" "size" "I", .fieldLink R_Row 25 "LayoutFront$Row" "operates" "Z", .fieldLink R_Row 29 "LayoutFront$Row" "lacksOperand" "Z", .methodLink R_Rows 132 y_Tokens_isFreeName, .instanceMethod y_Tokens_isFreeName, .selects R_Tokens y_Tokens_isFreeName y_Tokens_isFreeName, .code y_Tokens_isFreeName b_Tokens_isFreeName 2 (some .boolean), .methodLink R_Rows 80 y_Tokens_kindAt, .instanceMethod y_Tokens_kindAt, .selects R_Tokens y_Tokens_kindAt y_Tokens_kindAt, .code y_Tokens_kindAt b_Tokens_kindAt 2 (some .int), .methodLink R_Rows 135 y_Tokens_isSign, .methodLink R_Rows 139 y_Tokens_isFreeOperator, .instanceMethod y_Tokens_isFreeOperator, .selects R_Tokens y_Tokens_isFreeOperator y_Tokens_isFreeOperator, .code y_Tokens_isFreeOperator b_Tokens_isFreeOperator 2 (some .boolean), .methodLink R_Rows 108 y_Row_clear, .instanceMethod y_Row_clear, .selects R_Row y_Row_clear y_Row_clear, .code y_Row_clear b_Row_clear 1 none, .methodLink R_Rows 109 y_Rows_behindOperand, .instanceMethod y_Rows_behindOperand, .selects R_Rows y_Rows_behindOperand y_Rows_behindOperand, .code y_Rows_behindOperand b_Rows_behindOperand 3 (some .int), .methodLink R_Rows 113 y_Rows_behindOperation]
def wz_8 : List Cond := [.static y_Rows_behindOperation, .code y_Rows_behindOperation b_Rows_behindOperation 2 (some .int), .methodLink R_Rows 96 y_Rows_collectRow, .instanceMethod y_Rows_collectRow, .selects R_Rows y_Rows_collectRow y_Rows_collectRow, .code y_Rows_collectRow b_Rows_collectRow 8 (some .int), .methodLink R_Rows 100 y_Row_isWhole, .instanceMethod y_Row_isWhole, .selects R_Row y_Row_isWhole y_Row_isWhole, .code y_Row_isWhole b_Row_isWhole 1 (some .boolean), .fieldLink R_Rows 38 "LayoutFront$Rows" "together" "I", .fieldLink R_Rows 42 "LayoutFront$Rows" "inConflict" "I", .methodLink R_Rows 45 y_Resolver_clear, .instanceMethod y_Resolver_clear, .selects R_Resolver y_Resolver_clear y_Resolver_clear, .code y_Resolver_clear b_Resolver_clear 1 none, .methodLink R_Rows 48 y_Rows_matchBrackets, .instanceMethod y_Rows_matchBrackets, .selects R_Rows y_Rows_matchBrackets y_Rows_matchBrackets, .code y_Rows_matchBrackets b_Rows_matchBrackets 4 none, .methodLink R_Rows 58 y_Rows_putLevelTogether, .instanceMethod y_Rows_putLevelTogether, .selects R_Rows y_Rows_putLevelTogether y_Rows_putLevelTogether, .code y_Rows_putLevelTogether b_Rows_putLevelTogether 7 none, .methodLink R_Rows 70 y_Resolver_tally, .instanceMethod y_Resolver_tally, .selects R_Resolver y_Resolver_tally y_Resolver_tally, .code y_Resolver_tally b_Resolver_tally 6 none, .constantLong R_Rows 74 40, .methodLink R_Rows 76 y_Tokens_addTimes]
def wz_9 : List Cond := [.instanceMethod y_Tokens_addTimes, .selects R_Tokens y_Tokens_addTimes y_Tokens_addTimes, .code y_Tokens_addTimes b_Tokens_addTimes 6 none, .methodLink R_Rows 83 y_Tokens_valueAt, .instanceMethod y_Tokens_valueAt, .selects R_Tokens y_Tokens_valueAt y_Tokens_valueAt, .code y_Tokens_valueAt b_Tokens_valueAt 2 (some .long), .methodLink R_Rows 87 y_Tokens_add, .constantLong R_Rows 91 41, .methodLink R_Blocks 31 y_Open_most, .instanceMethod y_Open_most, .selects R_Open y_Open_most y_Open_most, .code y_Open_most b_Open_most 1 (some .int), .methodLink R_LF 117 y_Cutter_lexemes, .instanceMethod y_Cutter_lexemes, .selects R_Cutter y_Cutter_lexemes y_Cutter_lexemes, .code y_Cutter_lexemes b_Cutter_lexemes 1 (some (.object "LayoutFront$Lexemes")), .methodLink R_LF 143 y_Lexemes_size, .methodLink R_LF 146 y_Blocks_begun, .instanceMethod y_Blocks_begun, .selects R_Blocks y_Blocks_begun y_Blocks_begun, .code y_Blocks_begun b_Blocks_begun 1 (some .int), .methodLink R_LF 149 y_Rows_together, .instanceMethod y_Rows_together, .selects R_Rows y_Rows_together y_Rows_together, .code y_Rows_together b_Rows_together 1 (some .int), .methodLink R_LF 152 y_Rows_inConflict, .instanceMethod y_Rows_inConflict, .selects R_Rows y_Rows_inConflict y_Rows_inConflict, .code y_Rows_inConflict b_Rows_inConflict 1 (some .int)]
def wz_10 : List Cond := [.methodLink R_LF 155 y_Blocks_mostOpen, .instanceMethod y_Blocks_mostOpen, .selects R_Blocks y_Blocks_mostOpen y_Blocks_mostOpen, .code y_Blocks_mostOpen b_Blocks_mostOpen 1 (some .int), .methodLink R_LF 106 y_Tokens_clear, .methodLink R_LF 107 y_Cutter_cut, .instanceMethod y_Cutter_cut, .selects R_Cutter y_Cutter_cut y_Cutter_cut, .code y_Cutter_cut b_Cutter_cut 3 (some .int), .methodLink R_LF 111 y_Cutter_foundTooMany, .instanceMethod y_Cutter_foundTooMany, .selects R_Cutter y_Cutter_foundTooMany y_Cutter_foundTooMany, .code y_Cutter_foundTooMany b_Cutter_foundTooMany 1 (some .boolean), .methodLink R_LF 85 y_Text_length, .methodLink R_LF 121 y_Blocks_lay, .instanceMethod y_Blocks_lay, .selects R_Blocks y_Blocks_lay y_Blocks_lay, .code y_Blocks_lay b_Blocks_lay 8 (some .int), .methodLink R_LF 127 y_Blocks_laid, .instanceMethod y_Blocks_laid, .selects R_Blocks y_Blocks_laid y_Blocks_laid, .code y_Blocks_laid b_Blocks_laid 1 (some (.object "LayoutFront$Tokens")), .methodLink R_LF 131 y_Rows_putTogether, .instanceMethod y_Rows_putTogether, .selects R_Rows y_Rows_putTogether y_Rows_putTogether, .code y_Rows_putTogether b_Rows_putTogether 4 none, .methodLink R_LF 135 y_Rows_copyInto, .instanceMethod y_Rows_copyInto, .selects R_Rows y_Rows_copyInto y_Rows_copyInto, .code y_Rows_copyInto b_Rows_copyInto 4 none]
def wz_11 : List Cond := [.methodLink R_LF 139 y_LF_keepCounts, .instanceMethod y_LF_keepCounts, .selects R_LF y_LF_keepCounts y_LF_keepCounts, .initialized R_LF, .code y_LF_keepCounts b_LF_keepCounts 1 none, .methodLink R_LF 142 y_Tokens_size, .methodLink R_Model 1 objectInit, .fieldLink R_Model 7 "LayoutFrontModel" "text" "[I", .fieldLink R_Model 13 "LayoutFrontModel" "place" "I", .fieldLink R_Model 17 "LayoutFrontModel" "kind" "[I", .fieldLink R_Model 20 "LayoutFrontModel" "value" "[J", .fieldLink R_Model 24 "LayoutFrontModel" "where" "[I", .fieldLink R_Model 27 "LayoutFrontModel" "column" "[I", .fieldLink R_Model 30 "LayoutFrontModel" "leads" "[Z", .fieldLink R_Model 34 "LayoutFrontModel" "row" "[I", .fieldLink R_Model 37 "LayoutFrontModel" "sort" "[I", .fieldLink R_Model 40 "LayoutFrontModel" "is" "[J", .fieldLink R_Model 43 "LayoutFrontModel" "before" "[I", .fieldLink R_Model 46 "LayoutFrontModel" "behind" "[I", .fieldLink R_Model 49 "LayoutFrontModel" "partner" "[I", .fieldLink R_Model 52 "LayoutFrontModel" "done" "[Z", .fieldLink R_Model 55 "LayoutFrontModel" "kinds" "[I", .fieldLink R_Model 58 "LayoutFrontModel" "values" "[J", .fieldLink R_Model 61 "LayoutFrontModel" "names" "[J", .fieldLink R_Model 64 "LayoutFrontModel" "sides" "[I", .fieldLink R_Model 67 "LayoutFrontModel" "levels" "[I", .fieldLink R_Model 70 "LayoutFrontModel" "from" "[I", .fieldLink R_Model 73 "LayoutFrontModel" "to" "[I", .fieldLink R_Model 76 "LayoutFrontModel" "what" "[I", .fieldLink R_Model 79 "LayoutFrontModel" "left" "[I"]
def wz_12 : List Cond := [.fieldLink R_Model 82 "LayoutFrontModel" "right" "[I", .fieldLink R_Model 85 "LayoutFrontModel" "waits" "[I", .fieldLink R_Model 88 "LayoutFrontModel" "opens" "[I", .fieldLink R_Model 91 "LayoutFrontModel" "closes" "[I", .fieldLink R_Model 94 "LayoutFrontModel" "waitsFor" "[I", .fieldLink R_Model 120 "LayoutFrontModel" "at" "I", .fieldLink R_Model 144 "LayoutFrontModel" "lexemes" "I", .fieldLink R_Model 110 "LayoutFrontModel" "length" "I", .fieldLink R_Model 188 "LayoutFrontModel" "tokens" "I", .fieldLink R_Model 191 "LayoutFrontModel" "open" "I", .constantLong R_Model 238 123, .methodLink R_Model 208 y_Model_emit, .instanceMethod y_Model_emit, .selects R_Model y_Model_emit y_Model_emit, .initialized R_Model, .code y_Model_emit b_Model_emit 4 none, .fieldLink R_Model 240 "LayoutFrontModel" "blocks" "I", .constantLong R_Model 206 125, .methodLink R_Model 197 y_Model_top, .instanceMethod y_Model_top, .selects R_Model y_Model_top y_Model_top, .code y_Model_top b_Model_top 1 (some .int), .fieldLink R_Model 194 "LayoutFrontModel" "highest" "I", .fieldLink R_Model 123 "LayoutFrontModel" "bad" "I", .methodLink R_Model 246 y_Model_begins, .instanceMethod y_Model_begins, .selects R_Model y_Model_begins y_Model_begins, .code y_Model_begins b_Model_begins 3 (some .boolean), .methodLink R_Model 249 y_Model_begin, .instanceMethod y_Model_begin]
def wz_13 : List Cond := [.selects R_Model y_Model_begin y_Model_begin, .code y_Model_begin b_Model_begin 4 none, .methodLink R_Model 214 y_Model_leave, .instanceMethod y_Model_leave, .selects R_Model y_Model_leave y_Model_leave, .code y_Model_leave b_Model_leave 2 none, .methodLink R_Model 284 y_Model_plainName, .instanceMethod y_Model_plainName, .selects R_Model y_Model_plainName y_Model_plainName, .code y_Model_plainName b_Model_plainName 2 (some .boolean), .methodLink R_Model 290 y_Model_tick, .instanceMethod y_Model_tick, .selects R_Model y_Model_tick y_Model_tick, .code y_Model_tick b_Model_tick 2 (some .boolean), .fieldLink R_Model 337 "LayoutFrontModel" "rows" "I", .fieldLink R_Model 334 "LayoutFrontModel" "conflicts" "I", .methodLink R_Model 340 y_Model_partners, .instanceMethod y_Model_partners, .selects R_Model y_Model_partners y_Model_partners, .code y_Model_partners b_Model_partners 5 none, .methodLink R_Model 298 y_Model_extent, .instanceMethod y_Model_extent, .selects R_Model y_Model_extent y_Model_extent, .code y_Model_extent b_Model_extent 2 (some .int), .fieldLink R_Model 353 "LayoutFrontModel" "all" "I", .fieldLink R_Model 97 "LayoutFrontModel" "thrown" "I", .methodLink R_Model 356 y_Model_cut, .instanceMethod y_Model_cut, .selects R_Model y_Model_cut y_Model_cut, .code y_Model_cut b_Model_cut 2 none]
def wz_14 : List Cond := [.methodLink R_Model 359 y_Model_lay, .instanceMethod y_Model_lay, .selects R_Model y_Model_lay y_Model_lay, .code y_Model_lay b_Model_lay 2 none, .methodLink R_Model 362 y_Model_around, .instanceMethod y_Model_around, .selects R_Model y_Model_around y_Model_around, .code y_Model_around b_Model_around 2 none, .methodLink R_Model 365 y_Model_add, .instanceMethod y_Model_add, .selects R_Model y_Model_add y_Model_add, .code y_Model_add b_Model_add 4 none, .fieldLink R_Model 368 "LayoutFrontModel" "told" "I", .fieldLink R_Model 371 "LayoutFrontModel" "toldBlocks" "I", .fieldLink R_Model 374 "LayoutFrontModel" "toldRows" "I", .fieldLink R_Model 377 "LayoutFrontModel" "toldConflicts" "I", .fieldLink R_Model 380 "LayoutFrontModel" "toldHighest" "I", .methodLink R_LF 89 y_Text_clear, .instanceMethod y_Text_clear, .selects R_Text y_Text_clear y_Text_clear, .code y_Text_clear b_Text_clear 1 none, .methodLink R_Law 21 y_LF_read, .instanceMethod y_LF_read, .selects R_LF y_LF_read y_LF_read, .code y_LF_read b_LF_read 1 (some .int), .methodLink R_Law 35 y_LF_count, .instanceMethod y_LF_count, .selects R_LF y_LF_count y_LF_count, .code y_LF_count b_LF_count 2 (some .int), .methodLink R_Model 100 y_Model_within]
def wz_15 : List Cond := [.static y_Model_within, .code y_Model_within b_Model_within 3 (some .boolean), .methodLink R_Model 104 y_Model_fail, .instanceMethod y_Model_fail, .selects R_Model y_Model_fail y_Model_fail, .code y_Model_fail b_Model_fail 2 (some .int), .fieldLink R_Fixities 22 "LayoutFront$Fixities" "size" "I", .methodLink R_Fixities 26 y_Fixities_find, .instanceMethod y_Fixities_find, .selects R_Fixities y_Fixities_find y_Fixities_find, .code y_Fixities_find b_Fixities_find 4 (some .int), .methodLink R_Fixities 30 Lib.Math.max.name, .static Lib.Math.max.name, .initialized "java/lang/Math", .code Lib.Math.max.name Lib.Math.max.code 2 (some .int), .methodLink R_LF 94 y_Fixities_hasRoomFor, .instanceMethod y_Fixities_hasRoomFor, .selects R_Fixities y_Fixities_hasRoomFor y_Fixities_hasRoomFor, .code y_Fixities_hasRoomFor b_Fixities_hasRoomFor 3 (some .boolean), .methodLink R_LF 99 y_Fixities_set, .instanceMethod y_Fixities_set, .selects R_Fixities y_Fixities_set y_Fixities_set, .code y_Fixities_set b_Fixities_set 6 none, .methodLink R_LF 103 y_Fixities_size, .instanceMethod y_Fixities_size, .selects R_Fixities y_Fixities_size y_Fixities_size, .code y_Fixities_size b_Fixities_size 1 (some .int), .methodLink R_Law 17 y_LF_fixity, .instanceMethod y_LF_fixity, .selects R_LF y_LF_fixity y_LF_fixity]
def wz_16 : List Cond := [.code y_LF_fixity b_LF_fixity 5 (some .int), .fieldLink R_Model 113 "LayoutFrontModel" "set" "I", .methodLink R_Model 116 y_Model_find, .instanceMethod y_Model_find, .selects R_Model y_Model_find y_Model_find, .code y_Model_find b_Model_find 5 (some .int), .methodLink R_LF 158 y_Tokens_has, .classLink R_LF 161 xIOB, .instantiable xIOB 6, .initialized xIOB, .classLink R_LF 65 xIAE, .instantiable xIAE 6, .initialized xIAE, .methodLink R_Law 25 y_LF_kind, .instanceMethod y_LF_kind, .selects R_LF y_LF_kind y_LF_kind, .code y_LF_kind b_LF_kind 2 (some .int), .classLink R_Law 29 xIOB, .methodLink R_Law 31 y_LF_token, .instanceMethod y_LF_token, .selects R_LF y_LF_token y_LF_token, .code y_LF_token b_LF_token 2 (some .long), .classLink R_Law 13 xIAE, .methodLink R_LF 61 y_Text_areCharacters, .static y_Text_areCharacters, .code y_Text_areCharacters b_Text_areCharacters 5 (some .boolean), .methodLink R_LF 72 y_Text_hasRoomFor, .instanceMethod y_Text_hasRoomFor, .selects R_Text y_Text_hasRoomFor y_Text_hasRoomFor, .code y_Text_hasRoomFor b_Text_hasRoomFor 2 (some .boolean)]
def wz_17 : List Cond := [.methodLink R_LF 81 y_Text_append, .instanceMethod y_Text_append, .selects R_Text y_Text_append y_Text_append, .code y_Text_append b_Text_append 5 none, .methodLink R_Text 15 y_Text_byteOf, .static y_Text_byteOf, .code y_Text_byteOf b_Text_byteOf 3 (some .int), .constantLong R_Model 108 255, .methodLink R_Law 7 y_LF_write, .instanceMethod y_LF_write, .selects R_LF y_LF_write y_LF_write, .code y_LF_write b_LF_write 4 (some .int), .classLink R_Law 8 R_LF, .instantiable R_LF 8, .methodLink R_Law 38 y_LF_init, .instanceMethod y_LF_init, .code y_LF_init b_LF_init 1 none, .classLink R_Law 39 R_Model, .instantiable R_Model 50, .methodLink R_Law 41 y_Model_init, .instanceMethod y_Model_init, .code y_Model_init b_Model_init 1 none, .constantLong R_Law 42 4294967295, .methodLink R_Law 44 y_Law_write, .static y_Law_write, .initialized R_Law, .codeWith y_Law_write b_Law_write 6 (some .int) [(0, 11, 14, 13), (0, 11, 18, 15)], .methodLink R_Law 49 y_Model_write, .instanceMethod y_Model_write, .selects R_Model y_Model_write y_Model_write]
def wz_18 : List Cond := [.code y_Model_write b_Model_write 7 (some .int), .methodLink R_Law 50 y_Model_thrown, .instanceMethod y_Model_thrown, .selects R_Model y_Model_thrown y_Model_thrown, .code y_Model_thrown b_Model_thrown 1 (some .int), .methodLink R_Law 53 y_LF_erase, .instanceMethod y_LF_erase, .selects R_LF y_LF_erase y_LF_erase, .code y_LF_erase b_LF_erase 2 (some .int), .methodLink R_Law 56 y_Model_erase, .instanceMethod y_Model_erase, .selects R_Model y_Model_erase y_Model_erase, .code y_Model_erase b_Model_erase 2 (some .int), .methodLink R_Law 57 y_Law_fixity, .static y_Law_fixity, .codeWith y_Law_fixity b_Law_fixity 7 (some .int) [(0, 13, 16, 13), (0, 13, 20, 15)], .methodLink R_Law 60 y_Model_fixity, .instanceMethod y_Model_fixity, .selects R_Model y_Model_fixity y_Model_fixity, .code y_Model_fixity b_Model_fixity 6 (some .int), .methodLink R_Law 61 y_Law_read, .static y_Law_read, .codeWith y_Law_read b_Law_read 3 (some .int) [(0, 8, 11, 13), (0, 8, 14, 15)], .methodLink R_Law 64 y_Model_read, .instanceMethod y_Model_read, .selects R_Model y_Model_read y_Model_read, .code y_Model_read b_Model_read 3 (some .int), .methodLink R_Law 65 y_LF_place, .instanceMethod y_LF_place, .selects R_LF y_LF_place y_LF_place]
def wz_19 : List Cond := [.code y_LF_place b_LF_place 1 (some .int), .methodLink R_Law 68 y_Model_place, .instanceMethod y_Model_place, .selects R_Model y_Model_place y_Model_place, .code y_Model_place b_Model_place 1 (some .int), .methodLink R_Law 69 y_Law_kind, .static y_Law_kind, .codeWith y_Law_kind b_Law_kind 4 (some .int) [(0, 9, 12, 29)], .methodLink R_Law 72 y_Model_kind, .instanceMethod y_Model_kind, .selects R_Model y_Model_kind y_Model_kind, .code y_Model_kind b_Model_kind 2 (some .int), .methodLink R_Law 73 y_Law_token, .static y_Law_token, .codeWith y_Law_token b_Law_token 4 (some .int) [(0, 8, 11, 29)], .methodLink R_Law 75 y_Model_token, .instanceMethod y_Model_token, .selects R_Model y_Model_token y_Model_token, .code y_Model_token b_Model_token 2 (some .long), .methodLink R_Law 76 y_Law_count, .static y_Law_count, .codeWith y_Law_count b_Law_count 4 (some .int) [(0, 9, 12, 29)], .methodLink R_Law 78 y_Model_count, .instanceMethod y_Model_count, .selects R_Model y_Model_count y_Model_count, .code y_Model_count b_Model_count 2 (some .int), .laysFinal R_LF "LayoutFront" "text" "LLayoutFront$Text;", .laysFinal R_LF "LayoutFront" "fixities" "LLayoutFront$Fixities;", .laysFinal R_LF "LayoutFront" "cutter" "LLayoutFront$Cutter;", .laysFinal R_LF "LayoutFront" "blocks" "LLayoutFront$Blocks;"]
def wz_20 : List Cond := [.laysFinal R_LF "LayoutFront" "rows" "LLayoutFront$Rows;", .laysFinal R_LF "LayoutFront" "tokens" "LLayoutFront$Tokens;", .laysFinal R_LF "LayoutFront" "counts" "[I", .lays R_LF "LayoutFront" "wrongPlace" "I", .lays R_Model "LayoutFrontModel" "thrown" "I", .lays R_Model "LayoutFrontModel" "length" "I", .laysFinal R_Model "LayoutFrontModel" "text" "[I", .lays R_Model "LayoutFrontModel" "bad" "I", .lays R_Model "LayoutFrontModel" "place" "I", .lays R_Model "LayoutFrontModel" "at" "I", .lays R_Model "LayoutFrontModel" "lexemes" "I", .laysFinal R_Model "LayoutFrontModel" "kind" "[I", .laysFinal R_Model "LayoutFrontModel" "value" "[J", .laysFinal R_Model "LayoutFrontModel" "where" "[I", .laysFinal R_Model "LayoutFrontModel" "column" "[I", .laysFinal R_Model "LayoutFrontModel" "leads" "[Z", .lays R_Model "LayoutFrontModel" "open" "I", .lays R_Model "LayoutFrontModel" "highest" "I", .laysFinal R_Model "LayoutFrontModel" "row" "[I", .lays R_Model "LayoutFrontModel" "tokens" "I", .lays R_Model "LayoutFrontModel" "blocks" "I", .laysFinal R_Model "LayoutFrontModel" "sort" "[I", .laysFinal R_Model "LayoutFrontModel" "is" "[J", .laysFinal R_Model "LayoutFrontModel" "before" "[I", .laysFinal R_Model "LayoutFrontModel" "behind" "[I", .laysFinal R_Model "LayoutFrontModel" "partner" "[I", .laysFinal R_Model "LayoutFrontModel" "done" "[Z", .lays R_Model "LayoutFrontModel" "all" "I", .laysFinal R_Model "LayoutFrontModel" "kinds" "[I", .laysFinal R_Model "LayoutFrontModel" "values" "[J"]
def wz_21 : List Cond := [.lays R_Model "LayoutFrontModel" "told" "I", .lays R_Model "LayoutFrontModel" "toldBlocks" "I", .lays R_Model "LayoutFrontModel" "toldRows" "I", .lays R_Model "LayoutFrontModel" "toldConflicts" "I", .lays R_Model "LayoutFrontModel" "toldHighest" "I", .lays R_Model "LayoutFrontModel" "set" "I", .laysFinal R_Model "LayoutFrontModel" "names" "[J", .laysFinal R_Model "LayoutFrontModel" "sides" "[I", .laysFinal R_Model "LayoutFrontModel" "levels" "[I", .lays R_Model "LayoutFrontModel" "items" "I", .lays R_Model "LayoutFrontModel" "operands" "I", .lays R_Model "LayoutFrontModel" "waiting" "I", .lays R_Model "LayoutFrontModel" "pairs" "I", .lays R_Model "LayoutFrontModel" "rows" "I", .lays R_Model "LayoutFrontModel" "conflicts" "I", .laysFinal R_Model "LayoutFrontModel" "from" "[I", .laysFinal R_Model "LayoutFrontModel" "to" "[I", .laysFinal R_Model "LayoutFrontModel" "what" "[I", .laysFinal R_Model "LayoutFrontModel" "left" "[I", .laysFinal R_Model "LayoutFrontModel" "right" "[I", .laysFinal R_Model "LayoutFrontModel" "waits" "[I", .laysFinal R_Model "LayoutFrontModel" "opens" "[I", .laysFinal R_Model "LayoutFrontModel" "closes" "[I", .laysFinal R_Model "LayoutFrontModel" "waitsFor" "[I", .laysFinal R_Blocks "LayoutFront$Blocks" "open" "LLayoutFront$Open;", .laysFinal R_Blocks "LayoutFront$Blocks" "laid" "LLayoutFront$Tokens;", .lays R_Blocks "LayoutFront$Blocks" "begun" "I", .laysFinal R_Cutter "LayoutFront$Cutter" "lexemes" "LLayoutFront$Lexemes;", .lays R_Cutter "LayoutFront$Cutter" "at" "I", .lays R_Cutter "LayoutFront$Cutter" "lineStart" "I"]
def wz_22 : List Cond := [.lays R_Cutter "LayoutFront$Cutter" "lineIsFresh" "Z", .lays R_Cutter "LayoutFront$Cutter" "wrongPlace" "I", .lays R_Cutter "LayoutFront$Cutter" "tooMany" "Z", .laysFinal R_Fixities "LayoutFront$Fixities" "names" "[J", .laysFinal R_Fixities "LayoutFront$Fixities" "sides" "[I", .laysFinal R_Fixities "LayoutFront$Fixities" "levels" "[I", .lays R_Fixities "LayoutFront$Fixities" "size" "I", .laysFinal R_Lexemes "LayoutFront$Lexemes" "tokens" "LLayoutFront$Tokens;", .laysFinal R_Lexemes "LayoutFront$Lexemes" "places" "[I", .laysFinal R_Lexemes "LayoutFront$Lexemes" "columns" "[I", .laysFinal R_Lexemes "LayoutFront$Lexemes" "lineFirsts" "[Z", .laysFinal R_Open "LayoutFront$Open" "things" "[I", .lays R_Open "LayoutFront$Open" "size" "I", .lays R_Open "LayoutFront$Open" "most" "I", .laysFinal R_Resolver "LayoutFront$Resolver" "pairFirsts" "[I", .laysFinal R_Resolver "LayoutFront$Resolver" "pairLasts" "[I", .lays R_Resolver "LayoutFront$Resolver" "pairs" "I", .lays R_Resolver "LayoutFront$Resolver" "pairsBefore" "I", .laysFinal R_Resolver "LayoutFront$Resolver" "firsts" "[I", .laysFinal R_Resolver "LayoutFront$Resolver" "lasts" "[I", .lays R_Resolver "LayoutFront$Resolver" "operands" "I", .laysFinal R_Resolver "LayoutFront$Resolver" "levels" "[I", .laysFinal R_Resolver "LayoutFront$Resolver" "sides" "[I", .laysFinal R_Resolver "LayoutFront$Resolver" "minusPlaces" "[I", .lays R_Resolver "LayoutFront$Resolver" "waiting" "I", .laysFinal R_Row "LayoutFront$Row" "parts" "[I", .laysFinal R_Row "LayoutFront$Row" "firsts" "[I", .laysFinal R_Row "LayoutFront$Row" "lasts" "[I", .lays R_Row "LayoutFront$Row" "size" "I", .lays R_Row "LayoutFront$Row" "operates" "Z"]
def wz_23 : List Cond := [.lays R_Row "LayoutFront$Row" "lacksOperand" "Z", .laysFinal R_Rows "LayoutFront$Rows" "closers" "[I", .laysFinal R_Rows "LayoutFront$Rows" "openers" "[I", .laysFinal R_Rows "LayoutFront$Rows" "opened" "[I", .laysFinal R_Rows "LayoutFront$Rows" "closed" "[I", .laysFinal R_Rows "LayoutFront$Rows" "row" "LLayoutFront$Row;", .laysFinal R_Rows "LayoutFront$Rows" "resolver" "LLayoutFront$Resolver;", .lays R_Rows "LayoutFront$Rows" "together" "I", .lays R_Rows "LayoutFront$Rows" "inConflict" "I", .laysFinal R_Text "LayoutFront$Text" "characters" "[C", .lays R_Text "LayoutFront$Text" "length" "I", .laysFinal R_Tokens "LayoutFront$Tokens" "kinds" "[I", .laysFinal R_Tokens "LayoutFront$Tokens" "values" "[J", .lays R_Tokens "LayoutFront$Tokens" "size" "I"]
def xup : List String := ["java/lang/RuntimeException", "java/lang/Exception"]
def xat : List Cond := Bundle.ownAtoms R_LF 69 xIAE xup ++ Bundle.ownAtoms R_LF 165 xIOB xup
def wz_24 : List Cond := xat.filter goodWord
def wz : List Cond := wz_0 ++ (wz_1 ++ (wz_2 ++ (wz_3 ++ (wz_4 ++ (wz_5 ++ (wz_6 ++ (wz_7 ++ (wz_8 ++ (wz_9 ++ (wz_10 ++ (wz_11 ++ (wz_12 ++ (wz_13 ++ (wz_14 ++ (wz_15 ++ (wz_16 ++ (wz_17 ++ (wz_18 ++ (wz_19 ++ (wz_20 ++ (wz_21 ++ (wz_22 ++ (wz_23 ++ (wz_24))))))))))))))))))))))))
theorem zc_0 {w : Cond} (h : w ∈ wz_0) : w ∈ wz := (List.mem_append_left _ h)
theorem zc_1 {w : Cond} (h : w ∈ wz_1) : w ∈ wz := (List.mem_append_right _ (List.mem_append_left _ h))
theorem zc_2 {w : Cond} (h : w ∈ wz_2) : w ∈ wz := (List.mem_append_right _ (List.mem_append_right _ (List.mem_append_left _ h)))
theorem zc_3 {w : Cond} (h : w ∈ wz_3) : w ∈ wz := (List.mem_append_right _ (List.mem_append_right _ (List.mem_append_right _ (List.mem_append_left _ h))))
theorem zc_4 {w : Cond} (h : w ∈ wz_4) : w ∈ wz := (List.mem_append_right _ (List.mem_append_right _ (List.mem_append_right _ (List.mem_append_right _ (List.mem_append_left _ h)))))
theorem zc_5 {w : Cond} (h : w ∈ wz_5) : w ∈ wz := (List.mem_append_right _ (List.mem_append_right _ (List.mem_append_right _ (List.mem_append_right _ (List.mem_append_right _ (List.mem_append_left _ h))))))
theorem zc_6 {w : Cond} (h : w ∈ wz_6) : w ∈ wz := (List.mem_append_right _ (List.mem_append_right _ (List.mem_append_right _ (List.mem_append_right _ (List.mem_append_right _ (List.mem_append_right _ (List.mem_append_left _ h)))))))
theorem zc_7 {w : Cond} (h : w ∈ wz_7) : w ∈ wz := (List.mem_append_right _ (List.mem_append_right _ (List.mem_append_right _ (List.mem_append_right _ (List.mem_append_right _ (List.mem_append_right _ (List.mem_append_right _ (List.mem_append_left _ h))))))))
theorem zc_8 {w : Cond} (h : w ∈ wz_8) : w ∈ wz := (List.mem_append_right _ (List.mem_append_right _ (List.mem_append_right _ (List.mem_append_right _ (List.mem_append_right _ (List.mem_append_right _ (List.mem_append_right _ (List.mem_append_right _ (List.mem_append_left _ h)))))))))
theorem zc_9 {w : Cond} (h : w ∈ wz_9) : w ∈ wz := (List.mem_append_right _ (List.mem_append_right _ (List.mem_append_right _ (List.mem_append_right _ (List.mem_append_right _ (List.mem_append_right _ (List.mem_append_right _ (List.mem_append_right _ (List.mem_append_right _ (List.mem_append_left _ h))))))))))
theorem zc_10 {w : Cond} (h : w ∈ wz_10) : w ∈ wz := (List.mem_append_right _ (List.mem_append_right _ (List.mem_append_right _ (List.mem_append_right _ (List.mem_append_right _ (List.mem_append_right _ (List.mem_append_right _ (List.mem_append_right _ (List.mem_append_right _ (List.mem_append_right _ (List.mem_append_left _ h)))))))))))
theorem zc_11 {w : Cond} (h : w ∈ wz_11) : w ∈ wz := (List.mem_append_right _ (List.mem_append_right _ (List.mem_append_right _ (List.mem_append_right _ (List.mem_append_right _ (List.mem_append_right _ (List.mem_append_right _ (List.mem_append_right _ (List.mem_append_right _ (List.mem_append_right _ (List.mem_append_right _ (List.mem_append_left _ h))))))))))))
theorem zc_12 {w : Cond} (h : w ∈ wz_12) : w ∈ wz := (List.mem_append_right _ (List.mem_append_right _ (List.mem_append_right _ (List.mem_append_right _ (List.mem_append_right _ (List.mem_append_right _ (List.mem_append_right _ (List.mem_append_right _ (List.mem_append_right _ (List.mem_append_right _ (List.mem_append_right _ (List.mem_append_right _ (List.mem_append_left _ h)))))))))))))
theorem zc_13 {w : Cond} (h : w ∈ wz_13) : w ∈ wz := (List.mem_append_right _ (List.mem_append_right _ (List.mem_append_right _ (List.mem_append_right _ (List.mem_append_right _ (List.mem_append_right _ (List.mem_append_right _ (List.mem_append_right _ (List.mem_append_right _ (List.mem_append_right _ (List.mem_append_right _ (List.mem_append_right _ (List.mem_append_right _ (List.mem_append_left _ h))))))))))))))
theorem zc_14 {w : Cond} (h : w ∈ wz_14) : w ∈ wz := (List.mem_append_right _ (List.mem_append_right _ (List.mem_append_right _ (List.mem_append_right _ (List.mem_append_right _ (List.mem_append_right _ (List.mem_append_right _ (List.mem_append_right _ (List.mem_append_right _ (List.mem_append_right _ (List.mem_append_right _ (List.mem_append_right _ (List.mem_append_right _ (List.mem_append_right _ (List.mem_append_left _ h)))))))))))))))
theorem zc_15 {w : Cond} (h : w ∈ wz_15) : w ∈ wz := (List.mem_append_right _ (List.mem_append_right _ (List.mem_append_right _ (List.mem_append_right _ (List.mem_append_right _ (List.mem_append_right _ (List.mem_append_right _ (List.mem_append_right _ (List.mem_append_right _ (List.mem_append_right _ (List.mem_append_right _ (List.mem_append_right _ (List.mem_append_right _ (List.mem_append_right _ (List.mem_append_right _ (List.mem_append_left _ h))))))))))))))))
theorem zc_16 {w : Cond} (h : w ∈ wz_16) : w ∈ wz := (List.mem_append_right _ (List.mem_append_right _ (List.mem_append_right _ (List.mem_append_right _ (List.mem_append_right _ (List.mem_append_right _ (List.mem_append_right _ (List.mem_append_right _ (List.mem_append_right _ (List.mem_append_right _ (List.mem_append_right _ (List.mem_append_right _ (List.mem_append_right _ (List.mem_append_right _ (List.mem_append_right _ (List.mem_append_right _ (List.mem_append_left _ h)))))))))))))))))
theorem zc_17 {w : Cond} (h : w ∈ wz_17) : w ∈ wz := (List.mem_append_right _ (List.mem_append_right _ (List.mem_append_right _ (List.mem_append_right _ (List.mem_append_right _ (List.mem_append_right _ (List.mem_append_right _ (List.mem_append_right _ (List.mem_append_right _ (List.mem_append_right _ (List.mem_append_right _ (List.mem_append_right _ (List.mem_append_right _ (List.mem_append_right _ (List.mem_append_right _ (List.mem_append_right _ (List.mem_append_right _ (List.mem_append_left _ h))))))))))))))))))
theorem zc_18 {w : Cond} (h : w ∈ wz_18) : w ∈ wz := (List.mem_append_right _ (List.mem_append_right _ (List.mem_append_right _ (List.mem_append_right _ (List.mem_append_right _ (List.mem_append_right _ (List.mem_append_right _ (List.mem_append_right _ (List.mem_append_right _ (List.mem_append_right _ (List.mem_append_right _ (List.mem_append_right _ (List.mem_append_right _ (List.mem_append_right _ (List.mem_append_right _ (List.mem_append_right _ (List.mem_append_right _ (List.mem_append_right _ (List.mem_append_left _ h)))))))))))))))))))
theorem zc_19 {w : Cond} (h : w ∈ wz_19) : w ∈ wz := (List.mem_append_right _ (List.mem_append_right _ (List.mem_append_right _ (List.mem_append_right _ (List.mem_append_right _ (List.mem_append_right _ (List.mem_append_right _ (List.mem_append_right _ (List.mem_append_right _ (List.mem_append_right _ (List.mem_append_right _ (List.mem_append_right _ (List.mem_append_right _ (List.mem_append_right _ (List.mem_append_right _ (List.mem_append_right _ (List.mem_append_right _ (List.mem_append_right _ (List.mem_append_right _ (List.mem_append_left _ h))))))))))))))))))))
theorem zc_20 {w : Cond} (h : w ∈ wz_20) : w ∈ wz := (List.mem_append_right _ (List.mem_append_right _ (List.mem_append_right _ (List.mem_append_right _ (List.mem_append_right _ (List.mem_append_right _ (List.mem_append_right _ (List.mem_append_right _ (List.mem_append_right _ (List.mem_append_right _ (List.mem_append_right _ (List.mem_append_right _ (List.mem_append_right _ (List.mem_append_right _ (List.mem_append_right _ (List.mem_append_right _ (List.mem_append_right _ (List.mem_append_right _ (List.mem_append_right _ (List.mem_append_right _ (List.mem_append_left _ h)))))))))))))))))))))
theorem zc_21 {w : Cond} (h : w ∈ wz_21) : w ∈ wz := (List.mem_append_right _ (List.mem_append_right _ (List.mem_append_right _ (List.mem_append_right _ (List.mem_append_right _ (List.mem_append_right _ (List.mem_append_right _ (List.mem_append_right _ (List.mem_append_right _ (List.mem_append_right _ (List.mem_append_right _ (List.mem_append_right _ (List.mem_append_right _ (List.mem_append_right _ (List.mem_append_right _ (List.mem_append_right _ (List.mem_append_right _ (List.mem_append_right _ (List.mem_append_right _ (List.mem_append_right _ (List.mem_append_right _ (List.mem_append_left _ h))))))))))))))))))))))
theorem zc_22 {w : Cond} (h : w ∈ wz_22) : w ∈ wz := (List.mem_append_right _ (List.mem_append_right _ (List.mem_append_right _ (List.mem_append_right _ (List.mem_append_right _ (List.mem_append_right _ (List.mem_append_right _ (List.mem_append_right _ (List.mem_append_right _ (List.mem_append_right _ (List.mem_append_right _ (List.mem_append_right _ (List.mem_append_right _ (List.mem_append_right _ (List.mem_append_right _ (List.mem_append_right _ (List.mem_append_right _ (List.mem_append_right _ (List.mem_append_right _ (List.mem_append_right _ (List.mem_append_right _ (List.mem_append_right _ (List.mem_append_left _ h)))))))))))))))))))))))
theorem zc_23 {w : Cond} (h : w ∈ wz_23) : w ∈ wz := (List.mem_append_right _ (List.mem_append_right _ (List.mem_append_right _ (List.mem_append_right _ (List.mem_append_right _ (List.mem_append_right _ (List.mem_append_right _ (List.mem_append_right _ (List.mem_append_right _ (List.mem_append_right _ (List.mem_append_right _ (List.mem_append_right _ (List.mem_append_right _ (List.mem_append_right _ (List.mem_append_right _ (List.mem_append_right _ (List.mem_append_right _ (List.mem_append_right _ (List.mem_append_right _ (List.mem_append_right _ (List.mem_append_right _ (List.mem_append_right _ (List.mem_append_right _ (List.mem_append_left _ h))))))))))))))))))))))))
theorem zc_24 {w : Cond} (h : w ∈ wz_24) : w ∈ wz := (List.mem_append_right _ (List.mem_append_right _ (List.mem_append_right _ (List.mem_append_right _ (List.mem_append_right _ (List.mem_append_right _ (List.mem_append_right _ (List.mem_append_right _ (List.mem_append_right _ (List.mem_append_right _ (List.mem_append_right _ (List.mem_append_right _ (List.mem_append_right _ (List.mem_append_right _ (List.mem_append_right _ (List.mem_append_right _ (List.mem_append_right _ (List.mem_append_right _ (List.mem_append_right _ (List.mem_append_right _ (List.mem_append_right _ (List.mem_append_right _ (List.mem_append_right _ (List.mem_append_right _ h))))))))))))))))))))))))
theorem zm_0 : Cond.methodLink R_Text 3 objectInit ∈ wz := zc_0 (List.mem_of_getElem? (i := 0) rfl)
theorem zm_1 : Cond.instanceMethod objectInit ∈ wz := zc_0 (List.mem_of_getElem? (i := 1) rfl)
theorem zm_2 : Cond.code objectInit ⟨#[0xb1]⟩ 1 none ∈ wz := zc_0 (List.mem_of_getElem? (i := 2) rfl)
theorem zm_3 : Cond.arrayClass .char ∈ wz := zc_0 (List.mem_of_getElem? (i := 3) rfl)
theorem zm_4 : Cond.fieldLink R_Text 9 "LayoutFront$Text" "characters" "[C" ∈ wz := zc_0 (List.mem_of_getElem? (i := 4) rfl)
theorem zm_5 : Cond.methodLink R_Fixities 3 objectInit ∈ wz := zc_0 (List.mem_of_getElem? (i := 5) rfl)
theorem zm_6 : Cond.arrayClass .long ∈ wz := zc_0 (List.mem_of_getElem? (i := 6) rfl)
theorem zm_7 : Cond.fieldLink R_Fixities 9 "LayoutFront$Fixities" "names" "[J" ∈ wz := zc_0 (List.mem_of_getElem? (i := 7) rfl)
theorem zm_8 : Cond.arrayClass .int ∈ wz := zc_0 (List.mem_of_getElem? (i := 8) rfl)
theorem zm_9 : Cond.fieldLink R_Fixities 15 "LayoutFront$Fixities" "sides" "[I" ∈ wz := zc_0 (List.mem_of_getElem? (i := 9) rfl)
theorem zm_10 : Cond.fieldLink R_Fixities 19 "LayoutFront$Fixities" "levels" "[I" ∈ wz := zc_0 (List.mem_of_getElem? (i := 10) rfl)
theorem zm_11 : Cond.methodLink R_Tokens 3 objectInit ∈ wz := zc_0 (List.mem_of_getElem? (i := 11) rfl)
theorem zm_12 : Cond.fieldLink R_Tokens 9 "LayoutFront$Tokens" "kinds" "[I" ∈ wz := zc_0 (List.mem_of_getElem? (i := 12) rfl)
theorem zm_13 : Cond.fieldLink R_Tokens 15 "LayoutFront$Tokens" "values" "[J" ∈ wz := zc_0 (List.mem_of_getElem? (i := 13) rfl)
theorem zm_14 : Cond.methodLink R_Lexemes 3 objectInit ∈ wz := zc_0 (List.mem_of_getElem? (i := 14) rfl)
theorem zm_15 : Cond.classLink R_Lexemes 9 R_Tokens ∈ wz := zc_0 (List.mem_of_getElem? (i := 15) rfl)
theorem zm_16 : Cond.instantiable R_Tokens 3 ∈ wz := zc_0 (List.mem_of_getElem? (i := 16) rfl)
theorem zm_17 : Cond.initialized R_Tokens ∈ wz := zc_0 (List.mem_of_getElem? (i := 17) rfl)
theorem zm_18 : Cond.code y_Tokens_init b_Tokens_init 2 none ∈ wz := zc_0 (List.mem_of_getElem? (i := 18) rfl)
theorem zm_19 : Cond.methodLink R_Lexemes 11 y_Tokens_init ∈ wz := zc_0 (List.mem_of_getElem? (i := 19) rfl)
theorem zm_20 : Cond.instanceMethod y_Tokens_init ∈ wz := zc_0 (List.mem_of_getElem? (i := 20) rfl)
theorem zm_21 : Cond.fieldLink R_Lexemes 14 "LayoutFront$Lexemes" "tokens" "LLayoutFront$Tokens;" ∈ wz := zc_0 (List.mem_of_getElem? (i := 21) rfl)
theorem zm_22 : Cond.fieldLink R_Lexemes 20 "LayoutFront$Lexemes" "places" "[I" ∈ wz := zc_0 (List.mem_of_getElem? (i := 22) rfl)
theorem zm_23 : Cond.fieldLink R_Lexemes 24 "LayoutFront$Lexemes" "columns" "[I" ∈ wz := zc_0 (List.mem_of_getElem? (i := 23) rfl)
theorem zm_24 : Cond.arrayClass .boolean ∈ wz := zc_0 (List.mem_of_getElem? (i := 24) rfl)
theorem zm_25 : Cond.fieldLink R_Lexemes 27 "LayoutFront$Lexemes" "lineFirsts" "[Z" ∈ wz := zc_0 (List.mem_of_getElem? (i := 25) rfl)
theorem zm_26 : Cond.methodLink R_Cutter 3 objectInit ∈ wz := zc_0 (List.mem_of_getElem? (i := 26) rfl)
theorem zm_27 : Cond.classLink R_Cutter 9 R_Lexemes ∈ wz := zc_0 (List.mem_of_getElem? (i := 27) rfl)
theorem zm_28 : Cond.instantiable R_Lexemes 4 ∈ wz := zc_0 (List.mem_of_getElem? (i := 28) rfl)
theorem zm_29 : Cond.initialized R_Lexemes ∈ wz := zc_0 (List.mem_of_getElem? (i := 29) rfl)
theorem zm_30 : Cond.code y_Lexemes_init b_Lexemes_init 1 none ∈ wz := zc_1 (List.mem_of_getElem? (i := 0) rfl)
theorem zm_31 : Cond.instanceMethod y_Lexemes_init ∈ wz := zc_1 (List.mem_of_getElem? (i := 1) rfl)
theorem zm_32 : Cond.fieldLink R_Cutter 12 "LayoutFront$Cutter" "lexemes" "LLayoutFront$Lexemes;" ∈ wz := zc_1 (List.mem_of_getElem? (i := 2) rfl)
theorem zm_33 : Cond.fieldLink R_Cutter 18 "LayoutFront$Cutter" "wrongPlace" "I" ∈ wz := zc_1 (List.mem_of_getElem? (i := 3) rfl)
theorem zm_34 : Cond.methodLink R_Open 3 objectInit ∈ wz := zc_1 (List.mem_of_getElem? (i := 4) rfl)
theorem zm_35 : Cond.fieldLink R_Open 9 "LayoutFront$Open" "things" "[I" ∈ wz := zc_1 (List.mem_of_getElem? (i := 5) rfl)
theorem zm_36 : Cond.methodLink R_Blocks 3 objectInit ∈ wz := zc_1 (List.mem_of_getElem? (i := 6) rfl)
theorem zm_37 : Cond.classLink R_Blocks 9 R_Open ∈ wz := zc_1 (List.mem_of_getElem? (i := 7) rfl)
theorem zm_38 : Cond.instantiable R_Open 3 ∈ wz := zc_1 (List.mem_of_getElem? (i := 8) rfl)
theorem zm_39 : Cond.initialized R_Open ∈ wz := zc_1 (List.mem_of_getElem? (i := 9) rfl)
theorem zm_40 : Cond.code y_Open_init b_Open_init 1 none ∈ wz := zc_1 (List.mem_of_getElem? (i := 10) rfl)
theorem zm_41 : Cond.instanceMethod y_Open_init ∈ wz := zc_1 (List.mem_of_getElem? (i := 11) rfl)
theorem zm_42 : Cond.fieldLink R_Blocks 12 "LayoutFront$Blocks" "open" "LLayoutFront$Open;" ∈ wz := zc_1 (List.mem_of_getElem? (i := 12) rfl)
theorem zm_43 : Cond.classLink R_Blocks 18 R_Tokens ∈ wz := zc_1 (List.mem_of_getElem? (i := 13) rfl)
theorem zm_44 : Cond.methodLink R_Blocks 20 y_Tokens_init ∈ wz := zc_1 (List.mem_of_getElem? (i := 14) rfl)
theorem zm_45 : Cond.fieldLink R_Blocks 23 "LayoutFront$Blocks" "laid" "LLayoutFront$Tokens;" ∈ wz := zc_1 (List.mem_of_getElem? (i := 15) rfl)
theorem zm_46 : Cond.methodLink R_Row 3 objectInit ∈ wz := zc_1 (List.mem_of_getElem? (i := 16) rfl)
theorem zm_47 : Cond.fieldLink R_Row 9 "LayoutFront$Row" "parts" "[I" ∈ wz := zc_1 (List.mem_of_getElem? (i := 17) rfl)
theorem zm_48 : Cond.fieldLink R_Row 15 "LayoutFront$Row" "firsts" "[I" ∈ wz := zc_1 (List.mem_of_getElem? (i := 18) rfl)
theorem zm_49 : Cond.fieldLink R_Row 18 "LayoutFront$Row" "lasts" "[I" ∈ wz := zc_1 (List.mem_of_getElem? (i := 19) rfl)
theorem zm_50 : Cond.methodLink R_Resolver 3 objectInit ∈ wz := zc_1 (List.mem_of_getElem? (i := 20) rfl)
theorem zm_51 : Cond.fieldLink R_Resolver 9 "LayoutFront$Resolver" "pairFirsts" "[I" ∈ wz := zc_1 (List.mem_of_getElem? (i := 21) rfl)
theorem zm_52 : Cond.fieldLink R_Resolver 15 "LayoutFront$Resolver" "pairLasts" "[I" ∈ wz := zc_1 (List.mem_of_getElem? (i := 22) rfl)
theorem zm_53 : Cond.fieldLink R_Resolver 18 "LayoutFront$Resolver" "firsts" "[I" ∈ wz := zc_1 (List.mem_of_getElem? (i := 23) rfl)
theorem zm_54 : Cond.fieldLink R_Resolver 21 "LayoutFront$Resolver" "lasts" "[I" ∈ wz := zc_1 (List.mem_of_getElem? (i := 24) rfl)
theorem zm_55 : Cond.fieldLink R_Resolver 24 "LayoutFront$Resolver" "levels" "[I" ∈ wz := zc_1 (List.mem_of_getElem? (i := 25) rfl)
theorem zm_56 : Cond.fieldLink R_Resolver 27 "LayoutFront$Resolver" "sides" "[I" ∈ wz := zc_1 (List.mem_of_getElem? (i := 26) rfl)
theorem zm_57 : Cond.fieldLink R_Resolver 30 "LayoutFront$Resolver" "minusPlaces" "[I" ∈ wz := zc_1 (List.mem_of_getElem? (i := 27) rfl)
theorem zm_58 : Cond.methodLink R_Rows 3 objectInit ∈ wz := zc_1 (List.mem_of_getElem? (i := 28) rfl)
theorem zm_59 : Cond.fieldLink R_Rows 9 "LayoutFront$Rows" "closers" "[I" ∈ wz := zc_1 (List.mem_of_getElem? (i := 29) rfl)
theorem zm_60 : Cond.fieldLink R_Rows 15 "LayoutFront$Rows" "openers" "[I" ∈ wz := zc_2 (List.mem_of_getElem? (i := 0) rfl)
theorem zm_61 : Cond.fieldLink R_Rows 18 "LayoutFront$Rows" "opened" "[I" ∈ wz := zc_2 (List.mem_of_getElem? (i := 1) rfl)
theorem zm_62 : Cond.fieldLink R_Rows 21 "LayoutFront$Rows" "closed" "[I" ∈ wz := zc_2 (List.mem_of_getElem? (i := 2) rfl)
theorem zm_63 : Cond.classLink R_Rows 24 R_Row ∈ wz := zc_2 (List.mem_of_getElem? (i := 3) rfl)
theorem zm_64 : Cond.instantiable R_Row 6 ∈ wz := zc_2 (List.mem_of_getElem? (i := 4) rfl)
theorem zm_65 : Cond.initialized R_Row ∈ wz := zc_2 (List.mem_of_getElem? (i := 5) rfl)
theorem zm_66 : Cond.code y_Row_init b_Row_init 1 none ∈ wz := zc_2 (List.mem_of_getElem? (i := 6) rfl)
theorem zm_67 : Cond.instanceMethod y_Row_init ∈ wz := zc_2 (List.mem_of_getElem? (i := 7) rfl)
theorem zm_68 : Cond.fieldLink R_Rows 27 "LayoutFront$Rows" "row" "LLayoutFront$Row;" ∈ wz := zc_2 (List.mem_of_getElem? (i := 8) rfl)
theorem zm_69 : Cond.classLink R_Rows 31 R_Resolver ∈ wz := zc_2 (List.mem_of_getElem? (i := 9) rfl)
theorem zm_70 : Cond.instantiable R_Resolver 11 ∈ wz := zc_2 (List.mem_of_getElem? (i := 10) rfl)
theorem zm_71 : Cond.initialized R_Resolver ∈ wz := zc_2 (List.mem_of_getElem? (i := 11) rfl)
theorem zm_72 : Cond.code y_Resolver_init b_Resolver_init 1 none ∈ wz := zc_2 (List.mem_of_getElem? (i := 12) rfl)
theorem zm_73 : Cond.instanceMethod y_Resolver_init ∈ wz := zc_2 (List.mem_of_getElem? (i := 13) rfl)
theorem zm_74 : Cond.fieldLink R_Rows 34 "LayoutFront$Rows" "resolver" "LLayoutFront$Resolver;" ∈ wz := zc_2 (List.mem_of_getElem? (i := 14) rfl)
theorem zm_75 : Cond.methodLink R_LF 3 objectInit ∈ wz := zc_2 (List.mem_of_getElem? (i := 15) rfl)
theorem zm_76 : Cond.classLink R_LF 9 R_Text ∈ wz := zc_2 (List.mem_of_getElem? (i := 16) rfl)
theorem zm_77 : Cond.instantiable R_Text 2 ∈ wz := zc_2 (List.mem_of_getElem? (i := 17) rfl)
theorem zm_78 : Cond.initialized R_Text ∈ wz := zc_2 (List.mem_of_getElem? (i := 18) rfl)
theorem zm_79 : Cond.code y_Text_init b_Text_init 1 none ∈ wz := zc_2 (List.mem_of_getElem? (i := 19) rfl)
theorem zm_80 : Cond.instanceMethod y_Text_init ∈ wz := zc_2 (List.mem_of_getElem? (i := 20) rfl)
theorem zm_81 : Cond.fieldLink R_LF 12 "LayoutFront" "text" "LLayoutFront$Text;" ∈ wz := zc_2 (List.mem_of_getElem? (i := 21) rfl)
theorem zm_82 : Cond.classLink R_LF 16 R_Fixities ∈ wz := zc_2 (List.mem_of_getElem? (i := 22) rfl)
theorem zm_83 : Cond.instantiable R_Fixities 4 ∈ wz := zc_2 (List.mem_of_getElem? (i := 23) rfl)
theorem zm_84 : Cond.initialized R_Fixities ∈ wz := zc_2 (List.mem_of_getElem? (i := 24) rfl)
theorem zm_85 : Cond.code y_Fixities_init b_Fixities_init 1 none ∈ wz := zc_2 (List.mem_of_getElem? (i := 25) rfl)
theorem zm_86 : Cond.instanceMethod y_Fixities_init ∈ wz := zc_2 (List.mem_of_getElem? (i := 26) rfl)
theorem zm_87 : Cond.fieldLink R_LF 19 "LayoutFront" "fixities" "LLayoutFront$Fixities;" ∈ wz := zc_2 (List.mem_of_getElem? (i := 27) rfl)
theorem zm_88 : Cond.classLink R_LF 23 R_Cutter ∈ wz := zc_2 (List.mem_of_getElem? (i := 28) rfl)
theorem zm_89 : Cond.instantiable R_Cutter 6 ∈ wz := zc_2 (List.mem_of_getElem? (i := 29) rfl)
theorem zm_90 : Cond.initialized R_Cutter ∈ wz := zc_3 (List.mem_of_getElem? (i := 0) rfl)
theorem zm_91 : Cond.code y_Cutter_init b_Cutter_init 1 none ∈ wz := zc_3 (List.mem_of_getElem? (i := 1) rfl)
theorem zm_92 : Cond.instanceMethod y_Cutter_init ∈ wz := zc_3 (List.mem_of_getElem? (i := 2) rfl)
theorem zm_93 : Cond.fieldLink R_LF 26 "LayoutFront" "cutter" "LLayoutFront$Cutter;" ∈ wz := zc_3 (List.mem_of_getElem? (i := 3) rfl)
theorem zm_94 : Cond.classLink R_LF 30 R_Blocks ∈ wz := zc_3 (List.mem_of_getElem? (i := 4) rfl)
theorem zm_95 : Cond.instantiable R_Blocks 3 ∈ wz := zc_3 (List.mem_of_getElem? (i := 5) rfl)
theorem zm_96 : Cond.initialized R_Blocks ∈ wz := zc_3 (List.mem_of_getElem? (i := 6) rfl)
theorem zm_97 : Cond.code y_Blocks_init b_Blocks_init 1 none ∈ wz := zc_3 (List.mem_of_getElem? (i := 7) rfl)
theorem zm_98 : Cond.instanceMethod y_Blocks_init ∈ wz := zc_3 (List.mem_of_getElem? (i := 8) rfl)
theorem zm_99 : Cond.fieldLink R_LF 33 "LayoutFront" "blocks" "LLayoutFront$Blocks;" ∈ wz := zc_3 (List.mem_of_getElem? (i := 9) rfl)
theorem zm_100 : Cond.classLink R_LF 37 R_Rows ∈ wz := zc_3 (List.mem_of_getElem? (i := 10) rfl)
theorem zm_101 : Cond.instantiable R_Rows 8 ∈ wz := zc_3 (List.mem_of_getElem? (i := 11) rfl)
theorem zm_102 : Cond.initialized R_Rows ∈ wz := zc_3 (List.mem_of_getElem? (i := 12) rfl)
theorem zm_103 : Cond.code y_Rows_init b_Rows_init 1 none ∈ wz := zc_3 (List.mem_of_getElem? (i := 13) rfl)
theorem zm_104 : Cond.instanceMethod y_Rows_init ∈ wz := zc_3 (List.mem_of_getElem? (i := 14) rfl)
theorem zm_105 : Cond.fieldLink R_LF 40 "LayoutFront" "rows" "LLayoutFront$Rows;" ∈ wz := zc_3 (List.mem_of_getElem? (i := 15) rfl)
theorem zm_106 : Cond.classLink R_LF 44 R_Tokens ∈ wz := zc_3 (List.mem_of_getElem? (i := 16) rfl)
theorem zm_107 : Cond.methodLink R_LF 46 y_Tokens_init ∈ wz := zc_3 (List.mem_of_getElem? (i := 17) rfl)
theorem zm_108 : Cond.fieldLink R_LF 49 "LayoutFront" "tokens" "LLayoutFront$Tokens;" ∈ wz := zc_3 (List.mem_of_getElem? (i := 18) rfl)
theorem zm_109 : Cond.fieldLink R_LF 53 "LayoutFront" "counts" "[I" ∈ wz := zc_3 (List.mem_of_getElem? (i := 19) rfl)
theorem zm_110 : Cond.fieldLink R_LF 57 "LayoutFront" "wrongPlace" "I" ∈ wz := zc_3 (List.mem_of_getElem? (i := 20) rfl)
theorem zm_111 : Cond.fieldLink R_Tokens 19 "LayoutFront$Tokens" "size" "I" ∈ wz := zc_3 (List.mem_of_getElem? (i := 21) rfl)
theorem zm_112 : Cond.methodLink R_Lexemes 31 y_Tokens_clear ∈ wz := zc_3 (List.mem_of_getElem? (i := 22) rfl)
theorem zm_113 : Cond.instanceMethod y_Tokens_clear ∈ wz := zc_3 (List.mem_of_getElem? (i := 23) rfl)
theorem zm_114 : Cond.selects R_Tokens y_Tokens_clear y_Tokens_clear ∈ wz := zc_3 (List.mem_of_getElem? (i := 24) rfl)
theorem zm_115 : Cond.code y_Tokens_clear b_Tokens_clear 1 none ∈ wz := zc_3 (List.mem_of_getElem? (i := 25) rfl)
theorem zm_116 : Cond.fieldLink R_Text 19 "LayoutFront$Text" "length" "I" ∈ wz := zc_3 (List.mem_of_getElem? (i := 26) rfl)
theorem zm_117 : Cond.methodLink R_Cutter 26 y_Lexemes_clear ∈ wz := zc_3 (List.mem_of_getElem? (i := 27) rfl)
theorem zm_118 : Cond.instanceMethod y_Lexemes_clear ∈ wz := zc_3 (List.mem_of_getElem? (i := 28) rfl)
theorem zm_119 : Cond.selects R_Lexemes y_Lexemes_clear y_Lexemes_clear ∈ wz := zc_3 (List.mem_of_getElem? (i := 29) rfl)
theorem zm_120 : Cond.code y_Lexemes_clear b_Lexemes_clear 1 none ∈ wz := zc_4 (List.mem_of_getElem? (i := 0) rfl)
theorem zm_121 : Cond.fieldLink R_Cutter 29 "LayoutFront$Cutter" "at" "I" ∈ wz := zc_4 (List.mem_of_getElem? (i := 1) rfl)
theorem zm_122 : Cond.fieldLink R_Cutter 32 "LayoutFront$Cutter" "lineStart" "I" ∈ wz := zc_4 (List.mem_of_getElem? (i := 2) rfl)
theorem zm_123 : Cond.fieldLink R_Cutter 35 "LayoutFront$Cutter" "lineIsFresh" "Z" ∈ wz := zc_4 (List.mem_of_getElem? (i := 3) rfl)
theorem zm_124 : Cond.fieldLink R_Cutter 22 "LayoutFront$Cutter" "tooMany" "Z" ∈ wz := zc_4 (List.mem_of_getElem? (i := 4) rfl)
theorem zm_125 : Cond.methodLink R_Cutter 38 y_Text_length ∈ wz := zc_4 (List.mem_of_getElem? (i := 5) rfl)
theorem zm_126 : Cond.instanceMethod y_Text_length ∈ wz := zc_4 (List.mem_of_getElem? (i := 6) rfl)
theorem zm_127 : Cond.selects R_Text y_Text_length y_Text_length ∈ wz := zc_4 (List.mem_of_getElem? (i := 7) rfl)
theorem zm_128 : Cond.code y_Text_length b_Text_length 1 (some .int) ∈ wz := zc_4 (List.mem_of_getElem? (i := 8) rfl)
theorem zm_129 : Cond.fieldLink R_Open 15 "LayoutFront$Open" "size" "I" ∈ wz := zc_4 (List.mem_of_getElem? (i := 9) rfl)
theorem zm_130 : Cond.fieldLink R_Open 19 "LayoutFront$Open" "most" "I" ∈ wz := zc_4 (List.mem_of_getElem? (i := 10) rfl)
theorem zm_131 : Cond.methodLink R_Lexemes 34 y_Tokens_size ∈ wz := zc_4 (List.mem_of_getElem? (i := 11) rfl)
theorem zm_132 : Cond.instanceMethod y_Tokens_size ∈ wz := zc_4 (List.mem_of_getElem? (i := 12) rfl)
theorem zm_133 : Cond.selects R_Tokens y_Tokens_size y_Tokens_size ∈ wz := zc_4 (List.mem_of_getElem? (i := 13) rfl)
theorem zm_134 : Cond.code y_Tokens_size b_Tokens_size 1 (some .int) ∈ wz := zc_4 (List.mem_of_getElem? (i := 14) rfl)
theorem zm_135 : Cond.methodLink R_Tokens 27 y_Tokens_has ∈ wz := zc_4 (List.mem_of_getElem? (i := 15) rfl)
theorem zm_136 : Cond.instanceMethod y_Tokens_has ∈ wz := zc_4 (List.mem_of_getElem? (i := 16) rfl)
theorem zm_137 : Cond.selects R_Tokens y_Tokens_has y_Tokens_has ∈ wz := zc_4 (List.mem_of_getElem? (i := 17) rfl)
theorem zm_138 : Cond.code y_Tokens_has b_Tokens_has 2 (some .boolean) ∈ wz := zc_4 (List.mem_of_getElem? (i := 18) rfl)
theorem zm_139 : Cond.methodLink R_Blocks 99 y_Tokens_isSign ∈ wz := zc_4 (List.mem_of_getElem? (i := 19) rfl)
theorem zm_140 : Cond.instanceMethod y_Tokens_isSign ∈ wz := zc_4 (List.mem_of_getElem? (i := 20) rfl)
theorem zm_141 : Cond.selects R_Tokens y_Tokens_isSign y_Tokens_isSign ∈ wz := zc_4 (List.mem_of_getElem? (i := 21) rfl)
theorem zm_142 : Cond.code y_Tokens_isSign b_Tokens_isSign 3 (some .boolean) ∈ wz := zc_4 (List.mem_of_getElem? (i := 22) rfl)
theorem zm_143 : Cond.methodLink R_Blocks 64 y_Tokens_wordAt ∈ wz := zc_4 (List.mem_of_getElem? (i := 23) rfl)
theorem zm_144 : Cond.instanceMethod y_Tokens_wordAt ∈ wz := zc_4 (List.mem_of_getElem? (i := 24) rfl)
theorem zm_145 : Cond.selects R_Tokens y_Tokens_wordAt y_Tokens_wordAt ∈ wz := zc_4 (List.mem_of_getElem? (i := 25) rfl)
theorem zm_146 : Cond.code y_Tokens_wordAt b_Tokens_wordAt 2 (some .int) ∈ wz := zc_4 (List.mem_of_getElem? (i := 26) rfl)
theorem zm_147 : Cond.methodLink R_Lexemes 42 y_Tokens_has ∈ wz := zc_4 (List.mem_of_getElem? (i := 27) rfl)
theorem zm_148 : Cond.methodLink R_Blocks 74 y_Tokens_add ∈ wz := zc_4 (List.mem_of_getElem? (i := 28) rfl)
theorem zm_149 : Cond.instanceMethod y_Tokens_add ∈ wz := zc_4 (List.mem_of_getElem? (i := 29) rfl)
theorem zm_150 : Cond.selects R_Tokens y_Tokens_add y_Tokens_add ∈ wz := zc_5 (List.mem_of_getElem? (i := 0) rfl)
theorem zm_151 : Cond.code y_Tokens_add b_Tokens_add 4 none ∈ wz := zc_5 (List.mem_of_getElem? (i := 1) rfl)
theorem zm_152 : Cond.fieldLink R_Blocks 27 "LayoutFront$Blocks" "begun" "I" ∈ wz := zc_5 (List.mem_of_getElem? (i := 2) rfl)
theorem zm_153 : Cond.methodLink R_Blocks 103 y_Blocks_putIn ∈ wz := zc_5 (List.mem_of_getElem? (i := 3) rfl)
theorem zm_154 : Cond.instanceMethod y_Blocks_putIn ∈ wz := zc_5 (List.mem_of_getElem? (i := 4) rfl)
theorem zm_155 : Cond.selects R_Blocks y_Blocks_putIn y_Blocks_putIn ∈ wz := zc_5 (List.mem_of_getElem? (i := 5) rfl)
theorem zm_156 : Cond.code y_Blocks_putIn b_Blocks_putIn 2 none ∈ wz := zc_5 (List.mem_of_getElem? (i := 6) rfl)
theorem zm_157 : Cond.methodLink R_Blocks 107 y_Open_latestColumn ∈ wz := zc_5 (List.mem_of_getElem? (i := 7) rfl)
theorem zm_158 : Cond.instanceMethod y_Open_latestColumn ∈ wz := zc_5 (List.mem_of_getElem? (i := 8) rfl)
theorem zm_159 : Cond.selects R_Open y_Open_latestColumn y_Open_latestColumn ∈ wz := zc_5 (List.mem_of_getElem? (i := 9) rfl)
theorem zm_160 : Cond.code y_Open_latestColumn b_Open_latestColumn 2 (some .int) ∈ wz := zc_5 (List.mem_of_getElem? (i := 10) rfl)
theorem zm_161 : Cond.methodLink R_Blocks 48 y_Lexemes_tokens ∈ wz := zc_5 (List.mem_of_getElem? (i := 11) rfl)
theorem zm_162 : Cond.instanceMethod y_Lexemes_tokens ∈ wz := zc_5 (List.mem_of_getElem? (i := 12) rfl)
theorem zm_163 : Cond.selects R_Lexemes y_Lexemes_tokens y_Lexemes_tokens ∈ wz := zc_5 (List.mem_of_getElem? (i := 13) rfl)
theorem zm_164 : Cond.code y_Lexemes_tokens b_Lexemes_tokens 1 (some (.object "LayoutFront$Tokens")) ∈ wz := zc_5 (List.mem_of_getElem? (i := 14) rfl)
theorem zm_165 : Cond.methodLink R_Blocks 83 y_Blocks_beginsBlock ∈ wz := zc_5 (List.mem_of_getElem? (i := 15) rfl)
theorem zm_166 : Cond.static y_Blocks_beginsBlock ∈ wz := zc_5 (List.mem_of_getElem? (i := 16) rfl)
theorem zm_167 : Cond.code y_Blocks_beginsBlock b_Blocks_beginsBlock 2 (some .boolean) ∈ wz := zc_5 (List.mem_of_getElem? (i := 17) rfl)
theorem zm_168 : Cond.methodLink R_Blocks 87 y_Lexemes_columnAt ∈ wz := zc_5 (List.mem_of_getElem? (i := 18) rfl)
theorem zm_169 : Cond.instanceMethod y_Lexemes_columnAt ∈ wz := zc_5 (List.mem_of_getElem? (i := 19) rfl)
theorem zm_170 : Cond.selects R_Lexemes y_Lexemes_columnAt y_Lexemes_columnAt ∈ wz := zc_5 (List.mem_of_getElem? (i := 20) rfl)
theorem zm_171 : Cond.code y_Lexemes_columnAt b_Lexemes_columnAt 2 (some .int) ∈ wz := zc_5 (List.mem_of_getElem? (i := 21) rfl)
theorem zm_172 : Cond.methodLink R_Blocks 90 y_Blocks_begin ∈ wz := zc_5 (List.mem_of_getElem? (i := 22) rfl)
theorem zm_173 : Cond.instanceMethod y_Blocks_begin ∈ wz := zc_5 (List.mem_of_getElem? (i := 23) rfl)
theorem zm_174 : Cond.selects R_Blocks y_Blocks_begin y_Blocks_begin ∈ wz := zc_5 (List.mem_of_getElem? (i := 24) rfl)
theorem zm_175 : Cond.code y_Blocks_begin b_Blocks_begin 2 none ∈ wz := zc_5 (List.mem_of_getElem? (i := 25) rfl)
theorem zm_176 : Cond.methodLink R_Blocks 82 y_Open_size ∈ wz := zc_5 (List.mem_of_getElem? (i := 26) rfl)
theorem zm_177 : Cond.instanceMethod y_Open_size ∈ wz := zc_5 (List.mem_of_getElem? (i := 27) rfl)
theorem zm_178 : Cond.selects R_Open y_Open_size y_Open_size ∈ wz := zc_5 (List.mem_of_getElem? (i := 28) rfl)
theorem zm_179 : Cond.code y_Open_size b_Open_size 1 (some .int) ∈ wz := zc_5 (List.mem_of_getElem? (i := 29) rfl)
theorem zm_180 : Cond.methodLink R_Blocks 35 y_Open_clear ∈ wz := zc_6 (List.mem_of_getElem? (i := 0) rfl)
theorem zm_181 : Cond.instanceMethod y_Open_clear ∈ wz := zc_6 (List.mem_of_getElem? (i := 1) rfl)
theorem zm_182 : Cond.selects R_Open y_Open_clear y_Open_clear ∈ wz := zc_6 (List.mem_of_getElem? (i := 2) rfl)
theorem zm_183 : Cond.code y_Open_clear b_Open_clear 1 none ∈ wz := zc_6 (List.mem_of_getElem? (i := 3) rfl)
theorem zm_184 : Cond.methodLink R_Blocks 38 y_Tokens_clear ∈ wz := zc_6 (List.mem_of_getElem? (i := 4) rfl)
theorem zm_185 : Cond.methodLink R_Blocks 39 y_Lexemes_size ∈ wz := zc_6 (List.mem_of_getElem? (i := 5) rfl)
theorem zm_186 : Cond.instanceMethod y_Lexemes_size ∈ wz := zc_6 (List.mem_of_getElem? (i := 6) rfl)
theorem zm_187 : Cond.selects R_Lexemes y_Lexemes_size y_Lexemes_size ∈ wz := zc_6 (List.mem_of_getElem? (i := 7) rfl)
theorem zm_188 : Cond.code y_Lexemes_size b_Lexemes_size 1 (some .int) ∈ wz := zc_6 (List.mem_of_getElem? (i := 8) rfl)
theorem zm_189 : Cond.methodLink R_Blocks 44 y_Blocks_putBefore ∈ wz := zc_6 (List.mem_of_getElem? (i := 9) rfl)
theorem zm_190 : Cond.instanceMethod y_Blocks_putBefore ∈ wz := zc_6 (List.mem_of_getElem? (i := 10) rfl)
theorem zm_191 : Cond.selects R_Blocks y_Blocks_putBefore y_Blocks_putBefore ∈ wz := zc_6 (List.mem_of_getElem? (i := 11) rfl)
theorem zm_192 : Cond.code y_Blocks_putBefore b_Blocks_putBefore 3 none ∈ wz := zc_6 (List.mem_of_getElem? (i := 12) rfl)
theorem zm_193 : Cond.methodLink R_Blocks 78 y_Blocks_closeBlocks ∈ wz := zc_6 (List.mem_of_getElem? (i := 13) rfl)
theorem zm_194 : Cond.instanceMethod y_Blocks_closeBlocks ∈ wz := zc_6 (List.mem_of_getElem? (i := 14) rfl)
theorem zm_195 : Cond.selects R_Blocks y_Blocks_closeBlocks y_Blocks_closeBlocks ∈ wz := zc_6 (List.mem_of_getElem? (i := 15) rfl)
theorem zm_196 : Cond.code y_Blocks_closeBlocks b_Blocks_closeBlocks 3 none ∈ wz := zc_6 (List.mem_of_getElem? (i := 16) rfl)
theorem zm_197 : Cond.fieldLink R_Resolver 33 "LayoutFront$Resolver" "pairs" "I" ∈ wz := zc_6 (List.mem_of_getElem? (i := 17) rfl)
theorem zm_198 : Cond.fieldLink R_Resolver 40 "LayoutFront$Resolver" "pairsBefore" "I" ∈ wz := zc_6 (List.mem_of_getElem? (i := 18) rfl)
theorem zm_199 : Cond.fieldLink R_Resolver 43 "LayoutFront$Resolver" "operands" "I" ∈ wz := zc_6 (List.mem_of_getElem? (i := 19) rfl)
theorem zm_200 : Cond.fieldLink R_Resolver 46 "LayoutFront$Resolver" "waiting" "I" ∈ wz := zc_6 (List.mem_of_getElem? (i := 20) rfl)
theorem zm_201 : Cond.methodLink R_Resolver 37 y_Resolver_startRow ∈ wz := zc_6 (List.mem_of_getElem? (i := 21) rfl)
theorem zm_202 : Cond.instanceMethod y_Resolver_startRow ∈ wz := zc_6 (List.mem_of_getElem? (i := 22) rfl)
theorem zm_203 : Cond.selects R_Resolver y_Resolver_startRow y_Resolver_startRow ∈ wz := zc_6 (List.mem_of_getElem? (i := 23) rfl)
theorem zm_204 : Cond.code y_Resolver_startRow b_Resolver_startRow 1 none ∈ wz := zc_6 (List.mem_of_getElem? (i := 24) rfl)
theorem zm_205 : Cond.methodLink R_Tokens 31 y_Tokens_isSign ∈ wz := zc_6 (List.mem_of_getElem? (i := 25) rfl)
theorem zm_206 : Cond.methodLink R_Rows 52 y_Tokens_size ∈ wz := zc_6 (List.mem_of_getElem? (i := 26) rfl)
theorem zm_207 : Cond.methodLink R_Rows 62 y_Tokens_opensBracket ∈ wz := zc_6 (List.mem_of_getElem? (i := 27) rfl)
theorem zm_208 : Cond.instanceMethod y_Tokens_opensBracket ∈ wz := zc_6 (List.mem_of_getElem? (i := 28) rfl)
theorem zm_209 : Cond.selects R_Tokens y_Tokens_opensBracket y_Tokens_opensBracket ∈ wz := zc_6 (List.mem_of_getElem? (i := 29) rfl)
theorem zm_210 : Cond.code y_Tokens_opensBracket b_Tokens_opensBracket 2 (some .boolean) ∈ wz := zc_7 (List.mem_of_getElem? (i := 0) rfl)
theorem zm_211 : Cond.methodLink R_Rows 93 y_Tokens_closesBracket ∈ wz := zc_7 (List.mem_of_getElem? (i := 1) rfl)
theorem zm_212 : Cond.instanceMethod y_Tokens_closesBracket ∈ wz := zc_7 (List.mem_of_getElem? (i := 2) rfl)
theorem zm_213 : Cond.selects R_Tokens y_Tokens_closesBracket y_Tokens_closesBracket ∈ wz := zc_7 (List.mem_of_getElem? (i := 3) rfl)
theorem zm_214 : Cond.code y_Tokens_closesBracket b_Tokens_closesBracket 2 (some .boolean) ∈ wz := zc_7 (List.mem_of_getElem? (i := 4) rfl)
theorem zm_215 : Cond.fieldLink R_Row 21 "LayoutFront$Row" "size" "I" ∈ wz := zc_7 (List.mem_of_getElem? (i := 5) rfl)
theorem zm_216 : Cond.fieldLink R_Row 25 "LayoutFront$Row" "operates" "Z" ∈ wz := zc_7 (List.mem_of_getElem? (i := 6) rfl)
theorem zm_217 : Cond.fieldLink R_Row 29 "LayoutFront$Row" "lacksOperand" "Z" ∈ wz := zc_7 (List.mem_of_getElem? (i := 7) rfl)
theorem zm_218 : Cond.methodLink R_Rows 132 y_Tokens_isFreeName ∈ wz := zc_7 (List.mem_of_getElem? (i := 8) rfl)
theorem zm_219 : Cond.instanceMethod y_Tokens_isFreeName ∈ wz := zc_7 (List.mem_of_getElem? (i := 9) rfl)
theorem zm_220 : Cond.selects R_Tokens y_Tokens_isFreeName y_Tokens_isFreeName ∈ wz := zc_7 (List.mem_of_getElem? (i := 10) rfl)
theorem zm_221 : Cond.code y_Tokens_isFreeName b_Tokens_isFreeName 2 (some .boolean) ∈ wz := zc_7 (List.mem_of_getElem? (i := 11) rfl)
theorem zm_222 : Cond.methodLink R_Rows 80 y_Tokens_kindAt ∈ wz := zc_7 (List.mem_of_getElem? (i := 12) rfl)
theorem zm_223 : Cond.instanceMethod y_Tokens_kindAt ∈ wz := zc_7 (List.mem_of_getElem? (i := 13) rfl)
theorem zm_224 : Cond.selects R_Tokens y_Tokens_kindAt y_Tokens_kindAt ∈ wz := zc_7 (List.mem_of_getElem? (i := 14) rfl)
theorem zm_225 : Cond.code y_Tokens_kindAt b_Tokens_kindAt 2 (some .int) ∈ wz := zc_7 (List.mem_of_getElem? (i := 15) rfl)
theorem zm_226 : Cond.methodLink R_Rows 135 y_Tokens_isSign ∈ wz := zc_7 (List.mem_of_getElem? (i := 16) rfl)
theorem zm_227 : Cond.methodLink R_Rows 139 y_Tokens_isFreeOperator ∈ wz := zc_7 (List.mem_of_getElem? (i := 17) rfl)
theorem zm_228 : Cond.instanceMethod y_Tokens_isFreeOperator ∈ wz := zc_7 (List.mem_of_getElem? (i := 18) rfl)
theorem zm_229 : Cond.selects R_Tokens y_Tokens_isFreeOperator y_Tokens_isFreeOperator ∈ wz := zc_7 (List.mem_of_getElem? (i := 19) rfl)
theorem zm_230 : Cond.code y_Tokens_isFreeOperator b_Tokens_isFreeOperator 2 (some .boolean) ∈ wz := zc_7 (List.mem_of_getElem? (i := 20) rfl)
theorem zm_231 : Cond.methodLink R_Rows 108 y_Row_clear ∈ wz := zc_7 (List.mem_of_getElem? (i := 21) rfl)
theorem zm_232 : Cond.instanceMethod y_Row_clear ∈ wz := zc_7 (List.mem_of_getElem? (i := 22) rfl)
theorem zm_233 : Cond.selects R_Row y_Row_clear y_Row_clear ∈ wz := zc_7 (List.mem_of_getElem? (i := 23) rfl)
theorem zm_234 : Cond.code y_Row_clear b_Row_clear 1 none ∈ wz := zc_7 (List.mem_of_getElem? (i := 24) rfl)
theorem zm_235 : Cond.methodLink R_Rows 109 y_Rows_behindOperand ∈ wz := zc_7 (List.mem_of_getElem? (i := 25) rfl)
theorem zm_236 : Cond.instanceMethod y_Rows_behindOperand ∈ wz := zc_7 (List.mem_of_getElem? (i := 26) rfl)
theorem zm_237 : Cond.selects R_Rows y_Rows_behindOperand y_Rows_behindOperand ∈ wz := zc_7 (List.mem_of_getElem? (i := 27) rfl)
theorem zm_238 : Cond.code y_Rows_behindOperand b_Rows_behindOperand 3 (some .int) ∈ wz := zc_7 (List.mem_of_getElem? (i := 28) rfl)
theorem zm_239 : Cond.methodLink R_Rows 113 y_Rows_behindOperation ∈ wz := zc_7 (List.mem_of_getElem? (i := 29) rfl)
theorem zm_240 : Cond.static y_Rows_behindOperation ∈ wz := zc_8 (List.mem_of_getElem? (i := 0) rfl)
theorem zm_241 : Cond.code y_Rows_behindOperation b_Rows_behindOperation 2 (some .int) ∈ wz := zc_8 (List.mem_of_getElem? (i := 1) rfl)
theorem zm_242 : Cond.methodLink R_Rows 96 y_Rows_collectRow ∈ wz := zc_8 (List.mem_of_getElem? (i := 2) rfl)
theorem zm_243 : Cond.instanceMethod y_Rows_collectRow ∈ wz := zc_8 (List.mem_of_getElem? (i := 3) rfl)
theorem zm_244 : Cond.selects R_Rows y_Rows_collectRow y_Rows_collectRow ∈ wz := zc_8 (List.mem_of_getElem? (i := 4) rfl)
theorem zm_245 : Cond.code y_Rows_collectRow b_Rows_collectRow 8 (some .int) ∈ wz := zc_8 (List.mem_of_getElem? (i := 5) rfl)
theorem zm_246 : Cond.methodLink R_Rows 100 y_Row_isWhole ∈ wz := zc_8 (List.mem_of_getElem? (i := 6) rfl)
theorem zm_247 : Cond.instanceMethod y_Row_isWhole ∈ wz := zc_8 (List.mem_of_getElem? (i := 7) rfl)
theorem zm_248 : Cond.selects R_Row y_Row_isWhole y_Row_isWhole ∈ wz := zc_8 (List.mem_of_getElem? (i := 8) rfl)
theorem zm_249 : Cond.code y_Row_isWhole b_Row_isWhole 1 (some .boolean) ∈ wz := zc_8 (List.mem_of_getElem? (i := 9) rfl)
theorem zm_250 : Cond.fieldLink R_Rows 38 "LayoutFront$Rows" "together" "I" ∈ wz := zc_8 (List.mem_of_getElem? (i := 10) rfl)
theorem zm_251 : Cond.fieldLink R_Rows 42 "LayoutFront$Rows" "inConflict" "I" ∈ wz := zc_8 (List.mem_of_getElem? (i := 11) rfl)
theorem zm_252 : Cond.methodLink R_Rows 45 y_Resolver_clear ∈ wz := zc_8 (List.mem_of_getElem? (i := 12) rfl)
theorem zm_253 : Cond.instanceMethod y_Resolver_clear ∈ wz := zc_8 (List.mem_of_getElem? (i := 13) rfl)
theorem zm_254 : Cond.selects R_Resolver y_Resolver_clear y_Resolver_clear ∈ wz := zc_8 (List.mem_of_getElem? (i := 14) rfl)
theorem zm_255 : Cond.code y_Resolver_clear b_Resolver_clear 1 none ∈ wz := zc_8 (List.mem_of_getElem? (i := 15) rfl)
theorem zm_256 : Cond.methodLink R_Rows 48 y_Rows_matchBrackets ∈ wz := zc_8 (List.mem_of_getElem? (i := 16) rfl)
theorem zm_257 : Cond.instanceMethod y_Rows_matchBrackets ∈ wz := zc_8 (List.mem_of_getElem? (i := 17) rfl)
theorem zm_258 : Cond.selects R_Rows y_Rows_matchBrackets y_Rows_matchBrackets ∈ wz := zc_8 (List.mem_of_getElem? (i := 18) rfl)
theorem zm_259 : Cond.code y_Rows_matchBrackets b_Rows_matchBrackets 4 none ∈ wz := zc_8 (List.mem_of_getElem? (i := 19) rfl)
theorem zm_260 : Cond.methodLink R_Rows 58 y_Rows_putLevelTogether ∈ wz := zc_8 (List.mem_of_getElem? (i := 20) rfl)
theorem zm_261 : Cond.instanceMethod y_Rows_putLevelTogether ∈ wz := zc_8 (List.mem_of_getElem? (i := 21) rfl)
theorem zm_262 : Cond.selects R_Rows y_Rows_putLevelTogether y_Rows_putLevelTogether ∈ wz := zc_8 (List.mem_of_getElem? (i := 22) rfl)
theorem zm_263 : Cond.code y_Rows_putLevelTogether b_Rows_putLevelTogether 7 none ∈ wz := zc_8 (List.mem_of_getElem? (i := 23) rfl)
theorem zm_264 : Cond.methodLink R_Rows 70 y_Resolver_tally ∈ wz := zc_8 (List.mem_of_getElem? (i := 24) rfl)
theorem zm_265 : Cond.instanceMethod y_Resolver_tally ∈ wz := zc_8 (List.mem_of_getElem? (i := 25) rfl)
theorem zm_266 : Cond.selects R_Resolver y_Resolver_tally y_Resolver_tally ∈ wz := zc_8 (List.mem_of_getElem? (i := 26) rfl)
theorem zm_267 : Cond.code y_Resolver_tally b_Resolver_tally 6 none ∈ wz := zc_8 (List.mem_of_getElem? (i := 27) rfl)
theorem zm_268 : Cond.constantLong R_Rows 74 40 ∈ wz := zc_8 (List.mem_of_getElem? (i := 28) rfl)
theorem zm_269 : Cond.methodLink R_Rows 76 y_Tokens_addTimes ∈ wz := zc_8 (List.mem_of_getElem? (i := 29) rfl)
theorem zm_270 : Cond.instanceMethod y_Tokens_addTimes ∈ wz := zc_9 (List.mem_of_getElem? (i := 0) rfl)
theorem zm_271 : Cond.selects R_Tokens y_Tokens_addTimes y_Tokens_addTimes ∈ wz := zc_9 (List.mem_of_getElem? (i := 1) rfl)
theorem zm_272 : Cond.code y_Tokens_addTimes b_Tokens_addTimes 6 none ∈ wz := zc_9 (List.mem_of_getElem? (i := 2) rfl)
theorem zm_273 : Cond.methodLink R_Rows 83 y_Tokens_valueAt ∈ wz := zc_9 (List.mem_of_getElem? (i := 3) rfl)
theorem zm_274 : Cond.instanceMethod y_Tokens_valueAt ∈ wz := zc_9 (List.mem_of_getElem? (i := 4) rfl)
theorem zm_275 : Cond.selects R_Tokens y_Tokens_valueAt y_Tokens_valueAt ∈ wz := zc_9 (List.mem_of_getElem? (i := 5) rfl)
theorem zm_276 : Cond.code y_Tokens_valueAt b_Tokens_valueAt 2 (some .long) ∈ wz := zc_9 (List.mem_of_getElem? (i := 6) rfl)
theorem zm_277 : Cond.methodLink R_Rows 87 y_Tokens_add ∈ wz := zc_9 (List.mem_of_getElem? (i := 7) rfl)
theorem zm_278 : Cond.constantLong R_Rows 91 41 ∈ wz := zc_9 (List.mem_of_getElem? (i := 8) rfl)
theorem zm_279 : Cond.methodLink R_Blocks 31 y_Open_most ∈ wz := zc_9 (List.mem_of_getElem? (i := 9) rfl)
theorem zm_280 : Cond.instanceMethod y_Open_most ∈ wz := zc_9 (List.mem_of_getElem? (i := 10) rfl)
theorem zm_281 : Cond.selects R_Open y_Open_most y_Open_most ∈ wz := zc_9 (List.mem_of_getElem? (i := 11) rfl)
theorem zm_282 : Cond.code y_Open_most b_Open_most 1 (some .int) ∈ wz := zc_9 (List.mem_of_getElem? (i := 12) rfl)
theorem zm_283 : Cond.methodLink R_LF 117 y_Cutter_lexemes ∈ wz := zc_9 (List.mem_of_getElem? (i := 13) rfl)
theorem zm_284 : Cond.instanceMethod y_Cutter_lexemes ∈ wz := zc_9 (List.mem_of_getElem? (i := 14) rfl)
theorem zm_285 : Cond.selects R_Cutter y_Cutter_lexemes y_Cutter_lexemes ∈ wz := zc_9 (List.mem_of_getElem? (i := 15) rfl)
theorem zm_286 : Cond.code y_Cutter_lexemes b_Cutter_lexemes 1 (some (.object "LayoutFront$Lexemes")) ∈ wz := zc_9 (List.mem_of_getElem? (i := 16) rfl)
theorem zm_287 : Cond.methodLink R_LF 143 y_Lexemes_size ∈ wz := zc_9 (List.mem_of_getElem? (i := 17) rfl)
theorem zm_288 : Cond.methodLink R_LF 146 y_Blocks_begun ∈ wz := zc_9 (List.mem_of_getElem? (i := 18) rfl)
theorem zm_289 : Cond.instanceMethod y_Blocks_begun ∈ wz := zc_9 (List.mem_of_getElem? (i := 19) rfl)
theorem zm_290 : Cond.selects R_Blocks y_Blocks_begun y_Blocks_begun ∈ wz := zc_9 (List.mem_of_getElem? (i := 20) rfl)
theorem zm_291 : Cond.code y_Blocks_begun b_Blocks_begun 1 (some .int) ∈ wz := zc_9 (List.mem_of_getElem? (i := 21) rfl)
theorem zm_292 : Cond.methodLink R_LF 149 y_Rows_together ∈ wz := zc_9 (List.mem_of_getElem? (i := 22) rfl)
theorem zm_293 : Cond.instanceMethod y_Rows_together ∈ wz := zc_9 (List.mem_of_getElem? (i := 23) rfl)
theorem zm_294 : Cond.selects R_Rows y_Rows_together y_Rows_together ∈ wz := zc_9 (List.mem_of_getElem? (i := 24) rfl)
theorem zm_295 : Cond.code y_Rows_together b_Rows_together 1 (some .int) ∈ wz := zc_9 (List.mem_of_getElem? (i := 25) rfl)
theorem zm_296 : Cond.methodLink R_LF 152 y_Rows_inConflict ∈ wz := zc_9 (List.mem_of_getElem? (i := 26) rfl)
theorem zm_297 : Cond.instanceMethod y_Rows_inConflict ∈ wz := zc_9 (List.mem_of_getElem? (i := 27) rfl)
theorem zm_298 : Cond.selects R_Rows y_Rows_inConflict y_Rows_inConflict ∈ wz := zc_9 (List.mem_of_getElem? (i := 28) rfl)
theorem zm_299 : Cond.code y_Rows_inConflict b_Rows_inConflict 1 (some .int) ∈ wz := zc_9 (List.mem_of_getElem? (i := 29) rfl)
theorem zm_300 : Cond.methodLink R_LF 155 y_Blocks_mostOpen ∈ wz := zc_10 (List.mem_of_getElem? (i := 0) rfl)
theorem zm_301 : Cond.instanceMethod y_Blocks_mostOpen ∈ wz := zc_10 (List.mem_of_getElem? (i := 1) rfl)
theorem zm_302 : Cond.selects R_Blocks y_Blocks_mostOpen y_Blocks_mostOpen ∈ wz := zc_10 (List.mem_of_getElem? (i := 2) rfl)
theorem zm_303 : Cond.code y_Blocks_mostOpen b_Blocks_mostOpen 1 (some .int) ∈ wz := zc_10 (List.mem_of_getElem? (i := 3) rfl)
theorem zm_304 : Cond.methodLink R_LF 106 y_Tokens_clear ∈ wz := zc_10 (List.mem_of_getElem? (i := 4) rfl)
theorem zm_305 : Cond.methodLink R_LF 107 y_Cutter_cut ∈ wz := zc_10 (List.mem_of_getElem? (i := 5) rfl)
theorem zm_306 : Cond.instanceMethod y_Cutter_cut ∈ wz := zc_10 (List.mem_of_getElem? (i := 6) rfl)
theorem zm_307 : Cond.selects R_Cutter y_Cutter_cut y_Cutter_cut ∈ wz := zc_10 (List.mem_of_getElem? (i := 7) rfl)
theorem zm_308 : Cond.code y_Cutter_cut b_Cutter_cut 3 (some .int) ∈ wz := zc_10 (List.mem_of_getElem? (i := 8) rfl)
theorem zm_309 : Cond.methodLink R_LF 111 y_Cutter_foundTooMany ∈ wz := zc_10 (List.mem_of_getElem? (i := 9) rfl)
theorem zm_310 : Cond.instanceMethod y_Cutter_foundTooMany ∈ wz := zc_10 (List.mem_of_getElem? (i := 10) rfl)
theorem zm_311 : Cond.selects R_Cutter y_Cutter_foundTooMany y_Cutter_foundTooMany ∈ wz := zc_10 (List.mem_of_getElem? (i := 11) rfl)
theorem zm_312 : Cond.code y_Cutter_foundTooMany b_Cutter_foundTooMany 1 (some .boolean) ∈ wz := zc_10 (List.mem_of_getElem? (i := 12) rfl)
theorem zm_313 : Cond.methodLink R_LF 85 y_Text_length ∈ wz := zc_10 (List.mem_of_getElem? (i := 13) rfl)
theorem zm_314 : Cond.methodLink R_LF 121 y_Blocks_lay ∈ wz := zc_10 (List.mem_of_getElem? (i := 14) rfl)
theorem zm_315 : Cond.instanceMethod y_Blocks_lay ∈ wz := zc_10 (List.mem_of_getElem? (i := 15) rfl)
theorem zm_316 : Cond.selects R_Blocks y_Blocks_lay y_Blocks_lay ∈ wz := zc_10 (List.mem_of_getElem? (i := 16) rfl)
theorem zm_317 : Cond.code y_Blocks_lay b_Blocks_lay 8 (some .int) ∈ wz := zc_10 (List.mem_of_getElem? (i := 17) rfl)
theorem zm_318 : Cond.methodLink R_LF 127 y_Blocks_laid ∈ wz := zc_10 (List.mem_of_getElem? (i := 18) rfl)
theorem zm_319 : Cond.instanceMethod y_Blocks_laid ∈ wz := zc_10 (List.mem_of_getElem? (i := 19) rfl)
theorem zm_320 : Cond.selects R_Blocks y_Blocks_laid y_Blocks_laid ∈ wz := zc_10 (List.mem_of_getElem? (i := 20) rfl)
theorem zm_321 : Cond.code y_Blocks_laid b_Blocks_laid 1 (some (.object "LayoutFront$Tokens")) ∈ wz := zc_10 (List.mem_of_getElem? (i := 21) rfl)
theorem zm_322 : Cond.methodLink R_LF 131 y_Rows_putTogether ∈ wz := zc_10 (List.mem_of_getElem? (i := 22) rfl)
theorem zm_323 : Cond.instanceMethod y_Rows_putTogether ∈ wz := zc_10 (List.mem_of_getElem? (i := 23) rfl)
theorem zm_324 : Cond.selects R_Rows y_Rows_putTogether y_Rows_putTogether ∈ wz := zc_10 (List.mem_of_getElem? (i := 24) rfl)
theorem zm_325 : Cond.code y_Rows_putTogether b_Rows_putTogether 4 none ∈ wz := zc_10 (List.mem_of_getElem? (i := 25) rfl)
theorem zm_326 : Cond.methodLink R_LF 135 y_Rows_copyInto ∈ wz := zc_10 (List.mem_of_getElem? (i := 26) rfl)
theorem zm_327 : Cond.instanceMethod y_Rows_copyInto ∈ wz := zc_10 (List.mem_of_getElem? (i := 27) rfl)
theorem zm_328 : Cond.selects R_Rows y_Rows_copyInto y_Rows_copyInto ∈ wz := zc_10 (List.mem_of_getElem? (i := 28) rfl)
theorem zm_329 : Cond.code y_Rows_copyInto b_Rows_copyInto 4 none ∈ wz := zc_10 (List.mem_of_getElem? (i := 29) rfl)
theorem zm_330 : Cond.methodLink R_LF 139 y_LF_keepCounts ∈ wz := zc_11 (List.mem_of_getElem? (i := 0) rfl)
theorem zm_331 : Cond.instanceMethod y_LF_keepCounts ∈ wz := zc_11 (List.mem_of_getElem? (i := 1) rfl)
theorem zm_332 : Cond.selects R_LF y_LF_keepCounts y_LF_keepCounts ∈ wz := zc_11 (List.mem_of_getElem? (i := 2) rfl)
theorem zm_333 : Cond.initialized R_LF ∈ wz := zc_11 (List.mem_of_getElem? (i := 3) rfl)
theorem zm_334 : Cond.code y_LF_keepCounts b_LF_keepCounts 1 none ∈ wz := zc_11 (List.mem_of_getElem? (i := 4) rfl)
theorem zm_335 : Cond.methodLink R_LF 142 y_Tokens_size ∈ wz := zc_11 (List.mem_of_getElem? (i := 5) rfl)
theorem zm_336 : Cond.methodLink R_Model 1 objectInit ∈ wz := zc_11 (List.mem_of_getElem? (i := 6) rfl)
theorem zm_337 : Cond.fieldLink R_Model 7 "LayoutFrontModel" "text" "[I" ∈ wz := zc_11 (List.mem_of_getElem? (i := 7) rfl)
theorem zm_338 : Cond.fieldLink R_Model 13 "LayoutFrontModel" "place" "I" ∈ wz := zc_11 (List.mem_of_getElem? (i := 8) rfl)
theorem zm_339 : Cond.fieldLink R_Model 17 "LayoutFrontModel" "kind" "[I" ∈ wz := zc_11 (List.mem_of_getElem? (i := 9) rfl)
theorem zm_340 : Cond.fieldLink R_Model 20 "LayoutFrontModel" "value" "[J" ∈ wz := zc_11 (List.mem_of_getElem? (i := 10) rfl)
theorem zm_341 : Cond.fieldLink R_Model 24 "LayoutFrontModel" "where" "[I" ∈ wz := zc_11 (List.mem_of_getElem? (i := 11) rfl)
theorem zm_342 : Cond.fieldLink R_Model 27 "LayoutFrontModel" "column" "[I" ∈ wz := zc_11 (List.mem_of_getElem? (i := 12) rfl)
theorem zm_343 : Cond.fieldLink R_Model 30 "LayoutFrontModel" "leads" "[Z" ∈ wz := zc_11 (List.mem_of_getElem? (i := 13) rfl)
theorem zm_344 : Cond.fieldLink R_Model 34 "LayoutFrontModel" "row" "[I" ∈ wz := zc_11 (List.mem_of_getElem? (i := 14) rfl)
theorem zm_345 : Cond.fieldLink R_Model 37 "LayoutFrontModel" "sort" "[I" ∈ wz := zc_11 (List.mem_of_getElem? (i := 15) rfl)
theorem zm_346 : Cond.fieldLink R_Model 40 "LayoutFrontModel" "is" "[J" ∈ wz := zc_11 (List.mem_of_getElem? (i := 16) rfl)
theorem zm_347 : Cond.fieldLink R_Model 43 "LayoutFrontModel" "before" "[I" ∈ wz := zc_11 (List.mem_of_getElem? (i := 17) rfl)
theorem zm_348 : Cond.fieldLink R_Model 46 "LayoutFrontModel" "behind" "[I" ∈ wz := zc_11 (List.mem_of_getElem? (i := 18) rfl)
theorem zm_349 : Cond.fieldLink R_Model 49 "LayoutFrontModel" "partner" "[I" ∈ wz := zc_11 (List.mem_of_getElem? (i := 19) rfl)
theorem zm_350 : Cond.fieldLink R_Model 52 "LayoutFrontModel" "done" "[Z" ∈ wz := zc_11 (List.mem_of_getElem? (i := 20) rfl)
theorem zm_351 : Cond.fieldLink R_Model 55 "LayoutFrontModel" "kinds" "[I" ∈ wz := zc_11 (List.mem_of_getElem? (i := 21) rfl)
theorem zm_352 : Cond.fieldLink R_Model 58 "LayoutFrontModel" "values" "[J" ∈ wz := zc_11 (List.mem_of_getElem? (i := 22) rfl)
theorem zm_353 : Cond.fieldLink R_Model 61 "LayoutFrontModel" "names" "[J" ∈ wz := zc_11 (List.mem_of_getElem? (i := 23) rfl)
theorem zm_354 : Cond.fieldLink R_Model 64 "LayoutFrontModel" "sides" "[I" ∈ wz := zc_11 (List.mem_of_getElem? (i := 24) rfl)
theorem zm_355 : Cond.fieldLink R_Model 67 "LayoutFrontModel" "levels" "[I" ∈ wz := zc_11 (List.mem_of_getElem? (i := 25) rfl)
theorem zm_356 : Cond.fieldLink R_Model 70 "LayoutFrontModel" "from" "[I" ∈ wz := zc_11 (List.mem_of_getElem? (i := 26) rfl)
theorem zm_357 : Cond.fieldLink R_Model 73 "LayoutFrontModel" "to" "[I" ∈ wz := zc_11 (List.mem_of_getElem? (i := 27) rfl)
theorem zm_358 : Cond.fieldLink R_Model 76 "LayoutFrontModel" "what" "[I" ∈ wz := zc_11 (List.mem_of_getElem? (i := 28) rfl)
theorem zm_359 : Cond.fieldLink R_Model 79 "LayoutFrontModel" "left" "[I" ∈ wz := zc_11 (List.mem_of_getElem? (i := 29) rfl)
theorem zm_360 : Cond.fieldLink R_Model 82 "LayoutFrontModel" "right" "[I" ∈ wz := zc_12 (List.mem_of_getElem? (i := 0) rfl)
theorem zm_361 : Cond.fieldLink R_Model 85 "LayoutFrontModel" "waits" "[I" ∈ wz := zc_12 (List.mem_of_getElem? (i := 1) rfl)
theorem zm_362 : Cond.fieldLink R_Model 88 "LayoutFrontModel" "opens" "[I" ∈ wz := zc_12 (List.mem_of_getElem? (i := 2) rfl)
theorem zm_363 : Cond.fieldLink R_Model 91 "LayoutFrontModel" "closes" "[I" ∈ wz := zc_12 (List.mem_of_getElem? (i := 3) rfl)
theorem zm_364 : Cond.fieldLink R_Model 94 "LayoutFrontModel" "waitsFor" "[I" ∈ wz := zc_12 (List.mem_of_getElem? (i := 4) rfl)
theorem zm_365 : Cond.fieldLink R_Model 120 "LayoutFrontModel" "at" "I" ∈ wz := zc_12 (List.mem_of_getElem? (i := 5) rfl)
theorem zm_366 : Cond.fieldLink R_Model 144 "LayoutFrontModel" "lexemes" "I" ∈ wz := zc_12 (List.mem_of_getElem? (i := 6) rfl)
theorem zm_367 : Cond.fieldLink R_Model 110 "LayoutFrontModel" "length" "I" ∈ wz := zc_12 (List.mem_of_getElem? (i := 7) rfl)
theorem zm_368 : Cond.fieldLink R_Model 188 "LayoutFrontModel" "tokens" "I" ∈ wz := zc_12 (List.mem_of_getElem? (i := 8) rfl)
theorem zm_369 : Cond.fieldLink R_Model 191 "LayoutFrontModel" "open" "I" ∈ wz := zc_12 (List.mem_of_getElem? (i := 9) rfl)
theorem zm_370 : Cond.constantLong R_Model 238 123 ∈ wz := zc_12 (List.mem_of_getElem? (i := 10) rfl)
theorem zm_371 : Cond.methodLink R_Model 208 y_Model_emit ∈ wz := zc_12 (List.mem_of_getElem? (i := 11) rfl)
theorem zm_372 : Cond.instanceMethod y_Model_emit ∈ wz := zc_12 (List.mem_of_getElem? (i := 12) rfl)
theorem zm_373 : Cond.selects R_Model y_Model_emit y_Model_emit ∈ wz := zc_12 (List.mem_of_getElem? (i := 13) rfl)
theorem zm_374 : Cond.initialized R_Model ∈ wz := zc_12 (List.mem_of_getElem? (i := 14) rfl)
theorem zm_375 : Cond.code y_Model_emit b_Model_emit 4 none ∈ wz := zc_12 (List.mem_of_getElem? (i := 15) rfl)
theorem zm_376 : Cond.fieldLink R_Model 240 "LayoutFrontModel" "blocks" "I" ∈ wz := zc_12 (List.mem_of_getElem? (i := 16) rfl)
theorem zm_377 : Cond.constantLong R_Model 206 125 ∈ wz := zc_12 (List.mem_of_getElem? (i := 17) rfl)
theorem zm_378 : Cond.methodLink R_Model 197 y_Model_top ∈ wz := zc_12 (List.mem_of_getElem? (i := 18) rfl)
theorem zm_379 : Cond.instanceMethod y_Model_top ∈ wz := zc_12 (List.mem_of_getElem? (i := 19) rfl)
theorem zm_380 : Cond.selects R_Model y_Model_top y_Model_top ∈ wz := zc_12 (List.mem_of_getElem? (i := 20) rfl)
theorem zm_381 : Cond.code y_Model_top b_Model_top 1 (some .int) ∈ wz := zc_12 (List.mem_of_getElem? (i := 21) rfl)
theorem zm_382 : Cond.fieldLink R_Model 194 "LayoutFrontModel" "highest" "I" ∈ wz := zc_12 (List.mem_of_getElem? (i := 22) rfl)
theorem zm_383 : Cond.fieldLink R_Model 123 "LayoutFrontModel" "bad" "I" ∈ wz := zc_12 (List.mem_of_getElem? (i := 23) rfl)
theorem zm_384 : Cond.methodLink R_Model 246 y_Model_begins ∈ wz := zc_12 (List.mem_of_getElem? (i := 24) rfl)
theorem zm_385 : Cond.instanceMethod y_Model_begins ∈ wz := zc_12 (List.mem_of_getElem? (i := 25) rfl)
theorem zm_386 : Cond.selects R_Model y_Model_begins y_Model_begins ∈ wz := zc_12 (List.mem_of_getElem? (i := 26) rfl)
theorem zm_387 : Cond.code y_Model_begins b_Model_begins 3 (some .boolean) ∈ wz := zc_12 (List.mem_of_getElem? (i := 27) rfl)
theorem zm_388 : Cond.methodLink R_Model 249 y_Model_begin ∈ wz := zc_12 (List.mem_of_getElem? (i := 28) rfl)
theorem zm_389 : Cond.instanceMethod y_Model_begin ∈ wz := zc_12 (List.mem_of_getElem? (i := 29) rfl)
theorem zm_390 : Cond.selects R_Model y_Model_begin y_Model_begin ∈ wz := zc_13 (List.mem_of_getElem? (i := 0) rfl)
theorem zm_391 : Cond.code y_Model_begin b_Model_begin 4 none ∈ wz := zc_13 (List.mem_of_getElem? (i := 1) rfl)
theorem zm_392 : Cond.methodLink R_Model 214 y_Model_leave ∈ wz := zc_13 (List.mem_of_getElem? (i := 2) rfl)
theorem zm_393 : Cond.instanceMethod y_Model_leave ∈ wz := zc_13 (List.mem_of_getElem? (i := 3) rfl)
theorem zm_394 : Cond.selects R_Model y_Model_leave y_Model_leave ∈ wz := zc_13 (List.mem_of_getElem? (i := 4) rfl)
theorem zm_395 : Cond.code y_Model_leave b_Model_leave 2 none ∈ wz := zc_13 (List.mem_of_getElem? (i := 5) rfl)
theorem zm_396 : Cond.methodLink R_Model 284 y_Model_plainName ∈ wz := zc_13 (List.mem_of_getElem? (i := 6) rfl)
theorem zm_397 : Cond.instanceMethod y_Model_plainName ∈ wz := zc_13 (List.mem_of_getElem? (i := 7) rfl)
theorem zm_398 : Cond.selects R_Model y_Model_plainName y_Model_plainName ∈ wz := zc_13 (List.mem_of_getElem? (i := 8) rfl)
theorem zm_399 : Cond.code y_Model_plainName b_Model_plainName 2 (some .boolean) ∈ wz := zc_13 (List.mem_of_getElem? (i := 9) rfl)
theorem zm_400 : Cond.methodLink R_Model 290 y_Model_tick ∈ wz := zc_13 (List.mem_of_getElem? (i := 10) rfl)
theorem zm_401 : Cond.instanceMethod y_Model_tick ∈ wz := zc_13 (List.mem_of_getElem? (i := 11) rfl)
theorem zm_402 : Cond.selects R_Model y_Model_tick y_Model_tick ∈ wz := zc_13 (List.mem_of_getElem? (i := 12) rfl)
theorem zm_403 : Cond.code y_Model_tick b_Model_tick 2 (some .boolean) ∈ wz := zc_13 (List.mem_of_getElem? (i := 13) rfl)
theorem zm_404 : Cond.fieldLink R_Model 337 "LayoutFrontModel" "rows" "I" ∈ wz := zc_13 (List.mem_of_getElem? (i := 14) rfl)
theorem zm_405 : Cond.fieldLink R_Model 334 "LayoutFrontModel" "conflicts" "I" ∈ wz := zc_13 (List.mem_of_getElem? (i := 15) rfl)
theorem zm_406 : Cond.methodLink R_Model 340 y_Model_partners ∈ wz := zc_13 (List.mem_of_getElem? (i := 16) rfl)
theorem zm_407 : Cond.instanceMethod y_Model_partners ∈ wz := zc_13 (List.mem_of_getElem? (i := 17) rfl)
theorem zm_408 : Cond.selects R_Model y_Model_partners y_Model_partners ∈ wz := zc_13 (List.mem_of_getElem? (i := 18) rfl)
theorem zm_409 : Cond.code y_Model_partners b_Model_partners 5 none ∈ wz := zc_13 (List.mem_of_getElem? (i := 19) rfl)
theorem zm_410 : Cond.methodLink R_Model 298 y_Model_extent ∈ wz := zc_13 (List.mem_of_getElem? (i := 20) rfl)
theorem zm_411 : Cond.instanceMethod y_Model_extent ∈ wz := zc_13 (List.mem_of_getElem? (i := 21) rfl)
theorem zm_412 : Cond.selects R_Model y_Model_extent y_Model_extent ∈ wz := zc_13 (List.mem_of_getElem? (i := 22) rfl)
theorem zm_413 : Cond.code y_Model_extent b_Model_extent 2 (some .int) ∈ wz := zc_13 (List.mem_of_getElem? (i := 23) rfl)
theorem zm_414 : Cond.fieldLink R_Model 353 "LayoutFrontModel" "all" "I" ∈ wz := zc_13 (List.mem_of_getElem? (i := 24) rfl)
theorem zm_415 : Cond.fieldLink R_Model 97 "LayoutFrontModel" "thrown" "I" ∈ wz := zc_13 (List.mem_of_getElem? (i := 25) rfl)
theorem zm_416 : Cond.methodLink R_Model 356 y_Model_cut ∈ wz := zc_13 (List.mem_of_getElem? (i := 26) rfl)
theorem zm_417 : Cond.instanceMethod y_Model_cut ∈ wz := zc_13 (List.mem_of_getElem? (i := 27) rfl)
theorem zm_418 : Cond.selects R_Model y_Model_cut y_Model_cut ∈ wz := zc_13 (List.mem_of_getElem? (i := 28) rfl)
theorem zm_419 : Cond.code y_Model_cut b_Model_cut 2 none ∈ wz := zc_13 (List.mem_of_getElem? (i := 29) rfl)
theorem zm_420 : Cond.methodLink R_Model 359 y_Model_lay ∈ wz := zc_14 (List.mem_of_getElem? (i := 0) rfl)
theorem zm_421 : Cond.instanceMethod y_Model_lay ∈ wz := zc_14 (List.mem_of_getElem? (i := 1) rfl)
theorem zm_422 : Cond.selects R_Model y_Model_lay y_Model_lay ∈ wz := zc_14 (List.mem_of_getElem? (i := 2) rfl)
theorem zm_423 : Cond.code y_Model_lay b_Model_lay 2 none ∈ wz := zc_14 (List.mem_of_getElem? (i := 3) rfl)
theorem zm_424 : Cond.methodLink R_Model 362 y_Model_around ∈ wz := zc_14 (List.mem_of_getElem? (i := 4) rfl)
theorem zm_425 : Cond.instanceMethod y_Model_around ∈ wz := zc_14 (List.mem_of_getElem? (i := 5) rfl)
theorem zm_426 : Cond.selects R_Model y_Model_around y_Model_around ∈ wz := zc_14 (List.mem_of_getElem? (i := 6) rfl)
theorem zm_427 : Cond.code y_Model_around b_Model_around 2 none ∈ wz := zc_14 (List.mem_of_getElem? (i := 7) rfl)
theorem zm_428 : Cond.methodLink R_Model 365 y_Model_add ∈ wz := zc_14 (List.mem_of_getElem? (i := 8) rfl)
theorem zm_429 : Cond.instanceMethod y_Model_add ∈ wz := zc_14 (List.mem_of_getElem? (i := 9) rfl)
theorem zm_430 : Cond.selects R_Model y_Model_add y_Model_add ∈ wz := zc_14 (List.mem_of_getElem? (i := 10) rfl)
theorem zm_431 : Cond.code y_Model_add b_Model_add 4 none ∈ wz := zc_14 (List.mem_of_getElem? (i := 11) rfl)
theorem zm_432 : Cond.fieldLink R_Model 368 "LayoutFrontModel" "told" "I" ∈ wz := zc_14 (List.mem_of_getElem? (i := 12) rfl)
theorem zm_433 : Cond.fieldLink R_Model 371 "LayoutFrontModel" "toldBlocks" "I" ∈ wz := zc_14 (List.mem_of_getElem? (i := 13) rfl)
theorem zm_434 : Cond.fieldLink R_Model 374 "LayoutFrontModel" "toldRows" "I" ∈ wz := zc_14 (List.mem_of_getElem? (i := 14) rfl)
theorem zm_435 : Cond.fieldLink R_Model 377 "LayoutFrontModel" "toldConflicts" "I" ∈ wz := zc_14 (List.mem_of_getElem? (i := 15) rfl)
theorem zm_436 : Cond.fieldLink R_Model 380 "LayoutFrontModel" "toldHighest" "I" ∈ wz := zc_14 (List.mem_of_getElem? (i := 16) rfl)
theorem zm_437 : Cond.methodLink R_LF 89 y_Text_clear ∈ wz := zc_14 (List.mem_of_getElem? (i := 17) rfl)
theorem zm_438 : Cond.instanceMethod y_Text_clear ∈ wz := zc_14 (List.mem_of_getElem? (i := 18) rfl)
theorem zm_439 : Cond.selects R_Text y_Text_clear y_Text_clear ∈ wz := zc_14 (List.mem_of_getElem? (i := 19) rfl)
theorem zm_440 : Cond.code y_Text_clear b_Text_clear 1 none ∈ wz := zc_14 (List.mem_of_getElem? (i := 20) rfl)
theorem zm_441 : Cond.methodLink R_Law 21 y_LF_read ∈ wz := zc_14 (List.mem_of_getElem? (i := 21) rfl)
theorem zm_442 : Cond.instanceMethod y_LF_read ∈ wz := zc_14 (List.mem_of_getElem? (i := 22) rfl)
theorem zm_443 : Cond.selects R_LF y_LF_read y_LF_read ∈ wz := zc_14 (List.mem_of_getElem? (i := 23) rfl)
theorem zm_444 : Cond.code y_LF_read b_LF_read 1 (some .int) ∈ wz := zc_14 (List.mem_of_getElem? (i := 24) rfl)
theorem zm_445 : Cond.methodLink R_Law 35 y_LF_count ∈ wz := zc_14 (List.mem_of_getElem? (i := 25) rfl)
theorem zm_446 : Cond.instanceMethod y_LF_count ∈ wz := zc_14 (List.mem_of_getElem? (i := 26) rfl)
theorem zm_447 : Cond.selects R_LF y_LF_count y_LF_count ∈ wz := zc_14 (List.mem_of_getElem? (i := 27) rfl)
theorem zm_448 : Cond.code y_LF_count b_LF_count 2 (some .int) ∈ wz := zc_14 (List.mem_of_getElem? (i := 28) rfl)
theorem zm_449 : Cond.methodLink R_Model 100 y_Model_within ∈ wz := zc_14 (List.mem_of_getElem? (i := 29) rfl)
theorem zm_450 : Cond.static y_Model_within ∈ wz := zc_15 (List.mem_of_getElem? (i := 0) rfl)
theorem zm_451 : Cond.code y_Model_within b_Model_within 3 (some .boolean) ∈ wz := zc_15 (List.mem_of_getElem? (i := 1) rfl)
theorem zm_452 : Cond.methodLink R_Model 104 y_Model_fail ∈ wz := zc_15 (List.mem_of_getElem? (i := 2) rfl)
theorem zm_453 : Cond.instanceMethod y_Model_fail ∈ wz := zc_15 (List.mem_of_getElem? (i := 3) rfl)
theorem zm_454 : Cond.selects R_Model y_Model_fail y_Model_fail ∈ wz := zc_15 (List.mem_of_getElem? (i := 4) rfl)
theorem zm_455 : Cond.code y_Model_fail b_Model_fail 2 (some .int) ∈ wz := zc_15 (List.mem_of_getElem? (i := 5) rfl)
theorem zm_456 : Cond.fieldLink R_Fixities 22 "LayoutFront$Fixities" "size" "I" ∈ wz := zc_15 (List.mem_of_getElem? (i := 6) rfl)
theorem zm_457 : Cond.methodLink R_Fixities 26 y_Fixities_find ∈ wz := zc_15 (List.mem_of_getElem? (i := 7) rfl)
theorem zm_458 : Cond.instanceMethod y_Fixities_find ∈ wz := zc_15 (List.mem_of_getElem? (i := 8) rfl)
theorem zm_459 : Cond.selects R_Fixities y_Fixities_find y_Fixities_find ∈ wz := zc_15 (List.mem_of_getElem? (i := 9) rfl)
theorem zm_460 : Cond.code y_Fixities_find b_Fixities_find 4 (some .int) ∈ wz := zc_15 (List.mem_of_getElem? (i := 10) rfl)
theorem zm_461 : Cond.methodLink R_Fixities 30 Lib.Math.max.name ∈ wz := zc_15 (List.mem_of_getElem? (i := 11) rfl)
theorem zm_462 : Cond.static Lib.Math.max.name ∈ wz := zc_15 (List.mem_of_getElem? (i := 12) rfl)
theorem zm_463 : Cond.initialized "java/lang/Math" ∈ wz := zc_15 (List.mem_of_getElem? (i := 13) rfl)
theorem zm_464 : Cond.code Lib.Math.max.name Lib.Math.max.code 2 (some .int) ∈ wz := zc_15 (List.mem_of_getElem? (i := 14) rfl)
theorem zm_465 : Cond.methodLink R_LF 94 y_Fixities_hasRoomFor ∈ wz := zc_15 (List.mem_of_getElem? (i := 15) rfl)
theorem zm_466 : Cond.instanceMethod y_Fixities_hasRoomFor ∈ wz := zc_15 (List.mem_of_getElem? (i := 16) rfl)
theorem zm_467 : Cond.selects R_Fixities y_Fixities_hasRoomFor y_Fixities_hasRoomFor ∈ wz := zc_15 (List.mem_of_getElem? (i := 17) rfl)
theorem zm_468 : Cond.code y_Fixities_hasRoomFor b_Fixities_hasRoomFor 3 (some .boolean) ∈ wz := zc_15 (List.mem_of_getElem? (i := 18) rfl)
theorem zm_469 : Cond.methodLink R_LF 99 y_Fixities_set ∈ wz := zc_15 (List.mem_of_getElem? (i := 19) rfl)
theorem zm_470 : Cond.instanceMethod y_Fixities_set ∈ wz := zc_15 (List.mem_of_getElem? (i := 20) rfl)
theorem zm_471 : Cond.selects R_Fixities y_Fixities_set y_Fixities_set ∈ wz := zc_15 (List.mem_of_getElem? (i := 21) rfl)
theorem zm_472 : Cond.code y_Fixities_set b_Fixities_set 6 none ∈ wz := zc_15 (List.mem_of_getElem? (i := 22) rfl)
theorem zm_473 : Cond.methodLink R_LF 103 y_Fixities_size ∈ wz := zc_15 (List.mem_of_getElem? (i := 23) rfl)
theorem zm_474 : Cond.instanceMethod y_Fixities_size ∈ wz := zc_15 (List.mem_of_getElem? (i := 24) rfl)
theorem zm_475 : Cond.selects R_Fixities y_Fixities_size y_Fixities_size ∈ wz := zc_15 (List.mem_of_getElem? (i := 25) rfl)
theorem zm_476 : Cond.code y_Fixities_size b_Fixities_size 1 (some .int) ∈ wz := zc_15 (List.mem_of_getElem? (i := 26) rfl)
theorem zm_477 : Cond.methodLink R_Law 17 y_LF_fixity ∈ wz := zc_15 (List.mem_of_getElem? (i := 27) rfl)
theorem zm_478 : Cond.instanceMethod y_LF_fixity ∈ wz := zc_15 (List.mem_of_getElem? (i := 28) rfl)
theorem zm_479 : Cond.selects R_LF y_LF_fixity y_LF_fixity ∈ wz := zc_15 (List.mem_of_getElem? (i := 29) rfl)
theorem zm_480 : Cond.code y_LF_fixity b_LF_fixity 5 (some .int) ∈ wz := zc_16 (List.mem_of_getElem? (i := 0) rfl)
theorem zm_481 : Cond.fieldLink R_Model 113 "LayoutFrontModel" "set" "I" ∈ wz := zc_16 (List.mem_of_getElem? (i := 1) rfl)
theorem zm_482 : Cond.methodLink R_Model 116 y_Model_find ∈ wz := zc_16 (List.mem_of_getElem? (i := 2) rfl)
theorem zm_483 : Cond.instanceMethod y_Model_find ∈ wz := zc_16 (List.mem_of_getElem? (i := 3) rfl)
theorem zm_484 : Cond.selects R_Model y_Model_find y_Model_find ∈ wz := zc_16 (List.mem_of_getElem? (i := 4) rfl)
theorem zm_485 : Cond.code y_Model_find b_Model_find 5 (some .int) ∈ wz := zc_16 (List.mem_of_getElem? (i := 5) rfl)
theorem zm_486 : Cond.methodLink R_LF 158 y_Tokens_has ∈ wz := zc_16 (List.mem_of_getElem? (i := 6) rfl)
theorem zm_487 : Cond.classLink R_LF 161 xIOB ∈ wz := zc_16 (List.mem_of_getElem? (i := 7) rfl)
theorem zm_488 : Cond.instantiable xIOB 6 ∈ wz := zc_16 (List.mem_of_getElem? (i := 8) rfl)
theorem zm_489 : Cond.initialized xIOB ∈ wz := zc_16 (List.mem_of_getElem? (i := 9) rfl)
theorem zm_490 : Cond.classLink R_LF 65 xIAE ∈ wz := zc_16 (List.mem_of_getElem? (i := 10) rfl)
theorem zm_491 : Cond.instantiable xIAE 6 ∈ wz := zc_16 (List.mem_of_getElem? (i := 11) rfl)
theorem zm_492 : Cond.initialized xIAE ∈ wz := zc_16 (List.mem_of_getElem? (i := 12) rfl)
theorem zm_493 : Cond.methodLink R_Law 25 y_LF_kind ∈ wz := zc_16 (List.mem_of_getElem? (i := 13) rfl)
theorem zm_494 : Cond.instanceMethod y_LF_kind ∈ wz := zc_16 (List.mem_of_getElem? (i := 14) rfl)
theorem zm_495 : Cond.selects R_LF y_LF_kind y_LF_kind ∈ wz := zc_16 (List.mem_of_getElem? (i := 15) rfl)
theorem zm_496 : Cond.code y_LF_kind b_LF_kind 2 (some .int) ∈ wz := zc_16 (List.mem_of_getElem? (i := 16) rfl)
theorem zm_497 : Cond.classLink R_Law 29 xIOB ∈ wz := zc_16 (List.mem_of_getElem? (i := 17) rfl)
theorem zm_498 : Cond.methodLink R_Law 31 y_LF_token ∈ wz := zc_16 (List.mem_of_getElem? (i := 18) rfl)
theorem zm_499 : Cond.instanceMethod y_LF_token ∈ wz := zc_16 (List.mem_of_getElem? (i := 19) rfl)
theorem zm_500 : Cond.selects R_LF y_LF_token y_LF_token ∈ wz := zc_16 (List.mem_of_getElem? (i := 20) rfl)
theorem zm_501 : Cond.code y_LF_token b_LF_token 2 (some .long) ∈ wz := zc_16 (List.mem_of_getElem? (i := 21) rfl)
theorem zm_502 : Cond.classLink R_Law 13 xIAE ∈ wz := zc_16 (List.mem_of_getElem? (i := 22) rfl)
theorem zm_503 : Cond.methodLink R_LF 61 y_Text_areCharacters ∈ wz := zc_16 (List.mem_of_getElem? (i := 23) rfl)
theorem zm_504 : Cond.static y_Text_areCharacters ∈ wz := zc_16 (List.mem_of_getElem? (i := 24) rfl)
theorem zm_505 : Cond.code y_Text_areCharacters b_Text_areCharacters 5 (some .boolean) ∈ wz := zc_16 (List.mem_of_getElem? (i := 25) rfl)
theorem zm_506 : Cond.methodLink R_LF 72 y_Text_hasRoomFor ∈ wz := zc_16 (List.mem_of_getElem? (i := 26) rfl)
theorem zm_507 : Cond.instanceMethod y_Text_hasRoomFor ∈ wz := zc_16 (List.mem_of_getElem? (i := 27) rfl)
theorem zm_508 : Cond.selects R_Text y_Text_hasRoomFor y_Text_hasRoomFor ∈ wz := zc_16 (List.mem_of_getElem? (i := 28) rfl)
theorem zm_509 : Cond.code y_Text_hasRoomFor b_Text_hasRoomFor 2 (some .boolean) ∈ wz := zc_16 (List.mem_of_getElem? (i := 29) rfl)
theorem zm_510 : Cond.methodLink R_LF 81 y_Text_append ∈ wz := zc_17 (List.mem_of_getElem? (i := 0) rfl)
theorem zm_511 : Cond.instanceMethod y_Text_append ∈ wz := zc_17 (List.mem_of_getElem? (i := 1) rfl)
theorem zm_512 : Cond.selects R_Text y_Text_append y_Text_append ∈ wz := zc_17 (List.mem_of_getElem? (i := 2) rfl)
theorem zm_513 : Cond.code y_Text_append b_Text_append 5 none ∈ wz := zc_17 (List.mem_of_getElem? (i := 3) rfl)
theorem zm_514 : Cond.methodLink R_Text 15 y_Text_byteOf ∈ wz := zc_17 (List.mem_of_getElem? (i := 4) rfl)
theorem zm_515 : Cond.static y_Text_byteOf ∈ wz := zc_17 (List.mem_of_getElem? (i := 5) rfl)
theorem zm_516 : Cond.code y_Text_byteOf b_Text_byteOf 3 (some .int) ∈ wz := zc_17 (List.mem_of_getElem? (i := 6) rfl)
theorem zm_517 : Cond.constantLong R_Model 108 255 ∈ wz := zc_17 (List.mem_of_getElem? (i := 7) rfl)
theorem zm_518 : Cond.methodLink R_Law 7 y_LF_write ∈ wz := zc_17 (List.mem_of_getElem? (i := 8) rfl)
theorem zm_519 : Cond.instanceMethod y_LF_write ∈ wz := zc_17 (List.mem_of_getElem? (i := 9) rfl)
theorem zm_520 : Cond.selects R_LF y_LF_write y_LF_write ∈ wz := zc_17 (List.mem_of_getElem? (i := 10) rfl)
theorem zm_521 : Cond.code y_LF_write b_LF_write 4 (some .int) ∈ wz := zc_17 (List.mem_of_getElem? (i := 11) rfl)
theorem zm_522 : Cond.classLink R_Law 8 R_LF ∈ wz := zc_17 (List.mem_of_getElem? (i := 12) rfl)
theorem zm_523 : Cond.instantiable R_LF 8 ∈ wz := zc_17 (List.mem_of_getElem? (i := 13) rfl)
theorem zm_524 : Cond.methodLink R_Law 38 y_LF_init ∈ wz := zc_17 (List.mem_of_getElem? (i := 14) rfl)
theorem zm_525 : Cond.instanceMethod y_LF_init ∈ wz := zc_17 (List.mem_of_getElem? (i := 15) rfl)
theorem zm_526 : Cond.code y_LF_init b_LF_init 1 none ∈ wz := zc_17 (List.mem_of_getElem? (i := 16) rfl)
theorem zm_527 : Cond.classLink R_Law 39 R_Model ∈ wz := zc_17 (List.mem_of_getElem? (i := 17) rfl)
theorem zm_528 : Cond.instantiable R_Model 50 ∈ wz := zc_17 (List.mem_of_getElem? (i := 18) rfl)
theorem zm_529 : Cond.methodLink R_Law 41 y_Model_init ∈ wz := zc_17 (List.mem_of_getElem? (i := 19) rfl)
theorem zm_530 : Cond.instanceMethod y_Model_init ∈ wz := zc_17 (List.mem_of_getElem? (i := 20) rfl)
theorem zm_531 : Cond.code y_Model_init b_Model_init 1 none ∈ wz := zc_17 (List.mem_of_getElem? (i := 21) rfl)
theorem zm_532 : Cond.constantLong R_Law 42 4294967295 ∈ wz := zc_17 (List.mem_of_getElem? (i := 22) rfl)
theorem zm_533 : Cond.methodLink R_Law 44 y_Law_write ∈ wz := zc_17 (List.mem_of_getElem? (i := 23) rfl)
theorem zm_534 : Cond.static y_Law_write ∈ wz := zc_17 (List.mem_of_getElem? (i := 24) rfl)
theorem zm_535 : Cond.initialized R_Law ∈ wz := zc_17 (List.mem_of_getElem? (i := 25) rfl)
theorem zm_536 : Cond.codeWith y_Law_write b_Law_write 6 (some .int) [(0, 11, 14, 13), (0, 11, 18, 15)] ∈ wz := zc_17 (List.mem_of_getElem? (i := 26) rfl)
theorem zm_537 : Cond.methodLink R_Law 49 y_Model_write ∈ wz := zc_17 (List.mem_of_getElem? (i := 27) rfl)
theorem zm_538 : Cond.instanceMethod y_Model_write ∈ wz := zc_17 (List.mem_of_getElem? (i := 28) rfl)
theorem zm_539 : Cond.selects R_Model y_Model_write y_Model_write ∈ wz := zc_17 (List.mem_of_getElem? (i := 29) rfl)
theorem zm_540 : Cond.code y_Model_write b_Model_write 7 (some .int) ∈ wz := zc_18 (List.mem_of_getElem? (i := 0) rfl)
theorem zm_541 : Cond.methodLink R_Law 50 y_Model_thrown ∈ wz := zc_18 (List.mem_of_getElem? (i := 1) rfl)
theorem zm_542 : Cond.instanceMethod y_Model_thrown ∈ wz := zc_18 (List.mem_of_getElem? (i := 2) rfl)
theorem zm_543 : Cond.selects R_Model y_Model_thrown y_Model_thrown ∈ wz := zc_18 (List.mem_of_getElem? (i := 3) rfl)
theorem zm_544 : Cond.code y_Model_thrown b_Model_thrown 1 (some .int) ∈ wz := zc_18 (List.mem_of_getElem? (i := 4) rfl)
theorem zm_545 : Cond.methodLink R_Law 53 y_LF_erase ∈ wz := zc_18 (List.mem_of_getElem? (i := 5) rfl)
theorem zm_546 : Cond.instanceMethod y_LF_erase ∈ wz := zc_18 (List.mem_of_getElem? (i := 6) rfl)
theorem zm_547 : Cond.selects R_LF y_LF_erase y_LF_erase ∈ wz := zc_18 (List.mem_of_getElem? (i := 7) rfl)
theorem zm_548 : Cond.code y_LF_erase b_LF_erase 2 (some .int) ∈ wz := zc_18 (List.mem_of_getElem? (i := 8) rfl)
theorem zm_549 : Cond.methodLink R_Law 56 y_Model_erase ∈ wz := zc_18 (List.mem_of_getElem? (i := 9) rfl)
theorem zm_550 : Cond.instanceMethod y_Model_erase ∈ wz := zc_18 (List.mem_of_getElem? (i := 10) rfl)
theorem zm_551 : Cond.selects R_Model y_Model_erase y_Model_erase ∈ wz := zc_18 (List.mem_of_getElem? (i := 11) rfl)
theorem zm_552 : Cond.code y_Model_erase b_Model_erase 2 (some .int) ∈ wz := zc_18 (List.mem_of_getElem? (i := 12) rfl)
theorem zm_553 : Cond.methodLink R_Law 57 y_Law_fixity ∈ wz := zc_18 (List.mem_of_getElem? (i := 13) rfl)
theorem zm_554 : Cond.static y_Law_fixity ∈ wz := zc_18 (List.mem_of_getElem? (i := 14) rfl)
theorem zm_555 : Cond.codeWith y_Law_fixity b_Law_fixity 7 (some .int) [(0, 13, 16, 13), (0, 13, 20, 15)] ∈ wz := zc_18 (List.mem_of_getElem? (i := 15) rfl)
theorem zm_556 : Cond.methodLink R_Law 60 y_Model_fixity ∈ wz := zc_18 (List.mem_of_getElem? (i := 16) rfl)
theorem zm_557 : Cond.instanceMethod y_Model_fixity ∈ wz := zc_18 (List.mem_of_getElem? (i := 17) rfl)
theorem zm_558 : Cond.selects R_Model y_Model_fixity y_Model_fixity ∈ wz := zc_18 (List.mem_of_getElem? (i := 18) rfl)
theorem zm_559 : Cond.code y_Model_fixity b_Model_fixity 6 (some .int) ∈ wz := zc_18 (List.mem_of_getElem? (i := 19) rfl)
theorem zm_560 : Cond.methodLink R_Law 61 y_Law_read ∈ wz := zc_18 (List.mem_of_getElem? (i := 20) rfl)
theorem zm_561 : Cond.static y_Law_read ∈ wz := zc_18 (List.mem_of_getElem? (i := 21) rfl)
theorem zm_562 : Cond.codeWith y_Law_read b_Law_read 3 (some .int) [(0, 8, 11, 13), (0, 8, 14, 15)] ∈ wz := zc_18 (List.mem_of_getElem? (i := 22) rfl)
theorem zm_563 : Cond.methodLink R_Law 64 y_Model_read ∈ wz := zc_18 (List.mem_of_getElem? (i := 23) rfl)
theorem zm_564 : Cond.instanceMethod y_Model_read ∈ wz := zc_18 (List.mem_of_getElem? (i := 24) rfl)
theorem zm_565 : Cond.selects R_Model y_Model_read y_Model_read ∈ wz := zc_18 (List.mem_of_getElem? (i := 25) rfl)
theorem zm_566 : Cond.code y_Model_read b_Model_read 3 (some .int) ∈ wz := zc_18 (List.mem_of_getElem? (i := 26) rfl)
theorem zm_567 : Cond.methodLink R_Law 65 y_LF_place ∈ wz := zc_18 (List.mem_of_getElem? (i := 27) rfl)
theorem zm_568 : Cond.instanceMethod y_LF_place ∈ wz := zc_18 (List.mem_of_getElem? (i := 28) rfl)
theorem zm_569 : Cond.selects R_LF y_LF_place y_LF_place ∈ wz := zc_18 (List.mem_of_getElem? (i := 29) rfl)
theorem zm_570 : Cond.code y_LF_place b_LF_place 1 (some .int) ∈ wz := zc_19 (List.mem_of_getElem? (i := 0) rfl)
theorem zm_571 : Cond.methodLink R_Law 68 y_Model_place ∈ wz := zc_19 (List.mem_of_getElem? (i := 1) rfl)
theorem zm_572 : Cond.instanceMethod y_Model_place ∈ wz := zc_19 (List.mem_of_getElem? (i := 2) rfl)
theorem zm_573 : Cond.selects R_Model y_Model_place y_Model_place ∈ wz := zc_19 (List.mem_of_getElem? (i := 3) rfl)
theorem zm_574 : Cond.code y_Model_place b_Model_place 1 (some .int) ∈ wz := zc_19 (List.mem_of_getElem? (i := 4) rfl)
theorem zm_575 : Cond.methodLink R_Law 69 y_Law_kind ∈ wz := zc_19 (List.mem_of_getElem? (i := 5) rfl)
theorem zm_576 : Cond.static y_Law_kind ∈ wz := zc_19 (List.mem_of_getElem? (i := 6) rfl)
theorem zm_577 : Cond.codeWith y_Law_kind b_Law_kind 4 (some .int) [(0, 9, 12, 29)] ∈ wz := zc_19 (List.mem_of_getElem? (i := 7) rfl)
theorem zm_578 : Cond.methodLink R_Law 72 y_Model_kind ∈ wz := zc_19 (List.mem_of_getElem? (i := 8) rfl)
theorem zm_579 : Cond.instanceMethod y_Model_kind ∈ wz := zc_19 (List.mem_of_getElem? (i := 9) rfl)
theorem zm_580 : Cond.selects R_Model y_Model_kind y_Model_kind ∈ wz := zc_19 (List.mem_of_getElem? (i := 10) rfl)
theorem zm_581 : Cond.code y_Model_kind b_Model_kind 2 (some .int) ∈ wz := zc_19 (List.mem_of_getElem? (i := 11) rfl)
theorem zm_582 : Cond.methodLink R_Law 73 y_Law_token ∈ wz := zc_19 (List.mem_of_getElem? (i := 12) rfl)
theorem zm_583 : Cond.static y_Law_token ∈ wz := zc_19 (List.mem_of_getElem? (i := 13) rfl)
theorem zm_584 : Cond.codeWith y_Law_token b_Law_token 4 (some .int) [(0, 8, 11, 29)] ∈ wz := zc_19 (List.mem_of_getElem? (i := 14) rfl)
theorem zm_585 : Cond.methodLink R_Law 75 y_Model_token ∈ wz := zc_19 (List.mem_of_getElem? (i := 15) rfl)
theorem zm_586 : Cond.instanceMethod y_Model_token ∈ wz := zc_19 (List.mem_of_getElem? (i := 16) rfl)
theorem zm_587 : Cond.selects R_Model y_Model_token y_Model_token ∈ wz := zc_19 (List.mem_of_getElem? (i := 17) rfl)
theorem zm_588 : Cond.code y_Model_token b_Model_token 2 (some .long) ∈ wz := zc_19 (List.mem_of_getElem? (i := 18) rfl)
theorem zm_589 : Cond.methodLink R_Law 76 y_Law_count ∈ wz := zc_19 (List.mem_of_getElem? (i := 19) rfl)
theorem zm_590 : Cond.static y_Law_count ∈ wz := zc_19 (List.mem_of_getElem? (i := 20) rfl)
theorem zm_591 : Cond.codeWith y_Law_count b_Law_count 4 (some .int) [(0, 9, 12, 29)] ∈ wz := zc_19 (List.mem_of_getElem? (i := 21) rfl)
theorem zm_592 : Cond.methodLink R_Law 78 y_Model_count ∈ wz := zc_19 (List.mem_of_getElem? (i := 22) rfl)
theorem zm_593 : Cond.instanceMethod y_Model_count ∈ wz := zc_19 (List.mem_of_getElem? (i := 23) rfl)
theorem zm_594 : Cond.selects R_Model y_Model_count y_Model_count ∈ wz := zc_19 (List.mem_of_getElem? (i := 24) rfl)
theorem zm_595 : Cond.code y_Model_count b_Model_count 2 (some .int) ∈ wz := zc_19 (List.mem_of_getElem? (i := 25) rfl)
theorem zm_596 : Cond.laysFinal R_LF "LayoutFront" "text" "LLayoutFront$Text;" ∈ wz := zc_19 (List.mem_of_getElem? (i := 26) rfl)
theorem zm_597 : Cond.laysFinal R_LF "LayoutFront" "fixities" "LLayoutFront$Fixities;" ∈ wz := zc_19 (List.mem_of_getElem? (i := 27) rfl)
theorem zm_598 : Cond.laysFinal R_LF "LayoutFront" "cutter" "LLayoutFront$Cutter;" ∈ wz := zc_19 (List.mem_of_getElem? (i := 28) rfl)
theorem zm_599 : Cond.laysFinal R_LF "LayoutFront" "blocks" "LLayoutFront$Blocks;" ∈ wz := zc_19 (List.mem_of_getElem? (i := 29) rfl)
theorem zm_600 : Cond.laysFinal R_LF "LayoutFront" "rows" "LLayoutFront$Rows;" ∈ wz := zc_20 (List.mem_of_getElem? (i := 0) rfl)
theorem zm_601 : Cond.laysFinal R_LF "LayoutFront" "tokens" "LLayoutFront$Tokens;" ∈ wz := zc_20 (List.mem_of_getElem? (i := 1) rfl)
theorem zm_602 : Cond.laysFinal R_LF "LayoutFront" "counts" "[I" ∈ wz := zc_20 (List.mem_of_getElem? (i := 2) rfl)
theorem zm_603 : Cond.lays R_LF "LayoutFront" "wrongPlace" "I" ∈ wz := zc_20 (List.mem_of_getElem? (i := 3) rfl)
theorem zm_604 : Cond.lays R_Model "LayoutFrontModel" "thrown" "I" ∈ wz := zc_20 (List.mem_of_getElem? (i := 4) rfl)
theorem zm_605 : Cond.lays R_Model "LayoutFrontModel" "length" "I" ∈ wz := zc_20 (List.mem_of_getElem? (i := 5) rfl)
theorem zm_606 : Cond.laysFinal R_Model "LayoutFrontModel" "text" "[I" ∈ wz := zc_20 (List.mem_of_getElem? (i := 6) rfl)
theorem zm_607 : Cond.lays R_Model "LayoutFrontModel" "bad" "I" ∈ wz := zc_20 (List.mem_of_getElem? (i := 7) rfl)
theorem zm_608 : Cond.lays R_Model "LayoutFrontModel" "place" "I" ∈ wz := zc_20 (List.mem_of_getElem? (i := 8) rfl)
theorem zm_609 : Cond.lays R_Model "LayoutFrontModel" "at" "I" ∈ wz := zc_20 (List.mem_of_getElem? (i := 9) rfl)
theorem zm_610 : Cond.lays R_Model "LayoutFrontModel" "lexemes" "I" ∈ wz := zc_20 (List.mem_of_getElem? (i := 10) rfl)
theorem zm_611 : Cond.laysFinal R_Model "LayoutFrontModel" "kind" "[I" ∈ wz := zc_20 (List.mem_of_getElem? (i := 11) rfl)
theorem zm_612 : Cond.laysFinal R_Model "LayoutFrontModel" "value" "[J" ∈ wz := zc_20 (List.mem_of_getElem? (i := 12) rfl)
theorem zm_613 : Cond.laysFinal R_Model "LayoutFrontModel" "where" "[I" ∈ wz := zc_20 (List.mem_of_getElem? (i := 13) rfl)
theorem zm_614 : Cond.laysFinal R_Model "LayoutFrontModel" "column" "[I" ∈ wz := zc_20 (List.mem_of_getElem? (i := 14) rfl)
theorem zm_615 : Cond.laysFinal R_Model "LayoutFrontModel" "leads" "[Z" ∈ wz := zc_20 (List.mem_of_getElem? (i := 15) rfl)
theorem zm_616 : Cond.lays R_Model "LayoutFrontModel" "open" "I" ∈ wz := zc_20 (List.mem_of_getElem? (i := 16) rfl)
theorem zm_617 : Cond.lays R_Model "LayoutFrontModel" "highest" "I" ∈ wz := zc_20 (List.mem_of_getElem? (i := 17) rfl)
theorem zm_618 : Cond.laysFinal R_Model "LayoutFrontModel" "row" "[I" ∈ wz := zc_20 (List.mem_of_getElem? (i := 18) rfl)
theorem zm_619 : Cond.lays R_Model "LayoutFrontModel" "tokens" "I" ∈ wz := zc_20 (List.mem_of_getElem? (i := 19) rfl)
theorem zm_620 : Cond.lays R_Model "LayoutFrontModel" "blocks" "I" ∈ wz := zc_20 (List.mem_of_getElem? (i := 20) rfl)
theorem zm_621 : Cond.laysFinal R_Model "LayoutFrontModel" "sort" "[I" ∈ wz := zc_20 (List.mem_of_getElem? (i := 21) rfl)
theorem zm_622 : Cond.laysFinal R_Model "LayoutFrontModel" "is" "[J" ∈ wz := zc_20 (List.mem_of_getElem? (i := 22) rfl)
theorem zm_623 : Cond.laysFinal R_Model "LayoutFrontModel" "before" "[I" ∈ wz := zc_20 (List.mem_of_getElem? (i := 23) rfl)
theorem zm_624 : Cond.laysFinal R_Model "LayoutFrontModel" "behind" "[I" ∈ wz := zc_20 (List.mem_of_getElem? (i := 24) rfl)
theorem zm_625 : Cond.laysFinal R_Model "LayoutFrontModel" "partner" "[I" ∈ wz := zc_20 (List.mem_of_getElem? (i := 25) rfl)
theorem zm_626 : Cond.laysFinal R_Model "LayoutFrontModel" "done" "[Z" ∈ wz := zc_20 (List.mem_of_getElem? (i := 26) rfl)
theorem zm_627 : Cond.lays R_Model "LayoutFrontModel" "all" "I" ∈ wz := zc_20 (List.mem_of_getElem? (i := 27) rfl)
theorem zm_628 : Cond.laysFinal R_Model "LayoutFrontModel" "kinds" "[I" ∈ wz := zc_20 (List.mem_of_getElem? (i := 28) rfl)
theorem zm_629 : Cond.laysFinal R_Model "LayoutFrontModel" "values" "[J" ∈ wz := zc_20 (List.mem_of_getElem? (i := 29) rfl)
theorem zm_630 : Cond.lays R_Model "LayoutFrontModel" "told" "I" ∈ wz := zc_21 (List.mem_of_getElem? (i := 0) rfl)
theorem zm_631 : Cond.lays R_Model "LayoutFrontModel" "toldBlocks" "I" ∈ wz := zc_21 (List.mem_of_getElem? (i := 1) rfl)
theorem zm_632 : Cond.lays R_Model "LayoutFrontModel" "toldRows" "I" ∈ wz := zc_21 (List.mem_of_getElem? (i := 2) rfl)
theorem zm_633 : Cond.lays R_Model "LayoutFrontModel" "toldConflicts" "I" ∈ wz := zc_21 (List.mem_of_getElem? (i := 3) rfl)
theorem zm_634 : Cond.lays R_Model "LayoutFrontModel" "toldHighest" "I" ∈ wz := zc_21 (List.mem_of_getElem? (i := 4) rfl)
theorem zm_635 : Cond.lays R_Model "LayoutFrontModel" "set" "I" ∈ wz := zc_21 (List.mem_of_getElem? (i := 5) rfl)
theorem zm_636 : Cond.laysFinal R_Model "LayoutFrontModel" "names" "[J" ∈ wz := zc_21 (List.mem_of_getElem? (i := 6) rfl)
theorem zm_637 : Cond.laysFinal R_Model "LayoutFrontModel" "sides" "[I" ∈ wz := zc_21 (List.mem_of_getElem? (i := 7) rfl)
theorem zm_638 : Cond.laysFinal R_Model "LayoutFrontModel" "levels" "[I" ∈ wz := zc_21 (List.mem_of_getElem? (i := 8) rfl)
theorem zm_639 : Cond.lays R_Model "LayoutFrontModel" "items" "I" ∈ wz := zc_21 (List.mem_of_getElem? (i := 9) rfl)
theorem zm_640 : Cond.lays R_Model "LayoutFrontModel" "operands" "I" ∈ wz := zc_21 (List.mem_of_getElem? (i := 10) rfl)
theorem zm_641 : Cond.lays R_Model "LayoutFrontModel" "waiting" "I" ∈ wz := zc_21 (List.mem_of_getElem? (i := 11) rfl)
theorem zm_642 : Cond.lays R_Model "LayoutFrontModel" "pairs" "I" ∈ wz := zc_21 (List.mem_of_getElem? (i := 12) rfl)
theorem zm_643 : Cond.lays R_Model "LayoutFrontModel" "rows" "I" ∈ wz := zc_21 (List.mem_of_getElem? (i := 13) rfl)
theorem zm_644 : Cond.lays R_Model "LayoutFrontModel" "conflicts" "I" ∈ wz := zc_21 (List.mem_of_getElem? (i := 14) rfl)
theorem zm_645 : Cond.laysFinal R_Model "LayoutFrontModel" "from" "[I" ∈ wz := zc_21 (List.mem_of_getElem? (i := 15) rfl)
theorem zm_646 : Cond.laysFinal R_Model "LayoutFrontModel" "to" "[I" ∈ wz := zc_21 (List.mem_of_getElem? (i := 16) rfl)
theorem zm_647 : Cond.laysFinal R_Model "LayoutFrontModel" "what" "[I" ∈ wz := zc_21 (List.mem_of_getElem? (i := 17) rfl)
theorem zm_648 : Cond.laysFinal R_Model "LayoutFrontModel" "left" "[I" ∈ wz := zc_21 (List.mem_of_getElem? (i := 18) rfl)
theorem zm_649 : Cond.laysFinal R_Model "LayoutFrontModel" "right" "[I" ∈ wz := zc_21 (List.mem_of_getElem? (i := 19) rfl)
theorem zm_650 : Cond.laysFinal R_Model "LayoutFrontModel" "waits" "[I" ∈ wz := zc_21 (List.mem_of_getElem? (i := 20) rfl)
theorem zm_651 : Cond.laysFinal R_Model "LayoutFrontModel" "opens" "[I" ∈ wz := zc_21 (List.mem_of_getElem? (i := 21) rfl)
theorem zm_652 : Cond.laysFinal R_Model "LayoutFrontModel" "closes" "[I" ∈ wz := zc_21 (List.mem_of_getElem? (i := 22) rfl)
theorem zm_653 : Cond.laysFinal R_Model "LayoutFrontModel" "waitsFor" "[I" ∈ wz := zc_21 (List.mem_of_getElem? (i := 23) rfl)
theorem zm_654 : Cond.laysFinal R_Blocks "LayoutFront$Blocks" "open" "LLayoutFront$Open;" ∈ wz := zc_21 (List.mem_of_getElem? (i := 24) rfl)
theorem zm_655 : Cond.laysFinal R_Blocks "LayoutFront$Blocks" "laid" "LLayoutFront$Tokens;" ∈ wz := zc_21 (List.mem_of_getElem? (i := 25) rfl)
theorem zm_656 : Cond.lays R_Blocks "LayoutFront$Blocks" "begun" "I" ∈ wz := zc_21 (List.mem_of_getElem? (i := 26) rfl)
theorem zm_657 : Cond.laysFinal R_Cutter "LayoutFront$Cutter" "lexemes" "LLayoutFront$Lexemes;" ∈ wz := zc_21 (List.mem_of_getElem? (i := 27) rfl)
theorem zm_658 : Cond.lays R_Cutter "LayoutFront$Cutter" "at" "I" ∈ wz := zc_21 (List.mem_of_getElem? (i := 28) rfl)
theorem zm_659 : Cond.lays R_Cutter "LayoutFront$Cutter" "lineStart" "I" ∈ wz := zc_21 (List.mem_of_getElem? (i := 29) rfl)
theorem zm_660 : Cond.lays R_Cutter "LayoutFront$Cutter" "lineIsFresh" "Z" ∈ wz := zc_22 (List.mem_of_getElem? (i := 0) rfl)
theorem zm_661 : Cond.lays R_Cutter "LayoutFront$Cutter" "wrongPlace" "I" ∈ wz := zc_22 (List.mem_of_getElem? (i := 1) rfl)
theorem zm_662 : Cond.lays R_Cutter "LayoutFront$Cutter" "tooMany" "Z" ∈ wz := zc_22 (List.mem_of_getElem? (i := 2) rfl)
theorem zm_663 : Cond.laysFinal R_Fixities "LayoutFront$Fixities" "names" "[J" ∈ wz := zc_22 (List.mem_of_getElem? (i := 3) rfl)
theorem zm_664 : Cond.laysFinal R_Fixities "LayoutFront$Fixities" "sides" "[I" ∈ wz := zc_22 (List.mem_of_getElem? (i := 4) rfl)
theorem zm_665 : Cond.laysFinal R_Fixities "LayoutFront$Fixities" "levels" "[I" ∈ wz := zc_22 (List.mem_of_getElem? (i := 5) rfl)
theorem zm_666 : Cond.lays R_Fixities "LayoutFront$Fixities" "size" "I" ∈ wz := zc_22 (List.mem_of_getElem? (i := 6) rfl)
theorem zm_667 : Cond.laysFinal R_Lexemes "LayoutFront$Lexemes" "tokens" "LLayoutFront$Tokens;" ∈ wz := zc_22 (List.mem_of_getElem? (i := 7) rfl)
theorem zm_668 : Cond.laysFinal R_Lexemes "LayoutFront$Lexemes" "places" "[I" ∈ wz := zc_22 (List.mem_of_getElem? (i := 8) rfl)
theorem zm_669 : Cond.laysFinal R_Lexemes "LayoutFront$Lexemes" "columns" "[I" ∈ wz := zc_22 (List.mem_of_getElem? (i := 9) rfl)
theorem zm_670 : Cond.laysFinal R_Lexemes "LayoutFront$Lexemes" "lineFirsts" "[Z" ∈ wz := zc_22 (List.mem_of_getElem? (i := 10) rfl)
theorem zm_671 : Cond.laysFinal R_Open "LayoutFront$Open" "things" "[I" ∈ wz := zc_22 (List.mem_of_getElem? (i := 11) rfl)
theorem zm_672 : Cond.lays R_Open "LayoutFront$Open" "size" "I" ∈ wz := zc_22 (List.mem_of_getElem? (i := 12) rfl)
theorem zm_673 : Cond.lays R_Open "LayoutFront$Open" "most" "I" ∈ wz := zc_22 (List.mem_of_getElem? (i := 13) rfl)
theorem zm_674 : Cond.laysFinal R_Resolver "LayoutFront$Resolver" "pairFirsts" "[I" ∈ wz := zc_22 (List.mem_of_getElem? (i := 14) rfl)
theorem zm_675 : Cond.laysFinal R_Resolver "LayoutFront$Resolver" "pairLasts" "[I" ∈ wz := zc_22 (List.mem_of_getElem? (i := 15) rfl)
theorem zm_676 : Cond.lays R_Resolver "LayoutFront$Resolver" "pairs" "I" ∈ wz := zc_22 (List.mem_of_getElem? (i := 16) rfl)
theorem zm_677 : Cond.lays R_Resolver "LayoutFront$Resolver" "pairsBefore" "I" ∈ wz := zc_22 (List.mem_of_getElem? (i := 17) rfl)
theorem zm_678 : Cond.laysFinal R_Resolver "LayoutFront$Resolver" "firsts" "[I" ∈ wz := zc_22 (List.mem_of_getElem? (i := 18) rfl)
theorem zm_679 : Cond.laysFinal R_Resolver "LayoutFront$Resolver" "lasts" "[I" ∈ wz := zc_22 (List.mem_of_getElem? (i := 19) rfl)
theorem zm_680 : Cond.lays R_Resolver "LayoutFront$Resolver" "operands" "I" ∈ wz := zc_22 (List.mem_of_getElem? (i := 20) rfl)
theorem zm_681 : Cond.laysFinal R_Resolver "LayoutFront$Resolver" "levels" "[I" ∈ wz := zc_22 (List.mem_of_getElem? (i := 21) rfl)
theorem zm_682 : Cond.laysFinal R_Resolver "LayoutFront$Resolver" "sides" "[I" ∈ wz := zc_22 (List.mem_of_getElem? (i := 22) rfl)
theorem zm_683 : Cond.laysFinal R_Resolver "LayoutFront$Resolver" "minusPlaces" "[I" ∈ wz := zc_22 (List.mem_of_getElem? (i := 23) rfl)
theorem zm_684 : Cond.lays R_Resolver "LayoutFront$Resolver" "waiting" "I" ∈ wz := zc_22 (List.mem_of_getElem? (i := 24) rfl)
theorem zm_685 : Cond.laysFinal R_Row "LayoutFront$Row" "parts" "[I" ∈ wz := zc_22 (List.mem_of_getElem? (i := 25) rfl)
theorem zm_686 : Cond.laysFinal R_Row "LayoutFront$Row" "firsts" "[I" ∈ wz := zc_22 (List.mem_of_getElem? (i := 26) rfl)
theorem zm_687 : Cond.laysFinal R_Row "LayoutFront$Row" "lasts" "[I" ∈ wz := zc_22 (List.mem_of_getElem? (i := 27) rfl)
theorem zm_688 : Cond.lays R_Row "LayoutFront$Row" "size" "I" ∈ wz := zc_22 (List.mem_of_getElem? (i := 28) rfl)
theorem zm_689 : Cond.lays R_Row "LayoutFront$Row" "operates" "Z" ∈ wz := zc_22 (List.mem_of_getElem? (i := 29) rfl)
theorem zm_690 : Cond.lays R_Row "LayoutFront$Row" "lacksOperand" "Z" ∈ wz := zc_23 (List.mem_of_getElem? (i := 0) rfl)
theorem zm_691 : Cond.laysFinal R_Rows "LayoutFront$Rows" "closers" "[I" ∈ wz := zc_23 (List.mem_of_getElem? (i := 1) rfl)
theorem zm_692 : Cond.laysFinal R_Rows "LayoutFront$Rows" "openers" "[I" ∈ wz := zc_23 (List.mem_of_getElem? (i := 2) rfl)
theorem zm_693 : Cond.laysFinal R_Rows "LayoutFront$Rows" "opened" "[I" ∈ wz := zc_23 (List.mem_of_getElem? (i := 3) rfl)
theorem zm_694 : Cond.laysFinal R_Rows "LayoutFront$Rows" "closed" "[I" ∈ wz := zc_23 (List.mem_of_getElem? (i := 4) rfl)
theorem zm_695 : Cond.laysFinal R_Rows "LayoutFront$Rows" "row" "LLayoutFront$Row;" ∈ wz := zc_23 (List.mem_of_getElem? (i := 5) rfl)
theorem zm_696 : Cond.laysFinal R_Rows "LayoutFront$Rows" "resolver" "LLayoutFront$Resolver;" ∈ wz := zc_23 (List.mem_of_getElem? (i := 6) rfl)
theorem zm_697 : Cond.lays R_Rows "LayoutFront$Rows" "together" "I" ∈ wz := zc_23 (List.mem_of_getElem? (i := 7) rfl)
theorem zm_698 : Cond.lays R_Rows "LayoutFront$Rows" "inConflict" "I" ∈ wz := zc_23 (List.mem_of_getElem? (i := 8) rfl)
theorem zm_699 : Cond.laysFinal R_Text "LayoutFront$Text" "characters" "[C" ∈ wz := zc_23 (List.mem_of_getElem? (i := 9) rfl)
theorem zm_700 : Cond.lays R_Text "LayoutFront$Text" "length" "I" ∈ wz := zc_23 (List.mem_of_getElem? (i := 10) rfl)
theorem zm_701 : Cond.laysFinal R_Tokens "LayoutFront$Tokens" "kinds" "[I" ∈ wz := zc_23 (List.mem_of_getElem? (i := 11) rfl)
theorem zm_702 : Cond.laysFinal R_Tokens "LayoutFront$Tokens" "values" "[J" ∈ wz := zc_23 (List.mem_of_getElem? (i := 12) rfl)
theorem zm_703 : Cond.lays R_Tokens "LayoutFront$Tokens" "size" "I" ∈ wz := zc_23 (List.mem_of_getElem? (i := 13) rfl)
theorem zg_0 : wz_0.all goodWord = true := by decide +kernel
theorem zg_1 : wz_1.all goodWord = true := by decide +kernel
theorem zg_2 : wz_2.all goodWord = true := by decide +kernel
theorem zg_3 : wz_3.all goodWord = true := by decide +kernel
theorem zg_4 : wz_4.all goodWord = true := by decide +kernel
theorem zg_5 : wz_5.all goodWord = true := by decide +kernel
theorem zg_6 : wz_6.all goodWord = true := by decide +kernel
theorem zg_7 : wz_7.all goodWord = true := by decide +kernel
theorem zg_8 : wz_8.all goodWord = true := by decide +kernel
theorem zg_9 : wz_9.all goodWord = true := by decide +kernel
theorem zg_10 : wz_10.all goodWord = true := by decide +kernel
theorem zg_11 : wz_11.all goodWord = true := by decide +kernel
theorem zg_12 : wz_12.all goodWord = true := by decide +kernel
theorem zg_13 : wz_13.all goodWord = true := by decide +kernel
theorem zg_14 : wz_14.all goodWord = true := by decide +kernel
theorem zg_15 : wz_15.all goodWord = true := by decide +kernel
theorem zg_16 : wz_16.all goodWord = true := by decide +kernel
theorem zg_17 : wz_17.all goodWord = true := by decide +kernel
theorem zg_18 : wz_18.all goodWord = true := by decide +kernel
theorem zg_19 : wz_19.all goodWord = true := by decide +kernel
theorem zg_20 : wz_20.all goodWord = true := by decide +kernel
theorem zg_21 : wz_21.all goodWord = true := by decide +kernel
theorem zg_22 : wz_22.all goodWord = true := by decide +kernel
theorem zg_23 : wz_23.all goodWord = true := by decide +kernel
theorem zg_24 : wz_24.all goodWord = true := by decide +kernel
theorem zx {w : Cond} (h : w ∈ xat) (hg : goodWord w = true) : w ∈ wz := zc_24 (List.mem_filter.mpr ⟨h, hg⟩)
theorem zgood : GoodIn wz wz := fun w h => ⟨h, good_of_word (by
  unfold wz at h
  rcases List.mem_append.mp h with h | h
  · exact List.all_eq_true.mp zg_0 w h
  rcases List.mem_append.mp h with h | h
  · exact List.all_eq_true.mp zg_1 w h
  rcases List.mem_append.mp h with h | h
  · exact List.all_eq_true.mp zg_2 w h
  rcases List.mem_append.mp h with h | h
  · exact List.all_eq_true.mp zg_3 w h
  rcases List.mem_append.mp h with h | h
  · exact List.all_eq_true.mp zg_4 w h
  rcases List.mem_append.mp h with h | h
  · exact List.all_eq_true.mp zg_5 w h
  rcases List.mem_append.mp h with h | h
  · exact List.all_eq_true.mp zg_6 w h
  rcases List.mem_append.mp h with h | h
  · exact List.all_eq_true.mp zg_7 w h
  rcases List.mem_append.mp h with h | h
  · exact List.all_eq_true.mp zg_8 w h
  rcases List.mem_append.mp h with h | h
  · exact List.all_eq_true.mp zg_9 w h
  rcases List.mem_append.mp h with h | h
  · exact List.all_eq_true.mp zg_10 w h
  rcases List.mem_append.mp h with h | h
  · exact List.all_eq_true.mp zg_11 w h
  rcases List.mem_append.mp h with h | h
  · exact List.all_eq_true.mp zg_12 w h
  rcases List.mem_append.mp h with h | h
  · exact List.all_eq_true.mp zg_13 w h
  rcases List.mem_append.mp h with h | h
  · exact List.all_eq_true.mp zg_14 w h
  rcases List.mem_append.mp h with h | h
  · exact List.all_eq_true.mp zg_15 w h
  rcases List.mem_append.mp h with h | h
  · exact List.all_eq_true.mp zg_16 w h
  rcases List.mem_append.mp h with h | h
  · exact List.all_eq_true.mp zg_17 w h
  rcases List.mem_append.mp h with h | h
  · exact List.all_eq_true.mp zg_18 w h
  rcases List.mem_append.mp h with h | h
  · exact List.all_eq_true.mp zg_19 w h
  rcases List.mem_append.mp h with h | h
  · exact List.all_eq_true.mp zg_20 w h
  rcases List.mem_append.mp h with h | h
  · exact List.all_eq_true.mp zg_21 w h
  rcases List.mem_append.mp h with h | h
  · exact List.all_eq_true.mp zg_22 w h
  rcases List.mem_append.mp h with h | h
  · exact List.all_eq_true.mp zg_23 w h
  exact List.all_eq_true.mp zg_24 w h)⟩
theorem zI {y : MethodName} {b : ByteArray} {n : Nat} {r : Option FieldType} (h : Cond.code y b n r ∈ wz) : GoodIn wz (Cond.code y b n r :: wz) := fun w hw => (List.mem_cons.mp hw).elim (fun e => by rw [e]; exact zgood _ h) (zgood w)
theorem zV {own C : String} {k n : Nat} {y : MethodName} {b : ByteArray} {r : Option FieldType} (h1 : Cond.methodLink own k y ∈ wz) (h2 : Cond.instanceMethod y ∈ wz) (h3 : Cond.selects C y y ∈ wz) (h4 : Cond.initialized C ∈ wz) (h : Cond.code y b n r ∈ wz) : GoodIn wz (wsV own k C y (Cond.code y b n r :: wz)) := by
  intro w hw
  unfold wsV at hw
  rcases List.mem_append.mp hw with hw | hw
  · simp only [List.mem_cons, List.not_mem_nil, or_false] at hw
    rcases hw with rfl | rfl | rfl | rfl
    · exact zgood _ h1
    · exact zgood _ h2
    · exact zgood _ h3
    · exact zgood _ h4
  · exact zI h w hw
theorem zS {own : String} {k n : Nat} {y : MethodName} {b : ByteArray} {r : Option FieldType} (h1 : Cond.methodLink own k y ∈ wz) (h2 : Cond.static y ∈ wz) (h4 : Cond.initialized own ∈ wz) (h : Cond.code y b n r ∈ wz) : GoodIn wz (wsS own k y (Cond.code y b n r :: wz)) := by
  intro w hw
  unfold wsS at hw
  rcases List.mem_append.mp hw with hw | hw
  · simp only [List.mem_cons, List.not_mem_nil, or_false] at hw
    rcases hw with rfl | rfl | rfl
    · exact zgood _ h1
    · exact zgood _ h2
    · exact zgood _ h4
  · exact zI h w hw
theorem zT {own : String} {k n : Nat} {y : MethodName} {b : ByteArray} {r : Option FieldType} (h1 : Cond.methodLink own k y ∈ wz) (h2 : Cond.static y ∈ wz) (h4 : Cond.initialized y.cls ∈ wz) (h : Cond.code y b n r ∈ wz) : GoodIn wz (va_wsS own k y (Cond.code y b n r :: wz)) := by
  intro w hw
  unfold va_wsS at hw
  rcases List.mem_append.mp hw with hw | hw
  · simp only [List.mem_cons, List.not_mem_nil, or_false] at hw
    rcases hw with rfl | rfl | rfl
    · exact zgood _ h1
    · exact zgood _ h2
    · exact zgood _ h4
  · exact zI h w hw
theorem zu_LF : ∀ w ∈ u_ws R_LF F_LF 8, w ∈ wz := by decide +kernel
theorem zu_Model : ∀ w ∈ u_ws R_Model F_Model 50, w ∈ wz := by decide +kernel
theorem zu_Blocks : ∀ w ∈ u_ws R_Blocks F_Blocks 3, w ∈ wz := by decide +kernel
theorem zu_Cutter : ∀ w ∈ u_ws R_Cutter F_Cutter 6, w ∈ wz := by decide +kernel
theorem zu_Fixities : ∀ w ∈ u_ws R_Fixities F_Fixities 4, w ∈ wz := by decide +kernel
theorem zu_Lexemes : ∀ w ∈ u_ws R_Lexemes F_Lexemes 4, w ∈ wz := by decide +kernel
theorem zu_Open : ∀ w ∈ u_ws R_Open F_Open 3, w ∈ wz := by decide +kernel
theorem zu_Resolver : ∀ w ∈ u_ws R_Resolver F_Resolver 11, w ∈ wz := by decide +kernel
theorem zu_Row : ∀ w ∈ u_ws R_Row F_Row 6, w ∈ wz := by decide +kernel
theorem zu_Rows : ∀ w ∈ u_ws R_Rows F_Rows 8, w ∈ wz := by decide +kernel
theorem zu_Text : ∀ w ∈ u_ws R_Text F_Text 2, w ∈ wz := by decide +kernel
theorem zu_Tokens : ∀ w ∈ u_ws R_Tokens F_Tokens 3, w ∈ wz := by decide +kernel
def w_LF_init : List Cond := .code y_LF_init b_LF_init 1 none :: wz
def w_LF_write : List Cond := .code y_LF_write b_LF_write 4 (some .int) :: wz
def w_LF_erase : List Cond := .code y_LF_erase b_LF_erase 2 (some .int) :: wz
def w_LF_fixity : List Cond := .code y_LF_fixity b_LF_fixity 5 (some .int) :: wz
def w_LF_read : List Cond := .code y_LF_read b_LF_read 1 (some .int) :: wz
def w_LF_keepCounts : List Cond := .code y_LF_keepCounts b_LF_keepCounts 1 none :: wz
def w_LF_place : List Cond := .code y_LF_place b_LF_place 1 (some .int) :: wz
def w_LF_kind : List Cond := .code y_LF_kind b_LF_kind 2 (some .int) :: wz
def w_LF_token : List Cond := .code y_LF_token b_LF_token 2 (some .long) :: wz
def w_LF_count : List Cond := .code y_LF_count b_LF_count 2 (some .int) :: wz
def w_Model_init : List Cond := .code y_Model_init b_Model_init 1 none :: wz
def w_Model_thrown : List Cond := .code y_Model_thrown b_Model_thrown 1 (some .int) :: wz
def w_Model_fail : List Cond := .code y_Model_fail b_Model_fail 2 (some .int) :: wz
def w_Model_within : List Cond := .code y_Model_within b_Model_within 3 (some .boolean) :: wz
def w_Model_write : List Cond := .code y_Model_write b_Model_write 7 (some .int) :: wz
def w_Model_erase : List Cond := .code y_Model_erase b_Model_erase 2 (some .int) :: wz
def w_Model_find : List Cond := .code y_Model_find b_Model_find 5 (some .int) :: wz
def w_Model_fixity : List Cond := .code y_Model_fixity b_Model_fixity 6 (some .int) :: wz
def w_Model_cut : List Cond := .code y_Model_cut b_Model_cut 2 none :: wz
def w_Model_emit : List Cond := .code y_Model_emit b_Model_emit 4 none :: wz
def w_Model_top : List Cond := .code y_Model_top b_Model_top 1 (some .int) :: wz
def w_Model_leave : List Cond := .code y_Model_leave b_Model_leave 2 none :: wz
def w_Model_begins : List Cond := .code y_Model_begins b_Model_begins 3 (some .boolean) :: wz
def w_Model_begin : List Cond := .code y_Model_begin b_Model_begin 4 none :: wz
def w_Model_lay : List Cond := .code y_Model_lay b_Model_lay 2 none :: wz
def w_Model_partners : List Cond := .code y_Model_partners b_Model_partners 5 none :: wz
def w_Model_plainName : List Cond := .code y_Model_plainName b_Model_plainName 2 (some .boolean) :: wz
def w_Model_tick : List Cond := .code y_Model_tick b_Model_tick 2 (some .boolean) :: wz
def w_Model_extent : List Cond := .code y_Model_extent b_Model_extent 2 (some .int) :: wz
def w_Model_around : List Cond := .code y_Model_around b_Model_around 2 none :: wz
def w_Model_add : List Cond := .code y_Model_add b_Model_add 4 none :: wz
def w_Model_read : List Cond := .code y_Model_read b_Model_read 3 (some .int) :: wz
def w_Model_place : List Cond := .code y_Model_place b_Model_place 1 (some .int) :: wz
def w_Model_kind : List Cond := .code y_Model_kind b_Model_kind 2 (some .int) :: wz
def w_Model_token : List Cond := .code y_Model_token b_Model_token 2 (some .long) :: wz
def w_Model_count : List Cond := .code y_Model_count b_Model_count 2 (some .int) :: wz
def w_Blocks_init : List Cond := .code y_Blocks_init b_Blocks_init 1 none :: wz
def w_Blocks_laid : List Cond := .code y_Blocks_laid b_Blocks_laid 1 (some (.object "LayoutFront$Tokens")) :: wz
def w_Blocks_begun : List Cond := .code y_Blocks_begun b_Blocks_begun 1 (some .int) :: wz
def w_Blocks_mostOpen : List Cond := .code y_Blocks_mostOpen b_Blocks_mostOpen 1 (some .int) :: wz
def w_Blocks_lay : List Cond := .code y_Blocks_lay b_Blocks_lay 8 (some .int) :: wz
def w_Blocks_putBefore : List Cond := .code y_Blocks_putBefore b_Blocks_putBefore 3 none :: wz
def w_Blocks_beginsBlock : List Cond := .code y_Blocks_beginsBlock b_Blocks_beginsBlock 2 (some .boolean) :: wz
def w_Blocks_begin : List Cond := .code y_Blocks_begin b_Blocks_begin 2 none :: wz
def w_Blocks_putIn : List Cond := .code y_Blocks_putIn b_Blocks_putIn 2 none :: wz
def w_Blocks_closeBlocks : List Cond := .code y_Blocks_closeBlocks b_Blocks_closeBlocks 3 none :: wz
def w_Cutter_init : List Cond := .code y_Cutter_init b_Cutter_init 1 none :: wz
def w_Cutter_lexemes : List Cond := .code y_Cutter_lexemes b_Cutter_lexemes 1 (some (.object "LayoutFront$Lexemes")) :: wz
def w_Cutter_foundTooMany : List Cond := .code y_Cutter_foundTooMany b_Cutter_foundTooMany 1 (some .boolean) :: wz
def w_Cutter_cut : List Cond := .code y_Cutter_cut b_Cutter_cut 3 (some .int) :: wz
def w_Fixities_init : List Cond := .code y_Fixities_init b_Fixities_init 1 none :: wz
def w_Fixities_size : List Cond := .code y_Fixities_size b_Fixities_size 1 (some .int) :: wz
def w_Fixities_hasRoomFor : List Cond := .code y_Fixities_hasRoomFor b_Fixities_hasRoomFor 3 (some .boolean) :: wz
def w_Fixities_set : List Cond := .code y_Fixities_set b_Fixities_set 6 none :: wz
def w_Fixities_find : List Cond := .code y_Fixities_find b_Fixities_find 4 (some .int) :: wz
def w_Lexemes_init : List Cond := .code y_Lexemes_init b_Lexemes_init 1 none :: wz
def w_Lexemes_clear : List Cond := .code y_Lexemes_clear b_Lexemes_clear 1 none :: wz
def w_Lexemes_size : List Cond := .code y_Lexemes_size b_Lexemes_size 1 (some .int) :: wz
def w_Lexemes_tokens : List Cond := .code y_Lexemes_tokens b_Lexemes_tokens 1 (some (.object "LayoutFront$Tokens")) :: wz
def w_Lexemes_columnAt : List Cond := .code y_Lexemes_columnAt b_Lexemes_columnAt 2 (some .int) :: wz
def w_Open_init : List Cond := .code y_Open_init b_Open_init 1 none :: wz
def w_Open_clear : List Cond := .code y_Open_clear b_Open_clear 1 none :: wz
def w_Open_size : List Cond := .code y_Open_size b_Open_size 1 (some .int) :: wz
def w_Open_most : List Cond := .code y_Open_most b_Open_most 1 (some .int) :: wz
def w_Open_latestColumn : List Cond := .code y_Open_latestColumn b_Open_latestColumn 2 (some .int) :: wz
def w_Resolver_init : List Cond := .code y_Resolver_init b_Resolver_init 1 none :: wz
def w_Resolver_clear : List Cond := .code y_Resolver_clear b_Resolver_clear 1 none :: wz
def w_Resolver_startRow : List Cond := .code y_Resolver_startRow b_Resolver_startRow 1 none :: wz
def w_Resolver_tally : List Cond := .code y_Resolver_tally b_Resolver_tally 6 none :: wz
def w_Row_init : List Cond := .code y_Row_init b_Row_init 1 none :: wz
def w_Row_clear : List Cond := .code y_Row_clear b_Row_clear 1 none :: wz
def w_Row_isWhole : List Cond := .code y_Row_isWhole b_Row_isWhole 1 (some .boolean) :: wz
def w_Rows_init : List Cond := .code y_Rows_init b_Rows_init 1 none :: wz
def w_Rows_together : List Cond := .code y_Rows_together b_Rows_together 1 (some .int) :: wz
def w_Rows_inConflict : List Cond := .code y_Rows_inConflict b_Rows_inConflict 1 (some .int) :: wz
def w_Rows_putTogether : List Cond := .code y_Rows_putTogether b_Rows_putTogether 4 none :: wz
def w_Rows_copyInto : List Cond := .code y_Rows_copyInto b_Rows_copyInto 4 none :: wz
def w_Rows_matchBrackets : List Cond := .code y_Rows_matchBrackets b_Rows_matchBrackets 4 none :: wz
def w_Rows_putLevelTogether : List Cond := .code y_Rows_putLevelTogether b_Rows_putLevelTogether 7 none :: wz
def w_Rows_collectRow : List Cond := .code y_Rows_collectRow b_Rows_collectRow 8 (some .int) :: wz
def w_Rows_behindOperand : List Cond := .code y_Rows_behindOperand b_Rows_behindOperand 3 (some .int) :: wz
def w_Rows_behindOperation : List Cond := .code y_Rows_behindOperation b_Rows_behindOperation 2 (some .int) :: wz
def w_Text_init : List Cond := .code y_Text_init b_Text_init 1 none :: wz
def w_Text_areCharacters : List Cond := .code y_Text_areCharacters b_Text_areCharacters 5 (some .boolean) :: wz
def w_Text_byteOf : List Cond := .code y_Text_byteOf b_Text_byteOf 3 (some .int) :: wz
def w_Text_length : List Cond := .code y_Text_length b_Text_length 1 (some .int) :: wz
def w_Text_hasRoomFor : List Cond := .code y_Text_hasRoomFor b_Text_hasRoomFor 2 (some .boolean) :: wz
def w_Text_append : List Cond := .code y_Text_append b_Text_append 5 none :: wz
def w_Text_clear : List Cond := .code y_Text_clear b_Text_clear 1 none :: wz
def w_Tokens_init : List Cond := .code y_Tokens_init b_Tokens_init 2 none :: wz
def w_Tokens_clear : List Cond := .code y_Tokens_clear b_Tokens_clear 1 none :: wz
def w_Tokens_size : List Cond := .code y_Tokens_size b_Tokens_size 1 (some .int) :: wz
def w_Tokens_add : List Cond := .code y_Tokens_add b_Tokens_add 4 none :: wz
def w_Tokens_addTimes : List Cond := .code y_Tokens_addTimes b_Tokens_addTimes 6 none :: wz
def w_Tokens_has : List Cond := .code y_Tokens_has b_Tokens_has 2 (some .boolean) :: wz
def w_Tokens_kindAt : List Cond := .code y_Tokens_kindAt b_Tokens_kindAt 2 (some .int) :: wz
def w_Tokens_valueAt : List Cond := .code y_Tokens_valueAt b_Tokens_valueAt 2 (some .long) :: wz
def w_Tokens_isSign : List Cond := .code y_Tokens_isSign b_Tokens_isSign 3 (some .boolean) :: wz
def w_Tokens_opensBracket : List Cond := .code y_Tokens_opensBracket b_Tokens_opensBracket 2 (some .boolean) :: wz
def w_Tokens_closesBracket : List Cond := .code y_Tokens_closesBracket b_Tokens_closesBracket 2 (some .boolean) :: wz
def w_Tokens_wordAt : List Cond := .code y_Tokens_wordAt b_Tokens_wordAt 2 (some .int) :: wz
def w_Tokens_isFreeName : List Cond := .code y_Tokens_isFreeName b_Tokens_isFreeName 2 (some .boolean) :: wz
def w_Tokens_isFreeOperator : List Cond := .code y_Tokens_isFreeOperator b_Tokens_isFreeOperator 2 (some .boolean) :: wz
def w_Law_write : List Cond := .codeWith y_Law_write b_Law_write 6 (some .int) [(0, 11, 14, 13), (0, 11, 18, 15)] :: wz
def w_Law_fixity : List Cond := .codeWith y_Law_fixity b_Law_fixity 7 (some .int) [(0, 13, 16, 13), (0, 13, 20, 15)] :: wz
def w_Law_read : List Cond := .codeWith y_Law_read b_Law_read 3 (some .int) [(0, 8, 11, 13), (0, 8, 14, 15)] :: wz
def w_Law_kind : List Cond := .codeWith y_Law_kind b_Law_kind 4 (some .int) [(0, 9, 12, 29)] :: wz
def w_Law_token : List Cond := .codeWith y_Law_token b_Law_token 4 (some .int) [(0, 8, 11, 29)] :: wz
def w_Law_count : List Cond := .codeWith y_Law_count b_Law_count 4 (some .int) [(0, 9, 12, 29)] :: wz
