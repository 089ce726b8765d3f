def R_JS : String := "java/lang/String"
def R_JL : String := "java/lang/StringLatin1"
def R_LF : String := "LayoutFront"
def F_LF : u_T := fun k => match k with
  | 0 => ("LayoutFront", "text", "LLayoutFront$Text;", true)
  | 1 => ("LayoutFront", "fixities", "LLayoutFront$Fixities;", true)
  | 2 => ("LayoutFront", "cutter", "LLayoutFront$Cutter;", true)
  | 3 => ("LayoutFront", "blocks", "LLayoutFront$Blocks;", true)
  | 4 => ("LayoutFront", "rows", "LLayoutFront$Rows;", true)
  | 5 => ("LayoutFront", "tokens", "LLayoutFront$Tokens;", true)
  | 6 => ("LayoutFront", "counts", "[I", true)
  | _ => ("LayoutFront", "wrongPlace", "I", false)
def t_LF : Nat → FieldType := fun k => match k with
  | 0 => .object "LayoutFront$Text"
  | 1 => .object "LayoutFront$Fixities"
  | 2 => .object "LayoutFront$Cutter"
  | 3 => .object "LayoutFront$Blocks"
  | 4 => .object "LayoutFront$Rows"
  | 5 => .object "LayoutFront$Tokens"
  | 6 => .array (.int)
  | _ => .int
theorem n_LF : ∀ a, a < 8 → ∀ b, b < 8 → a ≠ b → (F_LF a).2.1 ≠ (F_LF b).2.1 := by decide +kernel
theorem t_LF_ok : ∀ k, k < 8 → parseFieldDescriptor (F_LF k).2.2.1 = some (t_LF k) := by decide +kernel
theorem df_LF : ∀ j, j < 8 → defaultValue (t_LF j) = vp_V [.null, .null, .null, .null, .null, .null, .null, .int 0] j := by decide +kernel
def R_Model : String := "LayoutFrontModel"
def F_Model : u_T := fun k => match k with
  | 0 => ("LayoutFrontModel", "thrown", "I", false)
  | 1 => ("LayoutFrontModel", "length", "I", false)
  | 2 => ("LayoutFrontModel", "text", "[I", true)
  | 3 => ("LayoutFrontModel", "bad", "I", false)
  | 4 => ("LayoutFrontModel", "place", "I", false)
  | 5 => ("LayoutFrontModel", "at", "I", false)
  | 6 => ("LayoutFrontModel", "lexemes", "I", false)
  | 7 => ("LayoutFrontModel", "kind", "[I", true)
  | 8 => ("LayoutFrontModel", "value", "[J", true)
  | 9 => ("LayoutFrontModel", "where", "[I", true)
  | 10 => ("LayoutFrontModel", "column", "[I", true)
  | 11 => ("LayoutFrontModel", "leads", "[Z", true)
  | 12 => ("LayoutFrontModel", "open", "I", false)
  | 13 => ("LayoutFrontModel", "highest", "I", false)
  | 14 => ("LayoutFrontModel", "row", "[I", true)
  | 15 => ("LayoutFrontModel", "tokens", "I", false)
  | 16 => ("LayoutFrontModel", "blocks", "I", false)
  | 17 => ("LayoutFrontModel", "sort", "[I", true)
  | 18 => ("LayoutFrontModel", "is", "[J", true)
  | 19 => ("LayoutFrontModel", "before", "[I", true)
  | 20 => ("LayoutFrontModel", "behind", "[I", true)
  | 21 => ("LayoutFrontModel", "partner", "[I", true)
  | 22 => ("LayoutFrontModel", "done", "[Z", true)
  | 23 => ("LayoutFrontModel", "all", "I", false)
  | 24 => ("LayoutFrontModel", "kinds", "[I", true)
  | 25 => ("LayoutFrontModel", "values", "[J", true)
  | 26 => ("LayoutFrontModel", "told", "I", false)
  | 27 => ("LayoutFrontModel", "toldBlocks", "I", false)
  | 28 => ("LayoutFrontModel", "toldRows", "I", false)
  | 29 => ("LayoutFrontModel", "toldConflicts", "I", false)
  | 30 => ("LayoutFrontModel", "toldHighest", "I", false)
  | 31 => ("LayoutFrontModel", "set", "I", false)
  | 32 => ("LayoutFrontModel", "names", "[J", true)
  | 33 => ("LayoutFrontModel", "sides", "[I", true)
  | 34 => ("LayoutFrontModel", "levels", "[I", true)
  | 35 => ("LayoutFrontModel", "items", "I", false)
  | 36 => ("LayoutFrontModel", "operands", "I", false)
  | 37 => ("LayoutFrontModel", "waiting", "I", false)
  | 38 => ("LayoutFrontModel", "pairs", "I", false)
  | 39 => ("LayoutFrontModel", "rows", "I", false)
  | 40 => ("LayoutFrontModel", "conflicts", "I", false)
  | 41 => ("LayoutFrontModel", "from", "[I", true)
  | 42 => ("LayoutFrontModel", "to", "[I", true)
  | 43 => ("LayoutFrontModel", "what", "[I", true)
  | 44 => ("LayoutFrontModel", "left", "[I", true)
  | 45 => ("LayoutFrontModel", "right", "[I", true)
  | 46 => ("LayoutFrontModel", "waits", "[I", true)
  | 47 => ("LayoutFrontModel", "opens", "[I", true)
  | 48 => ("LayoutFrontModel", "closes", "[I", true)
  | _ => ("LayoutFrontModel", "waitsFor", "[I", true)
def t_Model : Nat → FieldType := fun k => match k with
  | 0 => .int
  | 1 => .int
  | 2 => .array (.int)
  | 3 => .int
  | 4 => .int
  | 5 => .int
  | 6 => .int
  | 7 => .array (.int)
  | 8 => .array (.long)
  | 9 => .array (.int)
  | 10 => .array (.int)
  | 11 => .array (.boolean)
  | 12 => .int
  | 13 => .int
  | 14 => .array (.int)
  | 15 => .int
  | 16 => .int
  | 17 => .array (.int)
  | 18 => .array (.long)
  | 19 => .array (.int)
  | 20 => .array (.int)
  | 21 => .array (.int)
  | 22 => .array (.boolean)
  | 23 => .int
  | 24 => .array (.int)
  | 25 => .array (.long)
  | 26 => .int
  | 27 => .int
  | 28 => .int
  | 29 => .int
  | 30 => .int
  | 31 => .int
  | 32 => .array (.long)
  | 33 => .array (.int)
  | 34 => .array (.int)
  | 35 => .int
  | 36 => .int
  | 37 => .int
  | 38 => .int
  | 39 => .int
  | 40 => .int
  | 41 => .array (.int)
  | 42 => .array (.int)
  | 43 => .array (.int)
  | 44 => .array (.int)
  | 45 => .array (.int)
  | 46 => .array (.int)
  | 47 => .array (.int)
  | 48 => .array (.int)
  | _ => .array (.int)
theorem n_Model : ∀ a, a < 50 → ∀ b, b < 50 → a ≠ b → (F_Model a).2.1 ≠ (F_Model b).2.1 := by decide +kernel
theorem t_Model_ok : ∀ k, k < 50 → parseFieldDescriptor (F_Model k).2.2.1 = some (t_Model k) := by decide +kernel
theorem df_Model : ∀ j, j < 50 → defaultValue (t_Model j) = vp_V [.int 0, .int 0, .null, .int 0, .int 0, .int 0, .int 0, .null, .null, .null, .null, .null, .int 0, .int 0, .null, .int 0, .int 0, .null, .null, .null, .null, .null, .null, .int 0, .null, .null, .int 0, .int 0, .int 0, .int 0, .int 0, .int 0, .null, .null, .null, .int 0, .int 0, .int 0, .int 0, .int 0, .int 0, .null, .null, .null, .null, .null, .null, .null, .null, .null] j := by decide +kernel
def R_Blocks : String := "LayoutFront$Blocks"
def F_Blocks : u_T := fun k => match k with
  | 0 => ("LayoutFront$Blocks", "open", "LLayoutFront$Open;", true)
  | 1 => ("LayoutFront$Blocks", "laid", "LLayoutFront$Tokens;", true)
  | _ => ("LayoutFront$Blocks", "begun", "I", false)
def t_Blocks : Nat → FieldType := fun k => match k with
  | 0 => .object "LayoutFront$Open"
  | 1 => .object "LayoutFront$Tokens"
  | _ => .int
theorem n_Blocks : ∀ a, a < 3 → ∀ b, b < 3 → a ≠ b → (F_Blocks a).2.1 ≠ (F_Blocks b).2.1 := by decide +kernel
theorem t_Blocks_ok : ∀ k, k < 3 → parseFieldDescriptor (F_Blocks k).2.2.1 = some (t_Blocks k) := by decide +kernel
theorem df_Blocks : ∀ j, j < 3 → defaultValue (t_Blocks j) = vp_V [.null, .null, .int 0] j := by decide +kernel
def R_Cutter : String := "LayoutFront$Cutter"
def F_Cutter : u_T := fun k => match k with
  | 0 => ("LayoutFront$Cutter", "lexemes", "LLayoutFront$Lexemes;", true)
  | 1 => ("LayoutFront$Cutter", "at", "I", false)
  | 2 => ("LayoutFront$Cutter", "lineStart", "I", false)
  | 3 => ("LayoutFront$Cutter", "lineIsFresh", "Z", false)
  | 4 => ("LayoutFront$Cutter", "wrongPlace", "I", false)
  | _ => ("LayoutFront$Cutter", "tooMany", "Z", false)
def t_Cutter : Nat → FieldType := fun k => match k with
  | 0 => .object "LayoutFront$Lexemes"
  | 1 => .int
  | 2 => .int
  | 3 => .boolean
  | 4 => .int
  | _ => .boolean
theorem n_Cutter : ∀ a, a < 6 → ∀ b, b < 6 → a ≠ b → (F_Cutter a).2.1 ≠ (F_Cutter b).2.1 := by decide +kernel
theorem t_Cutter_ok : ∀ k, k < 6 → parseFieldDescriptor (F_Cutter k).2.2.1 = some (t_Cutter k) := by decide +kernel
theorem df_Cutter : ∀ j, j < 6 → defaultValue (t_Cutter j) = vp_V [.null, .int 0, .int 0, .int 0, .int 0, .int 0] j := by decide +kernel
def R_Fixities : String := "LayoutFront$Fixities"
def F_Fixities : u_T := fun k => match k with
  | 0 => ("LayoutFront$Fixities", "names", "[J", true)
  | 1 => ("LayoutFront$Fixities", "sides", "[I", true)
  | 2 => ("LayoutFront$Fixities", "levels", "[I", true)
  | _ => ("LayoutFront$Fixities", "size", "I", false)
def t_Fixities : Nat → FieldType := fun k => match k with
  | 0 => .array (.long)
  | 1 => .array (.int)
  | 2 => .array (.int)
  | _ => .int
theorem n_Fixities : ∀ a, a < 4 → ∀ b, b < 4 → a ≠ b → (F_Fixities a).2.1 ≠ (F_Fixities b).2.1 := by decide +kernel
theorem t_Fixities_ok : ∀ k, k < 4 → parseFieldDescriptor (F_Fixities k).2.2.1 = some (t_Fixities k) := by decide +kernel
theorem df_Fixities : ∀ j, j < 4 → defaultValue (t_Fixities j) = vp_V [.null, .null, .null, .int 0] j := by decide +kernel
def R_Lexemes : String := "LayoutFront$Lexemes"
def F_Lexemes : u_T := fun k => match k with
  | 0 => ("LayoutFront$Lexemes", "tokens", "LLayoutFront$Tokens;", true)
  | 1 => ("LayoutFront$Lexemes", "places", "[I", true)
  | 2 => ("LayoutFront$Lexemes", "columns", "[I", true)
  | _ => ("LayoutFront$Lexemes", "lineFirsts", "[Z", true)
def t_Lexemes : Nat → FieldType := fun k => match k with
  | 0 => .object "LayoutFront$Tokens"
  | 1 => .array (.int)
  | 2 => .array (.int)
  | _ => .array (.boolean)
theorem n_Lexemes : ∀ a, a < 4 → ∀ b, b < 4 → a ≠ b → (F_Lexemes a).2.1 ≠ (F_Lexemes b).2.1 := by decide +kernel
theorem t_Lexemes_ok : ∀ k, k < 4 → parseFieldDescriptor (F_Lexemes k).2.2.1 = some (t_Lexemes k) := by decide +kernel
theorem df_Lexemes : ∀ j, j < 4 → defaultValue (t_Lexemes j) = vp_V [.null, .null, .null, .null] j := by decide +kernel
def R_Open : String := "LayoutFront$Open"
def F_Open : u_T := fun k => match k with
  | 0 => ("LayoutFront$Open", "things", "[I", true)
  | 1 => ("LayoutFront$Open", "size", "I", false)
  | _ => ("LayoutFront$Open", "most", "I", false)
def t_Open : Nat → FieldType := fun k => match k with
  | 0 => .array (.int)
  | 1 => .int
  | _ => .int
theorem n_Open : ∀ a, a < 3 → ∀ b, b < 3 → a ≠ b → (F_Open a).2.1 ≠ (F_Open b).2.1 := by decide +kernel
theorem t_Open_ok : ∀ k, k < 3 → parseFieldDescriptor (F_Open k).2.2.1 = some (t_Open k) := by decide +kernel
theorem df_Open : ∀ j, j < 3 → defaultValue (t_Open j) = vp_V [.null, .int 0, .int 0] j := by decide +kernel
def R_Resolver : String := "LayoutFront$Resolver"
def F_Resolver : u_T := fun k => match k with
  | 0 => ("LayoutFront$Resolver", "pairFirsts", "[I", true)
  | 1 => ("LayoutFront$Resolver", "pairLasts", "[I", true)
  | 2 => ("LayoutFront$Resolver", "pairs", "I", false)
  | 3 => ("LayoutFront$Resolver", "pairsBefore", "I", false)
  | 4 => ("LayoutFront$Resolver", "firsts", "[I", true)
  | 5 => ("LayoutFront$Resolver", "lasts", "[I", true)
  | 6 => ("LayoutFront$Resolver", "operands", "I", false)
  | 7 => ("LayoutFront$Resolver", "levels", "[I", true)
  | 8 => ("LayoutFront$Resolver", "sides", "[I", true)
  | 9 => ("LayoutFront$Resolver", "minusPlaces", "[I", true)
  | _ => ("LayoutFront$Resolver", "waiting", "I", false)
def t_Resolver : Nat → FieldType := fun k => match k with
  | 0 => .array (.int)
  | 1 => .array (.int)
  | 2 => .int
  | 3 => .int
  | 4 => .array (.int)
  | 5 => .array (.int)
  | 6 => .int
  | 7 => .array (.int)
  | 8 => .array (.int)
  | 9 => .array (.int)
  | _ => .int
theorem n_Resolver : ∀ a, a < 11 → ∀ b, b < 11 → a ≠ b → (F_Resolver a).2.1 ≠ (F_Resolver b).2.1 := by decide +kernel
theorem t_Resolver_ok : ∀ k, k < 11 → parseFieldDescriptor (F_Resolver k).2.2.1 = some (t_Resolver k) := by decide +kernel
theorem df_Resolver : ∀ j, j < 11 → defaultValue (t_Resolver j) = vp_V [.null, .null, .int 0, .int 0, .null, .null, .int 0, .null, .null, .null, .int 0] j := by decide +kernel
def R_Row : String := "LayoutFront$Row"
def F_Row : u_T := fun k => match k with
  | 0 => ("LayoutFront$Row", "parts", "[I", true)
  | 1 => ("LayoutFront$Row", "firsts", "[I", true)
  | 2 => ("LayoutFront$Row", "lasts", "[I", true)
  | 3 => ("LayoutFront$Row", "size", "I", false)
  | 4 => ("LayoutFront$Row", "operates", "Z", false)
  | _ => ("LayoutFront$Row", "lacksOperand", "Z", false)
def t_Row : Nat → FieldType := fun k => match k with
  | 0 => .array (.int)
  | 1 => .array (.int)
  | 2 => .array (.int)
  | 3 => .int
  | 4 => .boolean
  | _ => .boolean
theorem n_Row : ∀ a, a < 6 → ∀ b, b < 6 → a ≠ b → (F_Row a).2.1 ≠ (F_Row b).2.1 := by decide +kernel
theorem t_Row_ok : ∀ k, k < 6 → parseFieldDescriptor (F_Row k).2.2.1 = some (t_Row k) := by decide +kernel
theorem df_Row : ∀ j, j < 6 → defaultValue (t_Row j) = vp_V [.null, .null, .null, .int 0, .int 0, .int 0] j := by decide +kernel
def R_Rows : String := "LayoutFront$Rows"
def F_Rows : u_T := fun k => match k with
  | 0 => ("LayoutFront$Rows", "closers", "[I", true)
  | 1 => ("LayoutFront$Rows", "openers", "[I", true)
  | 2 => ("LayoutFront$Rows", "opened", "[I", true)
  | 3 => ("LayoutFront$Rows", "closed", "[I", true)
  | 4 => ("LayoutFront$Rows", "row", "LLayoutFront$Row;", true)
  | 5 => ("LayoutFront$Rows", "resolver", "LLayoutFront$Resolver;", true)
  | 6 => ("LayoutFront$Rows", "together", "I", false)
  | _ => ("LayoutFront$Rows", "inConflict", "I", false)
def t_Rows : Nat → FieldType := fun k => match k with
  | 0 => .array (.int)
  | 1 => .array (.int)
  | 2 => .array (.int)
  | 3 => .array (.int)
  | 4 => .object "LayoutFront$Row"
  | 5 => .object "LayoutFront$Resolver"
  | 6 => .int
  | _ => .int
theorem n_Rows : ∀ a, a < 8 → ∀ b, b < 8 → a ≠ b → (F_Rows a).2.1 ≠ (F_Rows b).2.1 := by decide +kernel
theorem t_Rows_ok : ∀ k, k < 8 → parseFieldDescriptor (F_Rows k).2.2.1 = some (t_Rows k) := by decide +kernel
theorem df_Rows : ∀ j, j < 8 → defaultValue (t_Rows j) = vp_V [.null, .null, .null, .null, .null, .null, .int 0, .int 0] j := by decide +kernel
def R_Text : String := "LayoutFront$Text"
def F_Text : u_T := fun k => match k with
  | 0 => ("LayoutFront$Text", "characters", "[C", true)
  | _ => ("LayoutFront$Text", "length", "I", false)
def t_Text : Nat → FieldType := fun k => match k with
  | 0 => .array (.char)
  | _ => .int
theorem n_Text : ∀ a, a < 2 → ∀ b, b < 2 → a ≠ b → (F_Text a).2.1 ≠ (F_Text b).2.1 := by decide +kernel
theorem t_Text_ok : ∀ k, k < 2 → parseFieldDescriptor (F_Text k).2.2.1 = some (t_Text k) := by decide +kernel
theorem df_Text : ∀ j, j < 2 → defaultValue (t_Text j) = vp_V [.null, .int 0] j := by decide +kernel
def R_Tokens : String := "LayoutFront$Tokens"
def F_Tokens : u_T := fun k => match k with
  | 0 => ("LayoutFront$Tokens", "kinds", "[I", true)
  | 1 => ("LayoutFront$Tokens", "values", "[J", true)
  | _ => ("LayoutFront$Tokens", "size", "I", false)
def t_Tokens : Nat → FieldType := fun k => match k with
  | 0 => .array (.int)
  | 1 => .array (.long)
  | _ => .int
theorem n_Tokens : ∀ a, a < 3 → ∀ b, b < 3 → a ≠ b → (F_Tokens a).2.1 ≠ (F_Tokens b).2.1 := by decide +kernel
theorem t_Tokens_ok : ∀ k, k < 3 → parseFieldDescriptor (F_Tokens k).2.2.1 = some (t_Tokens k) := by decide +kernel
theorem df_Tokens : ∀ j, j < 3 → defaultValue (t_Tokens j) = vp_V [.null, .null, .int 0] j := by decide +kernel
def R_Law : String := "LayoutFrontLaw"
abbrev vcl : List vw_C := [(R_LF, F_LF, 8), (R_Model, F_Model, 50), (R_Blocks, F_Blocks, 3), (R_Cutter, F_Cutter, 6), (R_Fixities, F_Fixities, 4), (R_Lexemes, F_Lexemes, 4), (R_Open, F_Open, 3), (R_Resolver, F_Resolver, 11), (R_Row, F_Row, 6), (R_Rows, F_Rows, 8), (R_Text, F_Text, 2), (R_Tokens, F_Tokens, 3)]
def y_LF_init : MethodName := ⟨R_LF, "<init>", "()V"⟩
abbrev b_LF_init : ByteArray := prog_1_method_1_code
def y_LF_write : MethodName := ⟨R_LF, "write", "(JI)I"⟩
abbrev b_LF_write : ByteArray := prog_1_method_2_code
def y_LF_erase : MethodName := ⟨R_LF, "erase", "()I"⟩
abbrev b_LF_erase : ByteArray := prog_1_method_3_code
def y_LF_fixity : MethodName := ⟨R_LF, "fixity", "(JII)I"⟩
abbrev b_LF_fixity : ByteArray := prog_1_method_4_code
def y_LF_read : MethodName := ⟨R_LF, "read", "()I"⟩
abbrev b_LF_read : ByteArray := prog_1_method_5_code
def y_LF_keepCounts : MethodName := ⟨R_LF, "keepCounts", "()V"⟩
abbrev b_LF_keepCounts : ByteArray := prog_1_method_6_code
def y_LF_place : MethodName := ⟨R_LF, "place", "()I"⟩
abbrev b_LF_place : ByteArray := prog_1_method_7_code
def y_LF_kind : MethodName := ⟨R_LF, "kind", "(I)I"⟩
abbrev b_LF_kind : ByteArray := prog_1_method_8_code
def y_LF_token : MethodName := ⟨R_LF, "token", "(I)J"⟩
abbrev b_LF_token : ByteArray := prog_1_method_9_code
def y_LF_count : MethodName := ⟨R_LF, "count", "(I)I"⟩
abbrev b_LF_count : ByteArray := prog_1_method_10_code
def y_Model_init : MethodName := ⟨R_Model, "<init>", "()V"⟩
abbrev b_Model_init : ByteArray := prog_13_method_1_code
def y_Model_thrown : MethodName := ⟨R_Model, "thrown", "()I"⟩
abbrev b_Model_thrown : ByteArray := prog_13_method_2_code
def y_Model_fail : MethodName := ⟨R_Model, "fail", "(I)I"⟩
abbrev b_Model_fail : ByteArray := prog_13_method_3_code
def y_Model_within : MethodName := ⟨R_Model, "within", "(III)Z"⟩
abbrev b_Model_within : ByteArray := prog_13_method_4_code
def y_Model_write : MethodName := ⟨R_Model, "write", "(JI)I"⟩
abbrev b_Model_write : ByteArray := prog_13_method_5_code
def y_Model_erase : MethodName := ⟨R_Model, "erase", "()I"⟩
abbrev b_Model_erase : ByteArray := prog_13_method_6_code
def y_Model_find : MethodName := ⟨R_Model, "find", "(J)I"⟩
abbrev b_Model_find : ByteArray := prog_13_method_7_code
def y_Model_fixity : MethodName := ⟨R_Model, "fixity", "(JII)I"⟩
abbrev b_Model_fixity : ByteArray := prog_13_method_8_code
def y_Model_here : MethodName := ⟨R_Model, "here", "()I"⟩
abbrev b_Model_here : ByteArray := prog_13_method_9_code
def y_Model_letter : MethodName := ⟨R_Model, "letter", "(I)Z"⟩
abbrev b_Model_letter : ByteArray := prog_13_method_10_code
def y_Model_digit : MethodName := ⟨R_Model, "digit", "(I)Z"⟩
abbrev b_Model_digit : ByteArray := prog_13_method_11_code
def y_Model_operator : MethodName := ⟨R_Model, "operator", "(I)Z"⟩
abbrev b_Model_operator : ByteArray := prog_13_method_12_code
def y_Model_sign : MethodName := ⟨R_Model, "sign", "(I)Z"⟩
abbrev b_Model_sign : ByteArray := prog_13_method_13_code
def y_Model_wrong : MethodName := ⟨R_Model, "wrong", "(II)V"⟩
abbrev b_Model_wrong : ByteArray := prog_13_method_14_code
def y_Model_run : MethodName := ⟨R_Model, "run", "(I)I"⟩
abbrev b_Model_run : ByteArray := prog_13_method_15_code
def y_Model_dashes : MethodName := ⟨R_Model, "dashes", "(I)Z"⟩
abbrev b_Model_dashes : ByteArray := prog_13_method_16_code
def y_Model_nested : MethodName := ⟨R_Model, "nested", "()V"⟩
abbrev b_Model_nested : ByteArray := prog_13_method_17_code
def y_Model_packed : MethodName := ⟨R_Model, "packed", "(I)J"⟩
abbrev b_Model_packed : ByteArray := prog_13_method_18_code
def y_Model_lexeme : MethodName := ⟨R_Model, "lexeme", "(II)V"⟩
abbrev b_Model_lexeme : ByteArray := prog_13_method_19_code
def y_Model_cut : MethodName := ⟨R_Model, "cut", "()V"⟩
abbrev b_Model_cut : ByteArray := prog_13_method_20_code
def y_Model_word : MethodName := ⟨R_Model, "word", "(J)Z"⟩
abbrev b_Model_word : ByteArray := prog_13_method_21_code
def y_Model_emit : MethodName := ⟨R_Model, "emit", "(IJ)V"⟩
abbrev b_Model_emit : ByteArray := prog_13_method_22_code
def y_Model_push : MethodName := ⟨R_Model, "push", "(I)V"⟩
abbrev b_Model_push : ByteArray := prog_13_method_23_code
def y_Model_top : MethodName := ⟨R_Model, "top", "()I"⟩
abbrev b_Model_top : ByteArray := prog_13_method_24_code
def y_Model_belowLets : MethodName := ⟨R_Model, "belowLets", "()I"⟩
abbrev b_Model_belowLets : ByteArray := prog_13_method_25_code
def y_Model_dropLets : MethodName := ⟨R_Model, "dropLets", "()V"⟩
abbrev b_Model_dropLets : ByteArray := prog_13_method_26_code
def y_Model_mark : MethodName := ⟨R_Model, "mark", "(I)V"⟩
abbrev b_Model_mark : ByteArray := prog_13_method_27_code
def y_Model_leave : MethodName := ⟨R_Model, "leave", "(Z)V"⟩
abbrev b_Model_leave : ByteArray := prog_13_method_28_code
def y_Model_closes : MethodName := ⟨R_Model, "closes", "(III)V"⟩
abbrev b_Model_closes : ByteArray := prog_13_method_29_code
def y_Model_comma : MethodName := ⟨R_Model, "comma", "()V"⟩
abbrev b_Model_comma : ByteArray := prog_13_method_30_code
def y_Model_signs : MethodName := ⟨R_Model, "signs", "(IJ)V"⟩
abbrev b_Model_signs : ByteArray := prog_13_method_31_code
def y_Model_words : MethodName := ⟨R_Model, "words", "(IJ)V"⟩
abbrev b_Model_words : ByteArray := prog_13_method_32_code
def y_Model_begins : MethodName := ⟨R_Model, "begins", "(I)Z"⟩
abbrev b_Model_begins : ByteArray := prog_13_method_33_code
def y_Model_begin : MethodName := ⟨R_Model, "begin", "(I)V"⟩
abbrev b_Model_begin : ByteArray := prog_13_method_34_code
def y_Model_lay : MethodName := ⟨R_Model, "lay", "()V"⟩
abbrev b_Model_lay : ByteArray := prog_13_method_35_code
def y_Model_reserved : MethodName := ⟨R_Model, "reserved", "(J)Z"⟩
abbrev b_Model_reserved : ByteArray := prog_13_method_36_code
def y_Model_partners : MethodName := ⟨R_Model, "partners", "()V"⟩
abbrev b_Model_partners : ByteArray := prog_13_method_37_code
def y_Model_plainName : MethodName := ⟨R_Model, "plainName", "(I)Z"⟩
abbrev b_Model_plainName : ByteArray := prog_13_method_38_code
def y_Model_tick : MethodName := ⟨R_Model, "tick", "(I)Z"⟩
abbrev b_Model_tick : ByteArray := prog_13_method_39_code
def y_Model_extent : MethodName := ⟨R_Model, "extent", "(I)I"⟩
abbrev b_Model_extent : ByteArray := prog_13_method_40_code
def y_Model_operation : MethodName := ⟨R_Model, "operation", "(I)Z"⟩
abbrev b_Model_operation : ByteArray := prog_13_method_41_code
def y_Model_core : MethodName := ⟨R_Model, "core", "(I)I"⟩
abbrev b_Model_core : ByteArray := prog_13_method_42_code
def y_Model_dash : MethodName := ⟨R_Model, "dash", "(I)Z"⟩
abbrev b_Model_dash : ByteArray := prog_13_method_43_code
def y_Model_collect : MethodName := ⟨R_Model, "collect", "(I)V"⟩
abbrev b_Model_collect : ByteArray := prog_13_method_44_code
def y_Model_regular : MethodName := ⟨R_Model, "regular", "()Z"⟩
abbrev b_Model_regular : ByteArray := prog_13_method_45_code
def y_Model_fixed : MethodName := ⟨R_Model, "fixed", "(I)I"⟩
abbrev b_Model_fixed : ByteArray := prog_13_method_46_code
def y_Model_level : MethodName := ⟨R_Model, "level", "(I)I"⟩
abbrev b_Model_level : ByteArray := prog_13_method_47_code
def y_Model_side : MethodName := ⟨R_Model, "side", "(I)I"⟩
abbrev b_Model_side : ByteArray := prog_13_method_48_code
def y_Model_apply : MethodName := ⟨R_Model, "apply", "()V"⟩
abbrev b_Model_apply : ByteArray := prog_13_method_49_code
def y_Model_comes : MethodName := ⟨R_Model, "comes", "(I)Z"⟩
abbrev b_Model_comes : ByteArray := prog_13_method_50_code
def y_Model_put : MethodName := ⟨R_Model, "put", "()V"⟩
abbrev b_Model_put : ByteArray := prog_13_method_51_code
def y_Model_around : MethodName := ⟨R_Model, "around", "()V"⟩
abbrev b_Model_around : ByteArray := prog_13_method_52_code
def y_Model_add : MethodName := ⟨R_Model, "add", "(IJ)V"⟩
abbrev b_Model_add : ByteArray := prog_13_method_53_code
def y_Model_read : MethodName := ⟨R_Model, "read", "()I"⟩
abbrev b_Model_read : ByteArray := prog_13_method_54_code
def y_Model_place : MethodName := ⟨R_Model, "place", "()I"⟩
abbrev b_Model_place : ByteArray := prog_13_method_55_code
def y_Model_kind : MethodName := ⟨R_Model, "kind", "(I)I"⟩
abbrev b_Model_kind : ByteArray := prog_13_method_56_code
def y_Model_token : MethodName := ⟨R_Model, "token", "(I)J"⟩
abbrev b_Model_token : ByteArray := prog_13_method_57_code
def y_Model_count : MethodName := ⟨R_Model, "count", "(I)I"⟩
abbrev b_Model_count : ByteArray := prog_13_method_58_code
def y_Blocks_init : MethodName := ⟨R_Blocks, "<init>", "()V"⟩
abbrev b_Blocks_init : ByteArray := prog_2_method_1_code
def y_Blocks_laid : MethodName := ⟨R_Blocks, "laid", "()LLayoutFront$Tokens;"⟩
abbrev b_Blocks_laid : ByteArray := prog_2_method_2_code
def y_Blocks_begun : MethodName := ⟨R_Blocks, "begun", "()I"⟩
abbrev b_Blocks_begun : ByteArray := prog_2_method_3_code
def y_Blocks_mostOpen : MethodName := ⟨R_Blocks, "mostOpen", "()I"⟩
abbrev b_Blocks_mostOpen : ByteArray := prog_2_method_4_code
def y_Blocks_lay : MethodName := ⟨R_Blocks, "lay", "(LLayoutFront$Lexemes;I)I"⟩
abbrev b_Blocks_lay : ByteArray := prog_2_method_5_code
def y_Blocks_putBefore : MethodName := ⟨R_Blocks, "putBefore", "(LLayoutFront$Lexemes;I)V"⟩
abbrev b_Blocks_putBefore : ByteArray := prog_2_method_6_code
def y_Blocks_beginsBlock : MethodName := ⟨R_Blocks, "beginsBlock", "(LLayoutFront$Tokens;I)Z"⟩
abbrev b_Blocks_beginsBlock : ByteArray := prog_2_method_7_code
def y_Blocks_begin : MethodName := ⟨R_Blocks, "begin", "(I)V"⟩
abbrev b_Blocks_begin : ByteArray := prog_2_method_8_code
def y_Blocks_mark : MethodName := ⟨R_Blocks, "mark", "(I)V"⟩
abbrev b_Blocks_mark : ByteArray := prog_2_method_9_code
def y_Blocks_putIn : MethodName := ⟨R_Blocks, "putIn", "(C)V"⟩
abbrev b_Blocks_putIn : ByteArray := prog_2_method_10_code
def y_Blocks_passWord : MethodName := ⟨R_Blocks, "passWord", "(I)Z"⟩
abbrev b_Blocks_passWord : ByteArray := prog_2_method_11_code
def y_Blocks_passSign : MethodName := ⟨R_Blocks, "passSign", "(C)Z"⟩
abbrev b_Blocks_passSign : ByteArray := prog_2_method_12_code
def y_Blocks_passBrace : MethodName := ⟨R_Blocks, "passBrace", "()Z"⟩
abbrev b_Blocks_passBrace : ByteArray := prog_2_method_13_code
def y_Blocks_passComma : MethodName := ⟨R_Blocks, "passComma", "()V"⟩
abbrev b_Blocks_passComma : ByteArray := prog_2_method_14_code
def y_Blocks_end : MethodName := ⟨R_Blocks, "end", "(I)Z"⟩
abbrev b_Blocks_end : ByteArray := prog_2_method_15_code
def y_Blocks_closeBlocks : MethodName := ⟨R_Blocks, "closeBlocks", "(Z)V"⟩
abbrev b_Blocks_closeBlocks : ByteArray := prog_2_method_16_code
def y_Cutter_init : MethodName := ⟨R_Cutter, "<init>", "()V"⟩
abbrev b_Cutter_init : ByteArray := prog_3_method_1_code
def y_Cutter_lexemes : MethodName := ⟨R_Cutter, "lexemes", "()LLayoutFront$Lexemes;"⟩
abbrev b_Cutter_lexemes : ByteArray := prog_3_method_2_code
def y_Cutter_foundTooMany : MethodName := ⟨R_Cutter, "foundTooMany", "()Z"⟩
abbrev b_Cutter_foundTooMany : ByteArray := prog_3_method_3_code
def y_Cutter_cut : MethodName := ⟨R_Cutter, "cut", "(LLayoutFront$Text;)I"⟩
abbrev b_Cutter_cut : ByteArray := prog_3_method_4_code
def y_Cutter_isBlank : MethodName := ⟨R_Cutter, "isBlank", "(C)Z"⟩
abbrev b_Cutter_isBlank : ByteArray := prog_3_method_5_code
def y_Cutter_passCharacter : MethodName := ⟨R_Cutter, "passCharacter", "(C)V"⟩
abbrev b_Cutter_passCharacter : ByteArray := prog_3_method_6_code
def y_Cutter_opensComment : MethodName := ⟨R_Cutter, "opensComment", "(LLayoutFront$Text;I)Z"⟩
abbrev b_Cutter_opensComment : ByteArray := prog_3_method_7_code
def y_Cutter_closesComment : MethodName := ⟨R_Cutter, "closesComment", "(LLayoutFront$Text;I)Z"⟩
abbrev b_Cutter_closesComment : ByteArray := prog_3_method_8_code
def y_Cutter_passComment : MethodName := ⟨R_Cutter, "passComment", "(LLayoutFront$Text;)V"⟩
abbrev b_Cutter_passComment : ByteArray := prog_3_method_9_code
def y_Cutter_cutLexeme : MethodName := ⟨R_Cutter, "cutLexeme", "(LLayoutFront$Text;)V"⟩
abbrev b_Cutter_cutLexeme : ByteArray := prog_3_method_10_code
def y_Cutter_take : MethodName := ⟨R_Cutter, "take", "(LLayoutFront$Text;II)V"⟩
abbrev b_Cutter_take : ByteArray := prog_3_method_11_code
def y_Cutter_kindBegunBy : MethodName := ⟨R_Cutter, "kindBegunBy", "(C)I"⟩
abbrev b_Cutter_kindBegunBy : ByteArray := prog_3_method_12_code
def y_Cutter_longest : MethodName := ⟨R_Cutter, "longest", "(I)I"⟩
abbrev b_Cutter_longest : ByteArray := prog_3_method_13_code
def y_Cutter_lexemeEnd : MethodName := ⟨R_Cutter, "lexemeEnd", "(LLayoutFront$Text;I)I"⟩
abbrev b_Cutter_lexemeEnd : ByteArray := prog_3_method_14_code
def y_Cutter_goesOn : MethodName := ⟨R_Cutter, "goesOn", "(IC)Z"⟩
abbrev b_Cutter_goesOn : ByteArray := prog_3_method_15_code
def y_Cutter_isDashes : MethodName := ⟨R_Cutter, "isDashes", "(LLayoutFront$Text;I)Z"⟩
abbrev b_Cutter_isDashes : ByteArray := prog_3_method_16_code
def y_Cutter_lineEnd : MethodName := ⟨R_Cutter, "lineEnd", "(LLayoutFront$Text;I)I"⟩
abbrev b_Cutter_lineEnd : ByteArray := prog_3_method_17_code
def y_Cutter_isLetter : MethodName := ⟨R_Cutter, "isLetter", "(C)Z"⟩
abbrev b_Cutter_isLetter : ByteArray := prog_3_method_18_code
def y_Cutter_isDigit : MethodName := ⟨R_Cutter, "isDigit", "(C)Z"⟩
abbrev b_Cutter_isDigit : ByteArray := prog_3_method_19_code
def y_Cutter_isOperatorPart : MethodName := ⟨R_Cutter, "isOperatorPart", "(C)Z"⟩
abbrev b_Cutter_isOperatorPart : ByteArray := prog_3_method_20_code
def y_Cutter_isSign : MethodName := ⟨R_Cutter, "isSign", "(C)Z"⟩
abbrev b_Cutter_isSign : ByteArray := prog_3_method_21_code
def y_Fixities_init : MethodName := ⟨R_Fixities, "<init>", "()V"⟩
abbrev b_Fixities_init : ByteArray := prog_4_method_1_code
def y_Fixities_size : MethodName := ⟨R_Fixities, "size", "()I"⟩
abbrev b_Fixities_size : ByteArray := prog_4_method_2_code
def y_Fixities_hasRoomFor : MethodName := ⟨R_Fixities, "hasRoomFor", "(J)Z"⟩
abbrev b_Fixities_hasRoomFor : ByteArray := prog_4_method_3_code
def y_Fixities_set : MethodName := ⟨R_Fixities, "set", "(JII)V"⟩
abbrev b_Fixities_set : ByteArray := prog_4_method_4_code
def y_Fixities_sideOf : MethodName := ⟨R_Fixities, "sideOf", "(J)I"⟩
abbrev b_Fixities_sideOf : ByteArray := prog_4_method_5_code
def y_Fixities_levelOf : MethodName := ⟨R_Fixities, "levelOf", "(J)I"⟩
abbrev b_Fixities_levelOf : ByteArray := prog_4_method_6_code
def y_Fixities_find : MethodName := ⟨R_Fixities, "find", "(J)I"⟩
abbrev b_Fixities_find : ByteArray := prog_4_method_7_code
def y_Lexemes_init : MethodName := ⟨R_Lexemes, "<init>", "()V"⟩
abbrev b_Lexemes_init : ByteArray := prog_5_method_1_code
def y_Lexemes_clear : MethodName := ⟨R_Lexemes, "clear", "()V"⟩
abbrev b_Lexemes_clear : ByteArray := prog_5_method_2_code
def y_Lexemes_size : MethodName := ⟨R_Lexemes, "size", "()I"⟩
abbrev b_Lexemes_size : ByteArray := prog_5_method_3_code
def y_Lexemes_isFull : MethodName := ⟨R_Lexemes, "isFull", "()Z"⟩
abbrev b_Lexemes_isFull : ByteArray := prog_5_method_4_code
def y_Lexemes_tokens : MethodName := ⟨R_Lexemes, "tokens", "()LLayoutFront$Tokens;"⟩
abbrev b_Lexemes_tokens : ByteArray := prog_5_method_5_code
def y_Lexemes_add : MethodName := ⟨R_Lexemes, "add", "(IJIIZ)V"⟩
abbrev b_Lexemes_add : ByteArray := prog_5_method_6_code
def y_Lexemes_placeAt : MethodName := ⟨R_Lexemes, "placeAt", "(I)I"⟩
abbrev b_Lexemes_placeAt : ByteArray := prog_5_method_7_code
def y_Lexemes_columnAt : MethodName := ⟨R_Lexemes, "columnAt", "(I)I"⟩
abbrev b_Lexemes_columnAt : ByteArray := prog_5_method_8_code
def y_Lexemes_isLineFirst : MethodName := ⟨R_Lexemes, "isLineFirst", "(I)Z"⟩
abbrev b_Lexemes_isLineFirst : ByteArray := prog_5_method_9_code
def y_Open_init : MethodName := ⟨R_Open, "<init>", "()V"⟩
abbrev b_Open_init : ByteArray := prog_6_method_1_code
def y_Open_clear : MethodName := ⟨R_Open, "clear", "()V"⟩
abbrev b_Open_clear : ByteArray := prog_6_method_2_code
def y_Open_size : MethodName := ⟨R_Open, "size", "()I"⟩
abbrev b_Open_size : ByteArray := prog_6_method_3_code
def y_Open_most : MethodName := ⟨R_Open, "most", "()I"⟩
abbrev b_Open_most : ByteArray := prog_6_method_4_code
def y_Open_push : MethodName := ⟨R_Open, "push", "(I)V"⟩
abbrev b_Open_push : ByteArray := prog_6_method_5_code
def y_Open_pop : MethodName := ⟨R_Open, "pop", "()V"⟩
abbrev b_Open_pop : ByteArray := prog_6_method_6_code
def y_Open_top : MethodName := ⟨R_Open, "top", "()I"⟩
abbrev b_Open_top : ByteArray := prog_6_method_7_code
def y_Open_at : MethodName := ⟨R_Open, "at", "(I)I"⟩
abbrev b_Open_at : ByteArray := prog_6_method_8_code
def y_Open_belowLets : MethodName := ⟨R_Open, "belowLets", "()I"⟩
abbrev b_Open_belowLets : ByteArray := prog_6_method_9_code
def y_Open_belowLetsAndLaidBlocks : MethodName := ⟨R_Open, "belowLetsAndLaidBlocks", "()I"⟩
abbrev b_Open_belowLetsAndLaidBlocks : ByteArray := prog_6_method_10_code
def y_Open_dropLets : MethodName := ⟨R_Open, "dropLets", "()V"⟩
abbrev b_Open_dropLets : ByteArray := prog_6_method_11_code
def y_Open_latestColumn : MethodName := ⟨R_Open, "latestColumn", "()I"⟩
abbrev b_Open_latestColumn : ByteArray := prog_6_method_12_code
def y_Resolver_init : MethodName := ⟨R_Resolver, "<init>", "()V"⟩
abbrev b_Resolver_init : ByteArray := prog_7_method_1_code
def y_Resolver_clear : MethodName := ⟨R_Resolver, "clear", "()V"⟩
abbrev b_Resolver_clear : ByteArray := prog_7_method_2_code
def y_Resolver_startRow : MethodName := ⟨R_Resolver, "startRow", "()V"⟩
abbrev b_Resolver_startRow : ByteArray := prog_7_method_3_code
def y_Resolver_giveUpRow : MethodName := ⟨R_Resolver, "giveUpRow", "()V"⟩
abbrev b_Resolver_giveUpRow : ByteArray := prog_7_method_4_code
def y_Resolver_finishRow : MethodName := ⟨R_Resolver, "finishRow", "()V"⟩
abbrev b_Resolver_finishRow : ByteArray := prog_7_method_5_code
def y_Resolver_takeOperand : MethodName := ⟨R_Resolver, "takeOperand", "(II)V"⟩
abbrev b_Resolver_takeOperand : ByteArray := prog_7_method_6_code
def y_Resolver_takeMinus : MethodName := ⟨R_Resolver, "takeMinus", "(I)Z"⟩
abbrev b_Resolver_takeMinus : ByteArray := prog_7_method_7_code
def y_Resolver_takeOperation : MethodName := ⟨R_Resolver, "takeOperation", "(II)Z"⟩
abbrev b_Resolver_takeOperation : ByteArray := prog_7_method_8_code
def y_Resolver_letWait : MethodName := ⟨R_Resolver, "letWait", "(III)V"⟩
abbrev b_Resolver_letWait : ByteArray := prog_7_method_9_code
def y_Resolver_giveSides : MethodName := ⟨R_Resolver, "giveSides", "()V"⟩
abbrev b_Resolver_giveSides : ByteArray := prog_7_method_10_code
def y_Resolver_tally : MethodName := ⟨R_Resolver, "tally", "([I[I)V"⟩
abbrev b_Resolver_tally : ByteArray := prog_7_method_11_code
def y_Row_init : MethodName := ⟨R_Row, "<init>", "()V"⟩
abbrev b_Row_init : ByteArray := prog_8_method_1_code
def y_Row_clear : MethodName := ⟨R_Row, "clear", "()V"⟩
abbrev b_Row_clear : ByteArray := prog_8_method_2_code
def y_Row_size : MethodName := ⟨R_Row, "size", "()I"⟩
abbrev b_Row_size : ByteArray := prog_8_method_3_code
def y_Row_isWhole : MethodName := ⟨R_Row, "isWhole", "()Z"⟩
abbrev b_Row_isWhole : ByteArray := prog_8_method_4_code
def y_Row_endsWithOperand : MethodName := ⟨R_Row, "endsWithOperand", "()Z"⟩
abbrev b_Row_endsWithOperand : ByteArray := prog_8_method_5_code
def y_Row_addOperand : MethodName := ⟨R_Row, "addOperand", "(II)V"⟩
abbrev b_Row_addOperand : ByteArray := prog_8_method_6_code
def y_Row_addOperation : MethodName := ⟨R_Row, "addOperation", "(IIZ)V"⟩
abbrev b_Row_addOperation : ByteArray := prog_8_method_7_code
def y_Row_add : MethodName := ⟨R_Row, "add", "(III)V"⟩
abbrev b_Row_add : ByteArray := prog_8_method_8_code
def y_Row_has : MethodName := ⟨R_Row, "has", "(I)Z"⟩
abbrev b_Row_has : ByteArray := prog_8_method_9_code
def y_Row_partAt : MethodName := ⟨R_Row, "partAt", "(I)I"⟩
abbrev b_Row_partAt : ByteArray := prog_8_method_10_code
def y_Row_firstAt : MethodName := ⟨R_Row, "firstAt", "(I)I"⟩
abbrev b_Row_firstAt : ByteArray := prog_8_method_11_code
def y_Row_lastAt : MethodName := ⟨R_Row, "lastAt", "(I)I"⟩
abbrev b_Row_lastAt : ByteArray := prog_8_method_12_code
def y_Rows_init : MethodName := ⟨R_Rows, "<init>", "()V"⟩
abbrev b_Rows_init : ByteArray := prog_9_method_1_code
def y_Rows_together : MethodName := ⟨R_Rows, "together", "()I"⟩
abbrev b_Rows_together : ByteArray := prog_9_method_2_code
def y_Rows_inConflict : MethodName := ⟨R_Rows, "inConflict", "()I"⟩
abbrev b_Rows_inConflict : ByteArray := prog_9_method_3_code
def y_Rows_putTogether : MethodName := ⟨R_Rows, "putTogether", "(LLayoutFront$Tokens;LLayoutFront$Fixities;)V"⟩
abbrev b_Rows_putTogether : ByteArray := prog_9_method_4_code
def y_Rows_copyInto : MethodName := ⟨R_Rows, "copyInto", "(LLayoutFront$Tokens;LLayoutFront$Tokens;)V"⟩
abbrev b_Rows_copyInto : ByteArray := prog_9_method_5_code
def y_Rows_matchBrackets : MethodName := ⟨R_Rows, "matchBrackets", "(LLayoutFront$Tokens;)V"⟩
abbrev b_Rows_matchBrackets : ByteArray := prog_9_method_6_code
def y_Rows_closerOf : MethodName := ⟨R_Rows, "closerOf", "(I)I"⟩
abbrev b_Rows_closerOf : ByteArray := prog_9_method_7_code
def y_Rows_putLevelTogether : MethodName := ⟨R_Rows, "putLevelTogether", "(LLayoutFront$Tokens;IILLayoutFront$Fixities;)V"⟩
abbrev b_Rows_putLevelTogether : ByteArray := prog_9_method_8_code
def y_Rows_collectRow : MethodName := ⟨R_Rows, "collectRow", "(LLayoutFront$Tokens;II)I"⟩
abbrev b_Rows_collectRow : ByteArray := prog_9_method_9_code
def y_Rows_behindOperand : MethodName := ⟨R_Rows, "behindOperand", "(LLayoutFront$Tokens;I)I"⟩
abbrev b_Rows_behindOperand : ByteArray := prog_9_method_10_code
def y_Rows_behindOperation : MethodName := ⟨R_Rows, "behindOperation", "(LLayoutFront$Tokens;I)I"⟩
abbrev b_Rows_behindOperation : ByteArray := prog_9_method_11_code
def y_Rows_putRowTogether : MethodName := ⟨R_Rows, "putRowTogether", "(LLayoutFront$Tokens;LLayoutFront$Fixities;)V"⟩
abbrev b_Rows_putRowTogether : ByteArray := prog_9_method_12_code
def y_Rows_take : MethodName := ⟨R_Rows, "take", "(LLayoutFront$Tokens;ILLayoutFront$Fixities;)Z"⟩
abbrev b_Rows_take : ByteArray := prog_9_method_13_code
def y_Text_init : MethodName := ⟨R_Text, "<init>", "()V"⟩
abbrev b_Text_init : ByteArray := prog_10_method_1_code
def y_Text_areCharacters : MethodName := ⟨R_Text, "areCharacters", "(JI)Z"⟩
abbrev b_Text_areCharacters : ByteArray := prog_10_method_2_code
def y_Text_byteOf : MethodName := ⟨R_Text, "byteOf", "(JI)I"⟩
abbrev b_Text_byteOf : ByteArray := prog_10_method_3_code
def y_Text_length : MethodName := ⟨R_Text, "length", "()I"⟩
abbrev b_Text_length : ByteArray := prog_10_method_4_code
def y_Text_hasRoomFor : MethodName := ⟨R_Text, "hasRoomFor", "(I)Z"⟩
abbrev b_Text_hasRoomFor : ByteArray := prog_10_method_5_code
def y_Text_append : MethodName := ⟨R_Text, "append", "(JI)V"⟩
abbrev b_Text_append : ByteArray := prog_10_method_6_code
def y_Text_clear : MethodName := ⟨R_Text, "clear", "()V"⟩
abbrev b_Text_clear : ByteArray := prog_10_method_7_code
def y_Text_at : MethodName := ⟨R_Text, "at", "(I)C"⟩
abbrev b_Text_at : ByteArray := prog_10_method_8_code
def y_Text_packed : MethodName := ⟨R_Text, "packed", "(II)J"⟩
abbrev b_Text_packed : ByteArray := prog_10_method_9_code
def y_Text_number : MethodName := ⟨R_Text, "number", "(II)J"⟩
abbrev b_Text_number : ByteArray := prog_10_method_10_code
def y_Tokens_init : MethodName := ⟨R_Tokens, "<init>", "(I)V"⟩
abbrev b_Tokens_init : ByteArray := prog_11_method_1_code
def y_Tokens_clear : MethodName := ⟨R_Tokens, "clear", "()V"⟩
abbrev b_Tokens_clear : ByteArray := prog_11_method_2_code
def y_Tokens_size : MethodName := ⟨R_Tokens, "size", "()I"⟩
abbrev b_Tokens_size : ByteArray := prog_11_method_3_code
def y_Tokens_add : MethodName := ⟨R_Tokens, "add", "(IJ)V"⟩
abbrev b_Tokens_add : ByteArray := prog_11_method_4_code
def y_Tokens_addTimes : MethodName := ⟨R_Tokens, "addTimes", "(IIJ)V"⟩
abbrev b_Tokens_addTimes : ByteArray := prog_11_method_5_code
def y_Tokens_has : MethodName := ⟨R_Tokens, "has", "(I)Z"⟩
abbrev b_Tokens_has : ByteArray := prog_11_method_6_code
def y_Tokens_kindAt : MethodName := ⟨R_Tokens, "kindAt", "(I)I"⟩
abbrev b_Tokens_kindAt : ByteArray := prog_11_method_7_code
def y_Tokens_valueAt : MethodName := ⟨R_Tokens, "valueAt", "(I)J"⟩
abbrev b_Tokens_valueAt : ByteArray := prog_11_method_8_code
def y_Tokens_isSign : MethodName := ⟨R_Tokens, "isSign", "(IC)Z"⟩
abbrev b_Tokens_isSign : ByteArray := prog_11_method_9_code
def y_Tokens_opensBracket : MethodName := ⟨R_Tokens, "opensBracket", "(I)Z"⟩
abbrev b_Tokens_opensBracket : ByteArray := prog_11_method_10_code
def y_Tokens_closesBracket : MethodName := ⟨R_Tokens, "closesBracket", "(I)Z"⟩
abbrev b_Tokens_closesBracket : ByteArray := prog_11_method_11_code
def y_Tokens_wordAt : MethodName := ⟨R_Tokens, "wordAt", "(I)I"⟩
abbrev b_Tokens_wordAt : ByteArray := prog_11_method_12_code
def y_Tokens_isFreeName : MethodName := ⟨R_Tokens, "isFreeName", "(I)Z"⟩
abbrev b_Tokens_isFreeName : ByteArray := prog_11_method_13_code
def y_Tokens_isFreeOperator : MethodName := ⟨R_Tokens, "isFreeOperator", "(I)Z"⟩
abbrev b_Tokens_isFreeOperator : ByteArray := prog_11_method_14_code
def y_Tokens_find : MethodName := ⟨R_Tokens, "find", "([JJ)I"⟩
abbrev b_Tokens_find : ByteArray := prog_11_method_15_code
def y_Law_write : MethodName := ⟨R_Law, "write", "(LLayoutFront;JI[J)I"⟩
abbrev b_Law_write : ByteArray := method_3_code
def y_Law_fixity : MethodName := ⟨R_Law, "fixity", "(LLayoutFront;JII[J)I"⟩
abbrev b_Law_fixity : ByteArray := method_4_code
def y_Law_read : MethodName := ⟨R_Law, "read", "(LLayoutFront;[J)I"⟩
abbrev b_Law_read : ByteArray := method_5_code
def y_Law_kind : MethodName := ⟨R_Law, "kind", "(LLayoutFront;I[J)I"⟩
abbrev b_Law_kind : ByteArray := method_6_code
def y_Law_token : MethodName := ⟨R_Law, "token", "(LLayoutFront;I[J)I"⟩
abbrev b_Law_token : ByteArray := method_7_code
def y_Law_count : MethodName := ⟨R_Law, "count", "(LLayoutFront;I[J)I"⟩
abbrev b_Law_count : ByteArray := method_8_code
def y_Law_law : MethodName := ⟨R_Law, "law", "([I)Z"⟩
def y_JS_indexOf0 : MethodName := ⟨R_JS, "indexOf", "(I)I"⟩
abbrev b_JS_indexOf0 : ByteArray := prog_21_method_79_code
def y_JS_indexOf1 : MethodName := ⟨R_JS, "indexOf", "(II)I"⟩
abbrev b_JS_indexOf1 : ByteArray := prog_21_method_80_code
def y_JS_isLatin1 : MethodName := ⟨R_JS, "isLatin1", "()Z"⟩
abbrev b_JS_isLatin1 : ByteArray := prog_21_method_154_code
def y_JS_length : MethodName := ⟨R_JS, "length", "()I"⟩
abbrev b_JS_length : ByteArray := prog_21_method_54_code
def y_JS_coder : MethodName := ⟨R_JS, "coder", "()B"⟩
abbrev b_JS_coder : ByteArray := prog_21_method_152_code
def y_JL_canEncode : MethodName := ⟨R_JL, "canEncode", "(I)Z"⟩
abbrev b_JL_canEncode : ByteArray := prog_22_method_4_code
def y_JL_indexOf : MethodName := ⟨R_JL, "indexOf", "([BIII)I"⟩
abbrev b_JL_indexOf : ByteArray := prog_22_method_22_code
def y_JL_indexOfChar : MethodName := ⟨R_JL, "indexOfChar", "([BIII)I"⟩
abbrev b_JL_indexOfChar : ByteArray := prog_22_method_23_code
def xIAE : String := "java/lang/IllegalArgumentException"
def xISE : String := "java/lang/IllegalStateException"
def xIOB : String := "java/lang/IndexOutOfBoundsException"
def wz_0 : List Cond := [.instanceMethod objectInit, .code objectInit ⟨#[0xb1]⟩ 1 none, .arrayClass .char, .fieldLink R_Text 9 "LayoutFront$Text" "characters" "[C", .methodLink R_Text 3 objectInit, .methodLink R_Text 15 y_Text_byteOf, .static y_Text_byteOf, .initialized R_Text, .code y_Text_byteOf b_Text_byteOf 3 (some .int), .fieldLink R_Text 19 "LayoutFront$Text" "length" "I", .methodLink R_Text 23 y_Text_at, .instanceMethod y_Text_at, .selects R_Text y_Text_at y_Text_at, .code y_Text_at b_Text_at 2 (some .char), .constantLong R_Text 27 10, .arrayClass .long, .fieldLink R_Fixities 9 "LayoutFront$Fixities" "names" "[J", .arrayClass .int, .fieldLink R_Fixities 15 "LayoutFront$Fixities" "sides" "[I", .fieldLink R_Fixities 19 "LayoutFront$Fixities" "levels" "[I", .methodLink R_Fixities 3 objectInit, .fieldLink R_Fixities 22 "LayoutFront$Fixities" "size" "I", .methodLink R_Fixities 26 y_Fixities_find, .instanceMethod y_Fixities_find, .selects R_Fixities y_Fixities_find y_Fixities_find, .initialized R_Fixities, .code y_Fixities_find b_Fixities_find 4 (some .int), .methodLink R_Fixities 30 Lib.Math.max.name, .fieldLink R_Tokens 9 "LayoutFront$Tokens" "kinds" "[I", .fieldLink R_Tokens 15 "LayoutFront$Tokens" "values" "[J"]
def wz_1 : List Cond := [.methodLink R_Tokens 3 objectInit, .fieldLink R_Tokens 19 "LayoutFront$Tokens" "size" "I", .methodLink R_Tokens 23 y_Tokens_add, .instanceMethod y_Tokens_add, .selects R_Tokens y_Tokens_add y_Tokens_add, .initialized R_Tokens, .code y_Tokens_add b_Tokens_add 4 none, .methodLink R_Tokens 27 y_Tokens_has, .instanceMethod y_Tokens_has, .selects R_Tokens y_Tokens_has y_Tokens_has, .code y_Tokens_has b_Tokens_has 2 (some .boolean), .methodLink R_Tokens 31 y_Tokens_isSign, .instanceMethod y_Tokens_isSign, .selects R_Tokens y_Tokens_isSign y_Tokens_isSign, .code y_Tokens_isSign b_Tokens_isSign 3 (some .boolean), .methodLink R_Tokens 38 y_Tokens_find, .static y_Tokens_find, .code y_Tokens_find b_Tokens_find 4 (some .int), .classLink R_Lexemes 9 R_Tokens, .instantiable R_Tokens 3, .methodLink R_Lexemes 11 y_Tokens_init, .instanceMethod y_Tokens_init, .code y_Tokens_init b_Tokens_init 2 none, .fieldLink R_Lexemes 14 "LayoutFront$Lexemes" "tokens" "LLayoutFront$Tokens;", .fieldLink R_Lexemes 20 "LayoutFront$Lexemes" "places" "[I", .fieldLink R_Lexemes 24 "LayoutFront$Lexemes" "columns" "[I", .arrayClass .boolean, .fieldLink R_Lexemes 27 "LayoutFront$Lexemes" "lineFirsts" "[Z", .methodLink R_Lexemes 3 objectInit, .methodLink R_Lexemes 31 y_Tokens_clear]
def wz_2 : List Cond := [.instanceMethod y_Tokens_clear, .selects R_Tokens y_Tokens_clear y_Tokens_clear, .code y_Tokens_clear b_Tokens_clear 1 none, .methodLink R_Lexemes 34 y_Tokens_size, .instanceMethod y_Tokens_size, .selects R_Tokens y_Tokens_size y_Tokens_size, .code y_Tokens_size b_Tokens_size 1 (some .int), .methodLink R_Lexemes 38 y_Tokens_add, .methodLink R_Lexemes 42 y_Tokens_has, .classLink R_Cutter 9 R_Lexemes, .instantiable R_Lexemes 4, .initialized R_Lexemes, .instanceMethod y_Lexemes_init, .code y_Lexemes_init b_Lexemes_init 1 none, .fieldLink R_Cutter 12 "LayoutFront$Cutter" "lexemes" "LLayoutFront$Lexemes;", .fieldLink R_Cutter 18 "LayoutFront$Cutter" "wrongPlace" "I", .methodLink R_Cutter 3 objectInit, .fieldLink R_Cutter 22 "LayoutFront$Cutter" "tooMany" "Z", .methodLink R_Cutter 26 y_Lexemes_clear, .instanceMethod y_Lexemes_clear, .selects R_Lexemes y_Lexemes_clear y_Lexemes_clear, .code y_Lexemes_clear b_Lexemes_clear 1 none, .fieldLink R_Cutter 29 "LayoutFront$Cutter" "at" "I", .fieldLink R_Cutter 32 "LayoutFront$Cutter" "lineStart" "I", .fieldLink R_Cutter 35 "LayoutFront$Cutter" "lineIsFresh" "Z", .methodLink R_Cutter 38 y_Text_length, .instanceMethod y_Text_length, .selects R_Text y_Text_length y_Text_length, .code y_Text_length b_Text_length 1 (some .int), .methodLink R_Cutter 44 y_Text_at]
def wz_3 : List Cond := [.methodLink R_Cutter 47 y_Cutter_isBlank, .static y_Cutter_isBlank, .initialized R_Cutter, .code y_Cutter_isBlank b_Cutter_isBlank 1 (some .boolean), .methodLink R_Cutter 51 y_Cutter_passCharacter, .instanceMethod y_Cutter_passCharacter, .selects R_Cutter y_Cutter_passCharacter y_Cutter_passCharacter, .code y_Cutter_passCharacter b_Cutter_passCharacter 2 none, .methodLink R_Cutter 55 y_Cutter_opensComment, .static y_Cutter_opensComment, .code y_Cutter_opensComment b_Cutter_opensComment 2 (some .boolean), .methodLink R_Cutter 59 y_Cutter_passComment, .instanceMethod y_Cutter_passComment, .selects R_Cutter y_Cutter_passComment y_Cutter_passComment, .code y_Cutter_passComment b_Cutter_passComment 5 none, .methodLink R_Cutter 63 y_Cutter_cutLexeme, .instanceMethod y_Cutter_cutLexeme, .selects R_Cutter y_Cutter_cutLexeme y_Cutter_cutLexeme, .code y_Cutter_cutLexeme b_Cutter_cutLexeme 4 none, .methodLink R_Cutter 66 y_Cutter_closesComment, .static y_Cutter_closesComment, .code y_Cutter_closesComment b_Cutter_closesComment 2 (some .boolean), .methodLink R_Cutter 69 y_Cutter_kindBegunBy, .static y_Cutter_kindBegunBy, .code y_Cutter_kindBegunBy b_Cutter_kindBegunBy 1 (some .int), .methodLink R_Cutter 73 y_Cutter_lexemeEnd, .instanceMethod y_Cutter_lexemeEnd, .selects R_Cutter y_Cutter_lexemeEnd y_Cutter_lexemeEnd, .code y_Cutter_lexemeEnd b_Cutter_lexemeEnd 4 (some .int), .methodLink R_Cutter 77 y_Cutter_isDashes]
def wz_4 : List Cond := [.instanceMethod y_Cutter_isDashes, .selects R_Cutter y_Cutter_isDashes y_Cutter_isDashes, .code y_Cutter_isDashes b_Cutter_isDashes 4 (some .boolean), .methodLink R_Cutter 80 y_Cutter_lineEnd, .static y_Cutter_lineEnd, .code y_Cutter_lineEnd b_Cutter_lineEnd 3 (some .int), .methodLink R_Cutter 83 y_Cutter_longest, .static y_Cutter_longest, .code y_Cutter_longest b_Cutter_longest 1 (some .int), .methodLink R_Cutter 87 y_Lexemes_isFull, .instanceMethod y_Lexemes_isFull, .selects R_Lexemes y_Lexemes_isFull y_Lexemes_isFull, .code y_Lexemes_isFull b_Lexemes_isFull 1 (some .boolean), .methodLink R_Cutter 91 y_Cutter_take, .instanceMethod y_Cutter_take, .selects R_Cutter y_Cutter_take y_Cutter_take, .code y_Cutter_take b_Cutter_take 6 none, .methodLink R_Cutter 95 y_Text_number, .instanceMethod y_Text_number, .selects R_Text y_Text_number y_Text_number, .code y_Text_number b_Text_number 6 (some .long), .methodLink R_Cutter 99 y_Text_packed, .instanceMethod y_Text_packed, .selects R_Text y_Text_packed y_Text_packed, .code y_Text_packed b_Text_packed 6 (some .long), .methodLink R_Cutter 102 y_Lexemes_add, .instanceMethod y_Lexemes_add, .selects R_Lexemes y_Lexemes_add y_Lexemes_add, .code y_Lexemes_add b_Lexemes_add 8 none, .methodLink R_Cutter 106 y_Cutter_isLetter]
def wz_5 : List Cond := [.static y_Cutter_isLetter, .code y_Cutter_isLetter b_Cutter_isLetter 1 (some .boolean), .methodLink R_Cutter 109 y_Cutter_isDigit, .static y_Cutter_isDigit, .code y_Cutter_isDigit b_Cutter_isDigit 1 (some .boolean), .methodLink R_Cutter 112 y_Cutter_isOperatorPart, .static y_Cutter_isOperatorPart, .code y_Cutter_isOperatorPart b_Cutter_isOperatorPart 1 (some .boolean), .methodLink R_Cutter 115 y_Cutter_isSign, .static y_Cutter_isSign, .code y_Cutter_isSign b_Cutter_isSign 1 (some .boolean), .methodLink R_Cutter 118 y_Cutter_goesOn, .static y_Cutter_goesOn, .code y_Cutter_goesOn b_Cutter_goesOn 2 (some .boolean), .methodLink R_Cutter 124 y_JS_indexOf0, .instanceMethod y_JS_indexOf0, .selects R_JS y_JS_indexOf0 y_JS_indexOf0, .initialized R_JS, .code y_JS_indexOf0 b_JS_indexOf0 2 (some .int), .fieldLink R_Open 9 "LayoutFront$Open" "things" "[I", .methodLink R_Open 3 objectInit, .fieldLink R_Open 15 "LayoutFront$Open" "size" "I", .fieldLink R_Open 19 "LayoutFront$Open" "most" "I", .methodLink R_Open 22 Lib.Math.max.name, .methodLink R_Open 28 y_Open_at, .instanceMethod y_Open_at, .selects R_Open y_Open_at y_Open_at, .initialized R_Open, .code y_Open_at b_Open_at 2 (some .int), .classLink R_Blocks 9 R_Open]
def wz_6 : List Cond := [.instantiable R_Open 3, .instanceMethod y_Open_init, .code y_Open_init b_Open_init 1 none, .fieldLink R_Blocks 12 "LayoutFront$Blocks" "open" "LLayoutFront$Open;", .classLink R_Blocks 18 R_Tokens, .methodLink R_Blocks 20 y_Tokens_init, .fieldLink R_Blocks 23 "LayoutFront$Blocks" "laid" "LLayoutFront$Tokens;", .methodLink R_Blocks 3 objectInit, .fieldLink R_Blocks 27 "LayoutFront$Blocks" "begun" "I", .methodLink R_Blocks 31 y_Open_most, .instanceMethod y_Open_most, .selects R_Open y_Open_most y_Open_most, .code y_Open_most b_Open_most 1 (some .int), .methodLink R_Blocks 35 y_Open_clear, .instanceMethod y_Open_clear, .selects R_Open y_Open_clear y_Open_clear, .code y_Open_clear b_Open_clear 1 none, .methodLink R_Blocks 38 y_Tokens_clear, .methodLink R_Blocks 39 y_Lexemes_size, .instanceMethod y_Lexemes_size, .selects R_Lexemes y_Lexemes_size y_Lexemes_size, .code y_Lexemes_size b_Lexemes_size 1 (some .int), .methodLink R_Blocks 44 y_Blocks_putBefore, .instanceMethod y_Blocks_putBefore, .selects R_Blocks y_Blocks_putBefore y_Blocks_putBefore, .initialized R_Blocks, .code y_Blocks_putBefore b_Blocks_putBefore 3 none, .methodLink R_Blocks 48 y_Lexemes_tokens, .instanceMethod y_Lexemes_tokens, .selects R_Lexemes y_Lexemes_tokens y_Lexemes_tokens]
def wz_7 : List Cond := [.code y_Lexemes_tokens b_Lexemes_tokens 1 (some (.object "LayoutFront$Tokens")), .methodLink R_Blocks 52 y_Tokens_kindAt, .instanceMethod y_Tokens_kindAt, .selects R_Tokens y_Tokens_kindAt y_Tokens_kindAt, .code y_Tokens_kindAt b_Tokens_kindAt 2 (some .int), .methodLink R_Blocks 56 y_Tokens_valueAt, .instanceMethod y_Tokens_valueAt, .selects R_Tokens y_Tokens_valueAt y_Tokens_valueAt, .code y_Tokens_valueAt b_Tokens_valueAt 2 (some .long), .methodLink R_Blocks 60 y_Blocks_passSign, .instanceMethod y_Blocks_passSign, .selects R_Blocks y_Blocks_passSign y_Blocks_passSign, .code y_Blocks_passSign b_Blocks_passSign 2 (some .boolean), .methodLink R_Blocks 64 y_Tokens_wordAt, .instanceMethod y_Tokens_wordAt, .selects R_Tokens y_Tokens_wordAt y_Tokens_wordAt, .code y_Tokens_wordAt b_Tokens_wordAt 2 (some .int), .methodLink R_Blocks 67 y_Blocks_passWord, .instanceMethod y_Blocks_passWord, .selects R_Blocks y_Blocks_passWord y_Blocks_passWord, .code y_Blocks_passWord b_Blocks_passWord 3 (some .boolean), .methodLink R_Blocks 71 y_Lexemes_placeAt, .instanceMethod y_Lexemes_placeAt, .selects R_Lexemes y_Lexemes_placeAt y_Lexemes_placeAt, .code y_Lexemes_placeAt b_Lexemes_placeAt 2 (some .int), .methodLink R_Blocks 74 y_Tokens_add, .methodLink R_Blocks 78 y_Blocks_closeBlocks, .instanceMethod y_Blocks_closeBlocks, .selects R_Blocks y_Blocks_closeBlocks y_Blocks_closeBlocks, .code y_Blocks_closeBlocks b_Blocks_closeBlocks 3 none]
def wz_8 : List Cond := [.methodLink R_Blocks 82 y_Open_size, .instanceMethod y_Open_size, .selects R_Open y_Open_size y_Open_size, .code y_Open_size b_Open_size 1 (some .int), .methodLink R_Blocks 83 y_Blocks_beginsBlock, .static y_Blocks_beginsBlock, .code y_Blocks_beginsBlock b_Blocks_beginsBlock 2 (some .boolean), .methodLink R_Blocks 87 y_Lexemes_columnAt, .instanceMethod y_Lexemes_columnAt, .selects R_Lexemes y_Lexemes_columnAt y_Lexemes_columnAt, .code y_Lexemes_columnAt b_Lexemes_columnAt 2 (some .int), .methodLink R_Blocks 90 y_Blocks_begin, .instanceMethod y_Blocks_begin, .selects R_Blocks y_Blocks_begin y_Blocks_begin, .code y_Blocks_begin b_Blocks_begin 2 none, .methodLink R_Blocks 93 y_Lexemes_isLineFirst, .instanceMethod y_Lexemes_isLineFirst, .selects R_Lexemes y_Lexemes_isLineFirst y_Lexemes_isLineFirst, .code y_Lexemes_isLineFirst b_Lexemes_isLineFirst 2 (some .boolean), .methodLink R_Blocks 96 y_Blocks_mark, .instanceMethod y_Blocks_mark, .selects R_Blocks y_Blocks_mark y_Blocks_mark, .code y_Blocks_mark b_Blocks_mark 3 none, .methodLink R_Blocks 99 y_Tokens_isSign, .methodLink R_Blocks 103 y_Blocks_putIn, .instanceMethod y_Blocks_putIn, .selects R_Blocks y_Blocks_putIn y_Blocks_putIn, .code y_Blocks_putIn b_Blocks_putIn 2 none, .methodLink R_Blocks 107 y_Open_latestColumn, .instanceMethod y_Open_latestColumn]
def wz_9 : List Cond := [.selects R_Open y_Open_latestColumn y_Open_latestColumn, .code y_Open_latestColumn b_Open_latestColumn 2 (some .int), .methodLink R_Blocks 110 y_Open_push, .instanceMethod y_Open_push, .selects R_Open y_Open_push y_Open_push, .code y_Open_push b_Open_push 2 none, .methodLink R_Blocks 113 y_Open_belowLets, .instanceMethod y_Open_belowLets, .selects R_Open y_Open_belowLets y_Open_belowLets, .code y_Open_belowLets b_Open_belowLets 2 (some .int), .methodLink R_Blocks 116 y_Open_dropLets, .instanceMethod y_Open_dropLets, .selects R_Open y_Open_dropLets y_Open_dropLets, .code y_Open_dropLets b_Open_dropLets 1 none, .methodLink R_Blocks 119 y_Open_pop, .instanceMethod y_Open_pop, .selects R_Open y_Open_pop y_Open_pop, .code y_Open_pop b_Open_pop 1 none, .methodLink R_Blocks 122 y_Blocks_end, .instanceMethod y_Blocks_end, .selects R_Blocks y_Blocks_end y_Blocks_end, .code y_Blocks_end b_Blocks_end 3 (some .boolean), .methodLink R_Blocks 125 y_Blocks_passBrace, .instanceMethod y_Blocks_passBrace, .selects R_Blocks y_Blocks_passBrace y_Blocks_passBrace, .code y_Blocks_passBrace b_Blocks_passBrace 2 (some .boolean), .methodLink R_Blocks 129 y_Blocks_passComma, .instanceMethod y_Blocks_passComma, .selects R_Blocks y_Blocks_passComma y_Blocks_passComma, .code y_Blocks_passComma b_Blocks_passComma 2 none]
def wz_10 : List Cond := [.methodLink R_Blocks 132 y_Open_top, .instanceMethod y_Open_top, .selects R_Open y_Open_top y_Open_top, .code y_Open_top b_Open_top 1 (some .int), .methodLink R_Blocks 135 y_Open_belowLetsAndLaidBlocks, .instanceMethod y_Open_belowLetsAndLaidBlocks, .selects R_Open y_Open_belowLetsAndLaidBlocks y_Open_belowLetsAndLaidBlocks, .code y_Open_belowLetsAndLaidBlocks b_Open_belowLetsAndLaidBlocks 2 (some .int), .fieldLink R_Row 9 "LayoutFront$Row" "parts" "[I", .fieldLink R_Row 15 "LayoutFront$Row" "firsts" "[I", .fieldLink R_Row 18 "LayoutFront$Row" "lasts" "[I", .methodLink R_Row 3 objectInit, .fieldLink R_Row 21 "LayoutFront$Row" "size" "I", .fieldLink R_Row 25 "LayoutFront$Row" "operates" "Z", .fieldLink R_Row 29 "LayoutFront$Row" "lacksOperand" "Z", .methodLink R_Row 32 y_Row_endsWithOperand, .instanceMethod y_Row_endsWithOperand, .selects R_Row y_Row_endsWithOperand y_Row_endsWithOperand, .initialized R_Row, .code y_Row_endsWithOperand b_Row_endsWithOperand 1 (some .boolean), .methodLink R_Row 36 y_Row_add, .instanceMethod y_Row_add, .selects R_Row y_Row_add y_Row_add, .code y_Row_add b_Row_add 4 none, .methodLink R_Row 40 y_Row_has, .instanceMethod y_Row_has, .selects R_Row y_Row_has y_Row_has, .code y_Row_has b_Row_has 2 (some .boolean), .fieldLink R_Resolver 9 "LayoutFront$Resolver" "pairFirsts" "[I", .fieldLink R_Resolver 15 "LayoutFront$Resolver" "pairLasts" "[I"]
def wz_11 : List Cond := [.fieldLink R_Resolver 18 "LayoutFront$Resolver" "firsts" "[I", .fieldLink R_Resolver 21 "LayoutFront$Resolver" "lasts" "[I", .fieldLink R_Resolver 24 "LayoutFront$Resolver" "levels" "[I", .fieldLink R_Resolver 27 "LayoutFront$Resolver" "sides" "[I", .fieldLink R_Resolver 30 "LayoutFront$Resolver" "minusPlaces" "[I", .methodLink R_Resolver 3 objectInit, .fieldLink R_Resolver 33 "LayoutFront$Resolver" "pairs" "I", .methodLink R_Resolver 37 y_Resolver_startRow, .instanceMethod y_Resolver_startRow, .selects R_Resolver y_Resolver_startRow y_Resolver_startRow, .initialized R_Resolver, .code y_Resolver_startRow b_Resolver_startRow 1 none, .fieldLink R_Resolver 40 "LayoutFront$Resolver" "pairsBefore" "I", .fieldLink R_Resolver 43 "LayoutFront$Resolver" "operands" "I", .fieldLink R_Resolver 46 "LayoutFront$Resolver" "waiting" "I", .methodLink R_Resolver 49 y_Resolver_giveSides, .instanceMethod y_Resolver_giveSides, .selects R_Resolver y_Resolver_giveSides y_Resolver_giveSides, .code y_Resolver_giveSides b_Resolver_giveSides 1 none, .methodLink R_Resolver 52 y_Resolver_letWait, .instanceMethod y_Resolver_letWait, .selects R_Resolver y_Resolver_letWait y_Resolver_letWait, .code y_Resolver_letWait b_Resolver_letWait 4 none, .fieldLink R_Rows 9 "LayoutFront$Rows" "closers" "[I", .fieldLink R_Rows 15 "LayoutFront$Rows" "openers" "[I", .fieldLink R_Rows 18 "LayoutFront$Rows" "opened" "[I", .fieldLink R_Rows 21 "LayoutFront$Rows" "closed" "[I", .classLink R_Rows 24 R_Row, .instantiable R_Row 6, .instanceMethod y_Row_init]
def wz_12 : List Cond := [.code y_Row_init b_Row_init 1 none, .fieldLink R_Rows 27 "LayoutFront$Rows" "row" "LLayoutFront$Row;", .classLink R_Rows 31 R_Resolver, .instantiable R_Resolver 11, .instanceMethod y_Resolver_init, .code y_Resolver_init b_Resolver_init 1 none, .fieldLink R_Rows 34 "LayoutFront$Rows" "resolver" "LLayoutFront$Resolver;", .methodLink R_Rows 3 objectInit, .fieldLink R_Rows 38 "LayoutFront$Rows" "together" "I", .fieldLink R_Rows 42 "LayoutFront$Rows" "inConflict" "I", .methodLink R_Rows 45 y_Resolver_clear, .instanceMethod y_Resolver_clear, .selects R_Resolver y_Resolver_clear y_Resolver_clear, .code y_Resolver_clear b_Resolver_clear 1 none, .methodLink R_Rows 48 y_Rows_matchBrackets, .instanceMethod y_Rows_matchBrackets, .selects R_Rows y_Rows_matchBrackets y_Rows_matchBrackets, .initialized R_Rows, .code y_Rows_matchBrackets b_Rows_matchBrackets 4 none, .methodLink R_Rows 52 y_Tokens_size, .methodLink R_Rows 58 y_Rows_putLevelTogether, .instanceMethod y_Rows_putLevelTogether, .selects R_Rows y_Rows_putLevelTogether y_Rows_putLevelTogether, .code y_Rows_putLevelTogether b_Rows_putLevelTogether 7 none, .methodLink R_Rows 62 y_Tokens_opensBracket, .instanceMethod y_Tokens_opensBracket, .selects R_Tokens y_Tokens_opensBracket y_Tokens_opensBracket, .code y_Tokens_opensBracket b_Tokens_opensBracket 2 (some .boolean), .methodLink R_Rows 66 y_Rows_closerOf, .instanceMethod y_Rows_closerOf]
def wz_13 : List Cond := [.selects R_Rows y_Rows_closerOf y_Rows_closerOf, .code y_Rows_closerOf b_Rows_closerOf 2 (some .int), .methodLink R_Rows 70 y_Resolver_tally, .instanceMethod y_Resolver_tally, .selects R_Resolver y_Resolver_tally y_Resolver_tally, .code y_Resolver_tally b_Resolver_tally 6 none, .constantLong R_Rows 74 40, .methodLink R_Rows 76 y_Tokens_addTimes, .instanceMethod y_Tokens_addTimes, .selects R_Tokens y_Tokens_addTimes y_Tokens_addTimes, .code y_Tokens_addTimes b_Tokens_addTimes 6 none, .methodLink R_Rows 80 y_Tokens_kindAt, .methodLink R_Rows 83 y_Tokens_valueAt, .methodLink R_Rows 87 y_Tokens_add, .constantLong R_Rows 91 41, .methodLink R_Rows 93 y_Tokens_closesBracket, .instanceMethod y_Tokens_closesBracket, .selects R_Tokens y_Tokens_closesBracket y_Tokens_closesBracket, .code y_Tokens_closesBracket b_Tokens_closesBracket 2 (some .boolean), .methodLink R_Rows 96 y_Rows_collectRow, .instanceMethod y_Rows_collectRow, .selects R_Rows y_Rows_collectRow y_Rows_collectRow, .code y_Rows_collectRow b_Rows_collectRow 8 (some .int), .methodLink R_Rows 100 y_Row_isWhole, .instanceMethod y_Row_isWhole, .selects R_Row y_Row_isWhole y_Row_isWhole, .code y_Row_isWhole b_Row_isWhole 1 (some .boolean), .methodLink R_Rows 104 y_Rows_putRowTogether, .instanceMethod y_Rows_putRowTogether, .selects R_Rows y_Rows_putRowTogether y_Rows_putRowTogether]
def wz_14 : List Cond := [.code y_Rows_putRowTogether b_Rows_putRowTogether 4 none, .methodLink R_Rows 108 y_Row_clear, .instanceMethod y_Row_clear, .selects R_Row y_Row_clear y_Row_clear, .code y_Row_clear b_Row_clear 1 none, .methodLink R_Rows 109 y_Rows_behindOperand, .instanceMethod y_Rows_behindOperand, .selects R_Rows y_Rows_behindOperand y_Rows_behindOperand, .code y_Rows_behindOperand b_Rows_behindOperand 3 (some .int), .methodLink R_Rows 113 y_Rows_behindOperation, .static y_Rows_behindOperation, .code y_Rows_behindOperation b_Rows_behindOperation 2 (some .int), .methodLink R_Rows 116 y_Row_addOperand, .instanceMethod y_Row_addOperand, .selects R_Row y_Row_addOperand y_Row_addOperand, .code y_Row_addOperand b_Row_addOperand 3 none, .constantLong R_Rows 120 45, .methodLink R_Rows 122 y_Row_addOperation, .instanceMethod y_Row_addOperation, .selects R_Row y_Row_addOperation y_Row_addOperation, .code y_Row_addOperation b_Row_addOperation 5 none, .methodLink R_Rows 126 Lib.Math.max.name, .methodLink R_Rows 132 y_Tokens_isFreeName, .instanceMethod y_Tokens_isFreeName, .selects R_Tokens y_Tokens_isFreeName y_Tokens_isFreeName, .code y_Tokens_isFreeName b_Tokens_isFreeName 2 (some .boolean), .methodLink R_Rows 135 y_Tokens_isSign, .methodLink R_Rows 139 y_Tokens_isFreeOperator, .instanceMethod y_Tokens_isFreeOperator, .selects R_Tokens y_Tokens_isFreeOperator y_Tokens_isFreeOperator]
def wz_15 : List Cond := [.code y_Tokens_isFreeOperator b_Tokens_isFreeOperator 2 (some .boolean), .methodLink R_Rows 142 y_Resolver_startRow, .methodLink R_Rows 145 y_Row_size, .instanceMethod y_Row_size, .selects R_Row y_Row_size y_Row_size, .code y_Row_size b_Row_size 1 (some .int), .methodLink R_Rows 146 y_Rows_take, .instanceMethod y_Rows_take, .selects R_Rows y_Rows_take y_Rows_take, .code y_Rows_take b_Rows_take 8 (some .boolean), .methodLink R_Rows 150 y_Resolver_giveUpRow, .instanceMethod y_Resolver_giveUpRow, .selects R_Resolver y_Resolver_giveUpRow y_Resolver_giveUpRow, .code y_Resolver_giveUpRow b_Resolver_giveUpRow 1 none, .methodLink R_Rows 153 y_Resolver_finishRow, .instanceMethod y_Resolver_finishRow, .selects R_Resolver y_Resolver_finishRow y_Resolver_finishRow, .code y_Resolver_finishRow b_Resolver_finishRow 2 none, .methodLink R_Rows 156 y_Row_firstAt, .instanceMethod y_Row_firstAt, .selects R_Row y_Row_firstAt y_Row_firstAt, .code y_Row_firstAt b_Row_firstAt 2 (some .int), .methodLink R_Rows 159 y_Row_lastAt, .instanceMethod y_Row_lastAt, .selects R_Row y_Row_lastAt y_Row_lastAt, .code y_Row_lastAt b_Row_lastAt 2 (some .int), .methodLink R_Rows 162 y_Row_partAt, .instanceMethod y_Row_partAt, .selects R_Row y_Row_partAt y_Row_partAt, .code y_Row_partAt b_Row_partAt 2 (some .int)]
def wz_16 : List Cond := [.methodLink R_Rows 165 y_Fixities_levelOf, .instanceMethod y_Fixities_levelOf, .selects R_Fixities y_Fixities_levelOf y_Fixities_levelOf, .code y_Fixities_levelOf b_Fixities_levelOf 4 (some .int), .methodLink R_Rows 171 y_Fixities_sideOf, .instanceMethod y_Fixities_sideOf, .selects R_Fixities y_Fixities_sideOf y_Fixities_sideOf, .code y_Fixities_sideOf b_Fixities_sideOf 4 (some .int), .methodLink R_Rows 174 y_Resolver_takeOperation, .instanceMethod y_Resolver_takeOperation, .selects R_Resolver y_Resolver_takeOperation y_Resolver_takeOperation, .code y_Resolver_takeOperation b_Resolver_takeOperation 5 (some .boolean), .methodLink R_Rows 178 y_Resolver_takeMinus, .instanceMethod y_Resolver_takeMinus, .selects R_Resolver y_Resolver_takeMinus y_Resolver_takeMinus, .code y_Resolver_takeMinus b_Resolver_takeMinus 2 (some .boolean), .methodLink R_Rows 181 y_Resolver_takeOperand, .instanceMethod y_Resolver_takeOperand, .selects R_Resolver y_Resolver_takeOperand y_Resolver_takeOperand, .code y_Resolver_takeOperand b_Resolver_takeOperand 3 none, .classLink R_LF 9 R_Text, .instantiable R_Text 2, .instanceMethod y_Text_init, .code y_Text_init b_Text_init 1 none, .fieldLink R_LF 12 "LayoutFront" "text" "LLayoutFront$Text;", .classLink R_LF 16 R_Fixities, .instantiable R_Fixities 4, .instanceMethod y_Fixities_init, .code y_Fixities_init b_Fixities_init 1 none, .fieldLink R_LF 19 "LayoutFront" "fixities" "LLayoutFront$Fixities;"]
def wz_17 : List Cond := [.classLink R_LF 23 R_Cutter, .instantiable R_Cutter 6, .instanceMethod y_Cutter_init, .code y_Cutter_init b_Cutter_init 1 none, .fieldLink R_LF 26 "LayoutFront" "cutter" "LLayoutFront$Cutter;", .classLink R_LF 30 R_Blocks, .instantiable R_Blocks 3, .instanceMethod y_Blocks_init, .code y_Blocks_init b_Blocks_init 1 none, .fieldLink R_LF 33 "LayoutFront" "blocks" "LLayoutFront$Blocks;", .classLink R_LF 37 R_Rows, .instantiable R_Rows 8, .instanceMethod y_Rows_init, .code y_Rows_init b_Rows_init 1 none, .fieldLink R_LF 40 "LayoutFront" "rows" "LLayoutFront$Rows;", .classLink R_LF 44 R_Tokens, .methodLink R_LF 46 y_Tokens_init, .fieldLink R_LF 49 "LayoutFront" "tokens" "LLayoutFront$Tokens;", .fieldLink R_LF 53 "LayoutFront" "counts" "[I", .fieldLink R_LF 57 "LayoutFront" "wrongPlace" "I", .methodLink R_LF 3 objectInit, .methodLink R_LF 61 y_Text_areCharacters, .static y_Text_areCharacters, .code y_Text_areCharacters b_Text_areCharacters 5 (some .boolean), .methodLink R_LF 72 y_Text_hasRoomFor, .instanceMethod y_Text_hasRoomFor, .selects R_Text y_Text_hasRoomFor y_Text_hasRoomFor, .code y_Text_hasRoomFor b_Text_hasRoomFor 2 (some .boolean), .methodLink R_LF 81 y_Text_append, .instanceMethod y_Text_append]
def wz_18 : List Cond := [.selects R_Text y_Text_append y_Text_append, .code y_Text_append b_Text_append 5 none, .methodLink R_LF 85 y_Text_length, .classLink R_LF 65 xIAE, .instantiable xIAE 6, .initialized xIAE, .classLink R_LF 76 xISE, .instantiable xISE 6, .initialized xISE, .methodLink R_LF 89 y_Text_clear, .instanceMethod y_Text_clear, .selects R_Text y_Text_clear y_Text_clear, .code y_Text_clear b_Text_clear 1 none, .methodLink R_LF 94 y_Fixities_hasRoomFor, .instanceMethod y_Fixities_hasRoomFor, .selects R_Fixities y_Fixities_hasRoomFor y_Fixities_hasRoomFor, .code y_Fixities_hasRoomFor b_Fixities_hasRoomFor 3 (some .boolean), .methodLink R_LF 99 y_Fixities_set, .instanceMethod y_Fixities_set, .selects R_Fixities y_Fixities_set y_Fixities_set, .code y_Fixities_set b_Fixities_set 6 none, .methodLink R_LF 103 y_Fixities_size, .instanceMethod y_Fixities_size, .selects R_Fixities y_Fixities_size y_Fixities_size, .code y_Fixities_size b_Fixities_size 1 (some .int), .methodLink R_LF 106 y_Tokens_clear, .methodLink R_LF 107 y_Cutter_cut, .instanceMethod y_Cutter_cut, .selects R_Cutter y_Cutter_cut y_Cutter_cut, .code y_Cutter_cut b_Cutter_cut 3 (some .int)]
def wz_19 : List Cond := [.methodLink R_LF 111 y_Cutter_foundTooMany, .instanceMethod y_Cutter_foundTooMany, .selects R_Cutter y_Cutter_foundTooMany y_Cutter_foundTooMany, .code y_Cutter_foundTooMany b_Cutter_foundTooMany 1 (some .boolean), .methodLink R_LF 117 y_Cutter_lexemes, .instanceMethod y_Cutter_lexemes, .selects R_Cutter y_Cutter_lexemes y_Cutter_lexemes, .code y_Cutter_lexemes b_Cutter_lexemes 1 (some (.object "LayoutFront$Lexemes")), .methodLink R_LF 121 y_Blocks_lay, .instanceMethod y_Blocks_lay, .selects R_Blocks y_Blocks_lay y_Blocks_lay, .code y_Blocks_lay b_Blocks_lay 8 (some .int), .methodLink R_LF 127 y_Blocks_laid, .instanceMethod y_Blocks_laid, .selects R_Blocks y_Blocks_laid y_Blocks_laid, .code y_Blocks_laid b_Blocks_laid 1 (some (.object "LayoutFront$Tokens")), .methodLink R_LF 131 y_Rows_putTogether, .instanceMethod y_Rows_putTogether, .selects R_Rows y_Rows_putTogether y_Rows_putTogether, .code y_Rows_putTogether b_Rows_putTogether 4 none, .methodLink R_LF 135 y_Rows_copyInto, .instanceMethod y_Rows_copyInto, .selects R_Rows y_Rows_copyInto y_Rows_copyInto, .code y_Rows_copyInto b_Rows_copyInto 4 none, .methodLink R_LF 139 y_LF_keepCounts, .instanceMethod y_LF_keepCounts, .selects R_LF y_LF_keepCounts y_LF_keepCounts, .initialized R_LF, .code y_LF_keepCounts b_LF_keepCounts 1 none, .methodLink R_LF 142 y_Tokens_size]
def wz_20 : List Cond := [.methodLink R_LF 143 y_Lexemes_size, .methodLink R_LF 146 y_Blocks_begun, .instanceMethod y_Blocks_begun, .selects R_Blocks y_Blocks_begun y_Blocks_begun, .code y_Blocks_begun b_Blocks_begun 1 (some .int), .methodLink R_LF 149 y_Rows_together, .instanceMethod y_Rows_together, .selects R_Rows y_Rows_together y_Rows_together, .code y_Rows_together b_Rows_together 1 (some .int), .methodLink R_LF 152 y_Rows_inConflict, .instanceMethod y_Rows_inConflict, .selects R_Rows y_Rows_inConflict y_Rows_inConflict, .code y_Rows_inConflict b_Rows_inConflict 1 (some .int), .methodLink R_LF 155 y_Blocks_mostOpen, .instanceMethod y_Blocks_mostOpen, .selects R_Blocks y_Blocks_mostOpen y_Blocks_mostOpen, .code y_Blocks_mostOpen b_Blocks_mostOpen 1 (some .int), .methodLink R_LF 158 y_Tokens_has, .methodLink R_LF 166 y_Tokens_kindAt, .classLink R_LF 161 xIOB, .instantiable xIOB 6, .initialized xIOB, .methodLink R_LF 170 y_Tokens_valueAt, .fieldLink R_Model 7 "LayoutFrontModel" "text" "[I", .fieldLink R_Model 13 "LayoutFrontModel" "place" "I", .fieldLink R_Model 17 "LayoutFrontModel" "kind" "[I", .fieldLink R_Model 20 "LayoutFrontModel" "value" "[J", .fieldLink R_Model 24 "LayoutFrontModel" "where" "[I", .fieldLink R_Model 27 "LayoutFrontModel" "column" "[I", .fieldLink R_Model 30 "LayoutFrontModel" "leads" "[Z"]
def wz_21 : List Cond := [.fieldLink R_Model 34 "LayoutFrontModel" "row" "[I", .fieldLink R_Model 37 "LayoutFrontModel" "sort" "[I", .fieldLink R_Model 40 "LayoutFrontModel" "is" "[J", .fieldLink R_Model 43 "LayoutFrontModel" "before" "[I", .fieldLink R_Model 46 "LayoutFrontModel" "behind" "[I", .fieldLink R_Model 49 "LayoutFrontModel" "partner" "[I", .fieldLink R_Model 52 "LayoutFrontModel" "done" "[Z", .fieldLink R_Model 55 "LayoutFrontModel" "kinds" "[I", .fieldLink R_Model 58 "LayoutFrontModel" "values" "[J", .fieldLink R_Model 61 "LayoutFrontModel" "names" "[J", .fieldLink R_Model 64 "LayoutFrontModel" "sides" "[I", .fieldLink R_Model 67 "LayoutFrontModel" "levels" "[I", .fieldLink R_Model 70 "LayoutFrontModel" "from" "[I", .fieldLink R_Model 73 "LayoutFrontModel" "to" "[I", .fieldLink R_Model 76 "LayoutFrontModel" "what" "[I", .fieldLink R_Model 79 "LayoutFrontModel" "left" "[I", .fieldLink R_Model 82 "LayoutFrontModel" "right" "[I", .fieldLink R_Model 85 "LayoutFrontModel" "waits" "[I", .fieldLink R_Model 88 "LayoutFrontModel" "opens" "[I", .fieldLink R_Model 91 "LayoutFrontModel" "closes" "[I", .fieldLink R_Model 94 "LayoutFrontModel" "waitsFor" "[I", .methodLink R_Model 1 objectInit, .fieldLink R_Model 97 "LayoutFrontModel" "thrown" "I", .methodLink R_Model 100 y_Model_within, .static y_Model_within, .initialized R_Model, .code y_Model_within b_Model_within 3 (some .boolean), .methodLink R_Model 104 y_Model_fail, .instanceMethod y_Model_fail, .selects R_Model y_Model_fail y_Model_fail]
def wz_22 : List Cond := [.code y_Model_fail b_Model_fail 2 (some .int), .constantLong R_Model 108 255, .fieldLink R_Model 110 "LayoutFrontModel" "length" "I", .fieldLink R_Model 113 "LayoutFrontModel" "set" "I", .methodLink R_Model 116 y_Model_find, .instanceMethod y_Model_find, .selects R_Model y_Model_find y_Model_find, .code y_Model_find b_Model_find 5 (some .int), .fieldLink R_Model 120 "LayoutFrontModel" "at" "I", .fieldLink R_Model 123 "LayoutFrontModel" "bad" "I", .methodLink R_Model 126 y_Model_letter, .static y_Model_letter, .code y_Model_letter b_Model_letter 1 (some .boolean), .methodLink R_Model 130 y_Model_digit, .static y_Model_digit, .code y_Model_digit b_Model_digit 1 (some .boolean), .methodLink R_Model 133 y_Model_operator, .static y_Model_operator, .code y_Model_operator b_Model_operator 1 (some .boolean), .methodLink R_Model 136 y_Model_here, .instanceMethod y_Model_here, .selects R_Model y_Model_here y_Model_here, .code y_Model_here b_Model_here 1 (some .int), .methodLink R_Model 140 y_Model_wrong, .instanceMethod y_Model_wrong, .selects R_Model y_Model_wrong y_Model_wrong, .code y_Model_wrong b_Model_wrong 3 none, .fieldLink R_Model 144 "LayoutFrontModel" "lexemes" "I", .methodLink R_Model 147 y_Model_packed, .instanceMethod y_Model_packed]
def wz_23 : List Cond := [.selects R_Model y_Model_packed y_Model_packed, .code y_Model_packed b_Model_packed 5 (some .long), .constantLong R_Model 151 10, .constantLong R_Model 153 48, .methodLink R_Model 155 y_Model_nested, .instanceMethod y_Model_nested, .selects R_Model y_Model_nested y_Model_nested, .code y_Model_nested b_Model_nested 6 none, .methodLink R_Model 158 y_Model_run, .instanceMethod y_Model_run, .selects R_Model y_Model_run y_Model_run, .code y_Model_run b_Model_run 5 (some .int), .methodLink R_Model 161 y_Model_lexeme, .instanceMethod y_Model_lexeme, .selects R_Model y_Model_lexeme y_Model_lexeme, .code y_Model_lexeme b_Model_lexeme 7 none, .methodLink R_Model 164 y_Model_dashes, .instanceMethod y_Model_dashes, .selects R_Model y_Model_dashes y_Model_dashes, .code y_Model_dashes b_Model_dashes 4 (some .boolean), .methodLink R_Model 167 y_Model_sign, .static y_Model_sign, .code y_Model_sign b_Model_sign 1 (some .boolean), .constantLong R_Model 170 7628140, .constantLong R_Model 172 435710945399, .constantLong R_Model 174 28516, .constantLong R_Model 176 26223, .constantLong R_Model 178 28265, .constantLong R_Model 180 26217, .constantLong R_Model 182 1852139636]
def wz_24 : List Cond := [.constantLong R_Model 184 1702063205, .constantLong R_Model 186 1702060387, .fieldLink R_Model 188 "LayoutFrontModel" "tokens" "I", .fieldLink R_Model 191 "LayoutFrontModel" "open" "I", .fieldLink R_Model 194 "LayoutFrontModel" "highest" "I", .methodLink R_Model 197 y_Model_top, .instanceMethod y_Model_top, .selects R_Model y_Model_top y_Model_top, .code y_Model_top b_Model_top 1 (some .int), .methodLink R_Model 200 y_Model_belowLets, .instanceMethod y_Model_belowLets, .selects R_Model y_Model_belowLets y_Model_belowLets, .code y_Model_belowLets b_Model_belowLets 2 (some .int), .methodLink R_Model 203 y_Model_dropLets, .instanceMethod y_Model_dropLets, .selects R_Model y_Model_dropLets y_Model_dropLets, .code y_Model_dropLets b_Model_dropLets 1 none, .constantLong R_Model 206 125, .methodLink R_Model 208 y_Model_emit, .instanceMethod y_Model_emit, .selects R_Model y_Model_emit y_Model_emit, .code y_Model_emit b_Model_emit 4 none, .constantLong R_Model 212 59, .methodLink R_Model 214 y_Model_leave, .instanceMethod y_Model_leave, .selects R_Model y_Model_leave y_Model_leave, .code y_Model_leave b_Model_leave 2 none, .methodLink R_Model 218 y_Model_push, .instanceMethod y_Model_push, .selects R_Model y_Model_push y_Model_push]
def wz_25 : List Cond := [.code y_Model_push b_Model_push 2 none, .constantLong R_Model 222 40, .constantLong R_Model 224 91, .constantLong R_Model 226 41, .methodLink R_Model 228 y_Model_closes, .instanceMethod y_Model_closes, .selects R_Model y_Model_closes y_Model_closes, .code y_Model_closes b_Model_closes 4 none, .constantLong R_Model 231 93, .constantLong R_Model 233 44, .methodLink R_Model 235 y_Model_comma, .instanceMethod y_Model_comma, .selects R_Model y_Model_comma y_Model_comma, .code y_Model_comma b_Model_comma 2 none, .constantLong R_Model 238 123, .fieldLink R_Model 240 "LayoutFrontModel" "blocks" "I", .methodLink R_Model 243 y_Model_mark, .instanceMethod y_Model_mark, .selects R_Model y_Model_mark y_Model_mark, .code y_Model_mark b_Model_mark 2 none, .methodLink R_Model 246 y_Model_begins, .instanceMethod y_Model_begins, .selects R_Model y_Model_begins y_Model_begins, .code y_Model_begins b_Model_begins 3 (some .boolean), .methodLink R_Model 249 y_Model_begin, .instanceMethod y_Model_begin, .selects R_Model y_Model_begin y_Model_begin, .code y_Model_begin b_Model_begin 4 none, .methodLink R_Model 252 y_Model_signs, .instanceMethod y_Model_signs]
def wz_26 : List Cond := [.selects R_Model y_Model_signs y_Model_signs, .code y_Model_signs b_Model_signs 4 none, .methodLink R_Model 255 y_Model_words, .instanceMethod y_Model_words, .selects R_Model y_Model_words y_Model_words, .code y_Model_words b_Model_words 4 none, .constantLong R_Model 258 61, .constantLong R_Model 260 15917, .constantLong R_Model 262 11580, .constantLong R_Model 264 124, .constantLong R_Model 266 14906, .constantLong R_Model 268 15933, .constantLong R_Model 270 92, .constantLong R_Model 272 64, .constantLong R_Model 274 126, .constantLong R_Model 276 11822, .methodLink R_Model 278 y_Model_word, .static y_Model_word, .code y_Model_word b_Model_word 2 (some .boolean), .constantLong R_Model 282 96, .methodLink R_Model 284 y_Model_plainName, .instanceMethod y_Model_plainName, .selects R_Model y_Model_plainName y_Model_plainName, .code y_Model_plainName b_Model_plainName 2 (some .boolean), .methodLink R_Model 287 y_Model_reserved, .static y_Model_reserved, .code y_Model_reserved b_Model_reserved 2 (some .boolean), .methodLink R_Model 290 y_Model_tick, .instanceMethod y_Model_tick, .selects R_Model y_Model_tick y_Model_tick]
def wz_27 : List Cond := [.code y_Model_tick b_Model_tick 2 (some .boolean), .constantLong R_Model 293 45, .fieldLink R_Model 295 "LayoutFrontModel" "items" "I", .methodLink R_Model 298 y_Model_extent, .instanceMethod y_Model_extent, .selects R_Model y_Model_extent y_Model_extent, .code y_Model_extent b_Model_extent 2 (some .int), .methodLink R_Model 301 y_Model_operation, .instanceMethod y_Model_operation, .selects R_Model y_Model_operation y_Model_operation, .code y_Model_operation b_Model_operation 2 (some .boolean), .methodLink R_Model 304 y_Model_dash, .instanceMethod y_Model_dash, .selects R_Model y_Model_dash y_Model_dash, .code y_Model_dash b_Model_dash 2 (some .boolean), .methodLink R_Model 307 y_Model_core, .instanceMethod y_Model_core, .selects R_Model y_Model_core y_Model_core, .code y_Model_core b_Model_core 2 (some .int), .methodLink R_Model 310 y_Model_fixed, .instanceMethod y_Model_fixed, .selects R_Model y_Model_fixed y_Model_fixed, .code y_Model_fixed b_Model_fixed 2 (some .int), .fieldLink R_Model 313 "LayoutFrontModel" "waiting" "I", .fieldLink R_Model 316 "LayoutFrontModel" "operands" "I", .fieldLink R_Model 319 "LayoutFrontModel" "pairs" "I", .methodLink R_Model 322 y_Model_level, .instanceMethod y_Model_level, .selects R_Model y_Model_level y_Model_level, .code y_Model_level b_Model_level 2 (some .int)]
def wz_28 : List Cond := [.methodLink R_Model 325 y_Model_side, .instanceMethod y_Model_side, .selects R_Model y_Model_side y_Model_side, .code y_Model_side b_Model_side 2 (some .int), .methodLink R_Model 328 y_Model_apply, .instanceMethod y_Model_apply, .selects R_Model y_Model_apply y_Model_apply, .code y_Model_apply b_Model_apply 4 none, .methodLink R_Model 331 y_Model_comes, .instanceMethod y_Model_comes, .selects R_Model y_Model_comes y_Model_comes, .code y_Model_comes b_Model_comes 5 (some .boolean), .fieldLink R_Model 334 "LayoutFrontModel" "conflicts" "I", .fieldLink R_Model 337 "LayoutFrontModel" "rows" "I", .methodLink R_Model 340 y_Model_partners, .instanceMethod y_Model_partners, .selects R_Model y_Model_partners y_Model_partners, .code y_Model_partners b_Model_partners 5 none, .methodLink R_Model 343 y_Model_collect, .instanceMethod y_Model_collect, .selects R_Model y_Model_collect y_Model_collect, .code y_Model_collect b_Model_collect 6 none, .methodLink R_Model 346 y_Model_regular, .instanceMethod y_Model_regular, .selects R_Model y_Model_regular y_Model_regular, .code y_Model_regular b_Model_regular 5 (some .boolean), .methodLink R_Model 350 y_Model_put, .instanceMethod y_Model_put, .selects R_Model y_Model_put y_Model_put, .code y_Model_put b_Model_put 3 none]
def wz_29 : List Cond := [.fieldLink R_Model 353 "LayoutFrontModel" "all" "I", .methodLink R_Model 356 y_Model_cut, .instanceMethod y_Model_cut, .selects R_Model y_Model_cut y_Model_cut, .code y_Model_cut b_Model_cut 2 none, .methodLink R_Model 359 y_Model_lay, .instanceMethod y_Model_lay, .selects R_Model y_Model_lay y_Model_lay, .code y_Model_lay b_Model_lay 2 none, .methodLink R_Model 362 y_Model_around, .instanceMethod y_Model_around, .selects R_Model y_Model_around y_Model_around, .code y_Model_around b_Model_around 2 none, .methodLink R_Model 365 y_Model_add, .instanceMethod y_Model_add, .selects R_Model y_Model_add y_Model_add, .code y_Model_add b_Model_add 4 none, .fieldLink R_Model 368 "LayoutFrontModel" "told" "I", .fieldLink R_Model 371 "LayoutFrontModel" "toldBlocks" "I", .fieldLink R_Model 374 "LayoutFrontModel" "toldRows" "I", .fieldLink R_Model 377 "LayoutFrontModel" "toldConflicts" "I", .fieldLink R_Model 380 "LayoutFrontModel" "toldHighest" "I", .methodLink R_Law 7 y_LF_write, .instanceMethod y_LF_write, .selects R_LF y_LF_write y_LF_write, .code y_LF_write b_LF_write 4 (some .int), .methodLink R_Law 17 y_LF_fixity, .instanceMethod y_LF_fixity, .selects R_LF y_LF_fixity y_LF_fixity, .code y_LF_fixity b_LF_fixity 5 (some .int)]
def wz_30 : List Cond := [.methodLink R_Law 21 y_LF_read, .instanceMethod y_LF_read, .selects R_LF y_LF_read y_LF_read, .code y_LF_read b_LF_read 1 (some .int), .methodLink R_Law 25 y_LF_kind, .instanceMethod y_LF_kind, .selects R_LF y_LF_kind y_LF_kind, .code y_LF_kind b_LF_kind 2 (some .int), .methodLink R_Law 31 y_LF_token, .instanceMethod y_LF_token, .selects R_LF y_LF_token y_LF_token, .code y_LF_token b_LF_token 2 (some .long), .methodLink R_Law 35 y_LF_count, .instanceMethod y_LF_count, .selects R_LF y_LF_count y_LF_count, .code y_LF_count b_LF_count 2 (some .int), .classLink R_Law 8 R_LF, .instantiable R_LF 8, .methodLink R_Law 38 y_LF_init, .instanceMethod y_LF_init, .code y_LF_init b_LF_init 1 none, .classLink R_Law 39 R_Model, .instantiable R_Model 50, .methodLink R_Law 41 y_Model_init, .instanceMethod y_Model_init, .code y_Model_init b_Model_init 1 none, .constantLong R_Law 42 4294967295, .methodLink R_Law 44 y_Law_write, .static y_Law_write, .initialized R_Law]
def wz_31 : List Cond := [.codeWith y_Law_write b_Law_write 6 (some .int) [(0, 11, 14, 13), (0, 11, 18, 15)], .methodLink R_Law 49 y_Model_write, .instanceMethod y_Model_write, .selects R_Model y_Model_write y_Model_write, .code y_Model_write b_Model_write 7 (some .int), .methodLink R_Law 50 y_LF_erase, .instanceMethod y_LF_erase, .selects R_LF y_LF_erase y_LF_erase, .code y_LF_erase b_LF_erase 2 (some .int), .methodLink R_Law 53 y_Model_erase, .instanceMethod y_Model_erase, .selects R_Model y_Model_erase y_Model_erase, .code y_Model_erase b_Model_erase 2 (some .int), .methodLink R_Law 54 y_Law_fixity, .static y_Law_fixity, .codeWith y_Law_fixity b_Law_fixity 7 (some .int) [(0, 13, 16, 13), (0, 13, 20, 15)], .methodLink R_Law 57 y_Model_fixity, .instanceMethod y_Model_fixity, .selects R_Model y_Model_fixity y_Model_fixity, .code y_Model_fixity b_Model_fixity 6 (some .int), .methodLink R_Law 58 y_Law_read, .static y_Law_read, .codeWith y_Law_read b_Law_read 3 (some .int) [(0, 8, 11, 13), (0, 8, 14, 15)], .methodLink R_Law 61 y_Model_read, .instanceMethod y_Model_read, .selects R_Model y_Model_read y_Model_read, .code y_Model_read b_Model_read 3 (some .int), .methodLink R_Law 62 y_LF_place, .instanceMethod y_LF_place, .selects R_LF y_LF_place y_LF_place]
def wz_32 : List Cond := [.code y_LF_place b_LF_place 1 (some .int), .methodLink R_Law 65 y_Model_place, .instanceMethod y_Model_place, .selects R_Model y_Model_place y_Model_place, .code y_Model_place b_Model_place 1 (some .int), .methodLink R_Law 66 y_Law_kind, .static y_Law_kind, .codeWith y_Law_kind b_Law_kind 4 (some .int) [(0, 9, 12, 29)], .methodLink R_Law 69 y_Model_kind, .instanceMethod y_Model_kind, .selects R_Model y_Model_kind y_Model_kind, .code y_Model_kind b_Model_kind 2 (some .int), .methodLink R_Law 70 y_Law_token, .static y_Law_token, .codeWith y_Law_token b_Law_token 4 (some .int) [(0, 8, 11, 29)], .methodLink R_Law 72 y_Model_token, .instanceMethod y_Model_token, .selects R_Model y_Model_token y_Model_token, .code y_Model_token b_Model_token 2 (some .long), .methodLink R_Law 73 y_Model_thrown, .instanceMethod y_Model_thrown, .selects R_Model y_Model_thrown y_Model_thrown, .code y_Model_thrown b_Model_thrown 1 (some .int), .methodLink R_Law 76 y_Law_count, .static y_Law_count, .codeWith y_Law_count b_Law_count 4 (some .int) [(0, 9, 12, 29)], .methodLink R_Law 78 y_Model_count, .instanceMethod y_Model_count, .selects R_Model y_Model_count y_Model_count, .code y_Model_count b_Model_count 2 (some .int)]
def wz_33 : List Cond := [.methodLink R_JS 633 y_JS_indexOf1, .instanceMethod y_JS_indexOf1, .selects R_JS y_JS_indexOf1 y_JS_indexOf1, .code y_JS_indexOf1 b_JS_indexOf1 3 (some .int), .methodLink R_JS 492 y_JS_isLatin1, .instanceMethod y_JS_isLatin1, .selects R_JS y_JS_isLatin1 y_JS_isLatin1, .code y_JS_isLatin1 b_JS_isLatin1 1 (some .boolean), .fieldLink R_JS 9 "java/lang/String" "value" "[B", .methodLink R_JS 505 y_JS_length, .instanceMethod y_JS_length, .selects R_JS y_JS_length y_JS_length, .code y_JS_length b_JS_length 1 (some .int), .methodLink R_JS 637 y_JL_indexOf, .static y_JL_indexOf, .initialized R_JL, .code y_JL_indexOf b_JL_indexOf 4 (some .int), .fieldLink R_JS 15 "java/lang/String" "coder" "B", .fieldLink R_JS 38 "java/lang/String" "COMPACT_STRINGS" "Z", .methodLink R_JS 335 y_JS_coder, .instanceMethod y_JS_coder, .selects R_JS y_JS_coder y_JS_coder, .code y_JS_coder b_JS_coder 1 (some (.byte)), .methodLink R_JL 88 y_JL_canEncode, .static y_JL_canEncode, .code y_JL_canEncode b_JL_canEncode 1 (some .boolean), .methodLink R_JL 95 y_JL_indexOfChar, .static y_JL_indexOfChar, .code y_JL_indexOfChar b_JL_indexOfChar 6 (some .int), .methodLink R_JL 38 Lib.Math.min.name]
def wz_34 : List Cond := [.methodLink R_JL 92 Lib.Math.max.name, .static Lib.Math.min.name, .code Lib.Math.min.name Lib.Math.min.code 2 (some .int), .static Lib.Math.max.name, .initialized "java/lang/Math", .code Lib.Math.max.name Lib.Math.max.code 2 (some .int), .classLink R_Law 13 xIAE, .classLink R_Law 15 xISE, .classLink R_Law 29 xIOB, .laysFinal R_LF "LayoutFront" "text" "LLayoutFront$Text;", .laysFinal R_LF "LayoutFront" "fixities" "LLayoutFront$Fixities;", .laysFinal R_LF "LayoutFront" "cutter" "LLayoutFront$Cutter;", .laysFinal R_LF "LayoutFront" "blocks" "LLayoutFront$Blocks;", .laysFinal R_LF "LayoutFront" "rows" "LLayoutFront$Rows;", .laysFinal R_LF "LayoutFront" "tokens" "LLayoutFront$Tokens;", .laysFinal R_LF "LayoutFront" "counts" "[I", .lays R_LF "LayoutFront" "wrongPlace" "I", .lays R_Model "LayoutFrontModel" "thrown" "I", .lays R_Model "LayoutFrontModel" "length" "I", .laysFinal R_Model "LayoutFrontModel" "text" "[I", .lays R_Model "LayoutFrontModel" "bad" "I", .lays R_Model "LayoutFrontModel" "place" "I", .lays R_Model "LayoutFrontModel" "at" "I", .lays R_Model "LayoutFrontModel" "lexemes" "I", .laysFinal R_Model "LayoutFrontModel" "kind" "[I", .laysFinal R_Model "LayoutFrontModel" "value" "[J", .laysFinal R_Model "LayoutFrontModel" "where" "[I", .laysFinal R_Model "LayoutFrontModel" "column" "[I", .laysFinal R_Model "LayoutFrontModel" "leads" "[Z", .lays R_Model "LayoutFrontModel" "open" "I"]
def wz_35 : List Cond := [.lays R_Model "LayoutFrontModel" "highest" "I", .laysFinal R_Model "LayoutFrontModel" "row" "[I", .lays R_Model "LayoutFrontModel" "tokens" "I", .lays R_Model "LayoutFrontModel" "blocks" "I", .laysFinal R_Model "LayoutFrontModel" "sort" "[I", .laysFinal R_Model "LayoutFrontModel" "is" "[J", .laysFinal R_Model "LayoutFrontModel" "before" "[I", .laysFinal R_Model "LayoutFrontModel" "behind" "[I", .laysFinal R_Model "LayoutFrontModel" "partner" "[I", .laysFinal R_Model "LayoutFrontModel" "done" "[Z", .lays R_Model "LayoutFrontModel" "all" "I", .laysFinal R_Model "LayoutFrontModel" "kinds" "[I", .laysFinal R_Model "LayoutFrontModel" "values" "[J", .lays R_Model "LayoutFrontModel" "told" "I", .lays R_Model "LayoutFrontModel" "toldBlocks" "I", .lays R_Model "LayoutFrontModel" "toldRows" "I", .lays R_Model "LayoutFrontModel" "toldConflicts" "I", .lays R_Model "LayoutFrontModel" "toldHighest" "I", .lays R_Model "LayoutFrontModel" "set" "I", .laysFinal R_Model "LayoutFrontModel" "names" "[J", .laysFinal R_Model "LayoutFrontModel" "sides" "[I", .laysFinal R_Model "LayoutFrontModel" "levels" "[I", .lays R_Model "LayoutFrontModel" "items" "I", .lays R_Model "LayoutFrontModel" "operands" "I", .lays R_Model "LayoutFrontModel" "waiting" "I", .lays R_Model "LayoutFrontModel" "pairs" "I", .lays R_Model "LayoutFrontModel" "rows" "I", .lays R_Model "LayoutFrontModel" "conflicts" "I", .laysFinal R_Model "LayoutFrontModel" "from" "[I", .laysFinal R_Model "LayoutFrontModel" "to" "[I"]
def wz_36 : List Cond := [.laysFinal R_Model "LayoutFrontModel" "what" "[I", .laysFinal R_Model "LayoutFrontModel" "left" "[I", .laysFinal R_Model "LayoutFrontModel" "right" "[I", .laysFinal R_Model "LayoutFrontModel" "waits" "[I", .laysFinal R_Model "LayoutFrontModel" "opens" "[I", .laysFinal R_Model "LayoutFrontModel" "closes" "[I", .laysFinal R_Model "LayoutFrontModel" "waitsFor" "[I", .laysFinal R_Blocks "LayoutFront$Blocks" "open" "LLayoutFront$Open;", .laysFinal R_Blocks "LayoutFront$Blocks" "laid" "LLayoutFront$Tokens;", .lays R_Blocks "LayoutFront$Blocks" "begun" "I", .laysFinal R_Cutter "LayoutFront$Cutter" "lexemes" "LLayoutFront$Lexemes;", .lays R_Cutter "LayoutFront$Cutter" "at" "I", .lays R_Cutter "LayoutFront$Cutter" "lineStart" "I", .lays R_Cutter "LayoutFront$Cutter" "lineIsFresh" "Z", .lays R_Cutter "LayoutFront$Cutter" "wrongPlace" "I", .lays R_Cutter "LayoutFront$Cutter" "tooMany" "Z", .laysFinal R_Fixities "LayoutFront$Fixities" "names" "[J", .laysFinal R_Fixities "LayoutFront$Fixities" "sides" "[I", .laysFinal R_Fixities "LayoutFront$Fixities" "levels" "[I", .lays R_Fixities "LayoutFront$Fixities" "size" "I", .laysFinal R_Lexemes "LayoutFront$Lexemes" "tokens" "LLayoutFront$Tokens;", .laysFinal R_Lexemes "LayoutFront$Lexemes" "places" "[I", .laysFinal R_Lexemes "LayoutFront$Lexemes" "columns" "[I", .laysFinal R_Lexemes "LayoutFront$Lexemes" "lineFirsts" "[Z", .laysFinal R_Open "LayoutFront$Open" "things" "[I", .lays R_Open "LayoutFront$Open" "size" "I", .lays R_Open "LayoutFront$Open" "most" "I", .laysFinal R_Resolver "LayoutFront$Resolver" "pairFirsts" "[I", .laysFinal R_Resolver "LayoutFront$Resolver" "pairLasts" "[I", .lays R_Resolver "LayoutFront$Resolver" "pairs" "I"]
def wz_37 : List Cond := [.lays R_Resolver "LayoutFront$Resolver" "pairsBefore" "I", .laysFinal R_Resolver "LayoutFront$Resolver" "firsts" "[I", .laysFinal R_Resolver "LayoutFront$Resolver" "lasts" "[I", .lays R_Resolver "LayoutFront$Resolver" "operands" "I", .laysFinal R_Resolver "LayoutFront$Resolver" "levels" "[I", .laysFinal R_Resolver "LayoutFront$Resolver" "sides" "[I", .laysFinal R_Resolver "LayoutFront$Resolver" "minusPlaces" "[I", .lays R_Resolver "LayoutFront$Resolver" "waiting" "I", .laysFinal R_Row "LayoutFront$Row" "parts" "[I", .laysFinal R_Row "LayoutFront$Row" "firsts" "[I", .laysFinal R_Row "LayoutFront$Row" "lasts" "[I", .lays R_Row "LayoutFront$Row" "size" "I", .lays R_Row "LayoutFront$Row" "operates" "Z", .lays R_Row "LayoutFront$Row" "lacksOperand" "Z", .laysFinal R_Rows "LayoutFront$Rows" "closers" "[I", .laysFinal R_Rows "LayoutFront$Rows" "openers" "[I", .laysFinal R_Rows "LayoutFront$Rows" "opened" "[I", .laysFinal R_Rows "LayoutFront$Rows" "closed" "[I", .laysFinal R_Rows "LayoutFront$Rows" "row" "LLayoutFront$Row;", .laysFinal R_Rows "LayoutFront$Rows" "resolver" "LLayoutFront$Resolver;", .lays R_Rows "LayoutFront$Rows" "together" "I", .lays R_Rows "LayoutFront$Rows" "inConflict" "I", .laysFinal R_Text "LayoutFront$Text" "characters" "[C", .lays R_Text "LayoutFront$Text" "length" "I", .laysFinal R_Tokens "LayoutFront$Tokens" "kinds" "[I", .laysFinal R_Tokens "LayoutFront$Tokens" "values" "[J", .lays R_Tokens "LayoutFront$Tokens" "size" "I"]
def xup : List String := ["java/lang/RuntimeException", "java/lang/Exception"]
def xat : List Cond := Bundle.ownAtoms R_LF 69 xIAE xup ++ (Bundle.ownAtoms R_LF 165 xIOB xup ++ Bundle.ownAtoms R_LF 80 xISE xup)
def wz_38 : List Cond := xat.filter goodWord
def wz : List Cond := wz_0 ++ (wz_1 ++ (wz_2 ++ (wz_3 ++ (wz_4 ++ (wz_5 ++ (wz_6 ++ (wz_7 ++ (wz_8 ++ (wz_9 ++ (wz_10 ++ (wz_11 ++ (wz_12 ++ (wz_13 ++ (wz_14 ++ (wz_15 ++ (wz_16 ++ (wz_17 ++ (wz_18 ++ (wz_19 ++ (wz_20 ++ (wz_21 ++ (wz_22 ++ (wz_23 ++ (wz_24 ++ (wz_25 ++ (wz_26 ++ (wz_27 ++ (wz_28 ++ (wz_29 ++ (wz_30 ++ (wz_31 ++ (wz_32 ++ (wz_33 ++ (wz_34 ++ (wz_35 ++ (wz_36 ++ (wz_37 ++ (wz_38))))))))))))))))))))))))))))))))))))))
theorem zc_0 {w : Cond} (h : w ∈ wz_0) : w ∈ wz := (List.mem_append_left _ h)
theorem zc_1 {w : Cond} (h : w ∈ wz_1) : w ∈ wz := (List.mem_append_right _ (List.mem_append_left _ h))
theorem zc_2 {w : Cond} (h : w ∈ wz_2) : w ∈ wz := (List.mem_append_right _ (List.mem_append_right _ (List.mem_append_left _ h)))
theorem zc_3 {w : Cond} (h : w ∈ wz_3) : w ∈ wz := (List.mem_append_right _ (List.mem_append_right _ (List.mem_append_right _ (List.mem_append_left _ h))))
theorem zc_4 {w : Cond} (h : w ∈ wz_4) : w ∈ wz := (List.mem_append_right _ (List.mem_append_right _ (List.mem_append_right _ (List.mem_append_right _ (List.mem_append_left _ h)))))
theorem zc_5 {w : Cond} (h : w ∈ wz_5) : w ∈ wz := (List.mem_append_right _ (List.mem_append_right _ (List.mem_append_right _ (List.mem_append_right _ (List.mem_append_right _ (List.mem_append_left _ h))))))
theorem zc_6 {w : Cond} (h : w ∈ wz_6) : w ∈ wz := (List.mem_append_right _ (List.mem_append_right _ (List.mem_append_right _ (List.mem_append_right _ (List.mem_append_right _ (List.mem_append_right _ (List.mem_append_left _ h)))))))
theorem zc_7 {w : Cond} (h : w ∈ wz_7) : w ∈ wz := (List.mem_append_right _ (List.mem_append_right _ (List.mem_append_right _ (List.mem_append_right _ (List.mem_append_right _ (List.mem_append_right _ (List.mem_append_right _ (List.mem_append_left _ h))))))))
theorem zc_8 {w : Cond} (h : w ∈ wz_8) : w ∈ wz := (List.mem_append_right _ (List.mem_append_right _ (List.mem_append_right _ (List.mem_append_right _ (List.mem_append_right _ (List.mem_append_right _ (List.mem_append_right _ (List.mem_append_right _ (List.mem_append_left _ h)))))))))
theorem zc_9 {w : Cond} (h : w ∈ wz_9) : w ∈ wz := (List.mem_append_right _ (List.mem_append_right _ (List.mem_append_right _ (List.mem_append_right _ (List.mem_append_right _ (List.mem_append_right _ (List.mem_append_right _ (List.mem_append_right _ (List.mem_append_right _ (List.mem_append_left _ h))))))))))
theorem zc_10 {w : Cond} (h : w ∈ wz_10) : w ∈ wz := (List.mem_append_right _ (List.mem_append_right _ (List.mem_append_right _ (List.mem_append_right _ (List.mem_append_right _ (List.mem_append_right _ (List.mem_append_right _ (List.mem_append_right _ (List.mem_append_right _ (List.mem_append_right _ (List.mem_append_left _ h)))))))))))
theorem zc_11 {w : Cond} (h : w ∈ wz_11) : w ∈ wz := (List.mem_append_right _ (List.mem_append_right _ (List.mem_append_right _ (List.mem_append_right _ (List.mem_append_right _ (List.mem_append_right _ (List.mem_append_right _ (List.mem_append_right _ (List.mem_append_right _ (List.mem_append_right _ (List.mem_append_right _ (List.mem_append_left _ h))))))))))))
theorem zc_12 {w : Cond} (h : w ∈ wz_12) : w ∈ wz := (List.mem_append_right _ (List.mem_append_right _ (List.mem_append_right _ (List.mem_append_right _ (List.mem_append_right _ (List.mem_append_right _ (List.mem_append_right _ (List.mem_append_right _ (List.mem_append_right _ (List.mem_append_right _ (List.mem_append_right _ (List.mem_append_right _ (List.mem_append_left _ h)))))))))))))
theorem zc_13 {w : Cond} (h : w ∈ wz_13) : w ∈ wz := (List.mem_append_right _ (List.mem_append_right _ (List.mem_append_right _ (List.mem_append_right _ (List.mem_append_right _ (List.mem_append_right _ (List.mem_append_right _ (List.mem_append_right _ (List.mem_append_right _ (List.mem_append_right _ (List.mem_append_right _ (List.mem_append_right _ (List.mem_append_right _ (List.mem_append_left _ h))))))))))))))
theorem zc_14 {w : Cond} (h : w ∈ wz_14) : w ∈ wz := (List.mem_append_right _ (List.mem_append_right _ (List.mem_append_right _ (List.mem_append_right _ (List.mem_append_right _ (List.mem_append_right _ (List.mem_append_right _ (List.mem_append_right _ (List.mem_append_right _ (List.mem_append_right _ (List.mem_append_right _ (List.mem_append_right _ (List.mem_append_right _ (List.mem_append_right _ (List.mem_append_left _ h)))))))))))))))
theorem zc_15 {w : Cond} (h : w ∈ wz_15) : w ∈ wz := (List.mem_append_right _ (List.mem_append_right _ (List.mem_append_right _ (List.mem_append_right _ (List.mem_append_right _ (List.mem_append_right _ (List.mem_append_right _ (List.mem_append_right _ (List.mem_append_right _ (List.mem_append_right _ (List.mem_append_right _ (List.mem_append_right _ (List.mem_append_right _ (List.mem_append_right _ (List.mem_append_right _ (List.mem_append_left _ h))))))))))))))))
theorem zc_16 {w : Cond} (h : w ∈ wz_16) : w ∈ wz := (List.mem_append_right _ (List.mem_append_right _ (List.mem_append_right _ (List.mem_append_right _ (List.mem_append_right _ (List.mem_append_right _ (List.mem_append_right _ (List.mem_append_right _ (List.mem_append_right _ (List.mem_append_right _ (List.mem_append_right _ (List.mem_append_right _ (List.mem_append_right _ (List.mem_append_right _ (List.mem_append_right _ (List.mem_append_right _ (List.mem_append_left _ h)))))))))))))))))
theorem zc_17 {w : Cond} (h : w ∈ wz_17) : w ∈ wz := (List.mem_append_right _ (List.mem_append_right _ (List.mem_append_right _ (List.mem_append_right _ (List.mem_append_right _ (List.mem_append_right _ (List.mem_append_right _ (List.mem_append_right _ (List.mem_append_right _ (List.mem_append_right _ (List.mem_append_right _ (List.mem_append_right _ (List.mem_append_right _ (List.mem_append_right _ (List.mem_append_right _ (List.mem_append_right _ (List.mem_append_right _ (List.mem_append_left _ h))))))))))))))))))
theorem zc_18 {w : Cond} (h : w ∈ wz_18) : w ∈ wz := (List.mem_append_right _ (List.mem_append_right _ (List.mem_append_right _ (List.mem_append_right _ (List.mem_append_right _ (List.mem_append_right _ (List.mem_append_right _ (List.mem_append_right _ (List.mem_append_right _ (List.mem_append_right _ (List.mem_append_right _ (List.mem_append_right _ (List.mem_append_right _ (List.mem_append_right _ (List.mem_append_right _ (List.mem_append_right _ (List.mem_append_right _ (List.mem_append_right _ (List.mem_append_left _ h)))))))))))))))))))
theorem zc_19 {w : Cond} (h : w ∈ wz_19) : w ∈ wz := (List.mem_append_right _ (List.mem_append_right _ (List.mem_append_right _ (List.mem_append_right _ (List.mem_append_right _ (List.mem_append_right _ (List.mem_append_right _ (List.mem_append_right _ (List.mem_append_right _ (List.mem_append_right _ (List.mem_append_right _ (List.mem_append_right _ (List.mem_append_right _ (List.mem_append_right _ (List.mem_append_right _ (List.mem_append_right _ (List.mem_append_right _ (List.mem_append_right _ (List.mem_append_right _ (List.mem_append_left _ h))))))))))))))))))))
theorem zc_20 {w : Cond} (h : w ∈ wz_20) : w ∈ wz := (List.mem_append_right _ (List.mem_append_right _ (List.mem_append_right _ (List.mem_append_right _ (List.mem_append_right _ (List.mem_append_right _ (List.mem_append_right _ (List.mem_append_right _ (List.mem_append_right _ (List.mem_append_right _ (List.mem_append_right _ (List.mem_append_right _ (List.mem_append_right _ (List.mem_append_right _ (List.mem_append_right _ (List.mem_append_right _ (List.mem_append_right _ (List.mem_append_right _ (List.mem_append_right _ (List.mem_append_right _ (List.mem_append_left _ h)))))))))))))))))))))
theorem zc_21 {w : Cond} (h : w ∈ wz_21) : w ∈ wz := (List.mem_append_right _ (List.mem_append_right _ (List.mem_append_right _ (List.mem_append_right _ (List.mem_append_right _ (List.mem_append_right _ (List.mem_append_right _ (List.mem_append_right _ (List.mem_append_right _ (List.mem_append_right _ (List.mem_append_right _ (List.mem_append_right _ (List.mem_append_right _ (List.mem_append_right _ (List.mem_append_right _ (List.mem_append_right _ (List.mem_append_right _ (List.mem_append_right _ (List.mem_append_right _ (List.mem_append_right _ (List.mem_append_right _ (List.mem_append_left _ h))))))))))))))))))))))
theorem zc_22 {w : Cond} (h : w ∈ wz_22) : w ∈ wz := (List.mem_append_right _ (List.mem_append_right _ (List.mem_append_right _ (List.mem_append_right _ (List.mem_append_right _ (List.mem_append_right _ (List.mem_append_right _ (List.mem_append_right _ (List.mem_append_right _ (List.mem_append_right _ (List.mem_append_right _ (List.mem_append_right _ (List.mem_append_right _ (List.mem_append_right _ (List.mem_append_right _ (List.mem_append_right _ (List.mem_append_right _ (List.mem_append_right _ (List.mem_append_right _ (List.mem_append_right _ (List.mem_append_right _ (List.mem_append_right _ (List.mem_append_left _ h)))))))))))))))))))))))
theorem zc_23 {w : Cond} (h : w ∈ wz_23) : w ∈ wz := (List.mem_append_right _ (List.mem_append_right _ (List.mem_append_right _ (List.mem_append_right _ (List.mem_append_right _ (List.mem_append_right _ (List.mem_append_right _ (List.mem_append_right _ (List.mem_append_right _ (List.mem_append_right _ (List.mem_append_right _ (List.mem_append_right _ (List.mem_append_right _ (List.mem_append_right _ (List.mem_append_right _ (List.mem_append_right _ (List.mem_append_right _ (List.mem_append_right _ (List.mem_append_right _ (List.mem_append_right _ (List.mem_append_right _ (List.mem_append_right _ (List.mem_append_right _ (List.mem_append_left _ h))))))))))))))))))))))))
theorem zc_24 {w : Cond} (h : w ∈ wz_24) : w ∈ wz := (List.mem_append_right _ (List.mem_append_right _ (List.mem_append_right _ (List.mem_append_right _ (List.mem_append_right _ (List.mem_append_right _ (List.mem_append_right _ (List.mem_append_right _ (List.mem_append_right _ (List.mem_append_right _ (List.mem_append_right _ (List.mem_append_right _ (List.mem_append_right _ (List.mem_append_right _ (List.mem_append_right _ (List.mem_append_right _ (List.mem_append_right _ (List.mem_append_right _ (List.mem_append_right _ (List.mem_append_right _ (List.mem_append_right _ (List.mem_append_right _ (List.mem_append_right _ (List.mem_append_right _ (List.mem_append_left _ h)))))))))))))))))))))))))
theorem zc_25 {w : Cond} (h : w ∈ wz_25) : w ∈ wz := (List.mem_append_right _ (List.mem_append_right _ (List.mem_append_right _ (List.mem_append_right _ (List.mem_append_right _ (List.mem_append_right _ (List.mem_append_right _ (List.mem_append_right _ (List.mem_append_right _ (List.mem_append_right _ (List.mem_append_right _ (List.mem_append_right _ (List.mem_append_right _ (List.mem_append_right _ (List.mem_append_right _ (List.mem_append_right _ (List.mem_append_right _ (List.mem_append_right _ (List.mem_append_right _ (List.mem_append_right _ (List.mem_append_right _ (List.mem_append_right _ (List.mem_append_right _ (List.mem_append_right _ (List.mem_append_right _ (List.mem_append_left _ h))))))))))))))))))))))))))
theorem zc_26 {w : Cond} (h : w ∈ wz_26) : w ∈ wz := (List.mem_append_right _ (List.mem_append_right _ (List.mem_append_right _ (List.mem_append_right _ (List.mem_append_right _ (List.mem_append_right _ (List.mem_append_right _ (List.mem_append_right _ (List.mem_append_right _ (List.mem_append_right _ (List.mem_append_right _ (List.mem_append_right _ (List.mem_append_right _ (List.mem_append_right _ (List.mem_append_right _ (List.mem_append_right _ (List.mem_append_right _ (List.mem_append_right _ (List.mem_append_right _ (List.mem_append_right _ (List.mem_append_right _ (List.mem_append_right _ (List.mem_append_right _ (List.mem_append_right _ (List.mem_append_right _ (List.mem_append_right _ (List.mem_append_left _ h)))))))))))))))))))))))))))
theorem zc_27 {w : Cond} (h : w ∈ wz_27) : w ∈ wz := (List.mem_append_right _ (List.mem_append_right _ (List.mem_append_right _ (List.mem_append_right _ (List.mem_append_right _ (List.mem_append_right _ (List.mem_append_right _ (List.mem_append_right _ (List.mem_append_right _ (List.mem_append_right _ (List.mem_append_right _ (List.mem_append_right _ (List.mem_append_right _ (List.mem_append_right _ (List.mem_append_right _ (List.mem_append_right _ (List.mem_append_right _ (List.mem_append_right _ (List.mem_append_right _ (List.mem_append_right _ (List.mem_append_right _ (List.mem_append_right _ (List.mem_append_right _ (List.mem_append_right _ (List.mem_append_right _ (List.mem_append_right _ (List.mem_append_right _ (List.mem_append_left _ h))))))))))))))))))))))))))))
theorem zc_28 {w : Cond} (h : w ∈ wz_28) : w ∈ wz := (List.mem_append_right _ (List.mem_append_right _ (List.mem_append_right _ (List.mem_append_right _ (List.mem_append_right _ (List.mem_append_right _ (List.mem_append_right _ (List.mem_append_right _ (List.mem_append_right _ (List.mem_append_right _ (List.mem_append_right _ (List.mem_append_right _ (List.mem_append_right _ (List.mem_append_right _ (List.mem_append_right _ (List.mem_append_right _ (List.mem_append_right _ (List.mem_append_right _ (List.mem_append_right _ (List.mem_append_right _ (List.mem_append_right _ (List.mem_append_right _ (List.mem_append_right _ (List.mem_append_right _ (List.mem_append_right _ (List.mem_append_right _ (List.mem_append_right _ (List.mem_append_right _ (List.mem_append_left _ h)))))))))))))))))))))))))))))
theorem zc_29 {w : Cond} (h : w ∈ wz_29) : w ∈ wz := (List.mem_append_right _ (List.mem_append_right _ (List.mem_append_right _ (List.mem_append_right _ (List.mem_append_right _ (List.mem_append_right _ (List.mem_append_right _ (List.mem_append_right _ (List.mem_append_right _ (List.mem_append_right _ (List.mem_append_right _ (List.mem_append_right _ (List.mem_append_right _ (List.mem_append_right _ (List.mem_append_right _ (List.mem_append_right _ (List.mem_append_right _ (List.mem_append_right _ (List.mem_append_right _ (List.mem_append_right _ (List.mem_append_right _ (List.mem_append_right _ (List.mem_append_right _ (List.mem_append_right _ (List.mem_append_right _ (List.mem_append_right _ (List.mem_append_right _ (List.mem_append_right _ (List.mem_append_right _ (List.mem_append_left _ h))))))))))))))))))))))))))))))
theorem zc_30 {w : Cond} (h : w ∈ wz_30) : w ∈ wz := (List.mem_append_right _ (List.mem_append_right _ (List.mem_append_right _ (List.mem_append_right _ (List.mem_append_right _ (List.mem_append_right _ (List.mem_append_right _ (List.mem_append_right _ (List.mem_append_right _ (List.mem_append_right _ (List.mem_append_right _ (List.mem_append_right _ (List.mem_append_right _ (List.mem_append_right _ (List.mem_append_right _ (List.mem_append_right _ (List.mem_append_right _ (List.mem_append_right _ (List.mem_append_right _ (List.mem_append_right _ (List.mem_append_right _ (List.mem_append_right _ (List.mem_append_right _ (List.mem_append_right _ (List.mem_append_right _ (List.mem_append_right _ (List.mem_append_right _ (List.mem_append_right _ (List.mem_append_right _ (List.mem_append_right _ (List.mem_append_left _ h)))))))))))))))))))))))))))))))
theorem zc_31 {w : Cond} (h : w ∈ wz_31) : w ∈ wz := (List.mem_append_right _ (List.mem_append_right _ (List.mem_append_right _ (List.mem_append_right _ (List.mem_append_right _ (List.mem_append_right _ (List.mem_append_right _ (List.mem_append_right _ (List.mem_append_right _ (List.mem_append_right _ (List.mem_append_right _ (List.mem_append_right _ (List.mem_append_right _ (List.mem_append_right _ (List.mem_append_right _ (List.mem_append_right _ (List.mem_append_right _ (List.mem_append_right _ (List.mem_append_right _ (List.mem_append_right _ (List.mem_append_right _ (List.mem_append_right _ (List.mem_append_right _ (List.mem_append_right _ (List.mem_append_right _ (List.mem_append_right _ (List.mem_append_right _ (List.mem_append_right _ (List.mem_append_right _ (List.mem_append_right _ (List.mem_append_right _ (List.mem_append_left _ h))))))))))))))))))))))))))))))))
theorem zc_32 {w : Cond} (h : w ∈ wz_32) : w ∈ wz := (List.mem_append_right _ (List.mem_append_right _ (List.mem_append_right _ (List.mem_append_right _ (List.mem_append_right _ (List.mem_append_right _ (List.mem_append_right _ (List.mem_append_right _ (List.mem_append_right _ (List.mem_append_right _ (List.mem_append_right _ (List.mem_append_right _ (List.mem_append_right _ (List.mem_append_right _ (List.mem_append_right _ (List.mem_append_right _ (List.mem_append_right _ (List.mem_append_right _ (List.mem_append_right _ (List.mem_append_right _ (List.mem_append_right _ (List.mem_append_right _ (List.mem_append_right _ (List.mem_append_right _ (List.mem_append_right _ (List.mem_append_right _ (List.mem_append_right _ (List.mem_append_right _ (List.mem_append_right _ (List.mem_append_right _ (List.mem_append_right _ (List.mem_append_right _ (List.mem_append_left _ h)))))))))))))))))))))))))))))))))
theorem zc_33 {w : Cond} (h : w ∈ wz_33) : w ∈ wz := (List.mem_append_right _ (List.mem_append_right _ (List.mem_append_right _ (List.mem_append_right _ (List.mem_append_right _ (List.mem_append_right _ (List.mem_append_right _ (List.mem_append_right _ (List.mem_append_right _ (List.mem_append_right _ (List.mem_append_right _ (List.mem_append_right _ (List.mem_append_right _ (List.mem_append_right _ (List.mem_append_right _ (List.mem_append_right _ (List.mem_append_right _ (List.mem_append_right _ (List.mem_append_right _ (List.mem_append_right _ (List.mem_append_right _ (List.mem_append_right _ (List.mem_append_right _ (List.mem_append_right _ (List.mem_append_right _ (List.mem_append_right _ (List.mem_append_right _ (List.mem_append_right _ (List.mem_append_right _ (List.mem_append_right _ (List.mem_append_right _ (List.mem_append_right _ (List.mem_append_right _ (List.mem_append_left _ h))))))))))))))))))))))))))))))))))
theorem zc_34 {w : Cond} (h : w ∈ wz_34) : w ∈ wz := (List.mem_append_right _ (List.mem_append_right _ (List.mem_append_right _ (List.mem_append_right _ (List.mem_append_right _ (List.mem_append_right _ (List.mem_append_right _ (List.mem_append_right _ (List.mem_append_right _ (List.mem_append_right _ (List.mem_append_right _ (List.mem_append_right _ (List.mem_append_right _ (List.mem_append_right _ (List.mem_append_right _ (List.mem_append_right _ (List.mem_append_right _ (List.mem_append_right _ (List.mem_append_right _ (List.mem_append_right _ (List.mem_append_right _ (List.mem_append_right _ (List.mem_append_right _ (List.mem_append_right _ (List.mem_append_right _ (List.mem_append_right _ (List.mem_append_right _ (List.mem_append_right _ (List.mem_append_right _ (List.mem_append_right _ (List.mem_append_right _ (List.mem_append_right _ (List.mem_append_right _ (List.mem_append_right _ (List.mem_append_left _ h)))))))))))))))))))))))))))))))))))
theorem zc_35 {w : Cond} (h : w ∈ wz_35) : w ∈ wz := (List.mem_append_right _ (List.mem_append_right _ (List.mem_append_right _ (List.mem_append_right _ (List.mem_append_right _ (List.mem_append_right _ (List.mem_append_right _ (List.mem_append_right _ (List.mem_append_right _ (List.mem_append_right _ (List.mem_append_right _ (List.mem_append_right _ (List.mem_append_right _ (List.mem_append_right _ (List.mem_append_right _ (List.mem_append_right _ (List.mem_append_right _ (List.mem_append_right _ (List.mem_append_right _ (List.mem_append_right _ (List.mem_append_right _ (List.mem_append_right _ (List.mem_append_right _ (List.mem_append_right _ (List.mem_append_right _ (List.mem_append_right _ (List.mem_append_right _ (List.mem_append_right _ (List.mem_append_right _ (List.mem_append_right _ (List.mem_append_right _ (List.mem_append_right _ (List.mem_append_right _ (List.mem_append_right _ (List.mem_append_right _ (List.mem_append_left _ h))))))))))))))))))))))))))))))))))))
theorem zc_36 {w : Cond} (h : w ∈ wz_36) : w ∈ wz := (List.mem_append_right _ (List.mem_append_right _ (List.mem_append_right _ (List.mem_append_right _ (List.mem_append_right _ (List.mem_append_right _ (List.mem_append_right _ (List.mem_append_right _ (List.mem_append_right _ (List.mem_append_right _ (List.mem_append_right _ (List.mem_append_right _ (List.mem_append_right _ (List.mem_append_right _ (List.mem_append_right _ (List.mem_append_right _ (List.mem_append_right _ (List.mem_append_right _ (List.mem_append_right _ (List.mem_append_right _ (List.mem_append_right _ (List.mem_append_right _ (List.mem_append_right _ (List.mem_append_right _ (List.mem_append_right _ (List.mem_append_right _ (List.mem_append_right _ (List.mem_append_right _ (List.mem_append_right _ (List.mem_append_right _ (List.mem_append_right _ (List.mem_append_right _ (List.mem_append_right _ (List.mem_append_right _ (List.mem_append_right _ (List.mem_append_right _ (List.mem_append_left _ h)))))))))))))))))))))))))))))))))))))
theorem zc_37 {w : Cond} (h : w ∈ wz_37) : w ∈ wz := (List.mem_append_right _ (List.mem_append_right _ (List.mem_append_right _ (List.mem_append_right _ (List.mem_append_right _ (List.mem_append_right _ (List.mem_append_right _ (List.mem_append_right _ (List.mem_append_right _ (List.mem_append_right _ (List.mem_append_right _ (List.mem_append_right _ (List.mem_append_right _ (List.mem_append_right _ (List.mem_append_right _ (List.mem_append_right _ (List.mem_append_right _ (List.mem_append_right _ (List.mem_append_right _ (List.mem_append_right _ (List.mem_append_right _ (List.mem_append_right _ (List.mem_append_right _ (List.mem_append_right _ (List.mem_append_right _ (List.mem_append_right _ (List.mem_append_right _ (List.mem_append_right _ (List.mem_append_right _ (List.mem_append_right _ (List.mem_append_right _ (List.mem_append_right _ (List.mem_append_right _ (List.mem_append_right _ (List.mem_append_right _ (List.mem_append_right _ (List.mem_append_right _ (List.mem_append_left _ h))))))))))))))))))))))))))))))))))))))
theorem zc_38 {w : Cond} (h : w ∈ wz_38) : w ∈ wz := (List.mem_append_right _ (List.mem_append_right _ (List.mem_append_right _ (List.mem_append_right _ (List.mem_append_right _ (List.mem_append_right _ (List.mem_append_right _ (List.mem_append_right _ (List.mem_append_right _ (List.mem_append_right _ (List.mem_append_right _ (List.mem_append_right _ (List.mem_append_right _ (List.mem_append_right _ (List.mem_append_right _ (List.mem_append_right _ (List.mem_append_right _ (List.mem_append_right _ (List.mem_append_right _ (List.mem_append_right _ (List.mem_append_right _ (List.mem_append_right _ (List.mem_append_right _ (List.mem_append_right _ (List.mem_append_right _ (List.mem_append_right _ (List.mem_append_right _ (List.mem_append_right _ (List.mem_append_right _ (List.mem_append_right _ (List.mem_append_right _ (List.mem_append_right _ (List.mem_append_right _ (List.mem_append_right _ (List.mem_append_right _ (List.mem_append_right _ (List.mem_append_right _ (List.mem_append_right _ h))))))))))))))))))))))))))))))))))))))
theorem zm_0 : Cond.instanceMethod objectInit ∈ wz := zc_0 (List.mem_of_getElem? (i := 0) rfl)
theorem zm_1 : Cond.code objectInit ⟨#[0xb1]⟩ 1 none ∈ wz := zc_0 (List.mem_of_getElem? (i := 1) rfl)
theorem zm_2 : Cond.arrayClass .char ∈ wz := zc_0 (List.mem_of_getElem? (i := 2) rfl)
theorem zm_3 : Cond.fieldLink R_Text 9 "LayoutFront$Text" "characters" "[C" ∈ wz := zc_0 (List.mem_of_getElem? (i := 3) rfl)
theorem zm_4 : Cond.methodLink R_Text 3 objectInit ∈ wz := zc_0 (List.mem_of_getElem? (i := 4) rfl)
theorem zm_5 : Cond.methodLink R_Text 15 y_Text_byteOf ∈ wz := zc_0 (List.mem_of_getElem? (i := 5) rfl)
theorem zm_6 : Cond.static y_Text_byteOf ∈ wz := zc_0 (List.mem_of_getElem? (i := 6) rfl)
theorem zm_7 : Cond.initialized R_Text ∈ wz := zc_0 (List.mem_of_getElem? (i := 7) rfl)
theorem zm_8 : Cond.code y_Text_byteOf b_Text_byteOf 3 (some .int) ∈ wz := zc_0 (List.mem_of_getElem? (i := 8) rfl)
theorem zm_9 : Cond.fieldLink R_Text 19 "LayoutFront$Text" "length" "I" ∈ wz := zc_0 (List.mem_of_getElem? (i := 9) rfl)
theorem zm_10 : Cond.methodLink R_Text 23 y_Text_at ∈ wz := zc_0 (List.mem_of_getElem? (i := 10) rfl)
theorem zm_11 : Cond.instanceMethod y_Text_at ∈ wz := zc_0 (List.mem_of_getElem? (i := 11) rfl)
theorem zm_12 : Cond.selects R_Text y_Text_at y_Text_at ∈ wz := zc_0 (List.mem_of_getElem? (i := 12) rfl)
theorem zm_13 : Cond.code y_Text_at b_Text_at 2 (some .char) ∈ wz := zc_0 (List.mem_of_getElem? (i := 13) rfl)
theorem zm_14 : Cond.constantLong R_Text 27 10 ∈ wz := zc_0 (List.mem_of_getElem? (i := 14) rfl)
theorem zm_15 : Cond.arrayClass .long ∈ wz := zc_0 (List.mem_of_getElem? (i := 15) rfl)
theorem zm_16 : Cond.fieldLink R_Fixities 9 "LayoutFront$Fixities" "names" "[J" ∈ wz := zc_0 (List.mem_of_getElem? (i := 16) rfl)
theorem zm_17 : Cond.arrayClass .int ∈ wz := zc_0 (List.mem_of_getElem? (i := 17) rfl)
theorem zm_18 : Cond.fieldLink R_Fixities 15 "LayoutFront$Fixities" "sides" "[I" ∈ wz := zc_0 (List.mem_of_getElem? (i := 18) rfl)
theorem zm_19 : Cond.fieldLink R_Fixities 19 "LayoutFront$Fixities" "levels" "[I" ∈ wz := zc_0 (List.mem_of_getElem? (i := 19) rfl)
theorem zm_20 : Cond.methodLink R_Fixities 3 objectInit ∈ wz := zc_0 (List.mem_of_getElem? (i := 20) rfl)
theorem zm_21 : Cond.fieldLink R_Fixities 22 "LayoutFront$Fixities" "size" "I" ∈ wz := zc_0 (List.mem_of_getElem? (i := 21) rfl)
theorem zm_22 : Cond.methodLink R_Fixities 26 y_Fixities_find ∈ wz := zc_0 (List.mem_of_getElem? (i := 22) rfl)
theorem zm_23 : Cond.instanceMethod y_Fixities_find ∈ wz := zc_0 (List.mem_of_getElem? (i := 23) rfl)
theorem zm_24 : Cond.selects R_Fixities y_Fixities_find y_Fixities_find ∈ wz := zc_0 (List.mem_of_getElem? (i := 24) rfl)
theorem zm_25 : Cond.initialized R_Fixities ∈ wz := zc_0 (List.mem_of_getElem? (i := 25) rfl)
theorem zm_26 : Cond.code y_Fixities_find b_Fixities_find 4 (some .int) ∈ wz := zc_0 (List.mem_of_getElem? (i := 26) rfl)
theorem zm_27 : Cond.methodLink R_Fixities 30 Lib.Math.max.name ∈ wz := zc_0 (List.mem_of_getElem? (i := 27) rfl)
theorem zm_28 : Cond.fieldLink R_Tokens 9 "LayoutFront$Tokens" "kinds" "[I" ∈ wz := zc_0 (List.mem_of_getElem? (i := 28) rfl)
theorem zm_29 : Cond.fieldLink R_Tokens 15 "LayoutFront$Tokens" "values" "[J" ∈ wz := zc_0 (List.mem_of_getElem? (i := 29) rfl)
theorem zm_30 : Cond.methodLink R_Tokens 3 objectInit ∈ wz := zc_1 (List.mem_of_getElem? (i := 0) rfl)
theorem zm_31 : Cond.fieldLink R_Tokens 19 "LayoutFront$Tokens" "size" "I" ∈ wz := zc_1 (List.mem_of_getElem? (i := 1) rfl)
theorem zm_32 : Cond.methodLink R_Tokens 23 y_Tokens_add ∈ wz := zc_1 (List.mem_of_getElem? (i := 2) rfl)
theorem zm_33 : Cond.instanceMethod y_Tokens_add ∈ wz := zc_1 (List.mem_of_getElem? (i := 3) rfl)
theorem zm_34 : Cond.selects R_Tokens y_Tokens_add y_Tokens_add ∈ wz := zc_1 (List.mem_of_getElem? (i := 4) rfl)
theorem zm_35 : Cond.initialized R_Tokens ∈ wz := zc_1 (List.mem_of_getElem? (i := 5) rfl)
theorem zm_36 : Cond.code y_Tokens_add b_Tokens_add 4 none ∈ wz := zc_1 (List.mem_of_getElem? (i := 6) rfl)
theorem zm_37 : Cond.methodLink R_Tokens 27 y_Tokens_has ∈ wz := zc_1 (List.mem_of_getElem? (i := 7) rfl)
theorem zm_38 : Cond.instanceMethod y_Tokens_has ∈ wz := zc_1 (List.mem_of_getElem? (i := 8) rfl)
theorem zm_39 : Cond.selects R_Tokens y_Tokens_has y_Tokens_has ∈ wz := zc_1 (List.mem_of_getElem? (i := 9) rfl)
theorem zm_40 : Cond.code y_Tokens_has b_Tokens_has 2 (some .boolean) ∈ wz := zc_1 (List.mem_of_getElem? (i := 10) rfl)
theorem zm_41 : Cond.methodLink R_Tokens 31 y_Tokens_isSign ∈ wz := zc_1 (List.mem_of_getElem? (i := 11) rfl)
theorem zm_42 : Cond.instanceMethod y_Tokens_isSign ∈ wz := zc_1 (List.mem_of_getElem? (i := 12) rfl)
theorem zm_43 : Cond.selects R_Tokens y_Tokens_isSign y_Tokens_isSign ∈ wz := zc_1 (List.mem_of_getElem? (i := 13) rfl)
theorem zm_44 : Cond.code y_Tokens_isSign b_Tokens_isSign 3 (some .boolean) ∈ wz := zc_1 (List.mem_of_getElem? (i := 14) rfl)
theorem zm_45 : Cond.methodLink R_Tokens 38 y_Tokens_find ∈ wz := zc_1 (List.mem_of_getElem? (i := 15) rfl)
theorem zm_46 : Cond.static y_Tokens_find ∈ wz := zc_1 (List.mem_of_getElem? (i := 16) rfl)
theorem zm_47 : Cond.code y_Tokens_find b_Tokens_find 4 (some .int) ∈ wz := zc_1 (List.mem_of_getElem? (i := 17) rfl)
theorem zm_48 : Cond.classLink R_Lexemes 9 R_Tokens ∈ wz := zc_1 (List.mem_of_getElem? (i := 18) rfl)
theorem zm_49 : Cond.instantiable R_Tokens 3 ∈ wz := zc_1 (List.mem_of_getElem? (i := 19) rfl)
theorem zm_50 : Cond.methodLink R_Lexemes 11 y_Tokens_init ∈ wz := zc_1 (List.mem_of_getElem? (i := 20) rfl)
theorem zm_51 : Cond.instanceMethod y_Tokens_init ∈ wz := zc_1 (List.mem_of_getElem? (i := 21) rfl)
theorem zm_52 : Cond.code y_Tokens_init b_Tokens_init 2 none ∈ wz := zc_1 (List.mem_of_getElem? (i := 22) rfl)
theorem zm_53 : Cond.fieldLink R_Lexemes 14 "LayoutFront$Lexemes" "tokens" "LLayoutFront$Tokens;" ∈ wz := zc_1 (List.mem_of_getElem? (i := 23) rfl)
theorem zm_54 : Cond.fieldLink R_Lexemes 20 "LayoutFront$Lexemes" "places" "[I" ∈ wz := zc_1 (List.mem_of_getElem? (i := 24) rfl)
theorem zm_55 : Cond.fieldLink R_Lexemes 24 "LayoutFront$Lexemes" "columns" "[I" ∈ wz := zc_1 (List.mem_of_getElem? (i := 25) rfl)
theorem zm_56 : Cond.arrayClass .boolean ∈ wz := zc_1 (List.mem_of_getElem? (i := 26) rfl)
theorem zm_57 : Cond.fieldLink R_Lexemes 27 "LayoutFront$Lexemes" "lineFirsts" "[Z" ∈ wz := zc_1 (List.mem_of_getElem? (i := 27) rfl)
theorem zm_58 : Cond.methodLink R_Lexemes 3 objectInit ∈ wz := zc_1 (List.mem_of_getElem? (i := 28) rfl)
theorem zm_59 : Cond.methodLink R_Lexemes 31 y_Tokens_clear ∈ wz := zc_1 (List.mem_of_getElem? (i := 29) rfl)
theorem zm_60 : Cond.instanceMethod y_Tokens_clear ∈ wz := zc_2 (List.mem_of_getElem? (i := 0) rfl)
theorem zm_61 : Cond.selects R_Tokens y_Tokens_clear y_Tokens_clear ∈ wz := zc_2 (List.mem_of_getElem? (i := 1) rfl)
theorem zm_62 : Cond.code y_Tokens_clear b_Tokens_clear 1 none ∈ wz := zc_2 (List.mem_of_getElem? (i := 2) rfl)
theorem zm_63 : Cond.methodLink R_Lexemes 34 y_Tokens_size ∈ wz := zc_2 (List.mem_of_getElem? (i := 3) rfl)
theorem zm_64 : Cond.instanceMethod y_Tokens_size ∈ wz := zc_2 (List.mem_of_getElem? (i := 4) rfl)
theorem zm_65 : Cond.selects R_Tokens y_Tokens_size y_Tokens_size ∈ wz := zc_2 (List.mem_of_getElem? (i := 5) rfl)
theorem zm_66 : Cond.code y_Tokens_size b_Tokens_size 1 (some .int) ∈ wz := zc_2 (List.mem_of_getElem? (i := 6) rfl)
theorem zm_67 : Cond.methodLink R_Lexemes 38 y_Tokens_add ∈ wz := zc_2 (List.mem_of_getElem? (i := 7) rfl)
theorem zm_68 : Cond.methodLink R_Lexemes 42 y_Tokens_has ∈ wz := zc_2 (List.mem_of_getElem? (i := 8) rfl)
theorem zm_69 : Cond.classLink R_Cutter 9 R_Lexemes ∈ wz := zc_2 (List.mem_of_getElem? (i := 9) rfl)
theorem zm_70 : Cond.instantiable R_Lexemes 4 ∈ wz := zc_2 (List.mem_of_getElem? (i := 10) rfl)
theorem zm_71 : Cond.initialized R_Lexemes ∈ wz := zc_2 (List.mem_of_getElem? (i := 11) rfl)
theorem zm_72 : Cond.instanceMethod y_Lexemes_init ∈ wz := zc_2 (List.mem_of_getElem? (i := 12) rfl)
theorem zm_73 : Cond.code y_Lexemes_init b_Lexemes_init 1 none ∈ wz := zc_2 (List.mem_of_getElem? (i := 13) rfl)
theorem zm_74 : Cond.fieldLink R_Cutter 12 "LayoutFront$Cutter" "lexemes" "LLayoutFront$Lexemes;" ∈ wz := zc_2 (List.mem_of_getElem? (i := 14) rfl)
theorem zm_75 : Cond.fieldLink R_Cutter 18 "LayoutFront$Cutter" "wrongPlace" "I" ∈ wz := zc_2 (List.mem_of_getElem? (i := 15) rfl)
theorem zm_76 : Cond.methodLink R_Cutter 3 objectInit ∈ wz := zc_2 (List.mem_of_getElem? (i := 16) rfl)
theorem zm_77 : Cond.fieldLink R_Cutter 22 "LayoutFront$Cutter" "tooMany" "Z" ∈ wz := zc_2 (List.mem_of_getElem? (i := 17) rfl)
theorem zm_78 : Cond.methodLink R_Cutter 26 y_Lexemes_clear ∈ wz := zc_2 (List.mem_of_getElem? (i := 18) rfl)
theorem zm_79 : Cond.instanceMethod y_Lexemes_clear ∈ wz := zc_2 (List.mem_of_getElem? (i := 19) rfl)
theorem zm_80 : Cond.selects R_Lexemes y_Lexemes_clear y_Lexemes_clear ∈ wz := zc_2 (List.mem_of_getElem? (i := 20) rfl)
theorem zm_81 : Cond.code y_Lexemes_clear b_Lexemes_clear 1 none ∈ wz := zc_2 (List.mem_of_getElem? (i := 21) rfl)
theorem zm_82 : Cond.fieldLink R_Cutter 29 "LayoutFront$Cutter" "at" "I" ∈ wz := zc_2 (List.mem_of_getElem? (i := 22) rfl)
theorem zm_83 : Cond.fieldLink R_Cutter 32 "LayoutFront$Cutter" "lineStart" "I" ∈ wz := zc_2 (List.mem_of_getElem? (i := 23) rfl)
theorem zm_84 : Cond.fieldLink R_Cutter 35 "LayoutFront$Cutter" "lineIsFresh" "Z" ∈ wz := zc_2 (List.mem_of_getElem? (i := 24) rfl)
theorem zm_85 : Cond.methodLink R_Cutter 38 y_Text_length ∈ wz := zc_2 (List.mem_of_getElem? (i := 25) rfl)
theorem zm_86 : Cond.instanceMethod y_Text_length ∈ wz := zc_2 (List.mem_of_getElem? (i := 26) rfl)
theorem zm_87 : Cond.selects R_Text y_Text_length y_Text_length ∈ wz := zc_2 (List.mem_of_getElem? (i := 27) rfl)
theorem zm_88 : Cond.code y_Text_length b_Text_length 1 (some .int) ∈ wz := zc_2 (List.mem_of_getElem? (i := 28) rfl)
theorem zm_89 : Cond.methodLink R_Cutter 44 y_Text_at ∈ wz := zc_2 (List.mem_of_getElem? (i := 29) rfl)
theorem zm_90 : Cond.methodLink R_Cutter 47 y_Cutter_isBlank ∈ wz := zc_3 (List.mem_of_getElem? (i := 0) rfl)
theorem zm_91 : Cond.static y_Cutter_isBlank ∈ wz := zc_3 (List.mem_of_getElem? (i := 1) rfl)
theorem zm_92 : Cond.initialized R_Cutter ∈ wz := zc_3 (List.mem_of_getElem? (i := 2) rfl)
theorem zm_93 : Cond.code y_Cutter_isBlank b_Cutter_isBlank 1 (some .boolean) ∈ wz := zc_3 (List.mem_of_getElem? (i := 3) rfl)
theorem zm_94 : Cond.methodLink R_Cutter 51 y_Cutter_passCharacter ∈ wz := zc_3 (List.mem_of_getElem? (i := 4) rfl)
theorem zm_95 : Cond.instanceMethod y_Cutter_passCharacter ∈ wz := zc_3 (List.mem_of_getElem? (i := 5) rfl)
theorem zm_96 : Cond.selects R_Cutter y_Cutter_passCharacter y_Cutter_passCharacter ∈ wz := zc_3 (List.mem_of_getElem? (i := 6) rfl)
theorem zm_97 : Cond.code y_Cutter_passCharacter b_Cutter_passCharacter 2 none ∈ wz := zc_3 (List.mem_of_getElem? (i := 7) rfl)
theorem zm_98 : Cond.methodLink R_Cutter 55 y_Cutter_opensComment ∈ wz := zc_3 (List.mem_of_getElem? (i := 8) rfl)
theorem zm_99 : Cond.static y_Cutter_opensComment ∈ wz := zc_3 (List.mem_of_getElem? (i := 9) rfl)
theorem zm_100 : Cond.code y_Cutter_opensComment b_Cutter_opensComment 2 (some .boolean) ∈ wz := zc_3 (List.mem_of_getElem? (i := 10) rfl)
theorem zm_101 : Cond.methodLink R_Cutter 59 y_Cutter_passComment ∈ wz := zc_3 (List.mem_of_getElem? (i := 11) rfl)
theorem zm_102 : Cond.instanceMethod y_Cutter_passComment ∈ wz := zc_3 (List.mem_of_getElem? (i := 12) rfl)
theorem zm_103 : Cond.selects R_Cutter y_Cutter_passComment y_Cutter_passComment ∈ wz := zc_3 (List.mem_of_getElem? (i := 13) rfl)
theorem zm_104 : Cond.code y_Cutter_passComment b_Cutter_passComment 5 none ∈ wz := zc_3 (List.mem_of_getElem? (i := 14) rfl)
theorem zm_105 : Cond.methodLink R_Cutter 63 y_Cutter_cutLexeme ∈ wz := zc_3 (List.mem_of_getElem? (i := 15) rfl)
theorem zm_106 : Cond.instanceMethod y_Cutter_cutLexeme ∈ wz := zc_3 (List.mem_of_getElem? (i := 16) rfl)
theorem zm_107 : Cond.selects R_Cutter y_Cutter_cutLexeme y_Cutter_cutLexeme ∈ wz := zc_3 (List.mem_of_getElem? (i := 17) rfl)
theorem zm_108 : Cond.code y_Cutter_cutLexeme b_Cutter_cutLexeme 4 none ∈ wz := zc_3 (List.mem_of_getElem? (i := 18) rfl)
theorem zm_109 : Cond.methodLink R_Cutter 66 y_Cutter_closesComment ∈ wz := zc_3 (List.mem_of_getElem? (i := 19) rfl)
theorem zm_110 : Cond.static y_Cutter_closesComment ∈ wz := zc_3 (List.mem_of_getElem? (i := 20) rfl)
theorem zm_111 : Cond.code y_Cutter_closesComment b_Cutter_closesComment 2 (some .boolean) ∈ wz := zc_3 (List.mem_of_getElem? (i := 21) rfl)
theorem zm_112 : Cond.methodLink R_Cutter 69 y_Cutter_kindBegunBy ∈ wz := zc_3 (List.mem_of_getElem? (i := 22) rfl)
theorem zm_113 : Cond.static y_Cutter_kindBegunBy ∈ wz := zc_3 (List.mem_of_getElem? (i := 23) rfl)
theorem zm_114 : Cond.code y_Cutter_kindBegunBy b_Cutter_kindBegunBy 1 (some .int) ∈ wz := zc_3 (List.mem_of_getElem? (i := 24) rfl)
theorem zm_115 : Cond.methodLink R_Cutter 73 y_Cutter_lexemeEnd ∈ wz := zc_3 (List.mem_of_getElem? (i := 25) rfl)
theorem zm_116 : Cond.instanceMethod y_Cutter_lexemeEnd ∈ wz := zc_3 (List.mem_of_getElem? (i := 26) rfl)
theorem zm_117 : Cond.selects R_Cutter y_Cutter_lexemeEnd y_Cutter_lexemeEnd ∈ wz := zc_3 (List.mem_of_getElem? (i := 27) rfl)
theorem zm_118 : Cond.code y_Cutter_lexemeEnd b_Cutter_lexemeEnd 4 (some .int) ∈ wz := zc_3 (List.mem_of_getElem? (i := 28) rfl)
theorem zm_119 : Cond.methodLink R_Cutter 77 y_Cutter_isDashes ∈ wz := zc_3 (List.mem_of_getElem? (i := 29) rfl)
theorem zm_120 : Cond.instanceMethod y_Cutter_isDashes ∈ wz := zc_4 (List.mem_of_getElem? (i := 0) rfl)
theorem zm_121 : Cond.selects R_Cutter y_Cutter_isDashes y_Cutter_isDashes ∈ wz := zc_4 (List.mem_of_getElem? (i := 1) rfl)
theorem zm_122 : Cond.code y_Cutter_isDashes b_Cutter_isDashes 4 (some .boolean) ∈ wz := zc_4 (List.mem_of_getElem? (i := 2) rfl)
theorem zm_123 : Cond.methodLink R_Cutter 80 y_Cutter_lineEnd ∈ wz := zc_4 (List.mem_of_getElem? (i := 3) rfl)
theorem zm_124 : Cond.static y_Cutter_lineEnd ∈ wz := zc_4 (List.mem_of_getElem? (i := 4) rfl)
theorem zm_125 : Cond.code y_Cutter_lineEnd b_Cutter_lineEnd 3 (some .int) ∈ wz := zc_4 (List.mem_of_getElem? (i := 5) rfl)
theorem zm_126 : Cond.methodLink R_Cutter 83 y_Cutter_longest ∈ wz := zc_4 (List.mem_of_getElem? (i := 6) rfl)
theorem zm_127 : Cond.static y_Cutter_longest ∈ wz := zc_4 (List.mem_of_getElem? (i := 7) rfl)
theorem zm_128 : Cond.code y_Cutter_longest b_Cutter_longest 1 (some .int) ∈ wz := zc_4 (List.mem_of_getElem? (i := 8) rfl)
theorem zm_129 : Cond.methodLink R_Cutter 87 y_Lexemes_isFull ∈ wz := zc_4 (List.mem_of_getElem? (i := 9) rfl)
theorem zm_130 : Cond.instanceMethod y_Lexemes_isFull ∈ wz := zc_4 (List.mem_of_getElem? (i := 10) rfl)
theorem zm_131 : Cond.selects R_Lexemes y_Lexemes_isFull y_Lexemes_isFull ∈ wz := zc_4 (List.mem_of_getElem? (i := 11) rfl)
theorem zm_132 : Cond.code y_Lexemes_isFull b_Lexemes_isFull 1 (some .boolean) ∈ wz := zc_4 (List.mem_of_getElem? (i := 12) rfl)
theorem zm_133 : Cond.methodLink R_Cutter 91 y_Cutter_take ∈ wz := zc_4 (List.mem_of_getElem? (i := 13) rfl)
theorem zm_134 : Cond.instanceMethod y_Cutter_take ∈ wz := zc_4 (List.mem_of_getElem? (i := 14) rfl)
theorem zm_135 : Cond.selects R_Cutter y_Cutter_take y_Cutter_take ∈ wz := zc_4 (List.mem_of_getElem? (i := 15) rfl)
theorem zm_136 : Cond.code y_Cutter_take b_Cutter_take 6 none ∈ wz := zc_4 (List.mem_of_getElem? (i := 16) rfl)
theorem zm_137 : Cond.methodLink R_Cutter 95 y_Text_number ∈ wz := zc_4 (List.mem_of_getElem? (i := 17) rfl)
theorem zm_138 : Cond.instanceMethod y_Text_number ∈ wz := zc_4 (List.mem_of_getElem? (i := 18) rfl)
theorem zm_139 : Cond.selects R_Text y_Text_number y_Text_number ∈ wz := zc_4 (List.mem_of_getElem? (i := 19) rfl)
theorem zm_140 : Cond.code y_Text_number b_Text_number 6 (some .long) ∈ wz := zc_4 (List.mem_of_getElem? (i := 20) rfl)
theorem zm_141 : Cond.methodLink R_Cutter 99 y_Text_packed ∈ wz := zc_4 (List.mem_of_getElem? (i := 21) rfl)
theorem zm_142 : Cond.instanceMethod y_Text_packed ∈ wz := zc_4 (List.mem_of_getElem? (i := 22) rfl)
theorem zm_143 : Cond.selects R_Text y_Text_packed y_Text_packed ∈ wz := zc_4 (List.mem_of_getElem? (i := 23) rfl)
theorem zm_144 : Cond.code y_Text_packed b_Text_packed 6 (some .long) ∈ wz := zc_4 (List.mem_of_getElem? (i := 24) rfl)
theorem zm_145 : Cond.methodLink R_Cutter 102 y_Lexemes_add ∈ wz := zc_4 (List.mem_of_getElem? (i := 25) rfl)
theorem zm_146 : Cond.instanceMethod y_Lexemes_add ∈ wz := zc_4 (List.mem_of_getElem? (i := 26) rfl)
theorem zm_147 : Cond.selects R_Lexemes y_Lexemes_add y_Lexemes_add ∈ wz := zc_4 (List.mem_of_getElem? (i := 27) rfl)
theorem zm_148 : Cond.code y_Lexemes_add b_Lexemes_add 8 none ∈ wz := zc_4 (List.mem_of_getElem? (i := 28) rfl)
theorem zm_149 : Cond.methodLink R_Cutter 106 y_Cutter_isLetter ∈ wz := zc_4 (List.mem_of_getElem? (i := 29) rfl)
theorem zm_150 : Cond.static y_Cutter_isLetter ∈ wz := zc_5 (List.mem_of_getElem? (i := 0) rfl)
theorem zm_151 : Cond.code y_Cutter_isLetter b_Cutter_isLetter 1 (some .boolean) ∈ wz := zc_5 (List.mem_of_getElem? (i := 1) rfl)
theorem zm_152 : Cond.methodLink R_Cutter 109 y_Cutter_isDigit ∈ wz := zc_5 (List.mem_of_getElem? (i := 2) rfl)
theorem zm_153 : Cond.static y_Cutter_isDigit ∈ wz := zc_5 (List.mem_of_getElem? (i := 3) rfl)
theorem zm_154 : Cond.code y_Cutter_isDigit b_Cutter_isDigit 1 (some .boolean) ∈ wz := zc_5 (List.mem_of_getElem? (i := 4) rfl)
theorem zm_155 : Cond.methodLink R_Cutter 112 y_Cutter_isOperatorPart ∈ wz := zc_5 (List.mem_of_getElem? (i := 5) rfl)
theorem zm_156 : Cond.static y_Cutter_isOperatorPart ∈ wz := zc_5 (List.mem_of_getElem? (i := 6) rfl)
theorem zm_157 : Cond.code y_Cutter_isOperatorPart b_Cutter_isOperatorPart 1 (some .boolean) ∈ wz := zc_5 (List.mem_of_getElem? (i := 7) rfl)
theorem zm_158 : Cond.methodLink R_Cutter 115 y_Cutter_isSign ∈ wz := zc_5 (List.mem_of_getElem? (i := 8) rfl)
theorem zm_159 : Cond.static y_Cutter_isSign ∈ wz := zc_5 (List.mem_of_getElem? (i := 9) rfl)
theorem zm_160 : Cond.code y_Cutter_isSign b_Cutter_isSign 1 (some .boolean) ∈ wz := zc_5 (List.mem_of_getElem? (i := 10) rfl)
theorem zm_161 : Cond.methodLink R_Cutter 118 y_Cutter_goesOn ∈ wz := zc_5 (List.mem_of_getElem? (i := 11) rfl)
theorem zm_162 : Cond.static y_Cutter_goesOn ∈ wz := zc_5 (List.mem_of_getElem? (i := 12) rfl)
theorem zm_163 : Cond.code y_Cutter_goesOn b_Cutter_goesOn 2 (some .boolean) ∈ wz := zc_5 (List.mem_of_getElem? (i := 13) rfl)
theorem zm_164 : Cond.methodLink R_Cutter 124 y_JS_indexOf0 ∈ wz := zc_5 (List.mem_of_getElem? (i := 14) rfl)
theorem zm_165 : Cond.instanceMethod y_JS_indexOf0 ∈ wz := zc_5 (List.mem_of_getElem? (i := 15) rfl)
theorem zm_166 : Cond.selects R_JS y_JS_indexOf0 y_JS_indexOf0 ∈ wz := zc_5 (List.mem_of_getElem? (i := 16) rfl)
theorem zm_167 : Cond.initialized R_JS ∈ wz := zc_5 (List.mem_of_getElem? (i := 17) rfl)
theorem zm_168 : Cond.code y_JS_indexOf0 b_JS_indexOf0 2 (some .int) ∈ wz := zc_5 (List.mem_of_getElem? (i := 18) rfl)
theorem zm_169 : Cond.fieldLink R_Open 9 "LayoutFront$Open" "things" "[I" ∈ wz := zc_5 (List.mem_of_getElem? (i := 19) rfl)
theorem zm_170 : Cond.methodLink R_Open 3 objectInit ∈ wz := zc_5 (List.mem_of_getElem? (i := 20) rfl)
theorem zm_171 : Cond.fieldLink R_Open 15 "LayoutFront$Open" "size" "I" ∈ wz := zc_5 (List.mem_of_getElem? (i := 21) rfl)
theorem zm_172 : Cond.fieldLink R_Open 19 "LayoutFront$Open" "most" "I" ∈ wz := zc_5 (List.mem_of_getElem? (i := 22) rfl)
theorem zm_173 : Cond.methodLink R_Open 22 Lib.Math.max.name ∈ wz := zc_5 (List.mem_of_getElem? (i := 23) rfl)
theorem zm_174 : Cond.methodLink R_Open 28 y_Open_at ∈ wz := zc_5 (List.mem_of_getElem? (i := 24) rfl)
theorem zm_175 : Cond.instanceMethod y_Open_at ∈ wz := zc_5 (List.mem_of_getElem? (i := 25) rfl)
theorem zm_176 : Cond.selects R_Open y_Open_at y_Open_at ∈ wz := zc_5 (List.mem_of_getElem? (i := 26) rfl)
theorem zm_177 : Cond.initialized R_Open ∈ wz := zc_5 (List.mem_of_getElem? (i := 27) rfl)
theorem zm_178 : Cond.code y_Open_at b_Open_at 2 (some .int) ∈ wz := zc_5 (List.mem_of_getElem? (i := 28) rfl)
theorem zm_179 : Cond.classLink R_Blocks 9 R_Open ∈ wz := zc_5 (List.mem_of_getElem? (i := 29) rfl)
theorem zm_180 : Cond.instantiable R_Open 3 ∈ wz := zc_6 (List.mem_of_getElem? (i := 0) rfl)
theorem zm_181 : Cond.instanceMethod y_Open_init ∈ wz := zc_6 (List.mem_of_getElem? (i := 1) rfl)
theorem zm_182 : Cond.code y_Open_init b_Open_init 1 none ∈ wz := zc_6 (List.mem_of_getElem? (i := 2) rfl)
theorem zm_183 : Cond.fieldLink R_Blocks 12 "LayoutFront$Blocks" "open" "LLayoutFront$Open;" ∈ wz := zc_6 (List.mem_of_getElem? (i := 3) rfl)
theorem zm_184 : Cond.classLink R_Blocks 18 R_Tokens ∈ wz := zc_6 (List.mem_of_getElem? (i := 4) rfl)
theorem zm_185 : Cond.methodLink R_Blocks 20 y_Tokens_init ∈ wz := zc_6 (List.mem_of_getElem? (i := 5) rfl)
theorem zm_186 : Cond.fieldLink R_Blocks 23 "LayoutFront$Blocks" "laid" "LLayoutFront$Tokens;" ∈ wz := zc_6 (List.mem_of_getElem? (i := 6) rfl)
theorem zm_187 : Cond.methodLink R_Blocks 3 objectInit ∈ wz := zc_6 (List.mem_of_getElem? (i := 7) rfl)
theorem zm_188 : Cond.fieldLink R_Blocks 27 "LayoutFront$Blocks" "begun" "I" ∈ wz := zc_6 (List.mem_of_getElem? (i := 8) rfl)
theorem zm_189 : Cond.methodLink R_Blocks 31 y_Open_most ∈ wz := zc_6 (List.mem_of_getElem? (i := 9) rfl)
theorem zm_190 : Cond.instanceMethod y_Open_most ∈ wz := zc_6 (List.mem_of_getElem? (i := 10) rfl)
theorem zm_191 : Cond.selects R_Open y_Open_most y_Open_most ∈ wz := zc_6 (List.mem_of_getElem? (i := 11) rfl)
theorem zm_192 : Cond.code y_Open_most b_Open_most 1 (some .int) ∈ wz := zc_6 (List.mem_of_getElem? (i := 12) rfl)
theorem zm_193 : Cond.methodLink R_Blocks 35 y_Open_clear ∈ wz := zc_6 (List.mem_of_getElem? (i := 13) rfl)
theorem zm_194 : Cond.instanceMethod y_Open_clear ∈ wz := zc_6 (List.mem_of_getElem? (i := 14) rfl)
theorem zm_195 : Cond.selects R_Open y_Open_clear y_Open_clear ∈ wz := zc_6 (List.mem_of_getElem? (i := 15) rfl)
theorem zm_196 : Cond.code y_Open_clear b_Open_clear 1 none ∈ wz := zc_6 (List.mem_of_getElem? (i := 16) rfl)
theorem zm_197 : Cond.methodLink R_Blocks 38 y_Tokens_clear ∈ wz := zc_6 (List.mem_of_getElem? (i := 17) rfl)
theorem zm_198 : Cond.methodLink R_Blocks 39 y_Lexemes_size ∈ wz := zc_6 (List.mem_of_getElem? (i := 18) rfl)
theorem zm_199 : Cond.instanceMethod y_Lexemes_size ∈ wz := zc_6 (List.mem_of_getElem? (i := 19) rfl)
theorem zm_200 : Cond.selects R_Lexemes y_Lexemes_size y_Lexemes_size ∈ wz := zc_6 (List.mem_of_getElem? (i := 20) rfl)
theorem zm_201 : Cond.code y_Lexemes_size b_Lexemes_size 1 (some .int) ∈ wz := zc_6 (List.mem_of_getElem? (i := 21) rfl)
theorem zm_202 : Cond.methodLink R_Blocks 44 y_Blocks_putBefore ∈ wz := zc_6 (List.mem_of_getElem? (i := 22) rfl)
theorem zm_203 : Cond.instanceMethod y_Blocks_putBefore ∈ wz := zc_6 (List.mem_of_getElem? (i := 23) rfl)
theorem zm_204 : Cond.selects R_Blocks y_Blocks_putBefore y_Blocks_putBefore ∈ wz := zc_6 (List.mem_of_getElem? (i := 24) rfl)
theorem zm_205 : Cond.initialized R_Blocks ∈ wz := zc_6 (List.mem_of_getElem? (i := 25) rfl)
theorem zm_206 : Cond.code y_Blocks_putBefore b_Blocks_putBefore 3 none ∈ wz := zc_6 (List.mem_of_getElem? (i := 26) rfl)
theorem zm_207 : Cond.methodLink R_Blocks 48 y_Lexemes_tokens ∈ wz := zc_6 (List.mem_of_getElem? (i := 27) rfl)
theorem zm_208 : Cond.instanceMethod y_Lexemes_tokens ∈ wz := zc_6 (List.mem_of_getElem? (i := 28) rfl)
theorem zm_209 : Cond.selects R_Lexemes y_Lexemes_tokens y_Lexemes_tokens ∈ wz := zc_6 (List.mem_of_getElem? (i := 29) rfl)
theorem zm_210 : Cond.code y_Lexemes_tokens b_Lexemes_tokens 1 (some (.object "LayoutFront$Tokens")) ∈ wz := zc_7 (List.mem_of_getElem? (i := 0) rfl)
theorem zm_211 : Cond.methodLink R_Blocks 52 y_Tokens_kindAt ∈ wz := zc_7 (List.mem_of_getElem? (i := 1) rfl)
theorem zm_212 : Cond.instanceMethod y_Tokens_kindAt ∈ wz := zc_7 (List.mem_of_getElem? (i := 2) rfl)
theorem zm_213 : Cond.selects R_Tokens y_Tokens_kindAt y_Tokens_kindAt ∈ wz := zc_7 (List.mem_of_getElem? (i := 3) rfl)
theorem zm_214 : Cond.code y_Tokens_kindAt b_Tokens_kindAt 2 (some .int) ∈ wz := zc_7 (List.mem_of_getElem? (i := 4) rfl)
theorem zm_215 : Cond.methodLink R_Blocks 56 y_Tokens_valueAt ∈ wz := zc_7 (List.mem_of_getElem? (i := 5) rfl)
theorem zm_216 : Cond.instanceMethod y_Tokens_valueAt ∈ wz := zc_7 (List.mem_of_getElem? (i := 6) rfl)
theorem zm_217 : Cond.selects R_Tokens y_Tokens_valueAt y_Tokens_valueAt ∈ wz := zc_7 (List.mem_of_getElem? (i := 7) rfl)
theorem zm_218 : Cond.code y_Tokens_valueAt b_Tokens_valueAt 2 (some .long) ∈ wz := zc_7 (List.mem_of_getElem? (i := 8) rfl)
theorem zm_219 : Cond.methodLink R_Blocks 60 y_Blocks_passSign ∈ wz := zc_7 (List.mem_of_getElem? (i := 9) rfl)
theorem zm_220 : Cond.instanceMethod y_Blocks_passSign ∈ wz := zc_7 (List.mem_of_getElem? (i := 10) rfl)
theorem zm_221 : Cond.selects R_Blocks y_Blocks_passSign y_Blocks_passSign ∈ wz := zc_7 (List.mem_of_getElem? (i := 11) rfl)
theorem zm_222 : Cond.code y_Blocks_passSign b_Blocks_passSign 2 (some .boolean) ∈ wz := zc_7 (List.mem_of_getElem? (i := 12) rfl)
theorem zm_223 : Cond.methodLink R_Blocks 64 y_Tokens_wordAt ∈ wz := zc_7 (List.mem_of_getElem? (i := 13) rfl)
theorem zm_224 : Cond.instanceMethod y_Tokens_wordAt ∈ wz := zc_7 (List.mem_of_getElem? (i := 14) rfl)
theorem zm_225 : Cond.selects R_Tokens y_Tokens_wordAt y_Tokens_wordAt ∈ wz := zc_7 (List.mem_of_getElem? (i := 15) rfl)
theorem zm_226 : Cond.code y_Tokens_wordAt b_Tokens_wordAt 2 (some .int) ∈ wz := zc_7 (List.mem_of_getElem? (i := 16) rfl)
theorem zm_227 : Cond.methodLink R_Blocks 67 y_Blocks_passWord ∈ wz := zc_7 (List.mem_of_getElem? (i := 17) rfl)
theorem zm_228 : Cond.instanceMethod y_Blocks_passWord ∈ wz := zc_7 (List.mem_of_getElem? (i := 18) rfl)
theorem zm_229 : Cond.selects R_Blocks y_Blocks_passWord y_Blocks_passWord ∈ wz := zc_7 (List.mem_of_getElem? (i := 19) rfl)
theorem zm_230 : Cond.code y_Blocks_passWord b_Blocks_passWord 3 (some .boolean) ∈ wz := zc_7 (List.mem_of_getElem? (i := 20) rfl)
theorem zm_231 : Cond.methodLink R_Blocks 71 y_Lexemes_placeAt ∈ wz := zc_7 (List.mem_of_getElem? (i := 21) rfl)
theorem zm_232 : Cond.instanceMethod y_Lexemes_placeAt ∈ wz := zc_7 (List.mem_of_getElem? (i := 22) rfl)
theorem zm_233 : Cond.selects R_Lexemes y_Lexemes_placeAt y_Lexemes_placeAt ∈ wz := zc_7 (List.mem_of_getElem? (i := 23) rfl)
theorem zm_234 : Cond.code y_Lexemes_placeAt b_Lexemes_placeAt 2 (some .int) ∈ wz := zc_7 (List.mem_of_getElem? (i := 24) rfl)
theorem zm_235 : Cond.methodLink R_Blocks 74 y_Tokens_add ∈ wz := zc_7 (List.mem_of_getElem? (i := 25) rfl)
theorem zm_236 : Cond.methodLink R_Blocks 78 y_Blocks_closeBlocks ∈ wz := zc_7 (List.mem_of_getElem? (i := 26) rfl)
theorem zm_237 : Cond.instanceMethod y_Blocks_closeBlocks ∈ wz := zc_7 (List.mem_of_getElem? (i := 27) rfl)
theorem zm_238 : Cond.selects R_Blocks y_Blocks_closeBlocks y_Blocks_closeBlocks ∈ wz := zc_7 (List.mem_of_getElem? (i := 28) rfl)
theorem zm_239 : Cond.code y_Blocks_closeBlocks b_Blocks_closeBlocks 3 none ∈ wz := zc_7 (List.mem_of_getElem? (i := 29) rfl)
theorem zm_240 : Cond.methodLink R_Blocks 82 y_Open_size ∈ wz := zc_8 (List.mem_of_getElem? (i := 0) rfl)
theorem zm_241 : Cond.instanceMethod y_Open_size ∈ wz := zc_8 (List.mem_of_getElem? (i := 1) rfl)
theorem zm_242 : Cond.selects R_Open y_Open_size y_Open_size ∈ wz := zc_8 (List.mem_of_getElem? (i := 2) rfl)
theorem zm_243 : Cond.code y_Open_size b_Open_size 1 (some .int) ∈ wz := zc_8 (List.mem_of_getElem? (i := 3) rfl)
theorem zm_244 : Cond.methodLink R_Blocks 83 y_Blocks_beginsBlock ∈ wz := zc_8 (List.mem_of_getElem? (i := 4) rfl)
theorem zm_245 : Cond.static y_Blocks_beginsBlock ∈ wz := zc_8 (List.mem_of_getElem? (i := 5) rfl)
theorem zm_246 : Cond.code y_Blocks_beginsBlock b_Blocks_beginsBlock 2 (some .boolean) ∈ wz := zc_8 (List.mem_of_getElem? (i := 6) rfl)
theorem zm_247 : Cond.methodLink R_Blocks 87 y_Lexemes_columnAt ∈ wz := zc_8 (List.mem_of_getElem? (i := 7) rfl)
theorem zm_248 : Cond.instanceMethod y_Lexemes_columnAt ∈ wz := zc_8 (List.mem_of_getElem? (i := 8) rfl)
theorem zm_249 : Cond.selects R_Lexemes y_Lexemes_columnAt y_Lexemes_columnAt ∈ wz := zc_8 (List.mem_of_getElem? (i := 9) rfl)
theorem zm_250 : Cond.code y_Lexemes_columnAt b_Lexemes_columnAt 2 (some .int) ∈ wz := zc_8 (List.mem_of_getElem? (i := 10) rfl)
theorem zm_251 : Cond.methodLink R_Blocks 90 y_Blocks_begin ∈ wz := zc_8 (List.mem_of_getElem? (i := 11) rfl)
theorem zm_252 : Cond.instanceMethod y_Blocks_begin ∈ wz := zc_8 (List.mem_of_getElem? (i := 12) rfl)
theorem zm_253 : Cond.selects R_Blocks y_Blocks_begin y_Blocks_begin ∈ wz := zc_8 (List.mem_of_getElem? (i := 13) rfl)
theorem zm_254 : Cond.code y_Blocks_begin b_Blocks_begin 2 none ∈ wz := zc_8 (List.mem_of_getElem? (i := 14) rfl)
theorem zm_255 : Cond.methodLink R_Blocks 93 y_Lexemes_isLineFirst ∈ wz := zc_8 (List.mem_of_getElem? (i := 15) rfl)
theorem zm_256 : Cond.instanceMethod y_Lexemes_isLineFirst ∈ wz := zc_8 (List.mem_of_getElem? (i := 16) rfl)
theorem zm_257 : Cond.selects R_Lexemes y_Lexemes_isLineFirst y_Lexemes_isLineFirst ∈ wz := zc_8 (List.mem_of_getElem? (i := 17) rfl)
theorem zm_258 : Cond.code y_Lexemes_isLineFirst b_Lexemes_isLineFirst 2 (some .boolean) ∈ wz := zc_8 (List.mem_of_getElem? (i := 18) rfl)
theorem zm_259 : Cond.methodLink R_Blocks 96 y_Blocks_mark ∈ wz := zc_8 (List.mem_of_getElem? (i := 19) rfl)
theorem zm_260 : Cond.instanceMethod y_Blocks_mark ∈ wz := zc_8 (List.mem_of_getElem? (i := 20) rfl)
theorem zm_261 : Cond.selects R_Blocks y_Blocks_mark y_Blocks_mark ∈ wz := zc_8 (List.mem_of_getElem? (i := 21) rfl)
theorem zm_262 : Cond.code y_Blocks_mark b_Blocks_mark 3 none ∈ wz := zc_8 (List.mem_of_getElem? (i := 22) rfl)
theorem zm_263 : Cond.methodLink R_Blocks 99 y_Tokens_isSign ∈ wz := zc_8 (List.mem_of_getElem? (i := 23) rfl)
theorem zm_264 : Cond.methodLink R_Blocks 103 y_Blocks_putIn ∈ wz := zc_8 (List.mem_of_getElem? (i := 24) rfl)
theorem zm_265 : Cond.instanceMethod y_Blocks_putIn ∈ wz := zc_8 (List.mem_of_getElem? (i := 25) rfl)
theorem zm_266 : Cond.selects R_Blocks y_Blocks_putIn y_Blocks_putIn ∈ wz := zc_8 (List.mem_of_getElem? (i := 26) rfl)
theorem zm_267 : Cond.code y_Blocks_putIn b_Blocks_putIn 2 none ∈ wz := zc_8 (List.mem_of_getElem? (i := 27) rfl)
theorem zm_268 : Cond.methodLink R_Blocks 107 y_Open_latestColumn ∈ wz := zc_8 (List.mem_of_getElem? (i := 28) rfl)
theorem zm_269 : Cond.instanceMethod y_Open_latestColumn ∈ wz := zc_8 (List.mem_of_getElem? (i := 29) rfl)
theorem zm_270 : Cond.selects R_Open y_Open_latestColumn y_Open_latestColumn ∈ wz := zc_9 (List.mem_of_getElem? (i := 0) rfl)
theorem zm_271 : Cond.code y_Open_latestColumn b_Open_latestColumn 2 (some .int) ∈ wz := zc_9 (List.mem_of_getElem? (i := 1) rfl)
theorem zm_272 : Cond.methodLink R_Blocks 110 y_Open_push ∈ wz := zc_9 (List.mem_of_getElem? (i := 2) rfl)
theorem zm_273 : Cond.instanceMethod y_Open_push ∈ wz := zc_9 (List.mem_of_getElem? (i := 3) rfl)
theorem zm_274 : Cond.selects R_Open y_Open_push y_Open_push ∈ wz := zc_9 (List.mem_of_getElem? (i := 4) rfl)
theorem zm_275 : Cond.code y_Open_push b_Open_push 2 none ∈ wz := zc_9 (List.mem_of_getElem? (i := 5) rfl)
theorem zm_276 : Cond.methodLink R_Blocks 113 y_Open_belowLets ∈ wz := zc_9 (List.mem_of_getElem? (i := 6) rfl)
theorem zm_277 : Cond.instanceMethod y_Open_belowLets ∈ wz := zc_9 (List.mem_of_getElem? (i := 7) rfl)
theorem zm_278 : Cond.selects R_Open y_Open_belowLets y_Open_belowLets ∈ wz := zc_9 (List.mem_of_getElem? (i := 8) rfl)
theorem zm_279 : Cond.code y_Open_belowLets b_Open_belowLets 2 (some .int) ∈ wz := zc_9 (List.mem_of_getElem? (i := 9) rfl)
theorem zm_280 : Cond.methodLink R_Blocks 116 y_Open_dropLets ∈ wz := zc_9 (List.mem_of_getElem? (i := 10) rfl)
theorem zm_281 : Cond.instanceMethod y_Open_dropLets ∈ wz := zc_9 (List.mem_of_getElem? (i := 11) rfl)
theorem zm_282 : Cond.selects R_Open y_Open_dropLets y_Open_dropLets ∈ wz := zc_9 (List.mem_of_getElem? (i := 12) rfl)
theorem zm_283 : Cond.code y_Open_dropLets b_Open_dropLets 1 none ∈ wz := zc_9 (List.mem_of_getElem? (i := 13) rfl)
theorem zm_284 : Cond.methodLink R_Blocks 119 y_Open_pop ∈ wz := zc_9 (List.mem_of_getElem? (i := 14) rfl)
theorem zm_285 : Cond.instanceMethod y_Open_pop ∈ wz := zc_9 (List.mem_of_getElem? (i := 15) rfl)
theorem zm_286 : Cond.selects R_Open y_Open_pop y_Open_pop ∈ wz := zc_9 (List.mem_of_getElem? (i := 16) rfl)
theorem zm_287 : Cond.code y_Open_pop b_Open_pop 1 none ∈ wz := zc_9 (List.mem_of_getElem? (i := 17) rfl)
theorem zm_288 : Cond.methodLink R_Blocks 122 y_Blocks_end ∈ wz := zc_9 (List.mem_of_getElem? (i := 18) rfl)
theorem zm_289 : Cond.instanceMethod y_Blocks_end ∈ wz := zc_9 (List.mem_of_getElem? (i := 19) rfl)
theorem zm_290 : Cond.selects R_Blocks y_Blocks_end y_Blocks_end ∈ wz := zc_9 (List.mem_of_getElem? (i := 20) rfl)
theorem zm_291 : Cond.code y_Blocks_end b_Blocks_end 3 (some .boolean) ∈ wz := zc_9 (List.mem_of_getElem? (i := 21) rfl)
theorem zm_292 : Cond.methodLink R_Blocks 125 y_Blocks_passBrace ∈ wz := zc_9 (List.mem_of_getElem? (i := 22) rfl)
theorem zm_293 : Cond.instanceMethod y_Blocks_passBrace ∈ wz := zc_9 (List.mem_of_getElem? (i := 23) rfl)
theorem zm_294 : Cond.selects R_Blocks y_Blocks_passBrace y_Blocks_passBrace ∈ wz := zc_9 (List.mem_of_getElem? (i := 24) rfl)
theorem zm_295 : Cond.code y_Blocks_passBrace b_Blocks_passBrace 2 (some .boolean) ∈ wz := zc_9 (List.mem_of_getElem? (i := 25) rfl)
theorem zm_296 : Cond.methodLink R_Blocks 129 y_Blocks_passComma ∈ wz := zc_9 (List.mem_of_getElem? (i := 26) rfl)
theorem zm_297 : Cond.instanceMethod y_Blocks_passComma ∈ wz := zc_9 (List.mem_of_getElem? (i := 27) rfl)
theorem zm_298 : Cond.selects R_Blocks y_Blocks_passComma y_Blocks_passComma ∈ wz := zc_9 (List.mem_of_getElem? (i := 28) rfl)
theorem zm_299 : Cond.code y_Blocks_passComma b_Blocks_passComma 2 none ∈ wz := zc_9 (List.mem_of_getElem? (i := 29) rfl)
theorem zm_300 : Cond.methodLink R_Blocks 132 y_Open_top ∈ wz := zc_10 (List.mem_of_getElem? (i := 0) rfl)
theorem zm_301 : Cond.instanceMethod y_Open_top ∈ wz := zc_10 (List.mem_of_getElem? (i := 1) rfl)
theorem zm_302 : Cond.selects R_Open y_Open_top y_Open_top ∈ wz := zc_10 (List.mem_of_getElem? (i := 2) rfl)
theorem zm_303 : Cond.code y_Open_top b_Open_top 1 (some .int) ∈ wz := zc_10 (List.mem_of_getElem? (i := 3) rfl)
theorem zm_304 : Cond.methodLink R_Blocks 135 y_Open_belowLetsAndLaidBlocks ∈ wz := zc_10 (List.mem_of_getElem? (i := 4) rfl)
theorem zm_305 : Cond.instanceMethod y_Open_belowLetsAndLaidBlocks ∈ wz := zc_10 (List.mem_of_getElem? (i := 5) rfl)
theorem zm_306 : Cond.selects R_Open y_Open_belowLetsAndLaidBlocks y_Open_belowLetsAndLaidBlocks ∈ wz := zc_10 (List.mem_of_getElem? (i := 6) rfl)
theorem zm_307 : Cond.code y_Open_belowLetsAndLaidBlocks b_Open_belowLetsAndLaidBlocks 2 (some .int) ∈ wz := zc_10 (List.mem_of_getElem? (i := 7) rfl)
theorem zm_308 : Cond.fieldLink R_Row 9 "LayoutFront$Row" "parts" "[I" ∈ wz := zc_10 (List.mem_of_getElem? (i := 8) rfl)
theorem zm_309 : Cond.fieldLink R_Row 15 "LayoutFront$Row" "firsts" "[I" ∈ wz := zc_10 (List.mem_of_getElem? (i := 9) rfl)
theorem zm_310 : Cond.fieldLink R_Row 18 "LayoutFront$Row" "lasts" "[I" ∈ wz := zc_10 (List.mem_of_getElem? (i := 10) rfl)
theorem zm_311 : Cond.methodLink R_Row 3 objectInit ∈ wz := zc_10 (List.mem_of_getElem? (i := 11) rfl)
theorem zm_312 : Cond.fieldLink R_Row 21 "LayoutFront$Row" "size" "I" ∈ wz := zc_10 (List.mem_of_getElem? (i := 12) rfl)
theorem zm_313 : Cond.fieldLink R_Row 25 "LayoutFront$Row" "operates" "Z" ∈ wz := zc_10 (List.mem_of_getElem? (i := 13) rfl)
theorem zm_314 : Cond.fieldLink R_Row 29 "LayoutFront$Row" "lacksOperand" "Z" ∈ wz := zc_10 (List.mem_of_getElem? (i := 14) rfl)
theorem zm_315 : Cond.methodLink R_Row 32 y_Row_endsWithOperand ∈ wz := zc_10 (List.mem_of_getElem? (i := 15) rfl)
theorem zm_316 : Cond.instanceMethod y_Row_endsWithOperand ∈ wz := zc_10 (List.mem_of_getElem? (i := 16) rfl)
theorem zm_317 : Cond.selects R_Row y_Row_endsWithOperand y_Row_endsWithOperand ∈ wz := zc_10 (List.mem_of_getElem? (i := 17) rfl)
theorem zm_318 : Cond.initialized R_Row ∈ wz := zc_10 (List.mem_of_getElem? (i := 18) rfl)
theorem zm_319 : Cond.code y_Row_endsWithOperand b_Row_endsWithOperand 1 (some .boolean) ∈ wz := zc_10 (List.mem_of_getElem? (i := 19) rfl)
theorem zm_320 : Cond.methodLink R_Row 36 y_Row_add ∈ wz := zc_10 (List.mem_of_getElem? (i := 20) rfl)
theorem zm_321 : Cond.instanceMethod y_Row_add ∈ wz := zc_10 (List.mem_of_getElem? (i := 21) rfl)
theorem zm_322 : Cond.selects R_Row y_Row_add y_Row_add ∈ wz := zc_10 (List.mem_of_getElem? (i := 22) rfl)
theorem zm_323 : Cond.code y_Row_add b_Row_add 4 none ∈ wz := zc_10 (List.mem_of_getElem? (i := 23) rfl)
theorem zm_324 : Cond.methodLink R_Row 40 y_Row_has ∈ wz := zc_10 (List.mem_of_getElem? (i := 24) rfl)
theorem zm_325 : Cond.instanceMethod y_Row_has ∈ wz := zc_10 (List.mem_of_getElem? (i := 25) rfl)
theorem zm_326 : Cond.selects R_Row y_Row_has y_Row_has ∈ wz := zc_10 (List.mem_of_getElem? (i := 26) rfl)
theorem zm_327 : Cond.code y_Row_has b_Row_has 2 (some .boolean) ∈ wz := zc_10 (List.mem_of_getElem? (i := 27) rfl)
theorem zm_328 : Cond.fieldLink R_Resolver 9 "LayoutFront$Resolver" "pairFirsts" "[I" ∈ wz := zc_10 (List.mem_of_getElem? (i := 28) rfl)
theorem zm_329 : Cond.fieldLink R_Resolver 15 "LayoutFront$Resolver" "pairLasts" "[I" ∈ wz := zc_10 (List.mem_of_getElem? (i := 29) rfl)
theorem zm_330 : Cond.fieldLink R_Resolver 18 "LayoutFront$Resolver" "firsts" "[I" ∈ wz := zc_11 (List.mem_of_getElem? (i := 0) rfl)
theorem zm_331 : Cond.fieldLink R_Resolver 21 "LayoutFront$Resolver" "lasts" "[I" ∈ wz := zc_11 (List.mem_of_getElem? (i := 1) rfl)
theorem zm_332 : Cond.fieldLink R_Resolver 24 "LayoutFront$Resolver" "levels" "[I" ∈ wz := zc_11 (List.mem_of_getElem? (i := 2) rfl)
theorem zm_333 : Cond.fieldLink R_Resolver 27 "LayoutFront$Resolver" "sides" "[I" ∈ wz := zc_11 (List.mem_of_getElem? (i := 3) rfl)
theorem zm_334 : Cond.fieldLink R_Resolver 30 "LayoutFront$Resolver" "minusPlaces" "[I" ∈ wz := zc_11 (List.mem_of_getElem? (i := 4) rfl)
theorem zm_335 : Cond.methodLink R_Resolver 3 objectInit ∈ wz := zc_11 (List.mem_of_getElem? (i := 5) rfl)
theorem zm_336 : Cond.fieldLink R_Resolver 33 "LayoutFront$Resolver" "pairs" "I" ∈ wz := zc_11 (List.mem_of_getElem? (i := 6) rfl)
theorem zm_337 : Cond.methodLink R_Resolver 37 y_Resolver_startRow ∈ wz := zc_11 (List.mem_of_getElem? (i := 7) rfl)
theorem zm_338 : Cond.instanceMethod y_Resolver_startRow ∈ wz := zc_11 (List.mem_of_getElem? (i := 8) rfl)
theorem zm_339 : Cond.selects R_Resolver y_Resolver_startRow y_Resolver_startRow ∈ wz := zc_11 (List.mem_of_getElem? (i := 9) rfl)
theorem zm_340 : Cond.initialized R_Resolver ∈ wz := zc_11 (List.mem_of_getElem? (i := 10) rfl)
theorem zm_341 : Cond.code y_Resolver_startRow b_Resolver_startRow 1 none ∈ wz := zc_11 (List.mem_of_getElem? (i := 11) rfl)
theorem zm_342 : Cond.fieldLink R_Resolver 40 "LayoutFront$Resolver" "pairsBefore" "I" ∈ wz := zc_11 (List.mem_of_getElem? (i := 12) rfl)
theorem zm_343 : Cond.fieldLink R_Resolver 43 "LayoutFront$Resolver" "operands" "I" ∈ wz := zc_11 (List.mem_of_getElem? (i := 13) rfl)
theorem zm_344 : Cond.fieldLink R_Resolver 46 "LayoutFront$Resolver" "waiting" "I" ∈ wz := zc_11 (List.mem_of_getElem? (i := 14) rfl)
theorem zm_345 : Cond.methodLink R_Resolver 49 y_Resolver_giveSides ∈ wz := zc_11 (List.mem_of_getElem? (i := 15) rfl)
theorem zm_346 : Cond.instanceMethod y_Resolver_giveSides ∈ wz := zc_11 (List.mem_of_getElem? (i := 16) rfl)
theorem zm_347 : Cond.selects R_Resolver y_Resolver_giveSides y_Resolver_giveSides ∈ wz := zc_11 (List.mem_of_getElem? (i := 17) rfl)
theorem zm_348 : Cond.code y_Resolver_giveSides b_Resolver_giveSides 1 none ∈ wz := zc_11 (List.mem_of_getElem? (i := 18) rfl)
theorem zm_349 : Cond.methodLink R_Resolver 52 y_Resolver_letWait ∈ wz := zc_11 (List.mem_of_getElem? (i := 19) rfl)
theorem zm_350 : Cond.instanceMethod y_Resolver_letWait ∈ wz := zc_11 (List.mem_of_getElem? (i := 20) rfl)
theorem zm_351 : Cond.selects R_Resolver y_Resolver_letWait y_Resolver_letWait ∈ wz := zc_11 (List.mem_of_getElem? (i := 21) rfl)
theorem zm_352 : Cond.code y_Resolver_letWait b_Resolver_letWait 4 none ∈ wz := zc_11 (List.mem_of_getElem? (i := 22) rfl)
theorem zm_353 : Cond.fieldLink R_Rows 9 "LayoutFront$Rows" "closers" "[I" ∈ wz := zc_11 (List.mem_of_getElem? (i := 23) rfl)
theorem zm_354 : Cond.fieldLink R_Rows 15 "LayoutFront$Rows" "openers" "[I" ∈ wz := zc_11 (List.mem_of_getElem? (i := 24) rfl)
theorem zm_355 : Cond.fieldLink R_Rows 18 "LayoutFront$Rows" "opened" "[I" ∈ wz := zc_11 (List.mem_of_getElem? (i := 25) rfl)
theorem zm_356 : Cond.fieldLink R_Rows 21 "LayoutFront$Rows" "closed" "[I" ∈ wz := zc_11 (List.mem_of_getElem? (i := 26) rfl)
theorem zm_357 : Cond.classLink R_Rows 24 R_Row ∈ wz := zc_11 (List.mem_of_getElem? (i := 27) rfl)
theorem zm_358 : Cond.instantiable R_Row 6 ∈ wz := zc_11 (List.mem_of_getElem? (i := 28) rfl)
theorem zm_359 : Cond.instanceMethod y_Row_init ∈ wz := zc_11 (List.mem_of_getElem? (i := 29) rfl)
theorem zm_360 : Cond.code y_Row_init b_Row_init 1 none ∈ wz := zc_12 (List.mem_of_getElem? (i := 0) rfl)
theorem zm_361 : Cond.fieldLink R_Rows 27 "LayoutFront$Rows" "row" "LLayoutFront$Row;" ∈ wz := zc_12 (List.mem_of_getElem? (i := 1) rfl)
theorem zm_362 : Cond.classLink R_Rows 31 R_Resolver ∈ wz := zc_12 (List.mem_of_getElem? (i := 2) rfl)
theorem zm_363 : Cond.instantiable R_Resolver 11 ∈ wz := zc_12 (List.mem_of_getElem? (i := 3) rfl)
theorem zm_364 : Cond.instanceMethod y_Resolver_init ∈ wz := zc_12 (List.mem_of_getElem? (i := 4) rfl)
theorem zm_365 : Cond.code y_Resolver_init b_Resolver_init 1 none ∈ wz := zc_12 (List.mem_of_getElem? (i := 5) rfl)
theorem zm_366 : Cond.fieldLink R_Rows 34 "LayoutFront$Rows" "resolver" "LLayoutFront$Resolver;" ∈ wz := zc_12 (List.mem_of_getElem? (i := 6) rfl)
theorem zm_367 : Cond.methodLink R_Rows 3 objectInit ∈ wz := zc_12 (List.mem_of_getElem? (i := 7) rfl)
theorem zm_368 : Cond.fieldLink R_Rows 38 "LayoutFront$Rows" "together" "I" ∈ wz := zc_12 (List.mem_of_getElem? (i := 8) rfl)
theorem zm_369 : Cond.fieldLink R_Rows 42 "LayoutFront$Rows" "inConflict" "I" ∈ wz := zc_12 (List.mem_of_getElem? (i := 9) rfl)
theorem zm_370 : Cond.methodLink R_Rows 45 y_Resolver_clear ∈ wz := zc_12 (List.mem_of_getElem? (i := 10) rfl)
theorem zm_371 : Cond.instanceMethod y_Resolver_clear ∈ wz := zc_12 (List.mem_of_getElem? (i := 11) rfl)
theorem zm_372 : Cond.selects R_Resolver y_Resolver_clear y_Resolver_clear ∈ wz := zc_12 (List.mem_of_getElem? (i := 12) rfl)
theorem zm_373 : Cond.code y_Resolver_clear b_Resolver_clear 1 none ∈ wz := zc_12 (List.mem_of_getElem? (i := 13) rfl)
theorem zm_374 : Cond.methodLink R_Rows 48 y_Rows_matchBrackets ∈ wz := zc_12 (List.mem_of_getElem? (i := 14) rfl)
theorem zm_375 : Cond.instanceMethod y_Rows_matchBrackets ∈ wz := zc_12 (List.mem_of_getElem? (i := 15) rfl)
theorem zm_376 : Cond.selects R_Rows y_Rows_matchBrackets y_Rows_matchBrackets ∈ wz := zc_12 (List.mem_of_getElem? (i := 16) rfl)
theorem zm_377 : Cond.initialized R_Rows ∈ wz := zc_12 (List.mem_of_getElem? (i := 17) rfl)
theorem zm_378 : Cond.code y_Rows_matchBrackets b_Rows_matchBrackets 4 none ∈ wz := zc_12 (List.mem_of_getElem? (i := 18) rfl)
theorem zm_379 : Cond.methodLink R_Rows 52 y_Tokens_size ∈ wz := zc_12 (List.mem_of_getElem? (i := 19) rfl)
theorem zm_380 : Cond.methodLink R_Rows 58 y_Rows_putLevelTogether ∈ wz := zc_12 (List.mem_of_getElem? (i := 20) rfl)
theorem zm_381 : Cond.instanceMethod y_Rows_putLevelTogether ∈ wz := zc_12 (List.mem_of_getElem? (i := 21) rfl)
theorem zm_382 : Cond.selects R_Rows y_Rows_putLevelTogether y_Rows_putLevelTogether ∈ wz := zc_12 (List.mem_of_getElem? (i := 22) rfl)
theorem zm_383 : Cond.code y_Rows_putLevelTogether b_Rows_putLevelTogether 7 none ∈ wz := zc_12 (List.mem_of_getElem? (i := 23) rfl)
theorem zm_384 : Cond.methodLink R_Rows 62 y_Tokens_opensBracket ∈ wz := zc_12 (List.mem_of_getElem? (i := 24) rfl)
theorem zm_385 : Cond.instanceMethod y_Tokens_opensBracket ∈ wz := zc_12 (List.mem_of_getElem? (i := 25) rfl)
theorem zm_386 : Cond.selects R_Tokens y_Tokens_opensBracket y_Tokens_opensBracket ∈ wz := zc_12 (List.mem_of_getElem? (i := 26) rfl)
theorem zm_387 : Cond.code y_Tokens_opensBracket b_Tokens_opensBracket 2 (some .boolean) ∈ wz := zc_12 (List.mem_of_getElem? (i := 27) rfl)
theorem zm_388 : Cond.methodLink R_Rows 66 y_Rows_closerOf ∈ wz := zc_12 (List.mem_of_getElem? (i := 28) rfl)
theorem zm_389 : Cond.instanceMethod y_Rows_closerOf ∈ wz := zc_12 (List.mem_of_getElem? (i := 29) rfl)
theorem zm_390 : Cond.selects R_Rows y_Rows_closerOf y_Rows_closerOf ∈ wz := zc_13 (List.mem_of_getElem? (i := 0) rfl)
theorem zm_391 : Cond.code y_Rows_closerOf b_Rows_closerOf 2 (some .int) ∈ wz := zc_13 (List.mem_of_getElem? (i := 1) rfl)
theorem zm_392 : Cond.methodLink R_Rows 70 y_Resolver_tally ∈ wz := zc_13 (List.mem_of_getElem? (i := 2) rfl)
theorem zm_393 : Cond.instanceMethod y_Resolver_tally ∈ wz := zc_13 (List.mem_of_getElem? (i := 3) rfl)
theorem zm_394 : Cond.selects R_Resolver y_Resolver_tally y_Resolver_tally ∈ wz := zc_13 (List.mem_of_getElem? (i := 4) rfl)
theorem zm_395 : Cond.code y_Resolver_tally b_Resolver_tally 6 none ∈ wz := zc_13 (List.mem_of_getElem? (i := 5) rfl)
theorem zm_396 : Cond.constantLong R_Rows 74 40 ∈ wz := zc_13 (List.mem_of_getElem? (i := 6) rfl)
theorem zm_397 : Cond.methodLink R_Rows 76 y_Tokens_addTimes ∈ wz := zc_13 (List.mem_of_getElem? (i := 7) rfl)
theorem zm_398 : Cond.instanceMethod y_Tokens_addTimes ∈ wz := zc_13 (List.mem_of_getElem? (i := 8) rfl)
theorem zm_399 : Cond.selects R_Tokens y_Tokens_addTimes y_Tokens_addTimes ∈ wz := zc_13 (List.mem_of_getElem? (i := 9) rfl)
theorem zm_400 : Cond.code y_Tokens_addTimes b_Tokens_addTimes 6 none ∈ wz := zc_13 (List.mem_of_getElem? (i := 10) rfl)
theorem zm_401 : Cond.methodLink R_Rows 80 y_Tokens_kindAt ∈ wz := zc_13 (List.mem_of_getElem? (i := 11) rfl)
theorem zm_402 : Cond.methodLink R_Rows 83 y_Tokens_valueAt ∈ wz := zc_13 (List.mem_of_getElem? (i := 12) rfl)
theorem zm_403 : Cond.methodLink R_Rows 87 y_Tokens_add ∈ wz := zc_13 (List.mem_of_getElem? (i := 13) rfl)
theorem zm_404 : Cond.constantLong R_Rows 91 41 ∈ wz := zc_13 (List.mem_of_getElem? (i := 14) rfl)
theorem zm_405 : Cond.methodLink R_Rows 93 y_Tokens_closesBracket ∈ wz := zc_13 (List.mem_of_getElem? (i := 15) rfl)
theorem zm_406 : Cond.instanceMethod y_Tokens_closesBracket ∈ wz := zc_13 (List.mem_of_getElem? (i := 16) rfl)
theorem zm_407 : Cond.selects R_Tokens y_Tokens_closesBracket y_Tokens_closesBracket ∈ wz := zc_13 (List.mem_of_getElem? (i := 17) rfl)
theorem zm_408 : Cond.code y_Tokens_closesBracket b_Tokens_closesBracket 2 (some .boolean) ∈ wz := zc_13 (List.mem_of_getElem? (i := 18) rfl)
theorem zm_409 : Cond.methodLink R_Rows 96 y_Rows_collectRow ∈ wz := zc_13 (List.mem_of_getElem? (i := 19) rfl)
theorem zm_410 : Cond.instanceMethod y_Rows_collectRow ∈ wz := zc_13 (List.mem_of_getElem? (i := 20) rfl)
theorem zm_411 : Cond.selects R_Rows y_Rows_collectRow y_Rows_collectRow ∈ wz := zc_13 (List.mem_of_getElem? (i := 21) rfl)
theorem zm_412 : Cond.code y_Rows_collectRow b_Rows_collectRow 8 (some .int) ∈ wz := zc_13 (List.mem_of_getElem? (i := 22) rfl)
theorem zm_413 : Cond.methodLink R_Rows 100 y_Row_isWhole ∈ wz := zc_13 (List.mem_of_getElem? (i := 23) rfl)
theorem zm_414 : Cond.instanceMethod y_Row_isWhole ∈ wz := zc_13 (List.mem_of_getElem? (i := 24) rfl)
theorem zm_415 : Cond.selects R_Row y_Row_isWhole y_Row_isWhole ∈ wz := zc_13 (List.mem_of_getElem? (i := 25) rfl)
theorem zm_416 : Cond.code y_Row_isWhole b_Row_isWhole 1 (some .boolean) ∈ wz := zc_13 (List.mem_of_getElem? (i := 26) rfl)
theorem zm_417 : Cond.methodLink R_Rows 104 y_Rows_putRowTogether ∈ wz := zc_13 (List.mem_of_getElem? (i := 27) rfl)
theorem zm_418 : Cond.instanceMethod y_Rows_putRowTogether ∈ wz := zc_13 (List.mem_of_getElem? (i := 28) rfl)
theorem zm_419 : Cond.selects R_Rows y_Rows_putRowTogether y_Rows_putRowTogether ∈ wz := zc_13 (List.mem_of_getElem? (i := 29) rfl)
theorem zm_420 : Cond.code y_Rows_putRowTogether b_Rows_putRowTogether 4 none ∈ wz := zc_14 (List.mem_of_getElem? (i := 0) rfl)
theorem zm_421 : Cond.methodLink R_Rows 108 y_Row_clear ∈ wz := zc_14 (List.mem_of_getElem? (i := 1) rfl)
theorem zm_422 : Cond.instanceMethod y_Row_clear ∈ wz := zc_14 (List.mem_of_getElem? (i := 2) rfl)
theorem zm_423 : Cond.selects R_Row y_Row_clear y_Row_clear ∈ wz := zc_14 (List.mem_of_getElem? (i := 3) rfl)
theorem zm_424 : Cond.code y_Row_clear b_Row_clear 1 none ∈ wz := zc_14 (List.mem_of_getElem? (i := 4) rfl)
theorem zm_425 : Cond.methodLink R_Rows 109 y_Rows_behindOperand ∈ wz := zc_14 (List.mem_of_getElem? (i := 5) rfl)
theorem zm_426 : Cond.instanceMethod y_Rows_behindOperand ∈ wz := zc_14 (List.mem_of_getElem? (i := 6) rfl)
theorem zm_427 : Cond.selects R_Rows y_Rows_behindOperand y_Rows_behindOperand ∈ wz := zc_14 (List.mem_of_getElem? (i := 7) rfl)
theorem zm_428 : Cond.code y_Rows_behindOperand b_Rows_behindOperand 3 (some .int) ∈ wz := zc_14 (List.mem_of_getElem? (i := 8) rfl)
theorem zm_429 : Cond.methodLink R_Rows 113 y_Rows_behindOperation ∈ wz := zc_14 (List.mem_of_getElem? (i := 9) rfl)
theorem zm_430 : Cond.static y_Rows_behindOperation ∈ wz := zc_14 (List.mem_of_getElem? (i := 10) rfl)
theorem zm_431 : Cond.code y_Rows_behindOperation b_Rows_behindOperation 2 (some .int) ∈ wz := zc_14 (List.mem_of_getElem? (i := 11) rfl)
theorem zm_432 : Cond.methodLink R_Rows 116 y_Row_addOperand ∈ wz := zc_14 (List.mem_of_getElem? (i := 12) rfl)
theorem zm_433 : Cond.instanceMethod y_Row_addOperand ∈ wz := zc_14 (List.mem_of_getElem? (i := 13) rfl)
theorem zm_434 : Cond.selects R_Row y_Row_addOperand y_Row_addOperand ∈ wz := zc_14 (List.mem_of_getElem? (i := 14) rfl)
theorem zm_435 : Cond.code y_Row_addOperand b_Row_addOperand 3 none ∈ wz := zc_14 (List.mem_of_getElem? (i := 15) rfl)
theorem zm_436 : Cond.constantLong R_Rows 120 45 ∈ wz := zc_14 (List.mem_of_getElem? (i := 16) rfl)
theorem zm_437 : Cond.methodLink R_Rows 122 y_Row_addOperation ∈ wz := zc_14 (List.mem_of_getElem? (i := 17) rfl)
theorem zm_438 : Cond.instanceMethod y_Row_addOperation ∈ wz := zc_14 (List.mem_of_getElem? (i := 18) rfl)
theorem zm_439 : Cond.selects R_Row y_Row_addOperation y_Row_addOperation ∈ wz := zc_14 (List.mem_of_getElem? (i := 19) rfl)
theorem zm_440 : Cond.code y_Row_addOperation b_Row_addOperation 5 none ∈ wz := zc_14 (List.mem_of_getElem? (i := 20) rfl)
theorem zm_441 : Cond.methodLink R_Rows 126 Lib.Math.max.name ∈ wz := zc_14 (List.mem_of_getElem? (i := 21) rfl)
theorem zm_442 : Cond.methodLink R_Rows 132 y_Tokens_isFreeName ∈ wz := zc_14 (List.mem_of_getElem? (i := 22) rfl)
theorem zm_443 : Cond.instanceMethod y_Tokens_isFreeName ∈ wz := zc_14 (List.mem_of_getElem? (i := 23) rfl)
theorem zm_444 : Cond.selects R_Tokens y_Tokens_isFreeName y_Tokens_isFreeName ∈ wz := zc_14 (List.mem_of_getElem? (i := 24) rfl)
theorem zm_445 : Cond.code y_Tokens_isFreeName b_Tokens_isFreeName 2 (some .boolean) ∈ wz := zc_14 (List.mem_of_getElem? (i := 25) rfl)
theorem zm_446 : Cond.methodLink R_Rows 135 y_Tokens_isSign ∈ wz := zc_14 (List.mem_of_getElem? (i := 26) rfl)
theorem zm_447 : Cond.methodLink R_Rows 139 y_Tokens_isFreeOperator ∈ wz := zc_14 (List.mem_of_getElem? (i := 27) rfl)
theorem zm_448 : Cond.instanceMethod y_Tokens_isFreeOperator ∈ wz := zc_14 (List.mem_of_getElem? (i := 28) rfl)
theorem zm_449 : Cond.selects R_Tokens y_Tokens_isFreeOperator y_Tokens_isFreeOperator ∈ wz := zc_14 (List.mem_of_getElem? (i := 29) rfl)
theorem zm_450 : Cond.code y_Tokens_isFreeOperator b_Tokens_isFreeOperator 2 (some .boolean) ∈ wz := zc_15 (List.mem_of_getElem? (i := 0) rfl)
theorem zm_451 : Cond.methodLink R_Rows 142 y_Resolver_startRow ∈ wz := zc_15 (List.mem_of_getElem? (i := 1) rfl)
theorem zm_452 : Cond.methodLink R_Rows 145 y_Row_size ∈ wz := zc_15 (List.mem_of_getElem? (i := 2) rfl)
theorem zm_453 : Cond.instanceMethod y_Row_size ∈ wz := zc_15 (List.mem_of_getElem? (i := 3) rfl)
theorem zm_454 : Cond.selects R_Row y_Row_size y_Row_size ∈ wz := zc_15 (List.mem_of_getElem? (i := 4) rfl)
theorem zm_455 : Cond.code y_Row_size b_Row_size 1 (some .int) ∈ wz := zc_15 (List.mem_of_getElem? (i := 5) rfl)
theorem zm_456 : Cond.methodLink R_Rows 146 y_Rows_take ∈ wz := zc_15 (List.mem_of_getElem? (i := 6) rfl)
theorem zm_457 : Cond.instanceMethod y_Rows_take ∈ wz := zc_15 (List.mem_of_getElem? (i := 7) rfl)
theorem zm_458 : Cond.selects R_Rows y_Rows_take y_Rows_take ∈ wz := zc_15 (List.mem_of_getElem? (i := 8) rfl)
theorem zm_459 : Cond.code y_Rows_take b_Rows_take 8 (some .boolean) ∈ wz := zc_15 (List.mem_of_getElem? (i := 9) rfl)
theorem zm_460 : Cond.methodLink R_Rows 150 y_Resolver_giveUpRow ∈ wz := zc_15 (List.mem_of_getElem? (i := 10) rfl)
theorem zm_461 : Cond.instanceMethod y_Resolver_giveUpRow ∈ wz := zc_15 (List.mem_of_getElem? (i := 11) rfl)
theorem zm_462 : Cond.selects R_Resolver y_Resolver_giveUpRow y_Resolver_giveUpRow ∈ wz := zc_15 (List.mem_of_getElem? (i := 12) rfl)
theorem zm_463 : Cond.code y_Resolver_giveUpRow b_Resolver_giveUpRow 1 none ∈ wz := zc_15 (List.mem_of_getElem? (i := 13) rfl)
theorem zm_464 : Cond.methodLink R_Rows 153 y_Resolver_finishRow ∈ wz := zc_15 (List.mem_of_getElem? (i := 14) rfl)
theorem zm_465 : Cond.instanceMethod y_Resolver_finishRow ∈ wz := zc_15 (List.mem_of_getElem? (i := 15) rfl)
theorem zm_466 : Cond.selects R_Resolver y_Resolver_finishRow y_Resolver_finishRow ∈ wz := zc_15 (List.mem_of_getElem? (i := 16) rfl)
theorem zm_467 : Cond.code y_Resolver_finishRow b_Resolver_finishRow 2 none ∈ wz := zc_15 (List.mem_of_getElem? (i := 17) rfl)
theorem zm_468 : Cond.methodLink R_Rows 156 y_Row_firstAt ∈ wz := zc_15 (List.mem_of_getElem? (i := 18) rfl)
theorem zm_469 : Cond.instanceMethod y_Row_firstAt ∈ wz := zc_15 (List.mem_of_getElem? (i := 19) rfl)
theorem zm_470 : Cond.selects R_Row y_Row_firstAt y_Row_firstAt ∈ wz := zc_15 (List.mem_of_getElem? (i := 20) rfl)
theorem zm_471 : Cond.code y_Row_firstAt b_Row_firstAt 2 (some .int) ∈ wz := zc_15 (List.mem_of_getElem? (i := 21) rfl)
theorem zm_472 : Cond.methodLink R_Rows 159 y_Row_lastAt ∈ wz := zc_15 (List.mem_of_getElem? (i := 22) rfl)
theorem zm_473 : Cond.instanceMethod y_Row_lastAt ∈ wz := zc_15 (List.mem_of_getElem? (i := 23) rfl)
theorem zm_474 : Cond.selects R_Row y_Row_lastAt y_Row_lastAt ∈ wz := zc_15 (List.mem_of_getElem? (i := 24) rfl)
theorem zm_475 : Cond.code y_Row_lastAt b_Row_lastAt 2 (some .int) ∈ wz := zc_15 (List.mem_of_getElem? (i := 25) rfl)
theorem zm_476 : Cond.methodLink R_Rows 162 y_Row_partAt ∈ wz := zc_15 (List.mem_of_getElem? (i := 26) rfl)
theorem zm_477 : Cond.instanceMethod y_Row_partAt ∈ wz := zc_15 (List.mem_of_getElem? (i := 27) rfl)
theorem zm_478 : Cond.selects R_Row y_Row_partAt y_Row_partAt ∈ wz := zc_15 (List.mem_of_getElem? (i := 28) rfl)
theorem zm_479 : Cond.code y_Row_partAt b_Row_partAt 2 (some .int) ∈ wz := zc_15 (List.mem_of_getElem? (i := 29) rfl)
theorem zm_480 : Cond.methodLink R_Rows 165 y_Fixities_levelOf ∈ wz := zc_16 (List.mem_of_getElem? (i := 0) rfl)
theorem zm_481 : Cond.instanceMethod y_Fixities_levelOf ∈ wz := zc_16 (List.mem_of_getElem? (i := 1) rfl)
theorem zm_482 : Cond.selects R_Fixities y_Fixities_levelOf y_Fixities_levelOf ∈ wz := zc_16 (List.mem_of_getElem? (i := 2) rfl)
theorem zm_483 : Cond.code y_Fixities_levelOf b_Fixities_levelOf 4 (some .int) ∈ wz := zc_16 (List.mem_of_getElem? (i := 3) rfl)
theorem zm_484 : Cond.methodLink R_Rows 171 y_Fixities_sideOf ∈ wz := zc_16 (List.mem_of_getElem? (i := 4) rfl)
theorem zm_485 : Cond.instanceMethod y_Fixities_sideOf ∈ wz := zc_16 (List.mem_of_getElem? (i := 5) rfl)
theorem zm_486 : Cond.selects R_Fixities y_Fixities_sideOf y_Fixities_sideOf ∈ wz := zc_16 (List.mem_of_getElem? (i := 6) rfl)
theorem zm_487 : Cond.code y_Fixities_sideOf b_Fixities_sideOf 4 (some .int) ∈ wz := zc_16 (List.mem_of_getElem? (i := 7) rfl)
theorem zm_488 : Cond.methodLink R_Rows 174 y_Resolver_takeOperation ∈ wz := zc_16 (List.mem_of_getElem? (i := 8) rfl)
theorem zm_489 : Cond.instanceMethod y_Resolver_takeOperation ∈ wz := zc_16 (List.mem_of_getElem? (i := 9) rfl)
theorem zm_490 : Cond.selects R_Resolver y_Resolver_takeOperation y_Resolver_takeOperation ∈ wz := zc_16 (List.mem_of_getElem? (i := 10) rfl)
theorem zm_491 : Cond.code y_Resolver_takeOperation b_Resolver_takeOperation 5 (some .boolean) ∈ wz := zc_16 (List.mem_of_getElem? (i := 11) rfl)
theorem zm_492 : Cond.methodLink R_Rows 178 y_Resolver_takeMinus ∈ wz := zc_16 (List.mem_of_getElem? (i := 12) rfl)
theorem zm_493 : Cond.instanceMethod y_Resolver_takeMinus ∈ wz := zc_16 (List.mem_of_getElem? (i := 13) rfl)
theorem zm_494 : Cond.selects R_Resolver y_Resolver_takeMinus y_Resolver_takeMinus ∈ wz := zc_16 (List.mem_of_getElem? (i := 14) rfl)
theorem zm_495 : Cond.code y_Resolver_takeMinus b_Resolver_takeMinus 2 (some .boolean) ∈ wz := zc_16 (List.mem_of_getElem? (i := 15) rfl)
theorem zm_496 : Cond.methodLink R_Rows 181 y_Resolver_takeOperand ∈ wz := zc_16 (List.mem_of_getElem? (i := 16) rfl)
theorem zm_497 : Cond.instanceMethod y_Resolver_takeOperand ∈ wz := zc_16 (List.mem_of_getElem? (i := 17) rfl)
theorem zm_498 : Cond.selects R_Resolver y_Resolver_takeOperand y_Resolver_takeOperand ∈ wz := zc_16 (List.mem_of_getElem? (i := 18) rfl)
theorem zm_499 : Cond.code y_Resolver_takeOperand b_Resolver_takeOperand 3 none ∈ wz := zc_16 (List.mem_of_getElem? (i := 19) rfl)
theorem zm_500 : Cond.classLink R_LF 9 R_Text ∈ wz := zc_16 (List.mem_of_getElem? (i := 20) rfl)
theorem zm_501 : Cond.instantiable R_Text 2 ∈ wz := zc_16 (List.mem_of_getElem? (i := 21) rfl)
theorem zm_502 : Cond.instanceMethod y_Text_init ∈ wz := zc_16 (List.mem_of_getElem? (i := 22) rfl)
theorem zm_503 : Cond.code y_Text_init b_Text_init 1 none ∈ wz := zc_16 (List.mem_of_getElem? (i := 23) rfl)
theorem zm_504 : Cond.fieldLink R_LF 12 "LayoutFront" "text" "LLayoutFront$Text;" ∈ wz := zc_16 (List.mem_of_getElem? (i := 24) rfl)
theorem zm_505 : Cond.classLink R_LF 16 R_Fixities ∈ wz := zc_16 (List.mem_of_getElem? (i := 25) rfl)
theorem zm_506 : Cond.instantiable R_Fixities 4 ∈ wz := zc_16 (List.mem_of_getElem? (i := 26) rfl)
theorem zm_507 : Cond.instanceMethod y_Fixities_init ∈ wz := zc_16 (List.mem_of_getElem? (i := 27) rfl)
theorem zm_508 : Cond.code y_Fixities_init b_Fixities_init 1 none ∈ wz := zc_16 (List.mem_of_getElem? (i := 28) rfl)
theorem zm_509 : Cond.fieldLink R_LF 19 "LayoutFront" "fixities" "LLayoutFront$Fixities;" ∈ wz := zc_16 (List.mem_of_getElem? (i := 29) rfl)
theorem zm_510 : Cond.classLink R_LF 23 R_Cutter ∈ wz := zc_17 (List.mem_of_getElem? (i := 0) rfl)
theorem zm_511 : Cond.instantiable R_Cutter 6 ∈ wz := zc_17 (List.mem_of_getElem? (i := 1) rfl)
theorem zm_512 : Cond.instanceMethod y_Cutter_init ∈ wz := zc_17 (List.mem_of_getElem? (i := 2) rfl)
theorem zm_513 : Cond.code y_Cutter_init b_Cutter_init 1 none ∈ wz := zc_17 (List.mem_of_getElem? (i := 3) rfl)
theorem zm_514 : Cond.fieldLink R_LF 26 "LayoutFront" "cutter" "LLayoutFront$Cutter;" ∈ wz := zc_17 (List.mem_of_getElem? (i := 4) rfl)
theorem zm_515 : Cond.classLink R_LF 30 R_Blocks ∈ wz := zc_17 (List.mem_of_getElem? (i := 5) rfl)
theorem zm_516 : Cond.instantiable R_Blocks 3 ∈ wz := zc_17 (List.mem_of_getElem? (i := 6) rfl)
theorem zm_517 : Cond.instanceMethod y_Blocks_init ∈ wz := zc_17 (List.mem_of_getElem? (i := 7) rfl)
theorem zm_518 : Cond.code y_Blocks_init b_Blocks_init 1 none ∈ wz := zc_17 (List.mem_of_getElem? (i := 8) rfl)
theorem zm_519 : Cond.fieldLink R_LF 33 "LayoutFront" "blocks" "LLayoutFront$Blocks;" ∈ wz := zc_17 (List.mem_of_getElem? (i := 9) rfl)
theorem zm_520 : Cond.classLink R_LF 37 R_Rows ∈ wz := zc_17 (List.mem_of_getElem? (i := 10) rfl)
theorem zm_521 : Cond.instantiable R_Rows 8 ∈ wz := zc_17 (List.mem_of_getElem? (i := 11) rfl)
theorem zm_522 : Cond.instanceMethod y_Rows_init ∈ wz := zc_17 (List.mem_of_getElem? (i := 12) rfl)
theorem zm_523 : Cond.code y_Rows_init b_Rows_init 1 none ∈ wz := zc_17 (List.mem_of_getElem? (i := 13) rfl)
theorem zm_524 : Cond.fieldLink R_LF 40 "LayoutFront" "rows" "LLayoutFront$Rows;" ∈ wz := zc_17 (List.mem_of_getElem? (i := 14) rfl)
theorem zm_525 : Cond.classLink R_LF 44 R_Tokens ∈ wz := zc_17 (List.mem_of_getElem? (i := 15) rfl)
theorem zm_526 : Cond.methodLink R_LF 46 y_Tokens_init ∈ wz := zc_17 (List.mem_of_getElem? (i := 16) rfl)
theorem zm_527 : Cond.fieldLink R_LF 49 "LayoutFront" "tokens" "LLayoutFront$Tokens;" ∈ wz := zc_17 (List.mem_of_getElem? (i := 17) rfl)
theorem zm_528 : Cond.fieldLink R_LF 53 "LayoutFront" "counts" "[I" ∈ wz := zc_17 (List.mem_of_getElem? (i := 18) rfl)
theorem zm_529 : Cond.fieldLink R_LF 57 "LayoutFront" "wrongPlace" "I" ∈ wz := zc_17 (List.mem_of_getElem? (i := 19) rfl)
theorem zm_530 : Cond.methodLink R_LF 3 objectInit ∈ wz := zc_17 (List.mem_of_getElem? (i := 20) rfl)
theorem zm_531 : Cond.methodLink R_LF 61 y_Text_areCharacters ∈ wz := zc_17 (List.mem_of_getElem? (i := 21) rfl)
theorem zm_532 : Cond.static y_Text_areCharacters ∈ wz := zc_17 (List.mem_of_getElem? (i := 22) rfl)
theorem zm_533 : Cond.code y_Text_areCharacters b_Text_areCharacters 5 (some .boolean) ∈ wz := zc_17 (List.mem_of_getElem? (i := 23) rfl)
theorem zm_534 : Cond.methodLink R_LF 72 y_Text_hasRoomFor ∈ wz := zc_17 (List.mem_of_getElem? (i := 24) rfl)
theorem zm_535 : Cond.instanceMethod y_Text_hasRoomFor ∈ wz := zc_17 (List.mem_of_getElem? (i := 25) rfl)
theorem zm_536 : Cond.selects R_Text y_Text_hasRoomFor y_Text_hasRoomFor ∈ wz := zc_17 (List.mem_of_getElem? (i := 26) rfl)
theorem zm_537 : Cond.code y_Text_hasRoomFor b_Text_hasRoomFor 2 (some .boolean) ∈ wz := zc_17 (List.mem_of_getElem? (i := 27) rfl)
theorem zm_538 : Cond.methodLink R_LF 81 y_Text_append ∈ wz := zc_17 (List.mem_of_getElem? (i := 28) rfl)
theorem zm_539 : Cond.instanceMethod y_Text_append ∈ wz := zc_17 (List.mem_of_getElem? (i := 29) rfl)
theorem zm_540 : Cond.selects R_Text y_Text_append y_Text_append ∈ wz := zc_18 (List.mem_of_getElem? (i := 0) rfl)
theorem zm_541 : Cond.code y_Text_append b_Text_append 5 none ∈ wz := zc_18 (List.mem_of_getElem? (i := 1) rfl)
theorem zm_542 : Cond.methodLink R_LF 85 y_Text_length ∈ wz := zc_18 (List.mem_of_getElem? (i := 2) rfl)
theorem zm_543 : Cond.classLink R_LF 65 xIAE ∈ wz := zc_18 (List.mem_of_getElem? (i := 3) rfl)
theorem zm_544 : Cond.instantiable xIAE 6 ∈ wz := zc_18 (List.mem_of_getElem? (i := 4) rfl)
theorem zm_545 : Cond.initialized xIAE ∈ wz := zc_18 (List.mem_of_getElem? (i := 5) rfl)
theorem zm_546 : Cond.classLink R_LF 76 xISE ∈ wz := zc_18 (List.mem_of_getElem? (i := 6) rfl)
theorem zm_547 : Cond.instantiable xISE 6 ∈ wz := zc_18 (List.mem_of_getElem? (i := 7) rfl)
theorem zm_548 : Cond.initialized xISE ∈ wz := zc_18 (List.mem_of_getElem? (i := 8) rfl)
theorem zm_549 : Cond.methodLink R_LF 89 y_Text_clear ∈ wz := zc_18 (List.mem_of_getElem? (i := 9) rfl)
theorem zm_550 : Cond.instanceMethod y_Text_clear ∈ wz := zc_18 (List.mem_of_getElem? (i := 10) rfl)
theorem zm_551 : Cond.selects R_Text y_Text_clear y_Text_clear ∈ wz := zc_18 (List.mem_of_getElem? (i := 11) rfl)
theorem zm_552 : Cond.code y_Text_clear b_Text_clear 1 none ∈ wz := zc_18 (List.mem_of_getElem? (i := 12) rfl)
theorem zm_553 : Cond.methodLink R_LF 94 y_Fixities_hasRoomFor ∈ wz := zc_18 (List.mem_of_getElem? (i := 13) rfl)
theorem zm_554 : Cond.instanceMethod y_Fixities_hasRoomFor ∈ wz := zc_18 (List.mem_of_getElem? (i := 14) rfl)
theorem zm_555 : Cond.selects R_Fixities y_Fixities_hasRoomFor y_Fixities_hasRoomFor ∈ wz := zc_18 (List.mem_of_getElem? (i := 15) rfl)
theorem zm_556 : Cond.code y_Fixities_hasRoomFor b_Fixities_hasRoomFor 3 (some .boolean) ∈ wz := zc_18 (List.mem_of_getElem? (i := 16) rfl)
theorem zm_557 : Cond.methodLink R_LF 99 y_Fixities_set ∈ wz := zc_18 (List.mem_of_getElem? (i := 17) rfl)
theorem zm_558 : Cond.instanceMethod y_Fixities_set ∈ wz := zc_18 (List.mem_of_getElem? (i := 18) rfl)
theorem zm_559 : Cond.selects R_Fixities y_Fixities_set y_Fixities_set ∈ wz := zc_18 (List.mem_of_getElem? (i := 19) rfl)
theorem zm_560 : Cond.code y_Fixities_set b_Fixities_set 6 none ∈ wz := zc_18 (List.mem_of_getElem? (i := 20) rfl)
theorem zm_561 : Cond.methodLink R_LF 103 y_Fixities_size ∈ wz := zc_18 (List.mem_of_getElem? (i := 21) rfl)
theorem zm_562 : Cond.instanceMethod y_Fixities_size ∈ wz := zc_18 (List.mem_of_getElem? (i := 22) rfl)
theorem zm_563 : Cond.selects R_Fixities y_Fixities_size y_Fixities_size ∈ wz := zc_18 (List.mem_of_getElem? (i := 23) rfl)
theorem zm_564 : Cond.code y_Fixities_size b_Fixities_size 1 (some .int) ∈ wz := zc_18 (List.mem_of_getElem? (i := 24) rfl)
theorem zm_565 : Cond.methodLink R_LF 106 y_Tokens_clear ∈ wz := zc_18 (List.mem_of_getElem? (i := 25) rfl)
theorem zm_566 : Cond.methodLink R_LF 107 y_Cutter_cut ∈ wz := zc_18 (List.mem_of_getElem? (i := 26) rfl)
theorem zm_567 : Cond.instanceMethod y_Cutter_cut ∈ wz := zc_18 (List.mem_of_getElem? (i := 27) rfl)
theorem zm_568 : Cond.selects R_Cutter y_Cutter_cut y_Cutter_cut ∈ wz := zc_18 (List.mem_of_getElem? (i := 28) rfl)
theorem zm_569 : Cond.code y_Cutter_cut b_Cutter_cut 3 (some .int) ∈ wz := zc_18 (List.mem_of_getElem? (i := 29) rfl)
theorem zm_570 : Cond.methodLink R_LF 111 y_Cutter_foundTooMany ∈ wz := zc_19 (List.mem_of_getElem? (i := 0) rfl)
theorem zm_571 : Cond.instanceMethod y_Cutter_foundTooMany ∈ wz := zc_19 (List.mem_of_getElem? (i := 1) rfl)
theorem zm_572 : Cond.selects R_Cutter y_Cutter_foundTooMany y_Cutter_foundTooMany ∈ wz := zc_19 (List.mem_of_getElem? (i := 2) rfl)
theorem zm_573 : Cond.code y_Cutter_foundTooMany b_Cutter_foundTooMany 1 (some .boolean) ∈ wz := zc_19 (List.mem_of_getElem? (i := 3) rfl)
theorem zm_574 : Cond.methodLink R_LF 117 y_Cutter_lexemes ∈ wz := zc_19 (List.mem_of_getElem? (i := 4) rfl)
theorem zm_575 : Cond.instanceMethod y_Cutter_lexemes ∈ wz := zc_19 (List.mem_of_getElem? (i := 5) rfl)
theorem zm_576 : Cond.selects R_Cutter y_Cutter_lexemes y_Cutter_lexemes ∈ wz := zc_19 (List.mem_of_getElem? (i := 6) rfl)
theorem zm_577 : Cond.code y_Cutter_lexemes b_Cutter_lexemes 1 (some (.object "LayoutFront$Lexemes")) ∈ wz := zc_19 (List.mem_of_getElem? (i := 7) rfl)
theorem zm_578 : Cond.methodLink R_LF 121 y_Blocks_lay ∈ wz := zc_19 (List.mem_of_getElem? (i := 8) rfl)
theorem zm_579 : Cond.instanceMethod y_Blocks_lay ∈ wz := zc_19 (List.mem_of_getElem? (i := 9) rfl)
theorem zm_580 : Cond.selects R_Blocks y_Blocks_lay y_Blocks_lay ∈ wz := zc_19 (List.mem_of_getElem? (i := 10) rfl)
theorem zm_581 : Cond.code y_Blocks_lay b_Blocks_lay 8 (some .int) ∈ wz := zc_19 (List.mem_of_getElem? (i := 11) rfl)
theorem zm_582 : Cond.methodLink R_LF 127 y_Blocks_laid ∈ wz := zc_19 (List.mem_of_getElem? (i := 12) rfl)
theorem zm_583 : Cond.instanceMethod y_Blocks_laid ∈ wz := zc_19 (List.mem_of_getElem? (i := 13) rfl)
theorem zm_584 : Cond.selects R_Blocks y_Blocks_laid y_Blocks_laid ∈ wz := zc_19 (List.mem_of_getElem? (i := 14) rfl)
theorem zm_585 : Cond.code y_Blocks_laid b_Blocks_laid 1 (some (.object "LayoutFront$Tokens")) ∈ wz := zc_19 (List.mem_of_getElem? (i := 15) rfl)
theorem zm_586 : Cond.methodLink R_LF 131 y_Rows_putTogether ∈ wz := zc_19 (List.mem_of_getElem? (i := 16) rfl)
theorem zm_587 : Cond.instanceMethod y_Rows_putTogether ∈ wz := zc_19 (List.mem_of_getElem? (i := 17) rfl)
theorem zm_588 : Cond.selects R_Rows y_Rows_putTogether y_Rows_putTogether ∈ wz := zc_19 (List.mem_of_getElem? (i := 18) rfl)
theorem zm_589 : Cond.code y_Rows_putTogether b_Rows_putTogether 4 none ∈ wz := zc_19 (List.mem_of_getElem? (i := 19) rfl)
theorem zm_590 : Cond.methodLink R_LF 135 y_Rows_copyInto ∈ wz := zc_19 (List.mem_of_getElem? (i := 20) rfl)
theorem zm_591 : Cond.instanceMethod y_Rows_copyInto ∈ wz := zc_19 (List.mem_of_getElem? (i := 21) rfl)
theorem zm_592 : Cond.selects R_Rows y_Rows_copyInto y_Rows_copyInto ∈ wz := zc_19 (List.mem_of_getElem? (i := 22) rfl)
theorem zm_593 : Cond.code y_Rows_copyInto b_Rows_copyInto 4 none ∈ wz := zc_19 (List.mem_of_getElem? (i := 23) rfl)
theorem zm_594 : Cond.methodLink R_LF 139 y_LF_keepCounts ∈ wz := zc_19 (List.mem_of_getElem? (i := 24) rfl)
theorem zm_595 : Cond.instanceMethod y_LF_keepCounts ∈ wz := zc_19 (List.mem_of_getElem? (i := 25) rfl)
theorem zm_596 : Cond.selects R_LF y_LF_keepCounts y_LF_keepCounts ∈ wz := zc_19 (List.mem_of_getElem? (i := 26) rfl)
theorem zm_597 : Cond.initialized R_LF ∈ wz := zc_19 (List.mem_of_getElem? (i := 27) rfl)
theorem zm_598 : Cond.code y_LF_keepCounts b_LF_keepCounts 1 none ∈ wz := zc_19 (List.mem_of_getElem? (i := 28) rfl)
theorem zm_599 : Cond.methodLink R_LF 142 y_Tokens_size ∈ wz := zc_19 (List.mem_of_getElem? (i := 29) rfl)
theorem zm_600 : Cond.methodLink R_LF 143 y_Lexemes_size ∈ wz := zc_20 (List.mem_of_getElem? (i := 0) rfl)
theorem zm_601 : Cond.methodLink R_LF 146 y_Blocks_begun ∈ wz := zc_20 (List.mem_of_getElem? (i := 1) rfl)
theorem zm_602 : Cond.instanceMethod y_Blocks_begun ∈ wz := zc_20 (List.mem_of_getElem? (i := 2) rfl)
theorem zm_603 : Cond.selects R_Blocks y_Blocks_begun y_Blocks_begun ∈ wz := zc_20 (List.mem_of_getElem? (i := 3) rfl)
theorem zm_604 : Cond.code y_Blocks_begun b_Blocks_begun 1 (some .int) ∈ wz := zc_20 (List.mem_of_getElem? (i := 4) rfl)
theorem zm_605 : Cond.methodLink R_LF 149 y_Rows_together ∈ wz := zc_20 (List.mem_of_getElem? (i := 5) rfl)
theorem zm_606 : Cond.instanceMethod y_Rows_together ∈ wz := zc_20 (List.mem_of_getElem? (i := 6) rfl)
theorem zm_607 : Cond.selects R_Rows y_Rows_together y_Rows_together ∈ wz := zc_20 (List.mem_of_getElem? (i := 7) rfl)
theorem zm_608 : Cond.code y_Rows_together b_Rows_together 1 (some .int) ∈ wz := zc_20 (List.mem_of_getElem? (i := 8) rfl)
theorem zm_609 : Cond.methodLink R_LF 152 y_Rows_inConflict ∈ wz := zc_20 (List.mem_of_getElem? (i := 9) rfl)
theorem zm_610 : Cond.instanceMethod y_Rows_inConflict ∈ wz := zc_20 (List.mem_of_getElem? (i := 10) rfl)
theorem zm_611 : Cond.selects R_Rows y_Rows_inConflict y_Rows_inConflict ∈ wz := zc_20 (List.mem_of_getElem? (i := 11) rfl)
theorem zm_612 : Cond.code y_Rows_inConflict b_Rows_inConflict 1 (some .int) ∈ wz := zc_20 (List.mem_of_getElem? (i := 12) rfl)
theorem zm_613 : Cond.methodLink R_LF 155 y_Blocks_mostOpen ∈ wz := zc_20 (List.mem_of_getElem? (i := 13) rfl)
theorem zm_614 : Cond.instanceMethod y_Blocks_mostOpen ∈ wz := zc_20 (List.mem_of_getElem? (i := 14) rfl)
theorem zm_615 : Cond.selects R_Blocks y_Blocks_mostOpen y_Blocks_mostOpen ∈ wz := zc_20 (List.mem_of_getElem? (i := 15) rfl)
theorem zm_616 : Cond.code y_Blocks_mostOpen b_Blocks_mostOpen 1 (some .int) ∈ wz := zc_20 (List.mem_of_getElem? (i := 16) rfl)
theorem zm_617 : Cond.methodLink R_LF 158 y_Tokens_has ∈ wz := zc_20 (List.mem_of_getElem? (i := 17) rfl)
theorem zm_618 : Cond.methodLink R_LF 166 y_Tokens_kindAt ∈ wz := zc_20 (List.mem_of_getElem? (i := 18) rfl)
theorem zm_619 : Cond.classLink R_LF 161 xIOB ∈ wz := zc_20 (List.mem_of_getElem? (i := 19) rfl)
theorem zm_620 : Cond.instantiable xIOB 6 ∈ wz := zc_20 (List.mem_of_getElem? (i := 20) rfl)
theorem zm_621 : Cond.initialized xIOB ∈ wz := zc_20 (List.mem_of_getElem? (i := 21) rfl)
theorem zm_622 : Cond.methodLink R_LF 170 y_Tokens_valueAt ∈ wz := zc_20 (List.mem_of_getElem? (i := 22) rfl)
theorem zm_623 : Cond.fieldLink R_Model 7 "LayoutFrontModel" "text" "[I" ∈ wz := zc_20 (List.mem_of_getElem? (i := 23) rfl)
theorem zm_624 : Cond.fieldLink R_Model 13 "LayoutFrontModel" "place" "I" ∈ wz := zc_20 (List.mem_of_getElem? (i := 24) rfl)
theorem zm_625 : Cond.fieldLink R_Model 17 "LayoutFrontModel" "kind" "[I" ∈ wz := zc_20 (List.mem_of_getElem? (i := 25) rfl)
theorem zm_626 : Cond.fieldLink R_Model 20 "LayoutFrontModel" "value" "[J" ∈ wz := zc_20 (List.mem_of_getElem? (i := 26) rfl)
theorem zm_627 : Cond.fieldLink R_Model 24 "LayoutFrontModel" "where" "[I" ∈ wz := zc_20 (List.mem_of_getElem? (i := 27) rfl)
theorem zm_628 : Cond.fieldLink R_Model 27 "LayoutFrontModel" "column" "[I" ∈ wz := zc_20 (List.mem_of_getElem? (i := 28) rfl)
theorem zm_629 : Cond.fieldLink R_Model 30 "LayoutFrontModel" "leads" "[Z" ∈ wz := zc_20 (List.mem_of_getElem? (i := 29) rfl)
theorem zm_630 : Cond.fieldLink R_Model 34 "LayoutFrontModel" "row" "[I" ∈ wz := zc_21 (List.mem_of_getElem? (i := 0) rfl)
theorem zm_631 : Cond.fieldLink R_Model 37 "LayoutFrontModel" "sort" "[I" ∈ wz := zc_21 (List.mem_of_getElem? (i := 1) rfl)
theorem zm_632 : Cond.fieldLink R_Model 40 "LayoutFrontModel" "is" "[J" ∈ wz := zc_21 (List.mem_of_getElem? (i := 2) rfl)
theorem zm_633 : Cond.fieldLink R_Model 43 "LayoutFrontModel" "before" "[I" ∈ wz := zc_21 (List.mem_of_getElem? (i := 3) rfl)
theorem zm_634 : Cond.fieldLink R_Model 46 "LayoutFrontModel" "behind" "[I" ∈ wz := zc_21 (List.mem_of_getElem? (i := 4) rfl)
theorem zm_635 : Cond.fieldLink R_Model 49 "LayoutFrontModel" "partner" "[I" ∈ wz := zc_21 (List.mem_of_getElem? (i := 5) rfl)
theorem zm_636 : Cond.fieldLink R_Model 52 "LayoutFrontModel" "done" "[Z" ∈ wz := zc_21 (List.mem_of_getElem? (i := 6) rfl)
theorem zm_637 : Cond.fieldLink R_Model 55 "LayoutFrontModel" "kinds" "[I" ∈ wz := zc_21 (List.mem_of_getElem? (i := 7) rfl)
theorem zm_638 : Cond.fieldLink R_Model 58 "LayoutFrontModel" "values" "[J" ∈ wz := zc_21 (List.mem_of_getElem? (i := 8) rfl)
theorem zm_639 : Cond.fieldLink R_Model 61 "LayoutFrontModel" "names" "[J" ∈ wz := zc_21 (List.mem_of_getElem? (i := 9) rfl)
theorem zm_640 : Cond.fieldLink R_Model 64 "LayoutFrontModel" "sides" "[I" ∈ wz := zc_21 (List.mem_of_getElem? (i := 10) rfl)
theorem zm_641 : Cond.fieldLink R_Model 67 "LayoutFrontModel" "levels" "[I" ∈ wz := zc_21 (List.mem_of_getElem? (i := 11) rfl)
theorem zm_642 : Cond.fieldLink R_Model 70 "LayoutFrontModel" "from" "[I" ∈ wz := zc_21 (List.mem_of_getElem? (i := 12) rfl)
theorem zm_643 : Cond.fieldLink R_Model 73 "LayoutFrontModel" "to" "[I" ∈ wz := zc_21 (List.mem_of_getElem? (i := 13) rfl)
theorem zm_644 : Cond.fieldLink R_Model 76 "LayoutFrontModel" "what" "[I" ∈ wz := zc_21 (List.mem_of_getElem? (i := 14) rfl)
theorem zm_645 : Cond.fieldLink R_Model 79 "LayoutFrontModel" "left" "[I" ∈ wz := zc_21 (List.mem_of_getElem? (i := 15) rfl)
theorem zm_646 : Cond.fieldLink R_Model 82 "LayoutFrontModel" "right" "[I" ∈ wz := zc_21 (List.mem_of_getElem? (i := 16) rfl)
theorem zm_647 : Cond.fieldLink R_Model 85 "LayoutFrontModel" "waits" "[I" ∈ wz := zc_21 (List.mem_of_getElem? (i := 17) rfl)
theorem zm_648 : Cond.fieldLink R_Model 88 "LayoutFrontModel" "opens" "[I" ∈ wz := zc_21 (List.mem_of_getElem? (i := 18) rfl)
theorem zm_649 : Cond.fieldLink R_Model 91 "LayoutFrontModel" "closes" "[I" ∈ wz := zc_21 (List.mem_of_getElem? (i := 19) rfl)
theorem zm_650 : Cond.fieldLink R_Model 94 "LayoutFrontModel" "waitsFor" "[I" ∈ wz := zc_21 (List.mem_of_getElem? (i := 20) rfl)
theorem zm_651 : Cond.methodLink R_Model 1 objectInit ∈ wz := zc_21 (List.mem_of_getElem? (i := 21) rfl)
theorem zm_652 : Cond.fieldLink R_Model 97 "LayoutFrontModel" "thrown" "I" ∈ wz := zc_21 (List.mem_of_getElem? (i := 22) rfl)
theorem zm_653 : Cond.methodLink R_Model 100 y_Model_within ∈ wz := zc_21 (List.mem_of_getElem? (i := 23) rfl)
theorem zm_654 : Cond.static y_Model_within ∈ wz := zc_21 (List.mem_of_getElem? (i := 24) rfl)
theorem zm_655 : Cond.initialized R_Model ∈ wz := zc_21 (List.mem_of_getElem? (i := 25) rfl)
theorem zm_656 : Cond.code y_Model_within b_Model_within 3 (some .boolean) ∈ wz := zc_21 (List.mem_of_getElem? (i := 26) rfl)
theorem zm_657 : Cond.methodLink R_Model 104 y_Model_fail ∈ wz := zc_21 (List.mem_of_getElem? (i := 27) rfl)
theorem zm_658 : Cond.instanceMethod y_Model_fail ∈ wz := zc_21 (List.mem_of_getElem? (i := 28) rfl)
theorem zm_659 : Cond.selects R_Model y_Model_fail y_Model_fail ∈ wz := zc_21 (List.mem_of_getElem? (i := 29) rfl)
theorem zm_660 : Cond.code y_Model_fail b_Model_fail 2 (some .int) ∈ wz := zc_22 (List.mem_of_getElem? (i := 0) rfl)
theorem zm_661 : Cond.constantLong R_Model 108 255 ∈ wz := zc_22 (List.mem_of_getElem? (i := 1) rfl)
theorem zm_662 : Cond.fieldLink R_Model 110 "LayoutFrontModel" "length" "I" ∈ wz := zc_22 (List.mem_of_getElem? (i := 2) rfl)
theorem zm_663 : Cond.fieldLink R_Model 113 "LayoutFrontModel" "set" "I" ∈ wz := zc_22 (List.mem_of_getElem? (i := 3) rfl)
theorem zm_664 : Cond.methodLink R_Model 116 y_Model_find ∈ wz := zc_22 (List.mem_of_getElem? (i := 4) rfl)
theorem zm_665 : Cond.instanceMethod y_Model_find ∈ wz := zc_22 (List.mem_of_getElem? (i := 5) rfl)
theorem zm_666 : Cond.selects R_Model y_Model_find y_Model_find ∈ wz := zc_22 (List.mem_of_getElem? (i := 6) rfl)
theorem zm_667 : Cond.code y_Model_find b_Model_find 5 (some .int) ∈ wz := zc_22 (List.mem_of_getElem? (i := 7) rfl)
theorem zm_668 : Cond.fieldLink R_Model 120 "LayoutFrontModel" "at" "I" ∈ wz := zc_22 (List.mem_of_getElem? (i := 8) rfl)
theorem zm_669 : Cond.fieldLink R_Model 123 "LayoutFrontModel" "bad" "I" ∈ wz := zc_22 (List.mem_of_getElem? (i := 9) rfl)
theorem zm_670 : Cond.methodLink R_Model 126 y_Model_letter ∈ wz := zc_22 (List.mem_of_getElem? (i := 10) rfl)
theorem zm_671 : Cond.static y_Model_letter ∈ wz := zc_22 (List.mem_of_getElem? (i := 11) rfl)
theorem zm_672 : Cond.code y_Model_letter b_Model_letter 1 (some .boolean) ∈ wz := zc_22 (List.mem_of_getElem? (i := 12) rfl)
theorem zm_673 : Cond.methodLink R_Model 130 y_Model_digit ∈ wz := zc_22 (List.mem_of_getElem? (i := 13) rfl)
theorem zm_674 : Cond.static y_Model_digit ∈ wz := zc_22 (List.mem_of_getElem? (i := 14) rfl)
theorem zm_675 : Cond.code y_Model_digit b_Model_digit 1 (some .boolean) ∈ wz := zc_22 (List.mem_of_getElem? (i := 15) rfl)
theorem zm_676 : Cond.methodLink R_Model 133 y_Model_operator ∈ wz := zc_22 (List.mem_of_getElem? (i := 16) rfl)
theorem zm_677 : Cond.static y_Model_operator ∈ wz := zc_22 (List.mem_of_getElem? (i := 17) rfl)
theorem zm_678 : Cond.code y_Model_operator b_Model_operator 1 (some .boolean) ∈ wz := zc_22 (List.mem_of_getElem? (i := 18) rfl)
theorem zm_679 : Cond.methodLink R_Model 136 y_Model_here ∈ wz := zc_22 (List.mem_of_getElem? (i := 19) rfl)
theorem zm_680 : Cond.instanceMethod y_Model_here ∈ wz := zc_22 (List.mem_of_getElem? (i := 20) rfl)
theorem zm_681 : Cond.selects R_Model y_Model_here y_Model_here ∈ wz := zc_22 (List.mem_of_getElem? (i := 21) rfl)
theorem zm_682 : Cond.code y_Model_here b_Model_here 1 (some .int) ∈ wz := zc_22 (List.mem_of_getElem? (i := 22) rfl)
theorem zm_683 : Cond.methodLink R_Model 140 y_Model_wrong ∈ wz := zc_22 (List.mem_of_getElem? (i := 23) rfl)
theorem zm_684 : Cond.instanceMethod y_Model_wrong ∈ wz := zc_22 (List.mem_of_getElem? (i := 24) rfl)
theorem zm_685 : Cond.selects R_Model y_Model_wrong y_Model_wrong ∈ wz := zc_22 (List.mem_of_getElem? (i := 25) rfl)
theorem zm_686 : Cond.code y_Model_wrong b_Model_wrong 3 none ∈ wz := zc_22 (List.mem_of_getElem? (i := 26) rfl)
theorem zm_687 : Cond.fieldLink R_Model 144 "LayoutFrontModel" "lexemes" "I" ∈ wz := zc_22 (List.mem_of_getElem? (i := 27) rfl)
theorem zm_688 : Cond.methodLink R_Model 147 y_Model_packed ∈ wz := zc_22 (List.mem_of_getElem? (i := 28) rfl)
theorem zm_689 : Cond.instanceMethod y_Model_packed ∈ wz := zc_22 (List.mem_of_getElem? (i := 29) rfl)
theorem zm_690 : Cond.selects R_Model y_Model_packed y_Model_packed ∈ wz := zc_23 (List.mem_of_getElem? (i := 0) rfl)
theorem zm_691 : Cond.code y_Model_packed b_Model_packed 5 (some .long) ∈ wz := zc_23 (List.mem_of_getElem? (i := 1) rfl)
theorem zm_692 : Cond.constantLong R_Model 151 10 ∈ wz := zc_23 (List.mem_of_getElem? (i := 2) rfl)
theorem zm_693 : Cond.constantLong R_Model 153 48 ∈ wz := zc_23 (List.mem_of_getElem? (i := 3) rfl)
theorem zm_694 : Cond.methodLink R_Model 155 y_Model_nested ∈ wz := zc_23 (List.mem_of_getElem? (i := 4) rfl)
theorem zm_695 : Cond.instanceMethod y_Model_nested ∈ wz := zc_23 (List.mem_of_getElem? (i := 5) rfl)
theorem zm_696 : Cond.selects R_Model y_Model_nested y_Model_nested ∈ wz := zc_23 (List.mem_of_getElem? (i := 6) rfl)
theorem zm_697 : Cond.code y_Model_nested b_Model_nested 6 none ∈ wz := zc_23 (List.mem_of_getElem? (i := 7) rfl)
theorem zm_698 : Cond.methodLink R_Model 158 y_Model_run ∈ wz := zc_23 (List.mem_of_getElem? (i := 8) rfl)
theorem zm_699 : Cond.instanceMethod y_Model_run ∈ wz := zc_23 (List.mem_of_getElem? (i := 9) rfl)
theorem zm_700 : Cond.selects R_Model y_Model_run y_Model_run ∈ wz := zc_23 (List.mem_of_getElem? (i := 10) rfl)
theorem zm_701 : Cond.code y_Model_run b_Model_run 5 (some .int) ∈ wz := zc_23 (List.mem_of_getElem? (i := 11) rfl)
theorem zm_702 : Cond.methodLink R_Model 161 y_Model_lexeme ∈ wz := zc_23 (List.mem_of_getElem? (i := 12) rfl)
theorem zm_703 : Cond.instanceMethod y_Model_lexeme ∈ wz := zc_23 (List.mem_of_getElem? (i := 13) rfl)
theorem zm_704 : Cond.selects R_Model y_Model_lexeme y_Model_lexeme ∈ wz := zc_23 (List.mem_of_getElem? (i := 14) rfl)
theorem zm_705 : Cond.code y_Model_lexeme b_Model_lexeme 7 none ∈ wz := zc_23 (List.mem_of_getElem? (i := 15) rfl)
theorem zm_706 : Cond.methodLink R_Model 164 y_Model_dashes ∈ wz := zc_23 (List.mem_of_getElem? (i := 16) rfl)
theorem zm_707 : Cond.instanceMethod y_Model_dashes ∈ wz := zc_23 (List.mem_of_getElem? (i := 17) rfl)
theorem zm_708 : Cond.selects R_Model y_Model_dashes y_Model_dashes ∈ wz := zc_23 (List.mem_of_getElem? (i := 18) rfl)
theorem zm_709 : Cond.code y_Model_dashes b_Model_dashes 4 (some .boolean) ∈ wz := zc_23 (List.mem_of_getElem? (i := 19) rfl)
theorem zm_710 : Cond.methodLink R_Model 167 y_Model_sign ∈ wz := zc_23 (List.mem_of_getElem? (i := 20) rfl)
theorem zm_711 : Cond.static y_Model_sign ∈ wz := zc_23 (List.mem_of_getElem? (i := 21) rfl)
theorem zm_712 : Cond.code y_Model_sign b_Model_sign 1 (some .boolean) ∈ wz := zc_23 (List.mem_of_getElem? (i := 22) rfl)
theorem zm_713 : Cond.constantLong R_Model 170 7628140 ∈ wz := zc_23 (List.mem_of_getElem? (i := 23) rfl)
theorem zm_714 : Cond.constantLong R_Model 172 435710945399 ∈ wz := zc_23 (List.mem_of_getElem? (i := 24) rfl)
theorem zm_715 : Cond.constantLong R_Model 174 28516 ∈ wz := zc_23 (List.mem_of_getElem? (i := 25) rfl)
theorem zm_716 : Cond.constantLong R_Model 176 26223 ∈ wz := zc_23 (List.mem_of_getElem? (i := 26) rfl)
theorem zm_717 : Cond.constantLong R_Model 178 28265 ∈ wz := zc_23 (List.mem_of_getElem? (i := 27) rfl)
theorem zm_718 : Cond.constantLong R_Model 180 26217 ∈ wz := zc_23 (List.mem_of_getElem? (i := 28) rfl)
theorem zm_719 : Cond.constantLong R_Model 182 1852139636 ∈ wz := zc_23 (List.mem_of_getElem? (i := 29) rfl)
theorem zm_720 : Cond.constantLong R_Model 184 1702063205 ∈ wz := zc_24 (List.mem_of_getElem? (i := 0) rfl)
theorem zm_721 : Cond.constantLong R_Model 186 1702060387 ∈ wz := zc_24 (List.mem_of_getElem? (i := 1) rfl)
theorem zm_722 : Cond.fieldLink R_Model 188 "LayoutFrontModel" "tokens" "I" ∈ wz := zc_24 (List.mem_of_getElem? (i := 2) rfl)
theorem zm_723 : Cond.fieldLink R_Model 191 "LayoutFrontModel" "open" "I" ∈ wz := zc_24 (List.mem_of_getElem? (i := 3) rfl)
theorem zm_724 : Cond.fieldLink R_Model 194 "LayoutFrontModel" "highest" "I" ∈ wz := zc_24 (List.mem_of_getElem? (i := 4) rfl)
theorem zm_725 : Cond.methodLink R_Model 197 y_Model_top ∈ wz := zc_24 (List.mem_of_getElem? (i := 5) rfl)
theorem zm_726 : Cond.instanceMethod y_Model_top ∈ wz := zc_24 (List.mem_of_getElem? (i := 6) rfl)
theorem zm_727 : Cond.selects R_Model y_Model_top y_Model_top ∈ wz := zc_24 (List.mem_of_getElem? (i := 7) rfl)
theorem zm_728 : Cond.code y_Model_top b_Model_top 1 (some .int) ∈ wz := zc_24 (List.mem_of_getElem? (i := 8) rfl)
theorem zm_729 : Cond.methodLink R_Model 200 y_Model_belowLets ∈ wz := zc_24 (List.mem_of_getElem? (i := 9) rfl)
theorem zm_730 : Cond.instanceMethod y_Model_belowLets ∈ wz := zc_24 (List.mem_of_getElem? (i := 10) rfl)
theorem zm_731 : Cond.selects R_Model y_Model_belowLets y_Model_belowLets ∈ wz := zc_24 (List.mem_of_getElem? (i := 11) rfl)
theorem zm_732 : Cond.code y_Model_belowLets b_Model_belowLets 2 (some .int) ∈ wz := zc_24 (List.mem_of_getElem? (i := 12) rfl)
theorem zm_733 : Cond.methodLink R_Model 203 y_Model_dropLets ∈ wz := zc_24 (List.mem_of_getElem? (i := 13) rfl)
theorem zm_734 : Cond.instanceMethod y_Model_dropLets ∈ wz := zc_24 (List.mem_of_getElem? (i := 14) rfl)
theorem zm_735 : Cond.selects R_Model y_Model_dropLets y_Model_dropLets ∈ wz := zc_24 (List.mem_of_getElem? (i := 15) rfl)
theorem zm_736 : Cond.code y_Model_dropLets b_Model_dropLets 1 none ∈ wz := zc_24 (List.mem_of_getElem? (i := 16) rfl)
theorem zm_737 : Cond.constantLong R_Model 206 125 ∈ wz := zc_24 (List.mem_of_getElem? (i := 17) rfl)
theorem zm_738 : Cond.methodLink R_Model 208 y_Model_emit ∈ wz := zc_24 (List.mem_of_getElem? (i := 18) rfl)
theorem zm_739 : Cond.instanceMethod y_Model_emit ∈ wz := zc_24 (List.mem_of_getElem? (i := 19) rfl)
theorem zm_740 : Cond.selects R_Model y_Model_emit y_Model_emit ∈ wz := zc_24 (List.mem_of_getElem? (i := 20) rfl)
theorem zm_741 : Cond.code y_Model_emit b_Model_emit 4 none ∈ wz := zc_24 (List.mem_of_getElem? (i := 21) rfl)
theorem zm_742 : Cond.constantLong R_Model 212 59 ∈ wz := zc_24 (List.mem_of_getElem? (i := 22) rfl)
theorem zm_743 : Cond.methodLink R_Model 214 y_Model_leave ∈ wz := zc_24 (List.mem_of_getElem? (i := 23) rfl)
theorem zm_744 : Cond.instanceMethod y_Model_leave ∈ wz := zc_24 (List.mem_of_getElem? (i := 24) rfl)
theorem zm_745 : Cond.selects R_Model y_Model_leave y_Model_leave ∈ wz := zc_24 (List.mem_of_getElem? (i := 25) rfl)
theorem zm_746 : Cond.code y_Model_leave b_Model_leave 2 none ∈ wz := zc_24 (List.mem_of_getElem? (i := 26) rfl)
theorem zm_747 : Cond.methodLink R_Model 218 y_Model_push ∈ wz := zc_24 (List.mem_of_getElem? (i := 27) rfl)
theorem zm_748 : Cond.instanceMethod y_Model_push ∈ wz := zc_24 (List.mem_of_getElem? (i := 28) rfl)
theorem zm_749 : Cond.selects R_Model y_Model_push y_Model_push ∈ wz := zc_24 (List.mem_of_getElem? (i := 29) rfl)
theorem zm_750 : Cond.code y_Model_push b_Model_push 2 none ∈ wz := zc_25 (List.mem_of_getElem? (i := 0) rfl)
theorem zm_751 : Cond.constantLong R_Model 222 40 ∈ wz := zc_25 (List.mem_of_getElem? (i := 1) rfl)
theorem zm_752 : Cond.constantLong R_Model 224 91 ∈ wz := zc_25 (List.mem_of_getElem? (i := 2) rfl)
theorem zm_753 : Cond.constantLong R_Model 226 41 ∈ wz := zc_25 (List.mem_of_getElem? (i := 3) rfl)
theorem zm_754 : Cond.methodLink R_Model 228 y_Model_closes ∈ wz := zc_25 (List.mem_of_getElem? (i := 4) rfl)
theorem zm_755 : Cond.instanceMethod y_Model_closes ∈ wz := zc_25 (List.mem_of_getElem? (i := 5) rfl)
theorem zm_756 : Cond.selects R_Model y_Model_closes y_Model_closes ∈ wz := zc_25 (List.mem_of_getElem? (i := 6) rfl)
theorem zm_757 : Cond.code y_Model_closes b_Model_closes 4 none ∈ wz := zc_25 (List.mem_of_getElem? (i := 7) rfl)
theorem zm_758 : Cond.constantLong R_Model 231 93 ∈ wz := zc_25 (List.mem_of_getElem? (i := 8) rfl)
theorem zm_759 : Cond.constantLong R_Model 233 44 ∈ wz := zc_25 (List.mem_of_getElem? (i := 9) rfl)
theorem zm_760 : Cond.methodLink R_Model 235 y_Model_comma ∈ wz := zc_25 (List.mem_of_getElem? (i := 10) rfl)
theorem zm_761 : Cond.instanceMethod y_Model_comma ∈ wz := zc_25 (List.mem_of_getElem? (i := 11) rfl)
theorem zm_762 : Cond.selects R_Model y_Model_comma y_Model_comma ∈ wz := zc_25 (List.mem_of_getElem? (i := 12) rfl)
theorem zm_763 : Cond.code y_Model_comma b_Model_comma 2 none ∈ wz := zc_25 (List.mem_of_getElem? (i := 13) rfl)
theorem zm_764 : Cond.constantLong R_Model 238 123 ∈ wz := zc_25 (List.mem_of_getElem? (i := 14) rfl)
theorem zm_765 : Cond.fieldLink R_Model 240 "LayoutFrontModel" "blocks" "I" ∈ wz := zc_25 (List.mem_of_getElem? (i := 15) rfl)
theorem zm_766 : Cond.methodLink R_Model 243 y_Model_mark ∈ wz := zc_25 (List.mem_of_getElem? (i := 16) rfl)
theorem zm_767 : Cond.instanceMethod y_Model_mark ∈ wz := zc_25 (List.mem_of_getElem? (i := 17) rfl)
theorem zm_768 : Cond.selects R_Model y_Model_mark y_Model_mark ∈ wz := zc_25 (List.mem_of_getElem? (i := 18) rfl)
theorem zm_769 : Cond.code y_Model_mark b_Model_mark 2 none ∈ wz := zc_25 (List.mem_of_getElem? (i := 19) rfl)
theorem zm_770 : Cond.methodLink R_Model 246 y_Model_begins ∈ wz := zc_25 (List.mem_of_getElem? (i := 20) rfl)
theorem zm_771 : Cond.instanceMethod y_Model_begins ∈ wz := zc_25 (List.mem_of_getElem? (i := 21) rfl)
theorem zm_772 : Cond.selects R_Model y_Model_begins y_Model_begins ∈ wz := zc_25 (List.mem_of_getElem? (i := 22) rfl)
theorem zm_773 : Cond.code y_Model_begins b_Model_begins 3 (some .boolean) ∈ wz := zc_25 (List.mem_of_getElem? (i := 23) rfl)
theorem zm_774 : Cond.methodLink R_Model 249 y_Model_begin ∈ wz := zc_25 (List.mem_of_getElem? (i := 24) rfl)
theorem zm_775 : Cond.instanceMethod y_Model_begin ∈ wz := zc_25 (List.mem_of_getElem? (i := 25) rfl)
theorem zm_776 : Cond.selects R_Model y_Model_begin y_Model_begin ∈ wz := zc_25 (List.mem_of_getElem? (i := 26) rfl)
theorem zm_777 : Cond.code y_Model_begin b_Model_begin 4 none ∈ wz := zc_25 (List.mem_of_getElem? (i := 27) rfl)
theorem zm_778 : Cond.methodLink R_Model 252 y_Model_signs ∈ wz := zc_25 (List.mem_of_getElem? (i := 28) rfl)
theorem zm_779 : Cond.instanceMethod y_Model_signs ∈ wz := zc_25 (List.mem_of_getElem? (i := 29) rfl)
theorem zm_780 : Cond.selects R_Model y_Model_signs y_Model_signs ∈ wz := zc_26 (List.mem_of_getElem? (i := 0) rfl)
theorem zm_781 : Cond.code y_Model_signs b_Model_signs 4 none ∈ wz := zc_26 (List.mem_of_getElem? (i := 1) rfl)
theorem zm_782 : Cond.methodLink R_Model 255 y_Model_words ∈ wz := zc_26 (List.mem_of_getElem? (i := 2) rfl)
theorem zm_783 : Cond.instanceMethod y_Model_words ∈ wz := zc_26 (List.mem_of_getElem? (i := 3) rfl)
theorem zm_784 : Cond.selects R_Model y_Model_words y_Model_words ∈ wz := zc_26 (List.mem_of_getElem? (i := 4) rfl)
theorem zm_785 : Cond.code y_Model_words b_Model_words 4 none ∈ wz := zc_26 (List.mem_of_getElem? (i := 5) rfl)
theorem zm_786 : Cond.constantLong R_Model 258 61 ∈ wz := zc_26 (List.mem_of_getElem? (i := 6) rfl)
theorem zm_787 : Cond.constantLong R_Model 260 15917 ∈ wz := zc_26 (List.mem_of_getElem? (i := 7) rfl)
theorem zm_788 : Cond.constantLong R_Model 262 11580 ∈ wz := zc_26 (List.mem_of_getElem? (i := 8) rfl)
theorem zm_789 : Cond.constantLong R_Model 264 124 ∈ wz := zc_26 (List.mem_of_getElem? (i := 9) rfl)
theorem zm_790 : Cond.constantLong R_Model 266 14906 ∈ wz := zc_26 (List.mem_of_getElem? (i := 10) rfl)
theorem zm_791 : Cond.constantLong R_Model 268 15933 ∈ wz := zc_26 (List.mem_of_getElem? (i := 11) rfl)
theorem zm_792 : Cond.constantLong R_Model 270 92 ∈ wz := zc_26 (List.mem_of_getElem? (i := 12) rfl)
theorem zm_793 : Cond.constantLong R_Model 272 64 ∈ wz := zc_26 (List.mem_of_getElem? (i := 13) rfl)
theorem zm_794 : Cond.constantLong R_Model 274 126 ∈ wz := zc_26 (List.mem_of_getElem? (i := 14) rfl)
theorem zm_795 : Cond.constantLong R_Model 276 11822 ∈ wz := zc_26 (List.mem_of_getElem? (i := 15) rfl)
theorem zm_796 : Cond.methodLink R_Model 278 y_Model_word ∈ wz := zc_26 (List.mem_of_getElem? (i := 16) rfl)
theorem zm_797 : Cond.static y_Model_word ∈ wz := zc_26 (List.mem_of_getElem? (i := 17) rfl)
theorem zm_798 : Cond.code y_Model_word b_Model_word 2 (some .boolean) ∈ wz := zc_26 (List.mem_of_getElem? (i := 18) rfl)
theorem zm_799 : Cond.constantLong R_Model 282 96 ∈ wz := zc_26 (List.mem_of_getElem? (i := 19) rfl)
theorem zm_800 : Cond.methodLink R_Model 284 y_Model_plainName ∈ wz := zc_26 (List.mem_of_getElem? (i := 20) rfl)
theorem zm_801 : Cond.instanceMethod y_Model_plainName ∈ wz := zc_26 (List.mem_of_getElem? (i := 21) rfl)
theorem zm_802 : Cond.selects R_Model y_Model_plainName y_Model_plainName ∈ wz := zc_26 (List.mem_of_getElem? (i := 22) rfl)
theorem zm_803 : Cond.code y_Model_plainName b_Model_plainName 2 (some .boolean) ∈ wz := zc_26 (List.mem_of_getElem? (i := 23) rfl)
theorem zm_804 : Cond.methodLink R_Model 287 y_Model_reserved ∈ wz := zc_26 (List.mem_of_getElem? (i := 24) rfl)
theorem zm_805 : Cond.static y_Model_reserved ∈ wz := zc_26 (List.mem_of_getElem? (i := 25) rfl)
theorem zm_806 : Cond.code y_Model_reserved b_Model_reserved 2 (some .boolean) ∈ wz := zc_26 (List.mem_of_getElem? (i := 26) rfl)
theorem zm_807 : Cond.methodLink R_Model 290 y_Model_tick ∈ wz := zc_26 (List.mem_of_getElem? (i := 27) rfl)
theorem zm_808 : Cond.instanceMethod y_Model_tick ∈ wz := zc_26 (List.mem_of_getElem? (i := 28) rfl)
theorem zm_809 : Cond.selects R_Model y_Model_tick y_Model_tick ∈ wz := zc_26 (List.mem_of_getElem? (i := 29) rfl)
theorem zm_810 : Cond.code y_Model_tick b_Model_tick 2 (some .boolean) ∈ wz := zc_27 (List.mem_of_getElem? (i := 0) rfl)
theorem zm_811 : Cond.constantLong R_Model 293 45 ∈ wz := zc_27 (List.mem_of_getElem? (i := 1) rfl)
theorem zm_812 : Cond.fieldLink R_Model 295 "LayoutFrontModel" "items" "I" ∈ wz := zc_27 (List.mem_of_getElem? (i := 2) rfl)
theorem zm_813 : Cond.methodLink R_Model 298 y_Model_extent ∈ wz := zc_27 (List.mem_of_getElem? (i := 3) rfl)
theorem zm_814 : Cond.instanceMethod y_Model_extent ∈ wz := zc_27 (List.mem_of_getElem? (i := 4) rfl)
theorem zm_815 : Cond.selects R_Model y_Model_extent y_Model_extent ∈ wz := zc_27 (List.mem_of_getElem? (i := 5) rfl)
theorem zm_816 : Cond.code y_Model_extent b_Model_extent 2 (some .int) ∈ wz := zc_27 (List.mem_of_getElem? (i := 6) rfl)
theorem zm_817 : Cond.methodLink R_Model 301 y_Model_operation ∈ wz := zc_27 (List.mem_of_getElem? (i := 7) rfl)
theorem zm_818 : Cond.instanceMethod y_Model_operation ∈ wz := zc_27 (List.mem_of_getElem? (i := 8) rfl)
theorem zm_819 : Cond.selects R_Model y_Model_operation y_Model_operation ∈ wz := zc_27 (List.mem_of_getElem? (i := 9) rfl)
theorem zm_820 : Cond.code y_Model_operation b_Model_operation 2 (some .boolean) ∈ wz := zc_27 (List.mem_of_getElem? (i := 10) rfl)
theorem zm_821 : Cond.methodLink R_Model 304 y_Model_dash ∈ wz := zc_27 (List.mem_of_getElem? (i := 11) rfl)
theorem zm_822 : Cond.instanceMethod y_Model_dash ∈ wz := zc_27 (List.mem_of_getElem? (i := 12) rfl)
theorem zm_823 : Cond.selects R_Model y_Model_dash y_Model_dash ∈ wz := zc_27 (List.mem_of_getElem? (i := 13) rfl)
theorem zm_824 : Cond.code y_Model_dash b_Model_dash 2 (some .boolean) ∈ wz := zc_27 (List.mem_of_getElem? (i := 14) rfl)
theorem zm_825 : Cond.methodLink R_Model 307 y_Model_core ∈ wz := zc_27 (List.mem_of_getElem? (i := 15) rfl)
theorem zm_826 : Cond.instanceMethod y_Model_core ∈ wz := zc_27 (List.mem_of_getElem? (i := 16) rfl)
theorem zm_827 : Cond.selects R_Model y_Model_core y_Model_core ∈ wz := zc_27 (List.mem_of_getElem? (i := 17) rfl)
theorem zm_828 : Cond.code y_Model_core b_Model_core 2 (some .int) ∈ wz := zc_27 (List.mem_of_getElem? (i := 18) rfl)
theorem zm_829 : Cond.methodLink R_Model 310 y_Model_fixed ∈ wz := zc_27 (List.mem_of_getElem? (i := 19) rfl)
theorem zm_830 : Cond.instanceMethod y_Model_fixed ∈ wz := zc_27 (List.mem_of_getElem? (i := 20) rfl)
theorem zm_831 : Cond.selects R_Model y_Model_fixed y_Model_fixed ∈ wz := zc_27 (List.mem_of_getElem? (i := 21) rfl)
theorem zm_832 : Cond.code y_Model_fixed b_Model_fixed 2 (some .int) ∈ wz := zc_27 (List.mem_of_getElem? (i := 22) rfl)
theorem zm_833 : Cond.fieldLink R_Model 313 "LayoutFrontModel" "waiting" "I" ∈ wz := zc_27 (List.mem_of_getElem? (i := 23) rfl)
theorem zm_834 : Cond.fieldLink R_Model 316 "LayoutFrontModel" "operands" "I" ∈ wz := zc_27 (List.mem_of_getElem? (i := 24) rfl)
theorem zm_835 : Cond.fieldLink R_Model 319 "LayoutFrontModel" "pairs" "I" ∈ wz := zc_27 (List.mem_of_getElem? (i := 25) rfl)
theorem zm_836 : Cond.methodLink R_Model 322 y_Model_level ∈ wz := zc_27 (List.mem_of_getElem? (i := 26) rfl)
theorem zm_837 : Cond.instanceMethod y_Model_level ∈ wz := zc_27 (List.mem_of_getElem? (i := 27) rfl)
theorem zm_838 : Cond.selects R_Model y_Model_level y_Model_level ∈ wz := zc_27 (List.mem_of_getElem? (i := 28) rfl)
theorem zm_839 : Cond.code y_Model_level b_Model_level 2 (some .int) ∈ wz := zc_27 (List.mem_of_getElem? (i := 29) rfl)
theorem zm_840 : Cond.methodLink R_Model 325 y_Model_side ∈ wz := zc_28 (List.mem_of_getElem? (i := 0) rfl)
theorem zm_841 : Cond.instanceMethod y_Model_side ∈ wz := zc_28 (List.mem_of_getElem? (i := 1) rfl)
theorem zm_842 : Cond.selects R_Model y_Model_side y_Model_side ∈ wz := zc_28 (List.mem_of_getElem? (i := 2) rfl)
theorem zm_843 : Cond.code y_Model_side b_Model_side 2 (some .int) ∈ wz := zc_28 (List.mem_of_getElem? (i := 3) rfl)
theorem zm_844 : Cond.methodLink R_Model 328 y_Model_apply ∈ wz := zc_28 (List.mem_of_getElem? (i := 4) rfl)
theorem zm_845 : Cond.instanceMethod y_Model_apply ∈ wz := zc_28 (List.mem_of_getElem? (i := 5) rfl)
theorem zm_846 : Cond.selects R_Model y_Model_apply y_Model_apply ∈ wz := zc_28 (List.mem_of_getElem? (i := 6) rfl)
theorem zm_847 : Cond.code y_Model_apply b_Model_apply 4 none ∈ wz := zc_28 (List.mem_of_getElem? (i := 7) rfl)
theorem zm_848 : Cond.methodLink R_Model 331 y_Model_comes ∈ wz := zc_28 (List.mem_of_getElem? (i := 8) rfl)
theorem zm_849 : Cond.instanceMethod y_Model_comes ∈ wz := zc_28 (List.mem_of_getElem? (i := 9) rfl)
theorem zm_850 : Cond.selects R_Model y_Model_comes y_Model_comes ∈ wz := zc_28 (List.mem_of_getElem? (i := 10) rfl)
theorem zm_851 : Cond.code y_Model_comes b_Model_comes 5 (some .boolean) ∈ wz := zc_28 (List.mem_of_getElem? (i := 11) rfl)
theorem zm_852 : Cond.fieldLink R_Model 334 "LayoutFrontModel" "conflicts" "I" ∈ wz := zc_28 (List.mem_of_getElem? (i := 12) rfl)
theorem zm_853 : Cond.fieldLink R_Model 337 "LayoutFrontModel" "rows" "I" ∈ wz := zc_28 (List.mem_of_getElem? (i := 13) rfl)
theorem zm_854 : Cond.methodLink R_Model 340 y_Model_partners ∈ wz := zc_28 (List.mem_of_getElem? (i := 14) rfl)
theorem zm_855 : Cond.instanceMethod y_Model_partners ∈ wz := zc_28 (List.mem_of_getElem? (i := 15) rfl)
theorem zm_856 : Cond.selects R_Model y_Model_partners y_Model_partners ∈ wz := zc_28 (List.mem_of_getElem? (i := 16) rfl)
theorem zm_857 : Cond.code y_Model_partners b_Model_partners 5 none ∈ wz := zc_28 (List.mem_of_getElem? (i := 17) rfl)
theorem zm_858 : Cond.methodLink R_Model 343 y_Model_collect ∈ wz := zc_28 (List.mem_of_getElem? (i := 18) rfl)
theorem zm_859 : Cond.instanceMethod y_Model_collect ∈ wz := zc_28 (List.mem_of_getElem? (i := 19) rfl)
theorem zm_860 : Cond.selects R_Model y_Model_collect y_Model_collect ∈ wz := zc_28 (List.mem_of_getElem? (i := 20) rfl)
theorem zm_861 : Cond.code y_Model_collect b_Model_collect 6 none ∈ wz := zc_28 (List.mem_of_getElem? (i := 21) rfl)
theorem zm_862 : Cond.methodLink R_Model 346 y_Model_regular ∈ wz := zc_28 (List.mem_of_getElem? (i := 22) rfl)
theorem zm_863 : Cond.instanceMethod y_Model_regular ∈ wz := zc_28 (List.mem_of_getElem? (i := 23) rfl)
theorem zm_864 : Cond.selects R_Model y_Model_regular y_Model_regular ∈ wz := zc_28 (List.mem_of_getElem? (i := 24) rfl)
theorem zm_865 : Cond.code y_Model_regular b_Model_regular 5 (some .boolean) ∈ wz := zc_28 (List.mem_of_getElem? (i := 25) rfl)
theorem zm_866 : Cond.methodLink R_Model 350 y_Model_put ∈ wz := zc_28 (List.mem_of_getElem? (i := 26) rfl)
theorem zm_867 : Cond.instanceMethod y_Model_put ∈ wz := zc_28 (List.mem_of_getElem? (i := 27) rfl)
theorem zm_868 : Cond.selects R_Model y_Model_put y_Model_put ∈ wz := zc_28 (List.mem_of_getElem? (i := 28) rfl)
theorem zm_869 : Cond.code y_Model_put b_Model_put 3 none ∈ wz := zc_28 (List.mem_of_getElem? (i := 29) rfl)
theorem zm_870 : Cond.fieldLink R_Model 353 "LayoutFrontModel" "all" "I" ∈ wz := zc_29 (List.mem_of_getElem? (i := 0) rfl)
theorem zm_871 : Cond.methodLink R_Model 356 y_Model_cut ∈ wz := zc_29 (List.mem_of_getElem? (i := 1) rfl)
theorem zm_872 : Cond.instanceMethod y_Model_cut ∈ wz := zc_29 (List.mem_of_getElem? (i := 2) rfl)
theorem zm_873 : Cond.selects R_Model y_Model_cut y_Model_cut ∈ wz := zc_29 (List.mem_of_getElem? (i := 3) rfl)
theorem zm_874 : Cond.code y_Model_cut b_Model_cut 2 none ∈ wz := zc_29 (List.mem_of_getElem? (i := 4) rfl)
theorem zm_875 : Cond.methodLink R_Model 359 y_Model_lay ∈ wz := zc_29 (List.mem_of_getElem? (i := 5) rfl)
theorem zm_876 : Cond.instanceMethod y_Model_lay ∈ wz := zc_29 (List.mem_of_getElem? (i := 6) rfl)
theorem zm_877 : Cond.selects R_Model y_Model_lay y_Model_lay ∈ wz := zc_29 (List.mem_of_getElem? (i := 7) rfl)
theorem zm_878 : Cond.code y_Model_lay b_Model_lay 2 none ∈ wz := zc_29 (List.mem_of_getElem? (i := 8) rfl)
theorem zm_879 : Cond.methodLink R_Model 362 y_Model_around ∈ wz := zc_29 (List.mem_of_getElem? (i := 9) rfl)
theorem zm_880 : Cond.instanceMethod y_Model_around ∈ wz := zc_29 (List.mem_of_getElem? (i := 10) rfl)
theorem zm_881 : Cond.selects R_Model y_Model_around y_Model_around ∈ wz := zc_29 (List.mem_of_getElem? (i := 11) rfl)
theorem zm_882 : Cond.code y_Model_around b_Model_around 2 none ∈ wz := zc_29 (List.mem_of_getElem? (i := 12) rfl)
theorem zm_883 : Cond.methodLink R_Model 365 y_Model_add ∈ wz := zc_29 (List.mem_of_getElem? (i := 13) rfl)
theorem zm_884 : Cond.instanceMethod y_Model_add ∈ wz := zc_29 (List.mem_of_getElem? (i := 14) rfl)
theorem zm_885 : Cond.selects R_Model y_Model_add y_Model_add ∈ wz := zc_29 (List.mem_of_getElem? (i := 15) rfl)
theorem zm_886 : Cond.code y_Model_add b_Model_add 4 none ∈ wz := zc_29 (List.mem_of_getElem? (i := 16) rfl)
theorem zm_887 : Cond.fieldLink R_Model 368 "LayoutFrontModel" "told" "I" ∈ wz := zc_29 (List.mem_of_getElem? (i := 17) rfl)
theorem zm_888 : Cond.fieldLink R_Model 371 "LayoutFrontModel" "toldBlocks" "I" ∈ wz := zc_29 (List.mem_of_getElem? (i := 18) rfl)
theorem zm_889 : Cond.fieldLink R_Model 374 "LayoutFrontModel" "toldRows" "I" ∈ wz := zc_29 (List.mem_of_getElem? (i := 19) rfl)
theorem zm_890 : Cond.fieldLink R_Model 377 "LayoutFrontModel" "toldConflicts" "I" ∈ wz := zc_29 (List.mem_of_getElem? (i := 20) rfl)
theorem zm_891 : Cond.fieldLink R_Model 380 "LayoutFrontModel" "toldHighest" "I" ∈ wz := zc_29 (List.mem_of_getElem? (i := 21) rfl)
theorem zm_892 : Cond.methodLink R_Law 7 y_LF_write ∈ wz := zc_29 (List.mem_of_getElem? (i := 22) rfl)
theorem zm_893 : Cond.instanceMethod y_LF_write ∈ wz := zc_29 (List.mem_of_getElem? (i := 23) rfl)
theorem zm_894 : Cond.selects R_LF y_LF_write y_LF_write ∈ wz := zc_29 (List.mem_of_getElem? (i := 24) rfl)
theorem zm_895 : Cond.code y_LF_write b_LF_write 4 (some .int) ∈ wz := zc_29 (List.mem_of_getElem? (i := 25) rfl)
theorem zm_896 : Cond.methodLink R_Law 17 y_LF_fixity ∈ wz := zc_29 (List.mem_of_getElem? (i := 26) rfl)
theorem zm_897 : Cond.instanceMethod y_LF_fixity ∈ wz := zc_29 (List.mem_of_getElem? (i := 27) rfl)
theorem zm_898 : Cond.selects R_LF y_LF_fixity y_LF_fixity ∈ wz := zc_29 (List.mem_of_getElem? (i := 28) rfl)
theorem zm_899 : Cond.code y_LF_fixity b_LF_fixity 5 (some .int) ∈ wz := zc_29 (List.mem_of_getElem? (i := 29) rfl)
theorem zm_900 : Cond.methodLink R_Law 21 y_LF_read ∈ wz := zc_30 (List.mem_of_getElem? (i := 0) rfl)
theorem zm_901 : Cond.instanceMethod y_LF_read ∈ wz := zc_30 (List.mem_of_getElem? (i := 1) rfl)
theorem zm_902 : Cond.selects R_LF y_LF_read y_LF_read ∈ wz := zc_30 (List.mem_of_getElem? (i := 2) rfl)
theorem zm_903 : Cond.code y_LF_read b_LF_read 1 (some .int) ∈ wz := zc_30 (List.mem_of_getElem? (i := 3) rfl)
theorem zm_904 : Cond.methodLink R_Law 25 y_LF_kind ∈ wz := zc_30 (List.mem_of_getElem? (i := 4) rfl)
theorem zm_905 : Cond.instanceMethod y_LF_kind ∈ wz := zc_30 (List.mem_of_getElem? (i := 5) rfl)
theorem zm_906 : Cond.selects R_LF y_LF_kind y_LF_kind ∈ wz := zc_30 (List.mem_of_getElem? (i := 6) rfl)
theorem zm_907 : Cond.code y_LF_kind b_LF_kind 2 (some .int) ∈ wz := zc_30 (List.mem_of_getElem? (i := 7) rfl)
theorem zm_908 : Cond.methodLink R_Law 31 y_LF_token ∈ wz := zc_30 (List.mem_of_getElem? (i := 8) rfl)
theorem zm_909 : Cond.instanceMethod y_LF_token ∈ wz := zc_30 (List.mem_of_getElem? (i := 9) rfl)
theorem zm_910 : Cond.selects R_LF y_LF_token y_LF_token ∈ wz := zc_30 (List.mem_of_getElem? (i := 10) rfl)
theorem zm_911 : Cond.code y_LF_token b_LF_token 2 (some .long) ∈ wz := zc_30 (List.mem_of_getElem? (i := 11) rfl)
theorem zm_912 : Cond.methodLink R_Law 35 y_LF_count ∈ wz := zc_30 (List.mem_of_getElem? (i := 12) rfl)
theorem zm_913 : Cond.instanceMethod y_LF_count ∈ wz := zc_30 (List.mem_of_getElem? (i := 13) rfl)
theorem zm_914 : Cond.selects R_LF y_LF_count y_LF_count ∈ wz := zc_30 (List.mem_of_getElem? (i := 14) rfl)
theorem zm_915 : Cond.code y_LF_count b_LF_count 2 (some .int) ∈ wz := zc_30 (List.mem_of_getElem? (i := 15) rfl)
theorem zm_916 : Cond.classLink R_Law 8 R_LF ∈ wz := zc_30 (List.mem_of_getElem? (i := 16) rfl)
theorem zm_917 : Cond.instantiable R_LF 8 ∈ wz := zc_30 (List.mem_of_getElem? (i := 17) rfl)
theorem zm_918 : Cond.methodLink R_Law 38 y_LF_init ∈ wz := zc_30 (List.mem_of_getElem? (i := 18) rfl)
theorem zm_919 : Cond.instanceMethod y_LF_init ∈ wz := zc_30 (List.mem_of_getElem? (i := 19) rfl)
theorem zm_920 : Cond.code y_LF_init b_LF_init 1 none ∈ wz := zc_30 (List.mem_of_getElem? (i := 20) rfl)
theorem zm_921 : Cond.classLink R_Law 39 R_Model ∈ wz := zc_30 (List.mem_of_getElem? (i := 21) rfl)
theorem zm_922 : Cond.instantiable R_Model 50 ∈ wz := zc_30 (List.mem_of_getElem? (i := 22) rfl)
theorem zm_923 : Cond.methodLink R_Law 41 y_Model_init ∈ wz := zc_30 (List.mem_of_getElem? (i := 23) rfl)
theorem zm_924 : Cond.instanceMethod y_Model_init ∈ wz := zc_30 (List.mem_of_getElem? (i := 24) rfl)
theorem zm_925 : Cond.code y_Model_init b_Model_init 1 none ∈ wz := zc_30 (List.mem_of_getElem? (i := 25) rfl)
theorem zm_926 : Cond.constantLong R_Law 42 4294967295 ∈ wz := zc_30 (List.mem_of_getElem? (i := 26) rfl)
theorem zm_927 : Cond.methodLink R_Law 44 y_Law_write ∈ wz := zc_30 (List.mem_of_getElem? (i := 27) rfl)
theorem zm_928 : Cond.static y_Law_write ∈ wz := zc_30 (List.mem_of_getElem? (i := 28) rfl)
theorem zm_929 : Cond.initialized R_Law ∈ wz := zc_30 (List.mem_of_getElem? (i := 29) rfl)
theorem zm_930 : Cond.codeWith y_Law_write b_Law_write 6 (some .int) [(0, 11, 14, 13), (0, 11, 18, 15)] ∈ wz := zc_31 (List.mem_of_getElem? (i := 0) rfl)
theorem zm_931 : Cond.methodLink R_Law 49 y_Model_write ∈ wz := zc_31 (List.mem_of_getElem? (i := 1) rfl)
theorem zm_932 : Cond.instanceMethod y_Model_write ∈ wz := zc_31 (List.mem_of_getElem? (i := 2) rfl)
theorem zm_933 : Cond.selects R_Model y_Model_write y_Model_write ∈ wz := zc_31 (List.mem_of_getElem? (i := 3) rfl)
theorem zm_934 : Cond.code y_Model_write b_Model_write 7 (some .int) ∈ wz := zc_31 (List.mem_of_getElem? (i := 4) rfl)
theorem zm_935 : Cond.methodLink R_Law 50 y_LF_erase ∈ wz := zc_31 (List.mem_of_getElem? (i := 5) rfl)
theorem zm_936 : Cond.instanceMethod y_LF_erase ∈ wz := zc_31 (List.mem_of_getElem? (i := 6) rfl)
theorem zm_937 : Cond.selects R_LF y_LF_erase y_LF_erase ∈ wz := zc_31 (List.mem_of_getElem? (i := 7) rfl)
theorem zm_938 : Cond.code y_LF_erase b_LF_erase 2 (some .int) ∈ wz := zc_31 (List.mem_of_getElem? (i := 8) rfl)
theorem zm_939 : Cond.methodLink R_Law 53 y_Model_erase ∈ wz := zc_31 (List.mem_of_getElem? (i := 9) rfl)
theorem zm_940 : Cond.instanceMethod y_Model_erase ∈ wz := zc_31 (List.mem_of_getElem? (i := 10) rfl)
theorem zm_941 : Cond.selects R_Model y_Model_erase y_Model_erase ∈ wz := zc_31 (List.mem_of_getElem? (i := 11) rfl)
theorem zm_942 : Cond.code y_Model_erase b_Model_erase 2 (some .int) ∈ wz := zc_31 (List.mem_of_getElem? (i := 12) rfl)
theorem zm_943 : Cond.methodLink R_Law 54 y_Law_fixity ∈ wz := zc_31 (List.mem_of_getElem? (i := 13) rfl)
theorem zm_944 : Cond.static y_Law_fixity ∈ wz := zc_31 (List.mem_of_getElem? (i := 14) rfl)
theorem zm_945 : Cond.codeWith y_Law_fixity b_Law_fixity 7 (some .int) [(0, 13, 16, 13), (0, 13, 20, 15)] ∈ wz := zc_31 (List.mem_of_getElem? (i := 15) rfl)
theorem zm_946 : Cond.methodLink R_Law 57 y_Model_fixity ∈ wz := zc_31 (List.mem_of_getElem? (i := 16) rfl)
theorem zm_947 : Cond.instanceMethod y_Model_fixity ∈ wz := zc_31 (List.mem_of_getElem? (i := 17) rfl)
theorem zm_948 : Cond.selects R_Model y_Model_fixity y_Model_fixity ∈ wz := zc_31 (List.mem_of_getElem? (i := 18) rfl)
theorem zm_949 : Cond.code y_Model_fixity b_Model_fixity 6 (some .int) ∈ wz := zc_31 (List.mem_of_getElem? (i := 19) rfl)
theorem zm_950 : Cond.methodLink R_Law 58 y_Law_read ∈ wz := zc_31 (List.mem_of_getElem? (i := 20) rfl)
theorem zm_951 : Cond.static y_Law_read ∈ wz := zc_31 (List.mem_of_getElem? (i := 21) rfl)
theorem zm_952 : Cond.codeWith y_Law_read b_Law_read 3 (some .int) [(0, 8, 11, 13), (0, 8, 14, 15)] ∈ wz := zc_31 (List.mem_of_getElem? (i := 22) rfl)
theorem zm_953 : Cond.methodLink R_Law 61 y_Model_read ∈ wz := zc_31 (List.mem_of_getElem? (i := 23) rfl)
theorem zm_954 : Cond.instanceMethod y_Model_read ∈ wz := zc_31 (List.mem_of_getElem? (i := 24) rfl)
theorem zm_955 : Cond.selects R_Model y_Model_read y_Model_read ∈ wz := zc_31 (List.mem_of_getElem? (i := 25) rfl)
theorem zm_956 : Cond.code y_Model_read b_Model_read 3 (some .int) ∈ wz := zc_31 (List.mem_of_getElem? (i := 26) rfl)
theorem zm_957 : Cond.methodLink R_Law 62 y_LF_place ∈ wz := zc_31 (List.mem_of_getElem? (i := 27) rfl)
theorem zm_958 : Cond.instanceMethod y_LF_place ∈ wz := zc_31 (List.mem_of_getElem? (i := 28) rfl)
theorem zm_959 : Cond.selects R_LF y_LF_place y_LF_place ∈ wz := zc_31 (List.mem_of_getElem? (i := 29) rfl)
theorem zm_960 : Cond.code y_LF_place b_LF_place 1 (some .int) ∈ wz := zc_32 (List.mem_of_getElem? (i := 0) rfl)
theorem zm_961 : Cond.methodLink R_Law 65 y_Model_place ∈ wz := zc_32 (List.mem_of_getElem? (i := 1) rfl)
theorem zm_962 : Cond.instanceMethod y_Model_place ∈ wz := zc_32 (List.mem_of_getElem? (i := 2) rfl)
theorem zm_963 : Cond.selects R_Model y_Model_place y_Model_place ∈ wz := zc_32 (List.mem_of_getElem? (i := 3) rfl)
theorem zm_964 : Cond.code y_Model_place b_Model_place 1 (some .int) ∈ wz := zc_32 (List.mem_of_getElem? (i := 4) rfl)
theorem zm_965 : Cond.methodLink R_Law 66 y_Law_kind ∈ wz := zc_32 (List.mem_of_getElem? (i := 5) rfl)
theorem zm_966 : Cond.static y_Law_kind ∈ wz := zc_32 (List.mem_of_getElem? (i := 6) rfl)
theorem zm_967 : Cond.codeWith y_Law_kind b_Law_kind 4 (some .int) [(0, 9, 12, 29)] ∈ wz := zc_32 (List.mem_of_getElem? (i := 7) rfl)
theorem zm_968 : Cond.methodLink R_Law 69 y_Model_kind ∈ wz := zc_32 (List.mem_of_getElem? (i := 8) rfl)
theorem zm_969 : Cond.instanceMethod y_Model_kind ∈ wz := zc_32 (List.mem_of_getElem? (i := 9) rfl)
theorem zm_970 : Cond.selects R_Model y_Model_kind y_Model_kind ∈ wz := zc_32 (List.mem_of_getElem? (i := 10) rfl)
theorem zm_971 : Cond.code y_Model_kind b_Model_kind 2 (some .int) ∈ wz := zc_32 (List.mem_of_getElem? (i := 11) rfl)
theorem zm_972 : Cond.methodLink R_Law 70 y_Law_token ∈ wz := zc_32 (List.mem_of_getElem? (i := 12) rfl)
theorem zm_973 : Cond.static y_Law_token ∈ wz := zc_32 (List.mem_of_getElem? (i := 13) rfl)
theorem zm_974 : Cond.codeWith y_Law_token b_Law_token 4 (some .int) [(0, 8, 11, 29)] ∈ wz := zc_32 (List.mem_of_getElem? (i := 14) rfl)
theorem zm_975 : Cond.methodLink R_Law 72 y_Model_token ∈ wz := zc_32 (List.mem_of_getElem? (i := 15) rfl)
theorem zm_976 : Cond.instanceMethod y_Model_token ∈ wz := zc_32 (List.mem_of_getElem? (i := 16) rfl)
theorem zm_977 : Cond.selects R_Model y_Model_token y_Model_token ∈ wz := zc_32 (List.mem_of_getElem? (i := 17) rfl)
theorem zm_978 : Cond.code y_Model_token b_Model_token 2 (some .long) ∈ wz := zc_32 (List.mem_of_getElem? (i := 18) rfl)
theorem zm_979 : Cond.methodLink R_Law 73 y_Model_thrown ∈ wz := zc_32 (List.mem_of_getElem? (i := 19) rfl)
theorem zm_980 : Cond.instanceMethod y_Model_thrown ∈ wz := zc_32 (List.mem_of_getElem? (i := 20) rfl)
theorem zm_981 : Cond.selects R_Model y_Model_thrown y_Model_thrown ∈ wz := zc_32 (List.mem_of_getElem? (i := 21) rfl)
theorem zm_982 : Cond.code y_Model_thrown b_Model_thrown 1 (some .int) ∈ wz := zc_32 (List.mem_of_getElem? (i := 22) rfl)
theorem zm_983 : Cond.methodLink R_Law 76 y_Law_count ∈ wz := zc_32 (List.mem_of_getElem? (i := 23) rfl)
theorem zm_984 : Cond.static y_Law_count ∈ wz := zc_32 (List.mem_of_getElem? (i := 24) rfl)
theorem zm_985 : Cond.codeWith y_Law_count b_Law_count 4 (some .int) [(0, 9, 12, 29)] ∈ wz := zc_32 (List.mem_of_getElem? (i := 25) rfl)
theorem zm_986 : Cond.methodLink R_Law 78 y_Model_count ∈ wz := zc_32 (List.mem_of_getElem? (i := 26) rfl)
theorem zm_987 : Cond.instanceMethod y_Model_count ∈ wz := zc_32 (List.mem_of_getElem? (i := 27) rfl)
theorem zm_988 : Cond.selects R_Model y_Model_count y_Model_count ∈ wz := zc_32 (List.mem_of_getElem? (i := 28) rfl)
theorem zm_989 : Cond.code y_Model_count b_Model_count 2 (some .int) ∈ wz := zc_32 (List.mem_of_getElem? (i := 29) rfl)
theorem zm_990 : Cond.methodLink R_JS 633 y_JS_indexOf1 ∈ wz := zc_33 (List.mem_of_getElem? (i := 0) rfl)
theorem zm_991 : Cond.instanceMethod y_JS_indexOf1 ∈ wz := zc_33 (List.mem_of_getElem? (i := 1) rfl)
theorem zm_992 : Cond.selects R_JS y_JS_indexOf1 y_JS_indexOf1 ∈ wz := zc_33 (List.mem_of_getElem? (i := 2) rfl)
theorem zm_993 : Cond.code y_JS_indexOf1 b_JS_indexOf1 3 (some .int) ∈ wz := zc_33 (List.mem_of_getElem? (i := 3) rfl)
theorem zm_994 : Cond.methodLink R_JS 492 y_JS_isLatin1 ∈ wz := zc_33 (List.mem_of_getElem? (i := 4) rfl)
theorem zm_995 : Cond.instanceMethod y_JS_isLatin1 ∈ wz := zc_33 (List.mem_of_getElem? (i := 5) rfl)
theorem zm_996 : Cond.selects R_JS y_JS_isLatin1 y_JS_isLatin1 ∈ wz := zc_33 (List.mem_of_getElem? (i := 6) rfl)
theorem zm_997 : Cond.code y_JS_isLatin1 b_JS_isLatin1 1 (some .boolean) ∈ wz := zc_33 (List.mem_of_getElem? (i := 7) rfl)
theorem zm_998 : Cond.fieldLink R_JS 9 "java/lang/String" "value" "[B" ∈ wz := zc_33 (List.mem_of_getElem? (i := 8) rfl)
theorem zm_999 : Cond.methodLink R_JS 505 y_JS_length ∈ wz := zc_33 (List.mem_of_getElem? (i := 9) rfl)
theorem zm_1000 : Cond.instanceMethod y_JS_length ∈ wz := zc_33 (List.mem_of_getElem? (i := 10) rfl)
theorem zm_1001 : Cond.selects R_JS y_JS_length y_JS_length ∈ wz := zc_33 (List.mem_of_getElem? (i := 11) rfl)
theorem zm_1002 : Cond.code y_JS_length b_JS_length 1 (some .int) ∈ wz := zc_33 (List.mem_of_getElem? (i := 12) rfl)
theorem zm_1003 : Cond.methodLink R_JS 637 y_JL_indexOf ∈ wz := zc_33 (List.mem_of_getElem? (i := 13) rfl)
theorem zm_1004 : Cond.static y_JL_indexOf ∈ wz := zc_33 (List.mem_of_getElem? (i := 14) rfl)
theorem zm_1005 : Cond.initialized R_JL ∈ wz := zc_33 (List.mem_of_getElem? (i := 15) rfl)
theorem zm_1006 : Cond.code y_JL_indexOf b_JL_indexOf 4 (some .int) ∈ wz := zc_33 (List.mem_of_getElem? (i := 16) rfl)
theorem zm_1007 : Cond.fieldLink R_JS 15 "java/lang/String" "coder" "B" ∈ wz := zc_33 (List.mem_of_getElem? (i := 17) rfl)
theorem zm_1008 : Cond.fieldLink R_JS 38 "java/lang/String" "COMPACT_STRINGS" "Z" ∈ wz := zc_33 (List.mem_of_getElem? (i := 18) rfl)
theorem zm_1009 : Cond.methodLink R_JS 335 y_JS_coder ∈ wz := zc_33 (List.mem_of_getElem? (i := 19) rfl)
theorem zm_1010 : Cond.instanceMethod y_JS_coder ∈ wz := zc_33 (List.mem_of_getElem? (i := 20) rfl)
theorem zm_1011 : Cond.selects R_JS y_JS_coder y_JS_coder ∈ wz := zc_33 (List.mem_of_getElem? (i := 21) rfl)
theorem zm_1012 : Cond.code y_JS_coder b_JS_coder 1 (some (.byte)) ∈ wz := zc_33 (List.mem_of_getElem? (i := 22) rfl)
theorem zm_1013 : Cond.methodLink R_JL 88 y_JL_canEncode ∈ wz := zc_33 (List.mem_of_getElem? (i := 23) rfl)
theorem zm_1014 : Cond.static y_JL_canEncode ∈ wz := zc_33 (List.mem_of_getElem? (i := 24) rfl)
theorem zm_1015 : Cond.code y_JL_canEncode b_JL_canEncode 1 (some .boolean) ∈ wz := zc_33 (List.mem_of_getElem? (i := 25) rfl)
theorem zm_1016 : Cond.methodLink R_JL 95 y_JL_indexOfChar ∈ wz := zc_33 (List.mem_of_getElem? (i := 26) rfl)
theorem zm_1017 : Cond.static y_JL_indexOfChar ∈ wz := zc_33 (List.mem_of_getElem? (i := 27) rfl)
theorem zm_1018 : Cond.code y_JL_indexOfChar b_JL_indexOfChar 6 (some .int) ∈ wz := zc_33 (List.mem_of_getElem? (i := 28) rfl)
theorem zm_1019 : Cond.methodLink R_JL 38 Lib.Math.min.name ∈ wz := zc_33 (List.mem_of_getElem? (i := 29) rfl)
theorem zm_1020 : Cond.methodLink R_JL 92 Lib.Math.max.name ∈ wz := zc_34 (List.mem_of_getElem? (i := 0) rfl)
theorem zm_1021 : Cond.static Lib.Math.min.name ∈ wz := zc_34 (List.mem_of_getElem? (i := 1) rfl)
theorem zm_1022 : Cond.code Lib.Math.min.name Lib.Math.min.code 2 (some .int) ∈ wz := zc_34 (List.mem_of_getElem? (i := 2) rfl)
theorem zm_1023 : Cond.static Lib.Math.max.name ∈ wz := zc_34 (List.mem_of_getElem? (i := 3) rfl)
theorem zm_1024 : Cond.initialized "java/lang/Math" ∈ wz := zc_34 (List.mem_of_getElem? (i := 4) rfl)
theorem zm_1025 : Cond.code Lib.Math.max.name Lib.Math.max.code 2 (some .int) ∈ wz := zc_34 (List.mem_of_getElem? (i := 5) rfl)
theorem zm_1026 : Cond.classLink R_Law 13 xIAE ∈ wz := zc_34 (List.mem_of_getElem? (i := 6) rfl)
theorem zm_1027 : Cond.classLink R_Law 15 xISE ∈ wz := zc_34 (List.mem_of_getElem? (i := 7) rfl)
theorem zm_1028 : Cond.classLink R_Law 29 xIOB ∈ wz := zc_34 (List.mem_of_getElem? (i := 8) rfl)
theorem zm_1029 : Cond.laysFinal R_LF "LayoutFront" "text" "LLayoutFront$Text;" ∈ wz := zc_34 (List.mem_of_getElem? (i := 9) rfl)
theorem zm_1030 : Cond.laysFinal R_LF "LayoutFront" "fixities" "LLayoutFront$Fixities;" ∈ wz := zc_34 (List.mem_of_getElem? (i := 10) rfl)
theorem zm_1031 : Cond.laysFinal R_LF "LayoutFront" "cutter" "LLayoutFront$Cutter;" ∈ wz := zc_34 (List.mem_of_getElem? (i := 11) rfl)
theorem zm_1032 : Cond.laysFinal R_LF "LayoutFront" "blocks" "LLayoutFront$Blocks;" ∈ wz := zc_34 (List.mem_of_getElem? (i := 12) rfl)
theorem zm_1033 : Cond.laysFinal R_LF "LayoutFront" "rows" "LLayoutFront$Rows;" ∈ wz := zc_34 (List.mem_of_getElem? (i := 13) rfl)
theorem zm_1034 : Cond.laysFinal R_LF "LayoutFront" "tokens" "LLayoutFront$Tokens;" ∈ wz := zc_34 (List.mem_of_getElem? (i := 14) rfl)
theorem zm_1035 : Cond.laysFinal R_LF "LayoutFront" "counts" "[I" ∈ wz := zc_34 (List.mem_of_getElem? (i := 15) rfl)
theorem zm_1036 : Cond.lays R_LF "LayoutFront" "wrongPlace" "I" ∈ wz := zc_34 (List.mem_of_getElem? (i := 16) rfl)
theorem zm_1037 : Cond.lays R_Model "LayoutFrontModel" "thrown" "I" ∈ wz := zc_34 (List.mem_of_getElem? (i := 17) rfl)
theorem zm_1038 : Cond.lays R_Model "LayoutFrontModel" "length" "I" ∈ wz := zc_34 (List.mem_of_getElem? (i := 18) rfl)
theorem zm_1039 : Cond.laysFinal R_Model "LayoutFrontModel" "text" "[I" ∈ wz := zc_34 (List.mem_of_getElem? (i := 19) rfl)
theorem zm_1040 : Cond.lays R_Model "LayoutFrontModel" "bad" "I" ∈ wz := zc_34 (List.mem_of_getElem? (i := 20) rfl)
theorem zm_1041 : Cond.lays R_Model "LayoutFrontModel" "place" "I" ∈ wz := zc_34 (List.mem_of_getElem? (i := 21) rfl)
theorem zm_1042 : Cond.lays R_Model "LayoutFrontModel" "at" "I" ∈ wz := zc_34 (List.mem_of_getElem? (i := 22) rfl)
theorem zm_1043 : Cond.lays R_Model "LayoutFrontModel" "lexemes" "I" ∈ wz := zc_34 (List.mem_of_getElem? (i := 23) rfl)
theorem zm_1044 : Cond.laysFinal R_Model "LayoutFrontModel" "kind" "[I" ∈ wz := zc_34 (List.mem_of_getElem? (i := 24) rfl)
theorem zm_1045 : Cond.laysFinal R_Model "LayoutFrontModel" "value" "[J" ∈ wz := zc_34 (List.mem_of_getElem? (i := 25) rfl)
theorem zm_1046 : Cond.laysFinal R_Model "LayoutFrontModel" "where" "[I" ∈ wz := zc_34 (List.mem_of_getElem? (i := 26) rfl)
theorem zm_1047 : Cond.laysFinal R_Model "LayoutFrontModel" "column" "[I" ∈ wz := zc_34 (List.mem_of_getElem? (i := 27) rfl)
theorem zm_1048 : Cond.laysFinal R_Model "LayoutFrontModel" "leads" "[Z" ∈ wz := zc_34 (List.mem_of_getElem? (i := 28) rfl)
theorem zm_1049 : Cond.lays R_Model "LayoutFrontModel" "open" "I" ∈ wz := zc_34 (List.mem_of_getElem? (i := 29) rfl)
theorem zm_1050 : Cond.lays R_Model "LayoutFrontModel" "highest" "I" ∈ wz := zc_35 (List.mem_of_getElem? (i := 0) rfl)
theorem zm_1051 : Cond.laysFinal R_Model "LayoutFrontModel" "row" "[I" ∈ wz := zc_35 (List.mem_of_getElem? (i := 1) rfl)
theorem zm_1052 : Cond.lays R_Model "LayoutFrontModel" "tokens" "I" ∈ wz := zc_35 (List.mem_of_getElem? (i := 2) rfl)
theorem zm_1053 : Cond.lays R_Model "LayoutFrontModel" "blocks" "I" ∈ wz := zc_35 (List.mem_of_getElem? (i := 3) rfl)
theorem zm_1054 : Cond.laysFinal R_Model "LayoutFrontModel" "sort" "[I" ∈ wz := zc_35 (List.mem_of_getElem? (i := 4) rfl)
theorem zm_1055 : Cond.laysFinal R_Model "LayoutFrontModel" "is" "[J" ∈ wz := zc_35 (List.mem_of_getElem? (i := 5) rfl)
theorem zm_1056 : Cond.laysFinal R_Model "LayoutFrontModel" "before" "[I" ∈ wz := zc_35 (List.mem_of_getElem? (i := 6) rfl)
theorem zm_1057 : Cond.laysFinal R_Model "LayoutFrontModel" "behind" "[I" ∈ wz := zc_35 (List.mem_of_getElem? (i := 7) rfl)
theorem zm_1058 : Cond.laysFinal R_Model "LayoutFrontModel" "partner" "[I" ∈ wz := zc_35 (List.mem_of_getElem? (i := 8) rfl)
theorem zm_1059 : Cond.laysFinal R_Model "LayoutFrontModel" "done" "[Z" ∈ wz := zc_35 (List.mem_of_getElem? (i := 9) rfl)
theorem zm_1060 : Cond.lays R_Model "LayoutFrontModel" "all" "I" ∈ wz := zc_35 (List.mem_of_getElem? (i := 10) rfl)
theorem zm_1061 : Cond.laysFinal R_Model "LayoutFrontModel" "kinds" "[I" ∈ wz := zc_35 (List.mem_of_getElem? (i := 11) rfl)
theorem zm_1062 : Cond.laysFinal R_Model "LayoutFrontModel" "values" "[J" ∈ wz := zc_35 (List.mem_of_getElem? (i := 12) rfl)
theorem zm_1063 : Cond.lays R_Model "LayoutFrontModel" "told" "I" ∈ wz := zc_35 (List.mem_of_getElem? (i := 13) rfl)
theorem zm_1064 : Cond.lays R_Model "LayoutFrontModel" "toldBlocks" "I" ∈ wz := zc_35 (List.mem_of_getElem? (i := 14) rfl)
theorem zm_1065 : Cond.lays R_Model "LayoutFrontModel" "toldRows" "I" ∈ wz := zc_35 (List.mem_of_getElem? (i := 15) rfl)
theorem zm_1066 : Cond.lays R_Model "LayoutFrontModel" "toldConflicts" "I" ∈ wz := zc_35 (List.mem_of_getElem? (i := 16) rfl)
theorem zm_1067 : Cond.lays R_Model "LayoutFrontModel" "toldHighest" "I" ∈ wz := zc_35 (List.mem_of_getElem? (i := 17) rfl)
theorem zm_1068 : Cond.lays R_Model "LayoutFrontModel" "set" "I" ∈ wz := zc_35 (List.mem_of_getElem? (i := 18) rfl)
theorem zm_1069 : Cond.laysFinal R_Model "LayoutFrontModel" "names" "[J" ∈ wz := zc_35 (List.mem_of_getElem? (i := 19) rfl)
theorem zm_1070 : Cond.laysFinal R_Model "LayoutFrontModel" "sides" "[I" ∈ wz := zc_35 (List.mem_of_getElem? (i := 20) rfl)
theorem zm_1071 : Cond.laysFinal R_Model "LayoutFrontModel" "levels" "[I" ∈ wz := zc_35 (List.mem_of_getElem? (i := 21) rfl)
theorem zm_1072 : Cond.lays R_Model "LayoutFrontModel" "items" "I" ∈ wz := zc_35 (List.mem_of_getElem? (i := 22) rfl)
theorem zm_1073 : Cond.lays R_Model "LayoutFrontModel" "operands" "I" ∈ wz := zc_35 (List.mem_of_getElem? (i := 23) rfl)
theorem zm_1074 : Cond.lays R_Model "LayoutFrontModel" "waiting" "I" ∈ wz := zc_35 (List.mem_of_getElem? (i := 24) rfl)
theorem zm_1075 : Cond.lays R_Model "LayoutFrontModel" "pairs" "I" ∈ wz := zc_35 (List.mem_of_getElem? (i := 25) rfl)
theorem zm_1076 : Cond.lays R_Model "LayoutFrontModel" "rows" "I" ∈ wz := zc_35 (List.mem_of_getElem? (i := 26) rfl)
theorem zm_1077 : Cond.lays R_Model "LayoutFrontModel" "conflicts" "I" ∈ wz := zc_35 (List.mem_of_getElem? (i := 27) rfl)
theorem zm_1078 : Cond.laysFinal R_Model "LayoutFrontModel" "from" "[I" ∈ wz := zc_35 (List.mem_of_getElem? (i := 28) rfl)
theorem zm_1079 : Cond.laysFinal R_Model "LayoutFrontModel" "to" "[I" ∈ wz := zc_35 (List.mem_of_getElem? (i := 29) rfl)
theorem zm_1080 : Cond.laysFinal R_Model "LayoutFrontModel" "what" "[I" ∈ wz := zc_36 (List.mem_of_getElem? (i := 0) rfl)
theorem zm_1081 : Cond.laysFinal R_Model "LayoutFrontModel" "left" "[I" ∈ wz := zc_36 (List.mem_of_getElem? (i := 1) rfl)
theorem zm_1082 : Cond.laysFinal R_Model "LayoutFrontModel" "right" "[I" ∈ wz := zc_36 (List.mem_of_getElem? (i := 2) rfl)
theorem zm_1083 : Cond.laysFinal R_Model "LayoutFrontModel" "waits" "[I" ∈ wz := zc_36 (List.mem_of_getElem? (i := 3) rfl)
theorem zm_1084 : Cond.laysFinal R_Model "LayoutFrontModel" "opens" "[I" ∈ wz := zc_36 (List.mem_of_getElem? (i := 4) rfl)
theorem zm_1085 : Cond.laysFinal R_Model "LayoutFrontModel" "closes" "[I" ∈ wz := zc_36 (List.mem_of_getElem? (i := 5) rfl)
theorem zm_1086 : Cond.laysFinal R_Model "LayoutFrontModel" "waitsFor" "[I" ∈ wz := zc_36 (List.mem_of_getElem? (i := 6) rfl)
theorem zm_1087 : Cond.laysFinal R_Blocks "LayoutFront$Blocks" "open" "LLayoutFront$Open;" ∈ wz := zc_36 (List.mem_of_getElem? (i := 7) rfl)
theorem zm_1088 : Cond.laysFinal R_Blocks "LayoutFront$Blocks" "laid" "LLayoutFront$Tokens;" ∈ wz := zc_36 (List.mem_of_getElem? (i := 8) rfl)
theorem zm_1089 : Cond.lays R_Blocks "LayoutFront$Blocks" "begun" "I" ∈ wz := zc_36 (List.mem_of_getElem? (i := 9) rfl)
theorem zm_1090 : Cond.laysFinal R_Cutter "LayoutFront$Cutter" "lexemes" "LLayoutFront$Lexemes;" ∈ wz := zc_36 (List.mem_of_getElem? (i := 10) rfl)
theorem zm_1091 : Cond.lays R_Cutter "LayoutFront$Cutter" "at" "I" ∈ wz := zc_36 (List.mem_of_getElem? (i := 11) rfl)
theorem zm_1092 : Cond.lays R_Cutter "LayoutFront$Cutter" "lineStart" "I" ∈ wz := zc_36 (List.mem_of_getElem? (i := 12) rfl)
theorem zm_1093 : Cond.lays R_Cutter "LayoutFront$Cutter" "lineIsFresh" "Z" ∈ wz := zc_36 (List.mem_of_getElem? (i := 13) rfl)
theorem zm_1094 : Cond.lays R_Cutter "LayoutFront$Cutter" "wrongPlace" "I" ∈ wz := zc_36 (List.mem_of_getElem? (i := 14) rfl)
theorem zm_1095 : Cond.lays R_Cutter "LayoutFront$Cutter" "tooMany" "Z" ∈ wz := zc_36 (List.mem_of_getElem? (i := 15) rfl)
theorem zm_1096 : Cond.laysFinal R_Fixities "LayoutFront$Fixities" "names" "[J" ∈ wz := zc_36 (List.mem_of_getElem? (i := 16) rfl)
theorem zm_1097 : Cond.laysFinal R_Fixities "LayoutFront$Fixities" "sides" "[I" ∈ wz := zc_36 (List.mem_of_getElem? (i := 17) rfl)
theorem zm_1098 : Cond.laysFinal R_Fixities "LayoutFront$Fixities" "levels" "[I" ∈ wz := zc_36 (List.mem_of_getElem? (i := 18) rfl)
theorem zm_1099 : Cond.lays R_Fixities "LayoutFront$Fixities" "size" "I" ∈ wz := zc_36 (List.mem_of_getElem? (i := 19) rfl)
theorem zm_1100 : Cond.laysFinal R_Lexemes "LayoutFront$Lexemes" "tokens" "LLayoutFront$Tokens;" ∈ wz := zc_36 (List.mem_of_getElem? (i := 20) rfl)
theorem zm_1101 : Cond.laysFinal R_Lexemes "LayoutFront$Lexemes" "places" "[I" ∈ wz := zc_36 (List.mem_of_getElem? (i := 21) rfl)
theorem zm_1102 : Cond.laysFinal R_Lexemes "LayoutFront$Lexemes" "columns" "[I" ∈ wz := zc_36 (List.mem_of_getElem? (i := 22) rfl)
theorem zm_1103 : Cond.laysFinal R_Lexemes "LayoutFront$Lexemes" "lineFirsts" "[Z" ∈ wz := zc_36 (List.mem_of_getElem? (i := 23) rfl)
theorem zm_1104 : Cond.laysFinal R_Open "LayoutFront$Open" "things" "[I" ∈ wz := zc_36 (List.mem_of_getElem? (i := 24) rfl)
theorem zm_1105 : Cond.lays R_Open "LayoutFront$Open" "size" "I" ∈ wz := zc_36 (List.mem_of_getElem? (i := 25) rfl)
theorem zm_1106 : Cond.lays R_Open "LayoutFront$Open" "most" "I" ∈ wz := zc_36 (List.mem_of_getElem? (i := 26) rfl)
theorem zm_1107 : Cond.laysFinal R_Resolver "LayoutFront$Resolver" "pairFirsts" "[I" ∈ wz := zc_36 (List.mem_of_getElem? (i := 27) rfl)
theorem zm_1108 : Cond.laysFinal R_Resolver "LayoutFront$Resolver" "pairLasts" "[I" ∈ wz := zc_36 (List.mem_of_getElem? (i := 28) rfl)
theorem zm_1109 : Cond.lays R_Resolver "LayoutFront$Resolver" "pairs" "I" ∈ wz := zc_36 (List.mem_of_getElem? (i := 29) rfl)
theorem zm_1110 : Cond.lays R_Resolver "LayoutFront$Resolver" "pairsBefore" "I" ∈ wz := zc_37 (List.mem_of_getElem? (i := 0) rfl)
theorem zm_1111 : Cond.laysFinal R_Resolver "LayoutFront$Resolver" "firsts" "[I" ∈ wz := zc_37 (List.mem_of_getElem? (i := 1) rfl)
theorem zm_1112 : Cond.laysFinal R_Resolver "LayoutFront$Resolver" "lasts" "[I" ∈ wz := zc_37 (List.mem_of_getElem? (i := 2) rfl)
theorem zm_1113 : Cond.lays R_Resolver "LayoutFront$Resolver" "operands" "I" ∈ wz := zc_37 (List.mem_of_getElem? (i := 3) rfl)
theorem zm_1114 : Cond.laysFinal R_Resolver "LayoutFront$Resolver" "levels" "[I" ∈ wz := zc_37 (List.mem_of_getElem? (i := 4) rfl)
theorem zm_1115 : Cond.laysFinal R_Resolver "LayoutFront$Resolver" "sides" "[I" ∈ wz := zc_37 (List.mem_of_getElem? (i := 5) rfl)
theorem zm_1116 : Cond.laysFinal R_Resolver "LayoutFront$Resolver" "minusPlaces" "[I" ∈ wz := zc_37 (List.mem_of_getElem? (i := 6) rfl)
theorem zm_1117 : Cond.lays R_Resolver "LayoutFront$Resolver" "waiting" "I" ∈ wz := zc_37 (List.mem_of_getElem? (i := 7) rfl)
theorem zm_1118 : Cond.laysFinal R_Row "LayoutFront$Row" "parts" "[I" ∈ wz := zc_37 (List.mem_of_getElem? (i := 8) rfl)
theorem zm_1119 : Cond.laysFinal R_Row "LayoutFront$Row" "firsts" "[I" ∈ wz := zc_37 (List.mem_of_getElem? (i := 9) rfl)
theorem zm_1120 : Cond.laysFinal R_Row "LayoutFront$Row" "lasts" "[I" ∈ wz := zc_37 (List.mem_of_getElem? (i := 10) rfl)
theorem zm_1121 : Cond.lays R_Row "LayoutFront$Row" "size" "I" ∈ wz := zc_37 (List.mem_of_getElem? (i := 11) rfl)
theorem zm_1122 : Cond.lays R_Row "LayoutFront$Row" "operates" "Z" ∈ wz := zc_37 (List.mem_of_getElem? (i := 12) rfl)
theorem zm_1123 : Cond.lays R_Row "LayoutFront$Row" "lacksOperand" "Z" ∈ wz := zc_37 (List.mem_of_getElem? (i := 13) rfl)
theorem zm_1124 : Cond.laysFinal R_Rows "LayoutFront$Rows" "closers" "[I" ∈ wz := zc_37 (List.mem_of_getElem? (i := 14) rfl)
theorem zm_1125 : Cond.laysFinal R_Rows "LayoutFront$Rows" "openers" "[I" ∈ wz := zc_37 (List.mem_of_getElem? (i := 15) rfl)
theorem zm_1126 : Cond.laysFinal R_Rows "LayoutFront$Rows" "opened" "[I" ∈ wz := zc_37 (List.mem_of_getElem? (i := 16) rfl)
theorem zm_1127 : Cond.laysFinal R_Rows "LayoutFront$Rows" "closed" "[I" ∈ wz := zc_37 (List.mem_of_getElem? (i := 17) rfl)
theorem zm_1128 : Cond.laysFinal R_Rows "LayoutFront$Rows" "row" "LLayoutFront$Row;" ∈ wz := zc_37 (List.mem_of_getElem? (i := 18) rfl)
theorem zm_1129 : Cond.laysFinal R_Rows "LayoutFront$Rows" "resolver" "LLayoutFront$Resolver;" ∈ wz := zc_37 (List.mem_of_getElem? (i := 19) rfl)
theorem zm_1130 : Cond.lays R_Rows "LayoutFront$Rows" "together" "I" ∈ wz := zc_37 (List.mem_of_getElem? (i := 20) rfl)
theorem zm_1131 : Cond.lays R_Rows "LayoutFront$Rows" "inConflict" "I" ∈ wz := zc_37 (List.mem_of_getElem? (i := 21) rfl)
theorem zm_1132 : Cond.laysFinal R_Text "LayoutFront$Text" "characters" "[C" ∈ wz := zc_37 (List.mem_of_getElem? (i := 22) rfl)
theorem zm_1133 : Cond.lays R_Text "LayoutFront$Text" "length" "I" ∈ wz := zc_37 (List.mem_of_getElem? (i := 23) rfl)
theorem zm_1134 : Cond.laysFinal R_Tokens "LayoutFront$Tokens" "kinds" "[I" ∈ wz := zc_37 (List.mem_of_getElem? (i := 24) rfl)
theorem zm_1135 : Cond.laysFinal R_Tokens "LayoutFront$Tokens" "values" "[J" ∈ wz := zc_37 (List.mem_of_getElem? (i := 25) rfl)
theorem zm_1136 : Cond.lays R_Tokens "LayoutFront$Tokens" "size" "I" ∈ wz := zc_37 (List.mem_of_getElem? (i := 26) rfl)
theorem zg_0 : wz_0.all goodWord = true := by decide +kernel
theorem zg_1 : wz_1.all goodWord = true := by decide +kernel
theorem zg_2 : wz_2.all goodWord = true := by decide +kernel
theorem zg_3 : wz_3.all goodWord = true := by decide +kernel
theorem zg_4 : wz_4.all goodWord = true := by decide +kernel
theorem zg_5 : wz_5.all goodWord = true := by decide +kernel
theorem zg_6 : wz_6.all goodWord = true := by decide +kernel
theorem zg_7 : wz_7.all goodWord = true := by decide +kernel
theorem zg_8 : wz_8.all goodWord = true := by decide +kernel
theorem zg_9 : wz_9.all goodWord = true := by decide +kernel
theorem zg_10 : wz_10.all goodWord = true := by decide +kernel
theorem zg_11 : wz_11.all goodWord = true := by decide +kernel
theorem zg_12 : wz_12.all goodWord = true := by decide +kernel
theorem zg_13 : wz_13.all goodWord = true := by decide +kernel
theorem zg_14 : wz_14.all goodWord = true := by decide +kernel
theorem zg_15 : wz_15.all goodWord = true := by decide +kernel
theorem zg_16 : wz_16.all goodWord = true := by decide +kernel
theorem zg_17 : wz_17.all goodWord = true := by decide +kernel
theorem zg_18 : wz_18.all goodWord = true := by decide +kernel
theorem zg_19 : wz_19.all goodWord = true := by decide +kernel
theorem zg_20 : wz_20.all goodWord = true := by decide +kernel
theorem zg_21 : wz_21.all goodWord = true := by decide +kernel
theorem zg_22 : wz_22.all goodWord = true := by decide +kernel
theorem zg_23 : wz_23.all goodWord = true := by decide +kernel
theorem zg_24 : wz_24.all goodWord = true := by decide +kernel
theorem zg_25 : wz_25.all goodWord = true := by decide +kernel
theorem zg_26 : wz_26.all goodWord = true := by decide +kernel
theorem zg_27 : wz_27.all goodWord = true := by decide +kernel
theorem zg_28 : wz_28.all goodWord = true := by decide +kernel
theorem zg_29 : wz_29.all goodWord = true := by decide +kernel
theorem zg_30 : wz_30.all goodWord = true := by decide +kernel
theorem zg_31 : wz_31.all goodWord = true := by decide +kernel
theorem zg_32 : wz_32.all goodWord = true := by decide +kernel
theorem zg_33 : wz_33.all goodWord = true := by decide +kernel
theorem zg_34 : wz_34.all goodWord = true := by decide +kernel
theorem zg_35 : wz_35.all goodWord = true := by decide +kernel
theorem zg_36 : wz_36.all goodWord = true := by decide +kernel
theorem zg_37 : wz_37.all goodWord = true := by decide +kernel
theorem zg_38 : wz_38.all goodWord = true := by decide +kernel
theorem zx {w : Cond} (h : w ∈ xat) (hg : goodWord w = true) : w ∈ wz := zc_38 (List.mem_filter.mpr ⟨h, hg⟩)
theorem zgood : GoodIn wz wz := fun w h => ⟨h, good_of_word (by
  unfold wz at h
  rcases List.mem_append.mp h with h | h
  · exact List.all_eq_true.mp zg_0 w h
  rcases List.mem_append.mp h with h | h
  · exact List.all_eq_true.mp zg_1 w h
  rcases List.mem_append.mp h with h | h
  · exact List.all_eq_true.mp zg_2 w h
  rcases List.mem_append.mp h with h | h
  · exact List.all_eq_true.mp zg_3 w h
  rcases List.mem_append.mp h with h | h
  · exact List.all_eq_true.mp zg_4 w h
  rcases List.mem_append.mp h with h | h
  · exact List.all_eq_true.mp zg_5 w h
  rcases List.mem_append.mp h with h | h
  · exact List.all_eq_true.mp zg_6 w h
  rcases List.mem_append.mp h with h | h
  · exact List.all_eq_true.mp zg_7 w h
  rcases List.mem_append.mp h with h | h
  · exact List.all_eq_true.mp zg_8 w h
  rcases List.mem_append.mp h with h | h
  · exact List.all_eq_true.mp zg_9 w h
  rcases List.mem_append.mp h with h | h
  · exact List.all_eq_true.mp zg_10 w h
  rcases List.mem_append.mp h with h | h
  · exact List.all_eq_true.mp zg_11 w h
  rcases List.mem_append.mp h with h | h
  · exact List.all_eq_true.mp zg_12 w h
  rcases List.mem_append.mp h with h | h
  · exact List.all_eq_true.mp zg_13 w h
  rcases List.mem_append.mp h with h | h
  · exact List.all_eq_true.mp zg_14 w h
  rcases List.mem_append.mp h with h | h
  · exact List.all_eq_true.mp zg_15 w h
  rcases List.mem_append.mp h with h | h
  · exact List.all_eq_true.mp zg_16 w h
  rcases List.mem_append.mp h with h | h
  · exact List.all_eq_true.mp zg_17 w h
  rcases List.mem_append.mp h with h | h
  · exact List.all_eq_true.mp zg_18 w h
  rcases List.mem_append.mp h with h | h
  · exact List.all_eq_true.mp zg_19 w h
  rcases List.mem_append.mp h with h | h
  · exact List.all_eq_true.mp zg_20 w h
  rcases List.mem_append.mp h with h | h
  · exact List.all_eq_true.mp zg_21 w h
  rcases List.mem_append.mp h with h | h
  · exact List.all_eq_true.mp zg_22 w h
  rcases List.mem_append.mp h with h | h
  · exact List.all_eq_true.mp zg_23 w h
  rcases List.mem_append.mp h with h | h
  · exact List.all_eq_true.mp zg_24 w h
  rcases List.mem_append.mp h with h | h
  · exact List.all_eq_true.mp zg_25 w h
  rcases List.mem_append.mp h with h | h
  · exact List.all_eq_true.mp zg_26 w h
  rcases List.mem_append.mp h with h | h
  · exact List.all_eq_true.mp zg_27 w h
  rcases List.mem_append.mp h with h | h
  · exact List.all_eq_true.mp zg_28 w h
  rcases List.mem_append.mp h with h | h
  · exact List.all_eq_true.mp zg_29 w h
  rcases List.mem_append.mp h with h | h
  · exact List.all_eq_true.mp zg_30 w h
  rcases List.mem_append.mp h with h | h
  · exact List.all_eq_true.mp zg_31 w h
  rcases List.mem_append.mp h with h | h
  · exact List.all_eq_true.mp zg_32 w h
  rcases List.mem_append.mp h with h | h
  · exact List.all_eq_true.mp zg_33 w h
  rcases List.mem_append.mp h with h | h
  · exact List.all_eq_true.mp zg_34 w h
  rcases List.mem_append.mp h with h | h
  · exact List.all_eq_true.mp zg_35 w h
  rcases List.mem_append.mp h with h | h
  · exact List.all_eq_true.mp zg_36 w h
  rcases List.mem_append.mp h with h | h
  · exact List.all_eq_true.mp zg_37 w h
  exact List.all_eq_true.mp zg_38 w h)⟩
theorem zI {y : MethodName} {b : ByteArray} {n : Nat} {r : Option FieldType} (h : Cond.code y b n r ∈ wz) : GoodIn wz (Cond.code y b n r :: wz) := fun w hw => (List.mem_cons.mp hw).elim (fun e => by rw [e]; exact zgood _ h) (zgood w)
theorem zV {own C : String} {k n : Nat} {y : MethodName} {b : ByteArray} {r : Option FieldType} (h1 : Cond.methodLink own k y ∈ wz) (h2 : Cond.instanceMethod y ∈ wz) (h3 : Cond.selects C y y ∈ wz) (h4 : Cond.initialized C ∈ wz) (h : Cond.code y b n r ∈ wz) : GoodIn wz (wsV own k C y (Cond.code y b n r :: wz)) := by
  intro w hw
  unfold wsV at hw
  rcases List.mem_append.mp hw with hw | hw
  · simp only [List.mem_cons, List.not_mem_nil, or_false] at hw
    rcases hw with rfl | rfl | rfl | rfl
    · exact zgood _ h1
    · exact zgood _ h2
    · exact zgood _ h3
    · exact zgood _ h4
  · exact zI h w hw
theorem zS {own : String} {k n : Nat} {y : MethodName} {b : ByteArray} {r : Option FieldType} (h1 : Cond.methodLink own k y ∈ wz) (h2 : Cond.static y ∈ wz) (h4 : Cond.initialized own ∈ wz) (h : Cond.code y b n r ∈ wz) : GoodIn wz (wsS own k y (Cond.code y b n r :: wz)) := by
  intro w hw
  unfold wsS at hw
  rcases List.mem_append.mp hw with hw | hw
  · simp only [List.mem_cons, List.not_mem_nil, or_false] at hw
    rcases hw with rfl | rfl | rfl
    · exact zgood _ h1
    · exact zgood _ h2
    · exact zgood _ h4
  · exact zI h w hw
theorem zT {own : String} {k n : Nat} {y : MethodName} {b : ByteArray} {r : Option FieldType} (h1 : Cond.methodLink own k y ∈ wz) (h2 : Cond.static y ∈ wz) (h4 : Cond.initialized y.cls ∈ wz) (h : Cond.code y b n r ∈ wz) : GoodIn wz (va_wsS own k y (Cond.code y b n r :: wz)) := by
  intro w hw
  unfold va_wsS at hw
  rcases List.mem_append.mp hw with hw | hw
  · simp only [List.mem_cons, List.not_mem_nil, or_false] at hw
    rcases hw with rfl | rfl | rfl
    · exact zgood _ h1
    · exact zgood _ h2
    · exact zgood _ h4
  · exact zI h w hw
theorem zu_LF : ∀ w ∈ u_ws R_LF F_LF 8, w ∈ wz := by decide +kernel
theorem zu_Model : ∀ w ∈ u_ws R_Model F_Model 50, w ∈ wz := by decide +kernel
theorem zu_Blocks : ∀ w ∈ u_ws R_Blocks F_Blocks 3, w ∈ wz := by decide +kernel
theorem zu_Cutter : ∀ w ∈ u_ws R_Cutter F_Cutter 6, w ∈ wz := by decide +kernel
theorem zu_Fixities : ∀ w ∈ u_ws R_Fixities F_Fixities 4, w ∈ wz := by decide +kernel
theorem zu_Lexemes : ∀ w ∈ u_ws R_Lexemes F_Lexemes 4, w ∈ wz := by decide +kernel
theorem zu_Open : ∀ w ∈ u_ws R_Open F_Open 3, w ∈ wz := by decide +kernel
theorem zu_Resolver : ∀ w ∈ u_ws R_Resolver F_Resolver 11, w ∈ wz := by decide +kernel
theorem zu_Row : ∀ w ∈ u_ws R_Row F_Row 6, w ∈ wz := by decide +kernel
theorem zu_Rows : ∀ w ∈ u_ws R_Rows F_Rows 8, w ∈ wz := by decide +kernel
theorem zu_Text : ∀ w ∈ u_ws R_Text F_Text 2, w ∈ wz := by decide +kernel
theorem zu_Tokens : ∀ w ∈ u_ws R_Tokens F_Tokens 3, w ∈ wz := by decide +kernel
def w_LF_init : List Cond := .code y_LF_init b_LF_init 1 none :: wz
def w_LF_write : List Cond := .code y_LF_write b_LF_write 4 (some .int) :: wz
def w_LF_erase : List Cond := .code y_LF_erase b_LF_erase 2 (some .int) :: wz
def w_LF_fixity : List Cond := .code y_LF_fixity b_LF_fixity 5 (some .int) :: wz
def w_LF_read : List Cond := .code y_LF_read b_LF_read 1 (some .int) :: wz
def w_LF_keepCounts : List Cond := .code y_LF_keepCounts b_LF_keepCounts 1 none :: wz
def w_LF_place : List Cond := .code y_LF_place b_LF_place 1 (some .int) :: wz
def w_LF_kind : List Cond := .code y_LF_kind b_LF_kind 2 (some .int) :: wz
def w_LF_token : List Cond := .code y_LF_token b_LF_token 2 (some .long) :: wz
def w_LF_count : List Cond := .code y_LF_count b_LF_count 2 (some .int) :: wz
def w_Model_init : List Cond := .code y_Model_init b_Model_init 1 none :: wz
def w_Model_thrown : List Cond := .code y_Model_thrown b_Model_thrown 1 (some .int) :: wz
def w_Model_fail : List Cond := .code y_Model_fail b_Model_fail 2 (some .int) :: wz
def w_Model_within : List Cond := .code y_Model_within b_Model_within 3 (some .boolean) :: wz
def w_Model_write : List Cond := .code y_Model_write b_Model_write 7 (some .int) :: wz
def w_Model_erase : List Cond := .code y_Model_erase b_Model_erase 2 (some .int) :: wz
def w_Model_find : List Cond := .code y_Model_find b_Model_find 5 (some .int) :: wz
def w_Model_fixity : List Cond := .code y_Model_fixity b_Model_fixity 6 (some .int) :: wz
def w_Model_here : List Cond := .code y_Model_here b_Model_here 1 (some .int) :: wz
def w_Model_letter : List Cond := .code y_Model_letter b_Model_letter 1 (some .boolean) :: wz
def w_Model_digit : List Cond := .code y_Model_digit b_Model_digit 1 (some .boolean) :: wz
def w_Model_operator : List Cond := .code y_Model_operator b_Model_operator 1 (some .boolean) :: wz
def w_Model_sign : List Cond := .code y_Model_sign b_Model_sign 1 (some .boolean) :: wz
def w_Model_wrong : List Cond := .code y_Model_wrong b_Model_wrong 3 none :: wz
def w_Model_run : List Cond := .code y_Model_run b_Model_run 5 (some .int) :: wz
def w_Model_dashes : List Cond := .code y_Model_dashes b_Model_dashes 4 (some .boolean) :: wz
def w_Model_nested : List Cond := .code y_Model_nested b_Model_nested 6 none :: wz
def w_Model_packed : List Cond := .code y_Model_packed b_Model_packed 5 (some .long) :: wz
def w_Model_lexeme : List Cond := .code y_Model_lexeme b_Model_lexeme 7 none :: wz
def w_Model_cut : List Cond := .code y_Model_cut b_Model_cut 2 none :: wz
def w_Model_word : List Cond := .code y_Model_word b_Model_word 2 (some .boolean) :: wz
def w_Model_emit : List Cond := .code y_Model_emit b_Model_emit 4 none :: wz
def w_Model_push : List Cond := .code y_Model_push b_Model_push 2 none :: wz
def w_Model_top : List Cond := .code y_Model_top b_Model_top 1 (some .int) :: wz
def w_Model_belowLets : List Cond := .code y_Model_belowLets b_Model_belowLets 2 (some .int) :: wz
def w_Model_dropLets : List Cond := .code y_Model_dropLets b_Model_dropLets 1 none :: wz
def w_Model_mark : List Cond := .code y_Model_mark b_Model_mark 2 none :: wz
def w_Model_leave : List Cond := .code y_Model_leave b_Model_leave 2 none :: wz
def w_Model_closes : List Cond := .code y_Model_closes b_Model_closes 4 none :: wz
def w_Model_comma : List Cond := .code y_Model_comma b_Model_comma 2 none :: wz
def w_Model_signs : List Cond := .code y_Model_signs b_Model_signs 4 none :: wz
def w_Model_words : List Cond := .code y_Model_words b_Model_words 4 none :: wz
def w_Model_begins : List Cond := .code y_Model_begins b_Model_begins 3 (some .boolean) :: wz
def w_Model_begin : List Cond := .code y_Model_begin b_Model_begin 4 none :: wz
def w_Model_lay : List Cond := .code y_Model_lay b_Model_lay 2 none :: wz
def w_Model_reserved : List Cond := .code y_Model_reserved b_Model_reserved 2 (some .boolean) :: wz
def w_Model_partners : List Cond := .code y_Model_partners b_Model_partners 5 none :: wz
def w_Model_plainName : List Cond := .code y_Model_plainName b_Model_plainName 2 (some .boolean) :: wz
def w_Model_tick : List Cond := .code y_Model_tick b_Model_tick 2 (some .boolean) :: wz
def w_Model_extent : List Cond := .code y_Model_extent b_Model_extent 2 (some .int) :: wz
def w_Model_operation : List Cond := .code y_Model_operation b_Model_operation 2 (some .boolean) :: wz
def w_Model_core : List Cond := .code y_Model_core b_Model_core 2 (some .int) :: wz
def w_Model_dash : List Cond := .code y_Model_dash b_Model_dash 2 (some .boolean) :: wz
def w_Model_collect : List Cond := .code y_Model_collect b_Model_collect 6 none :: wz
def w_Model_regular : List Cond := .code y_Model_regular b_Model_regular 5 (some .boolean) :: wz
def w_Model_fixed : List Cond := .code y_Model_fixed b_Model_fixed 2 (some .int) :: wz
def w_Model_level : List Cond := .code y_Model_level b_Model_level 2 (some .int) :: wz
def w_Model_side : List Cond := .code y_Model_side b_Model_side 2 (some .int) :: wz
def w_Model_apply : List Cond := .code y_Model_apply b_Model_apply 4 none :: wz
def w_Model_comes : List Cond := .code y_Model_comes b_Model_comes 5 (some .boolean) :: wz
def w_Model_put : List Cond := .code y_Model_put b_Model_put 3 none :: wz
def w_Model_around : List Cond := .code y_Model_around b_Model_around 2 none :: wz
def w_Model_add : List Cond := .code y_Model_add b_Model_add 4 none :: wz
def w_Model_read : List Cond := .code y_Model_read b_Model_read 3 (some .int) :: wz
def w_Model_place : List Cond := .code y_Model_place b_Model_place 1 (some .int) :: wz
def w_Model_kind : List Cond := .code y_Model_kind b_Model_kind 2 (some .int) :: wz
def w_Model_token : List Cond := .code y_Model_token b_Model_token 2 (some .long) :: wz
def w_Model_count : List Cond := .code y_Model_count b_Model_count 2 (some .int) :: wz
def w_Blocks_init : List Cond := .code y_Blocks_init b_Blocks_init 1 none :: wz
def w_Blocks_laid : List Cond := .code y_Blocks_laid b_Blocks_laid 1 (some (.object "LayoutFront$Tokens")) :: wz
def w_Blocks_begun : List Cond := .code y_Blocks_begun b_Blocks_begun 1 (some .int) :: wz
def w_Blocks_mostOpen : List Cond := .code y_Blocks_mostOpen b_Blocks_mostOpen 1 (some .int) :: wz
def w_Blocks_lay : List Cond := .code y_Blocks_lay b_Blocks_lay 8 (some .int) :: wz
def w_Blocks_putBefore : List Cond := .code y_Blocks_putBefore b_Blocks_putBefore 3 none :: wz
def w_Blocks_beginsBlock : List Cond := .code y_Blocks_beginsBlock b_Blocks_beginsBlock 2 (some .boolean) :: wz
def w_Blocks_begin : List Cond := .code y_Blocks_begin b_Blocks_begin 2 none :: wz
def w_Blocks_mark : List Cond := .code y_Blocks_mark b_Blocks_mark 3 none :: wz
def w_Blocks_putIn : List Cond := .code y_Blocks_putIn b_Blocks_putIn 2 none :: wz
def w_Blocks_passWord : List Cond := .code y_Blocks_passWord b_Blocks_passWord 3 (some .boolean) :: wz
def w_Blocks_passSign : List Cond := .code y_Blocks_passSign b_Blocks_passSign 2 (some .boolean) :: wz
def w_Blocks_passBrace : List Cond := .code y_Blocks_passBrace b_Blocks_passBrace 2 (some .boolean) :: wz
def w_Blocks_passComma : List Cond := .code y_Blocks_passComma b_Blocks_passComma 2 none :: wz
def w_Blocks_end : List Cond := .code y_Blocks_end b_Blocks_end 3 (some .boolean) :: wz
def w_Blocks_closeBlocks : List Cond := .code y_Blocks_closeBlocks b_Blocks_closeBlocks 3 none :: wz
def w_Cutter_init : List Cond := .code y_Cutter_init b_Cutter_init 1 none :: wz
def w_Cutter_lexemes : List Cond := .code y_Cutter_lexemes b_Cutter_lexemes 1 (some (.object "LayoutFront$Lexemes")) :: wz
def w_Cutter_foundTooMany : List Cond := .code y_Cutter_foundTooMany b_Cutter_foundTooMany 1 (some .boolean) :: wz
def w_Cutter_cut : List Cond := .code y_Cutter_cut b_Cutter_cut 3 (some .int) :: wz
def w_Cutter_isBlank : List Cond := .code y_Cutter_isBlank b_Cutter_isBlank 1 (some .boolean) :: wz
def w_Cutter_passCharacter : List Cond := .code y_Cutter_passCharacter b_Cutter_passCharacter 2 none :: wz
def w_Cutter_opensComment : List Cond := .code y_Cutter_opensComment b_Cutter_opensComment 2 (some .boolean) :: wz
def w_Cutter_closesComment : List Cond := .code y_Cutter_closesComment b_Cutter_closesComment 2 (some .boolean) :: wz
def w_Cutter_passComment : List Cond := .code y_Cutter_passComment b_Cutter_passComment 5 none :: wz
def w_Cutter_cutLexeme : List Cond := .code y_Cutter_cutLexeme b_Cutter_cutLexeme 4 none :: wz
def w_Cutter_take : List Cond := .code y_Cutter_take b_Cutter_take 6 none :: wz
def w_Cutter_kindBegunBy : List Cond := .code y_Cutter_kindBegunBy b_Cutter_kindBegunBy 1 (some .int) :: wz
def w_Cutter_longest : List Cond := .code y_Cutter_longest b_Cutter_longest 1 (some .int) :: wz
def w_Cutter_lexemeEnd : List Cond := .code y_Cutter_lexemeEnd b_Cutter_lexemeEnd 4 (some .int) :: wz
def w_Cutter_goesOn : List Cond := .code y_Cutter_goesOn b_Cutter_goesOn 2 (some .boolean) :: wz
def w_Cutter_isDashes : List Cond := .code y_Cutter_isDashes b_Cutter_isDashes 4 (some .boolean) :: wz
def w_Cutter_lineEnd : List Cond := .code y_Cutter_lineEnd b_Cutter_lineEnd 3 (some .int) :: wz
def w_Cutter_isLetter : List Cond := .code y_Cutter_isLetter b_Cutter_isLetter 1 (some .boolean) :: wz
def w_Cutter_isDigit : List Cond := .code y_Cutter_isDigit b_Cutter_isDigit 1 (some .boolean) :: wz
def w_Cutter_isOperatorPart : List Cond := .code y_Cutter_isOperatorPart b_Cutter_isOperatorPart 1 (some .boolean) :: wz
def w_Cutter_isSign : List Cond := .code y_Cutter_isSign b_Cutter_isSign 1 (some .boolean) :: wz
def w_Fixities_init : List Cond := .code y_Fixities_init b_Fixities_init 1 none :: wz
def w_Fixities_size : List Cond := .code y_Fixities_size b_Fixities_size 1 (some .int) :: wz
def w_Fixities_hasRoomFor : List Cond := .code y_Fixities_hasRoomFor b_Fixities_hasRoomFor 3 (some .boolean) :: wz
def w_Fixities_set : List Cond := .code y_Fixities_set b_Fixities_set 6 none :: wz
def w_Fixities_sideOf : List Cond := .code y_Fixities_sideOf b_Fixities_sideOf 4 (some .int) :: wz
def w_Fixities_levelOf : List Cond := .code y_Fixities_levelOf b_Fixities_levelOf 4 (some .int) :: wz
def w_Fixities_find : List Cond := .code y_Fixities_find b_Fixities_find 4 (some .int) :: wz
def w_Lexemes_init : List Cond := .code y_Lexemes_init b_Lexemes_init 1 none :: wz
def w_Lexemes_clear : List Cond := .code y_Lexemes_clear b_Lexemes_clear 1 none :: wz
def w_Lexemes_size : List Cond := .code y_Lexemes_size b_Lexemes_size 1 (some .int) :: wz
def w_Lexemes_isFull : List Cond := .code y_Lexemes_isFull b_Lexemes_isFull 1 (some .boolean) :: wz
def w_Lexemes_tokens : List Cond := .code y_Lexemes_tokens b_Lexemes_tokens 1 (some (.object "LayoutFront$Tokens")) :: wz
def w_Lexemes_add : List Cond := .code y_Lexemes_add b_Lexemes_add 8 none :: wz
def w_Lexemes_placeAt : List Cond := .code y_Lexemes_placeAt b_Lexemes_placeAt 2 (some .int) :: wz
def w_Lexemes_columnAt : List Cond := .code y_Lexemes_columnAt b_Lexemes_columnAt 2 (some .int) :: wz
def w_Lexemes_isLineFirst : List Cond := .code y_Lexemes_isLineFirst b_Lexemes_isLineFirst 2 (some .boolean) :: wz
def w_Open_init : List Cond := .code y_Open_init b_Open_init 1 none :: wz
def w_Open_clear : List Cond := .code y_Open_clear b_Open_clear 1 none :: wz
def w_Open_size : List Cond := .code y_Open_size b_Open_size 1 (some .int) :: wz
def w_Open_most : List Cond := .code y_Open_most b_Open_most 1 (some .int) :: wz
def w_Open_push : List Cond := .code y_Open_push b_Open_push 2 none :: wz
def w_Open_pop : List Cond := .code y_Open_pop b_Open_pop 1 none :: wz
def w_Open_top : List Cond := .code y_Open_top b_Open_top 1 (some .int) :: wz
def w_Open_at : List Cond := .code y_Open_at b_Open_at 2 (some .int) :: wz
def w_Open_belowLets : List Cond := .code y_Open_belowLets b_Open_belowLets 2 (some .int) :: wz
def w_Open_belowLetsAndLaidBlocks : List Cond := .code y_Open_belowLetsAndLaidBlocks b_Open_belowLetsAndLaidBlocks 2 (some .int) :: wz
def w_Open_dropLets : List Cond := .code y_Open_dropLets b_Open_dropLets 1 none :: wz
def w_Open_latestColumn : List Cond := .code y_Open_latestColumn b_Open_latestColumn 2 (some .int) :: wz
def w_Resolver_init : List Cond := .code y_Resolver_init b_Resolver_init 1 none :: wz
def w_Resolver_clear : List Cond := .code y_Resolver_clear b_Resolver_clear 1 none :: wz
def w_Resolver_startRow : List Cond := .code y_Resolver_startRow b_Resolver_startRow 1 none :: wz
def w_Resolver_giveUpRow : List Cond := .code y_Resolver_giveUpRow b_Resolver_giveUpRow 1 none :: wz
def w_Resolver_finishRow : List Cond := .code y_Resolver_finishRow b_Resolver_finishRow 2 none :: wz
def w_Resolver_takeOperand : List Cond := .code y_Resolver_takeOperand b_Resolver_takeOperand 3 none :: wz
def w_Resolver_takeMinus : List Cond := .code y_Resolver_takeMinus b_Resolver_takeMinus 2 (some .boolean) :: wz
def w_Resolver_takeOperation : List Cond := .code y_Resolver_takeOperation b_Resolver_takeOperation 5 (some .boolean) :: wz
def w_Resolver_letWait : List Cond := .code y_Resolver_letWait b_Resolver_letWait 4 none :: wz
def w_Resolver_giveSides : List Cond := .code y_Resolver_giveSides b_Resolver_giveSides 1 none :: wz
def w_Resolver_tally : List Cond := .code y_Resolver_tally b_Resolver_tally 6 none :: wz
def w_Row_init : List Cond := .code y_Row_init b_Row_init 1 none :: wz
def w_Row_clear : List Cond := .code y_Row_clear b_Row_clear 1 none :: wz
def w_Row_size : List Cond := .code y_Row_size b_Row_size 1 (some .int) :: wz
def w_Row_isWhole : List Cond := .code y_Row_isWhole b_Row_isWhole 1 (some .boolean) :: wz
def w_Row_endsWithOperand : List Cond := .code y_Row_endsWithOperand b_Row_endsWithOperand 1 (some .boolean) :: wz
def w_Row_addOperand : List Cond := .code y_Row_addOperand b_Row_addOperand 3 none :: wz
def w_Row_addOperation : List Cond := .code y_Row_addOperation b_Row_addOperation 5 none :: wz
def w_Row_add : List Cond := .code y_Row_add b_Row_add 4 none :: wz
def w_Row_has : List Cond := .code y_Row_has b_Row_has 2 (some .boolean) :: wz
def w_Row_partAt : List Cond := .code y_Row_partAt b_Row_partAt 2 (some .int) :: wz
def w_Row_firstAt : List Cond := .code y_Row_firstAt b_Row_firstAt 2 (some .int) :: wz
def w_Row_lastAt : List Cond := .code y_Row_lastAt b_Row_lastAt 2 (some .int) :: wz
def w_Rows_init : List Cond := .code y_Rows_init b_Rows_init 1 none :: wz
def w_Rows_together : List Cond := .code y_Rows_together b_Rows_together 1 (some .int) :: wz
def w_Rows_inConflict : List Cond := .code y_Rows_inConflict b_Rows_inConflict 1 (some .int) :: wz
def w_Rows_putTogether : List Cond := .code y_Rows_putTogether b_Rows_putTogether 4 none :: wz
def w_Rows_copyInto : List Cond := .code y_Rows_copyInto b_Rows_copyInto 4 none :: wz
def w_Rows_matchBrackets : List Cond := .code y_Rows_matchBrackets b_Rows_matchBrackets 4 none :: wz
def w_Rows_closerOf : List Cond := .code y_Rows_closerOf b_Rows_closerOf 2 (some .int) :: wz
def w_Rows_putLevelTogether : List Cond := .code y_Rows_putLevelTogether b_Rows_putLevelTogether 7 none :: wz
def w_Rows_collectRow : List Cond := .code y_Rows_collectRow b_Rows_collectRow 8 (some .int) :: wz
def w_Rows_behindOperand : List Cond := .code y_Rows_behindOperand b_Rows_behindOperand 3 (some .int) :: wz
def w_Rows_behindOperation : List Cond := .code y_Rows_behindOperation b_Rows_behindOperation 2 (some .int) :: wz
def w_Rows_putRowTogether : List Cond := .code y_Rows_putRowTogether b_Rows_putRowTogether 4 none :: wz
def w_Rows_take : List Cond := .code y_Rows_take b_Rows_take 8 (some .boolean) :: wz
def w_Text_init : List Cond := .code y_Text_init b_Text_init 1 none :: wz
def w_Text_areCharacters : List Cond := .code y_Text_areCharacters b_Text_areCharacters 5 (some .boolean) :: wz
def w_Text_byteOf : List Cond := .code y_Text_byteOf b_Text_byteOf 3 (some .int) :: wz
def w_Text_length : List Cond := .code y_Text_length b_Text_length 1 (some .int) :: wz
def w_Text_hasRoomFor : List Cond := .code y_Text_hasRoomFor b_Text_hasRoomFor 2 (some .boolean) :: wz
def w_Text_append : List Cond := .code y_Text_append b_Text_append 5 none :: wz
def w_Text_clear : List Cond := .code y_Text_clear b_Text_clear 1 none :: wz
def w_Text_at : List Cond := .code y_Text_at b_Text_at 2 (some .char) :: wz
def w_Text_packed : List Cond := .code y_Text_packed b_Text_packed 6 (some .long) :: wz
def w_Text_number : List Cond := .code y_Text_number b_Text_number 6 (some .long) :: wz
def w_Tokens_init : List Cond := .code y_Tokens_init b_Tokens_init 2 none :: wz
def w_Tokens_clear : List Cond := .code y_Tokens_clear b_Tokens_clear 1 none :: wz
def w_Tokens_size : List Cond := .code y_Tokens_size b_Tokens_size 1 (some .int) :: wz
def w_Tokens_add : List Cond := .code y_Tokens_add b_Tokens_add 4 none :: wz
def w_Tokens_addTimes : List Cond := .code y_Tokens_addTimes b_Tokens_addTimes 6 none :: wz
def w_Tokens_has : List Cond := .code y_Tokens_has b_Tokens_has 2 (some .boolean) :: wz
def w_Tokens_kindAt : List Cond := .code y_Tokens_kindAt b_Tokens_kindAt 2 (some .int) :: wz
def w_Tokens_valueAt : List Cond := .code y_Tokens_valueAt b_Tokens_valueAt 2 (some .long) :: wz
def w_Tokens_isSign : List Cond := .code y_Tokens_isSign b_Tokens_isSign 3 (some .boolean) :: wz
def w_Tokens_opensBracket : List Cond := .code y_Tokens_opensBracket b_Tokens_opensBracket 2 (some .boolean) :: wz
def w_Tokens_closesBracket : List Cond := .code y_Tokens_closesBracket b_Tokens_closesBracket 2 (some .boolean) :: wz
def w_Tokens_wordAt : List Cond := .code y_Tokens_wordAt b_Tokens_wordAt 2 (some .int) :: wz
def w_Tokens_isFreeName : List Cond := .code y_Tokens_isFreeName b_Tokens_isFreeName 2 (some .boolean) :: wz
def w_Tokens_isFreeOperator : List Cond := .code y_Tokens_isFreeOperator b_Tokens_isFreeOperator 2 (some .boolean) :: wz
def w_Tokens_find : List Cond := .code y_Tokens_find b_Tokens_find 4 (some .int) :: wz
def w_Law_write : List Cond := .codeWith y_Law_write b_Law_write 6 (some .int) [(0, 11, 14, 13), (0, 11, 18, 15)] :: wz
def w_Law_fixity : List Cond := .codeWith y_Law_fixity b_Law_fixity 7 (some .int) [(0, 13, 16, 13), (0, 13, 20, 15)] :: wz
def w_Law_read : List Cond := .codeWith y_Law_read b_Law_read 3 (some .int) [(0, 8, 11, 13), (0, 8, 14, 15)] :: wz
def w_Law_kind : List Cond := .codeWith y_Law_kind b_Law_kind 4 (some .int) [(0, 9, 12, 29)] :: wz
def w_Law_token : List Cond := .codeWith y_Law_token b_Law_token 4 (some .int) [(0, 8, 11, 29)] :: wz
def w_Law_count : List Cond := .codeWith y_Law_count b_Law_count 4 (some .int) [(0, 9, 12, 29)] :: wz
def w_JS_indexOf0 : List Cond := .code y_JS_indexOf0 b_JS_indexOf0 2 (some .int) :: wz
def w_JS_indexOf1 : List Cond := .code y_JS_indexOf1 b_JS_indexOf1 3 (some .int) :: wz
def w_JS_isLatin1 : List Cond := .code y_JS_isLatin1 b_JS_isLatin1 1 (some .boolean) :: wz
def w_JS_length : List Cond := .code y_JS_length b_JS_length 1 (some .int) :: wz
def w_JS_coder : List Cond := .code y_JS_coder b_JS_coder 1 (some (.byte)) :: wz
def w_JL_canEncode : List Cond := .code y_JL_canEncode b_JL_canEncode 1 (some .boolean) :: wz
def w_JL_indexOf : List Cond := .code y_JL_indexOf b_JL_indexOf 4 (some .int) :: wz
def w_JL_indexOfChar : List Cond := .code y_JL_indexOfChar b_JL_indexOfChar 6 (some .int) :: wz
