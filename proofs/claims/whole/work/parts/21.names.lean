/-! names: by a program of my own out of the listing and the tables -/
def R_L : String := "GoalSearchLaw"
def R_F : String := "GoalSearch$Forest"
def T_F : u_T := fun k => match k with
  | 0 => ("GoalSearch$Forest", "kind", "[I", true)
  | 1 => ("GoalSearch$Forest", "number", "[I", true)
  | 2 => ("GoalSearch$Forest", "partX", "[I", true)
  | 3 => ("GoalSearch$Forest", "partY", "[I", true)
  | 4 => ("GoalSearch$Forest", "partZ", "[I", true)
  | 5 => ("GoalSearch$Forest", "depth", "[I", true)
  | 6 => ("GoalSearch$Forest", "free", "[Z", true)
  | _ => ("GoalSearch$Forest", "count", "I", false)
def t_F : Nat → FieldType := fun k => match k with
  | 0 => .array .int
  | 1 => .array .int
  | 2 => .array .int
  | 3 => .array .int
  | 4 => .array .int
  | 5 => .array .int
  | 6 => .array .boolean
  | _ => .int
theorem n_F : ∀ a, a < 8 → ∀ b, b < 8 → a ≠ b → (T_F a).2.1 ≠ (T_F b).2.1 := by decide +kernel
theorem t_F_ok : ∀ k, k < 8 → parseFieldDescriptor (T_F k).2.2.1 = some (t_F k) := by decide +kernel
def R_S : String := "GoalSearch$Search"
def T_S : u_T := fun k => match k with
  | 0 => ("GoalSearch$Search", "forest", "LGoalSearch$Forest;", true)
  | 1 => ("GoalSearch$Search", "stage", "[I", true)
  | 2 => ("GoalSearch$Search", "result", "[I", true)
  | 3 => ("GoalSearch$Search", "counter", "[J", true)
  | 4 => ("GoalSearch$Search", "variables", "[I", true)
  | 5 => ("GoalSearch$Search", "wrote", "[I", true)
  | 6 => ("GoalSearch$Search", "writeCount", "I", false)
  | 7 => ("GoalSearch$Search", "spent", "I", false)
  | 8 => ("GoalSearch$Search", "latest", "I", false)
  | 9 => ("GoalSearch$Search", "fuel", "I", false)
  | 10 => ("GoalSearch$Search", "begun", "I", false)
  | _ => ("GoalSearch$Search", "lastAnswer", "I", false)
def t_S : Nat → FieldType := fun k => match k with
  | 0 => .object "GoalSearch$Forest"
  | 1 => .array .int
  | 2 => .array .int
  | 3 => .array .long
  | 4 => .array .int
  | 5 => .array .int
  | 6 => .int
  | 7 => .int
  | 8 => .int
  | 9 => .int
  | 10 => .int
  | _ => .int
theorem n_S : ∀ a, a < 12 → ∀ b, b < 12 → a ≠ b → (T_S a).2.1 ≠ (T_S b).2.1 := by decide +kernel
theorem t_S_ok : ∀ k, k < 12 → parseFieldDescriptor (T_S k).2.2.1 = some (t_S k) := by decide +kernel
def R_G : String := "GoalSearch"
def T_G : u_T := fun k => match k with
  | 0 => ("GoalSearch", "search", "LGoalSearch$Search;", true)
  | _ => ("GoalSearch", "forest", "LGoalSearch$Forest;", true)
def t_G : Nat → FieldType := fun k => match k with
  | 0 => .object "GoalSearch$Search"
  | _ => .object "GoalSearch$Forest"
theorem n_G : ∀ a, a < 2 → ∀ b, b < 2 → a ≠ b → (T_G a).2.1 ≠ (T_G b).2.1 := by decide +kernel
theorem t_G_ok : ∀ k, k < 2 → parseFieldDescriptor (T_G k).2.2.1 = some (t_G k) := by decide +kernel
def R_M : String := "GoalSearchModel"
def T_M : u_T := fun k => match k with
  | 0 => ("GoalSearchModel", "count", "I", false)
  | 1 => ("GoalSearchModel", "kind", "[I", true)
  | 2 => ("GoalSearchModel", "number", "[I", true)
  | 3 => ("GoalSearchModel", "part", "[I", true)
  | 4 => ("GoalSearchModel", "depth", "[I", true)
  | 5 => ("GoalSearchModel", "used", "[Z", true)
  | 6 => ("GoalSearchModel", "phase", "[I", true)
  | 7 => ("GoalSearchModel", "kept", "[J", true)
  | 8 => ("GoalSearchModel", "variable", "[I", true)
  | 9 => ("GoalSearchModel", "texts", "[I", true)
  | 10 => ("GoalSearchModel", "textCount", "I", false)
  | 11 => ("GoalSearchModel", "begun", "I", false)
  | 12 => ("GoalSearchModel", "end", "I", false)
  | 13 => ("GoalSearchModel", "fuel", "I", false)
  | 14 => ("GoalSearchModel", "cost", "I", false)
  | 15 => ("GoalSearchModel", "latest", "I", false)
  | 16 => ("GoalSearchModel", "stack", "[I", true)
  | 17 => ("GoalSearchModel", "top", "I", false)
  | 18 => ("GoalSearchModel", "given", "I", false)
  | _ => ("GoalSearchModel", "error", "I", false)
def t_M : Nat → FieldType := fun k => match k with
  | 0 => .int
  | 1 => .array .int
  | 2 => .array .int
  | 3 => .array .int
  | 4 => .array .int
  | 5 => .array .boolean
  | 6 => .array .int
  | 7 => .array .long
  | 8 => .array .int
  | 9 => .array .int
  | 10 => .int
  | 11 => .int
  | 12 => .int
  | 13 => .int
  | 14 => .int
  | 15 => .int
  | 16 => .array .int
  | 17 => .int
  | 18 => .int
  | _ => .int
theorem n_M : ∀ a, a < 20 → ∀ b, b < 20 → a ≠ b → (T_M a).2.1 ≠ (T_M b).2.1 := by decide +kernel
theorem t_M_ok : ∀ k, k < 20 → parseFieldDescriptor (T_M k).2.2.1 = some (t_M k) := by decide +kernel
abbrev vwCl : List vw_C := [(R_F, T_F, 8), (R_S, T_S, 12), (R_G, T_G, 2), (R_M, T_M, 20)]
abbrev b_G_init : ByteArray := prog_1_method_1_code
def y_G_init : MethodName := ⟨R_G, "<init>", "()V"⟩
abbrev b_S_init : ByteArray := prog_3_method_1_code
def y_S_init : MethodName := ⟨R_S, "<init>", "()V"⟩
abbrev b_F_init : ByteArray := prog_2_method_1_code
def y_F_init : MethodName := ⟨R_F, "<init>", "()V"⟩
abbrev b_G_leaf : ByteArray := prog_1_method_2_code
def y_G_leaf : MethodName := ⟨R_G, "leaf", "(II)I"⟩
abbrev b_G_isBelow : ByteArray := prog_1_method_17_code
def y_G_isBelow : MethodName := ⟨R_G, "isBelow", "(II)Z"⟩
abbrev b_F_isFull : ByteArray := prog_2_method_3_code
def y_F_isFull : MethodName := ⟨R_F, "isFull", "()Z"⟩
abbrev b_F_addLeaf : ByteArray := prog_2_method_5_code
def y_F_addLeaf : MethodName := ⟨R_F, "addLeaf", "(II)I"⟩
abbrev b_G_unary : ByteArray := prog_1_method_3_code
def y_G_unary : MethodName := ⟨R_G, "unary", "(III)I"⟩
abbrev b_G_join : ByteArray := prog_1_method_18_code
def y_G_join : MethodName := ⟨R_G, "join", "(IIIIIZ)I"⟩
abbrev b_F_has : ByteArray := prog_2_method_2_code
def y_F_has : MethodName := ⟨R_F, "has", "(I)Z"⟩
abbrev b_F_depthOver : ByteArray := prog_2_method_4_code
def y_F_depthOver : MethodName := ⟨R_F, "depthOver", "(III)I"⟩
abbrev b_F_addOver : ByteArray := prog_2_method_6_code
def y_F_addOver : MethodName := ⟨R_F, "addOver", "(IIIII)I"⟩
abbrev b_G_binary : ByteArray := prog_1_method_4_code
def y_G_binary : MethodName := ⟨R_G, "binary", "(III)I"⟩
abbrev b_G_ternary : ByteArray := prog_1_method_5_code
def y_G_ternary : MethodName := ⟨R_G, "ternary", "(IIII)I"⟩
abbrev b_G_expressions : ByteArray := prog_1_method_6_code
def y_G_expressions : MethodName := ⟨R_G, "expressions", "()I"⟩
abbrev b_G_about : ByteArray := prog_1_method_7_code
def y_G_about : MethodName := ⟨R_G, "about", "(I)I"⟩
abbrev b_G_set : ByteArray := prog_1_method_8_code
def y_G_set : MethodName := ⟨R_G, "set", "(II)I"⟩
abbrev b_G_variable : ByteArray := prog_1_method_9_code
def y_G_variable : MethodName := ⟨R_G, "variable", "(I)I"⟩
abbrev b_G_begin : ByteArray := prog_1_method_10_code
def y_G_begin : MethodName := ⟨R_G, "begin", "(II)I"⟩
abbrev b_S_open : ByteArray := prog_3_method_2_code
def y_S_open : MethodName := ⟨R_S, "open", "(II)V"⟩
abbrev b_S_start : ByteArray := prog_3_method_4_code
def y_S_start : MethodName := ⟨R_S, "start", "(I)V"⟩
abbrev b_G_next : ByteArray := prog_1_method_11_code
def y_G_next : MethodName := ⟨R_G, "next", "()I"⟩
abbrev b_S_proceed : ByteArray := prog_3_method_3_code
def y_S_proceed : MethodName := ⟨R_S, "proceed", "()I"⟩
abbrev b_S_ask : ByteArray := prog_3_method_6_code
def y_S_ask : MethodName := ⟨R_S, "ask", "(I)I"⟩
abbrev b_S_askLeaf : ByteArray := prog_3_method_10_code
def y_S_askLeaf : MethodName := ⟨R_S, "askLeaf", "(II)I"⟩
abbrev b_S_giveForFuel : ByteArray := prog_3_method_8_code
def y_S_giveForFuel : MethodName := ⟨R_S, "giveForFuel", "(II)I"⟩
abbrev b_S_give : ByteArray := prog_3_method_7_code
def y_S_give : MethodName := ⟨R_S, "give", "(II)I"⟩
abbrev b_S_askAssign : ByteArray := prog_3_method_12_code
def y_S_askAssign : MethodName := ⟨R_S, "askAssign", "(I)I"⟩
abbrev b_S_askX : ByteArray := prog_3_method_11_code
def y_S_askX : MethodName := ⟨R_S, "askX", "(I)I"⟩
abbrev b_S_handUp : ByteArray := prog_3_method_9_code
def y_S_handUp : MethodName := ⟨R_S, "handUp", "(III)I"⟩
abbrev b_S_askWrite : ByteArray := prog_3_method_13_code
def y_S_askWrite : MethodName := ⟨R_S, "askWrite", "(I)I"⟩
abbrev b_S_askNot : ByteArray := prog_3_method_14_code
def y_S_askNot : MethodName := ⟨R_S, "askNot", "(I)I"⟩
abbrev b_S_tryOnce : ByteArray := prog_3_method_5_code
def y_S_tryOnce : MethodName := ⟨R_S, "tryOnce", "(I)I"⟩
abbrev b_S_askAgain : ByteArray := prog_3_method_15_code
def y_S_askAgain : MethodName := ⟨R_S, "askAgain", "(I)I"⟩
abbrev b_S_askEither : ByteArray := prog_3_method_16_code
def y_S_askEither : MethodName := ⟨R_S, "askEither", "(I)I"⟩
abbrev b_S_askPair : ByteArray := prog_3_method_17_code
def y_S_askPair : MethodName := ⟨R_S, "askPair", "(I)I"⟩
abbrev b_S_askArithmetic : ByteArray := prog_3_method_18_code
def y_S_askArithmetic : MethodName := ⟨R_S, "askArithmetic", "(I)I"⟩
abbrev b_S_calculate : ByteArray := prog_3_method_19_code
def y_S_calculate : MethodName := ⟨R_S, "calculate", "(IJJ)J"⟩
abbrev b_S_askComparison : ByteArray := prog_3_method_20_code
def y_S_askComparison : MethodName := ⟨R_S, "askComparison", "(I)I"⟩
abbrev b_S_holds : ByteArray := prog_3_method_21_code
def y_S_holds : MethodName := ⟨R_S, "holds", "(III)Z"⟩
abbrev b_S_askLimit : ByteArray := prog_3_method_22_code
def y_S_askLimit : MethodName := ⟨R_S, "askLimit", "(I)I"⟩
abbrev b_S_askBound : ByteArray := prog_3_method_23_code
def y_S_askBound : MethodName := ⟨R_S, "askBound", "(I)I"⟩
abbrev b_S_askEveryOrWhile : ByteArray := prog_3_method_24_code
def y_S_askEveryOrWhile : MethodName := ⟨R_S, "askEveryOrWhile", "(I)I"⟩
abbrev b_S_askThen : ByteArray := prog_3_method_25_code
def y_S_askThen : MethodName := ⟨R_S, "askThen", "(I)I"⟩
abbrev b_S_askTo : ByteArray := prog_3_method_28_code
def y_S_askTo : MethodName := ⟨R_S, "askTo", "(I)I"⟩
abbrev b_S_askTriple : ByteArray := prog_3_method_30_code
def y_S_askTriple : MethodName := ⟨R_S, "askTriple", "(I)I"⟩
abbrev b_S_isUpToEnd : ByteArray := prog_3_method_29_code
def y_S_isUpToEnd : MethodName := ⟨R_S, "isUpToEnd", "(I)Z"⟩
abbrev b_S_askIf : ByteArray := prog_3_method_26_code
def y_S_askIf : MethodName := ⟨R_S, "askIf", "(I)I"⟩
abbrev b_S_branch : ByteArray := prog_3_method_27_code
def y_S_branch : MethodName := ⟨R_S, "branch", "(I)I"⟩
abbrev b_G_skip : ByteArray := prog_1_method_12_code
def y_G_skip : MethodName := ⟨R_G, "skip", "(I)I"⟩
abbrev b_G_value : ByteArray := prog_1_method_13_code
def y_G_value : MethodName := ⟨R_G, "value", "()I"⟩
abbrev b_G_writes : ByteArray := prog_1_method_14_code
def y_G_writes : MethodName := ⟨R_G, "writes", "()I"⟩
abbrev b_G_written : ByteArray := prog_1_method_15_code
def y_G_written : MethodName := ⟨R_G, "written", "(I)J"⟩
abbrev b_G_cost : ByteArray := prog_1_method_16_code
def y_G_cost : MethodName := ⟨R_G, "cost", "()I"⟩
abbrev b_M_init : ByteArray := prog_5_method_1_code
def y_M_init : MethodName := ⟨R_M, "<init>", "()V"⟩
abbrev b_M_leaf : ByteArray := prog_5_method_5_code
def y_M_leaf : MethodName := ⟨R_M, "leaf", "(II)I"⟩
abbrev b_M_within : ByteArray := prog_5_method_2_code
def y_M_within : MethodName := ⟨R_M, "within", "(III)Z"⟩
abbrev b_M_make : ByteArray := prog_5_method_4_code
def y_M_make : MethodName := ⟨R_M, "make", "(IIIIII)I"⟩
abbrev b_M_unary : ByteArray := prog_5_method_6_code
def y_M_unary : MethodName := ⟨R_M, "unary", "(III)I"⟩
abbrev b_M_is : ByteArray := prog_5_method_3_code
def y_M_is : MethodName := ⟨R_M, "is", "(I)Z"⟩
abbrev b_M_binary : ByteArray := prog_5_method_7_code
def y_M_binary : MethodName := ⟨R_M, "binary", "(III)I"⟩
abbrev b_M_ternary : ByteArray := prog_5_method_8_code
def y_M_ternary : MethodName := ⟨R_M, "ternary", "(IIII)I"⟩
abbrev b_M_expressions : ByteArray := prog_5_method_9_code
def y_M_expressions : MethodName := ⟨R_M, "expressions", "()I"⟩
abbrev b_M_about : ByteArray := prog_5_method_10_code
def y_M_about : MethodName := ⟨R_M, "about", "(I)I"⟩
abbrev b_M_set : ByteArray := prog_5_method_11_code
def y_M_set : MethodName := ⟨R_M, "set", "(II)I"⟩
abbrev b_M_variable : ByteArray := prog_5_method_12_code
def y_M_variable : MethodName := ⟨R_M, "variable", "(I)I"⟩
abbrev b_M_begin : ByteArray := prog_5_method_13_code
def y_M_begin : MethodName := ⟨R_M, "begin", "(II)I"⟩
abbrev b_M_next : ByteArray := prog_5_method_27_code
def y_M_next : MethodName := ⟨R_M, "next", "()I"⟩
abbrev b_M_step : ByteArray := prog_5_method_18_code
def y_M_step : MethodName := ⟨R_M, "step", "(II)I"⟩
abbrev b_M_leafStep : ByteArray := prog_5_method_19_code
def y_M_leafStep : MethodName := ⟨R_M, "leafStep", "(I)I"⟩
abbrev b_M_paid : ByteArray := prog_5_method_15_code
def y_M_paid : MethodName := ⟨R_M, "paid", "(I)I"⟩
abbrev b_M_give : ByteArray := prog_5_method_14_code
def y_M_give : MethodName := ⟨R_M, "give", "(I)I"⟩
abbrev b_M_unaryStep : ByteArray := prog_5_method_20_code
def y_M_unaryStep : MethodName := ⟨R_M, "unaryStep", "(II)I"⟩
abbrev b_M_first : ByteArray := prog_5_method_17_code
def y_M_first : MethodName := ⟨R_M, "first", "(III)I"⟩
abbrev b_M_ask : ByteArray := prog_5_method_16_code
def y_M_ask : MethodName := ⟨R_M, "ask", "(III)I"⟩
abbrev b_M_pairStep : ByteArray := prog_5_method_21_code
def y_M_pairStep : MethodName := ⟨R_M, "pairStep", "(II)I"⟩
abbrev b_M_binaryStep : ByteArray := prog_5_method_22_code
def y_M_binaryStep : MethodName := ⟨R_M, "binaryStep", "(II)I"⟩
abbrev b_M_limit : ByteArray := prog_5_method_23_code
def y_M_limit : MethodName := ⟨R_M, "limit", "(II)I"⟩
abbrev b_M_toStep : ByteArray := prog_5_method_24_code
def y_M_toStep : MethodName := ⟨R_M, "toStep", "(II)I"⟩
abbrev b_M_onward : ByteArray := prog_5_method_25_code
def y_M_onward : MethodName := ⟨R_M, "onward", "(I)I"⟩
abbrev b_M_choose : ByteArray := prog_5_method_26_code
def y_M_choose : MethodName := ⟨R_M, "choose", "(II)I"⟩
abbrev b_M_skip : ByteArray := prog_5_method_28_code
def y_M_skip : MethodName := ⟨R_M, "skip", "(I)I"⟩
abbrev b_M_value : ByteArray := prog_5_method_29_code
def y_M_value : MethodName := ⟨R_M, "value", "()I"⟩
abbrev b_M_writes : ByteArray := prog_5_method_30_code
def y_M_writes : MethodName := ⟨R_M, "writes", "()I"⟩
abbrev b_M_written : ByteArray := prog_5_method_31_code
def y_M_written : MethodName := ⟨R_M, "written", "(I)J"⟩
abbrev b_M_cost : ByteArray := prog_5_method_32_code
def y_M_cost : MethodName := ⟨R_M, "cost", "()I"⟩
def lw_g : List Cond := lw_tbl.filter goodWord
theorem gk {w : Cond} (h : w ∈ lw_tbl) (hg : goodWord w = true) : w ∈ lw_g := List.mem_filter.mpr ⟨h, hg⟩
theorem k_0 : Cond.initialized R_L ∈ lw_g := gk (List.mem_append_right _ (List.mem_of_getElem? (i := 0) (by decide +kernel))) rfl
theorem k_1 : Cond.initialized R_G ∈ lw_g := gk (List.mem_append_right _ (List.mem_of_getElem? (i := 1) (by decide +kernel))) rfl
theorem k_2 : Cond.initialized R_S ∈ lw_g := gk (List.mem_append_right _ (List.mem_of_getElem? (i := 2) (by decide +kernel))) rfl
theorem k_3 : Cond.initialized R_F ∈ lw_g := gk (List.mem_append_right _ (List.mem_of_getElem? (i := 3) (by decide +kernel))) rfl
theorem k_4 : Cond.initialized R_M ∈ lw_g := gk (List.mem_append_right _ (List.mem_of_getElem? (i := 4) (by decide +kernel))) rfl
theorem k_5 : Cond.initialized "java/lang/Math" ∈ lw_g := gk (List.mem_append_right _ (List.mem_of_getElem? (i := 5) (by decide +kernel))) rfl
theorem k_6 : Cond.classLink R_L 7 R_G ∈ lw_g := gk (List.mem_append_right _ (List.mem_of_getElem? (i := 6) (by decide +kernel))) rfl
theorem k_7 : Cond.instantiable R_G 2 ∈ lw_g := gk (List.mem_append_right _ (List.mem_of_getElem? (i := 7) (by decide +kernel))) rfl
theorem k_8 : Cond.methodLink R_L 9 y_G_init ∈ lw_g := gk (List.mem_append_right _ (List.mem_of_getElem? (i := 8) (by decide +kernel))) rfl
theorem k_9 : Cond.instanceMethod y_G_init ∈ lw_g := gk (List.mem_append_right _ (List.mem_of_getElem? (i := 9) (by decide +kernel))) rfl
theorem k_10 : Cond.code y_G_init b_G_init 1 none ∈ lw_g := gk (List.mem_append_right _ (List.mem_of_getElem? (i := 10) (by decide +kernel))) rfl
theorem k_11 : Cond.methodLink R_G 1 objectInit ∈ lw_g := gk (List.mem_append_right _ (List.mem_of_getElem? (i := 11) (by decide +kernel))) rfl
theorem k_12 : Cond.instanceMethod objectInit ∈ lw_g := gk (List.mem_append_right _ (List.mem_of_getElem? (i := 12) (by decide +kernel))) rfl
theorem k_13 : Cond.code objectInit ⟨#[0xb1]⟩ 1 none ∈ lw_g := gk (List.mem_append_right _ (List.mem_of_getElem? (i := 13) (by decide +kernel))) rfl
theorem k_14 : Cond.classLink R_G 7 R_S ∈ lw_g := gk (List.mem_append_right _ (List.mem_of_getElem? (i := 14) (by decide +kernel))) rfl
theorem k_15 : Cond.instantiable R_S 12 ∈ lw_g := gk (List.mem_append_right _ (List.mem_of_getElem? (i := 15) (by decide +kernel))) rfl
theorem kn_16 : Cond.methodLinkNest R_G 9 y_S_init R_G ∈ lw_tbl := List.mem_append_right _ (List.mem_of_getElem? (i := 16) (by decide +kernel))
theorem k_17 : Cond.instanceMethod y_S_init ∈ lw_g := gk (List.mem_append_right _ (List.mem_of_getElem? (i := 17) (by decide +kernel))) rfl
theorem k_18 : Cond.code y_S_init b_S_init 1 none ∈ lw_g := gk (List.mem_append_right _ (List.mem_of_getElem? (i := 18) (by decide +kernel))) rfl
theorem k_19 : Cond.methodLink R_S 1 objectInit ∈ lw_g := gk (List.mem_append_right _ (List.mem_of_getElem? (i := 19) (by decide +kernel))) rfl
theorem k_20 : Cond.classLink R_S 7 R_F ∈ lw_g := gk (List.mem_append_right _ (List.mem_of_getElem? (i := 20) (by decide +kernel))) rfl
theorem k_21 : Cond.instantiable R_F 8 ∈ lw_g := gk (List.mem_append_right _ (List.mem_of_getElem? (i := 21) (by decide +kernel))) rfl
theorem kn_22 : Cond.methodLinkNest R_S 9 y_F_init R_G ∈ lw_tbl := List.mem_append_right _ (List.mem_of_getElem? (i := 22) (by decide +kernel))
theorem k_23 : Cond.instanceMethod y_F_init ∈ lw_g := gk (List.mem_append_right _ (List.mem_of_getElem? (i := 23) (by decide +kernel))) rfl
theorem k_24 : Cond.code y_F_init b_F_init 1 none ∈ lw_g := gk (List.mem_append_right _ (List.mem_of_getElem? (i := 24) (by decide +kernel))) rfl
theorem k_25 : Cond.methodLink R_F 1 objectInit ∈ lw_g := gk (List.mem_append_right _ (List.mem_of_getElem? (i := 25) (by decide +kernel))) rfl
theorem k_26 : Cond.fieldLink R_F 9 R_F "kind" "[I" ∈ lw_g := gk (List.mem_append_right _ (List.mem_of_getElem? (i := 26) (by decide +kernel))) rfl
theorem k_27 : Cond.fieldLink R_S 60 R_F "kind" "[I" ∈ lw_g := gk (List.mem_append_right _ (List.mem_of_getElem? (i := 27) (by decide +kernel))) rfl
theorem k_28 : Cond.fieldLink R_F 13 R_F "number" "[I" ∈ lw_g := gk (List.mem_append_right _ (List.mem_of_getElem? (i := 28) (by decide +kernel))) rfl
theorem k_29 : Cond.fieldLink R_S 63 R_F "number" "[I" ∈ lw_g := gk (List.mem_append_right _ (List.mem_of_getElem? (i := 29) (by decide +kernel))) rfl
theorem k_30 : Cond.fieldLink R_F 16 R_F "partX" "[I" ∈ lw_g := gk (List.mem_append_right _ (List.mem_of_getElem? (i := 30) (by decide +kernel))) rfl
theorem k_31 : Cond.fieldLink R_S 122 R_F "partX" "[I" ∈ lw_g := gk (List.mem_append_right _ (List.mem_of_getElem? (i := 31) (by decide +kernel))) rfl
theorem k_32 : Cond.fieldLink R_F 19 R_F "partY" "[I" ∈ lw_g := gk (List.mem_append_right _ (List.mem_of_getElem? (i := 32) (by decide +kernel))) rfl
theorem k_33 : Cond.fieldLink R_S 85 R_F "partY" "[I" ∈ lw_g := gk (List.mem_append_right _ (List.mem_of_getElem? (i := 33) (by decide +kernel))) rfl
theorem k_34 : Cond.fieldLink R_F 22 R_F "partZ" "[I" ∈ lw_g := gk (List.mem_append_right _ (List.mem_of_getElem? (i := 34) (by decide +kernel))) rfl
theorem k_35 : Cond.fieldLink R_S 146 R_F "partZ" "[I" ∈ lw_g := gk (List.mem_append_right _ (List.mem_of_getElem? (i := 35) (by decide +kernel))) rfl
theorem k_36 : Cond.fieldLink R_F 25 R_F "depth" "[I" ∈ lw_g := gk (List.mem_append_right _ (List.mem_of_getElem? (i := 36) (by decide +kernel))) rfl
theorem k_37 : Cond.fieldLink R_G 47 R_F "depth" "[I" ∈ lw_g := gk (List.mem_append_right _ (List.mem_of_getElem? (i := 37) (by decide +kernel))) rfl
theorem k_38 : Cond.fieldLink R_F 28 R_F "free" "[Z" ∈ lw_g := gk (List.mem_append_right _ (List.mem_of_getElem? (i := 38) (by decide +kernel))) rfl
theorem k_39 : Cond.fieldLink R_G 51 R_F "free" "[Z" ∈ lw_g := gk (List.mem_append_right _ (List.mem_of_getElem? (i := 39) (by decide +kernel))) rfl
theorem k_40 : Cond.fieldLink R_F 32 R_F "count" "I" ∈ lw_g := gk (List.mem_append_right _ (List.mem_of_getElem? (i := 40) (by decide +kernel))) rfl
theorem k_41 : Cond.fieldLink R_G 39 R_F "count" "I" ∈ lw_g := gk (List.mem_append_right _ (List.mem_of_getElem? (i := 41) (by decide +kernel))) rfl
theorem k_42 : Cond.laysFinal R_F R_F "kind" "[I" ∈ lw_g := gk (List.mem_append_right _ (List.mem_of_getElem? (i := 42) (by decide +kernel))) rfl
theorem k_44 : Cond.laysFinal R_F R_F "number" "[I" ∈ lw_g := gk (List.mem_append_right _ (List.mem_of_getElem? (i := 44) (by decide +kernel))) rfl
theorem k_46 : Cond.laysFinal R_F R_F "partX" "[I" ∈ lw_g := gk (List.mem_append_right _ (List.mem_of_getElem? (i := 46) (by decide +kernel))) rfl
theorem k_48 : Cond.laysFinal R_F R_F "partY" "[I" ∈ lw_g := gk (List.mem_append_right _ (List.mem_of_getElem? (i := 48) (by decide +kernel))) rfl
theorem k_50 : Cond.laysFinal R_F R_F "partZ" "[I" ∈ lw_g := gk (List.mem_append_right _ (List.mem_of_getElem? (i := 50) (by decide +kernel))) rfl
theorem k_52 : Cond.laysFinal R_F R_F "depth" "[I" ∈ lw_g := gk (List.mem_append_right _ (List.mem_of_getElem? (i := 52) (by decide +kernel))) rfl
theorem k_54 : Cond.laysFinal R_F R_F "free" "[Z" ∈ lw_g := gk (List.mem_append_right _ (List.mem_of_getElem? (i := 54) (by decide +kernel))) rfl
theorem k_56 : Cond.lays R_F R_F "count" "I" ∈ lw_g := gk (List.mem_append_right _ (List.mem_of_getElem? (i := 56) (by decide +kernel))) rfl
theorem k_59 : Cond.arrayClass .int ∈ lw_g := gk (List.mem_append_right _ (List.mem_of_getElem? (i := 59) (by decide +kernel))) rfl
theorem k_60 : Cond.arrayClass .boolean ∈ lw_g := gk (List.mem_append_right _ (List.mem_of_getElem? (i := 60) (by decide +kernel))) rfl
theorem k_61 : Cond.fieldLink R_S 10 R_S "forest" "LGoalSearch$Forest;" ∈ lw_g := gk (List.mem_append_right _ (List.mem_of_getElem? (i := 61) (by decide +kernel))) rfl
theorem k_62 : Cond.fieldLink R_G 16 R_S "forest" "LGoalSearch$Forest;" ∈ lw_g := gk (List.mem_append_right _ (List.mem_of_getElem? (i := 62) (by decide +kernel))) rfl
theorem k_63 : Cond.fieldLink R_S 16 R_S "stage" "[I" ∈ lw_g := gk (List.mem_append_right _ (List.mem_of_getElem? (i := 63) (by decide +kernel))) rfl
theorem k_64 : Cond.fieldLink R_S 20 R_S "result" "[I" ∈ lw_g := gk (List.mem_append_right _ (List.mem_of_getElem? (i := 64) (by decide +kernel))) rfl
theorem k_65 : Cond.fieldLink R_S 23 R_S "counter" "[J" ∈ lw_g := gk (List.mem_append_right _ (List.mem_of_getElem? (i := 65) (by decide +kernel))) rfl
theorem k_66 : Cond.fieldLink R_S 27 R_S "variables" "[I" ∈ lw_g := gk (List.mem_append_right _ (List.mem_of_getElem? (i := 66) (by decide +kernel))) rfl
theorem k_67 : Cond.fieldLink R_G 55 R_S "variables" "[I" ∈ lw_g := gk (List.mem_append_right _ (List.mem_of_getElem? (i := 67) (by decide +kernel))) rfl
theorem k_68 : Cond.fieldLink R_S 30 R_S "wrote" "[I" ∈ lw_g := gk (List.mem_append_right _ (List.mem_of_getElem? (i := 68) (by decide +kernel))) rfl
theorem k_69 : Cond.fieldLink R_G 72 R_S "wrote" "[I" ∈ lw_g := gk (List.mem_append_right _ (List.mem_of_getElem? (i := 69) (by decide +kernel))) rfl
theorem k_70 : Cond.fieldLink R_S 33 R_S "writeCount" "I" ∈ lw_g := gk (List.mem_append_right _ (List.mem_of_getElem? (i := 70) (by decide +kernel))) rfl
theorem k_71 : Cond.fieldLink R_G 69 R_S "writeCount" "I" ∈ lw_g := gk (List.mem_append_right _ (List.mem_of_getElem? (i := 71) (by decide +kernel))) rfl
theorem k_72 : Cond.fieldLink R_S 37 R_S "spent" "I" ∈ lw_g := gk (List.mem_append_right _ (List.mem_of_getElem? (i := 72) (by decide +kernel))) rfl
theorem k_73 : Cond.fieldLink R_G 77 R_S "spent" "I" ∈ lw_g := gk (List.mem_append_right _ (List.mem_of_getElem? (i := 73) (by decide +kernel))) rfl
theorem k_74 : Cond.fieldLink R_S 40 R_S "latest" "I" ∈ lw_g := gk (List.mem_append_right _ (List.mem_of_getElem? (i := 74) (by decide +kernel))) rfl
theorem k_75 : Cond.fieldLink R_G 66 R_S "latest" "I" ∈ lw_g := gk (List.mem_append_right _ (List.mem_of_getElem? (i := 75) (by decide +kernel))) rfl
theorem k_76 : Cond.fieldLink R_S 43 R_S "fuel" "I" ∈ lw_g := gk (List.mem_append_right _ (List.mem_of_getElem? (i := 76) (by decide +kernel))) rfl
theorem k_77 : Cond.fieldLink R_S 46 R_S "begun" "I" ∈ lw_g := gk (List.mem_append_right _ (List.mem_of_getElem? (i := 77) (by decide +kernel))) rfl
theorem k_78 : Cond.fieldLink R_S 49 R_S "lastAnswer" "I" ∈ lw_g := gk (List.mem_append_right _ (List.mem_of_getElem? (i := 78) (by decide +kernel))) rfl
theorem k_79 : Cond.laysFinal R_S R_S "forest" "LGoalSearch$Forest;" ∈ lw_g := gk (List.mem_append_right _ (List.mem_of_getElem? (i := 79) (by decide +kernel))) rfl
theorem k_81 : Cond.laysFinal R_S R_S "stage" "[I" ∈ lw_g := gk (List.mem_append_right _ (List.mem_of_getElem? (i := 81) (by decide +kernel))) rfl
theorem k_83 : Cond.laysFinal R_S R_S "result" "[I" ∈ lw_g := gk (List.mem_append_right _ (List.mem_of_getElem? (i := 83) (by decide +kernel))) rfl
theorem k_85 : Cond.laysFinal R_S R_S "counter" "[J" ∈ lw_g := gk (List.mem_append_right _ (List.mem_of_getElem? (i := 85) (by decide +kernel))) rfl
theorem k_87 : Cond.laysFinal R_S R_S "variables" "[I" ∈ lw_g := gk (List.mem_append_right _ (List.mem_of_getElem? (i := 87) (by decide +kernel))) rfl
theorem k_89 : Cond.laysFinal R_S R_S "wrote" "[I" ∈ lw_g := gk (List.mem_append_right _ (List.mem_of_getElem? (i := 89) (by decide +kernel))) rfl
theorem k_91 : Cond.lays R_S R_S "writeCount" "I" ∈ lw_g := gk (List.mem_append_right _ (List.mem_of_getElem? (i := 91) (by decide +kernel))) rfl
theorem k_93 : Cond.lays R_S R_S "spent" "I" ∈ lw_g := gk (List.mem_append_right _ (List.mem_of_getElem? (i := 93) (by decide +kernel))) rfl
theorem k_95 : Cond.lays R_S R_S "latest" "I" ∈ lw_g := gk (List.mem_append_right _ (List.mem_of_getElem? (i := 95) (by decide +kernel))) rfl
theorem k_97 : Cond.lays R_S R_S "fuel" "I" ∈ lw_g := gk (List.mem_append_right _ (List.mem_of_getElem? (i := 97) (by decide +kernel))) rfl
theorem k_99 : Cond.lays R_S R_S "begun" "I" ∈ lw_g := gk (List.mem_append_right _ (List.mem_of_getElem? (i := 99) (by decide +kernel))) rfl
theorem k_101 : Cond.lays R_S R_S "lastAnswer" "I" ∈ lw_g := gk (List.mem_append_right _ (List.mem_of_getElem? (i := 101) (by decide +kernel))) rfl
theorem k_104 : Cond.arrayClass .long ∈ lw_g := gk (List.mem_append_right _ (List.mem_of_getElem? (i := 104) (by decide +kernel))) rfl
theorem k_105 : Cond.fieldLink R_G 10 R_G "search" "LGoalSearch$Search;" ∈ lw_g := gk (List.mem_append_right _ (List.mem_of_getElem? (i := 105) (by decide +kernel))) rfl
theorem k_106 : Cond.fieldLink R_G 20 R_G "forest" "LGoalSearch$Forest;" ∈ lw_g := gk (List.mem_append_right _ (List.mem_of_getElem? (i := 106) (by decide +kernel))) rfl
theorem k_107 : Cond.laysFinal R_G R_G "search" "LGoalSearch$Search;" ∈ lw_g := gk (List.mem_append_right _ (List.mem_of_getElem? (i := 107) (by decide +kernel))) rfl
theorem k_109 : Cond.laysFinal R_G R_G "forest" "LGoalSearch$Forest;" ∈ lw_g := gk (List.mem_append_right _ (List.mem_of_getElem? (i := 109) (by decide +kernel))) rfl
theorem k_112 : Cond.methodLink R_L 13 y_G_leaf ∈ lw_g := gk (List.mem_append_right _ (List.mem_of_getElem? (i := 112) (by decide +kernel))) rfl
theorem k_113 : Cond.instanceMethod y_G_leaf ∈ lw_g := gk (List.mem_append_right _ (List.mem_of_getElem? (i := 113) (by decide +kernel))) rfl
theorem k_114 : Cond.selects R_G y_G_leaf y_G_leaf ∈ lw_g := gk (List.mem_append_right _ (List.mem_of_getElem? (i := 114) (by decide +kernel))) rfl
theorem k_115 : Cond.code y_G_leaf b_G_leaf 4 (some .int) ∈ lw_g := gk (List.mem_append_right _ (List.mem_of_getElem? (i := 115) (by decide +kernel))) rfl
theorem k_116 : Cond.methodLink R_G 21 y_G_isBelow ∈ lw_g := gk (List.mem_append_right _ (List.mem_of_getElem? (i := 116) (by decide +kernel))) rfl
theorem k_117 : Cond.static y_G_isBelow ∈ lw_g := gk (List.mem_append_right _ (List.mem_of_getElem? (i := 117) (by decide +kernel))) rfl
theorem k_118 : Cond.code y_G_isBelow b_G_isBelow 2 (some .boolean) ∈ lw_g := gk (List.mem_append_right _ (List.mem_of_getElem? (i := 118) (by decide +kernel))) rfl
theorem k_119 : Cond.methodLink R_G 27 y_F_isFull ∈ lw_g := gk (List.mem_append_right _ (List.mem_of_getElem? (i := 119) (by decide +kernel))) rfl
theorem k_120 : Cond.instanceMethod y_F_isFull ∈ lw_g := gk (List.mem_append_right _ (List.mem_of_getElem? (i := 120) (by decide +kernel))) rfl
theorem k_121 : Cond.selects R_F y_F_isFull y_F_isFull ∈ lw_g := gk (List.mem_append_right _ (List.mem_of_getElem? (i := 121) (by decide +kernel))) rfl
theorem k_122 : Cond.code y_F_isFull b_F_isFull 1 (some .boolean) ∈ lw_g := gk (List.mem_append_right _ (List.mem_of_getElem? (i := 122) (by decide +kernel))) rfl
theorem k_123 : Cond.methodLink R_G 31 y_F_addLeaf ∈ lw_g := gk (List.mem_append_right _ (List.mem_of_getElem? (i := 123) (by decide +kernel))) rfl
theorem k_124 : Cond.instanceMethod y_F_addLeaf ∈ lw_g := gk (List.mem_append_right _ (List.mem_of_getElem? (i := 124) (by decide +kernel))) rfl
theorem k_125 : Cond.selects R_F y_F_addLeaf y_F_addLeaf ∈ lw_g := gk (List.mem_append_right _ (List.mem_of_getElem? (i := 125) (by decide +kernel))) rfl
theorem k_126 : Cond.code y_F_addLeaf b_F_addLeaf 4 (some .int) ∈ lw_g := gk (List.mem_append_right _ (List.mem_of_getElem? (i := 126) (by decide +kernel))) rfl
theorem k_127 : Cond.methodLink R_L 18 y_G_unary ∈ lw_g := gk (List.mem_append_right _ (List.mem_of_getElem? (i := 127) (by decide +kernel))) rfl
theorem k_128 : Cond.instanceMethod y_G_unary ∈ lw_g := gk (List.mem_append_right _ (List.mem_of_getElem? (i := 128) (by decide +kernel))) rfl
theorem k_129 : Cond.selects R_G y_G_unary y_G_unary ∈ lw_g := gk (List.mem_append_right _ (List.mem_of_getElem? (i := 129) (by decide +kernel))) rfl
theorem k_130 : Cond.code y_G_unary b_G_unary 5 (some .int) ∈ lw_g := gk (List.mem_append_right _ (List.mem_of_getElem? (i := 130) (by decide +kernel))) rfl
theorem k_131 : Cond.methodLink R_G 35 y_G_join ∈ lw_g := gk (List.mem_append_right _ (List.mem_of_getElem? (i := 131) (by decide +kernel))) rfl
theorem k_133 : Cond.instanceMethod y_G_join ∈ lw_g := gk (List.mem_append_right _ (List.mem_of_getElem? (i := 133) (by decide +kernel))) rfl
theorem k_134 : Cond.code y_G_join b_G_join 7 (some .int) ∈ lw_g := gk (List.mem_append_right _ (List.mem_of_getElem? (i := 134) (by decide +kernel))) rfl
theorem k_135 : Cond.methodLink R_G 43 y_F_has ∈ lw_g := gk (List.mem_append_right _ (List.mem_of_getElem? (i := 135) (by decide +kernel))) rfl
theorem k_136 : Cond.instanceMethod y_F_has ∈ lw_g := gk (List.mem_append_right _ (List.mem_of_getElem? (i := 136) (by decide +kernel))) rfl
theorem k_137 : Cond.selects R_F y_F_has y_F_has ∈ lw_g := gk (List.mem_append_right _ (List.mem_of_getElem? (i := 137) (by decide +kernel))) rfl
theorem k_138 : Cond.code y_F_has b_F_has 2 (some .boolean) ∈ lw_g := gk (List.mem_append_right _ (List.mem_of_getElem? (i := 138) (by decide +kernel))) rfl
theorem kn_139 : Cond.methodLinkNest R_F 36 y_G_isBelow R_G ∈ lw_tbl := List.mem_append_right _ (List.mem_of_getElem? (i := 139) (by decide +kernel))
theorem k_140 : Cond.methodLink R_G 80 y_F_depthOver ∈ lw_g := gk (List.mem_append_right _ (List.mem_of_getElem? (i := 140) (by decide +kernel))) rfl
theorem k_141 : Cond.instanceMethod y_F_depthOver ∈ lw_g := gk (List.mem_append_right _ (List.mem_of_getElem? (i := 141) (by decide +kernel))) rfl
theorem k_142 : Cond.selects R_F y_F_depthOver y_F_depthOver ∈ lw_g := gk (List.mem_append_right _ (List.mem_of_getElem? (i := 142) (by decide +kernel))) rfl
theorem k_143 : Cond.code y_F_depthOver b_F_depthOver 4 (some .int) ∈ lw_g := gk (List.mem_append_right _ (List.mem_of_getElem? (i := 143) (by decide +kernel))) rfl
theorem k_144 : Cond.methodLink R_F 42 Lib.Math.max.name ∈ lw_g := gk (List.mem_append_right _ (List.mem_of_getElem? (i := 144) (by decide +kernel))) rfl
theorem k_145 : Cond.static Lib.Math.max.name ∈ lw_g := gk (List.mem_append_right _ (List.mem_of_getElem? (i := 145) (by decide +kernel))) rfl
theorem k_146 : Cond.code Lib.Math.max.name Lib.Math.max.code 2 (some .int) ∈ lw_g := gk (List.mem_append_right _ (List.mem_of_getElem? (i := 146) (by decide +kernel))) rfl
theorem k_147 : Cond.methodLink R_G 84 y_F_addOver ∈ lw_g := gk (List.mem_append_right _ (List.mem_of_getElem? (i := 147) (by decide +kernel))) rfl
theorem k_148 : Cond.instanceMethod y_F_addOver ∈ lw_g := gk (List.mem_append_right _ (List.mem_of_getElem? (i := 148) (by decide +kernel))) rfl
theorem k_149 : Cond.selects R_F y_F_addOver y_F_addOver ∈ lw_g := gk (List.mem_append_right _ (List.mem_of_getElem? (i := 149) (by decide +kernel))) rfl
theorem k_150 : Cond.code y_F_addOver b_F_addOver 7 (some .int) ∈ lw_g := gk (List.mem_append_right _ (List.mem_of_getElem? (i := 150) (by decide +kernel))) rfl
theorem k_151 : Cond.methodLink R_F 48 y_F_addLeaf ∈ lw_g := gk (List.mem_append_right _ (List.mem_of_getElem? (i := 151) (by decide +kernel))) rfl
theorem k_152 : Cond.methodLink R_F 51 y_F_depthOver ∈ lw_g := gk (List.mem_append_right _ (List.mem_of_getElem? (i := 152) (by decide +kernel))) rfl
theorem k_153 : Cond.methodLink R_L 23 y_G_binary ∈ lw_g := gk (List.mem_append_right _ (List.mem_of_getElem? (i := 153) (by decide +kernel))) rfl
theorem k_154 : Cond.instanceMethod y_G_binary ∈ lw_g := gk (List.mem_append_right _ (List.mem_of_getElem? (i := 154) (by decide +kernel))) rfl
theorem k_155 : Cond.selects R_G y_G_binary y_G_binary ∈ lw_g := gk (List.mem_append_right _ (List.mem_of_getElem? (i := 155) (by decide +kernel))) rfl
theorem k_156 : Cond.code y_G_binary b_G_binary 4 (some .int) ∈ lw_g := gk (List.mem_append_right _ (List.mem_of_getElem? (i := 156) (by decide +kernel))) rfl
theorem k_157 : Cond.methodLink R_L 27 y_G_ternary ∈ lw_g := gk (List.mem_append_right _ (List.mem_of_getElem? (i := 157) (by decide +kernel))) rfl
theorem k_158 : Cond.instanceMethod y_G_ternary ∈ lw_g := gk (List.mem_append_right _ (List.mem_of_getElem? (i := 158) (by decide +kernel))) rfl
theorem k_159 : Cond.selects R_G y_G_ternary y_G_ternary ∈ lw_g := gk (List.mem_append_right _ (List.mem_of_getElem? (i := 159) (by decide +kernel))) rfl
theorem k_160 : Cond.code y_G_ternary b_G_ternary 5 (some .int) ∈ lw_g := gk (List.mem_append_right _ (List.mem_of_getElem? (i := 160) (by decide +kernel))) rfl
theorem k_161 : Cond.methodLink R_L 32 y_G_expressions ∈ lw_g := gk (List.mem_append_right _ (List.mem_of_getElem? (i := 161) (by decide +kernel))) rfl
theorem k_162 : Cond.instanceMethod y_G_expressions ∈ lw_g := gk (List.mem_append_right _ (List.mem_of_getElem? (i := 162) (by decide +kernel))) rfl
theorem k_163 : Cond.selects R_G y_G_expressions y_G_expressions ∈ lw_g := gk (List.mem_append_right _ (List.mem_of_getElem? (i := 163) (by decide +kernel))) rfl
theorem k_164 : Cond.code y_G_expressions b_G_expressions 1 (some .int) ∈ lw_g := gk (List.mem_append_right _ (List.mem_of_getElem? (i := 164) (by decide +kernel))) rfl
theorem k_165 : Cond.methodLink R_L 37 y_G_about ∈ lw_g := gk (List.mem_append_right _ (List.mem_of_getElem? (i := 165) (by decide +kernel))) rfl
theorem k_166 : Cond.instanceMethod y_G_about ∈ lw_g := gk (List.mem_append_right _ (List.mem_of_getElem? (i := 166) (by decide +kernel))) rfl
theorem k_167 : Cond.selects R_G y_G_about y_G_about ∈ lw_g := gk (List.mem_append_right _ (List.mem_of_getElem? (i := 167) (by decide +kernel))) rfl
theorem k_168 : Cond.code y_G_about b_G_about 2 (some .int) ∈ lw_g := gk (List.mem_append_right _ (List.mem_of_getElem? (i := 168) (by decide +kernel))) rfl
theorem k_169 : Cond.methodLink R_L 42 y_G_set ∈ lw_g := gk (List.mem_append_right _ (List.mem_of_getElem? (i := 169) (by decide +kernel))) rfl
theorem k_170 : Cond.instanceMethod y_G_set ∈ lw_g := gk (List.mem_append_right _ (List.mem_of_getElem? (i := 170) (by decide +kernel))) rfl
theorem k_171 : Cond.selects R_G y_G_set y_G_set ∈ lw_g := gk (List.mem_append_right _ (List.mem_of_getElem? (i := 171) (by decide +kernel))) rfl
theorem k_172 : Cond.code y_G_set b_G_set 4 (some .int) ∈ lw_g := gk (List.mem_append_right _ (List.mem_of_getElem? (i := 172) (by decide +kernel))) rfl
theorem k_173 : Cond.methodLink R_L 46 y_G_variable ∈ lw_g := gk (List.mem_append_right _ (List.mem_of_getElem? (i := 173) (by decide +kernel))) rfl
theorem k_174 : Cond.instanceMethod y_G_variable ∈ lw_g := gk (List.mem_append_right _ (List.mem_of_getElem? (i := 174) (by decide +kernel))) rfl
theorem k_175 : Cond.selects R_G y_G_variable y_G_variable ∈ lw_g := gk (List.mem_append_right _ (List.mem_of_getElem? (i := 175) (by decide +kernel))) rfl
theorem k_176 : Cond.code y_G_variable b_G_variable 2 (some .int) ∈ lw_g := gk (List.mem_append_right _ (List.mem_of_getElem? (i := 176) (by decide +kernel))) rfl
theorem k_177 : Cond.methodLink R_L 50 y_G_begin ∈ lw_g := gk (List.mem_append_right _ (List.mem_of_getElem? (i := 177) (by decide +kernel))) rfl
theorem k_178 : Cond.instanceMethod y_G_begin ∈ lw_g := gk (List.mem_append_right _ (List.mem_of_getElem? (i := 178) (by decide +kernel))) rfl
theorem k_179 : Cond.selects R_G y_G_begin y_G_begin ∈ lw_g := gk (List.mem_append_right _ (List.mem_of_getElem? (i := 179) (by decide +kernel))) rfl
theorem k_180 : Cond.code y_G_begin b_G_begin 3 (some .int) ∈ lw_g := gk (List.mem_append_right _ (List.mem_of_getElem? (i := 180) (by decide +kernel))) rfl
theorem k_181 : Cond.methodLink R_G 58 y_S_open ∈ lw_g := gk (List.mem_append_right _ (List.mem_of_getElem? (i := 181) (by decide +kernel))) rfl
theorem k_182 : Cond.instanceMethod y_S_open ∈ lw_g := gk (List.mem_append_right _ (List.mem_of_getElem? (i := 182) (by decide +kernel))) rfl
theorem k_183 : Cond.selects R_S y_S_open y_S_open ∈ lw_g := gk (List.mem_append_right _ (List.mem_of_getElem? (i := 183) (by decide +kernel))) rfl
theorem k_184 : Cond.code y_S_open b_S_open 3 none ∈ lw_g := gk (List.mem_append_right _ (List.mem_of_getElem? (i := 184) (by decide +kernel))) rfl
theorem k_185 : Cond.methodLink R_S 52 y_S_start ∈ lw_g := gk (List.mem_append_right _ (List.mem_of_getElem? (i := 185) (by decide +kernel))) rfl
theorem k_187 : Cond.instanceMethod y_S_start ∈ lw_g := gk (List.mem_append_right _ (List.mem_of_getElem? (i := 187) (by decide +kernel))) rfl
theorem k_188 : Cond.code y_S_start b_S_start 2 none ∈ lw_g := gk (List.mem_append_right _ (List.mem_of_getElem? (i := 188) (by decide +kernel))) rfl
theorem k_189 : Cond.methodLink R_L 54 y_G_next ∈ lw_g := gk (List.mem_append_right _ (List.mem_of_getElem? (i := 189) (by decide +kernel))) rfl
theorem k_190 : Cond.instanceMethod y_G_next ∈ lw_g := gk (List.mem_append_right _ (List.mem_of_getElem? (i := 190) (by decide +kernel))) rfl
theorem k_191 : Cond.selects R_G y_G_next y_G_next ∈ lw_g := gk (List.mem_append_right _ (List.mem_of_getElem? (i := 191) (by decide +kernel))) rfl
theorem k_192 : Cond.code y_G_next b_G_next 1 (some .int) ∈ lw_g := gk (List.mem_append_right _ (List.mem_of_getElem? (i := 192) (by decide +kernel))) rfl
theorem k_193 : Cond.methodLink R_G 62 y_S_proceed ∈ lw_g := gk (List.mem_append_right _ (List.mem_of_getElem? (i := 193) (by decide +kernel))) rfl
theorem k_194 : Cond.instanceMethod y_S_proceed ∈ lw_g := gk (List.mem_append_right _ (List.mem_of_getElem? (i := 194) (by decide +kernel))) rfl
theorem k_195 : Cond.selects R_S y_S_proceed y_S_proceed ∈ lw_g := gk (List.mem_append_right _ (List.mem_of_getElem? (i := 195) (by decide +kernel))) rfl
theorem k_196 : Cond.code y_S_proceed b_S_proceed 1 (some .int) ∈ lw_g := gk (List.mem_append_right _ (List.mem_of_getElem? (i := 196) (by decide +kernel))) rfl
theorem k_197 : Cond.methodLink R_S 56 y_S_ask ∈ lw_g := gk (List.mem_append_right _ (List.mem_of_getElem? (i := 197) (by decide +kernel))) rfl
theorem k_199 : Cond.instanceMethod y_S_ask ∈ lw_g := gk (List.mem_append_right _ (List.mem_of_getElem? (i := 199) (by decide +kernel))) rfl
theorem k_200 : Cond.code y_S_ask b_S_ask 2 (some .int) ∈ lw_g := gk (List.mem_append_right _ (List.mem_of_getElem? (i := 200) (by decide +kernel))) rfl
theorem k_201 : Cond.methodLink R_S 66 y_S_askLeaf ∈ lw_g := gk (List.mem_append_right _ (List.mem_of_getElem? (i := 201) (by decide +kernel))) rfl
theorem k_203 : Cond.instanceMethod y_S_askLeaf ∈ lw_g := gk (List.mem_append_right _ (List.mem_of_getElem? (i := 203) (by decide +kernel))) rfl
theorem k_204 : Cond.code y_S_askLeaf b_S_askLeaf 3 (some .int) ∈ lw_g := gk (List.mem_append_right _ (List.mem_of_getElem? (i := 204) (by decide +kernel))) rfl
theorem k_205 : Cond.methodLink R_S 119 y_S_giveForFuel ∈ lw_g := gk (List.mem_append_right _ (List.mem_of_getElem? (i := 205) (by decide +kernel))) rfl
theorem k_207 : Cond.instanceMethod y_S_giveForFuel ∈ lw_g := gk (List.mem_append_right _ (List.mem_of_getElem? (i := 207) (by decide +kernel))) rfl
theorem k_208 : Cond.code y_S_giveForFuel b_S_giveForFuel 3 (some .int) ∈ lw_g := gk (List.mem_append_right _ (List.mem_of_getElem? (i := 208) (by decide +kernel))) rfl
theorem k_209 : Cond.methodLink R_S 116 y_S_give ∈ lw_g := gk (List.mem_append_right _ (List.mem_of_getElem? (i := 209) (by decide +kernel))) rfl
theorem k_211 : Cond.instanceMethod y_S_give ∈ lw_g := gk (List.mem_append_right _ (List.mem_of_getElem? (i := 211) (by decide +kernel))) rfl
theorem k_212 : Cond.code y_S_give b_S_give 3 (some .int) ∈ lw_g := gk (List.mem_append_right _ (List.mem_of_getElem? (i := 212) (by decide +kernel))) rfl
theorem k_213 : Cond.methodLink R_S 70 y_S_askAssign ∈ lw_g := gk (List.mem_append_right _ (List.mem_of_getElem? (i := 213) (by decide +kernel))) rfl
theorem k_215 : Cond.instanceMethod y_S_askAssign ∈ lw_g := gk (List.mem_append_right _ (List.mem_of_getElem? (i := 215) (by decide +kernel))) rfl
theorem k_216 : Cond.code y_S_askAssign b_S_askAssign 3 (some .int) ∈ lw_g := gk (List.mem_append_right _ (List.mem_of_getElem? (i := 216) (by decide +kernel))) rfl
theorem k_217 : Cond.methodLink R_S 125 y_S_askX ∈ lw_g := gk (List.mem_append_right _ (List.mem_of_getElem? (i := 217) (by decide +kernel))) rfl
theorem k_219 : Cond.instanceMethod y_S_askX ∈ lw_g := gk (List.mem_append_right _ (List.mem_of_getElem? (i := 219) (by decide +kernel))) rfl
theorem k_220 : Cond.code y_S_askX b_S_askX 2 (some .int) ∈ lw_g := gk (List.mem_append_right _ (List.mem_of_getElem? (i := 220) (by decide +kernel))) rfl
theorem k_221 : Cond.methodLink R_S 91 y_S_handUp ∈ lw_g := gk (List.mem_append_right _ (List.mem_of_getElem? (i := 221) (by decide +kernel))) rfl
theorem k_223 : Cond.instanceMethod y_S_handUp ∈ lw_g := gk (List.mem_append_right _ (List.mem_of_getElem? (i := 223) (by decide +kernel))) rfl
theorem k_224 : Cond.code y_S_handUp b_S_handUp 4 (some .int) ∈ lw_g := gk (List.mem_append_right _ (List.mem_of_getElem? (i := 224) (by decide +kernel))) rfl
theorem k_225 : Cond.methodLink R_S 73 y_S_askWrite ∈ lw_g := gk (List.mem_append_right _ (List.mem_of_getElem? (i := 225) (by decide +kernel))) rfl
theorem k_227 : Cond.instanceMethod y_S_askWrite ∈ lw_g := gk (List.mem_append_right _ (List.mem_of_getElem? (i := 227) (by decide +kernel))) rfl
theorem k_228 : Cond.code y_S_askWrite b_S_askWrite 3 (some .int) ∈ lw_g := gk (List.mem_append_right _ (List.mem_of_getElem? (i := 228) (by decide +kernel))) rfl
theorem k_229 : Cond.methodLink R_S 76 y_S_askNot ∈ lw_g := gk (List.mem_append_right _ (List.mem_of_getElem? (i := 229) (by decide +kernel))) rfl
theorem k_231 : Cond.instanceMethod y_S_askNot ∈ lw_g := gk (List.mem_append_right _ (List.mem_of_getElem? (i := 231) (by decide +kernel))) rfl
theorem k_232 : Cond.code y_S_askNot b_S_askNot 3 (some .int) ∈ lw_g := gk (List.mem_append_right _ (List.mem_of_getElem? (i := 232) (by decide +kernel))) rfl
theorem k_233 : Cond.methodLink R_S 128 y_S_tryOnce ∈ lw_g := gk (List.mem_append_right _ (List.mem_of_getElem? (i := 233) (by decide +kernel))) rfl
theorem k_235 : Cond.instanceMethod y_S_tryOnce ∈ lw_g := gk (List.mem_append_right _ (List.mem_of_getElem? (i := 235) (by decide +kernel))) rfl
theorem k_236 : Cond.code y_S_tryOnce b_S_tryOnce 2 (some .int) ∈ lw_g := gk (List.mem_append_right _ (List.mem_of_getElem? (i := 236) (by decide +kernel))) rfl
theorem k_237 : Cond.methodLink R_S 79 y_S_askAgain ∈ lw_g := gk (List.mem_append_right _ (List.mem_of_getElem? (i := 237) (by decide +kernel))) rfl
theorem k_239 : Cond.instanceMethod y_S_askAgain ∈ lw_g := gk (List.mem_append_right _ (List.mem_of_getElem? (i := 239) (by decide +kernel))) rfl
theorem k_240 : Cond.code y_S_askAgain b_S_askAgain 5 (some .int) ∈ lw_g := gk (List.mem_append_right _ (List.mem_of_getElem? (i := 240) (by decide +kernel))) rfl
theorem k_241 : Cond.methodLink R_S 82 y_S_askEither ∈ lw_g := gk (List.mem_append_right _ (List.mem_of_getElem? (i := 241) (by decide +kernel))) rfl
theorem k_243 : Cond.instanceMethod y_S_askEither ∈ lw_g := gk (List.mem_append_right _ (List.mem_of_getElem? (i := 243) (by decide +kernel))) rfl
theorem k_244 : Cond.code y_S_askEither b_S_askEither 4 (some .int) ∈ lw_g := gk (List.mem_append_right _ (List.mem_of_getElem? (i := 244) (by decide +kernel))) rfl
theorem k_245 : Cond.methodLink R_S 88 y_S_askPair ∈ lw_g := gk (List.mem_append_right _ (List.mem_of_getElem? (i := 245) (by decide +kernel))) rfl
theorem k_247 : Cond.instanceMethod y_S_askPair ∈ lw_g := gk (List.mem_append_right _ (List.mem_of_getElem? (i := 247) (by decide +kernel))) rfl
theorem k_248 : Cond.code y_S_askPair b_S_askPair 5 (some .int) ∈ lw_g := gk (List.mem_append_right _ (List.mem_of_getElem? (i := 248) (by decide +kernel))) rfl
theorem k_249 : Cond.constant R_S 131 1000000 ∈ lw_g := gk (List.mem_append_right _ (List.mem_of_getElem? (i := 249) (by decide +kernel))) rfl
theorem k_250 : Cond.methodLink R_S 95 y_S_askArithmetic ∈ lw_g := gk (List.mem_append_right _ (List.mem_of_getElem? (i := 250) (by decide +kernel))) rfl
theorem k_252 : Cond.instanceMethod y_S_askArithmetic ∈ lw_g := gk (List.mem_append_right _ (List.mem_of_getElem? (i := 252) (by decide +kernel))) rfl
theorem k_253 : Cond.code y_S_askArithmetic b_S_askArithmetic 5 (some .int) ∈ lw_g := gk (List.mem_append_right _ (List.mem_of_getElem? (i := 253) (by decide +kernel))) rfl
theorem k_254 : Cond.methodLink R_S 132 y_S_calculate ∈ lw_g := gk (List.mem_append_right _ (List.mem_of_getElem? (i := 254) (by decide +kernel))) rfl
theorem k_255 : Cond.static y_S_calculate ∈ lw_g := gk (List.mem_append_right _ (List.mem_of_getElem? (i := 255) (by decide +kernel))) rfl
theorem k_256 : Cond.code y_S_calculate b_S_calculate 5 (some .long) ∈ lw_g := gk (List.mem_append_right _ (List.mem_of_getElem? (i := 256) (by decide +kernel))) rfl
theorem k_257 : Cond.methodLink R_S 98 y_S_askComparison ∈ lw_g := gk (List.mem_append_right _ (List.mem_of_getElem? (i := 257) (by decide +kernel))) rfl
theorem k_259 : Cond.instanceMethod y_S_askComparison ∈ lw_g := gk (List.mem_append_right _ (List.mem_of_getElem? (i := 259) (by decide +kernel))) rfl
theorem k_260 : Cond.code y_S_askComparison b_S_askComparison 5 (some .int) ∈ lw_g := gk (List.mem_append_right _ (List.mem_of_getElem? (i := 260) (by decide +kernel))) rfl
theorem k_261 : Cond.methodLink R_S 136 y_S_holds ∈ lw_g := gk (List.mem_append_right _ (List.mem_of_getElem? (i := 261) (by decide +kernel))) rfl
theorem k_262 : Cond.static y_S_holds ∈ lw_g := gk (List.mem_append_right _ (List.mem_of_getElem? (i := 262) (by decide +kernel))) rfl
theorem k_263 : Cond.code y_S_holds b_S_holds 3 (some .boolean) ∈ lw_g := gk (List.mem_append_right _ (List.mem_of_getElem? (i := 263) (by decide +kernel))) rfl
theorem k_264 : Cond.methodLink R_S 101 y_S_askLimit ∈ lw_g := gk (List.mem_append_right _ (List.mem_of_getElem? (i := 264) (by decide +kernel))) rfl
theorem k_266 : Cond.instanceMethod y_S_askLimit ∈ lw_g := gk (List.mem_append_right _ (List.mem_of_getElem? (i := 266) (by decide +kernel))) rfl
theorem k_267 : Cond.code y_S_askLimit b_S_askLimit 5 (some .int) ∈ lw_g := gk (List.mem_append_right _ (List.mem_of_getElem? (i := 267) (by decide +kernel))) rfl
theorem k_268 : Cond.methodLink R_S 140 y_S_askBound ∈ lw_g := gk (List.mem_append_right _ (List.mem_of_getElem? (i := 268) (by decide +kernel))) rfl
theorem k_270 : Cond.instanceMethod y_S_askBound ∈ lw_g := gk (List.mem_append_right _ (List.mem_of_getElem? (i := 270) (by decide +kernel))) rfl
theorem k_271 : Cond.code y_S_askBound b_S_askBound 4 (some .int) ∈ lw_g := gk (List.mem_append_right _ (List.mem_of_getElem? (i := 271) (by decide +kernel))) rfl
theorem k_272 : Cond.methodLink R_S 104 y_S_askEveryOrWhile ∈ lw_g := gk (List.mem_append_right _ (List.mem_of_getElem? (i := 272) (by decide +kernel))) rfl
theorem k_274 : Cond.instanceMethod y_S_askEveryOrWhile ∈ lw_g := gk (List.mem_append_right _ (List.mem_of_getElem? (i := 274) (by decide +kernel))) rfl
theorem k_275 : Cond.code y_S_askEveryOrWhile b_S_askEveryOrWhile 5 (some .int) ∈ lw_g := gk (List.mem_append_right _ (List.mem_of_getElem? (i := 275) (by decide +kernel))) rfl
theorem k_276 : Cond.methodLink R_S 107 y_S_askThen ∈ lw_g := gk (List.mem_append_right _ (List.mem_of_getElem? (i := 276) (by decide +kernel))) rfl
theorem k_278 : Cond.instanceMethod y_S_askThen ∈ lw_g := gk (List.mem_append_right _ (List.mem_of_getElem? (i := 278) (by decide +kernel))) rfl
theorem k_279 : Cond.code y_S_askThen b_S_askThen 4 (some .int) ∈ lw_g := gk (List.mem_append_right _ (List.mem_of_getElem? (i := 279) (by decide +kernel))) rfl
theorem k_280 : Cond.methodLink R_S 110 y_S_askTo ∈ lw_g := gk (List.mem_append_right _ (List.mem_of_getElem? (i := 280) (by decide +kernel))) rfl
theorem k_282 : Cond.instanceMethod y_S_askTo ∈ lw_g := gk (List.mem_append_right _ (List.mem_of_getElem? (i := 282) (by decide +kernel))) rfl
theorem k_283 : Cond.code y_S_askTo b_S_askTo 4 (some .int) ∈ lw_g := gk (List.mem_append_right _ (List.mem_of_getElem? (i := 283) (by decide +kernel))) rfl
theorem k_284 : Cond.methodLink R_S 149 y_S_askTriple ∈ lw_g := gk (List.mem_append_right _ (List.mem_of_getElem? (i := 284) (by decide +kernel))) rfl
theorem k_286 : Cond.instanceMethod y_S_askTriple ∈ lw_g := gk (List.mem_append_right _ (List.mem_of_getElem? (i := 286) (by decide +kernel))) rfl
theorem k_287 : Cond.code y_S_askTriple b_S_askTriple 5 (some .int) ∈ lw_g := gk (List.mem_append_right _ (List.mem_of_getElem? (i := 287) (by decide +kernel))) rfl
theorem k_288 : Cond.methodLink R_S 152 y_S_isUpToEnd ∈ lw_g := gk (List.mem_append_right _ (List.mem_of_getElem? (i := 288) (by decide +kernel))) rfl
theorem k_290 : Cond.instanceMethod y_S_isUpToEnd ∈ lw_g := gk (List.mem_append_right _ (List.mem_of_getElem? (i := 290) (by decide +kernel))) rfl
theorem k_291 : Cond.code y_S_isUpToEnd b_S_isUpToEnd 3 (some .boolean) ∈ lw_g := gk (List.mem_append_right _ (List.mem_of_getElem? (i := 291) (by decide +kernel))) rfl
theorem k_292 : Cond.methodLink R_S 113 y_S_askIf ∈ lw_g := gk (List.mem_append_right _ (List.mem_of_getElem? (i := 292) (by decide +kernel))) rfl
theorem k_294 : Cond.instanceMethod y_S_askIf ∈ lw_g := gk (List.mem_append_right _ (List.mem_of_getElem? (i := 294) (by decide +kernel))) rfl
theorem k_295 : Cond.code y_S_askIf b_S_askIf 3 (some .int) ∈ lw_g := gk (List.mem_append_right _ (List.mem_of_getElem? (i := 295) (by decide +kernel))) rfl
theorem k_296 : Cond.methodLink R_S 143 y_S_branch ∈ lw_g := gk (List.mem_append_right _ (List.mem_of_getElem? (i := 296) (by decide +kernel))) rfl
theorem k_298 : Cond.instanceMethod y_S_branch ∈ lw_g := gk (List.mem_append_right _ (List.mem_of_getElem? (i := 298) (by decide +kernel))) rfl
theorem k_299 : Cond.code y_S_branch b_S_branch 2 (some .int) ∈ lw_g := gk (List.mem_append_right _ (List.mem_of_getElem? (i := 299) (by decide +kernel))) rfl
theorem k_300 : Cond.methodLink R_L 58 y_G_skip ∈ lw_g := gk (List.mem_append_right _ (List.mem_of_getElem? (i := 300) (by decide +kernel))) rfl
theorem k_301 : Cond.instanceMethod y_G_skip ∈ lw_g := gk (List.mem_append_right _ (List.mem_of_getElem? (i := 301) (by decide +kernel))) rfl
theorem k_302 : Cond.selects R_G y_G_skip y_G_skip ∈ lw_g := gk (List.mem_append_right _ (List.mem_of_getElem? (i := 302) (by decide +kernel))) rfl
theorem k_303 : Cond.code y_G_skip b_G_skip 3 (some .int) ∈ lw_g := gk (List.mem_append_right _ (List.mem_of_getElem? (i := 303) (by decide +kernel))) rfl
theorem k_304 : Cond.methodLink R_L 62 y_G_value ∈ lw_g := gk (List.mem_append_right _ (List.mem_of_getElem? (i := 304) (by decide +kernel))) rfl
theorem k_305 : Cond.instanceMethod y_G_value ∈ lw_g := gk (List.mem_append_right _ (List.mem_of_getElem? (i := 305) (by decide +kernel))) rfl
theorem k_306 : Cond.selects R_G y_G_value y_G_value ∈ lw_g := gk (List.mem_append_right _ (List.mem_of_getElem? (i := 306) (by decide +kernel))) rfl
theorem k_307 : Cond.code y_G_value b_G_value 1 (some .int) ∈ lw_g := gk (List.mem_append_right _ (List.mem_of_getElem? (i := 307) (by decide +kernel))) rfl
theorem k_308 : Cond.methodLink R_L 66 y_G_writes ∈ lw_g := gk (List.mem_append_right _ (List.mem_of_getElem? (i := 308) (by decide +kernel))) rfl
theorem k_309 : Cond.instanceMethod y_G_writes ∈ lw_g := gk (List.mem_append_right _ (List.mem_of_getElem? (i := 309) (by decide +kernel))) rfl
theorem k_310 : Cond.selects R_G y_G_writes y_G_writes ∈ lw_g := gk (List.mem_append_right _ (List.mem_of_getElem? (i := 310) (by decide +kernel))) rfl
theorem k_311 : Cond.code y_G_writes b_G_writes 1 (some .int) ∈ lw_g := gk (List.mem_append_right _ (List.mem_of_getElem? (i := 311) (by decide +kernel))) rfl
theorem k_312 : Cond.methodLink R_L 70 y_G_written ∈ lw_g := gk (List.mem_append_right _ (List.mem_of_getElem? (i := 312) (by decide +kernel))) rfl
theorem k_313 : Cond.instanceMethod y_G_written ∈ lw_g := gk (List.mem_append_right _ (List.mem_of_getElem? (i := 313) (by decide +kernel))) rfl
theorem k_314 : Cond.selects R_G y_G_written y_G_written ∈ lw_g := gk (List.mem_append_right _ (List.mem_of_getElem? (i := 314) (by decide +kernel))) rfl
theorem k_315 : Cond.code y_G_written b_G_written 2 (some .long) ∈ lw_g := gk (List.mem_append_right _ (List.mem_of_getElem? (i := 315) (by decide +kernel))) rfl
theorem k_316 : Cond.constantLong R_G 75 4294967296 ∈ lw_g := gk (List.mem_append_right _ (List.mem_of_getElem? (i := 316) (by decide +kernel))) rfl
theorem k_317 : Cond.methodLink R_L 75 y_G_cost ∈ lw_g := gk (List.mem_append_right _ (List.mem_of_getElem? (i := 317) (by decide +kernel))) rfl
theorem k_318 : Cond.instanceMethod y_G_cost ∈ lw_g := gk (List.mem_append_right _ (List.mem_of_getElem? (i := 318) (by decide +kernel))) rfl
theorem k_319 : Cond.selects R_G y_G_cost y_G_cost ∈ lw_g := gk (List.mem_append_right _ (List.mem_of_getElem? (i := 319) (by decide +kernel))) rfl
theorem k_320 : Cond.code y_G_cost b_G_cost 1 (some .int) ∈ lw_g := gk (List.mem_append_right _ (List.mem_of_getElem? (i := 320) (by decide +kernel))) rfl
theorem k_321 : Cond.classLink R_L 10 R_M ∈ lw_g := gk (List.mem_append_right _ (List.mem_of_getElem? (i := 321) (by decide +kernel))) rfl
theorem k_322 : Cond.instantiable R_M 20 ∈ lw_g := gk (List.mem_append_right _ (List.mem_of_getElem? (i := 322) (by decide +kernel))) rfl
theorem k_323 : Cond.methodLink R_L 12 y_M_init ∈ lw_g := gk (List.mem_append_right _ (List.mem_of_getElem? (i := 323) (by decide +kernel))) rfl
theorem k_324 : Cond.instanceMethod y_M_init ∈ lw_g := gk (List.mem_append_right _ (List.mem_of_getElem? (i := 324) (by decide +kernel))) rfl
theorem k_325 : Cond.code y_M_init b_M_init 1 none ∈ lw_g := gk (List.mem_append_right _ (List.mem_of_getElem? (i := 325) (by decide +kernel))) rfl
theorem k_326 : Cond.methodLink R_M 1 objectInit ∈ lw_g := gk (List.mem_append_right _ (List.mem_of_getElem? (i := 326) (by decide +kernel))) rfl
theorem k_327 : Cond.fieldLink R_M 46 R_M "count" "I" ∈ lw_g := gk (List.mem_append_right _ (List.mem_of_getElem? (i := 327) (by decide +kernel))) rfl
theorem k_328 : Cond.fieldLink R_M 7 R_M "kind" "[I" ∈ lw_g := gk (List.mem_append_right _ (List.mem_of_getElem? (i := 328) (by decide +kernel))) rfl
theorem k_329 : Cond.fieldLink R_M 13 R_M "number" "[I" ∈ lw_g := gk (List.mem_append_right _ (List.mem_of_getElem? (i := 329) (by decide +kernel))) rfl
theorem k_330 : Cond.fieldLink R_M 16 R_M "part" "[I" ∈ lw_g := gk (List.mem_append_right _ (List.mem_of_getElem? (i := 330) (by decide +kernel))) rfl
theorem k_331 : Cond.fieldLink R_M 19 R_M "depth" "[I" ∈ lw_g := gk (List.mem_append_right _ (List.mem_of_getElem? (i := 331) (by decide +kernel))) rfl
theorem k_332 : Cond.fieldLink R_M 22 R_M "used" "[Z" ∈ lw_g := gk (List.mem_append_right _ (List.mem_of_getElem? (i := 332) (by decide +kernel))) rfl
theorem k_333 : Cond.fieldLink R_M 26 R_M "phase" "[I" ∈ lw_g := gk (List.mem_append_right _ (List.mem_of_getElem? (i := 333) (by decide +kernel))) rfl
theorem k_334 : Cond.fieldLink R_M 29 R_M "kept" "[J" ∈ lw_g := gk (List.mem_append_right _ (List.mem_of_getElem? (i := 334) (by decide +kernel))) rfl
theorem k_335 : Cond.fieldLink R_M 33 R_M "variable" "[I" ∈ lw_g := gk (List.mem_append_right _ (List.mem_of_getElem? (i := 335) (by decide +kernel))) rfl
theorem k_336 : Cond.fieldLink R_M 36 R_M "texts" "[I" ∈ lw_g := gk (List.mem_append_right _ (List.mem_of_getElem? (i := 336) (by decide +kernel))) rfl
theorem k_337 : Cond.fieldLink R_M 73 R_M "textCount" "I" ∈ lw_g := gk (List.mem_append_right _ (List.mem_of_getElem? (i := 337) (by decide +kernel))) rfl
theorem k_338 : Cond.fieldLink R_M 39 R_M "begun" "I" ∈ lw_g := gk (List.mem_append_right _ (List.mem_of_getElem? (i := 338) (by decide +kernel))) rfl
theorem k_339 : Cond.fieldLink R_M 61 R_M "end" "I" ∈ lw_g := gk (List.mem_append_right _ (List.mem_of_getElem? (i := 339) (by decide +kernel))) rfl
theorem k_340 : Cond.fieldLink R_M 64 R_M "fuel" "I" ∈ lw_g := gk (List.mem_append_right _ (List.mem_of_getElem? (i := 340) (by decide +kernel))) rfl
theorem k_341 : Cond.fieldLink R_M 67 R_M "cost" "I" ∈ lw_g := gk (List.mem_append_right _ (List.mem_of_getElem? (i := 341) (by decide +kernel))) rfl
theorem k_342 : Cond.fieldLink R_M 70 R_M "latest" "I" ∈ lw_g := gk (List.mem_append_right _ (List.mem_of_getElem? (i := 342) (by decide +kernel))) rfl
theorem k_343 : Cond.fieldLink R_M 43 R_M "stack" "[I" ∈ lw_g := gk (List.mem_append_right _ (List.mem_of_getElem? (i := 343) (by decide +kernel))) rfl
theorem k_344 : Cond.fieldLink R_M 86 R_M "top" "I" ∈ lw_g := gk (List.mem_append_right _ (List.mem_of_getElem? (i := 344) (by decide +kernel))) rfl
theorem k_345 : Cond.fieldLink R_M 76 R_M "given" "I" ∈ lw_g := gk (List.mem_append_right _ (List.mem_of_getElem? (i := 345) (by decide +kernel))) rfl
theorem k_346 : Cond.fieldLink R_M 79 R_M "error" "I" ∈ lw_g := gk (List.mem_append_right _ (List.mem_of_getElem? (i := 346) (by decide +kernel))) rfl
theorem k_347 : Cond.lays R_M R_M "count" "I" ∈ lw_g := gk (List.mem_append_right _ (List.mem_of_getElem? (i := 347) (by decide +kernel))) rfl
theorem k_349 : Cond.laysFinal R_M R_M "kind" "[I" ∈ lw_g := gk (List.mem_append_right _ (List.mem_of_getElem? (i := 349) (by decide +kernel))) rfl
theorem k_351 : Cond.laysFinal R_M R_M "number" "[I" ∈ lw_g := gk (List.mem_append_right _ (List.mem_of_getElem? (i := 351) (by decide +kernel))) rfl
theorem k_353 : Cond.laysFinal R_M R_M "part" "[I" ∈ lw_g := gk (List.mem_append_right _ (List.mem_of_getElem? (i := 353) (by decide +kernel))) rfl
theorem k_355 : Cond.laysFinal R_M R_M "depth" "[I" ∈ lw_g := gk (List.mem_append_right _ (List.mem_of_getElem? (i := 355) (by decide +kernel))) rfl
theorem k_357 : Cond.laysFinal R_M R_M "used" "[Z" ∈ lw_g := gk (List.mem_append_right _ (List.mem_of_getElem? (i := 357) (by decide +kernel))) rfl
theorem k_359 : Cond.laysFinal R_M R_M "phase" "[I" ∈ lw_g := gk (List.mem_append_right _ (List.mem_of_getElem? (i := 359) (by decide +kernel))) rfl
theorem k_361 : Cond.laysFinal R_M R_M "kept" "[J" ∈ lw_g := gk (List.mem_append_right _ (List.mem_of_getElem? (i := 361) (by decide +kernel))) rfl
theorem k_363 : Cond.laysFinal R_M R_M "variable" "[I" ∈ lw_g := gk (List.mem_append_right _ (List.mem_of_getElem? (i := 363) (by decide +kernel))) rfl
theorem k_365 : Cond.laysFinal R_M R_M "texts" "[I" ∈ lw_g := gk (List.mem_append_right _ (List.mem_of_getElem? (i := 365) (by decide +kernel))) rfl
theorem k_367 : Cond.lays R_M R_M "textCount" "I" ∈ lw_g := gk (List.mem_append_right _ (List.mem_of_getElem? (i := 367) (by decide +kernel))) rfl
theorem k_369 : Cond.lays R_M R_M "begun" "I" ∈ lw_g := gk (List.mem_append_right _ (List.mem_of_getElem? (i := 369) (by decide +kernel))) rfl
theorem k_371 : Cond.lays R_M R_M "end" "I" ∈ lw_g := gk (List.mem_append_right _ (List.mem_of_getElem? (i := 371) (by decide +kernel))) rfl
theorem k_373 : Cond.lays R_M R_M "fuel" "I" ∈ lw_g := gk (List.mem_append_right _ (List.mem_of_getElem? (i := 373) (by decide +kernel))) rfl
theorem k_375 : Cond.lays R_M R_M "cost" "I" ∈ lw_g := gk (List.mem_append_right _ (List.mem_of_getElem? (i := 375) (by decide +kernel))) rfl
theorem k_377 : Cond.lays R_M R_M "latest" "I" ∈ lw_g := gk (List.mem_append_right _ (List.mem_of_getElem? (i := 377) (by decide +kernel))) rfl
theorem k_379 : Cond.laysFinal R_M R_M "stack" "[I" ∈ lw_g := gk (List.mem_append_right _ (List.mem_of_getElem? (i := 379) (by decide +kernel))) rfl
theorem k_381 : Cond.lays R_M R_M "top" "I" ∈ lw_g := gk (List.mem_append_right _ (List.mem_of_getElem? (i := 381) (by decide +kernel))) rfl
theorem k_383 : Cond.lays R_M R_M "given" "I" ∈ lw_g := gk (List.mem_append_right _ (List.mem_of_getElem? (i := 383) (by decide +kernel))) rfl
theorem k_385 : Cond.lays R_M R_M "error" "I" ∈ lw_g := gk (List.mem_append_right _ (List.mem_of_getElem? (i := 385) (by decide +kernel))) rfl
theorem k_388 : Cond.methodLink R_L 17 y_M_leaf ∈ lw_g := gk (List.mem_append_right _ (List.mem_of_getElem? (i := 388) (by decide +kernel))) rfl
theorem k_389 : Cond.instanceMethod y_M_leaf ∈ lw_g := gk (List.mem_append_right _ (List.mem_of_getElem? (i := 389) (by decide +kernel))) rfl
theorem k_390 : Cond.selects R_M y_M_leaf y_M_leaf ∈ lw_g := gk (List.mem_append_right _ (List.mem_of_getElem? (i := 390) (by decide +kernel))) rfl
theorem k_391 : Cond.code y_M_leaf b_M_leaf 3 (some .int) ∈ lw_g := gk (List.mem_append_right _ (List.mem_of_getElem? (i := 391) (by decide +kernel))) rfl
theorem k_392 : Cond.methodLink R_M 49 y_M_within ∈ lw_g := gk (List.mem_append_right _ (List.mem_of_getElem? (i := 392) (by decide +kernel))) rfl
theorem k_393 : Cond.static y_M_within ∈ lw_g := gk (List.mem_append_right _ (List.mem_of_getElem? (i := 393) (by decide +kernel))) rfl
theorem k_394 : Cond.code y_M_within b_M_within 3 (some .boolean) ∈ lw_g := gk (List.mem_append_right _ (List.mem_of_getElem? (i := 394) (by decide +kernel))) rfl
theorem k_395 : Cond.methodLink R_M 53 y_M_make ∈ lw_g := gk (List.mem_append_right _ (List.mem_of_getElem? (i := 395) (by decide +kernel))) rfl
theorem k_397 : Cond.instanceMethod y_M_make ∈ lw_g := gk (List.mem_append_right _ (List.mem_of_getElem? (i := 397) (by decide +kernel))) rfl
theorem k_398 : Cond.code y_M_make b_M_make 8 (some .int) ∈ lw_g := gk (List.mem_append_right _ (List.mem_of_getElem? (i := 398) (by decide +kernel))) rfl
theorem k_399 : Cond.methodLink R_L 22 y_M_unary ∈ lw_g := gk (List.mem_append_right _ (List.mem_of_getElem? (i := 399) (by decide +kernel))) rfl
theorem k_400 : Cond.instanceMethod y_M_unary ∈ lw_g := gk (List.mem_append_right _ (List.mem_of_getElem? (i := 400) (by decide +kernel))) rfl
theorem k_401 : Cond.selects R_M y_M_unary y_M_unary ∈ lw_g := gk (List.mem_append_right _ (List.mem_of_getElem? (i := 401) (by decide +kernel))) rfl
theorem k_402 : Cond.code y_M_unary b_M_unary 4 (some .int) ∈ lw_g := gk (List.mem_append_right _ (List.mem_of_getElem? (i := 402) (by decide +kernel))) rfl
theorem k_403 : Cond.methodLink R_M 57 y_M_is ∈ lw_g := gk (List.mem_append_right _ (List.mem_of_getElem? (i := 403) (by decide +kernel))) rfl
theorem k_405 : Cond.instanceMethod y_M_is ∈ lw_g := gk (List.mem_append_right _ (List.mem_of_getElem? (i := 405) (by decide +kernel))) rfl
theorem k_406 : Cond.code y_M_is b_M_is 2 (some .boolean) ∈ lw_g := gk (List.mem_append_right _ (List.mem_of_getElem? (i := 406) (by decide +kernel))) rfl
theorem k_407 : Cond.methodLink R_L 26 y_M_binary ∈ lw_g := gk (List.mem_append_right _ (List.mem_of_getElem? (i := 407) (by decide +kernel))) rfl
theorem k_408 : Cond.instanceMethod y_M_binary ∈ lw_g := gk (List.mem_append_right _ (List.mem_of_getElem? (i := 408) (by decide +kernel))) rfl
theorem k_409 : Cond.selects R_M y_M_binary y_M_binary ∈ lw_g := gk (List.mem_append_right _ (List.mem_of_getElem? (i := 409) (by decide +kernel))) rfl
theorem k_410 : Cond.code y_M_binary b_M_binary 5 (some .int) ∈ lw_g := gk (List.mem_append_right _ (List.mem_of_getElem? (i := 410) (by decide +kernel))) rfl
theorem k_411 : Cond.methodLink R_L 31 y_M_ternary ∈ lw_g := gk (List.mem_append_right _ (List.mem_of_getElem? (i := 411) (by decide +kernel))) rfl
theorem k_412 : Cond.instanceMethod y_M_ternary ∈ lw_g := gk (List.mem_append_right _ (List.mem_of_getElem? (i := 412) (by decide +kernel))) rfl
theorem k_413 : Cond.selects R_M y_M_ternary y_M_ternary ∈ lw_g := gk (List.mem_append_right _ (List.mem_of_getElem? (i := 413) (by decide +kernel))) rfl
theorem k_414 : Cond.code y_M_ternary b_M_ternary 6 (some .int) ∈ lw_g := gk (List.mem_append_right _ (List.mem_of_getElem? (i := 414) (by decide +kernel))) rfl
theorem k_415 : Cond.methodLink R_L 36 y_M_expressions ∈ lw_g := gk (List.mem_append_right _ (List.mem_of_getElem? (i := 415) (by decide +kernel))) rfl
theorem k_416 : Cond.instanceMethod y_M_expressions ∈ lw_g := gk (List.mem_append_right _ (List.mem_of_getElem? (i := 416) (by decide +kernel))) rfl
theorem k_417 : Cond.selects R_M y_M_expressions y_M_expressions ∈ lw_g := gk (List.mem_append_right _ (List.mem_of_getElem? (i := 417) (by decide +kernel))) rfl
theorem k_418 : Cond.code y_M_expressions b_M_expressions 1 (some .int) ∈ lw_g := gk (List.mem_append_right _ (List.mem_of_getElem? (i := 418) (by decide +kernel))) rfl
theorem k_419 : Cond.methodLink R_L 41 y_M_about ∈ lw_g := gk (List.mem_append_right _ (List.mem_of_getElem? (i := 419) (by decide +kernel))) rfl
theorem k_420 : Cond.instanceMethod y_M_about ∈ lw_g := gk (List.mem_append_right _ (List.mem_of_getElem? (i := 420) (by decide +kernel))) rfl
theorem k_421 : Cond.selects R_M y_M_about y_M_about ∈ lw_g := gk (List.mem_append_right _ (List.mem_of_getElem? (i := 421) (by decide +kernel))) rfl
theorem k_422 : Cond.code y_M_about b_M_about 2 (some .int) ∈ lw_g := gk (List.mem_append_right _ (List.mem_of_getElem? (i := 422) (by decide +kernel))) rfl
theorem k_423 : Cond.methodLink R_L 45 y_M_set ∈ lw_g := gk (List.mem_append_right _ (List.mem_of_getElem? (i := 423) (by decide +kernel))) rfl
theorem k_424 : Cond.instanceMethod y_M_set ∈ lw_g := gk (List.mem_append_right _ (List.mem_of_getElem? (i := 424) (by decide +kernel))) rfl
theorem k_425 : Cond.selects R_M y_M_set y_M_set ∈ lw_g := gk (List.mem_append_right _ (List.mem_of_getElem? (i := 425) (by decide +kernel))) rfl
theorem k_426 : Cond.code y_M_set b_M_set 4 (some .int) ∈ lw_g := gk (List.mem_append_right _ (List.mem_of_getElem? (i := 426) (by decide +kernel))) rfl
theorem k_427 : Cond.methodLink R_L 49 y_M_variable ∈ lw_g := gk (List.mem_append_right _ (List.mem_of_getElem? (i := 427) (by decide +kernel))) rfl
theorem k_428 : Cond.instanceMethod y_M_variable ∈ lw_g := gk (List.mem_append_right _ (List.mem_of_getElem? (i := 428) (by decide +kernel))) rfl
theorem k_429 : Cond.selects R_M y_M_variable y_M_variable ∈ lw_g := gk (List.mem_append_right _ (List.mem_of_getElem? (i := 429) (by decide +kernel))) rfl
theorem k_430 : Cond.code y_M_variable b_M_variable 2 (some .int) ∈ lw_g := gk (List.mem_append_right _ (List.mem_of_getElem? (i := 430) (by decide +kernel))) rfl
theorem k_431 : Cond.methodLink R_L 53 y_M_begin ∈ lw_g := gk (List.mem_append_right _ (List.mem_of_getElem? (i := 431) (by decide +kernel))) rfl
theorem k_432 : Cond.instanceMethod y_M_begin ∈ lw_g := gk (List.mem_append_right _ (List.mem_of_getElem? (i := 432) (by decide +kernel))) rfl
theorem k_433 : Cond.selects R_M y_M_begin y_M_begin ∈ lw_g := gk (List.mem_append_right _ (List.mem_of_getElem? (i := 433) (by decide +kernel))) rfl
theorem k_434 : Cond.code y_M_begin b_M_begin 3 (some .int) ∈ lw_g := gk (List.mem_append_right _ (List.mem_of_getElem? (i := 434) (by decide +kernel))) rfl
theorem k_435 : Cond.methodLink R_L 57 y_M_next ∈ lw_g := gk (List.mem_append_right _ (List.mem_of_getElem? (i := 435) (by decide +kernel))) rfl
theorem k_436 : Cond.instanceMethod y_M_next ∈ lw_g := gk (List.mem_append_right _ (List.mem_of_getElem? (i := 436) (by decide +kernel))) rfl
theorem k_437 : Cond.selects R_M y_M_next y_M_next ∈ lw_g := gk (List.mem_append_right _ (List.mem_of_getElem? (i := 437) (by decide +kernel))) rfl
theorem k_438 : Cond.code y_M_next b_M_next 5 (some .int) ∈ lw_g := gk (List.mem_append_right _ (List.mem_of_getElem? (i := 438) (by decide +kernel))) rfl
theorem k_439 : Cond.constant R_M 124 10000000 ∈ lw_g := gk (List.mem_append_right _ (List.mem_of_getElem? (i := 439) (by decide +kernel))) rfl
theorem k_440 : Cond.methodLink R_M 125 y_M_step ∈ lw_g := gk (List.mem_append_right _ (List.mem_of_getElem? (i := 440) (by decide +kernel))) rfl
theorem k_442 : Cond.instanceMethod y_M_step ∈ lw_g := gk (List.mem_append_right _ (List.mem_of_getElem? (i := 442) (by decide +kernel))) rfl
theorem k_443 : Cond.code y_M_step b_M_step 4 (some .int) ∈ lw_g := gk (List.mem_append_right _ (List.mem_of_getElem? (i := 443) (by decide +kernel))) rfl
theorem k_444 : Cond.methodLink R_M 93 y_M_leafStep ∈ lw_g := gk (List.mem_append_right _ (List.mem_of_getElem? (i := 444) (by decide +kernel))) rfl
theorem k_446 : Cond.instanceMethod y_M_leafStep ∈ lw_g := gk (List.mem_append_right _ (List.mem_of_getElem? (i := 446) (by decide +kernel))) rfl
theorem k_447 : Cond.code y_M_leafStep b_M_leafStep 2 (some .int) ∈ lw_g := gk (List.mem_append_right _ (List.mem_of_getElem? (i := 447) (by decide +kernel))) rfl
theorem k_448 : Cond.methodLink R_M 112 y_M_paid ∈ lw_g := gk (List.mem_append_right _ (List.mem_of_getElem? (i := 448) (by decide +kernel))) rfl
theorem k_450 : Cond.instanceMethod y_M_paid ∈ lw_g := gk (List.mem_append_right _ (List.mem_of_getElem? (i := 450) (by decide +kernel))) rfl
theorem k_451 : Cond.code y_M_paid b_M_paid 2 (some .int) ∈ lw_g := gk (List.mem_append_right _ (List.mem_of_getElem? (i := 451) (by decide +kernel))) rfl
theorem k_452 : Cond.methodLink R_M 82 y_M_give ∈ lw_g := gk (List.mem_append_right _ (List.mem_of_getElem? (i := 452) (by decide +kernel))) rfl
theorem k_454 : Cond.instanceMethod y_M_give ∈ lw_g := gk (List.mem_append_right _ (List.mem_of_getElem? (i := 454) (by decide +kernel))) rfl
theorem k_455 : Cond.code y_M_give b_M_give 2 (some .int) ∈ lw_g := gk (List.mem_append_right _ (List.mem_of_getElem? (i := 455) (by decide +kernel))) rfl
theorem k_456 : Cond.methodLink R_M 96 y_M_unaryStep ∈ lw_g := gk (List.mem_append_right _ (List.mem_of_getElem? (i := 456) (by decide +kernel))) rfl
theorem k_458 : Cond.instanceMethod y_M_unaryStep ∈ lw_g := gk (List.mem_append_right _ (List.mem_of_getElem? (i := 458) (by decide +kernel))) rfl
theorem k_459 : Cond.code y_M_unaryStep b_M_unaryStep 4 (some .int) ∈ lw_g := gk (List.mem_append_right _ (List.mem_of_getElem? (i := 459) (by decide +kernel))) rfl
theorem k_460 : Cond.methodLink R_M 115 y_M_first ∈ lw_g := gk (List.mem_append_right _ (List.mem_of_getElem? (i := 460) (by decide +kernel))) rfl
theorem k_462 : Cond.instanceMethod y_M_first ∈ lw_g := gk (List.mem_append_right _ (List.mem_of_getElem? (i := 462) (by decide +kernel))) rfl
theorem k_463 : Cond.code y_M_first b_M_first 4 (some .int) ∈ lw_g := gk (List.mem_append_right _ (List.mem_of_getElem? (i := 463) (by decide +kernel))) rfl
theorem k_464 : Cond.methodLink R_M 89 y_M_ask ∈ lw_g := gk (List.mem_append_right _ (List.mem_of_getElem? (i := 464) (by decide +kernel))) rfl
theorem k_466 : Cond.instanceMethod y_M_ask ∈ lw_g := gk (List.mem_append_right _ (List.mem_of_getElem? (i := 466) (by decide +kernel))) rfl
theorem k_467 : Cond.code y_M_ask b_M_ask 4 (some .int) ∈ lw_g := gk (List.mem_append_right _ (List.mem_of_getElem? (i := 467) (by decide +kernel))) rfl
theorem k_468 : Cond.methodLink R_M 100 y_M_pairStep ∈ lw_g := gk (List.mem_append_right _ (List.mem_of_getElem? (i := 468) (by decide +kernel))) rfl
theorem k_470 : Cond.instanceMethod y_M_pairStep ∈ lw_g := gk (List.mem_append_right _ (List.mem_of_getElem? (i := 470) (by decide +kernel))) rfl
theorem k_471 : Cond.code y_M_pairStep b_M_pairStep 8 (some .int) ∈ lw_g := gk (List.mem_append_right _ (List.mem_of_getElem? (i := 471) (by decide +kernel))) rfl
theorem k_472 : Cond.methodLink R_M 103 y_M_binaryStep ∈ lw_g := gk (List.mem_append_right _ (List.mem_of_getElem? (i := 472) (by decide +kernel))) rfl
theorem k_474 : Cond.instanceMethod y_M_binaryStep ∈ lw_g := gk (List.mem_append_right _ (List.mem_of_getElem? (i := 474) (by decide +kernel))) rfl
theorem k_475 : Cond.code y_M_binaryStep b_M_binaryStep 5 (some .int) ∈ lw_g := gk (List.mem_append_right _ (List.mem_of_getElem? (i := 475) (by decide +kernel))) rfl
theorem k_476 : Cond.methodLink R_M 118 y_M_limit ∈ lw_g := gk (List.mem_append_right _ (List.mem_of_getElem? (i := 476) (by decide +kernel))) rfl
theorem k_478 : Cond.instanceMethod y_M_limit ∈ lw_g := gk (List.mem_append_right _ (List.mem_of_getElem? (i := 478) (by decide +kernel))) rfl
theorem k_479 : Cond.code y_M_limit b_M_limit 3 (some .int) ∈ lw_g := gk (List.mem_append_right _ (List.mem_of_getElem? (i := 479) (by decide +kernel))) rfl
theorem k_480 : Cond.methodLink R_M 106 y_M_toStep ∈ lw_g := gk (List.mem_append_right _ (List.mem_of_getElem? (i := 480) (by decide +kernel))) rfl
theorem k_482 : Cond.instanceMethod y_M_toStep ∈ lw_g := gk (List.mem_append_right _ (List.mem_of_getElem? (i := 482) (by decide +kernel))) rfl
theorem k_483 : Cond.code y_M_toStep b_M_toStep 4 (some .int) ∈ lw_g := gk (List.mem_append_right _ (List.mem_of_getElem? (i := 483) (by decide +kernel))) rfl
theorem k_484 : Cond.methodLink R_M 121 y_M_onward ∈ lw_g := gk (List.mem_append_right _ (List.mem_of_getElem? (i := 484) (by decide +kernel))) rfl
theorem k_486 : Cond.instanceMethod y_M_onward ∈ lw_g := gk (List.mem_append_right _ (List.mem_of_getElem? (i := 486) (by decide +kernel))) rfl
theorem k_487 : Cond.code y_M_onward b_M_onward 6 (some .int) ∈ lw_g := gk (List.mem_append_right _ (List.mem_of_getElem? (i := 487) (by decide +kernel))) rfl
theorem k_488 : Cond.methodLink R_M 109 y_M_choose ∈ lw_g := gk (List.mem_append_right _ (List.mem_of_getElem? (i := 488) (by decide +kernel))) rfl
theorem k_490 : Cond.instanceMethod y_M_choose ∈ lw_g := gk (List.mem_append_right _ (List.mem_of_getElem? (i := 490) (by decide +kernel))) rfl
theorem k_491 : Cond.code y_M_choose b_M_choose 4 (some .int) ∈ lw_g := gk (List.mem_append_right _ (List.mem_of_getElem? (i := 491) (by decide +kernel))) rfl
theorem k_492 : Cond.methodLink R_L 61 y_M_skip ∈ lw_g := gk (List.mem_append_right _ (List.mem_of_getElem? (i := 492) (by decide +kernel))) rfl
theorem k_493 : Cond.instanceMethod y_M_skip ∈ lw_g := gk (List.mem_append_right _ (List.mem_of_getElem? (i := 493) (by decide +kernel))) rfl
theorem k_494 : Cond.selects R_M y_M_skip y_M_skip ∈ lw_g := gk (List.mem_append_right _ (List.mem_of_getElem? (i := 494) (by decide +kernel))) rfl
theorem k_495 : Cond.code y_M_skip b_M_skip 5 (some .int) ∈ lw_g := gk (List.mem_append_right _ (List.mem_of_getElem? (i := 495) (by decide +kernel))) rfl
theorem k_496 : Cond.methodLink R_M 128 y_M_next ∈ lw_g := gk (List.mem_append_right _ (List.mem_of_getElem? (i := 496) (by decide +kernel))) rfl
theorem k_497 : Cond.methodLink R_L 65 y_M_value ∈ lw_g := gk (List.mem_append_right _ (List.mem_of_getElem? (i := 497) (by decide +kernel))) rfl
theorem k_498 : Cond.instanceMethod y_M_value ∈ lw_g := gk (List.mem_append_right _ (List.mem_of_getElem? (i := 498) (by decide +kernel))) rfl
theorem k_499 : Cond.selects R_M y_M_value y_M_value ∈ lw_g := gk (List.mem_append_right _ (List.mem_of_getElem? (i := 499) (by decide +kernel))) rfl
theorem k_500 : Cond.code y_M_value b_M_value 1 (some .int) ∈ lw_g := gk (List.mem_append_right _ (List.mem_of_getElem? (i := 500) (by decide +kernel))) rfl
theorem k_501 : Cond.methodLink R_L 69 y_M_writes ∈ lw_g := gk (List.mem_append_right _ (List.mem_of_getElem? (i := 501) (by decide +kernel))) rfl
theorem k_502 : Cond.instanceMethod y_M_writes ∈ lw_g := gk (List.mem_append_right _ (List.mem_of_getElem? (i := 502) (by decide +kernel))) rfl
theorem k_503 : Cond.selects R_M y_M_writes y_M_writes ∈ lw_g := gk (List.mem_append_right _ (List.mem_of_getElem? (i := 503) (by decide +kernel))) rfl
theorem k_504 : Cond.code y_M_writes b_M_writes 1 (some .int) ∈ lw_g := gk (List.mem_append_right _ (List.mem_of_getElem? (i := 504) (by decide +kernel))) rfl
theorem k_505 : Cond.methodLink R_L 74 y_M_written ∈ lw_g := gk (List.mem_append_right _ (List.mem_of_getElem? (i := 505) (by decide +kernel))) rfl
theorem k_506 : Cond.instanceMethod y_M_written ∈ lw_g := gk (List.mem_append_right _ (List.mem_of_getElem? (i := 506) (by decide +kernel))) rfl
theorem k_507 : Cond.selects R_M y_M_written y_M_written ∈ lw_g := gk (List.mem_append_right _ (List.mem_of_getElem? (i := 507) (by decide +kernel))) rfl
theorem k_508 : Cond.code y_M_written b_M_written 2 (some .long) ∈ lw_g := gk (List.mem_append_right _ (List.mem_of_getElem? (i := 508) (by decide +kernel))) rfl
theorem k_509 : Cond.constantLong R_M 132 4294967296 ∈ lw_g := gk (List.mem_append_right _ (List.mem_of_getElem? (i := 509) (by decide +kernel))) rfl
theorem k_510 : Cond.methodLink R_L 78 y_M_cost ∈ lw_g := gk (List.mem_append_right _ (List.mem_of_getElem? (i := 510) (by decide +kernel))) rfl
theorem k_511 : Cond.instanceMethod y_M_cost ∈ lw_g := gk (List.mem_append_right _ (List.mem_of_getElem? (i := 511) (by decide +kernel))) rfl
theorem k_512 : Cond.selects R_M y_M_cost y_M_cost ∈ lw_g := gk (List.mem_append_right _ (List.mem_of_getElem? (i := 512) (by decide +kernel))) rfl
theorem k_513 : Cond.code y_M_cost b_M_cost 1 (some .int) ∈ lw_g := gk (List.mem_append_right _ (List.mem_of_getElem? (i := 513) (by decide +kernel))) rfl
/-- the links between nest mates: they are no words of a contract -/
def zN (U : State) : Prop := va_Nw (Cond.methodLinkNest R_G 9 y_S_init R_G) U ∧ va_Nw (Cond.methodLinkNest R_S 9 y_F_init R_G) U ∧ va_Nw (Cond.methodLinkNest R_F 36 y_G_isBelow R_G) U
theorem zN_of {args : Array Value} {s : State} (h : ∀ w ∈ lw_tbl, w.before args s = true) : zN s := ⟨va_tabs rfl rfl (h _ kn_16), va_tabs rfl rfl (h _ kn_22), va_tabs rfl rfl (h _ kn_139)⟩
theorem zN_warm {s U : State} (hW : s.WarmedH U.vm) (h : zN s) : zN U := ⟨va_Nw.warmM hW h.1, va_Nw.warmM hW h.2.1, va_Nw.warmM hW h.2.2⟩
theorem zN_vm {U U' : State} (h : U.vm = U'.vm) (hn : zN U) : zN U' := ⟨va_tabs rfl h hn.1, va_tabs rfl h hn.2.1, va_tabs rfl h hn.2.2⟩
theorem in_F : ∀ w ∈ u_ws R_F T_F 8, w ∈ lw_g := fun w h => gk ((by decide +kernel : ∀ w ∈ u_ws R_F T_F 8, w ∈ lw_tbl) w h) ((by decide +kernel : ∀ w ∈ u_ws R_F T_F 8, goodWord w = true) w h)
theorem in_S : ∀ w ∈ u_ws R_S T_S 12, w ∈ lw_g := fun w h => gk ((by decide +kernel : ∀ w ∈ u_ws R_S T_S 12, w ∈ lw_tbl) w h) ((by decide +kernel : ∀ w ∈ u_ws R_S T_S 12, goodWord w = true) w h)
theorem in_G : ∀ w ∈ u_ws R_G T_G 2, w ∈ lw_g := fun w h => gk ((by decide +kernel : ∀ w ∈ u_ws R_G T_G 2, w ∈ lw_tbl) w h) ((by decide +kernel : ∀ w ∈ u_ws R_G T_G 2, goodWord w = true) w h)
theorem in_M : ∀ w ∈ u_ws R_M T_M 20, w ∈ lw_g := fun w h => gk ((by decide +kernel : ∀ w ∈ u_ws R_M T_M 20, w ∈ lw_tbl) w h) ((by decide +kernel : ∀ w ∈ u_ws R_M T_M 20, goodWord w = true) w h)
theorem s_G_join : Cond.selects R_G y_G_join y_G_join ∈ lw_g := gk (List.mem_append_left _ (List.mem_of_getElem? (i := 0) (by decide +kernel))) rfl
theorem s_S_start : Cond.selects R_S y_S_start y_S_start ∈ lw_g := gk (List.mem_append_left _ (List.mem_of_getElem? (i := 1) (by decide +kernel))) rfl
theorem s_S_ask : Cond.selects R_S y_S_ask y_S_ask ∈ lw_g := gk (List.mem_append_left _ (List.mem_of_getElem? (i := 2) (by decide +kernel))) rfl
theorem s_S_askLeaf : Cond.selects R_S y_S_askLeaf y_S_askLeaf ∈ lw_g := gk (List.mem_append_left _ (List.mem_of_getElem? (i := 3) (by decide +kernel))) rfl
theorem s_S_giveForFuel : Cond.selects R_S y_S_giveForFuel y_S_giveForFuel ∈ lw_g := gk (List.mem_append_left _ (List.mem_of_getElem? (i := 4) (by decide +kernel))) rfl
theorem s_S_give : Cond.selects R_S y_S_give y_S_give ∈ lw_g := gk (List.mem_append_left _ (List.mem_of_getElem? (i := 5) (by decide +kernel))) rfl
theorem s_S_askAssign : Cond.selects R_S y_S_askAssign y_S_askAssign ∈ lw_g := gk (List.mem_append_left _ (List.mem_of_getElem? (i := 6) (by decide +kernel))) rfl
theorem s_S_askX : Cond.selects R_S y_S_askX y_S_askX ∈ lw_g := gk (List.mem_append_left _ (List.mem_of_getElem? (i := 7) (by decide +kernel))) rfl
theorem s_S_handUp : Cond.selects R_S y_S_handUp y_S_handUp ∈ lw_g := gk (List.mem_append_left _ (List.mem_of_getElem? (i := 8) (by decide +kernel))) rfl
theorem s_S_askWrite : Cond.selects R_S y_S_askWrite y_S_askWrite ∈ lw_g := gk (List.mem_append_left _ (List.mem_of_getElem? (i := 9) (by decide +kernel))) rfl
theorem s_S_askNot : Cond.selects R_S y_S_askNot y_S_askNot ∈ lw_g := gk (List.mem_append_left _ (List.mem_of_getElem? (i := 10) (by decide +kernel))) rfl
theorem s_S_tryOnce : Cond.selects R_S y_S_tryOnce y_S_tryOnce ∈ lw_g := gk (List.mem_append_left _ (List.mem_of_getElem? (i := 11) (by decide +kernel))) rfl
theorem s_S_askAgain : Cond.selects R_S y_S_askAgain y_S_askAgain ∈ lw_g := gk (List.mem_append_left _ (List.mem_of_getElem? (i := 12) (by decide +kernel))) rfl
theorem s_S_askEither : Cond.selects R_S y_S_askEither y_S_askEither ∈ lw_g := gk (List.mem_append_left _ (List.mem_of_getElem? (i := 13) (by decide +kernel))) rfl
theorem s_S_askPair : Cond.selects R_S y_S_askPair y_S_askPair ∈ lw_g := gk (List.mem_append_left _ (List.mem_of_getElem? (i := 14) (by decide +kernel))) rfl
theorem s_S_askArithmetic : Cond.selects R_S y_S_askArithmetic y_S_askArithmetic ∈ lw_g := gk (List.mem_append_left _ (List.mem_of_getElem? (i := 15) (by decide +kernel))) rfl
theorem s_S_askComparison : Cond.selects R_S y_S_askComparison y_S_askComparison ∈ lw_g := gk (List.mem_append_left _ (List.mem_of_getElem? (i := 16) (by decide +kernel))) rfl
theorem s_S_askLimit : Cond.selects R_S y_S_askLimit y_S_askLimit ∈ lw_g := gk (List.mem_append_left _ (List.mem_of_getElem? (i := 17) (by decide +kernel))) rfl
theorem s_S_askBound : Cond.selects R_S y_S_askBound y_S_askBound ∈ lw_g := gk (List.mem_append_left _ (List.mem_of_getElem? (i := 18) (by decide +kernel))) rfl
theorem s_S_askEveryOrWhile : Cond.selects R_S y_S_askEveryOrWhile y_S_askEveryOrWhile ∈ lw_g := gk (List.mem_append_left _ (List.mem_of_getElem? (i := 19) (by decide +kernel))) rfl
theorem s_S_askThen : Cond.selects R_S y_S_askThen y_S_askThen ∈ lw_g := gk (List.mem_append_left _ (List.mem_of_getElem? (i := 20) (by decide +kernel))) rfl
theorem s_S_askTo : Cond.selects R_S y_S_askTo y_S_askTo ∈ lw_g := gk (List.mem_append_left _ (List.mem_of_getElem? (i := 21) (by decide +kernel))) rfl
theorem s_S_askTriple : Cond.selects R_S y_S_askTriple y_S_askTriple ∈ lw_g := gk (List.mem_append_left _ (List.mem_of_getElem? (i := 22) (by decide +kernel))) rfl
theorem s_S_isUpToEnd : Cond.selects R_S y_S_isUpToEnd y_S_isUpToEnd ∈ lw_g := gk (List.mem_append_left _ (List.mem_of_getElem? (i := 23) (by decide +kernel))) rfl
theorem s_S_askIf : Cond.selects R_S y_S_askIf y_S_askIf ∈ lw_g := gk (List.mem_append_left _ (List.mem_of_getElem? (i := 24) (by decide +kernel))) rfl
theorem s_S_branch : Cond.selects R_S y_S_branch y_S_branch ∈ lw_g := gk (List.mem_append_left _ (List.mem_of_getElem? (i := 25) (by decide +kernel))) rfl
theorem s_M_make : Cond.selects R_M y_M_make y_M_make ∈ lw_g := gk (List.mem_append_left _ (List.mem_of_getElem? (i := 26) (by decide +kernel))) rfl
theorem s_M_is : Cond.selects R_M y_M_is y_M_is ∈ lw_g := gk (List.mem_append_left _ (List.mem_of_getElem? (i := 27) (by decide +kernel))) rfl
theorem s_M_step : Cond.selects R_M y_M_step y_M_step ∈ lw_g := gk (List.mem_append_left _ (List.mem_of_getElem? (i := 28) (by decide +kernel))) rfl
theorem s_M_leafStep : Cond.selects R_M y_M_leafStep y_M_leafStep ∈ lw_g := gk (List.mem_append_left _ (List.mem_of_getElem? (i := 29) (by decide +kernel))) rfl
theorem s_M_paid : Cond.selects R_M y_M_paid y_M_paid ∈ lw_g := gk (List.mem_append_left _ (List.mem_of_getElem? (i := 30) (by decide +kernel))) rfl
theorem s_M_give : Cond.selects R_M y_M_give y_M_give ∈ lw_g := gk (List.mem_append_left _ (List.mem_of_getElem? (i := 31) (by decide +kernel))) rfl
theorem s_M_unaryStep : Cond.selects R_M y_M_unaryStep y_M_unaryStep ∈ lw_g := gk (List.mem_append_left _ (List.mem_of_getElem? (i := 32) (by decide +kernel))) rfl
theorem s_M_first : Cond.selects R_M y_M_first y_M_first ∈ lw_g := gk (List.mem_append_left _ (List.mem_of_getElem? (i := 33) (by decide +kernel))) rfl
theorem s_M_ask : Cond.selects R_M y_M_ask y_M_ask ∈ lw_g := gk (List.mem_append_left _ (List.mem_of_getElem? (i := 34) (by decide +kernel))) rfl
theorem s_M_pairStep : Cond.selects R_M y_M_pairStep y_M_pairStep ∈ lw_g := gk (List.mem_append_left _ (List.mem_of_getElem? (i := 35) (by decide +kernel))) rfl
theorem s_M_binaryStep : Cond.selects R_M y_M_binaryStep y_M_binaryStep ∈ lw_g := gk (List.mem_append_left _ (List.mem_of_getElem? (i := 36) (by decide +kernel))) rfl
theorem s_M_limit : Cond.selects R_M y_M_limit y_M_limit ∈ lw_g := gk (List.mem_append_left _ (List.mem_of_getElem? (i := 37) (by decide +kernel))) rfl
theorem s_M_toStep : Cond.selects R_M y_M_toStep y_M_toStep ∈ lw_g := gk (List.mem_append_left _ (List.mem_of_getElem? (i := 38) (by decide +kernel))) rfl
theorem s_M_onward : Cond.selects R_M y_M_onward y_M_onward ∈ lw_g := gk (List.mem_append_left _ (List.mem_of_getElem? (i := 39) (by decide +kernel))) rfl
theorem s_M_choose : Cond.selects R_M y_M_choose y_M_choose ∈ lw_g := gk (List.mem_append_left _ (List.mem_of_getElem? (i := 40) (by decide +kernel))) rfl
def w_G_init : List Cond := Cond.code y_G_init b_G_init 1 none :: lw_g
def w_S_init : List Cond := Cond.code y_S_init b_S_init 1 none :: lw_g
def w_F_init : List Cond := Cond.code y_F_init b_F_init 1 none :: lw_g
def w_G_leaf : List Cond := Cond.code y_G_leaf b_G_leaf 4 (some .int) :: lw_g
def w_G_isBelow : List Cond := Cond.code y_G_isBelow b_G_isBelow 2 (some .boolean) :: lw_g
def w_F_isFull : List Cond := Cond.code y_F_isFull b_F_isFull 1 (some .boolean) :: lw_g
def w_F_addLeaf : List Cond := Cond.code y_F_addLeaf b_F_addLeaf 4 (some .int) :: lw_g
def w_G_unary : List Cond := Cond.code y_G_unary b_G_unary 5 (some .int) :: lw_g
def w_G_join : List Cond := Cond.code y_G_join b_G_join 7 (some .int) :: lw_g
def w_F_has : List Cond := Cond.code y_F_has b_F_has 2 (some .boolean) :: lw_g
def w_F_depthOver : List Cond := Cond.code y_F_depthOver b_F_depthOver 4 (some .int) :: lw_g
def w_F_addOver : List Cond := Cond.code y_F_addOver b_F_addOver 7 (some .int) :: lw_g
def w_G_binary : List Cond := Cond.code y_G_binary b_G_binary 4 (some .int) :: lw_g
def w_G_ternary : List Cond := Cond.code y_G_ternary b_G_ternary 5 (some .int) :: lw_g
def w_G_expressions : List Cond := Cond.code y_G_expressions b_G_expressions 1 (some .int) :: lw_g
def w_G_about : List Cond := Cond.code y_G_about b_G_about 2 (some .int) :: lw_g
def w_G_set : List Cond := Cond.code y_G_set b_G_set 4 (some .int) :: lw_g
def w_G_variable : List Cond := Cond.code y_G_variable b_G_variable 2 (some .int) :: lw_g
def w_G_begin : List Cond := Cond.code y_G_begin b_G_begin 3 (some .int) :: lw_g
def w_S_open : List Cond := Cond.code y_S_open b_S_open 3 none :: lw_g
def w_S_start : List Cond := Cond.code y_S_start b_S_start 2 none :: lw_g
def w_G_next : List Cond := Cond.code y_G_next b_G_next 1 (some .int) :: lw_g
def w_S_proceed : List Cond := Cond.code y_S_proceed b_S_proceed 1 (some .int) :: lw_g
def w_S_ask : List Cond := Cond.code y_S_ask b_S_ask 2 (some .int) :: lw_g
def w_S_askLeaf : List Cond := Cond.code y_S_askLeaf b_S_askLeaf 3 (some .int) :: lw_g
def w_S_giveForFuel : List Cond := Cond.code y_S_giveForFuel b_S_giveForFuel 3 (some .int) :: lw_g
def w_S_give : List Cond := Cond.code y_S_give b_S_give 3 (some .int) :: lw_g
def w_S_askAssign : List Cond := Cond.code y_S_askAssign b_S_askAssign 3 (some .int) :: lw_g
def w_S_askX : List Cond := Cond.code y_S_askX b_S_askX 2 (some .int) :: lw_g
def w_S_handUp : List Cond := Cond.code y_S_handUp b_S_handUp 4 (some .int) :: lw_g
def w_S_askWrite : List Cond := Cond.code y_S_askWrite b_S_askWrite 3 (some .int) :: lw_g
def w_S_askNot : List Cond := Cond.code y_S_askNot b_S_askNot 3 (some .int) :: lw_g
def w_S_tryOnce : List Cond := Cond.code y_S_tryOnce b_S_tryOnce 2 (some .int) :: lw_g
def w_S_askAgain : List Cond := Cond.code y_S_askAgain b_S_askAgain 5 (some .int) :: lw_g
def w_S_askEither : List Cond := Cond.code y_S_askEither b_S_askEither 4 (some .int) :: lw_g
def w_S_askPair : List Cond := Cond.code y_S_askPair b_S_askPair 5 (some .int) :: lw_g
def w_S_askArithmetic : List Cond := Cond.code y_S_askArithmetic b_S_askArithmetic 5 (some .int) :: lw_g
def w_S_calculate : List Cond := Cond.code y_S_calculate b_S_calculate 5 (some .long) :: lw_g
def w_S_askComparison : List Cond := Cond.code y_S_askComparison b_S_askComparison 5 (some .int) :: lw_g
def w_S_holds : List Cond := Cond.code y_S_holds b_S_holds 3 (some .boolean) :: lw_g
def w_S_askLimit : List Cond := Cond.code y_S_askLimit b_S_askLimit 5 (some .int) :: lw_g
def w_S_askBound : List Cond := Cond.code y_S_askBound b_S_askBound 4 (some .int) :: lw_g
def w_S_askEveryOrWhile : List Cond := Cond.code y_S_askEveryOrWhile b_S_askEveryOrWhile 5 (some .int) :: lw_g
def w_S_askThen : List Cond := Cond.code y_S_askThen b_S_askThen 4 (some .int) :: lw_g
def w_S_askTo : List Cond := Cond.code y_S_askTo b_S_askTo 4 (some .int) :: lw_g
def w_S_askTriple : List Cond := Cond.code y_S_askTriple b_S_askTriple 5 (some .int) :: lw_g
def w_S_isUpToEnd : List Cond := Cond.code y_S_isUpToEnd b_S_isUpToEnd 3 (some .boolean) :: lw_g
def w_S_askIf : List Cond := Cond.code y_S_askIf b_S_askIf 3 (some .int) :: lw_g
def w_S_branch : List Cond := Cond.code y_S_branch b_S_branch 2 (some .int) :: lw_g
def w_G_skip : List Cond := Cond.code y_G_skip b_G_skip 3 (some .int) :: lw_g
def w_G_value : List Cond := Cond.code y_G_value b_G_value 1 (some .int) :: lw_g
def w_G_writes : List Cond := Cond.code y_G_writes b_G_writes 1 (some .int) :: lw_g
def w_G_written : List Cond := Cond.code y_G_written b_G_written 2 (some .long) :: lw_g
def w_G_cost : List Cond := Cond.code y_G_cost b_G_cost 1 (some .int) :: lw_g
def w_M_init : List Cond := Cond.code y_M_init b_M_init 1 none :: lw_g
def w_M_leaf : List Cond := Cond.code y_M_leaf b_M_leaf 3 (some .int) :: lw_g
def w_M_within : List Cond := Cond.code y_M_within b_M_within 3 (some .boolean) :: lw_g
def w_M_make : List Cond := Cond.code y_M_make b_M_make 8 (some .int) :: lw_g
def w_M_unary : List Cond := Cond.code y_M_unary b_M_unary 4 (some .int) :: lw_g
def w_M_is : List Cond := Cond.code y_M_is b_M_is 2 (some .boolean) :: lw_g
def w_M_binary : List Cond := Cond.code y_M_binary b_M_binary 5 (some .int) :: lw_g
def w_M_ternary : List Cond := Cond.code y_M_ternary b_M_ternary 6 (some .int) :: lw_g
def w_M_expressions : List Cond := Cond.code y_M_expressions b_M_expressions 1 (some .int) :: lw_g
def w_M_about : List Cond := Cond.code y_M_about b_M_about 2 (some .int) :: lw_g
def w_M_set : List Cond := Cond.code y_M_set b_M_set 4 (some .int) :: lw_g
def w_M_variable : List Cond := Cond.code y_M_variable b_M_variable 2 (some .int) :: lw_g
def w_M_begin : List Cond := Cond.code y_M_begin b_M_begin 3 (some .int) :: lw_g
def w_M_next : List Cond := Cond.code y_M_next b_M_next 5 (some .int) :: lw_g
def w_M_step : List Cond := Cond.code y_M_step b_M_step 4 (some .int) :: lw_g
def w_M_leafStep : List Cond := Cond.code y_M_leafStep b_M_leafStep 2 (some .int) :: lw_g
def w_M_paid : List Cond := Cond.code y_M_paid b_M_paid 2 (some .int) :: lw_g
def w_M_give : List Cond := Cond.code y_M_give b_M_give 2 (some .int) :: lw_g
def w_M_unaryStep : List Cond := Cond.code y_M_unaryStep b_M_unaryStep 4 (some .int) :: lw_g
def w_M_first : List Cond := Cond.code y_M_first b_M_first 4 (some .int) :: lw_g
def w_M_ask : List Cond := Cond.code y_M_ask b_M_ask 4 (some .int) :: lw_g
def w_M_pairStep : List Cond := Cond.code y_M_pairStep b_M_pairStep 8 (some .int) :: lw_g
def w_M_binaryStep : List Cond := Cond.code y_M_binaryStep b_M_binaryStep 5 (some .int) :: lw_g
def w_M_limit : List Cond := Cond.code y_M_limit b_M_limit 3 (some .int) :: lw_g
def w_M_toStep : List Cond := Cond.code y_M_toStep b_M_toStep 4 (some .int) :: lw_g
def w_M_onward : List Cond := Cond.code y_M_onward b_M_onward 6 (some .int) :: lw_g
def w_M_choose : List Cond := Cond.code y_M_choose b_M_choose 4 (some .int) :: lw_g
def w_M_skip : List Cond := Cond.code y_M_skip b_M_skip 5 (some .int) :: lw_g
def w_M_value : List Cond := Cond.code y_M_value b_M_value 1 (some .int) :: lw_g
def w_M_writes : List Cond := Cond.code y_M_writes b_M_writes 1 (some .int) :: lw_g
def w_M_written : List Cond := Cond.code y_M_written b_M_written 2 (some .long) :: lw_g
def w_M_cost : List Cond := Cond.code y_M_cost b_M_cost 1 (some .int) :: lw_g

