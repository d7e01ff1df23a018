def R_L : String := "LayoutOptimizer"
def T_L : u_T := fun k => match k with
  | 0 => ("LayoutOptimizer", "range", "I", true)
  | 1 => ("LayoutOptimizer", "graph", "LLayoutOptimizer$Graph;", true)
  | 2 => ("LayoutOptimizer", "counts", "LLayoutOptimizer$Counts;", true)
  | 3 => ("LayoutOptimizer", "trail", "LLayoutOptimizer$Trail;", true)
  | 4 => ("LayoutOptimizer", "placing", "LLayoutOptimizer$Placing;", true)
  | 5 => ("LayoutOptimizer", "code", "LLayoutOptimizer$Code;", true)
  | _ => ("LayoutOptimizer", "laidOut", "Z", false)
def ty_L : Nat → FieldType := fun k => match k with
  | 0 => .int
  | 1 => .object "LayoutOptimizer$Graph"
  | 2 => .object "LayoutOptimizer$Counts"
  | 3 => .object "LayoutOptimizer$Trail"
  | 4 => .object "LayoutOptimizer$Placing"
  | 5 => .object "LayoutOptimizer$Code"
  | _ => .boolean
theorem nm_L : ∀ a, a < 7 → ∀ b, b < 7 → a ≠ b → (T_L a).2.1 ≠ (T_L b).2.1 := by decide +kernel
theorem tok_L : ∀ k, k < 7 → parseFieldDescriptor (T_L k).2.2.1 = some (ty_L k) := by decide +kernel
def R_G : String := "LayoutOptimizer$Graph"
def T_G : u_T := fun k => match k with
  | 0 => ("LayoutOptimizer$Graph", "function", "[I", true)
  | 1 => ("LayoutOptimizer$Graph", "body", "[I", true)
  | 2 => ("LayoutOptimizer$Graph", "end", "[I", true)
  | 3 => ("LayoutOptimizer$Graph", "to", "[I", true)
  | 4 => ("LayoutOptimizer$Graph", "entry", "[I", true)
  | _ => ("LayoutOptimizer$Graph", "size", "I", false)
def ty_G : Nat → FieldType := fun k => match k with
  | 0 => .array .int
  | 1 => .array .int
  | 2 => .array .int
  | 3 => .array .int
  | 4 => .array .int
  | _ => .int
theorem nm_G : ∀ a, a < 6 → ∀ b, b < 6 → a ≠ b → (T_G a).2.1 ≠ (T_G b).2.1 := by decide +kernel
theorem tok_G : ∀ k, k < 6 → parseFieldDescriptor (T_G k).2.2.1 = some (ty_G k) := by decide +kernel
def R_N : String := "LayoutOptimizer$Counts"
def T_N : u_T := fun k => match k with
  | 0 => ("LayoutOptimizer$Counts", "ofBlock", "[I", true)
  | _ => ("LayoutOptimizer$Counts", "ofEdge", "[I", true)
def ty_N : Nat → FieldType := fun k => match k with
  | 0 => .array .int
  | _ => .array .int
theorem nm_N : ∀ a, a < 2 → ∀ b, b < 2 → a ≠ b → (T_N a).2.1 ≠ (T_N b).2.1 := by decide +kernel
theorem tok_N : ∀ k, k < 2 → parseFieldDescriptor (T_N k).2.2.1 = some (ty_N k) := by decide +kernel
def R_T : String := "LayoutOptimizer$Trail"
def T_T : u_T := fun k => match k with
  | 0 => ("LayoutOptimizer$Trail", "blocks", "[I", true)
  | 1 => ("LayoutOptimizer$Trail", "edges", "[I", true)
  | _ => ("LayoutOptimizer$Trail", "size", "I", false)
def ty_T : Nat → FieldType := fun k => match k with
  | 0 => .array .int
  | 1 => .array .int
  | _ => .int
theorem nm_T : ∀ a, a < 3 → ∀ b, b < 3 → a ≠ b → (T_T a).2.1 ≠ (T_T b).2.1 := by decide +kernel
theorem tok_T : ∀ k, k < 3 → parseFieldDescriptor (T_T k).2.2.1 = some (ty_T k) := by decide +kernel
def R_P : String := "LayoutOptimizer$Placing"
def T_P : u_T := fun k => match k with
  | 0 => ("LayoutOptimizer$Placing", "order", "[I", true)
  | 1 => ("LayoutOptimizer$Placing", "chains", "I", false)
  | 2 => ("LayoutOptimizer$Placing", "coldBlocks", "I", false)
  | 3 => ("LayoutOptimizer$Placing", "edges", "[I", true)
  | 4 => ("LayoutOptimizer$Placing", "heads", "[I", true)
  | 5 => ("LayoutOptimizer$Placing", "first", "[I", true)
  | 6 => ("LayoutOptimizer$Placing", "behind", "[I", true)
  | 7 => ("LayoutOptimizer$Placing", "heatSum", "[I", true)
  | _ => ("LayoutOptimizer$Placing", "bodySum", "[I", true)
def ty_P : Nat → FieldType := fun k => match k with
  | 0 => .array .int
  | 1 => .int
  | 2 => .int
  | 3 => .array .int
  | 4 => .array .int
  | 5 => .array .int
  | 6 => .array .int
  | 7 => .array .int
  | _ => .array .int
theorem nm_P : ∀ a, a < 9 → ∀ b, b < 9 → a ≠ b → (T_P a).2.1 ≠ (T_P b).2.1 := by decide +kernel
theorem tok_P : ∀ k, k < 9 → parseFieldDescriptor (T_P k).2.2.1 = some (ty_P k) := by decide +kernel
def R_C : String := "LayoutOptimizer$Code"
def T_C : u_T := fun k => match k with
  | 0 => ("LayoutOptimizer$Code", "start", "[I", true)
  | 1 => ("LayoutOptimizer$Code", "goal", "[I", true)
  | 2 => ("LayoutOptimizer$Code", "units", "[I", true)
  | 3 => ("LayoutOptimizer$Code", "turned", "[Z", true)
  | 4 => ("LayoutOptimizer$Code", "length", "I", false)
  | 5 => ("LayoutOptimizer$Code", "branches", "I", false)
  | _ => ("LayoutOptimizer$Code", "longOnes", "I", false)
def ty_C : Nat → FieldType := fun k => match k with
  | 0 => .array .int
  | 1 => .array .int
  | 2 => .array .int
  | 3 => .array .boolean
  | 4 => .int
  | 5 => .int
  | _ => .int
theorem nm_C : ∀ a, a < 7 → ∀ b, b < 7 → a ≠ b → (T_C a).2.1 ≠ (T_C b).2.1 := by decide +kernel
theorem tok_C : ∀ k, k < 7 → parseFieldDescriptor (T_C k).2.2.1 = some (ty_C k) := by decide +kernel
def R_M : String := "LayoutOptimizerModel"
def T_M : u_T := fun k => match k with
  | 0 => ("LayoutOptimizerModel", "range", "I", true)
  | 1 => ("LayoutOptimizerModel", "blocks", "I", false)
  | 2 => ("LayoutOptimizerModel", "edges", "I", false)
  | 3 => ("LayoutOptimizerModel", "cold", "I", false)
  | 4 => ("LayoutOptimizerModel", "chains", "I", false)
  | 5 => ("LayoutOptimizerModel", "made", "Z", false)
  | 6 => ("LayoutOptimizerModel", "function", "[I", true)
  | 7 => ("LayoutOptimizerModel", "body", "[I", true)
  | 8 => ("LayoutOptimizerModel", "end", "[I", true)
  | 9 => ("LayoutOptimizerModel", "to", "[I", true)
  | 10 => ("LayoutOptimizerModel", "heat", "[I", true)
  | 11 => ("LayoutOptimizerModel", "edgeHeat", "[I", true)
  | 12 => ("LayoutOptimizerModel", "chain", "[I", true)
  | 13 => ("LayoutOptimizerModel", "place", "[I", true)
  | 14 => ("LayoutOptimizerModel", "taken", "[Z", true)
  | 15 => ("LayoutOptimizerModel", "placed", "[Z", true)
  | 16 => ("LayoutOptimizerModel", "order", "[I", true)
  | 17 => ("LayoutOptimizerModel", "branches", "[I", true)
  | 18 => ("LayoutOptimizerModel", "target", "[I", true)
  | 19 => ("LayoutOptimizerModel", "length", "[I", true)
  | 20 => ("LayoutOptimizerModel", "turned", "[Z", true)
  | _ => ("LayoutOptimizerModel", "grows", "[Z", true)
def ty_M : Nat → FieldType := fun k => match k with
  | 0 => .int
  | 1 => .int
  | 2 => .int
  | 3 => .int
  | 4 => .int
  | 5 => .boolean
  | 6 => .array .int
  | 7 => .array .int
  | 8 => .array .int
  | 9 => .array .int
  | 10 => .array .int
  | 11 => .array .int
  | 12 => .array .int
  | 13 => .array .int
  | 14 => .array .boolean
  | 15 => .array .boolean
  | 16 => .array .int
  | 17 => .array .int
  | 18 => .array .int
  | 19 => .array .int
  | 20 => .array .boolean
  | _ => .array .boolean
theorem nm_M : ∀ a, a < 22 → ∀ b, b < 22 → a ≠ b → (T_M a).2.1 ≠ (T_M b).2.1 := by decide +kernel
theorem tok_M : ∀ k, k < 22 → parseFieldDescriptor (T_M k).2.2.1 = some (ty_M k) := by decide +kernel
def R_W : String := "LayoutOptimizerLaw"
def R_A : String := "java/util/Arrays"
abbrev vwCl : List vw_C := [(R_L, T_L, 7), (R_G, T_G, 6), (R_N, T_N, 2), (R_T, T_T, 3), (R_P, T_P, 9), (R_C, T_C, 7), (R_M, T_M, 22)]
def av_N : List Cond := [Cond.methodLinkNest R_L 31 ⟨R_N, "<init>", "()V"⟩ R_L, Cond.methodLinkNest R_L 38 ⟨R_T, "<init>", "()V"⟩ R_L, Cond.methodLinkNest R_L 45 ⟨R_P, "<init>", "()V"⟩ R_L, Cond.methodLinkNest R_L 52 ⟨R_C, "<init>", "()V"⟩ R_L]
theorem av_N_in : ∀ w ∈ av_N, w ∈ lw_tbl := by decide +kernel
theorem av_N_on : ∀ w ∈ av_N, w.onTables = true := by decide +kernel
theorem av_N_warm : ∀ w ∈ av_N, ∀ (s U : State), s.WarmedH U.vm → va_Nw w s → va_Nw w U := by
  intro w hw s U hW hZ
  simp only [av_N, List.mem_cons, List.not_mem_nil, or_false] at hw
  rcases hw with rfl | rfl | rfl | rfl <;> exact va_Nw.warmM hW hZ
abbrev m_L_init : MethodName × ByteArray × Nat × Option FieldType := (⟨R_L, "<init>", "(I)V"⟩, prog_1_method_1_code, 2, none)
abbrev m_G_init : MethodName × ByteArray × Nat × Option FieldType := (⟨R_G, "<init>", "()V"⟩, prog_4_method_1_code, 1, none)
abbrev m_A_fill : MethodName × ByteArray × Nat × Option FieldType := (⟨R_A, "fill", "([II)V"⟩, prog_10_method_103_code, 4, none)
abbrev m_N_init : MethodName × ByteArray × Nat × Option FieldType := (⟨R_N, "<init>", "()V"⟩, prog_3_method_1_code, 1, none)
abbrev m_T_init : MethodName × ByteArray × Nat × Option FieldType := (⟨R_T, "<init>", "()V"⟩, prog_6_method_1_code, 1, none)
abbrev m_P_init : MethodName × ByteArray × Nat × Option FieldType := (⟨R_P, "<init>", "()V"⟩, prog_5_method_1_code, 1, none)
abbrev m_C_init : MethodName × ByteArray × Nat × Option FieldType := (⟨R_C, "<init>", "()V"⟩, prog_2_method_1_code, 1, none)
abbrev m_L_block : MethodName × ByteArray × Nat × Option FieldType := (⟨R_L, "block", "(II)I"⟩, prog_1_method_2_code, 3, (some .int))
abbrev m_G_add : MethodName × ByteArray × Nat × Option FieldType := (⟨R_G, "add", "(II)I"⟩, prog_4_method_2_code, 4, (some .int))
abbrev m_G_setEnd : MethodName × ByteArray × Nat × Option FieldType := (⟨R_G, "setEnd", "(IIII)V"⟩, prog_4_method_3_code, 5, none)
abbrev m_L_jump : MethodName × ByteArray × Nat × Option FieldType := (⟨R_L, "jump", "(II)I"⟩, prog_1_method_3_code, 3, (some .int))
abbrev m_G_canLead : MethodName × ByteArray × Nat × Option FieldType := (⟨R_G, "canLead", "(II)Z"⟩, prog_4_method_7_code, 3, (some .boolean))
abbrev m_G_has : MethodName × ByteArray × Nat × Option FieldType := (⟨R_G, "has", "(I)Z"⟩, prog_4_method_4_code, 2, (some .boolean))
abbrev m_N_clearEdges : MethodName × ByteArray × Nat × Option FieldType := (⟨R_N, "clearEdges", "(I)V"⟩, prog_3_method_5_code, 2, none)
abbrev m_L_test : MethodName × ByteArray × Nat × Option FieldType := (⟨R_L, "test", "(III)I"⟩, prog_1_method_4_code, 4, (some .int))
abbrev m_L_walk : MethodName × ByteArray × Nat × Option FieldType := (⟨R_L, "walk", "(II)I"⟩, prog_1_method_5_code, 3, (some .int))
abbrev m_G_hasEntry : MethodName × ByteArray × Nat × Option FieldType := (⟨R_G, "hasEntry", "(I)Z"⟩, prog_4_method_6_code, 2, (some .boolean))
abbrev m_T_follow : MethodName × ByteArray × Nat × Option FieldType := (⟨R_T, "follow", "(LLayoutOptimizer$Graph;II)V"⟩, prog_6_method_2_code, 7, none)
abbrev m_T_holdsAt : MethodName × ByteArray × Nat × Option FieldType := (⟨R_T, "holdsAt", "(II)Z"⟩, prog_6_method_3_code, 2, (some .boolean))
abbrev m_N_addTrail : MethodName × ByteArray × Nat × Option FieldType := (⟨R_N, "addTrail", "(LLayoutOptimizer$Trail;)V"⟩, prog_3_method_4_code, 3, none)
abbrev m_N_addToBlock : MethodName × ByteArray × Nat × Option FieldType := (⟨R_N, "addToBlock", "(II)V"⟩, prog_3_method_2_code, 3, none)
abbrev m_N_addToEdge : MethodName × ByteArray × Nat × Option FieldType := (⟨R_N, "addToEdge", "(II)V"⟩, prog_3_method_3_code, 3, none)
abbrev m_L_heat : MethodName × ByteArray × Nat × Option FieldType := (⟨R_L, "heat", "(III)I"⟩, prog_1_method_6_code, 5, (some .int))
abbrev m_G_hasEdge : MethodName × ByteArray × Nat × Option FieldType := (⟨R_G, "hasEdge", "(II)Z"⟩, prog_4_method_5_code, 3, (some .boolean))
abbrev m_L_cool : MethodName × ByteArray × Nat × Option FieldType := (⟨R_L, "cool", "()I"⟩, prog_1_method_7_code, 1, (some .int))
abbrev m_N_clear : MethodName × ByteArray × Nat × Option FieldType := (⟨R_N, "clear", "()V"⟩, prog_3_method_6_code, 1, none)
abbrev m_L_layout : MethodName × ByteArray × Nat × Option FieldType := (⟨R_L, "layout", "(I)I"⟩, prog_1_method_8_code, 2, (some .int))
abbrev m_P_placeByNumber : MethodName × ByteArray × Nat × Option FieldType := (⟨R_P, "placeByNumber", "(LLayoutOptimizer$Graph;)V"⟩, prog_5_method_2_code, 3, none)
abbrev m_P_placeByChains : MethodName × ByteArray × Nat × Option FieldType := (⟨R_P, "placeByChains", "(LLayoutOptimizer$Graph;LLayoutOptimizer$Counts;)V"⟩, prog_5_method_3_code, 5, none)
abbrev m_P_startChains : MethodName × ByteArray × Nat × Option FieldType := (⟨R_P, "startChains", "(LLayoutOptimizer$Graph;LLayoutOptimizer$Counts;)V"⟩, prog_5_method_4_code, 4, none)
abbrev m_P_sortEdges : MethodName × ByteArray × Nat × Option FieldType := (⟨R_P, "sortEdges", "(LLayoutOptimizer$Graph;LLayoutOptimizer$Counts;)I"⟩, prog_5_method_5_code, 6, (some .int))
abbrev m_P_mayJoin : MethodName × ByteArray × Nat × Option FieldType := (⟨R_P, "mayJoin", "(LLayoutOptimizer$Graph;LLayoutOptimizer$Counts;I)Z"⟩, prog_5_method_6_code, 3, (some .boolean))
abbrev m_P_joinAlong : MethodName × ByteArray × Nat × Option FieldType := (⟨R_P, "joinAlong", "(LLayoutOptimizer$Graph;II)V"⟩, prog_5_method_7_code, 6, none)
abbrev m_G_isEntry : MethodName × ByteArray × Nat × Option FieldType := (⟨R_G, "isEntry", "(I)Z"⟩, prog_4_method_8_code, 2, (some .boolean))
abbrev m_P_sortHeads : MethodName × ByteArray × Nat × Option FieldType := (⟨R_P, "sortHeads", "(LLayoutOptimizer$Graph;)V"⟩, prog_5_method_8_code, 4, none)
abbrev m_P_comesBefore : MethodName × ByteArray × Nat × Option FieldType := (⟨R_P, "comesBefore", "(LLayoutOptimizer$Graph;II)Z"⟩, prog_5_method_9_code, 8, (some .boolean))
abbrev m_P_isCold : MethodName × ByteArray × Nat × Option FieldType := (⟨R_P, "isCold", "(LLayoutOptimizer$Graph;I)Z"⟩, prog_5_method_10_code, 3, (some .boolean))
abbrev m_P_writeOrder : MethodName × ByteArray × Nat × Option FieldType := (⟨R_P, "writeOrder", "(LLayoutOptimizer$Graph;)V"⟩, prog_5_method_11_code, 6, none)
abbrev m_C_lay : MethodName × ByteArray × Nat × Option FieldType := (⟨R_C, "lay", "(LLayoutOptimizer$Graph;[II)V"⟩, prog_2_method_2_code, 5, none)
abbrev m_C_chooseBranches : MethodName × ByteArray × Nat × Option FieldType := (⟨R_C, "chooseBranches", "(LLayoutOptimizer$Graph;II)V"⟩, prog_2_method_3_code, 6, none)
abbrev m_C_clearBranches : MethodName × ByteArray × Nat × Option FieldType := (⟨R_C, "clearBranches", "(I)V"⟩, prog_2_method_4_code, 3, none)
abbrev m_C_putBranch : MethodName × ByteArray × Nat × Option FieldType := (⟨R_C, "putBranch", "(II)V"⟩, prog_2_method_5_code, 3, none)
abbrev m_C_measure : MethodName × ByteArray × Nat × Option FieldType := (⟨R_C, "measure", "(LLayoutOptimizer$Graph;[I)V"⟩, prog_2_method_6_code, 5, none)
abbrev m_C_lengthen : MethodName × ByteArray × Nat × Option FieldType := (⟨R_C, "lengthen", "(LLayoutOptimizer$Graph;I)Z"⟩, prog_2_method_7_code, 7, (some .boolean))
abbrev m_C_lengthenOne : MethodName × ByteArray × Nat × Option FieldType := (⟨R_C, "lengthenOne", "(III)Z"⟩, prog_2_method_8_code, 4, (some .boolean))
abbrev m_L_at : MethodName × ByteArray × Nat × Option FieldType := (⟨R_L, "at", "(I)I"⟩, prog_1_method_9_code, 2, (some .int))
abbrev m_L_address : MethodName × ByteArray × Nat × Option FieldType := (⟨R_L, "address", "(I)I"⟩, prog_1_method_10_code, 2, (some .int))
abbrev m_L_branch : MethodName × ByteArray × Nat × Option FieldType := (⟨R_L, "branch", "(II)I"⟩, prog_1_method_11_code, 3, (some .int))
abbrev m_L_hasBranch : MethodName × ByteArray × Nat × Option FieldType := (⟨R_L, "hasBranch", "(II)Z"⟩, prog_1_method_17_code, 3, (some .boolean))
abbrev m_L_target : MethodName × ByteArray × Nat × Option FieldType := (⟨R_L, "target", "(II)I"⟩, prog_1_method_12_code, 3, (some .int))
abbrev m_L_cost : MethodName × ByteArray × Nat × Option FieldType := (⟨R_L, "cost", "(II)I"⟩, prog_1_method_13_code, 6, (some .int))
abbrev m_C_costOfLeaving : MethodName × ByteArray × Nat × Option FieldType := (⟨R_C, "costOfLeaving", "(IIZ)I"⟩, prog_2_method_9_code, 6, (some .int))
abbrev m_C_longExtra : MethodName × ByteArray × Nat × Option FieldType := (⟨R_C, "longExtra", "(I)I"⟩, prog_2_method_10_code, 2, (some .int))
abbrev m_L_heatOf : MethodName × ByteArray × Nat × Option FieldType := (⟨R_L, "heatOf", "(II)I"⟩, prog_1_method_14_code, 3, (some .int))
abbrev m_L_count : MethodName × ByteArray × Nat × Option FieldType := (⟨R_L, "count", "(I)I"⟩, prog_1_method_15_code, 2, (some .int))
abbrev m_L_countOfLayout : MethodName × ByteArray × Nat × Option FieldType := (⟨R_L, "countOfLayout", "(I)I"⟩, prog_1_method_16_code, 2, (some .int))
abbrev m_W_cell : MethodName × ByteArray × Nat × Option FieldType := (⟨R_W, "cell", "([II)I"⟩, method_2_code, 2, (some .int))
abbrev m_M_init : MethodName × ByteArray × Nat × Option FieldType := (⟨R_M, "<init>", "(I)V"⟩, prog_8_method_1_code, 2, none)
abbrev m_M_block : MethodName × ByteArray × Nat × Option FieldType := (⟨R_M, "block", "(II)I"⟩, prog_8_method_4_code, 3, (some .int))
abbrev m_M_jump : MethodName × ByteArray × Nat × Option FieldType := (⟨R_M, "jump", "(II)I"⟩, prog_8_method_5_code, 3, (some .int))
abbrev m_M_give : MethodName × ByteArray × Nat × Option FieldType := (⟨R_M, "give", "(IIII)I"⟩, prog_8_method_7_code, 5, (some .int))
abbrev m_M_no : MethodName × ByteArray × Nat × Option FieldType := (⟨R_M, "no", "(I)Z"⟩, prog_8_method_2_code, 2, (some .boolean))
abbrev m_M_test : MethodName × ByteArray × Nat × Option FieldType := (⟨R_M, "test", "(III)I"⟩, prog_8_method_6_code, 4, (some .int))
abbrev m_M_walk : MethodName × ByteArray × Nat × Option FieldType := (⟨R_M, "walk", "(II)I"⟩, prog_8_method_10_code, 7, (some .int))
abbrev m_M_entry : MethodName × ByteArray × Nat × Option FieldType := (⟨R_M, "entry", "(I)I"⟩, prog_8_method_3_code, 3, (some .int))
abbrev m_M_warmer : MethodName × ByteArray × Nat × Option FieldType := (⟨R_M, "warmer", "(II)I"⟩, prog_8_method_8_code, 3, (some .int))
abbrev m_M_edge : MethodName × ByteArray × Nat × Option FieldType := (⟨R_M, "edge", "(III)I"⟩, prog_8_method_9_code, 4, (some .int))
abbrev m_M_heat : MethodName × ByteArray × Nat × Option FieldType := (⟨R_M, "heat", "(III)I"⟩, prog_8_method_11_code, 5, (some .int))
abbrev m_M_cool : MethodName × ByteArray × Nat × Option FieldType := (⟨R_M, "cool", "()I"⟩, prog_8_method_12_code, 2, (some .int))
abbrev m_M_layout : MethodName × ByteArray × Nat × Option FieldType := (⟨R_M, "layout", "(I)I"⟩, prog_8_method_26_code, 3, (some .int))
abbrev m_M_makeChains : MethodName × ByteArray × Nat × Option FieldType := (⟨R_M, "makeChains", "(I)V"⟩, prog_8_method_15_code, 3, none)
abbrev m_M_joinOne : MethodName × ByteArray × Nat × Option FieldType := (⟨R_M, "joinOne", "()Z"⟩, prog_8_method_14_code, 8, (some .boolean))
abbrev m_M_size : MethodName × ByteArray × Nat × Option FieldType := (⟨R_M, "size", "(I)I"⟩, prog_8_method_13_code, 4, (some .int))
abbrev m_M_putOrder : MethodName × ByteArray × Nat × Option FieldType := (⟨R_M, "putOrder", "(I)V"⟩, prog_8_method_20_code, 6, none)
abbrev m_M_before : MethodName × ByteArray × Nat × Option FieldType := (⟨R_M, "before", "(II)Z"⟩, prog_8_method_19_code, 11, (some .boolean))
abbrev m_M_head : MethodName × ByteArray × Nat × Option FieldType := (⟨R_M, "head", "(I)I"⟩, prog_8_method_17_code, 3, (some .int))
abbrev m_M_isCold : MethodName × ByteArray × Nat × Option FieldType := (⟨R_M, "isCold", "(I)Z"⟩, prog_8_method_16_code, 3, (some .boolean))
abbrev m_M_sum : MethodName × ByteArray × Nat × Option FieldType := (⟨R_M, "sum", "(IZ)J"⟩, prog_8_method_18_code, 6, (some .long))
abbrev m_M_branchesOf : MethodName × ByteArray × Nat × Option FieldType := (⟨R_M, "branchesOf", "(II)V"⟩, prog_8_method_21_code, 5, none)
abbrev m_M_lengthen : MethodName × ByteArray × Nat × Option FieldType := (⟨R_M, "lengthen", "()Z"⟩, prog_8_method_24_code, 6, (some .boolean))
abbrev m_M_addressOf : MethodName × ByteArray × Nat × Option FieldType := (⟨R_M, "addressOf", "(I)I"⟩, prog_8_method_23_code, 4, (some .int))
abbrev m_M_units : MethodName × ByteArray × Nat × Option FieldType := (⟨R_M, "units", "(I)I"⟩, prog_8_method_22_code, 4, (some .int))
abbrev m_M_total : MethodName × ByteArray × Nat × Option FieldType := (⟨R_M, "total", "()I"⟩, prog_8_method_25_code, 3, (some .int))
abbrev m_M_at : MethodName × ByteArray × Nat × Option FieldType := (⟨R_M, "at", "(I)I"⟩, prog_8_method_27_code, 2, (some .int))
abbrev m_M_address : MethodName × ByteArray × Nat × Option FieldType := (⟨R_M, "address", "(I)I"⟩, prog_8_method_28_code, 2, (some .int))
abbrev m_M_branch : MethodName × ByteArray × Nat × Option FieldType := (⟨R_M, "branch", "(II)I"⟩, prog_8_method_30_code, 3, (some .int))
abbrev m_M_noBranch : MethodName × ByteArray × Nat × Option FieldType := (⟨R_M, "noBranch", "(II)Z"⟩, prog_8_method_29_code, 3, (some .boolean))
abbrev m_M_target : MethodName × ByteArray × Nat × Option FieldType := (⟨R_M, "target", "(II)I"⟩, prog_8_method_31_code, 3, (some .int))
abbrev m_M_cost : MethodName × ByteArray × Nat × Option FieldType := (⟨R_M, "cost", "(II)I"⟩, prog_8_method_33_code, 8, (some .int))
abbrev m_M_leaving : MethodName × ByteArray × Nat × Option FieldType := (⟨R_M, "leaving", "(II)I"⟩, prog_8_method_32_code, 5, (some .int))
abbrev m_M_heatOf : MethodName × ByteArray × Nat × Option FieldType := (⟨R_M, "heatOf", "(II)I"⟩, prog_8_method_34_code, 3, (some .int))
abbrev m_M_count : MethodName × ByteArray × Nat × Option FieldType := (⟨R_M, "count", "(I)I"⟩, prog_8_method_35_code, 6, (some .int))
abbrev m_W_law : MethodName × ByteArray × Nat × Option FieldType := (⟨R_W, "law", "([I)Z"⟩, code, 4, (some .boolean))
